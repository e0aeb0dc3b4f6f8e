section
-- ===== PART A: goes FIRST, ahead of the names: the tables' words, and 'selects' of the private methods out of them =====
/-- a private method of a class that the tables say can be made, by its rows of tables_1 -/
def lw_okq (q : MethodName × Nat) : Prop := (q.1.cls ≠ "java/lang/invoke/MethodHandle" ∧ q.1.cls ≠ "java/lang/invoke/VarHandle") ∧ Cond.instantiable q.1.cls q.2 ∈ tables_1 ∧ Cond.privateMethod q.1 ∈ tables_1 ∧ Cond.instanceMethod q.1 ∈ tables_1
theorem lw_p0 : lw_okq (⟨"java/lang/Throwable", "fillInStackTrace", "(I)Ljava/lang/Throwable;"⟩, 6) := ⟨⟨by decide +kernel, by decide +kernel⟩, List.mem_of_getElem? (i := 106) (by decide +kernel), List.mem_of_getElem? (i := 104) (by decide +kernel), List.mem_of_getElem? (i := 105) (by decide +kernel)⟩
theorem lw_p1 : lw_okq (⟨"LookbackPlan", "buyForAll", "()V"⟩, 5) := ⟨⟨by decide +kernel, by decide +kernel⟩, List.mem_of_getElem? (i := 12) (by decide +kernel), List.mem_of_getElem? (i := 155) (by decide +kernel), List.mem_of_getElem? (i := 156) (by decide +kernel)⟩
theorem lw_p2 : lw_okq (⟨"LookbackPlan$Member", "buyShares", "(III)V"⟩, 14) := ⟨⟨by decide +kernel, by decide +kernel⟩, List.mem_of_getElem? (i := 161) (by decide +kernel), List.mem_of_getElem? (i := 159) (by decide +kernel), List.mem_of_getElem? (i := 160) (by decide +kernel)⟩
theorem lw_p3 : lw_okq (⟨"LookbackPlan$Member", "countedIn", "(I)J"⟩, 14) := ⟨⟨by decide +kernel, by decide +kernel⟩, List.mem_of_getElem? (i := 161) (by decide +kernel), List.mem_of_getElem? (i := 173) (by decide +kernel), List.mem_of_getElem? (i := 174) (by decide +kernel)⟩
theorem lw_p4 : lw_okq (⟨"LookbackPlan$Member", "putLot", "(LLookbackPlan$Lot;)V"⟩, 14) := ⟨⟨by decide +kernel, by decide +kernel⟩, List.mem_of_getElem? (i := 161) (by decide +kernel), List.mem_of_getElem? (i := 212) (by decide +kernel), List.mem_of_getElem? (i := 213) (by decide +kernel)⟩
theorem lw_p5 : lw_okq (⟨"LookbackPlan$Member", "addCounted", "(IJ)V"⟩, 14) := ⟨⟨by decide +kernel, by decide +kernel⟩, List.mem_of_getElem? (i := 161) (by decide +kernel), List.mem_of_getElem? (i := 216) (by decide +kernel), List.mem_of_getElem? (i := 217) (by decide +kernel)⟩
theorem lw_p6 : lw_okq (⟨"LookbackPlan$Member", "renewOffer", "(II)V"⟩, 14) := ⟨⟨by decide +kernel, by decide +kernel⟩, List.mem_of_getElem? (i := 161) (by decide +kernel), List.mem_of_getElem? (i := 220) (by decide +kernel), List.mem_of_getElem? (i := 221) (by decide +kernel)⟩
theorem lw_p7 : lw_okq (⟨"LookbackPlan", "memberOrThrow", "(I)LLookbackPlan$Member;"⟩, 5) := ⟨⟨by decide +kernel, by decide +kernel⟩, List.mem_of_getElem? (i := 12) (by decide +kernel), List.mem_of_getElem? (i := 314) (by decide +kernel), List.mem_of_getElem? (i := 315) (by decide +kernel)⟩
theorem lw_p8 : lw_okq (⟨"LookbackPlan$Member", "takeSlip", "(I)I"⟩, 14) := ⟨⟨by decide +kernel, by decide +kernel⟩, List.mem_of_getElem? (i := 161) (by decide +kernel), List.mem_of_getElem? (i := 344) (by decide +kernel), List.mem_of_getElem? (i := 345) (by decide +kernel)⟩
theorem lw_p9 : lw_okq (⟨"LookbackPlan$Member", "sharesHeld", "()I"⟩, 14) := ⟨⟨by decide +kernel, by decide +kernel⟩, List.mem_of_getElem? (i := 161) (by decide +kernel), List.mem_of_getElem? (i := 354) (by decide +kernel), List.mem_of_getElem? (i := 355) (by decide +kernel)⟩
theorem lw_p10 : lw_okq (⟨"LookbackPlan$Member", "sellOldest", "(III)I"⟩, 14) := ⟨⟨by decide +kernel, by decide +kernel⟩, List.mem_of_getElem? (i := 161) (by decide +kernel), List.mem_of_getElem? (i := 359) (by decide +kernel), List.mem_of_getElem? (i := 360) (by decide +kernel)⟩
theorem lw_p11 : lw_okq (⟨"LookbackPlan$Lot", "payEach", "(II)J"⟩, 7) := ⟨⟨by decide +kernel, by decide +kernel⟩, List.mem_of_getElem? (i := 180) (by decide +kernel), List.mem_of_getElem? (i := 363) (by decide +kernel), List.mem_of_getElem? (i := 364) (by decide +kernel)⟩
theorem lw_p12 : lw_okq (⟨"LookbackPlan$Lot", "isEarly", "(I)Z"⟩, 7) := ⟨⟨by decide +kernel, by decide +kernel⟩, List.mem_of_getElem? (i := 180) (by decide +kernel), List.mem_of_getElem? (i := 367) (by decide +kernel), List.mem_of_getElem? (i := 368) (by decide +kernel)⟩
theorem lw_p13 : lw_okq (⟨"LookbackPlan$Lot", "gainEach", "(II)J"⟩, 7) := ⟨⟨by decide +kernel, by decide +kernel⟩, List.mem_of_getElem? (i := 180) (by decide +kernel), List.mem_of_getElem? (i := 375) (by decide +kernel), List.mem_of_getElem? (i := 376) (by decide +kernel)⟩
theorem lw_p14 : lw_okq (⟨"LookbackPlan$Member", "giveBack", "()J"⟩, 14) := ⟨⟨by decide +kernel, by decide +kernel⟩, List.mem_of_getElem? (i := 161) (by decide +kernel), List.mem_of_getElem? (i := 388) (by decide +kernel), List.mem_of_getElem? (i := 389) (by decide +kernel)⟩
theorem lw_p15 : lw_okq (⟨"LookbackPlan$Member", "lotOf", "(I)LLookbackPlan$Lot;"⟩, 14) := ⟨⟨by decide +kernel, by decide +kernel⟩, List.mem_of_getElem? (i := 161) (by decide +kernel), List.mem_of_getElem? (i := 439) (by decide +kernel), List.mem_of_getElem? (i := 440) (by decide +kernel)⟩
def lw_privs_1 : List (MethodName × Nat) := [(⟨"java/lang/Throwable", "fillInStackTrace", "(I)Ljava/lang/Throwable;"⟩, 6), (⟨"LookbackPlan", "buyForAll", "()V"⟩, 5), (⟨"LookbackPlan$Member", "buyShares", "(III)V"⟩, 14), (⟨"LookbackPlan$Member", "countedIn", "(I)J"⟩, 14), (⟨"LookbackPlan$Member", "putLot", "(LLookbackPlan$Lot;)V"⟩, 14), (⟨"LookbackPlan$Member", "addCounted", "(IJ)V"⟩, 14), (⟨"LookbackPlan$Member", "renewOffer", "(II)V"⟩, 14), (⟨"LookbackPlan", "memberOrThrow", "(I)LLookbackPlan$Member;"⟩, 5), (⟨"LookbackPlan$Member", "takeSlip", "(I)I"⟩, 14), (⟨"LookbackPlan$Member", "sharesHeld", "()I"⟩, 14), (⟨"LookbackPlan$Member", "sellOldest", "(III)I"⟩, 14), (⟨"LookbackPlan$Lot", "payEach", "(II)J"⟩, 7), (⟨"LookbackPlan$Lot", "isEarly", "(I)Z"⟩, 7), (⟨"LookbackPlan$Lot", "gainEach", "(II)J"⟩, 7), (⟨"LookbackPlan$Member", "giveBack", "()J"⟩, 14), (⟨"LookbackPlan$Member", "lotOf", "(I)LLookbackPlan$Lot;"⟩, 14)]
theorem lw_r1 : ∀ q ∈ lw_privs_1, lw_okq q := List.forall_mem_cons.mpr ⟨lw_p0, List.forall_mem_cons.mpr ⟨lw_p1, List.forall_mem_cons.mpr ⟨lw_p2, List.forall_mem_cons.mpr ⟨lw_p3, List.forall_mem_cons.mpr ⟨lw_p4, List.forall_mem_cons.mpr ⟨lw_p5, List.forall_mem_cons.mpr ⟨lw_p6, List.forall_mem_cons.mpr ⟨lw_p7, List.forall_mem_cons.mpr ⟨lw_p8, List.forall_mem_cons.mpr ⟨lw_p9, List.forall_mem_cons.mpr ⟨lw_p10, List.forall_mem_cons.mpr ⟨lw_p11, List.forall_mem_cons.mpr ⟨lw_p12, List.forall_mem_cons.mpr ⟨lw_p13, List.forall_mem_cons.mpr ⟨lw_p14, List.forall_mem_cons.mpr ⟨lw_p15, fun _ h => absurd h List.not_mem_nil⟩⟩⟩⟩⟩⟩⟩⟩⟩⟩⟩⟩⟩⟩⟩⟩
theorem lw_p16 : lw_okq (⟨"LookbackPlan$Member", "gainIfAllSold", "(II)J"⟩, 14) := ⟨⟨by decide +kernel, by decide +kernel⟩, List.mem_of_getElem? (i := 161) (by decide +kernel), List.mem_of_getElem? (i := 477) (by decide +kernel), List.mem_of_getElem? (i := 478) (by decide +kernel)⟩
def lw_privs_2 : List (MethodName × Nat) := [(⟨"LookbackPlan$Member", "gainIfAllSold", "(II)J"⟩, 14)]
theorem lw_r2 : ∀ q ∈ lw_privs_2, lw_okq q := List.forall_mem_cons.mpr ⟨lw_p16, fun _ h => absurd h List.not_mem_nil⟩
def lw_privs : List (MethodName × Nat) := lw_privs_1 ++ (lw_privs_2)
def lw_tbl : List Cond := k2_sels lw_privs ++ tables_1
theorem lw_privs_ok : ∀ q ∈ lw_privs, lw_okq q := by
  show ∀ q ∈ lw_privs_1 ++ (lw_privs_2), lw_okq q
  exact List.forall_mem_append.mpr ⟨lw_r1, lw_r2⟩
end
section
/-! ===== BEGIN words of one list among another's, by their places ===== -/
theorem goodIn_r {big : List Cond} (ws : List Cond) (ps : List Nat) (hp : ws = ps.filterMap (fun i => big[i]?)) (h : ws.all goodWord = true) : GoodIn big ws := by
  intro w hw
  have h1 := List.all_eq_true.mp h w hw
  rw [hp] at hw
  obtain ⟨i, -, hi⟩ := List.mem_filterMap.mp hw
  have hm : w ∈ big := by first | exact List.mem_of_getElem? hi | exact List.getElem?_mem hi
  exact ⟨hm, good_of_word h1⟩
theorem goodIn_app {big a b : List Cond} (ha : GoodIn big a) (hb : GoodIn big b) : GoodIn big (a ++ b) := fun w h => (List.mem_append.mp h).elim (ha w) (hb w)
theorem goodIn_ca {big a b : List Cond} {c : Cond} (ha : GoodIn big (c :: a)) (hb : GoodIn big b) : GoodIn big (c :: (a ++ b)) := fun w h => (List.mem_cons.mp h).elim (fun e => ha w (List.mem_cons.mpr (Or.inl e))) (fun h => (List.mem_append.mp h).elim (fun h => ha w (List.mem_cons.mpr (Or.inr h))) (hb w))
theorem goodIn_sub {big ws : List Cond} (hm : ∀ w ∈ ws, w ∈ big) (h : ws.all goodWord = true) : GoodIn big ws := fun w hw => ⟨hm w hw, good_of_word (List.all_eq_true.mp h w hw)⟩
/-! ===== END ===== -/

/-! ===== BEGIN exceptions that leave a method, and their catching by the caller (launches without stack traces) ===== -/
section VXA
/-! The laws vx_back, vx_callV, vx_callS, vx_callSW, vx_throw0, vx_throwS follow proofs of the library, with one case more: JvmDerived/Free/Laws.lean (Back.of_free), Shelf42/LK1.lean (callV, callS), Shelf/KitTraced.lean (throwNew0V, throwNewS). -/
/-- where a method has thrown q: the class by its name, the cell, what was written, the world -/
def vx_T (XC : String → State → State → Prop) (st : State) (q : Addr) (t : State) (mc ms : Nat) (free : Addr → Prop) : Prop :=
  ∃ (E : String) (ce : Cell) (L : List Loc), XC E st t ∧ t.heap[q]? = some ce ∧ ce.vm = .none ∧ st.vm.findClass E = some ce.cls ∧ st.WarmedH t.vm ∧ st.sameButNew ({ t with vm := st.vm } : State) L mc ms ∧ ∀ z ∈ L, free z.base
def vx_Q (Qc : Array Value → State → Outcome → State → Prop) (XC : String → State → State → Prop) (mc ms : Nat) (free : Addr → Prop) : Array Value → State → Outcome → State → Prop := fun a st o t =>
  (Qc a st o t ∧ ∃ L, FrameEnd st o t L mc ms ∧ ∀ q ∈ L, free q.base) ∨ ∃ q, o = .threw q ∧ vx_T XC st q t mc ms free
/-- a callee that returns or throws -/
def vx_Met (l : Launch) (y : MethodName) (ws : List Cond) (rm : Room) (Pc : Array Value → State → Prop) (Qc : Array Value → State → Outcome → State → Prop) (XC : String → State → State → Prop) (mc ms : Nat) (free : Addr → Prop) : Prop :=
  MetFree l y (headSpec ws rm) Pc (fun _ _ _ _ _ => True) (vx_Q Qc XC mc ms free)
def vx_Post (XC : String → State → State → Prop) (mc ms : Nat) (free : Addr → Prop) : Pt → Array Value → Addr → Pt → Prop := fun A a q B =>
  ∃ (g : JFrame) (mk : MethodId) (t : State) (L : List Loc) (E : String) (ce : Cell), B.U.heap = t.heap ∧ B.U.vm = t.vm ∧ XC E (A.U.calling g mk a) t ∧ t.heap[q]? = some ce ∧ ce.vm = .none ∧ A.U.vm.findClass E = some ce.cls ∧ B.locs = A.locs ++ L ∧ (∀ z ∈ L, free z.base) ∧ B.cells = A.cells + mc ∧ B.slots = A.slots + ms
def vx_Back (l : Launch) (R : Room) (p : Program) (e : Env) (below : List Frame) (s : State) (sargs : Array Value) (y : MethodName) (len W9 : Nat)
    (Pre : Pt → Array Value → Prop) (Post : Pt → Array Value → Option Value → Pt → Prop) (PostX : Pt → Array Value → Addr → Pt → Prop) : Prop :=
  ∀ (m : MethodId) (meth : Method) (c : Code) (A : Pt) (g : JFrame) (ig : Instr) (mk : MethodId) (a : Array Value),
    Stand p l e R s m sargs below meth c A.U A.locs A.cells A.slots → g.method = m → g.locals.size = c.maxLocals → decode c.code g.pc = .ok (ig, len) →
    2 * g.monitorRoom + (g.stack.map fun v => v.category).sum ≤ W9 → A.U.methodNamed? y = some mk → Pre A a →
    (∃ (v : Option Value) (B : Pt), Stand p l e R s m sargs below meth c B.U B.locs B.cells B.slots ∧ Post A a v B ∧
      Steps p.tables e below (doInvoke e (A.U.setTop g) [] mk a).1 (B.U.setTop { g with pc := g.pc + len, stack := v.toList ++ g.stack })) ∨
    (∃ (q : Addr) (B : Pt), Stand p l e R s m sargs below meth c B.U B.locs B.cells B.slots ∧ PostX A a q B ∧
      Steps p.tables e below (doInvoke e (A.U.setTop g) [] mk a).1 ((B.U.setTop g).pushFrame (.throwing q)))
section Payer
variable {l : Launch} {R : Room} {p : Program} {e : Env} {below : List Frame} {s : State} {sargs : Array Value} {y : MethodName} {len W9 : Nat}
theorem vx_back {ws : List Cond} {rm : Room} {Pc : Array Value → State → Prop} {Qc : Array Value → State → Outcome → State → Prop} {XC : String → State → State → Prop} {mc ms : Nat} {free : Addr → Prop} {bytes : ByteArray} {maxL : Nat} {ret : Option FieldType}
    (hM : vx_Met l y ws rm Pc Qc XC mc ms free) (hblind : FrameBlind Pc) (hrc : rm.cells = mc) (hrs : rm.slots = ms)
    (hframes : rm.frames + 1 ≤ R.frames) (hlocals : W9 + (maxL + 11) + rm.locals ≤ R.locals)
    (hws : ∀ w ∈ ws, ∀ a' U, s.WarmedH U.vm → w.before a' U = true) (hcode : Cond.code y bytes maxL ret ∈ ws) (hinit : ∀ a' U, s.WarmedH U.vm → (Cond.initialized y.cls).before a' U = true) :
    vx_Back l R p e below s sargs y len W9 (PreOf R mc ms Pc) (PostOf Qc mc ms free) (vx_Post XC mc ms free) := by
  intro m meth c A g ig mk a X hg hsize hdg hW hn hp
  have h1 : (headSpec ws rm).pre.before a A.U = true := atoms_intro fun w hw => hws w hw _ _ X.warmed
  have h2 : (Cond.code y bytes maxL ret).before a A.U = true := hws _ hcode _ _ X.warmed
  have h3 : (Cond.initialized y.cls).before a A.U = true := hinit _ _ X.warmed
  have h4 : A.cells + (headSpec ws rm).room.cells ≤ R.cells := by rw [show (headSpec ws rm).room.cells = mc from hrc]; exact hp.1
  have h5 : A.slots + (headSpec ws rm).room.slots ≤ R.slots := by rw [show (headSpec ws rm).room.slots = ms from hrs]; exact hp.2.1
  have hPc : Pc a (A.U.calling g mk a) := hblind _ _ _ _ hp.2.2
  obtain ⟨U, Ls, c0, s0⟩ := A
  dsimp only [Pt.U, Pt.locs, Pt.cells, Pt.slots] at h1 h2 h3 h4 h5 X hn hPc ⊢
  obtain ⟨methY, cY, hmY, hcY, -, hlY, -, -, -, -⟩ := Cond.code_spec hn h2
  obtain ⟨kY, hkY, -⟩ := className_of_methodNamed hn
  have hinitY : kY.init = .initialized := Cond.initialized_spec (findClass_of_methodNamed hn) hkY h3
  have h : At U g.method c below := by rw [hg]; exact X.here
  have hlocals9 : W9 + (maxL + 11) + (headSpec ws rm).room.locals ≤ R.locals := hlocals
  have happ : (headSpec ws rm).appliesLoose y e.platform (U.calling g mk a) = true :=
    Spec.appliesLoose_calling (g := g) h hdg hn hkY hinitY
      (X.room_calling (g := g) (R' := (headSpec ws rm).room) hsize hmY hcY hframes (by rw [hlY]; omega) h4 h5) h1
  obtain ⟨mid, hmid⟩ := h.above
  have hfr : (U.setTop g).frames = (.java g :: mid) ++ below := by rw [State.frames_setTop' g h.top, hmid]; rfl
  obtain ⟨o, s₂, hsteps, -, hend, hq⟩ := Steps.callFree hM p X.admits X.cas X.clock (acts := []) hfr happ hPc trivial
  have hq' : vx_Q Qc XC mc ms free a (U.calling g mk a) o s₂ := hq
  rw [State.frames_setTop' g h.top] at hend
  obtain ⟨g₀, hg0⟩ := Option.isSome_iff_exists.mp h.top
  obtain ⟨r, hr⟩ := State.topJava?_eq_some.mp hg0
  have hr' : (({ U with heap := s₂.heap, slotsUsed := s₂.slotsUsed } : State).setVm s₂.vm).frames = .java g₀ :: r := hr
  rcases hq' with ⟨hqc, L, hfe, hL⟩ | ⟨q, rfl, E, ce, L, hx, hce, hcv, hcl, hW₂, hsm, hL⟩
  · obtain ⟨⟨v, rfl⟩, hW₂, e2, q2, q3, q4, q5, q6⟩ := id hfe
    have e3 : s₂ = ({ (U.calling g mk a).setFrames s₂.frames with heap := s₂.heap, slotsUsed := s₂.slotsUsed } : State).setVm s₂.vm := by
      have : s₂ = ({ s₂ with vm := (U.calling g mk a).vm } : State).setVm s₂.vm := rfl
      rw [e2] at this
      exact this
    obtain ⟨c₂, i₂, len₂, hc₂, hd₂, hf₂⟩ := hend
    have hW' : U.WarmedH s₂.vm := hW₂
    have hcc : c₂ = c := by
      have h1 : s₂.code? g.method = U.code? g.method := by
        rw [State.code?_eq, State.code?_eq, hW'.alike.method?]
      exact Option.some.inj (hc₂.symm.trans (h1.trans h.code))
    subst hcc
    have hlen : len₂ = len := by rw [hdg] at hd₂; cases hd₂; rfl
    subst hlen
    have hs₂ : s₂ = (({ U with heap := s₂.heap, slotsUsed := s₂.slotsUsed } : State).setVm s₂.vm).setTop { g with pc := g.pc + len₂, stack := v.toList ++ g.stack } := by
      refine e3.trans ?_
      rw [hf₂, State.calling_eq h.top, State.setFrames_setFrames, State.setTop_of_frames _ hr', hr]
      rfl
    have hsame : U.sameButNew ({ U with heap := s₂.heap, slotsUsed := s₂.slotsUsed } : State) L mc ms := by
      refine ⟨?_, q2, q3, q4, q5, q6⟩
      obtain ⟨t, ht, -⟩ := State.frames_cons hr
      show ({ U with heap := s₂.heap, slotsUsed := s₂.slotsUsed } : State) = { U.setFrames U.frames with heap := s₂.heap, slotsUsed := s₂.slotsUsed }
      rw [State.setFrames_self ht]
    subst hg
    refine Or.inl ⟨v, ⟨(({ U with heap := s₂.heap, slotsUsed := s₂.slotsUsed } : State).setVm s₂.vm), Ls ++ L, c0 + mc, s0 + ms⟩,
      ⟨X.admits, X.cas, X.clock, X.frames, X.room, X.hears, X.method, X.code, (X.here.setHeapUsed s₂.heap s₂.slotsUsed).setVm hW'.alike, X.tail, State.WarmedH.trans X.warmed hW', X.limits, X.bytes, X.same.trans (hsame.setVm s.vm)⟩,
      ⟨g, mk, s₂, L, rfl, rfl, hqc, rfl, hL, rfl, rfl⟩, ?_⟩
    show Steps p.tables e below _ ((({ U with heap := s₂.heap, slotsUsed := s₂.slotsUsed } : State).setVm s₂.vm).setTop { g with pc := g.pc + len₂, stack := v.toList ++ g.stack })
    rw [← hs₂]
    exact hsteps
  · obtain ⟨e2, q2, q3, q4, q5, q6⟩ := id hsm
    have e3 : s₂ = ({ (U.calling g mk a).setFrames s₂.frames with heap := s₂.heap, slotsUsed := s₂.slotsUsed } : State).setVm s₂.vm := by
      have : s₂ = ({ s₂ with vm := (U.calling g mk a).vm } : State).setVm s₂.vm := rfl
      rw [e2] at this
      exact this
    have hf₂ : s₂.frames = .throwing q :: .java g :: U.frames.tail := hend
    have hW' : U.WarmedH s₂.vm := hW₂
    have hs₂ : s₂ = ((({ U with heap := s₂.heap, slotsUsed := s₂.slotsUsed } : State).setVm s₂.vm).setTop g).pushFrame (.throwing q) := by
      refine e3.trans ?_
      rw [hf₂, State.calling_eq h.top, State.setFrames_setFrames, State.pushFrame, State.frames_setTop _ hr', State.setTop_of_frames _ hr', State.setFrames_setFrames, hr]
      rfl
    have hsame : U.sameButNew ({ U with heap := s₂.heap, slotsUsed := s₂.slotsUsed } : State) L mc ms := by
      refine ⟨?_, q2, q3, q4, q5, q6⟩
      obtain ⟨t, ht, -⟩ := State.frames_cons hr
      show ({ U with heap := s₂.heap, slotsUsed := s₂.slotsUsed } : State) = { U.setFrames U.frames with heap := s₂.heap, slotsUsed := s₂.slotsUsed }
      rw [State.setFrames_self ht]
    subst hg
    refine Or.inr ⟨q, ⟨(({ U with heap := s₂.heap, slotsUsed := s₂.slotsUsed } : State).setVm s₂.vm), Ls ++ L, c0 + mc, s0 + ms⟩,
      ⟨X.admits, X.cas, X.clock, X.frames, X.room, X.hears, X.method, X.code, (X.here.setHeapUsed s₂.heap s₂.slotsUsed).setVm hW'.alike, X.tail, State.WarmedH.trans X.warmed hW', X.limits, X.bytes, X.same.trans (hsame.setVm s.vm)⟩,
      ⟨g, mk, s₂, L, E, ce, rfl, rfl, hx, hce, hcv, hcl, rfl, hL, rfl, rfl⟩, ?_⟩
    show Steps p.tables e below _ (((({ U with heap := s₂.heap, slotsUsed := s₂.slotsUsed } : State).setVm s₂.vm).setTop g).pushFrame (.throwing q))
    rw [← hs₂]
    exact hsteps
end Payer
section Calls
variable {p : Program} {l : Launch} {e : Env} {R : Room} {s : State} {m : MethodId} {args : Array Value} {below : List Frame} {meth : Method} {c : Code} {T : State} {locs : List Loc} {cells slots : Nat}
theorem vx_callV (X : Stand p l e R s m args below meth c T locs cells slots) (hexec : p.tables.exec = Jvm.exec) {own C : String} {index : Nat} {y : MethodName} {bytes : ByteArray} {maxL : Nat} {ret : Option FieldType}
    (hown : s.vm.findClass own = some m.cls) (hlink : (Cond.methodLink own index y).before args s = true) (hinst : (Cond.instanceMethod y).before args s = true) (hsel : (Cond.selects C y y).before args s = true)
    (hcode : (Cond.code y bytes maxL ret).before args s = true) (hy : y.cls ≠ "java/lang/invoke/MethodHandle" ∧ y.cls ≠ "java/lang/invoke/VarHandle")
    {W9 : Nat} {Pre : Pt → Array Value → Prop} {Post : Pt → Array Value → Option Value → Pt → Prop} {PostX : Pt → Array Value → Addr → Pt → Prop} (hK : vx_Back l R p e below s args y 3 W9 Pre Post PostX)
    {b : Addr} {cellB : Cell} (hcell : T.heap[b]? = some cellB) (hobj : cellB.vm.isStatics = false) (hcls : s.vm.findClass C = some cellB.cls)
    {g : JFrame} (hg : g.method = m) (hsize : g.locals.size = c.maxLocals) {argsL rest : List Value} (hlen : ∀ sig, parseMethodDescriptor y.desc = some sig → argsL.length = sig.parameters.length)
    (hstack : g.stack = argsL.reverse ++ .ref b :: rest) (hW : 2 * g.monitorRoom + (rest.map fun v => v.category).sum ≤ W9) (hdg : decode c.code g.pc = .ok (.invokevirtual index, 3))
    (hpre : ∀ vm₁, s.WarmedH vm₁ → Pre ⟨T.setVm vm₁, locs, cells, slots⟩ (Value.ref b :: argsL).toArray) :
    (∃ (v : Option Value) (vm₁ : Vm) (B : Pt), s.WarmedH vm₁ ∧ Stand p l e R s m args below meth c B.U B.locs B.cells B.slots ∧ Post ⟨T.setVm vm₁, locs, cells, slots⟩ (Value.ref b :: argsL).toArray v B ∧
      ∀ target, Steps p.tables e below (B.U.setTop { g with pc := g.pc + 3, stack := v.toList ++ rest }) target → Steps p.tables e below (T.setTop g) target) ∨
    (∃ (q : Addr) (vm₁ : Vm) (B : Pt), s.WarmedH vm₁ ∧ Stand p l e R s m args below meth c B.U B.locs B.cells B.slots ∧ PostX ⟨T.setVm vm₁, locs, cells, slots⟩ (Value.ref b :: argsL).toArray q B ∧
      Steps p.tables e below (T.setTop g) ((B.U.setTop { g with stack := rest }).pushFrame (.throwing q))) := by
  obtain ⟨mk, methM, hnamed, hmethM, hstM, habM⟩ := Cond.instanceMethod_spec hinst
  obtain ⟨methM', cM, hmethM', -, -, -, -, -, -, hsigM⟩ := Cond.code_spec hnamed hcode
  cases hmethM.symm.trans hmethM'
  obtain ⟨c2, r2, m2, q1, q2, q3, q4, kP, hkP, hkPi⟩ := Cond.selects_spec hsel
  cases hcls.symm.trans q1
  cases (State.methodFound?_of_named hnamed hy).symm.trans q2
  cases hnamed.symm.trans q3
  have hselP : selectMethod e.platform s.vm cellB.cls mk = .method mk := by rw [Launch.admits_selectMethod X.admits]; exact q4
  obtain ⟨vm₁, X₁, hstep₁⟩ := X.invokevirtual hexec hown hlink hnamed hmethM hstM hkP hkPi hy (a := b) (cell := cellB) hcell
    (fun z h => by rw [h] at hobj; cases hobj) hselP hmethM habM hkP hkPi (g := g) hg (argsL := argsL) (rest := rest) (hlen _ hsigM) hstack hdg
  rcases hK m meth c ⟨T.setVm vm₁, locs, cells, slots⟩ { g with stack := rest } (.invokevirtual index) mk (Value.ref b :: argsL).toArray X₁ hg hsize hdg hW (X₁.named hnamed) (hpre vm₁ X₁.warmed) with ⟨v, B, X', hpost, hsteps⟩ | ⟨q, B, X', hpost, hsteps⟩
  · exact Or.inl ⟨v, vm₁, B, X₁.warmed, X', hpost, fun target h => hstep₁ _ fun acts => by rw [doInvoke_state]; exact hsteps.trans h⟩
  · exact Or.inr ⟨q, vm₁, B, X₁.warmed, X', hpost, hstep₁ _ fun acts => by rw [doInvoke_state]; exact hsteps⟩
theorem vx_callS (X : Stand p l e R s m args below meth c T locs cells slots) (hexec : p.tables.exec = Jvm.exec) {own : String} {index : Nat} {y : MethodName} {bytes : ByteArray} {maxL : Nat} {ret : Option FieldType}
    (hown : s.vm.findClass own = some m.cls) (hlink : (Cond.methodLink own index y).before args s = true) (hstat : (Cond.static y).before args s = true) (hinit : (Cond.initialized y.cls).before args s = true)
    (hcode : (Cond.code y bytes maxL ret).before args s = true) (hy : y.cls ≠ "java/lang/invoke/MethodHandle" ∧ y.cls ≠ "java/lang/invoke/VarHandle")
    {W9 : Nat} {Pre : Pt → Array Value → Prop} {Post : Pt → Array Value → Option Value → Pt → Prop} {PostX : Pt → Array Value → Addr → Pt → Prop} (hK : vx_Back l R p e below s args y 3 W9 Pre Post PostX)
    {g : JFrame} (hg : g.method = m) (hsize : g.locals.size = c.maxLocals) {argsL rest : List Value} (hlen : ∀ sig, parseMethodDescriptor y.desc = some sig → argsL.length = sig.parameters.length)
    (hstack : g.stack = argsL.reverse ++ rest) (hW : 2 * g.monitorRoom + (rest.map fun v => v.category).sum ≤ W9) (hdg : decode c.code g.pc = .ok (.invokestatic index, 3))
    (hpre : ∀ vm₁, s.WarmedH vm₁ → Pre ⟨T.setVm vm₁, locs, cells, slots⟩ argsL.toArray) :
    (∃ (v : Option Value) (vm₁ : Vm) (B : Pt), s.WarmedH vm₁ ∧ Stand p l e R s m args below meth c B.U B.locs B.cells B.slots ∧ Post ⟨T.setVm vm₁, locs, cells, slots⟩ argsL.toArray v B ∧
      ∀ target, Steps p.tables e below (B.U.setTop { g with pc := g.pc + 3, stack := v.toList ++ rest }) target → Steps p.tables e below (T.setTop g) target) ∨
    (∃ (q : Addr) (vm₁ : Vm) (B : Pt), s.WarmedH vm₁ ∧ Stand p l e R s m args below meth c B.U B.locs B.cells B.slots ∧ PostX ⟨T.setVm vm₁, locs, cells, slots⟩ argsL.toArray q B ∧
      Steps p.tables e below (T.setTop g) ((B.U.setTop { g with stack := rest }).pushFrame (.throwing q))) := by
  obtain ⟨mk, hnamed⟩ := Cond.code_named hcode
  obtain ⟨methM, cM, hmethM, -, -, -, -, -, -, hsigM⟩ := Cond.code_spec hnamed hcode
  have hstatic : methM.isStatic = true := Cond.static_spec hnamed hmethM hstat
  obtain ⟨kP, hkP, -⟩ := className_of_methodNamed hnamed
  have hinitP : kP.init = .initialized := Cond.initialized_spec (findClass_of_methodNamed hnamed) hkP hinit
  obtain ⟨vm₁, X₁, hstep₁⟩ := X.invokestatic hexec hown hlink hnamed hmethM hstatic hkP hinitP hy (g := g) hg (argsL := argsL) (rest := rest) (hlen _ hsigM) hstack hdg
  rcases hK m meth c ⟨T.setVm vm₁, locs, cells, slots⟩ { g with stack := rest } (.invokestatic index) mk argsL.toArray X₁ hg hsize hdg hW (X₁.named hnamed) (hpre vm₁ X₁.warmed) with ⟨v, B, X', hpost, hsteps⟩ | ⟨q, B, X', hpost, hsteps⟩
  · exact Or.inl ⟨v, vm₁, B, X₁.warmed, X', hpost, fun target h => hstep₁ _ fun acts => by rw [doInvoke_state]; exact hsteps.trans h⟩
  · exact Or.inr ⟨q, vm₁, B, X₁.warmed, X', hpost, hstep₁ _ fun acts => by rw [doInvoke_state]; exact hsteps⟩
end Calls
theorem vx_cls {s : State} {T : State} {vm₁ : Vm} {E : String} {k : ClassId} (hW : s.WarmedH vm₁) (h : (T.setVm vm₁).vm.findClass E = some k) : s.vm.findClass E = some k := by
  have h1 : vm₁.findClass E = some k := h
  rw [hW.alike.findClass] at h1
  exact h1
/-- the method's frame g, with q thrown over it -/
def vx_W (p : Program) (l : Launch) (e : Env) (R : Room) (s : State) (m : MethodId) (args : Array Value) (below : List Frame) (meth : Method) (c : Code) (H : Heap) (locs : List Loc) (cells slots : Nat) (Q : State → Prop) (g : JFrame) (q : Addr) : Prop :=
  ∀ T : State, T.heap = H → Stand p l e R s m args below meth c T locs cells slots → ∃ t, Steps p.tables e below ((T.setTop g).pushFrame (.throwing q)) t ∧ Q t
def vx_Run (p : Program) (l : Launch) (e : Env) (R : Room) (s : State) (m : MethodId) (args : Array Value) (below : List Frame) (meth : Method) (c : Code) (H : Heap) (locs : List Loc) (cells slots mc ms : Nat) (g : JFrame) (rest : List Value) (Qa : State → Outcome → State → Prop) (XC : String → State → State → Prop) (free : Addr → Prop) : Prop :=
  ∀ T : State, T.heap = H → Stand p l e R s m args below meth c T locs cells slots →
    (∃ (v : Option Value) (st₀ t T' : State) (L : List Loc), st₀.heap = H ∧ Stand p l e R s m args below meth c T' (locs ++ L) (cells + mc) (slots + ms) ∧ (∀ q ∈ L, free q.base) ∧ T'.heap = t.heap ∧ T'.vm = t.vm ∧ Qa st₀ (.returned v) t ∧
      Goes p e below T g T' { g with pc := g.pc + 3, stack := v.toList ++ rest }) ∨
    (∃ (q : Addr) (st₀ t T' : State) (L : List Loc) (E : String) (ce : Cell), st₀.heap = H ∧ Stand p l e R s m args below meth c T' (locs ++ L) (cells + mc) (slots + ms) ∧ (∀ z ∈ L, free z.base) ∧ T'.heap = t.heap ∧ T'.vm = t.vm ∧ XC E st₀ t ∧ t.heap[q]? = some ce ∧ ce.vm = .none ∧ s.vm.findClass E = some ce.cls ∧
      Steps p.tables e below (T.setTop g) ((T'.setTop { g with stack := rest }).pushFrame (.throwing q)))
def vx_X {S : Type} (px : S → Prop) (B : String → S → State → Prop) (A : Nat → Prop) : String → State → State → Prop := fun E st t => ∃ u : S, px u ∧ B E u t ∧ va_F A st t
section Runs
variable {p : Program} {l : Launch} {e : Env} {R : Room} {s : State} {m : MethodId} {args : Array Value} {below : List Frame} {meth : Method} {c : Code} {H : Heap} {locs : List Loc} {cells slots : Nat}
variable {y : MethodName} {bytes cc : ByteArray} {maxL nL mc ms n index : Nat} {ret : Option FieldType} {ws : List Cond} {rm : Room} {Pc : Array Value → State → Prop} {Qc : Array Value → State → Outcome → State → Prop} {XC : String → State → State → Prop} {free : Addr → Prop} {Ts : List Cond} {own C : String} {b : Addr} {As rest : List Value} {g : JFrame}
theorem vx_callBack (cb : CallB R s args own index y bytes maxL ret ws rm mc ms n) (hM : vx_Met l y ws rm Pc Qc XC mc ms free) (hbl : FrameBlind Pc) : vx_Back l R p e below s args y 3 8 (PreOf R mc ms Pc) (PostOf Qc mc ms free) (vx_Post XC mc ms free) := by
  obtain ⟨hrc, hrs, hfr, hlo, hws, hcw, -, hini, -⟩ := cb
  exact vx_back (bytes := bytes) (maxL := maxL) (ret := ret) hM hbl hrc hrs hfr hlo hws hcw (fun a' U hW => word_at hW (Or.inl (by first | rfl | simp [Cond.onTables, Cond.keeps, Cond.steady])) hini)
theorem vx_runV (S : CallFix p m c cc nL s args Ts own) (hM : vx_Met l y ws rm Pc Qc XC mc ms free) (cw : CallW R s args own C index y bytes maxL ret ws rm mc ms n) (hp : PreV s H C b Pc As)
    (hg : g.method = m) (hn : As.length = n) (hsize : g.locals.size = nL) (hstack : g.stack = As.reverse ++ .ref b :: rest) (hW : 2 * g.monitorRoom + (rest.map fun v => v.category).sum ≤ 8) (hdg : decode cc g.pc = .ok (.invokevirtual index, 3)) (hf : cells + mc ≤ R.cells ∧ slots + ms ≤ R.slots) :
    vx_Run p l e R s m args below meth c H locs cells slots mc ms g rest (Qc (Value.ref b :: As).toArray) XC free := by
  have hK : vx_Back l R p e below s args y 3 8 (PreOf R mc ms Pc) (PostOf Qc mc ms free) (vx_Post XC mc ms free) := vx_callBack cw.1 hM hp.1
  obtain ⟨⟨-, -, -, -, -, -, hcode, -, hy, hlen, hl⟩, hin, hse⟩ := cw
  obtain ⟨hx, hb, hml, ho, -⟩ := S
  obtain ⟨-, ⟨cellB, hcB, hoB, hclB⟩, hPc⟩ := hp
  intro T hT X
  rcases vx_callV X hx (C := C) (bytes := bytes) (maxL := maxL) (ret := ret) ho hl hin hse hcode hy hK (by rw [hT]; exact hcB) hoB hclB hg (hsize.trans hml.symm) (argsL := As) (rest := rest) (fun sig h => hn.trans (hlen sig h)) hstack hW (by rw [hb]; exact hdg)
    (fun vm₁ hW₁ => ⟨hf.1, hf.2, hPc (T.setVm vm₁) hT hW₁⟩) with ⟨v, vm₁, ⟨U', l2, c2, s2⟩, hW₁, X', ⟨g', mk, t, L, e1, e2, hq, h1, hL, h2, h3⟩, st⟩ | ⟨q, vm₁, ⟨U', l2, c2, s2⟩, hW₁, X', ⟨g', mk, t, L, E, ce, e1, e2, hq, hce, hcv, hcl, h1, hL, h2, h3⟩, st⟩
  · dsimp only [Pt.U, Pt.locs, Pt.cells, Pt.slots] at X' e1 e2 h1 h2 h3 st
    subst h1; subst h2; subst h3
    exact Or.inl ⟨v, (T.setVm vm₁).calling g' mk (Value.ref b :: As).toArray, t, U', L, hT, X', hL, e1, e2, hq, st⟩
  · dsimp only [Pt.U, Pt.locs, Pt.cells, Pt.slots] at X' e1 e2 h1 h2 h3 st hcl
    subst h1; subst h2; subst h3
    exact Or.inr ⟨q, (T.setVm vm₁).calling g' mk (Value.ref b :: As).toArray, t, U', L, E, ce, hT, X', hL, e1, e2, hq, hce, hcv, vx_cls hW₁ hcl, st⟩
theorem vx_runS (S : CallFix p m c cc nL s args Ts own) (hM : vx_Met l y ws rm Pc Qc XC mc ms free) (cw : CallB R s args own index y bytes maxL ret ws rm mc ms n ∧ (Cond.static y).before args s = true) (hp : PreS s H Pc As)
    (hg : g.method = m) (hn : As.length = n) (hsize : g.locals.size = nL) (hstack : g.stack = As.reverse ++ rest) (hW : 2 * g.monitorRoom + (rest.map fun v => v.category).sum ≤ 8) (hdg : decode cc g.pc = .ok (.invokestatic index, 3)) (hf : cells + mc ≤ R.cells ∧ slots + ms ≤ R.slots) :
    vx_Run p l e R s m args below meth c H locs cells slots mc ms g rest (Qc As.toArray) XC free := by
  have hK : vx_Back l R p e below s args y 3 8 (PreOf R mc ms Pc) (PostOf Qc mc ms free) (vx_Post XC mc ms free) := vx_callBack cw.1 hM hp.1
  obtain ⟨⟨-, -, -, -, -, -, hcode, hini, hy, hlen, hl⟩, hstt⟩ := cw
  obtain ⟨hx, hb, hml, ho, -⟩ := S
  intro T hT X
  rcases vx_callS X hx (bytes := bytes) (maxL := maxL) (ret := ret) ho hl hstt hini hcode hy hK hg (hsize.trans hml.symm) (argsL := As) (rest := rest) (fun sig h => hn.trans (hlen sig h)) hstack hW (by rw [hb]; exact hdg)
    (fun vm₁ hW₁ => ⟨hf.1, hf.2, hp.2 (T.setVm vm₁) hT hW₁⟩) with ⟨v, vm₁, ⟨U', l2, c2, s2⟩, hW₁, X', ⟨g', mk, t, L, e1, e2, hq, h1, hL, h2, h3⟩, st⟩ | ⟨q, vm₁, ⟨U', l2, c2, s2⟩, hW₁, X', ⟨g', mk, t, L, E, ce, e1, e2, hq, hce, hcv, hcl, h1, hL, h2, h3⟩, st⟩
  · dsimp only [Pt.U, Pt.locs, Pt.cells, Pt.slots] at X' e1 e2 h1 h2 h3 st
    subst h1; subst h2; subst h3
    exact Or.inl ⟨v, (T.setVm vm₁).calling g' mk As.toArray, t, U', L, hT, X', hL, e1, e2, hq, st⟩
  · dsimp only [Pt.U, Pt.locs, Pt.cells, Pt.slots] at X' e1 e2 h1 h2 h3 st hcl
    subst h1; subst h2; subst h3
    exact Or.inr ⟨q, (T.setVm vm₁).calling g' mk As.toArray, t, U', L, E, ce, hT, X', hL, e1, e2, hq, hce, hcv, vx_cls hW₁ hcl, st⟩
end Runs
section Rows
variable {p : Program} {l : Launch} {e : Env} {R : Room} {s : State} {m : MethodId} {args : Array Value} {below : List Frame} {meth : Method} {c : Code} {H : Heap} {locs : List Loc} {cells slots : Nat} {Q : State → Prop}
variable {mc ms : Nat} {free : Addr → Prop} {A0 A1 : Nat → Prop} {H0 : Heap} {a : Array Value} {pc : Nat} {ls : Array Slot} {st0 rest : List Value}
theorem vx_keep {st₀ t T' : State} {L : List Loc} (h0 : st₀.heap = H) (e1 : T'.heap = t.heap) (hS : va_S A0 H0 H locs) (hA : ∀ q, q < H.size → A1 q → A0 q) (hf : ∀ q, free q → A0 q) (hL : ∀ q ∈ L, free q.base) (hF : va_F A1 st₀ t) :
    H.size ≤ T'.heap.size ∧ (∀ q : Nat, q < H.size → ¬ A1 q → T'.heap[q]? = H[q]?) ∧ va_S A0 H0 T'.heap (locs ++ L) := by
  obtain ⟨hz, hk⟩ := hF
  rw [h0] at hz hk
  exact ⟨by rw [e1]; exact hz, fun q h1 h2 => by rw [e1]; exact hk q h1 h2,
    ⟨Nat.le_trans hS.1 (by rw [e1]; exact hz), fun q h1 h2 => by rw [e1, hk q (Nat.lt_of_lt_of_le h1 hS.1) (fun z => h2 (hA q (Nat.lt_of_lt_of_le h1 hS.1) z))]; exact hS.2.1 q h1 h2, fun q hq => by
      rcases List.mem_append.mp hq with h | h
      · exact hS.2.2 q h
      · exact hf _ (hL q h)⟩⟩
theorem vx_calli {S SX : Type} {post : Int32 → S → Prop} {px : SX → Prop} {B : S → State → Prop} {BX : String → SX → State → Prop} {AX : Nat → Prop} (hr : vx_Run p l e R s m args below meth c H locs cells slots mc ms (F0 m pc ls st0) rest (va_Qi post B A1 a) (vx_X px BX AX) free) (hS : va_S A0 H0 H locs) (hA : ∀ q, q < H.size → A1 q → A0 q) (hf : ∀ q, free q → A0 q) (hAX : ∀ q, q < H.size → AX q → A0 q)
    (kx : ∀ (E : String) (ce : Cell) (q9 : Addr) (u : SX) (t : State) (H1 : Heap) (locs1 : List Loc), t.heap = H1 → s.vm.Alike t.vm → px u → BX E u t → H.size ≤ H1.size → (∀ q : Nat, q < H.size → ¬ AX q → H1[q]? = H[q]?) → va_S A0 H0 H1 locs1 → H1[q9]? = some ce → ce.vm = .none → s.vm.findClass E = some ce.cls → vx_W p l e R s m args below meth c H1 locs1 (cells + mc) (slots + ms) Q (F0 m pc ls rest) q9)
    (kk : ∀ (r : Int32) (u : S) (t : State) (H1 : Heap) (locs1 : List Loc), t.heap = H1 → s.vm.Alike t.vm → post r u → B u t → H.size ≤ H1.size → (∀ q : Nat, q < H.size → ¬ A1 q → H1[q]? = H[q]?) → va_S A0 H0 H1 locs1 → W p l e R s m args below meth c H1 locs1 (cells + mc) (slots + ms) Q (F0 m (pc + 3) ls (.int r :: rest))) : W p l e R s m args below meth c H locs cells slots Q (F0 m pc ls st0) := by
  intro T hT X
  rcases hr T hT X with ⟨v, st₀, t, T', L, h0, X', hL, e1, e2, ⟨⟨r, u, hv, hp, hb⟩, hF⟩, st⟩ | ⟨q, st₀, t, T', L, E, ce, h0, X', hL, e1, e2, ⟨u, hp, hb, hF⟩, hce, hcv, hcl, st⟩
  · cases hv
    obtain ⟨k1, k2, k3⟩ := vx_keep h0 e1 hS hA hf hL hF
    obtain ⟨t2, a1, b1⟩ := kk r u t T'.heap (locs ++ L) e1.symm (by rw [← e2]; exact X'.warmed.alike) hp hb k1 k2 k3 T' rfl X'
    exact ⟨t2, st t2 a1, b1⟩
  · obtain ⟨k1, k2, k3⟩ := vx_keep h0 e1 hS hAX hf hL hF
    obtain ⟨t2, a1, b1⟩ := kx E ce q u t T'.heap (locs ++ L) e1.symm (by rw [← e2]; exact X'.warmed.alike) hp hb k1 k2 k3 (by rw [e1]; exact hce) hcv hcl T' rfl X'
    exact ⟨t2, st.trans a1, b1⟩
theorem vx_calll {S SX : Type} {post : Int64 → S → Prop} {px : SX → Prop} {B : S → State → Prop} {BX : String → SX → State → Prop} {AX : Nat → Prop} (hr : vx_Run p l e R s m args below meth c H locs cells slots mc ms (F0 m pc ls st0) rest (va_Ql post B A1 a) (vx_X px BX AX) free) (hS : va_S A0 H0 H locs) (hA : ∀ q, q < H.size → A1 q → A0 q) (hf : ∀ q, free q → A0 q) (hAX : ∀ q, q < H.size → AX q → A0 q)
    (kx : ∀ (E : String) (ce : Cell) (q9 : Addr) (u : SX) (t : State) (H1 : Heap) (locs1 : List Loc), t.heap = H1 → s.vm.Alike t.vm → px u → BX E u t → H.size ≤ H1.size → (∀ q : Nat, q < H.size → ¬ AX q → H1[q]? = H[q]?) → va_S A0 H0 H1 locs1 → H1[q9]? = some ce → ce.vm = .none → s.vm.findClass E = some ce.cls → vx_W p l e R s m args below meth c H1 locs1 (cells + mc) (slots + ms) Q (F0 m pc ls rest) q9)
    (kk : ∀ (r : Int64) (u : S) (t : State) (H1 : Heap) (locs1 : List Loc), t.heap = H1 → s.vm.Alike t.vm → post r u → B u t → H.size ≤ H1.size → (∀ q : Nat, q < H.size → ¬ A1 q → H1[q]? = H[q]?) → va_S A0 H0 H1 locs1 → W p l e R s m args below meth c H1 locs1 (cells + mc) (slots + ms) Q (F0 m (pc + 3) ls (.long r :: rest))) : W p l e R s m args below meth c H locs cells slots Q (F0 m pc ls st0) := by
  intro T hT X
  rcases hr T hT X with ⟨v, st₀, t, T', L, h0, X', hL, e1, e2, ⟨⟨r, u, hv, hp, hb⟩, hF⟩, st⟩ | ⟨q, st₀, t, T', L, E, ce, h0, X', hL, e1, e2, ⟨u, hp, hb, hF⟩, hce, hcv, hcl, st⟩
  · cases hv
    obtain ⟨k1, k2, k3⟩ := vx_keep h0 e1 hS hA hf hL hF
    obtain ⟨t2, a1, b1⟩ := kk r u t T'.heap (locs ++ L) e1.symm (by rw [← e2]; exact X'.warmed.alike) hp hb k1 k2 k3 T' rfl X'
    exact ⟨t2, st t2 a1, b1⟩
  · obtain ⟨k1, k2, k3⟩ := vx_keep h0 e1 hS hAX hf hL hF
    obtain ⟨t2, a1, b1⟩ := kx E ce q u t T'.heap (locs ++ L) e1.symm (by rw [← e2]; exact X'.warmed.alike) hp hb k1 k2 k3 (by rw [e1]; exact hce) hcv hcl T' rfl X'
    exact ⟨t2, st.trans a1, b1⟩
theorem vx_callf {S SX : Type} {post : UInt32 → S → Prop} {px : SX → Prop} {B : S → State → Prop} {BX : String → SX → State → Prop} {AX : Nat → Prop} (hr : vx_Run p l e R s m args below meth c H locs cells slots mc ms (F0 m pc ls st0) rest (va_Qf post B A1 a) (vx_X px BX AX) free) (hS : va_S A0 H0 H locs) (hA : ∀ q, q < H.size → A1 q → A0 q) (hf : ∀ q, free q → A0 q) (hAX : ∀ q, q < H.size → AX q → A0 q)
    (kx : ∀ (E : String) (ce : Cell) (q9 : Addr) (u : SX) (t : State) (H1 : Heap) (locs1 : List Loc), t.heap = H1 → s.vm.Alike t.vm → px u → BX E u t → H.size ≤ H1.size → (∀ q : Nat, q < H.size → ¬ AX q → H1[q]? = H[q]?) → va_S A0 H0 H1 locs1 → H1[q9]? = some ce → ce.vm = .none → s.vm.findClass E = some ce.cls → vx_W p l e R s m args below meth c H1 locs1 (cells + mc) (slots + ms) Q (F0 m pc ls rest) q9)
    (kk : ∀ (r : UInt32) (u : S) (t : State) (H1 : Heap) (locs1 : List Loc), t.heap = H1 → s.vm.Alike t.vm → post r u → B u t → H.size ≤ H1.size → (∀ q : Nat, q < H.size → ¬ A1 q → H1[q]? = H[q]?) → va_S A0 H0 H1 locs1 → W p l e R s m args below meth c H1 locs1 (cells + mc) (slots + ms) Q (F0 m (pc + 3) ls (.float r :: rest))) : W p l e R s m args below meth c H locs cells slots Q (F0 m pc ls st0) := by
  intro T hT X
  rcases hr T hT X with ⟨v, st₀, t, T', L, h0, X', hL, e1, e2, ⟨⟨r, u, hv, hp, hb⟩, hF⟩, st⟩ | ⟨q, st₀, t, T', L, E, ce, h0, X', hL, e1, e2, ⟨u, hp, hb, hF⟩, hce, hcv, hcl, st⟩
  · cases hv
    obtain ⟨k1, k2, k3⟩ := vx_keep h0 e1 hS hA hf hL hF
    obtain ⟨t2, a1, b1⟩ := kk r u t T'.heap (locs ++ L) e1.symm (by rw [← e2]; exact X'.warmed.alike) hp hb k1 k2 k3 T' rfl X'
    exact ⟨t2, st t2 a1, b1⟩
  · obtain ⟨k1, k2, k3⟩ := vx_keep h0 e1 hS hAX hf hL hF
    obtain ⟨t2, a1, b1⟩ := kx E ce q u t T'.heap (locs ++ L) e1.symm (by rw [← e2]; exact X'.warmed.alike) hp hb k1 k2 k3 (by rw [e1]; exact hce) hcv hcl T' rfl X'
    exact ⟨t2, st.trans a1, b1⟩
theorem vx_calld {S SX : Type} {post : UInt64 → S → Prop} {px : SX → Prop} {B : S → State → Prop} {BX : String → SX → State → Prop} {AX : Nat → Prop} (hr : vx_Run p l e R s m args below meth c H locs cells slots mc ms (F0 m pc ls st0) rest (va_Qd post B A1 a) (vx_X px BX AX) free) (hS : va_S A0 H0 H locs) (hA : ∀ q, q < H.size → A1 q → A0 q) (hf : ∀ q, free q → A0 q) (hAX : ∀ q, q < H.size → AX q → A0 q)
    (kx : ∀ (E : String) (ce : Cell) (q9 : Addr) (u : SX) (t : State) (H1 : Heap) (locs1 : List Loc), t.heap = H1 → s.vm.Alike t.vm → px u → BX E u t → H.size ≤ H1.size → (∀ q : Nat, q < H.size → ¬ AX q → H1[q]? = H[q]?) → va_S A0 H0 H1 locs1 → H1[q9]? = some ce → ce.vm = .none → s.vm.findClass E = some ce.cls → vx_W p l e R s m args below meth c H1 locs1 (cells + mc) (slots + ms) Q (F0 m pc ls rest) q9)
    (kk : ∀ (r : UInt64) (u : S) (t : State) (H1 : Heap) (locs1 : List Loc), t.heap = H1 → s.vm.Alike t.vm → post r u → B u t → H.size ≤ H1.size → (∀ q : Nat, q < H.size → ¬ A1 q → H1[q]? = H[q]?) → va_S A0 H0 H1 locs1 → W p l e R s m args below meth c H1 locs1 (cells + mc) (slots + ms) Q (F0 m (pc + 3) ls (.double r :: rest))) : W p l e R s m args below meth c H locs cells slots Q (F0 m pc ls st0) := by
  intro T hT X
  rcases hr T hT X with ⟨v, st₀, t, T', L, h0, X', hL, e1, e2, ⟨⟨r, u, hv, hp, hb⟩, hF⟩, st⟩ | ⟨q, st₀, t, T', L, E, ce, h0, X', hL, e1, e2, ⟨u, hp, hb, hF⟩, hce, hcv, hcl, st⟩
  · cases hv
    obtain ⟨k1, k2, k3⟩ := vx_keep h0 e1 hS hA hf hL hF
    obtain ⟨t2, a1, b1⟩ := kk r u t T'.heap (locs ++ L) e1.symm (by rw [← e2]; exact X'.warmed.alike) hp hb k1 k2 k3 T' rfl X'
    exact ⟨t2, st t2 a1, b1⟩
  · obtain ⟨k1, k2, k3⟩ := vx_keep h0 e1 hS hAX hf hL hF
    obtain ⟨t2, a1, b1⟩ := kx E ce q u t T'.heap (locs ++ L) e1.symm (by rw [← e2]; exact X'.warmed.alike) hp hb k1 k2 k3 (by rw [e1]; exact hce) hcv hcl T' rfl X'
    exact ⟨t2, st.trans a1, b1⟩
theorem vx_callv {S SX : Type} {post : S → Prop} {px : SX → Prop} {B : S → State → Prop} {BX : String → SX → State → Prop} {AX : Nat → Prop} (hr : vx_Run p l e R s m args below meth c H locs cells slots mc ms (F0 m pc ls st0) rest (va_Qv post B A1 a) (vx_X px BX AX) free) (hS : va_S A0 H0 H locs) (hA : ∀ q, q < H.size → A1 q → A0 q) (hf : ∀ q, free q → A0 q) (hAX : ∀ q, q < H.size → AX q → A0 q)
    (kx : ∀ (E : String) (ce : Cell) (q9 : Addr) (u : SX) (t : State) (H1 : Heap) (locs1 : List Loc), t.heap = H1 → s.vm.Alike t.vm → px u → BX E u t → H.size ≤ H1.size → (∀ q : Nat, q < H.size → ¬ AX q → H1[q]? = H[q]?) → va_S A0 H0 H1 locs1 → H1[q9]? = some ce → ce.vm = .none → s.vm.findClass E = some ce.cls → vx_W p l e R s m args below meth c H1 locs1 (cells + mc) (slots + ms) Q (F0 m pc ls rest) q9)
    (kk : ∀ (u : S) (t : State) (H1 : Heap) (locs1 : List Loc), t.heap = H1 → s.vm.Alike t.vm → post u → B u t → H.size ≤ H1.size → (∀ q : Nat, q < H.size → ¬ A1 q → H1[q]? = H[q]?) → va_S A0 H0 H1 locs1 → W p l e R s m args below meth c H1 locs1 (cells + mc) (slots + ms) Q (F0 m (pc + 3) ls (rest))) : W p l e R s m args below meth c H locs cells slots Q (F0 m pc ls st0) := by
  intro T hT X
  rcases hr T hT X with ⟨v, st₀, t, T', L, h0, X', hL, e1, e2, ⟨⟨u, hv, hp, hb⟩, hF⟩, st⟩ | ⟨q, st₀, t, T', L, E, ce, h0, X', hL, e1, e2, ⟨u, hp, hb, hF⟩, hce, hcv, hcl, st⟩
  · cases hv
    obtain ⟨k1, k2, k3⟩ := vx_keep h0 e1 hS hA hf hL hF
    obtain ⟨t2, a1, b1⟩ := kk u t T'.heap (locs ++ L) e1.symm (by rw [← e2]; exact X'.warmed.alike) hp hb k1 k2 k3 T' rfl X'
    exact ⟨t2, st t2 a1, b1⟩
  · obtain ⟨k1, k2, k3⟩ := vx_keep h0 e1 hS hAX hf hL hF
    obtain ⟨t2, a1, b1⟩ := kx E ce q u t T'.heap (locs ++ L) e1.symm (by rw [← e2]; exact X'.warmed.alike) hp hb k1 k2 k3 (by rw [e1]; exact hce) hcv hcl T' rfl X'
    exact ⟨t2, st.trans a1, b1⟩
/-- caught by the row x of this method's table; the rows ahead don't take it -/
theorem vx_catch {own name : String} {E : String} {ce : Cell} {q : Addr} (hown : s.vm.findClass own = some m.cls) (pre : List ExceptionTableEntry) (x : ExceptionTableEntry) (suf : List ExceptionTableEntry) (hsplit : c.exceptionTable.toList = pre ++ x :: suf)
    (hpass : ∀ z ∈ pre, covers z pc = false ∨ (z.catchType ≠ 0 ∧ ∃ nm : String, (Cond.classLink own z.catchType nm).before args s = true ∧ va_Nc E nm s)) (hx : covers x pc = true) (h0 : x.catchType ≠ 0)
    (hlink : (Cond.classLink own x.catchType name).before args s = true) (hcast : (Cond.castable E name).before args s = true) (hcell : H[q]? = some ce) (hv : ce.vm = .none) (hcl : s.vm.findClass E = some ce.cls)
    (kk : W p l e R s m args below meth c H locs cells slots Q (F0 m x.handlerPc ls [.ref q])) : vx_W p l e R s m args below meth c H locs cells slots Q (F0 m pc ls rest) q := by
  intro T hT X
  have hpl : e.platform.magicAccessors = ({} : Platform).magicAccessors := by rw [X.admits.platform]
  obtain ⟨c3, c4, hc3, hc4, hasg⟩ := Cond.castable_spec hcast
  cases Option.some.inj (hc3.symm.trans hcl)
  obtain ⟨c5, hc5, hcl5⟩ := Cond.classLink_spec hown hlink e.platform hpl
  cases Option.some.inj (hc4.symm.trans hc5)
  obtain ⟨vm', X', st⟩ := X.thenCaughtThrough q (g := F0 m pc ls rest) rfl (Steps.refl _) (by rw [hT]; exact hcell) (by rw [hv]; rfl) (by obtain ⟨k9, h9, -⟩ := Vm.findClass_spec hcl; exact ⟨k9, h9⟩) pre x suf hsplit
    (fun z hz => by
      rcases hpass z hz with h | ⟨hz0, nm, hl1, hn1⟩
      · exact Or.inl h
      · obtain ⟨c6, hc6, hcl6⟩ := Cond.classLink_spec hown hl1 e.platform hpl
        obtain ⟨a8, b8, h1, h2, h3⟩ := hn1
        cases Option.some.inj (h1.symm.trans hcl)
        cases Option.some.inj (h2.symm.trans hc6)
        exact Or.inr ⟨hz0, _, hcl6, h3⟩) hx (Or.inr ⟨h0, c4, hcl5, hasg⟩)
  obtain ⟨t, a1, b1⟩ := kk (T.setVm vm') hT X'
  exact ⟨t, st.trans a1, b1⟩
end Rows
section Ends
variable {p : Program} {l : Launch} {e : Env} {R : Room} {s : State} {m : MethodId} {args : Array Value} {below : List Frame} {meth : Method} {c : Code} {H : Heap} {locs : List Loc} {cells slots : Nat} {Q : State → Prop}
variable {mc ms : Nat} {free : Addr → Prop} {A0 A1 : Nat → Prop} {H0 : Heap} {a : Array Value} {ls : Array Slot} {st0 rest : List Value}
variable {Qc : Array Value → State → Outcome → State → Prop} {XC : String → State → State → Prop}
/-- what a body that may throw owes at its end -/
def vx_MQ (below : List Frame) (Qc : Array Value → State → Outcome → State → Prop) (XC : String → State → State → Prop) (a : Array Value) (s : State) (mc ms : Nat) (free : Addr → Prop) : State → Prop := fun t =>
  ∃ o, t.status = .running ∧ Ended t below o ∧ vx_Q Qc XC mc ms free a s o t
theorem vx_ret {g : JFrame} {mc ms : Nat} (k : W p l e R s m args below meth c H locs cells slots (MQ below Qc args s mc ms free) g) : W p l e R s m args below meth c H locs cells slots (vx_MQ below Qc XC args s mc ms free) g := by
  intro T hT X
  obtain ⟨t, a1, o, b1, b2, b3, b4⟩ := k T hT X
  exact ⟨t, a1, o, b1, b2, Or.inl ⟨b3, b4⟩⟩
/-- not caught here: it goes on to the caller -/
theorem vx_widen {g : JFrame} {q : Addr} {k n : Nat} (h1 : cells ≤ k) (h2 : slots ≤ n) (kk : vx_W p l e R s m args below meth c H locs k n Q g q) : vx_W p l e R s m args below meth c H locs cells slots Q g q := fun T hT X => kk T hT (stand_widen X h1 h2)
theorem vx_out {pc : Nat} {E : String} {ce : Cell} {q : Addr} {mc ms : Nat} (hout : ∀ x ∈ c.exceptionTable.toList, covers x pc = false) (hlocks : meth.locks = false) (hcell : H[q]? = some ce) (hv : ce.vm = .none) (hcl : s.vm.findClass E = some ce.cls)
    (hx : ∀ t : State, t.heap = H → s.vm.Alike t.vm → XC E s t) (hf : ∀ z ∈ locs, free z.base) (hc : cells ≤ mc) (hs : slots ≤ ms) :
    vx_W p l e R s m args below meth c H locs cells slots (vx_MQ below Qc XC args s mc ms free) (F0 m pc ls rest) q := by
  intro T hT X
  obtain ⟨st1, hrun, hend, hW, hsm⟩ := X.leaveThrown q (g := F0 m pc ls rest) rfl rfl rfl hout hlocks
  have hcell9 : (T.setFrames (.throwing q :: below)).heap[q]? = some ce := by
    show T.heap[q]? = some ce
    rw [hT]; exact hcell
  exact ⟨_, st1, .threw q, hrun, hend, Or.inr ⟨q, rfl, E, ce, locs, hx _ hT hW.alike, hcell9, hv, hcl, hW, hsm.mono hc hs, hf⟩⟩
theorem vx_frame {U : State} {k n : Nat} (h : s.sameButNew ({ U with vm := s.vm } : State) locs k n) : s.heap.size ≤ U.heap.size ∧ ∀ q : Nat, q < s.heap.size → (∀ z ∈ locs, z.base ≠ q) → U.heap[q]? = s.heap[q]? := by
  obtain ⟨-, h2, -, -, -, h6⟩ := h
  refine ⟨h2, fun q hq hz => ?_⟩
  obtain ⟨c9, e1, e2, e3, e4⟩ := h6 q _ (Array.getElem?_eq_getElem hq)
  have hs : c9.slots = (s.heap[q]).slots := Array.ext_getElem? fun i => e4 i fun hm => hz _ hm rfl
  have h9 : c9 = s.heap[q] := by
    rw [hs] at e2
    exact e2
  have e5 : U.heap[q]? = some c9 := e1
  rw [e5, h9, Array.getElem?_eq_getElem hq]
/-- the words of a throw but the four that speak of the heap -/
def vx_no (w : Cond) : Bool := decide (w ≠ .isRef (.static Bundle.tN "UNASSIGNED_STACK" Bundle.steD)) && decide (w ≠ .isRef (.static Bundle.tN "SUPPRESSED_SENTINEL" Bundle.listD)) && decide (w ≠ .laysStatic Bundle.tN "UNASSIGNED_STACK" Bundle.steD) && decide (w ≠ .laysStatic Bundle.tN "SUPPRESSED_SENTINEL" Bundle.listD)
def vx_at0 (own : String) (ic : Nat) (X : String) (names : List String) : List Cond := (Bundle.ownAtoms0 own ic X names).filter vx_no
def vx_atS (own : String) (ic : Nat) (X : String) (names : List String) : List Cond := (Bundle.ownAtoms own ic X names).filter vx_no
/-- a word that the tables alone decide, or a good one -/
def vx_ot (w : Cond) : Bool := w.onTables || goodWord w
theorem vx_ot_at {args a' : Array Value} {s U : State} {w : Cond} (hW : s.WarmedH U.vm) (hvm : s.vm = U.vm) (hg : vx_ot w = true) (h : w.before args s = true) : w.before a' U = true := by
  simp only [vx_ot, Bool.or_eq_true] at hg
  rcases hg with hg | hg
  · exact va_tabs hg hvm h
  · exact word_at hW (good_of_word hg) h
/-- a list's words: the good ones out of the method's own list, the others by premises of their own -/
theorem vx_hat {args : Array Value} {s : State} {L B : List Cond} (h1 : ∀ w ∈ L.filter goodWord, w.before args s = true) (h2 : ∀ w ∈ L.filter (fun w => !goodWord w), w ∈ B) (h3 : ∀ w ∈ B, w.before args s = true) : ∀ w ∈ L, w.before args s = true := by
  intro w hw
  by_cases g : goodWord w = true
  · exact h1 w (List.mem_filter.mpr ⟨hw, g⟩)
  · refine h3 w (h2 w (List.mem_filter.mpr ⟨hw, ?_⟩))
    show (!goodWord w) = true
    cases hgw : goodWord w
    · rfl
    · exact absurd hgw g
theorem vx_c {args : Array Value} {s : State} {w : Cond} {B : List Cond} (h : w.before args s = true) (t : ∀ w ∈ B, w.before args s = true) : ∀ w' ∈ w :: B, w'.before args s = true := fun w' h' => (List.mem_cons.mp h').elim (fun e => by rw [e]; exact h) (t w')
theorem vx_n {args : Array Value} {s : State} : ∀ w ∈ ([] : List Cond), w.before args s = true := fun _ h => nomatch h
theorem vx_own {args : Array Value} {s : State} {L : List Cond} (h1 : ∀ w ∈ L.filter vx_no, w.before args s = true)
    (hU : (Cond.isRef (.static Bundle.tN "UNASSIGNED_STACK" Bundle.steD)).before args s = true) (hN : (Cond.isRef (.static Bundle.tN "SUPPRESSED_SENTINEL" Bundle.listD)).before args s = true)
    (lU : (Cond.laysStatic Bundle.tN "UNASSIGNED_STACK" Bundle.steD).before args s = true) (lN : (Cond.laysStatic Bundle.tN "SUPPRESSED_SENTINEL" Bundle.listD).before args s = true) : ∀ w ∈ L, w.before args s = true := by
  intro w hw
  by_cases e1 : w = .isRef (.static Bundle.tN "UNASSIGNED_STACK" Bundle.steD)
  · rw [e1]; exact hU
  · by_cases e2 : w = .isRef (.static Bundle.tN "SUPPRESSED_SENTINEL" Bundle.listD)
    · rw [e2]; exact hN
    · by_cases e3 : w = .laysStatic Bundle.tN "UNASSIGNED_STACK" Bundle.steD
      · rw [e3]; exact lU
      · by_cases e4 : w = .laysStatic Bundle.tN "SUPPRESSED_SENTINEL" Bundle.listD
        · rw [e4]; exact lN
        · exact h1 w (List.mem_filter.mpr ⟨hw, by unfold vx_no; rw [decide_eq_true e1, decide_eq_true e2, decide_eq_true e3, decide_eq_true e4]; rfl⟩)
/-- where a static field lies, its class's statics cell in H -/
def vx_L (C n d : String) (A : Nat → Prop) (U : State) (H : Heap) : Prop := ∃ (c : ClassId) (k : Class) (i : Nat) (f : Field) (a : Nat) (cell : Cell), U.vm.findClass C = some c ∧ U.fieldFound? C n d = some (c, k, i, f) ∧ f.isStatic = true ∧ k.statics = some a ∧ H[a]? = some cell ∧ cell.vm.isStatics = true ∧ cell.cls = c ∧ f.slot < cell.slots.size ∧ k.staticTypes[f.slot]? = some f.type ∧ ¬ A a
theorem vx_L.moved {C n d : String} {A : Nat → Prop} {u U : State} {H : Heap} (hvm : u.vm.Alike U.vm) (h : vx_L C n d A u H) : vx_L C n d A U H := by
  obtain ⟨c, k, i, f, a, cell, h1, h2, h3, h4, h5, h6, h7, h8, h9, h10⟩ := h
  obtain ⟨k', hi', he⟩ := State.fieldFound?_setVm hvm h2
  exact ⟨c, k', i, f, a, cell, by rw [hvm.findClass]; exact h1, hi', h3, by rw [he]; exact h4, h5, h6, h7, h8, by rw [he]; exact h9, h10⟩
theorem vx_L.kept {C n d : String} {A : Nat → Prop} {U : State} {H H1 : Heap} (h : vx_L C n d A U H) (hq : ∀ a : Nat, a < H.size → ¬ A a → H1[a]? = H[a]?) : vx_L C n d A U H1 := by
  obtain ⟨c, k, i, f, a, cell, h1, h2, h3, h4, h5, h6, h7, h8, h9, h10⟩ := h
  exact ⟨c, k, i, f, a, cell, h1, h2, h3, h4, by rw [hq a (Array.getElem?_eq_some_iff.mp h5).1 h10]; exact h5, h6, h7, h8, h9, h10⟩
theorem vx_L.narrow {C n d : String} {A B : Nat → Prop} {U : State} {H : Heap} (h : vx_L C n d A U H) (hAB : ∀ q, B q → A q) : vx_L C n d B U H := by
  obtain ⟨c, k, i, f, a, cell, h1, h2, h3, h4, h5, h6, h7, h8, h9, h10⟩ := h
  exact ⟨c, k, i, f, a, cell, h1, h2, h3, h4, h5, h6, h7, h8, h9, fun z => h10 (hAB _ z)⟩
theorem vx_L.word {C n d : String} {A : Nat → Prop} {s : State} {args : Array Value} (h : vx_L C n d A s s.heap) : (Cond.laysStatic C n d).before args s = true := by
  obtain ⟨c, k, i, f, a, cell, h1, h2, h3, h4, h5, h6, h7, h8, h9, -⟩ := h
  show (Cond.laysStatic C n d).holds args s none s [] = true
  exact Cond.laysStatic_of h1 h2 h3 h4 h5 h6 h7 h8 h9
/-- .. and what it holds: null or some reference -/
def vx_Zq (C n d : String) (A : Nat → Prop) (U : State) (H : Heap) : Prop := va_Zq C n d A U H ∧ vx_L C n d A U H
theorem vx_Zq.moved {C n d : String} {A : Nat → Prop} {u U : State} {H : Heap} (hvm : u.vm.Alike U.vm) (h : vx_Zq C n d A u H) : vx_Zq C n d A U H := ⟨va_Zq.moved hvm h.1, vx_L.moved hvm h.2⟩
theorem vx_Zq.kept {C n d : String} {A : Nat → Prop} {U : State} {H H1 : Heap} (h : vx_Zq C n d A U H) (hq : ∀ a : Nat, a < H.size → ¬ A a → H1[a]? = H[a]?) : vx_Zq C n d A U H1 := ⟨va_Zq.kept h.1 hq, vx_L.kept h.2 hq⟩
theorem vx_Zq.narrow {C n d : String} {A B : Nat → Prop} {U : State} {H : Heap} (h : vx_Zq C n d A U H) (hAB : ∀ q, B q → A q) : vx_Zq C n d B U H := ⟨va_Zq.narrow h.1 hAB, vx_L.narrow h.2 hAB⟩
theorem vx_Zqof {args : Array Value} {s : State} {C n d : String} {A : Nat → Prop} (hl : (Cond.laysStatic C n d).before args s = true) (hini : (Cond.initialized C).before args s = true) (h : (Cond.isRef (.static C n d)).before args s = true) (hA : ∀ a : Nat, a < s.heap.size → ¬ A a) : vx_Zq C n d A s s.heap := by
  refine ⟨va_Zqof hl hini h hA, ?_⟩
  obtain ⟨c, k, i, f, a, cell, h1, h2, h3, h4, h5, h6, h7, h8, h9⟩ := Cond.laysStatic_spec hl
  exact ⟨c, k, i, f, a, cell, h1, h2, h3, h4, h5, h6, h7, h8, h9, hA a (Array.getElem?_eq_some_iff.mp h5).1⟩
theorem vx_isRef {C n d : String} {v : Value} {A : Nat → Prop} {s : State} {args : Array Value} (h : va_Z C n d v A s s.heap) (hv : v.isRef = true) : (Cond.isRef (.static C n d)).before args s = true := by
  obtain ⟨cf, kf, fi, f, a, cell, h1, h2, h3, h4, h5, h6, h7, -⟩ := h
  have he : (Term.static C n d).eval args s none [] s = some v := by
    simp [Term.eval, State.fieldNamed?, h1, h2, h4, h5, h6, h7]
  simp only [Cond.before, Cond.holds, Cond.value, he]
  cases v <;> simp_all [Value.isRef]
theorem vx_isRefq {C n d : String} {A : Nat → Prop} {s : State} {args : Array Value} (h : va_Zq C n d A s s.heap) : (Cond.isRef (.static C n d)).before args s = true := by
  rcases h with h | ⟨t, h⟩
  · exact vx_isRef h rfl
  · exact vx_isRef h rfl
/-- the same frame, seen from here: as if the method were called anew in this heap -/
theorem vx_rebase {T : State} (X : Stand p l e R s m args below meth c T locs cells slots) {R' : Room} (hf : R'.frames ≤ R.frames) (hl : R'.locals ≤ R.locals) (hc : cells + R'.cells ≤ R.cells) (hs : slots + R'.slots ≤ R.slots) :
    Stand p l e R' ((T.setVm s.vm).setFrames (.invoking m args :: below)) m args below meth c T [] 0 0 := by
  have htop : (T.setVm s.vm).topJava?.isSome := X.here.top
  have hF : ((T.setVm s.vm).setFrames (.invoking m args :: below)).frames = .invoking m args :: below := State.frames_setFrames _ (State.cur_lt_of_top htop)
  obtain ⟨g₀, hg0⟩ := Option.isSome_iff_exists.mp htop
  obtain ⟨r, hr⟩ := State.topJava?_eq_some.mp hg0
  have hl9 : e.platform.stackLimits (T.setVm s.vm).me = e.platform.stackLimits s.me := X.limits
  have hb9 : (T.setVm s.vm).me.stackBytes = s.me.stackBytes := X.bytes
  refine ⟨X.admits, X.cas, X.clock, hF, ?_, X.hears, X.method, X.code, X.here, X.tail, X.warmed, ?_, ?_, ?_⟩
  · have h := X.room
    have hU : ((T.setVm s.vm).setFrames (.invoking m args :: below)).localsInUse = s.localsInUse := by
      rw [State.localsInUse_invoking hF (meth := meth) (c := c) X.method X.code, State.localsInUse_invoking X.frames X.method X.code]
    simp only [State.hasRoom, Bool.and_eq_true, decide_eq_true_eq] at h ⊢
    obtain ⟨⟨⟨⟨h1, h2, h3, h4, h5, h6⟩, h7⟩, h8⟩, h9⟩ := h
    rw [X.frames, List.length_cons] at h2 h3
    have q1 := X.heapSize
    have q2 := X.used
    simp only [hF, hU, List.length_cons, State.stackLimits_setFrames, State.stackBytes_setFrames, hl9, hb9]
    refine ⟨⟨⟨⟨by omega, by omega, by omega, by omega, by omega, h6⟩, ?_⟩, ?_⟩, X.book⟩
    · show T.heap.size + R'.cells ≤ e.platform.maxCells
      omega
    · show T.slotsUsed + R'.slots ≤ e.platform.maxSlots
      omega
  · rw [State.stackLimits_setFrames]; rfl
  · rw [State.stackBytes_setFrames]; rfl
  · refine ⟨?_, Nat.le_refl _, Nat.le_refl _, ?_, ?_, fun a c9 h9 => ⟨c9, h9, rfl, rfl, fun _ _ => rfl⟩⟩
    · obtain ⟨t, ht, -⟩ := State.frames_cons hr
      show T.setVm s.vm = { ((T.setVm s.vm).setFrames (.invoking m args :: below)).setFrames (T.setVm s.vm).frames with heap := T.heap, slotsUsed := T.slotsUsed }
      rw [State.setFrames_setFrames, State.setFrames_self ht]
      rfl
    · show T.slotsUsed = T.slotsUsed + ((T.heap.toList.drop T.heap.size).map (·.slots.size)).sum
      rw [List.drop_eq_nil_of_le (Nat.le_of_eq Array.length_toList)]
      rfl
    · show ((T.heap.toList.drop T.heap.size).map (·.slots.size)).sum ≤ 0
      rw [List.drop_eq_nil_of_le (Nat.le_of_eq Array.length_toList)]
      exact Nat.le_refl _
/-- 'throw new E()': new; dup; invokespecial; athrow -/
theorem vx_throw0 {cc : ByteArray} {pc : Nat} (hexec : p.tables.exec = Jvm.exec) (hb : c.code = cc) (hl : l.stackTraces = false) {own cls : String} {names : List String} {ik ic mc ms : Nat} {A : Nat → Prop}
    (hown : s.vm.findClass own = some m.cls) (hcls : Bundle.fit cls = true) (hnames : ∀ n ∈ names, Bundle.fit n = true)
    (hk : (Cond.classLink own ik cls).before args s = true) (hini : (Cond.initialized cls).before args s = true) (hat : ∀ w ∈ vx_at0 own ic cls names, w.before args s = true)
    (hgood : ∀ w ∈ Cond.classLink own ik cls :: Cond.initialized cls :: vx_at0 own ic cls names, vx_ot w = true)
    (hU : vx_Zq Bundle.tN "UNASSIGNED_STACK" Bundle.steD A s s.heap) (hN : vx_Zq Bundle.tN "SUPPRESSED_SENTINEL" Bundle.listD A s s.heap) (hS : va_S A s.heap H locs) (hsize : ls.size = c.maxLocals)
    (d0 : decode cc pc = .ok (.new ik, 3)) (d3 : decode cc (pc + 3) = .ok (.dup, 1)) (d4 : decode cc (pc + 4) = .ok (.invokespecial ic, 3)) (d7 : decode cc (pc + 7) = .ok (.athrow, 1))
    (hout : ∀ x ∈ c.exceptionTable.toList, covers x (pc + 7) = false)
    (hRframes : names.length + 3 < R.frames) (hRlocals : (rest.map fun v => v.category).sum + (13 * (names.length + 1) + 42) ≤ R.locals) (hRcells : cells + 1 ≤ R.cells) (hRslots : slots + 6 ≤ R.slots) (hlocks : meth.locks = false)
    (hx : ∀ t : State, s.vm.Alike t.vm → H.size ≤ t.heap.size → (∀ q : Nat, q < H.size → t.heap[q]? = H[q]?) → XC cls s t)
    (hf : ∀ z ∈ locs, free z.base) (hc : cells + 1 ≤ mc) (hs : slots + 6 ≤ ms) :
    W p l e R s m args below meth c H locs cells slots (vx_MQ below Qc XC args s mc ms free) (F0 m pc ls rest) := by
  intro T hT X
  have htr : e.platform.stackTraces = false := (show e.platform.stackTraces = l.stackTraces by rw [X.admits.platform]).trans hl
  have Y := vx_rebase X (R' := { frames := R.frames, locals := R.locals, cells := 1, slots := 6 }) (Nat.le_refl _) (Nat.le_refl _) hRcells hRslots
  obtain ⟨s', hA⟩ : ∃ z, z = (T.setVm s.vm).setFrames (.invoking m args :: below) := ⟨_, rfl⟩
  rw [← hA] at Y
  have hvm : s'.vm = s.vm := by rw [hA]; rfl
  have hhp : s'.heap = H := by rw [hA]; exact hT
  have hW0 : s.WarmedH s'.vm := by rw [hvm]; exact State.WarmedH.refl s
  have hat' : ∀ w ∈ vx_at0 own ic cls names, w.before args s' = true := fun w hw => vx_ot_at hW0 hvm.symm (hgood w (List.mem_cons_of_mem _ (List.mem_cons_of_mem _ hw))) (hat w hw)
  have hk' : (Cond.classLink own ik cls).before args s' = true := vx_ot_at hW0 hvm.symm (hgood _ List.mem_cons_self) hk
  have hini' : (Cond.initialized cls).before args s' = true := vx_ot_at hW0 hvm.symm (hgood _ (List.mem_cons_of_mem _ List.mem_cons_self)) hini
  have hU' : vx_Zq Bundle.tN "UNASSIGNED_STACK" Bundle.steD A s' s'.heap := by rw [hhp]; exact vx_Zq.moved hW0.alike (hU.kept hS.2.1)
  have hN' : vx_Zq Bundle.tN "SUPPRESSED_SENTINEL" Bundle.listD A s' s'.heap := by rw [hhp]; exact vx_Zq.moved hW0.alike (hN.kept hS.2.1)
  have h : ∀ w ∈ Bundle.ownAtoms0 own ic cls names, w.before args s' = true := vx_own hat' (vx_isRefq hU'.1) (vx_isRefq hN'.1) hU'.2.word hN'.2.word
  have hown' : s'.vm.findClass own = some m.cls := by rw [hvm]; exact hown
  have hins : (Cond.instantiable cls 6).before args s' = true := h _ (by simp [Bundle.ownAtoms0])
  obtain ⟨vm₁, cX, kX, hfX, hkX, -, -, X₁, st1⟩ := Y.newCold hexec (own := own) (C := cls) (index := ik) (n := 6) hown' hk' hins hini'
    (g := F0 m pc ls rest) rfl (by rw [hb]; exact d0) (Nat.le_refl _) (Nat.le_refl _)
  generalize hT1 : (T.setVm vm₁).pushCell { cls := cX, slots := kX.instanceTypes.map defaultValue, vm := .none } = T1 at X₁ st1
  have hcat : (Value.ref T.heap.size).category = 1 := rfl
  have hcellA : T1.heap[T.heap.size]? = some (freshCell cX kX) := by rw [← hT1]; exact State.heap_pushCell_size _ _
  have d3' : decode c.code (pc + 3) = .ok (.dup, 1) := by rw [hb]; exact d3
  obtain ⟨U, hsteps, hrun, hend, hW, hsame, ce, hce, hO⟩ := X₁.ctorThrow0 hexec htr (own := own) (cls := cls) (names := names) (ic := ic) hown' hcls hnames h (fun x hx => nomatch hx) hfX hkX hcellA (by rw [hhp, hT]; exact Nat.le_refl _)
    (g := { method := m, pc := pc + 4, locals := ls, stack := .ref T.heap.size :: .ref T.heap.size :: rest, locked := none }) rfl hsize rfl rfl (rest := rest) rfl
    (by rw [hb]; exact d4) (by rw [hb]; exact d7) hout hRframes (by simp only [List.map_cons, List.sum_cons, hcat]; omega) hlocks
  obtain ⟨f1, f2⟩ := vx_frame hsame
  rw [hhp] at f1 f2
  have hWs : s.WarmedH U.vm := State.WarmedH.trans hW0 hW
  have hcl : s.vm.findClass cls = some ce.cls := by
    have h9 := hO.cls
    rw [hvm] at h9
    exact h9
  have hall : s.sameButNew ({ U with vm := s.vm } : State) locs mc ms := by
    subst hA
    obtain ⟨e1, e2⟩ := hsame
    rw [State.setFrames_setFrames] at e1
    have h2 : (T.setVm s.vm).sameButNew ({ U with vm := s.vm } : State) [] (0 + 1) (0 + 6) := ⟨e1, e2⟩
    have h3 := X.same.trans h2
    rw [List.append_nil] at h3
    exact h3.mono hc hs
  refine ⟨U, ?_, .threw T.heap.size, hrun, hend, Or.inr ⟨T.heap.size, rfl, cls, ce, locs, hx U hWs.alike f1 (fun q hq => f2 q hq (fun z hz => nomatch hz)), hce, hO.vm, hcl, hWs, hall, hf⟩⟩
  refine st1 _ ?_
  show Steps p.tables e below (T1.setTop { method := m, pc := pc + 3, locals := ls, stack := .ref T.heap.size :: rest, locked := none }) _
  jvm_step X₁.here [X₁.here.top, hexec, d3', Value.category]
  exact hsteps
/-- 'throw new E("text")': new; dup; ldc; invokespecial; athrow -/
theorem vx_throwS {cc : ByteArray} {pc : Nat} (hexec : p.tables.exec = Jvm.exec) (hb : c.code = cc) (hl : l.stackTraces = false) {own cls text : String} {names : List String} {ik is ic mc ms sa : Nat} {A : Nat → Prop}
    (hown : s.vm.findClass own = some m.cls) (hcls : Bundle.fit cls = true) (hnames : ∀ n ∈ names, Bundle.fit n = true)
    (hk : (Cond.classLink own ik cls).before args s = true) (hini : (Cond.initialized cls).before args s = true) (hstr : vk_R own is text sa s) (hat : ∀ w ∈ vx_atS own ic cls names, w.before args s = true)
    (hgood : ∀ w ∈ Cond.classLink own ik cls :: Cond.initialized cls :: vx_atS own ic cls names, vx_ot w = true)
    (hU : vx_Zq Bundle.tN "UNASSIGNED_STACK" Bundle.steD A s s.heap) (hN : vx_Zq Bundle.tN "SUPPRESSED_SENTINEL" Bundle.listD A s s.heap) (hS : va_S A s.heap H locs) (hsize : ls.size = c.maxLocals)
    (d0 : decode cc pc = .ok (.new ik, 3)) (d3 : decode cc (pc + 3) = .ok (.dup, 1)) (d4 : decode cc (pc + 4) = .ok (.ldc is, 2)) (d6 : decode cc (pc + 6) = .ok (.invokespecial ic, 3)) (d9 : decode cc (pc + 9) = .ok (.athrow, 1))
    (hout : ∀ x ∈ c.exceptionTable.toList, covers x (pc + 9) = false)
    (hRframes : names.length + 3 < R.frames) (hRlocals : (rest.map fun v => v.category).sum + (13 * (names.length + 1) + 43) ≤ R.locals) (hRcells : cells + 1 ≤ R.cells) (hRslots : slots + 6 ≤ R.slots) (hlocks : meth.locks = false)
    (hx : ∀ t : State, s.vm.Alike t.vm → H.size ≤ t.heap.size → (∀ q : Nat, q < H.size → t.heap[q]? = H[q]?) → XC cls s t)
    (hf : ∀ z ∈ locs, free z.base) (hc : cells + 1 ≤ mc) (hs : slots + 6 ≤ ms) :
    W p l e R s m args below meth c H locs cells slots (vx_MQ below Qc XC args s mc ms free) (F0 m pc ls rest) := by
  intro T hT X
  have htr : e.platform.stackTraces = false := (show e.platform.stackTraces = l.stackTraces by rw [X.admits.platform]).trans hl
  have Y := vx_rebase X (R' := { frames := R.frames, locals := R.locals, cells := 1, slots := 6 }) (Nat.le_refl _) (Nat.le_refl _) hRcells hRslots
  obtain ⟨s', hA⟩ : ∃ z, z = (T.setVm s.vm).setFrames (.invoking m args :: below) := ⟨_, rfl⟩
  rw [← hA] at Y
  have hvm : s'.vm = s.vm := by rw [hA]; rfl
  have hhp : s'.heap = H := by rw [hA]; exact hT
  have hW0 : s.WarmedH s'.vm := by rw [hvm]; exact State.WarmedH.refl s
  have hat' : ∀ w ∈ vx_atS own ic cls names, w.before args s' = true := fun w hw => vx_ot_at hW0 hvm.symm (hgood w (List.mem_cons_of_mem _ (List.mem_cons_of_mem _ hw))) (hat w hw)
  have hk' : (Cond.classLink own ik cls).before args s' = true := vx_ot_at hW0 hvm.symm (hgood _ List.mem_cons_self) hk
  have hini' : (Cond.initialized cls).before args s' = true := vx_ot_at hW0 hvm.symm (hgood _ (List.mem_cons_of_mem _ List.mem_cons_self)) hini
  have hU' : vx_Zq Bundle.tN "UNASSIGNED_STACK" Bundle.steD A s' s'.heap := by rw [hhp]; exact vx_Zq.moved hW0.alike (hU.kept hS.2.1)
  have hN' : vx_Zq Bundle.tN "SUPPRESSED_SENTINEL" Bundle.listD A s' s'.heap := by rw [hhp]; exact vx_Zq.moved hW0.alike (hN.kept hS.2.1)
  have h : ∀ w ∈ Bundle.ownAtoms own ic cls names, w.before args s' = true := vx_own hat' (vx_isRefq hU'.1) (vx_isRefq hN'.1) hU'.2.word hN'.2.word
  have hown' : s'.vm.findClass own = some m.cls := by rw [hvm]; exact hown
  have hins : (Cond.instantiable cls 6).before args s' = true := h _ (by simp [Bundle.ownAtoms])
  obtain ⟨vm₁, cX, kX, hfX, hkX, -, -, X₁, st1⟩ := Y.newCold hexec (own := own) (C := cls) (index := ik) (n := 6) hown' hk' hins hini'
    (g := F0 m pc ls rest) rfl (by rw [hb]; exact d0) (Nat.le_refl _) (Nat.le_refl _)
  generalize hT1 : (T.setVm vm₁).pushCell { cls := cX, slots := kX.instanceTypes.map defaultValue, vm := .none } = T1 at X₁ st1
  have hcat : (Value.ref T.heap.size).category = 1 := rfl
  have hcellA : T1.heap[T.heap.size]? = some (freshCell cX kX) := by rw [← hT1]; exact State.heap_pushCell_size _ _
  have d3' : decode c.code (pc + 3) = .ok (.dup, 1) := by rw [hb]; exact d3
  have d4' : decode c.code (pc + 4) = .ok (.ldc is, 2) := by rw [hb]; exact d4
  have hstr' : vk_R own is text sa s' := vk_R.warm hW0 hstr
  obtain ⟨U, hsteps, hrun, hend, hW, hsame, ce, hce, hO⟩ := X₁.ctorThrowS hexec htr (own := own) (cls := cls) (names := names) (ic := ic) hown' hcls hnames h (fun x hx => nomatch hx) hfX hkX hcellA (by rw [hhp, hT]; exact Nat.le_refl _) (msg := .ref sa) rfl
    (g := { method := m, pc := pc + 6, locals := ls, stack := .ref sa :: .ref T.heap.size :: .ref T.heap.size :: rest, locked := none }) rfl hsize rfl rfl (rest := rest) rfl
    (by rw [hb]; exact d6) (by rw [hb]; exact d9) hout hRframes (by simp only [List.map_cons, List.sum_cons, hcat]; omega) hlocks
  obtain ⟨f1, f2⟩ := vx_frame hsame
  rw [hhp] at f1 f2
  have hWs : s.WarmedH U.vm := State.WarmedH.trans hW0 hW
  have hcl : s.vm.findClass cls = some ce.cls := by
    have h9 := hO.cls
    rw [hvm] at h9
    exact h9
  have hall : s.sameButNew ({ U with vm := s.vm } : State) locs mc ms := by
    subst hA
    obtain ⟨e1, e2⟩ := hsame
    rw [State.setFrames_setFrames] at e1
    have h2 : (T.setVm s.vm).sameButNew ({ U with vm := s.vm } : State) [] (0 + 1) (0 + 6) := ⟨e1, e2⟩
    have h3 := X.same.trans h2
    rw [List.append_nil] at h3
    exact h3.mono hc hs
  refine ⟨U, ?_, .threw T.heap.size, hrun, hend, Or.inr ⟨T.heap.size, rfl, cls, ce, locs, hx U hWs.alike f1 (fun q hq => f2 q hq (fun z hz => nomatch hz)), hce, hO.vm, hcl, hWs, hall, hf⟩⟩
  refine st1 _ ?_
  show Steps p.tables e below (T1.setTop { method := m, pc := pc + 3, locals := ls, stack := .ref T.heap.size :: rest, locked := none }) _
  jvm_step X₁.here [X₁.here.top, hexec, d3', Value.category]
  exact X₁.ldcString hexec (own := own) (text := text) (index := is) (a := sa) hown' hstr'.1 hstr'.2
    (g := { method := m, pc := pc + 4, locals := ls, stack := .ref T.heap.size :: .ref T.heap.size :: rest, locked := none }) rfl d4' _ hsteps
/-- 'throw new E("text")', the text by a wide index -/
theorem vx_throwSW {cc : ByteArray} {pc : Nat} (hexec : p.tables.exec = Jvm.exec) (hb : c.code = cc) (hl : l.stackTraces = false) {own cls text : String} {names : List String} {ik is ic mc ms sa : Nat} {A : Nat → Prop}
    (hown : s.vm.findClass own = some m.cls) (hcls : Bundle.fit cls = true) (hnames : ∀ n ∈ names, Bundle.fit n = true)
    (hk : (Cond.classLink own ik cls).before args s = true) (hini : (Cond.initialized cls).before args s = true) (hstr : vk_R own is text sa s) (hat : ∀ w ∈ vx_atS own ic cls names, w.before args s = true)
    (hgood : ∀ w ∈ Cond.classLink own ik cls :: Cond.initialized cls :: vx_atS own ic cls names, vx_ot w = true)
    (hU : vx_Zq Bundle.tN "UNASSIGNED_STACK" Bundle.steD A s s.heap) (hN : vx_Zq Bundle.tN "SUPPRESSED_SENTINEL" Bundle.listD A s s.heap) (hS : va_S A s.heap H locs) (hsize : ls.size = c.maxLocals)
    (d0 : decode cc pc = .ok (.new ik, 3)) (d3 : decode cc (pc + 3) = .ok (.dup, 1)) (d4 : decode cc (pc + 4) = .ok (.ldc_w is, 3)) (d7 : decode cc (pc + 7) = .ok (.invokespecial ic, 3)) (d10 : decode cc (pc + 10) = .ok (.athrow, 1))
    (hout : ∀ x ∈ c.exceptionTable.toList, covers x (pc + 10) = false)
    (hRframes : names.length + 3 < R.frames) (hRlocals : (rest.map fun v => v.category).sum + (13 * (names.length + 1) + 43) ≤ R.locals) (hRcells : cells + 1 ≤ R.cells) (hRslots : slots + 6 ≤ R.slots) (hlocks : meth.locks = false)
    (hx : ∀ t : State, s.vm.Alike t.vm → H.size ≤ t.heap.size → (∀ q : Nat, q < H.size → t.heap[q]? = H[q]?) → XC cls s t)
    (hf : ∀ z ∈ locs, free z.base) (hc : cells + 1 ≤ mc) (hs : slots + 6 ≤ ms) :
    W p l e R s m args below meth c H locs cells slots (vx_MQ below Qc XC args s mc ms free) (F0 m pc ls rest) := by
  intro T hT X
  have htr : e.platform.stackTraces = false := (show e.platform.stackTraces = l.stackTraces by rw [X.admits.platform]).trans hl
  have Y := vx_rebase X (R' := { frames := R.frames, locals := R.locals, cells := 1, slots := 6 }) (Nat.le_refl _) (Nat.le_refl _) hRcells hRslots
  obtain ⟨s', hA⟩ : ∃ z, z = (T.setVm s.vm).setFrames (.invoking m args :: below) := ⟨_, rfl⟩
  rw [← hA] at Y
  have hvm : s'.vm = s.vm := by rw [hA]; rfl
  have hhp : s'.heap = H := by rw [hA]; exact hT
  have hW0 : s.WarmedH s'.vm := by rw [hvm]; exact State.WarmedH.refl s
  have hat' : ∀ w ∈ vx_atS own ic cls names, w.before args s' = true := fun w hw => vx_ot_at hW0 hvm.symm (hgood w (List.mem_cons_of_mem _ (List.mem_cons_of_mem _ hw))) (hat w hw)
  have hk' : (Cond.classLink own ik cls).before args s' = true := vx_ot_at hW0 hvm.symm (hgood _ List.mem_cons_self) hk
  have hini' : (Cond.initialized cls).before args s' = true := vx_ot_at hW0 hvm.symm (hgood _ (List.mem_cons_of_mem _ List.mem_cons_self)) hini
  have hU' : vx_Zq Bundle.tN "UNASSIGNED_STACK" Bundle.steD A s' s'.heap := by rw [hhp]; exact vx_Zq.moved hW0.alike (hU.kept hS.2.1)
  have hN' : vx_Zq Bundle.tN "SUPPRESSED_SENTINEL" Bundle.listD A s' s'.heap := by rw [hhp]; exact vx_Zq.moved hW0.alike (hN.kept hS.2.1)
  have h : ∀ w ∈ Bundle.ownAtoms own ic cls names, w.before args s' = true := vx_own hat' (vx_isRefq hU'.1) (vx_isRefq hN'.1) hU'.2.word hN'.2.word
  have hown' : s'.vm.findClass own = some m.cls := by rw [hvm]; exact hown
  have hins : (Cond.instantiable cls 6).before args s' = true := h _ (by simp [Bundle.ownAtoms])
  obtain ⟨vm₁, cX, kX, hfX, hkX, -, -, X₁, st1⟩ := Y.newCold hexec (own := own) (C := cls) (index := ik) (n := 6) hown' hk' hins hini'
    (g := F0 m pc ls rest) rfl (by rw [hb]; exact d0) (Nat.le_refl _) (Nat.le_refl _)
  generalize hT1 : (T.setVm vm₁).pushCell { cls := cX, slots := kX.instanceTypes.map defaultValue, vm := .none } = T1 at X₁ st1
  have hcat : (Value.ref T.heap.size).category = 1 := rfl
  have hcellA : T1.heap[T.heap.size]? = some (freshCell cX kX) := by rw [← hT1]; exact State.heap_pushCell_size _ _
  have d3' : decode c.code (pc + 3) = .ok (.dup, 1) := by rw [hb]; exact d3
  have d4' : decode c.code (pc + 4) = .ok (.ldc_w is, 3) := by rw [hb]; exact d4
  have hstr' : vk_R own is text sa s' := vk_R.warm hW0 hstr
  obtain ⟨U, hsteps, hrun, hend, hW, hsame, ce, hce, hO⟩ := X₁.ctorThrowS hexec htr (own := own) (cls := cls) (names := names) (ic := ic) hown' hcls hnames h (fun x hx => nomatch hx) hfX hkX hcellA (by rw [hhp, hT]; exact Nat.le_refl _) (msg := .ref sa) rfl
    (g := { method := m, pc := pc + 7, locals := ls, stack := .ref sa :: .ref T.heap.size :: .ref T.heap.size :: rest, locked := none }) rfl hsize rfl rfl (rest := rest) rfl
    (by rw [hb]; exact d7) (by rw [hb]; exact d10) hout hRframes (by simp only [List.map_cons, List.sum_cons, hcat]; omega) hlocks
  obtain ⟨f1, f2⟩ := vx_frame hsame
  rw [hhp] at f1 f2
  have hWs : s.WarmedH U.vm := State.WarmedH.trans hW0 hW
  have hcl : s.vm.findClass cls = some ce.cls := by
    have h9 := hO.cls
    rw [hvm] at h9
    exact h9
  have hall : s.sameButNew ({ U with vm := s.vm } : State) locs mc ms := by
    subst hA
    obtain ⟨e1, e2⟩ := hsame
    rw [State.setFrames_setFrames] at e1
    have h2 : (T.setVm s.vm).sameButNew ({ U with vm := s.vm } : State) [] (0 + 1) (0 + 6) := ⟨e1, e2⟩
    have h3 := X.same.trans h2
    rw [List.append_nil] at h3
    exact h3.mono hc hs
  refine ⟨U, ?_, .threw T.heap.size, hrun, hend, Or.inr ⟨T.heap.size, rfl, cls, ce, locs, hx U hWs.alike f1 (fun q hq => f2 q hq (fun z hz => nomatch hz)), hce, hO.vm, hcl, hWs, hall, hf⟩⟩
  refine st1 _ ?_
  show Steps p.tables e below (T1.setTop { method := m, pc := pc + 3, locals := ls, stack := .ref T.heap.size :: rest, locked := none }) _
  jvm_step X₁.here [X₁.here.top, hexec, d3', Value.category]
  exact X₁.ldcStringW hexec (own := own) (text := text) (index := is) (a := sa) hown' hstr'.1 hstr'.2
    (g := { method := m, pc := pc + 4, locals := ls, stack := .ref T.heap.size :: .ref T.heap.size :: rest, locked := none }) rfl d4' _ hsteps
end Ends
section Bodies
variable {l : Launch}
theorem vx_ofW {y : MethodName} {ws ws' : List Cond} {rm : Room} {Pc : Array Value → State → Prop} {Qc : Array Value → State → Outcome → State → Prop} {XC : String → State → State → Prop} {mc ms : Nat} {free : Addr → Prop} {cc : ByteArray} {maxL : Nat} {ret : Option FieldType}
    (hy : plainName y.cls = true) (hw : ws = Cond.code y cc maxL ret :: ws')
    (body : ∀ p e s m args below meth c s₁, BodyLoose p l y (headSpec ws rm) cc maxL ret e s m args below meth c s₁ → c.maxLocals = maxL → (∀ x ∈ c.exceptionTable.toList, False) → Pc args s →
      W p l e (headSpec ws rm).room s m args below meth c s.heap [] 0 0 (vx_MQ below Qc XC args s mc ms free) (entryFrame m args maxL)) : vx_Met l y ws rm Pc Qc XC mc ms free := by
  refine MetFree.of_bodyS (code := cc) (maxLocals := maxL) (ret := ret) hy ?_ ?_
  · intro args s m h hn
    obtain ⟨meth, c, h1, h2, h3, h4, h5, h6, -, -⟩ := Cond.code_spec hn (atoms_spec (ws := ws) h _ (by rw [hw]; exact List.mem_cons_self))
    exact ⟨meth, c, h1, h2, h3, h4, h5, h6⟩
  · intro p e s m args below meth c s₁ B hml hP _
    have hh0 : s₁.heap = s.heap := by rw [B.state]; rfl
    have ht : ∀ x ∈ c.exceptionTable.toList, False := by
      obtain ⟨meth9, c9, h1, h2, -, -, -, -, h7, -⟩ := Cond.code_spec B.named (atoms_spec (ws := ws) B.pre _ (by rw [hw]; exact List.mem_cons_self))
      cases Option.some.inj (h1.symm.trans B.method)
      cases Option.some.inj (h2.symm.trans (Stand.of_body B).code)
      intro x hx
      rw [Array.isEmpty_iff.mp h7] at hx
      cases hx
    obtain ⟨t, a1, o, b1, b2, b3⟩ := body p e s m args below meth c s₁ B hml ht hP s₁ hh0 (Stand.of_body B)
    exact ⟨t, o, a1, b1, b2, b3⟩
/-- the table of a body with handlers -/
theorem vx_table {p : Program} {x y : MethodName} {S : Spec} {cc bytes : ByteArray} {maxL maxL' : Nat} {ret ret' : Option FieldType} {e : Env} {s s₁ : State} {m : MethodId} {args : Array Value} {below : List Frame} {meth : Method} {c : Code} {hh : List (Nat × Nat × Nat × Nat)}
    (B : BodyLoose p l y S cc maxL ret e s m args below meth c s₁) (h : (Cond.codeWith y bytes maxL' ret' hh).before args s = true) : c.exceptionTable.toList = tableOf hh := by
  obtain ⟨m9, meth9, c9, hn9, h1, h2, -, -, h6, -⟩ := Cond.codeWith_spec h
  cases Option.some.inj (hn9.symm.trans B.named)
  cases Option.some.inj (h1.symm.trans B.method)
  cases Option.some.inj (h2.symm.trans (Stand.of_body B).code)
  rw [← h6, table_eq]
end Bodies
end VXA
/-! ===== END ===== -/
/-! ===== BEGIN a static call of a method with an exception table ===== -/
section VXS
variable {p : Program} {l : Launch} {e : Env} {R : Room} {s : State} {m : MethodId} {args : Array Value} {below : List Frame} {meth : Method} {c : Code} {T : State} {H : Heap} {locs : List Loc} {cells slots : Nat}
abbrev vx_CSW (R : Room) (s : State) (args : Array Value) (own : String) (index : Nat) (y : MethodName) (bytes : ByteArray) (maxL : Nat) (ret : Option FieldType) (hh : List (Nat × Nat × Nat × Nat)) (ws : List Cond) (rm : Room) (mc ms n : Nat) : Prop :=
  (rm.cells = mc ∧ rm.slots = ms ∧ rm.frames + 1 ≤ R.frames ∧ 8 + (maxL + 11) + rm.locals ≤ R.locals ∧ (∀ w ∈ ws, ∀ (a' : Array Value) (U : State), s.WarmedH U.vm → w.before a' U = true) ∧ Cond.codeWith y bytes maxL ret hh ∈ ws) ∧
  (Cond.codeWith y bytes maxL ret hh).before args s = true ∧ (Cond.initialized y.cls).before args s = true ∧ (y.cls ≠ "java/lang/invoke/MethodHandle" ∧ y.cls ≠ "java/lang/invoke/VarHandle") ∧
  (∀ sig, parseMethodDescriptor y.desc = some sig → n = sig.parameters.length) ∧ (Cond.methodLink own index y).before args s = true ∧ (Cond.static y).before args s = true
theorem vx_cwSW {own : String} {index maxL mc ms : Nat} {y : MethodName} {bytes : ByteArray} {ret : Option FieldType} {hh : List (Nat × Nat × Nat × Nat)} {Ts ws ws' : List Cond} {rm : Room} (n : Nat) (ht : ∀ w ∈ Ts, w.before args s = true) (hT : GoodIn Ts (va_wsS own index y ws)) (hw : ws = Cond.codeWith y bytes maxL ret hh :: ws') (hrc : rm.cells = mc) (hrs : rm.slots = ms)
    (hd : y.cls ≠ "java/lang/invoke/MethodHandle" ∧ y.cls ≠ "java/lang/invoke/VarHandle" ∧ (parseMethodDescriptor y.desc).map (fun d => d.parameters.length) = some n) (hR : rm.frames + 1 ≤ R.frames ∧ 8 + (maxL + 11) + rm.locals ≤ R.locals) :
    vx_CSW R s args own index y bytes maxL ret hh ws rm mc ms n := by
  have ok : ∀ w ∈ va_wsS own index y ws, w.before args s = true := fun w h => ht w (hT w h).1
  have hG : GoodIn Ts ws := fun w h => hT w (by unfold va_wsS; exact List.mem_append_right _ h)
  have hc : Cond.codeWith y bytes maxL ret hh ∈ ws := by rw [hw]; exact List.mem_cons_self
  refine ⟨⟨hrc, hrs, hR.1, hR.2, pay_in ht hG, hc⟩, ht _ (hG _ hc).1, ok _ (by simp [va_wsS]), ⟨hd.1, hd.2.1⟩, fun sig h => ?_, ok _ (by simp [va_wsS]), ok _ (by simp [va_wsS])⟩
  have h2 := hd.2.2
  rw [h] at h2
  exact (Option.some.inj h2).symm
theorem vx_callSW (X : Stand p l e R s m args below meth c T locs cells slots) (hexec : p.tables.exec = Jvm.exec) {own : String} {index : Nat} {y : MethodName} {bytes : ByteArray} {maxL : Nat} {ret : Option FieldType} {hh : List (Nat × Nat × Nat × Nat)}
    (hown : s.vm.findClass own = some m.cls) (hlink : (Cond.methodLink own index y).before args s = true) (hstat : (Cond.static y).before args s = true) (hinit : (Cond.initialized y.cls).before args s = true)
    (hcode : (Cond.codeWith y bytes maxL ret hh).before args s = true) (hy : y.cls ≠ "java/lang/invoke/MethodHandle" ∧ y.cls ≠ "java/lang/invoke/VarHandle")
    {W9 : Nat} {Pre : Pt → Array Value → Prop} {Post : Pt → Array Value → Option Value → Pt → Prop} (hK : Back l R p e below s args y 3 W9 Pre Post)
    {g : JFrame} (hg : g.method = m) (hsize : g.locals.size = c.maxLocals) {argsL rest : List Value} (hlen : ∀ sig, parseMethodDescriptor y.desc = some sig → argsL.length = sig.parameters.length)
    (hstack : g.stack = argsL.reverse ++ rest) (hW : 2 * g.monitorRoom + (rest.map fun v => v.category).sum ≤ W9) (hdg : decode c.code g.pc = .ok (.invokestatic index, 3))
    (hpre : ∀ vm₁, s.WarmedH vm₁ → Pre ⟨T.setVm vm₁, locs, cells, slots⟩ argsL.toArray) :
    ∃ (v : Option Value) (vm₁ : Vm) (B : Pt), s.WarmedH vm₁ ∧ Stand p l e R s m args below meth c B.U B.locs B.cells B.slots ∧ Post ⟨T.setVm vm₁, locs, cells, slots⟩ argsL.toArray v B ∧
      ∀ target, Steps p.tables e below (B.U.setTop { g with pc := g.pc + 3, stack := v.toList ++ rest }) target → Steps p.tables e below (T.setTop g) target := by
  obtain ⟨mk, methM, cM, hnamed, hmethM, -, -, -, -, -, -, hsigM⟩ := Cond.codeWith_spec hcode
  have hstatic : methM.isStatic = true := Cond.static_spec hnamed hmethM hstat
  obtain ⟨kP, hkP, -⟩ := className_of_methodNamed hnamed
  have hinitP : kP.init = .initialized := Cond.initialized_spec (findClass_of_methodNamed hnamed) hkP hinit
  obtain ⟨vm₁, X₁, hstep₁⟩ := X.invokestatic hexec hown hlink hnamed hmethM hstatic hkP hinitP hy (g := g) hg (argsL := argsL) (rest := rest) (hlen _ hsigM) hstack hdg
  obtain ⟨v, B, X', hpost, hsteps⟩ := hK m meth c ⟨T.setVm vm₁, locs, cells, slots⟩ { g with stack := rest } (.invokestatic index) mk argsL.toArray X₁ hg hsize hdg hW (X₁.named hnamed) (hpre vm₁ X₁.warmed)
  exact ⟨v, vm₁, B, X₁.warmed, X', hpost, fun target h => hstep₁ _ fun acts => by rw [doInvoke_state]; exact hsteps.trans h⟩
theorem vx_runSW {y : MethodName} {bytes cc : ByteArray} {maxL nL mc ms n index : Nat} {ret : Option FieldType} {hh : List (Nat × Nat × Nat × Nat)} {ws : List Cond} {rm : Room} {Pc : Array Value → State → Prop} {Qc : Array Value → State → Outcome → State → Prop} {free : Addr → Prop} {Ts : List Cond} {own : String} {As rest : List Value} {g : JFrame}
    (S : CallFix p m c cc nL s args Ts own) (hM : Met l y ws rm Pc Qc mc ms free) (cw : vx_CSW R s args own index y bytes maxL ret hh ws rm mc ms n) (hp : PreS s H Pc As)
    (hg : g.method = m) (hn : As.length = n) (hsize : g.locals.size = nL) (hstack : g.stack = As.reverse ++ rest) (hW : 2 * g.monitorRoom + (rest.map fun v => v.category).sum ≤ 8) (hdg : decode cc g.pc = .ok (.invokestatic index, 3)) (hf : cells + mc ≤ R.cells ∧ slots + ms ≤ R.slots) :
    va_Run p l e R s m args below meth c H locs cells slots mc ms g rest (Qc As.toArray) (free) := by
  obtain ⟨⟨hrc, hrs, hfr, hlo, hws, hcw⟩, hcode, hini, hy, hlen, hl, hstt⟩ := cw
  have hK : Back l R p e below s args y 3 8 (PreOf R mc ms Pc) (PostOf Qc mc ms free) := va_backW (hh := hh) (bytes := bytes) (maxL := maxL) (ret := ret) hM hp.1 hrc hrs hfr hlo hws hcw (fun a' U hW => word_at hW (Or.inl (by first | rfl | simp [Cond.onTables, Cond.keeps, Cond.steady])) hini)
  obtain ⟨hx, hb, hml, ho, -⟩ := S
  intro T hT X
  obtain ⟨v, vm₁, ⟨U', l2, c2, s2⟩, hW₁, X', ⟨g', mk, t, L, e1, e2, hq, h1, hL, h2, h3⟩, st⟩ := vx_callSW X hx (hh := hh) (bytes := bytes) (maxL := maxL) (ret := ret) ho hl hstt hini hcode hy hK hg (hsize.trans hml.symm) (argsL := As) (rest := rest) (fun sig h => hn.trans (hlen sig h)) hstack hW (by rw [hb]; exact hdg)
    (fun vm₁ hW₁ => ⟨hf.1, hf.2, hp.2 (T.setVm vm₁) hT hW₁⟩)
  dsimp only [Pt.U, Pt.locs, Pt.cells, Pt.slots] at X' e1 e2 h1 h2 h3 st
  subst h1; subst h2; subst h3
  exact ⟨v, (T.setVm vm₁).calling g' mk As.toArray, t, U', L, hT, X', hL, e1, e2, hq, st⟩
/-- not caught here, past rows that name other classes: it goes on to the caller -/
theorem vx_outP {p : Program} {l : Launch} {e : Env} {R : Room} {s : State} {m : MethodId} {args : Array Value} {below : List Frame} {meth : Method} {c : Code} {H : Heap} {locs : List Loc} {cells slots : Nat} {free : Addr → Prop} {ls : Array Slot} {rest : List Value} {Qc : Array Value → State → Outcome → State → Prop} {XC : String → State → State → Prop}
    {pc : Nat} {own E : String} {ce : Cell} {q : Addr} {mc ms : Nat} (hown : s.vm.findClass own = some m.cls) (hlocks : meth.locks = false)
    (hpass : ∀ z ∈ c.exceptionTable.toList, covers z pc = false ∨ (z.catchType ≠ 0 ∧ ∃ nm : String, (Cond.classLink own z.catchType nm).before args s = true ∧ va_Nc E nm s)) (hcell : H[q]? = some ce) (hv : ce.vm = .none) (hcl : s.vm.findClass E = some ce.cls)
    (hx : ∀ t : State, t.heap = H → s.vm.Alike t.vm → XC E s t) (hf : ∀ z ∈ locs, free z.base) (hc : cells ≤ mc) (hs : slots ≤ ms) :
    vx_W p l e R s m args below meth c H locs cells slots (vx_MQ below Qc XC args s mc ms free) (F0 m pc ls rest) q := by
  intro T hT X
  have hpl : e.platform.magicAccessors = ({} : Platform).magicAccessors := by rw [X.admits.platform]
  obtain ⟨vm', hW', X', st⟩ := X.outThrough hlocks q (g := F0 m pc ls rest) rfl rfl rfl (cell := ce) (by rw [hT]; exact hcell) (by rw [hv]; rfl)
    (by obtain ⟨k9, h9, -⟩ := Vm.findClass_spec hcl; exact ⟨k9, h9⟩) (fun z hz => by
      rcases hpass z hz with h | ⟨hz0, nm, hl1, hn1⟩
      · exact Or.inl h
      · obtain ⟨c6, hc6, hcl6⟩ := Cond.classLink_spec hown hl1 e.platform hpl
        obtain ⟨a8, b8, h1, h2, h3⟩ := hn1
        cases Option.some.inj (h1.symm.trans hcl)
        cases Option.some.inj (h2.symm.trans hc6)
        exact Or.inr ⟨hz0, _, hcl6, h3⟩)
  obtain ⟨g₀, hfr⟩ := X'.frames_eq
  have hcell9 : ((T.setVm vm').setFrames (.throwing q :: below)).heap[q]? = some ce := by
    show T.heap[q]? = some ce
    rw [hT]; exact hcell
  have hend : Ended ((T.setVm vm').setFrames (.throwing q :: below)) below (.threw q) := State.frames_setFrames _ (State.cur_lt_of_frames hfr)
  refine ⟨(T.setVm vm').setFrames (.throwing q :: below), ?_, .threw q, X'.here.running, hend, Or.inr ⟨q, rfl, E, ce, locs, hx _ hT (X'.ends _).1.alike, hcell9, hv, hcl, (X'.ends _).1, (X'.ends _).2.mono hc hs, hf⟩⟩
  rw [X.pushThrowing_eq]
  exact st
/-- a thing of a world lies in the heap -/
theorem vx_lt {D : va_G} {cl : List vw_C} {ws : va_W} {H1 : Heap} (h : va_P D cl ws H1) {k : Nat} {q : Nat × va_E} (hk : ws[k]? = some q) : q.1 < H1.size := (h k q hk).lt
end VXS
/-! ===== END ===== -/
/-! ===== BEGIN methods with a table of their own: called by a name, returning or throwing ===== -/
section VXH
/-! vx_backW, vx_callVX, vx_callSX, vx_callVW, vx_runVW, vx_runVX, vx_runSX, vx_ofWH follow the same proofs as their sisters above (Free/Laws.lean, Shelf42/LK1.lean); vx_outP calls Shelf42/NT130.lean (outThrough). -/
section
variable {l : Launch} {R : Room} {p : Program} {e : Env} {below : List Frame} {s : State} {sargs : Array Value} {y : MethodName} {len W9 : Nat}
theorem vx_backW {ws : List Cond} {rm : Room} {Pc : Array Value → State → Prop} {Qc : Array Value → State → Outcome → State → Prop} {XC : String → State → State → Prop} {mc ms : Nat} {free : Addr → Prop} {bytes : ByteArray} {maxL : Nat} {ret : Option FieldType} {hh : List (Nat × Nat × Nat × Nat)}
    (hM : vx_Met l y ws rm Pc Qc XC mc ms free) (hblind : FrameBlind Pc) (hrc : rm.cells = mc) (hrs : rm.slots = ms)
    (hframes : rm.frames + 1 ≤ R.frames) (hlocals : W9 + (maxL + 11) + rm.locals ≤ R.locals)
    (hws : ∀ w ∈ ws, ∀ a' U, s.WarmedH U.vm → w.before a' U = true) (hcode : Cond.codeWith y bytes maxL ret hh ∈ ws) (hinit : ∀ a' U, s.WarmedH U.vm → (Cond.initialized y.cls).before a' U = true) :
    vx_Back l R p e below s sargs y len W9 (PreOf R mc ms Pc) (PostOf Qc mc ms free) (vx_Post XC mc ms free) := by
  intro m meth c A g ig mk a X hg hsize hdg hW hn hp
  have h1 : (headSpec ws rm).pre.before a A.U = true := atoms_intro fun w hw => hws w hw _ _ X.warmed
  have h2 : (Cond.codeWith y bytes maxL ret hh).before a A.U = true := hws _ hcode _ _ X.warmed
  have h3 : (Cond.initialized y.cls).before a A.U = true := hinit _ _ X.warmed
  have h4 : A.cells + (headSpec ws rm).room.cells ≤ R.cells := by rw [show (headSpec ws rm).room.cells = mc from hrc]; exact hp.1
  have h5 : A.slots + (headSpec ws rm).room.slots ≤ R.slots := by rw [show (headSpec ws rm).room.slots = ms from hrs]; exact hp.2.1
  have hPc : Pc a (A.U.calling g mk a) := hblind _ _ _ _ hp.2.2
  obtain ⟨U, Ls, c0, s0⟩ := A
  dsimp only [Pt.U, Pt.locs, Pt.cells, Pt.slots] at h1 h2 h3 h4 h5 X hn hPc ⊢
  obtain ⟨m9, methY, cY, hn9, hmY, hcY, -, hlY, -⟩ := Cond.codeWith_spec h2
  cases Option.some.inj (hn9.symm.trans hn)
  obtain ⟨kY, hkY, -⟩ := className_of_methodNamed hn
  have hinitY : kY.init = .initialized := Cond.initialized_spec (findClass_of_methodNamed hn) hkY h3
  have h : At U g.method c below := by rw [hg]; exact X.here
  have hlocals9 : W9 + (maxL + 11) + (headSpec ws rm).room.locals ≤ R.locals := hlocals
  have happ : (headSpec ws rm).appliesLoose y e.platform (U.calling g mk a) = true :=
    Spec.appliesLoose_calling (g := g) h hdg hn hkY hinitY
      (X.room_calling (g := g) (R' := (headSpec ws rm).room) hsize hmY hcY hframes (by rw [hlY]; omega) h4 h5) h1
  obtain ⟨mid, hmid⟩ := h.above
  have hfr : (U.setTop g).frames = (.java g :: mid) ++ below := by rw [State.frames_setTop' g h.top, hmid]; rfl
  obtain ⟨o, s₂, hsteps, -, hend, hq⟩ := Steps.callFree hM p X.admits X.cas X.clock (acts := []) hfr happ hPc trivial
  have hq' : vx_Q Qc XC mc ms free a (U.calling g mk a) o s₂ := hq
  rw [State.frames_setTop' g h.top] at hend
  obtain ⟨g₀, hg0⟩ := Option.isSome_iff_exists.mp h.top
  obtain ⟨r, hr⟩ := State.topJava?_eq_some.mp hg0
  have hr' : (({ U with heap := s₂.heap, slotsUsed := s₂.slotsUsed } : State).setVm s₂.vm).frames = .java g₀ :: r := hr
  rcases hq' with ⟨hqc, L, hfe, hL⟩ | ⟨q, rfl, E, ce, L, hx, hce, hcv, hcl, hW₂, hsm, hL⟩
  · obtain ⟨⟨v, rfl⟩, hW₂, e2, q2, q3, q4, q5, q6⟩ := id hfe
    have e3 : s₂ = ({ (U.calling g mk a).setFrames s₂.frames with heap := s₂.heap, slotsUsed := s₂.slotsUsed } : State).setVm s₂.vm := by
      have : s₂ = ({ s₂ with vm := (U.calling g mk a).vm } : State).setVm s₂.vm := rfl
      rw [e2] at this
      exact this
    obtain ⟨c₂, i₂, len₂, hc₂, hd₂, hf₂⟩ := hend
    have hW' : U.WarmedH s₂.vm := hW₂
    have hcc : c₂ = c := by
      have h1 : s₂.code? g.method = U.code? g.method := by
        rw [State.code?_eq, State.code?_eq, hW'.alike.method?]
      exact Option.some.inj (hc₂.symm.trans (h1.trans h.code))
    subst hcc
    have hlen : len₂ = len := by rw [hdg] at hd₂; cases hd₂; rfl
    subst hlen
    have hs₂ : s₂ = (({ U with heap := s₂.heap, slotsUsed := s₂.slotsUsed } : State).setVm s₂.vm).setTop { g with pc := g.pc + len₂, stack := v.toList ++ g.stack } := by
      refine e3.trans ?_
      rw [hf₂, State.calling_eq h.top, State.setFrames_setFrames, State.setTop_of_frames _ hr', hr]
      rfl
    have hsame : U.sameButNew ({ U with heap := s₂.heap, slotsUsed := s₂.slotsUsed } : State) L mc ms := by
      refine ⟨?_, q2, q3, q4, q5, q6⟩
      obtain ⟨t, ht, -⟩ := State.frames_cons hr
      show ({ U with heap := s₂.heap, slotsUsed := s₂.slotsUsed } : State) = { U.setFrames U.frames with heap := s₂.heap, slotsUsed := s₂.slotsUsed }
      rw [State.setFrames_self ht]
    subst hg
    refine Or.inl ⟨v, ⟨(({ U with heap := s₂.heap, slotsUsed := s₂.slotsUsed } : State).setVm s₂.vm), Ls ++ L, c0 + mc, s0 + ms⟩,
      ⟨X.admits, X.cas, X.clock, X.frames, X.room, X.hears, X.method, X.code, (X.here.setHeapUsed s₂.heap s₂.slotsUsed).setVm hW'.alike, X.tail, State.WarmedH.trans X.warmed hW', X.limits, X.bytes, X.same.trans (hsame.setVm s.vm)⟩,
      ⟨g, mk, s₂, L, rfl, rfl, hqc, rfl, hL, rfl, rfl⟩, ?_⟩
    show Steps p.tables e below _ ((({ U with heap := s₂.heap, slotsUsed := s₂.slotsUsed } : State).setVm s₂.vm).setTop { g with pc := g.pc + len₂, stack := v.toList ++ g.stack })
    rw [← hs₂]
    exact hsteps
  · obtain ⟨e2, q2, q3, q4, q5, q6⟩ := id hsm
    have e3 : s₂ = ({ (U.calling g mk a).setFrames s₂.frames with heap := s₂.heap, slotsUsed := s₂.slotsUsed } : State).setVm s₂.vm := by
      have : s₂ = ({ s₂ with vm := (U.calling g mk a).vm } : State).setVm s₂.vm := rfl
      rw [e2] at this
      exact this
    have hf₂ : s₂.frames = .throwing q :: .java g :: U.frames.tail := hend
    have hW' : U.WarmedH s₂.vm := hW₂
    have hs₂ : s₂ = ((({ U with heap := s₂.heap, slotsUsed := s₂.slotsUsed } : State).setVm s₂.vm).setTop g).pushFrame (.throwing q) := by
      refine e3.trans ?_
      rw [hf₂, State.calling_eq h.top, State.setFrames_setFrames, State.pushFrame, State.frames_setTop _ hr', State.setTop_of_frames _ hr', State.setFrames_setFrames, hr]
      rfl
    have hsame : U.sameButNew ({ U with heap := s₂.heap, slotsUsed := s₂.slotsUsed } : State) L mc ms := by
      refine ⟨?_, q2, q3, q4, q5, q6⟩
      obtain ⟨t, ht, -⟩ := State.frames_cons hr
      show ({ U with heap := s₂.heap, slotsUsed := s₂.slotsUsed } : State) = { U.setFrames U.frames with heap := s₂.heap, slotsUsed := s₂.slotsUsed }
      rw [State.setFrames_self ht]
    subst hg
    refine Or.inr ⟨q, ⟨(({ U with heap := s₂.heap, slotsUsed := s₂.slotsUsed } : State).setVm s₂.vm), Ls ++ L, c0 + mc, s0 + ms⟩,
      ⟨X.admits, X.cas, X.clock, X.frames, X.room, X.hears, X.method, X.code, (X.here.setHeapUsed s₂.heap s₂.slotsUsed).setVm hW'.alike, X.tail, State.WarmedH.trans X.warmed hW', X.limits, X.bytes, X.same.trans (hsame.setVm s.vm)⟩,
      ⟨g, mk, s₂, L, E, ce, rfl, rfl, hx, hce, hcv, hcl, rfl, hL, rfl, rfl⟩, ?_⟩
    show Steps p.tables e below _ (((({ U with heap := s₂.heap, slotsUsed := s₂.slotsUsed } : State).setVm s₂.vm).setTop g).pushFrame (.throwing q))
    rw [← hs₂]
    exact hsteps
end
variable {p : Program} {l : Launch} {e : Env} {R : Room} {s : State} {m : MethodId} {args : Array Value} {below : List Frame} {meth : Method} {c : Code} {T : State} {H : Heap} {locs : List Loc} {cells slots : Nat}
theorem vx_callVX (X : Stand p l e R s m args below meth c T locs cells slots) (hexec : p.tables.exec = Jvm.exec) {own C : String} {index : Nat} {y : MethodName} {bytes : ByteArray} {maxL : Nat} {ret : Option FieldType} {hh : List (Nat × Nat × Nat × Nat)}
    (hown : s.vm.findClass own = some m.cls) (hlink : (Cond.methodLink own index y).before args s = true) (hinst : (Cond.instanceMethod y).before args s = true) (hsel : (Cond.selects C y y).before args s = true)
    (hcode : (Cond.codeWith y bytes maxL ret hh).before args s = true) (hy : y.cls ≠ "java/lang/invoke/MethodHandle" ∧ y.cls ≠ "java/lang/invoke/VarHandle")
    {W9 : Nat} {Pre : Pt → Array Value → Prop} {Post : Pt → Array Value → Option Value → Pt → Prop} {PostX : Pt → Array Value → Addr → Pt → Prop} (hK : vx_Back l R p e below s args y 3 W9 Pre Post PostX)
    {b : Addr} {cellB : Cell} (hcell : T.heap[b]? = some cellB) (hobj : cellB.vm.isStatics = false) (hcls : s.vm.findClass C = some cellB.cls)
    {g : JFrame} (hg : g.method = m) (hsize : g.locals.size = c.maxLocals) {argsL rest : List Value} (hlen : ∀ sig, parseMethodDescriptor y.desc = some sig → argsL.length = sig.parameters.length)
    (hstack : g.stack = argsL.reverse ++ .ref b :: rest) (hW : 2 * g.monitorRoom + (rest.map fun v => v.category).sum ≤ W9) (hdg : decode c.code g.pc = .ok (.invokevirtual index, 3))
    (hpre : ∀ vm₁, s.WarmedH vm₁ → Pre ⟨T.setVm vm₁, locs, cells, slots⟩ (Value.ref b :: argsL).toArray) :
    (∃ (v : Option Value) (vm₁ : Vm) (B : Pt), s.WarmedH vm₁ ∧ Stand p l e R s m args below meth c B.U B.locs B.cells B.slots ∧ Post ⟨T.setVm vm₁, locs, cells, slots⟩ (Value.ref b :: argsL).toArray v B ∧
      ∀ target, Steps p.tables e below (B.U.setTop { g with pc := g.pc + 3, stack := v.toList ++ rest }) target → Steps p.tables e below (T.setTop g) target) ∨
    (∃ (q : Addr) (vm₁ : Vm) (B : Pt), s.WarmedH vm₁ ∧ Stand p l e R s m args below meth c B.U B.locs B.cells B.slots ∧ PostX ⟨T.setVm vm₁, locs, cells, slots⟩ (Value.ref b :: argsL).toArray q B ∧
      Steps p.tables e below (T.setTop g) ((B.U.setTop { g with stack := rest }).pushFrame (.throwing q))) := by
  obtain ⟨mk, methM, hnamed, hmethM, hstM, habM⟩ := Cond.instanceMethod_spec hinst
  obtain ⟨m8, methM', cM, hn8, hmethM', -, -, -, -, -, -, hsigM⟩ := Cond.codeWith_spec hcode
  cases Option.some.inj (hn8.symm.trans hnamed)
  cases hmethM.symm.trans hmethM'
  obtain ⟨c2, r2, m2, q1, q2, q3, q4, kP, hkP, hkPi⟩ := Cond.selects_spec hsel
  cases hcls.symm.trans q1
  cases (State.methodFound?_of_named hnamed hy).symm.trans q2
  cases hnamed.symm.trans q3
  have hselP : selectMethod e.platform s.vm cellB.cls mk = .method mk := by rw [Launch.admits_selectMethod X.admits]; exact q4
  obtain ⟨vm₁, X₁, hstep₁⟩ := X.invokevirtual hexec hown hlink hnamed hmethM hstM hkP hkPi hy (a := b) (cell := cellB) hcell
    (fun z h => by rw [h] at hobj; cases hobj) hselP hmethM habM hkP hkPi (g := g) hg (argsL := argsL) (rest := rest) (hlen _ hsigM) hstack hdg
  rcases hK m meth c ⟨T.setVm vm₁, locs, cells, slots⟩ { g with stack := rest } (.invokevirtual index) mk (Value.ref b :: argsL).toArray X₁ hg hsize hdg hW (X₁.named hnamed) (hpre vm₁ X₁.warmed) with ⟨v, B, X', hpost, hsteps⟩ | ⟨q, B, X', hpost, hsteps⟩
  · exact Or.inl ⟨v, vm₁, B, X₁.warmed, X', hpost, fun target h => hstep₁ _ fun acts => by rw [doInvoke_state]; exact hsteps.trans h⟩
  · exact Or.inr ⟨q, vm₁, B, X₁.warmed, X', hpost, hstep₁ _ fun acts => by rw [doInvoke_state]; exact hsteps⟩
theorem vx_callSX (X : Stand p l e R s m args below meth c T locs cells slots) (hexec : p.tables.exec = Jvm.exec) {own : String} {index : Nat} {y : MethodName} {bytes : ByteArray} {maxL : Nat} {ret : Option FieldType} {hh : List (Nat × Nat × Nat × Nat)}
    (hown : s.vm.findClass own = some m.cls) (hlink : (Cond.methodLink own index y).before args s = true) (hstat : (Cond.static y).before args s = true) (hinit : (Cond.initialized y.cls).before args s = true)
    (hcode : (Cond.codeWith y bytes maxL ret hh).before args s = true) (hy : y.cls ≠ "java/lang/invoke/MethodHandle" ∧ y.cls ≠ "java/lang/invoke/VarHandle")
    {W9 : Nat} {Pre : Pt → Array Value → Prop} {Post : Pt → Array Value → Option Value → Pt → Prop} {PostX : Pt → Array Value → Addr → Pt → Prop} (hK : vx_Back l R p e below s args y 3 W9 Pre Post PostX)
    {g : JFrame} (hg : g.method = m) (hsize : g.locals.size = c.maxLocals) {argsL rest : List Value} (hlen : ∀ sig, parseMethodDescriptor y.desc = some sig → argsL.length = sig.parameters.length)
    (hstack : g.stack = argsL.reverse ++ rest) (hW : 2 * g.monitorRoom + (rest.map fun v => v.category).sum ≤ W9) (hdg : decode c.code g.pc = .ok (.invokestatic index, 3))
    (hpre : ∀ vm₁, s.WarmedH vm₁ → Pre ⟨T.setVm vm₁, locs, cells, slots⟩ argsL.toArray) :
    (∃ (v : Option Value) (vm₁ : Vm) (B : Pt), s.WarmedH vm₁ ∧ Stand p l e R s m args below meth c B.U B.locs B.cells B.slots ∧ Post ⟨T.setVm vm₁, locs, cells, slots⟩ argsL.toArray v B ∧
      ∀ target, Steps p.tables e below (B.U.setTop { g with pc := g.pc + 3, stack := v.toList ++ rest }) target → Steps p.tables e below (T.setTop g) target) ∨
    (∃ (q : Addr) (vm₁ : Vm) (B : Pt), s.WarmedH vm₁ ∧ Stand p l e R s m args below meth c B.U B.locs B.cells B.slots ∧ PostX ⟨T.setVm vm₁, locs, cells, slots⟩ argsL.toArray q B ∧
      Steps p.tables e below (T.setTop g) ((B.U.setTop { g with stack := rest }).pushFrame (.throwing q))) := by
  obtain ⟨mk, methM, cM, hnamed, hmethM, -, -, -, -, -, -, hsigM⟩ := Cond.codeWith_spec hcode
  have hstatic : methM.isStatic = true := Cond.static_spec hnamed hmethM hstat
  obtain ⟨kP, hkP, -⟩ := className_of_methodNamed hnamed
  have hinitP : kP.init = .initialized := Cond.initialized_spec (findClass_of_methodNamed hnamed) hkP hinit
  obtain ⟨vm₁, X₁, hstep₁⟩ := X.invokestatic hexec hown hlink hnamed hmethM hstatic hkP hinitP hy (g := g) hg (argsL := argsL) (rest := rest) (hlen _ hsigM) hstack hdg
  rcases hK m meth c ⟨T.setVm vm₁, locs, cells, slots⟩ { g with stack := rest } (.invokestatic index) mk argsL.toArray X₁ hg hsize hdg hW (X₁.named hnamed) (hpre vm₁ X₁.warmed) with ⟨v, B, X', hpost, hsteps⟩ | ⟨q, B, X', hpost, hsteps⟩
  · exact Or.inl ⟨v, vm₁, B, X₁.warmed, X', hpost, fun target h => hstep₁ _ fun acts => by rw [doInvoke_state]; exact hsteps.trans h⟩
  · exact Or.inr ⟨q, vm₁, B, X₁.warmed, X', hpost, hstep₁ _ fun acts => by rw [doInvoke_state]; exact hsteps⟩
theorem vx_callVW (X : Stand p l e R s m args below meth c T locs cells slots) (hexec : p.tables.exec = Jvm.exec) {own C : String} {index : Nat} {y : MethodName} {bytes : ByteArray} {maxL : Nat} {ret : Option FieldType} {hh : List (Nat × Nat × Nat × Nat)}
    (hown : s.vm.findClass own = some m.cls) (hlink : (Cond.methodLink own index y).before args s = true) (hinst : (Cond.instanceMethod y).before args s = true) (hsel : (Cond.selects C y y).before args s = true)
    (hcode : (Cond.codeWith y bytes maxL ret hh).before args s = true) (hy : y.cls ≠ "java/lang/invoke/MethodHandle" ∧ y.cls ≠ "java/lang/invoke/VarHandle")
    {W9 : Nat} {Pre : Pt → Array Value → Prop} {Post : Pt → Array Value → Option Value → Pt → Prop} (hK : Back l R p e below s args y 3 W9 Pre Post)
    {b : Addr} {cellB : Cell} (hcell : T.heap[b]? = some cellB) (hobj : cellB.vm.isStatics = false) (hcls : s.vm.findClass C = some cellB.cls)
    {g : JFrame} (hg : g.method = m) (hsize : g.locals.size = c.maxLocals) {argsL rest : List Value} (hlen : ∀ sig, parseMethodDescriptor y.desc = some sig → argsL.length = sig.parameters.length)
    (hstack : g.stack = argsL.reverse ++ .ref b :: rest) (hW : 2 * g.monitorRoom + (rest.map fun v => v.category).sum ≤ W9) (hdg : decode c.code g.pc = .ok (.invokevirtual index, 3))
    (hpre : ∀ vm₁, s.WarmedH vm₁ → Pre ⟨T.setVm vm₁, locs, cells, slots⟩ (Value.ref b :: argsL).toArray) :
    ∃ (v : Option Value) (vm₁ : Vm) (B : Pt), s.WarmedH vm₁ ∧ Stand p l e R s m args below meth c B.U B.locs B.cells B.slots ∧ Post ⟨T.setVm vm₁, locs, cells, slots⟩ (Value.ref b :: argsL).toArray v B ∧
      ∀ target, Steps p.tables e below (B.U.setTop { g with pc := g.pc + 3, stack := v.toList ++ rest }) target → Steps p.tables e below (T.setTop g) target := by
  obtain ⟨mk, methM, hnamed, hmethM, hstM, habM⟩ := Cond.instanceMethod_spec hinst
  obtain ⟨m8, methM', cM, hn8, hmethM', -, -, -, -, -, -, hsigM⟩ := Cond.codeWith_spec hcode
  cases Option.some.inj (hn8.symm.trans hnamed)
  cases hmethM.symm.trans hmethM'
  obtain ⟨c2, r2, m2, q1, q2, q3, q4, kP, hkP, hkPi⟩ := Cond.selects_spec hsel
  cases hcls.symm.trans q1
  cases (State.methodFound?_of_named hnamed hy).symm.trans q2
  cases hnamed.symm.trans q3
  have hselP : selectMethod e.platform s.vm cellB.cls mk = .method mk := by rw [Launch.admits_selectMethod X.admits]; exact q4
  obtain ⟨vm₁, X₁, hstep₁⟩ := X.invokevirtual hexec hown hlink hnamed hmethM hstM hkP hkPi hy (a := b) (cell := cellB) hcell
    (fun z h => by rw [h] at hobj; cases hobj) hselP hmethM habM hkP hkPi (g := g) hg (argsL := argsL) (rest := rest) (hlen _ hsigM) hstack hdg
  obtain ⟨v, B, X', hpost, hsteps⟩ := hK m meth c ⟨T.setVm vm₁, locs, cells, slots⟩ { g with stack := rest } (.invokevirtual index) mk (Value.ref b :: argsL).toArray X₁ hg hsize hdg hW (X₁.named hnamed) (hpre vm₁ X₁.warmed)
  exact ⟨v, vm₁, B, X₁.warmed, X', hpost, fun target h => hstep₁ _ fun acts => by rw [doInvoke_state]; exact hsteps.trans h⟩
abbrev vx_CVW (R : Room) (s : State) (args : Array Value) (own C : String) (index : Nat) (y : MethodName) (bytes : ByteArray) (maxL : Nat) (ret : Option FieldType) (hh : List (Nat × Nat × Nat × Nat)) (ws : List Cond) (rm : Room) (mc ms n : Nat) : Prop :=
  (rm.cells = mc ∧ rm.slots = ms ∧ rm.frames + 1 ≤ R.frames ∧ 8 + (maxL + 11) + rm.locals ≤ R.locals ∧ (∀ w ∈ ws, ∀ (a' : Array Value) (U : State), s.WarmedH U.vm → w.before a' U = true) ∧ Cond.codeWith y bytes maxL ret hh ∈ ws) ∧
  (Cond.codeWith y bytes maxL ret hh).before args s = true ∧ (Cond.initialized y.cls).before args s = true ∧ (y.cls ≠ "java/lang/invoke/MethodHandle" ∧ y.cls ≠ "java/lang/invoke/VarHandle") ∧
  (∀ sig, parseMethodDescriptor y.desc = some sig → n = sig.parameters.length) ∧ (Cond.methodLink own index y).before args s = true ∧ (Cond.instanceMethod y).before args s = true ∧ (Cond.selects C y y).before args s = true
theorem vx_cwVW {own C : String} {index maxL mc ms : Nat} {y : MethodName} {bytes : ByteArray} {ret : Option FieldType} {hh : List (Nat × Nat × Nat × Nat)} {Ts ws ws' : List Cond} {rm : Room} (n : Nat) (ht : ∀ w ∈ Ts, w.before args s = true) (hT : GoodIn Ts (wsV own index C y ws)) (hw : ws = Cond.codeWith y bytes maxL ret hh :: ws') (hrc : rm.cells = mc) (hrs : rm.slots = ms)
    (hd : y.cls = C ∧ y.cls ≠ "java/lang/invoke/MethodHandle" ∧ y.cls ≠ "java/lang/invoke/VarHandle" ∧ (parseMethodDescriptor y.desc).map (fun d => d.parameters.length) = some n) (hR : rm.frames + 1 ≤ R.frames ∧ 8 + (maxL + 11) + rm.locals ≤ R.locals) :
    vx_CVW R s args own C index y bytes maxL ret hh ws rm mc ms n := by
  obtain ⟨hC, hd⟩ := hd
  subst hC
  have ok : ∀ w ∈ wsV own index y.cls y ws, w.before args s = true := fun w h => ht w (hT w h).1
  have hG : GoodIn Ts ws := fun w h => hT w (by unfold wsV; exact List.mem_append_right _ h)
  have hc : Cond.codeWith y bytes maxL ret hh ∈ ws := by rw [hw]; exact List.mem_cons_self
  refine ⟨⟨hrc, hrs, hR.1, hR.2, pay_in ht hG, hc⟩, ht _ (hG _ hc).1, ok _ (by simp [wsV]), ⟨hd.1, hd.2.1⟩, fun sig h => ?_, ok _ (by simp [wsV]), ok _ (by simp [wsV]), ok _ (by simp [wsV])⟩
  have h2 := hd.2.2
  rw [h] at h2
  exact (Option.some.inj h2).symm
theorem vx_runVW {y : MethodName} {bytes cc : ByteArray} {maxL nL mc ms n index : Nat} {ret : Option FieldType} {hh : List (Nat × Nat × Nat × Nat)} {ws : List Cond} {rm : Room} {Pc : Array Value → State → Prop} {Qc : Array Value → State → Outcome → State → Prop} {free : Addr → Prop} {Ts : List Cond} {own C : String} {b : Addr} {As rest : List Value} {g : JFrame}
    (S : CallFix p m c cc nL s args Ts own) (hM : Met l y ws rm Pc Qc mc ms free) (cw : vx_CVW R s args own C index y bytes maxL ret hh ws rm mc ms n) (hp : PreV s H C b Pc As)
    (hg : g.method = m) (hn : As.length = n) (hsize : g.locals.size = nL) (hstack : g.stack = As.reverse ++ .ref b :: rest) (hW : 2 * g.monitorRoom + (rest.map fun v => v.category).sum ≤ 8) (hdg : decode cc g.pc = .ok (.invokevirtual index, 3)) (hf : cells + mc ≤ R.cells ∧ slots + ms ≤ R.slots) :
    va_Run p l e R s m args below meth c H locs cells slots mc ms g rest (Qc (Value.ref b :: As).toArray) free := by
  obtain ⟨⟨hrc, hrs, hfr, hlo, hws, hcw⟩, hcode, hini, hy, hlen, hl, hin, hse⟩ := cw
  have hK : Back l R p e below s args y 3 8 (PreOf R mc ms Pc) (PostOf Qc mc ms free) := va_backW (hh := hh) (bytes := bytes) (maxL := maxL) (ret := ret) hM hp.1 hrc hrs hfr hlo hws hcw (fun a' U hW => word_at hW (Or.inl (by first | rfl | simp [Cond.onTables, Cond.keeps, Cond.steady])) hini)
  obtain ⟨hx, hb, hml, ho, -⟩ := S
  obtain ⟨-, ⟨cellB, hcB, hoB, hclB⟩, hPc⟩ := hp
  intro T hT X
  obtain ⟨v, vm₁, ⟨U', l2, c2, s2⟩, hW₁, X', ⟨g', mk, t, L, e1, e2, hq, h1, hL, h2, h3⟩, st⟩ := vx_callVW X hx (C := C) (hh := hh) (bytes := bytes) (maxL := maxL) (ret := ret) ho hl hin hse hcode hy hK (by rw [hT]; exact hcB) hoB hclB hg (hsize.trans hml.symm) (argsL := As) (rest := rest) (fun sig h => hn.trans (hlen sig h)) hstack hW (by rw [hb]; exact hdg)
    (fun vm₁ hW₁ => ⟨hf.1, hf.2, hPc (T.setVm vm₁) hT hW₁⟩)
  dsimp only [Pt.U, Pt.locs, Pt.cells, Pt.slots] at X' e1 e2 h1 h2 h3 st
  subst h1; subst h2; subst h3
  exact ⟨v, (T.setVm vm₁).calling g' mk (Value.ref b :: As).toArray, t, U', L, hT, X', hL, e1, e2, hq, st⟩
section
variable {y : MethodName} {bytes cc : ByteArray} {maxL nL mc ms n index : Nat} {ret : Option FieldType} {ws : List Cond} {rm : Room} {Pc : Array Value → State → Prop} {Qc : Array Value → State → Outcome → State → Prop} {XC : String → State → State → Prop} {free : Addr → Prop} {Ts : List Cond} {own C : String} {b : Addr} {As rest : List Value} {g : JFrame}
theorem vx_runVX {hh : List (Nat × Nat × Nat × Nat)} (S : CallFix p m c cc nL s args Ts own) (hM : vx_Met l y ws rm Pc Qc XC mc ms free) (cw : vx_CVW R s args own C index y bytes maxL ret hh ws rm mc ms n) (hp : PreV s H C b Pc As)
    (hg : g.method = m) (hn : As.length = n) (hsize : g.locals.size = nL) (hstack : g.stack = As.reverse ++ .ref b :: rest) (hW : 2 * g.monitorRoom + (rest.map fun v => v.category).sum ≤ 8) (hdg : decode cc g.pc = .ok (.invokevirtual index, 3)) (hf : cells + mc ≤ R.cells ∧ slots + ms ≤ R.slots) :
    vx_Run p l e R s m args below meth c H locs cells slots mc ms g rest (Qc (Value.ref b :: As).toArray) XC free := by
  obtain ⟨⟨hrc, hrs, hfr, hlo, hws, hcw⟩, hcode, hini, hy, hlen, hl, hin, hse⟩ := cw
  have hK : vx_Back l R p e below s args y 3 8 (PreOf R mc ms Pc) (PostOf Qc mc ms free) (vx_Post XC mc ms free) := vx_backW (hh := hh) (bytes := bytes) (maxL := maxL) (ret := ret) hM hp.1 hrc hrs hfr hlo hws hcw (fun a' U hW => word_at hW (Or.inl (by first | rfl | simp [Cond.onTables, Cond.keeps, Cond.steady])) hini)
  obtain ⟨hx, hb, hml, ho, -⟩ := S
  obtain ⟨-, ⟨cellB, hcB, hoB, hclB⟩, hPc⟩ := hp
  intro T hT X
  rcases vx_callVX X hx (C := C) (hh := hh) (bytes := bytes) (maxL := maxL) (ret := ret) ho hl hin hse hcode hy hK (by rw [hT]; exact hcB) hoB hclB hg (hsize.trans hml.symm) (argsL := As) (rest := rest) (fun sig h => hn.trans (hlen sig h)) hstack hW (by rw [hb]; exact hdg)
    (fun vm₁ hW₁ => ⟨hf.1, hf.2, hPc (T.setVm vm₁) hT hW₁⟩) with ⟨v, vm₁, ⟨U', l2, c2, s2⟩, hW₁, X', ⟨g', mk, t, L, e1, e2, hq, h1, hL, h2, h3⟩, st⟩ | ⟨q, vm₁, ⟨U', l2, c2, s2⟩, hW₁, X', ⟨g', mk, t, L, E, ce, e1, e2, hq, hce, hcv, hcl, h1, hL, h2, h3⟩, st⟩
  · dsimp only [Pt.U, Pt.locs, Pt.cells, Pt.slots] at X' e1 e2 h1 h2 h3 st
    subst h1; subst h2; subst h3
    exact Or.inl ⟨v, (T.setVm vm₁).calling g' mk (Value.ref b :: As).toArray, t, U', L, hT, X', hL, e1, e2, hq, st⟩
  · dsimp only [Pt.U, Pt.locs, Pt.cells, Pt.slots] at X' e1 e2 h1 h2 h3 st hcl
    subst h1; subst h2; subst h3
    exact Or.inr ⟨q, (T.setVm vm₁).calling g' mk (Value.ref b :: As).toArray, t, U', L, E, ce, hT, X', hL, e1, e2, hq, hce, hcv, vx_cls hW₁ hcl, st⟩
theorem vx_runSX {hh : List (Nat × Nat × Nat × Nat)} (S : CallFix p m c cc nL s args Ts own) (hM : vx_Met l y ws rm Pc Qc XC mc ms free) (cw : vx_CSW R s args own index y bytes maxL ret hh ws rm mc ms n) (hp : PreS s H Pc As)
    (hg : g.method = m) (hn : As.length = n) (hsize : g.locals.size = nL) (hstack : g.stack = As.reverse ++ rest) (hW : 2 * g.monitorRoom + (rest.map fun v => v.category).sum ≤ 8) (hdg : decode cc g.pc = .ok (.invokestatic index, 3)) (hf : cells + mc ≤ R.cells ∧ slots + ms ≤ R.slots) :
    vx_Run p l e R s m args below meth c H locs cells slots mc ms g rest (Qc As.toArray) XC free := by
  obtain ⟨⟨hrc, hrs, hfr, hlo, hws, hcw⟩, hcode, hini, hy, hlen, hl, hstt⟩ := cw
  have hK : vx_Back l R p e below s args y 3 8 (PreOf R mc ms Pc) (PostOf Qc mc ms free) (vx_Post XC mc ms free) := vx_backW (hh := hh) (bytes := bytes) (maxL := maxL) (ret := ret) hM hp.1 hrc hrs hfr hlo hws hcw (fun a' U hW => word_at hW (Or.inl (by first | rfl | simp [Cond.onTables, Cond.keeps, Cond.steady])) hini)
  obtain ⟨hx, hb, hml, ho, -⟩ := S
  intro T hT X
  rcases vx_callSX X hx (hh := hh) (bytes := bytes) (maxL := maxL) (ret := ret) ho hl hstt hini hcode hy hK hg (hsize.trans hml.symm) (argsL := As) (rest := rest) (fun sig h => hn.trans (hlen sig h)) hstack hW (by rw [hb]; exact hdg)
    (fun vm₁ hW₁ => ⟨hf.1, hf.2, hp.2 (T.setVm vm₁) hT hW₁⟩) with ⟨v, vm₁, ⟨U', l2, c2, s2⟩, hW₁, X', ⟨g', mk, t, L, e1, e2, hq, h1, hL, h2, h3⟩, st⟩ | ⟨q, vm₁, ⟨U', l2, c2, s2⟩, hW₁, X', ⟨g', mk, t, L, E, ce, e1, e2, hq, hce, hcv, hcl, h1, hL, h2, h3⟩, st⟩
  · dsimp only [Pt.U, Pt.locs, Pt.cells, Pt.slots] at X' e1 e2 h1 h2 h3 st
    subst h1; subst h2; subst h3
    exact Or.inl ⟨v, (T.setVm vm₁).calling g' mk As.toArray, t, U', L, hT, X', hL, e1, e2, hq, st⟩
  · dsimp only [Pt.U, Pt.locs, Pt.cells, Pt.slots] at X' e1 e2 h1 h2 h3 st hcl
    subst h1; subst h2; subst h3
    exact Or.inr ⟨q, (T.setVm vm₁).calling g' mk As.toArray, t, U', L, E, ce, hT, X', hL, e1, e2, hq, hce, hcv, vx_cls hW₁ hcl, st⟩
end
end VXH
theorem vx_ofWH {l : Launch} {y : MethodName} {ws ws' : List Cond} {rm : Room} {Pc : Array Value → State → Prop} {Qc : Array Value → State → Outcome → State → Prop} {XC : String → State → State → Prop} {mc ms : Nat} {free : Addr → Prop} {cc : ByteArray} {maxL : Nat} {ret : Option FieldType} {hh : List (Nat × Nat × Nat × Nat)}
    (hy : plainName y.cls = true) (hw : ws = Cond.codeWith y cc maxL ret hh :: ws')
    (body : ∀ p e s m args below meth c s₁, BodyLoose p l y (headSpec ws rm) cc maxL ret e s m args below meth c s₁ → c.maxLocals = maxL → Pc args s →
      W p l e (headSpec ws rm).room s m args below meth c s.heap [] 0 0 (vx_MQ below Qc XC args s mc ms free) (entryFrame m args maxL)) : vx_Met l y ws rm Pc Qc XC mc ms free := by
  refine MetFree.of_bodyS (code := cc) (maxLocals := maxL) (ret := ret) hy ?_ ?_
  · intro args s m h hn
    obtain ⟨m9, meth, c, hn9, h1, h2, h3, h4, -, h5, h6, -⟩ := Cond.codeWith_spec (atoms_spec (ws := ws) h _ (by rw [hw]; exact List.mem_cons_self))
    cases hn.symm.trans hn9
    exact ⟨meth, c, h1, h2, h3, h4, h5, h6⟩
  · intro p e s m args below meth c s₁ B hml hP _
    have hh0 : s₁.heap = s.heap := by rw [B.state]; rfl
    obtain ⟨t, a1, o, b1, b2, b3⟩ := body p e s m args below meth c s₁ B hml hP s₁ hh0 (Stand.of_body B)
    exact ⟨t, o, a1, b1, b2, b3⟩
/-! ===== END ===== -/
end
section
/-! ===== BEGIN printed: names, fields, word lists, decode rows ===== -/
def RX0 : String := "LookbackPlan$Lot"
def TX0 : u_T := fun k => match k with
  | 0 => ("LookbackPlan$Lot", "month", "I", true)
  | 1 => ("LookbackPlan$Lot", "monthPrice", "I", true)
  | 2 => ("LookbackPlan$Lot", "paidEach", "I", true)
  | 3 => ("LookbackPlan$Lot", "offerMonth", "I", true)
  | 4 => ("LookbackPlan$Lot", "offerPrice", "I", true)
  | 5 => ("LookbackPlan$Lot", "bought", "I", true)
  | _ => ("LookbackPlan$Lot", "left", "I", false)
def tyX0 : Nat → FieldType := fun k => match k with
  | 0 => .int
  | 1 => .int
  | 2 => .int
  | 3 => .int
  | 4 => .int
  | 5 => .int
  | _ => .int
abbrev wsX00 : List Cond := u_ws RX0 TX0 7
theorem nmX0 : ∀ a, a < 7 → ∀ b, b < 7 → a ≠ b → (TX0 a).2.1 ≠ (TX0 b).2.1 := by decide +kernel
theorem tyX0_ok : ∀ k, k < 7 → parseFieldDescriptor (TX0 k).2.2.1 = some (tyX0 k) := by decide +kernel
abbrev cX0_init : ByteArray := prog_2_method_1_code
def yX0_init : MethodName := ⟨RX0, "<init>", "(IIIIII)V"⟩
abbrev cX0_isEarly : ByteArray := prog_2_method_2_code
def yX0_isEarly : MethodName := ⟨RX0, "isEarly", "(I)Z"⟩
abbrev cX0_payEach : ByteArray := prog_2_method_3_code
def yX0_payEach : MethodName := ⟨RX0, "payEach", "(II)J"⟩
abbrev cX0_gainEach : ByteArray := prog_2_method_4_code
def yX0_gainEach : MethodName := ⟨RX0, "gainEach", "(II)J"⟩
def RX1 : String := "LookbackPlan$Member"
def TX1 : u_T := fun k => match k with
  | 0 => ("LookbackPlan$Member", "lots", "[LLookbackPlan$Lot;", true)
  | 1 => ("LookbackPlan$Member", "countedByYear", "[J", true)
  | 2 => ("LookbackPlan$Member", "rate", "I", false)
  | 3 => ("LookbackPlan$Member", "hasLeft", "Z", false)
  | 4 => ("LookbackPlan$Member", "money", "J", false)
  | 5 => ("LookbackPlan$Member", "spent", "J", false)
  | 6 => ("LookbackPlan$Member", "givenBack", "J", false)
  | 7 => ("LookbackPlan$Member", "keptOfSlips", "J", false)
  | 8 => ("LookbackPlan$Member", "offerMonth", "I", false)
  | 9 => ("LookbackPlan$Member", "offerPrice", "I", false)
  | 10 => ("LookbackPlan$Member", "offerPurchases", "I", false)
  | 11 => ("LookbackPlan$Member", "resets", "I", false)
  | 12 => ("LookbackPlan$Member", "payOfSales", "J", false)
  | _ => ("LookbackPlan$Member", "gainOfSales", "J", false)
def tyX1 : Nat → FieldType := fun k => match k with
  | 0 => .array (.object "LookbackPlan$Lot")
  | 1 => .array .long
  | 2 => .int
  | 3 => .boolean
  | 4 => .long
  | 5 => .long
  | 6 => .long
  | 7 => .long
  | 8 => .int
  | 9 => .int
  | 10 => .int
  | 11 => .int
  | 12 => .long
  | _ => .long
abbrev wsX10 : List Cond := u_ws RX1 TX1 14
theorem nmX1 : ∀ a, a < 14 → ∀ b, b < 14 → a ≠ b → (TX1 a).2.1 ≠ (TX1 b).2.1 := by decide +kernel
theorem tyX1_ok : ∀ k, k < 14 → parseFieldDescriptor (TX1 k).2.2.1 = some (tyX1 k) := by decide +kernel
abbrev cX1_init : ByteArray := prog_3_method_1_code
def yX1_init : MethodName := ⟨RX1, "<init>", "(III)V"⟩
abbrev cX1_takeSlip : ByteArray := prog_3_method_2_code
def yX1_takeSlip : MethodName := ⟨RX1, "takeSlip", "(I)I"⟩
abbrev cX1_giveBack : ByteArray := prog_3_method_3_code
def yX1_giveBack : MethodName := ⟨RX1, "giveBack", "()J"⟩
abbrev cX1_buyShares : ByteArray := prog_3_method_4_code
def yX1_buyShares : MethodName := ⟨RX1, "buyShares", "(III)V"⟩
abbrev cX1_renewOffer : ByteArray := prog_3_method_5_code
def yX1_renewOffer : MethodName := ⟨RX1, "renewOffer", "(II)V"⟩
abbrev cX1_purchasePrice : ByteArray := prog_3_method_6_code
def yX1_purchasePrice : MethodName := ⟨RX1, "purchasePrice", "(I)I"⟩
abbrev cX1_wholeTimes : ByteArray := prog_3_method_7_code
def yX1_wholeTimes : MethodName := ⟨RX1, "wholeTimes", "(JJ)J"⟩
abbrev cX1_countedIn : ByteArray := prog_3_method_8_code
def yX1_countedIn : MethodName := ⟨RX1, "countedIn", "(I)J"⟩
abbrev cX1_addCounted : ByteArray := prog_3_method_9_code
def yX1_addCounted : MethodName := ⟨RX1, "addCounted", "(IJ)V"⟩
abbrev cX1_lotOf : ByteArray := prog_3_method_10_code
def yX1_lotOf : MethodName := ⟨RX1, "lotOf", "(I)LLookbackPlan$Lot;"⟩
abbrev cX1_putLot : ByteArray := prog_3_method_11_code
def yX1_putLot : MethodName := ⟨RX1, "putLot", "(LLookbackPlan$Lot;)V"⟩
abbrev cX1_sharesHeld : ByteArray := prog_3_method_12_code
def yX1_sharesHeld : MethodName := ⟨RX1, "sharesHeld", "()I"⟩
abbrev cX1_sellOldest : ByteArray := prog_3_method_13_code
def yX1_sellOldest : MethodName := ⟨RX1, "sellOldest", "(III)I"⟩
abbrev cX1_gainIfAllSold : ByteArray := prog_3_method_14_code
def yX1_gainIfAllSold : MethodName := ⟨RX1, "gainIfAllSold", "(II)J"⟩
def RX2 : String := "LookbackPlan"
def TX2 : u_T := fun k => match k with
  | 0 => ("LookbackPlan", "members", "[LLookbackPlan$Member;", true)
  | 1 => ("LookbackPlan", "memberCount", "I", false)
  | 2 => ("LookbackPlan", "month", "I", false)
  | 3 => ("LookbackPlan", "priceNow", "I", false)
  | _ => ("LookbackPlan", "ceiling", "I", false)
def tyX2 : Nat → FieldType := fun k => match k with
  | 0 => .array (.object "LookbackPlan$Member")
  | 1 => .int
  | 2 => .int
  | 3 => .int
  | _ => .int
abbrev wsX20 : List Cond := u_ws RX2 TX2 5
theorem nmX2 : ∀ a, a < 5 → ∀ b, b < 5 → a ≠ b → (TX2 a).2.1 ≠ (TX2 b).2.1 := by decide +kernel
theorem tyX2_ok : ∀ k, k < 5 → parseFieldDescriptor (TX2 k).2.2.1 = some (tyX2 k) := by decide +kernel
abbrev cX2_init : ByteArray := prog_1_method_1_code
def yX2_init : MethodName := ⟨RX2, "<init>", "()V"⟩
abbrev cX2_next : ByteArray := prog_1_method_2_code
def yX2_next : MethodName := ⟨RX2, "next", "(I)I"⟩
abbrev cX2_month : ByteArray := prog_1_method_3_code
def yX2_month : MethodName := ⟨RX2, "month", "()I"⟩
abbrev cX2_ceiling : ByteArray := prog_1_method_4_code
def yX2_ceiling : MethodName := ⟨RX2, "ceiling", "(I)I"⟩
abbrev cX2_join : ByteArray := prog_1_method_5_code
def yX2_join : MethodName := ⟨RX2, "join", "(I)I"⟩
abbrev cX2_rate : ByteArray := prog_1_method_6_code
def yX2_rate : MethodName := ⟨RX2, "rate", "(II)I"⟩
abbrev cX2_slip : ByteArray := prog_1_method_7_code
def yX2_slip : MethodName := ⟨RX2, "slip", "(II)I"⟩
abbrev cX2_leave : ByteArray := prog_1_method_8_code
def yX2_leave : MethodName := ⟨RX2, "leave", "(I)I"⟩
abbrev cX2_money : ByteArray := prog_1_method_9_code
def yX2_money : MethodName := ⟨RX2, "money", "(I)I"⟩
abbrev cX2_offerMonth : ByteArray := prog_1_method_10_code
def yX2_offerMonth : MethodName := ⟨RX2, "offerMonth", "(I)I"⟩
abbrev cX2_offerPrice : ByteArray := prog_1_method_11_code
def yX2_offerPrice : MethodName := ⟨RX2, "offerPrice", "(I)I"⟩
abbrev cX2_resets : ByteArray := prog_1_method_12_code
def yX2_resets : MethodName := ⟨RX2, "resets", "(I)I"⟩
abbrev cX2_shares : ByteArray := prog_1_method_13_code
def yX2_shares : MethodName := ⟨RX2, "shares", "(I)I"⟩
abbrev cX2_bought : ByteArray := prog_1_method_14_code
def yX2_bought : MethodName := ⟨RX2, "bought", "(II)I"⟩
abbrev cX2_paidEach : ByteArray := prog_1_method_15_code
def yX2_paidEach : MethodName := ⟨RX2, "paidEach", "(II)I"⟩
abbrev cX2_counted : ByteArray := prog_1_method_16_code
def yX2_counted : MethodName := ⟨RX2, "counted", "(II)J"⟩
abbrev cX2_traced : ByteArray := prog_1_method_17_code
def yX2_traced : MethodName := ⟨RX2, "traced", "(I)J"⟩
abbrev cX2_kept : ByteArray := prog_1_method_18_code
def yX2_kept : MethodName := ⟨RX2, "kept", "(I)J"⟩
abbrev cX2_sell : ByteArray := prog_1_method_19_code
def yX2_sell : MethodName := ⟨RX2, "sell", "(II)I"⟩
abbrev cX2_pay : ByteArray := prog_1_method_20_code
def yX2_pay : MethodName := ⟨RX2, "pay", "(I)J"⟩
abbrev cX2_gain : ByteArray := prog_1_method_21_code
def yX2_gain : MethodName := ⟨RX2, "gain", "(I)J"⟩
abbrev cX2_gainNow : ByteArray := prog_1_method_22_code
def yX2_gainNow : MethodName := ⟨RX2, "gainNow", "(I)J"⟩
abbrev cX2_memberOrThrow : ByteArray := prog_1_method_23_code
def yX2_memberOrThrow : MethodName := ⟨RX2, "memberOrThrow", "(I)LLookbackPlan$Member;"⟩
abbrev cX2_refuseBadRate : ByteArray := prog_1_method_24_code
def yX2_refuseBadRate : MethodName := ⟨RX2, "refuseBadRate", "(I)V"⟩
abbrev cX2_refuseBadMonth : ByteArray := prog_1_method_25_code
def yX2_refuseBadMonth : MethodName := ⟨RX2, "refuseBadMonth", "(I)V"⟩
abbrev cX2_refuseLeft : ByteArray := prog_1_method_26_code
def yX2_refuseLeft : MethodName := ⟨RX2, "refuseLeft", "(LLookbackPlan$Member;)V"⟩
abbrev cX2_isPurchaseMonth : ByteArray := prog_1_method_27_code
def yX2_isPurchaseMonth : MethodName := ⟨RX2, "isPurchaseMonth", "(I)Z"⟩
abbrev cX2_buyForAll : ByteArray := prog_1_method_28_code
def yX2_buyForAll : MethodName := ⟨RX2, "buyForAll", "()V"⟩
def RX3 : String := "LookbackPlanModel"
def TX3 : u_T := fun k => match k with
  | _ => ("", "", "", false)
def tyX3 : Nat → FieldType := fun k => match k with
  | _ => .int
abbrev wsX30 : List Cond := u_ws RX3 TX3 0
theorem nmX3 : ∀ a, a < 0 → ∀ b, b < 0 → a ≠ b → (TX3 a).2.1 ≠ (TX3 b).2.1 := by decide +kernel
theorem tyX3_ok : ∀ k, k < 0 → parseFieldDescriptor (TX3 k).2.2.1 = some (tyX3 k) := by decide +kernel
def RJ9 : String := "java/lang/Math"
def TJ9 : u_T := fun k => match k with
  | _ => ("", "", "", false)
def tyJ9 : Nat → FieldType := fun k => match k with
  | _ => .int
abbrev wsJ90 : List Cond := u_ws RJ9 TJ9 0
theorem nmJ9 : ∀ a, a < 0 → ∀ b, b < 0 → a ≠ b → (TJ9 a).2.1 ≠ (TJ9 b).2.1 := by decide +kernel
theorem tyJ9_ok : ∀ k, k < 0 → parseFieldDescriptor (TJ9 k).2.2.1 = some (tyJ9 k) := by decide +kernel
abbrev cJ9_max_7cf53 : ByteArray := prog_10_method_65_code
def yJ9_max_7cf53 : MethodName := ⟨RJ9, "max", "(II)I"⟩
abbrev cJ9_min_7cf53 : ByteArray := prog_10_method_69_code
def yJ9_min_7cf53 : MethodName := ⟨RJ9, "min", "(II)I"⟩
abbrev cJ9_min_f86c9 : ByteArray := prog_10_method_70_code
def yJ9_min_f86c9 : MethodName := ⟨RJ9, "min", "(JJ)J"⟩
def RJ0 : String := "java/lang/String"
def TJ0 : u_T := fun k => match k with
  | _ => ("", "", "", false)
def tyJ0 : Nat → FieldType := fun k => match k with
  | _ => .int
abbrev wsJ00 : List Cond := u_ws RJ0 TJ0 0
theorem nmJ0 : ∀ a, a < 0 → ∀ b, b < 0 → a ≠ b → (TJ0 a).2.1 ≠ (TJ0 b).2.1 := by decide +kernel
theorem tyJ0_ok : ∀ k, k < 0 → parseFieldDescriptor (TJ0 k).2.2.1 = some (tyJ0 k) := by decide +kernel
def RL : String := "LookbackPlanLaw"
abbrev cL_cell : ByteArray := method_2_code
def yL_cell : MethodName := ⟨RL, "cell", "([II)I"⟩
abbrev cL_some : ByteArray := method_3_code
def yL_some : MethodName := ⟨RL, "some", "(II)I"⟩
abbrev cL_counted : ByteArray := method_4_code
def yL_counted : MethodName := ⟨RL, "counted", "([I[I[III)J"⟩
abbrev cL_buys : ByteArray := method_5_code
def yL_buys : MethodName := ⟨RL, "buys", "([I[I[I[I[I[I[I[JI)V"⟩
abbrev cL_isEarly : ByteArray := method_6_code
def yL_isEarly : MethodName := ⟨RL, "isEarly", "([I[II)Z"⟩
abbrev cL_payEach : ByteArray := method_7_code
def yL_payEach : MethodName := ⟨RL, "payEach", "([I[I[I[II)I"⟩
abbrev cL_begun : ByteArray := method_8_code
def yL_begun : MethodName := ⟨RL, "begun", "(LLookbackPlan;I)I"⟩
abbrev cL_set : ByteArray := method_9_code
def yL_set : MethodName := ⟨RL, "set", "(LLookbackPlan;II)I"⟩
abbrev cL_act : ByteArray := method_10_code
def yL_act : MethodName := ⟨RL, "act", "(LLookbackPlan;III)I"⟩
abbrev cL_leaves : ByteArray := method_11_code
def yL_leaves : MethodName := ⟨RL, "leaves", "(LLookbackPlan;I)I"⟩
abbrev cL_of : ByteArray := method_12_code
def yL_of : MethodName := ⟨RL, "of", "(LLookbackPlan;III)I"⟩
abbrev cL_sum : ByteArray := method_13_code
def yL_sum : MethodName := ⟨RL, "sum", "(LLookbackPlan;III)J"⟩
abbrev cL_goes : ByteArray := method_14_code
def yL_goes : MethodName := ⟨RL, "goes", "(LLookbackPlan;II[I[I[I[I[I[I[I[J)Z"⟩
abbrev cL_sells : ByteArray := method_15_code
def yL_sells : MethodName := ⟨RL, "sells", "(LLookbackPlan;I[I[I[I[I[I[I[J)Z"⟩
abbrev cL_tells : ByteArray := method_16_code
def yL_tells : MethodName := ⟨RL, "tells", "(LLookbackPlan;I[I[I[I[I[I[I[I[J)Z"⟩
abbrev cL_law : ByteArray := code
def yL_law : MethodName := ⟨RL, "law", "([I)Z"⟩
def wsX0_init : List Cond := .code yX0_init cX0_init 7 none :: ([.methodLink RX0 3 objectInit, .instanceMethod objectInit, .code objectInit ⟨#[0xb1]⟩ 1 none, .fieldLink RX0 9 "LookbackPlan$Lot" "month" "I", .fieldLink RX0 15 "LookbackPlan$Lot" "monthPrice" "I", .fieldLink RX0 18 "LookbackPlan$Lot" "paidEach" "I", .fieldLink RX0 21 "LookbackPlan$Lot" "offerMonth" "I", .fieldLink RX0 24 "LookbackPlan$Lot" "offerPrice" "I", .fieldLink RX0 27 "LookbackPlan$Lot" "bought" "I", .fieldLink RX0 30 "LookbackPlan$Lot" "left" "I"] ++ wsX00)
def wsX0_isEarly : List Cond := .code yX0_isEarly cX0_isEarly 2 (some .boolean) :: ([.fieldLink RX0 21 "LookbackPlan$Lot" "offerMonth" "I", .fieldLink RX0 9 "LookbackPlan$Lot" "month" "I"] ++ wsX00)
def wsX0_payEach : List Cond := .code yX0_payEach cX0_payEach 4 (some .long) :: ([.fieldLink RX0 15 "LookbackPlan$Lot" "monthPrice" "I", .fieldLink RX0 18 "LookbackPlan$Lot" "paidEach" "I", .fieldLink RX0 24 "LookbackPlan$Lot" "offerPrice" "I", .methodLink RX0 37 Lib.Math.min.name, .static Lib.Math.min.name, .initialized "java/lang/Math", .code Lib.Math.min.name Lib.Math.min.code 2 (some .int), .methodLink RX0 43 Lib.Math.max.name, .static Lib.Math.max.name, .code Lib.Math.max.name Lib.Math.max.code 2 (some .int), .methodLink RX0 33 yX0_isEarly, .instanceMethod yX0_isEarly, .selects RX0 yX0_isEarly yX0_isEarly, .initialized RX0, .code yX0_isEarly cX0_isEarly 2 (some .boolean), .fieldLink RX0 21 "LookbackPlan$Lot" "offerMonth" "I", .fieldLink RX0 9 "LookbackPlan$Lot" "month" "I"] ++ wsX00)
def wsX0_gainEach : List Cond := .code yX0_gainEach cX0_gainEach 3 (some .long) :: ([.fieldLink RX0 18 "LookbackPlan$Lot" "paidEach" "I", .methodLink RX0 46 yX0_payEach, .instanceMethod yX0_payEach, .selects RX0 yX0_payEach yX0_payEach, .initialized RX0, .code yX0_payEach cX0_payEach 4 (some .long), .fieldLink RX0 15 "LookbackPlan$Lot" "monthPrice" "I", .fieldLink RX0 24 "LookbackPlan$Lot" "offerPrice" "I", .methodLink RX0 37 Lib.Math.min.name, .static Lib.Math.min.name, .initialized "java/lang/Math", .code Lib.Math.min.name Lib.Math.min.code 2 (some .int), .methodLink RX0 43 Lib.Math.max.name, .static Lib.Math.max.name, .code Lib.Math.max.name Lib.Math.max.code 2 (some .int), .methodLink RX0 33 yX0_isEarly, .instanceMethod yX0_isEarly, .selects RX0 yX0_isEarly yX0_isEarly, .code yX0_isEarly cX0_isEarly 2 (some .boolean), .fieldLink RX0 21 "LookbackPlan$Lot" "offerMonth" "I", .fieldLink RX0 9 "LookbackPlan$Lot" "month" "I"] ++ wsX00)
def wsX1_init : List Cond := .code yX1_init cX1_init 4 none :: ([.methodLink RX1 3 objectInit, .instanceMethod objectInit, .code objectInit ⟨#[0xb1]⟩ 1 none, .classLink RX1 9 RX0, .fieldLink RX1 11 "LookbackPlan$Member" "lots" "[LLookbackPlan$Lot;", .arrayClass .long, .fieldLink RX1 17 "LookbackPlan$Member" "countedByYear" "[J", .fieldLink RX1 21 "LookbackPlan$Member" "rate" "I", .fieldLink RX1 25 "LookbackPlan$Member" "offerMonth" "I", .fieldLink RX1 28 "LookbackPlan$Member" "offerPrice" "I"] ++ wsX10)
def wsX1_takeSlip : List Cond := .code yX1_takeSlip cX1_takeSlip 3 (some .int) :: ([.fieldLink RX1 21 "LookbackPlan$Member" "rate" "I", .fieldLink RX1 31 "LookbackPlan$Member" "money" "J", .fieldLink RX1 35 "LookbackPlan$Member" "keptOfSlips" "J"] ++ wsX10)
def wsX1_giveBack : List Cond := .code yX1_giveBack cX1_giveBack 3 (some .long) :: ([.fieldLink RX1 31 "LookbackPlan$Member" "money" "J", .fieldLink RX1 38 "LookbackPlan$Member" "givenBack" "J", .fieldLink RX1 41 "LookbackPlan$Member" "hasLeft" "Z"] ++ wsX10)
def wsX1_purchasePrice : List Cond := .code yX1_purchasePrice cX1_purchasePrice 1 (some .int) :: ([])
def wsX1_wholeTimes : List Cond := .code yX1_wholeTimes cX1_wholeTimes 4 (some .long) :: ([])
def wsX1_countedIn : List Cond := .code yX1_countedIn cX1_countedIn 2 (some .long) :: ([.fieldLink RX1 17 "LookbackPlan$Member" "countedByYear" "[J"] ++ wsX10)
def wsX1_putLot : List Cond := .code yX1_putLot cX1_putLot 3 none :: ([.fieldLink RX1 11 "LookbackPlan$Member" "lots" "[LLookbackPlan$Lot;"] ++ wsX00 ++ wsX10)
def wsX1_addCounted : List Cond := .code yX1_addCounted cX1_addCounted 4 none :: ([.fieldLink RX1 17 "LookbackPlan$Member" "countedByYear" "[J"] ++ wsX10)
def wsX1_renewOffer : List Cond := .code yX1_renewOffer cX1_renewOffer 4 none :: ([.fieldLink RX1 28 "LookbackPlan$Member" "offerPrice" "I", .fieldLink RX1 86 "LookbackPlan$Member" "resets" "I", .fieldLink RX1 79 "LookbackPlan$Member" "offerPurchases" "I", .fieldLink RX1 25 "LookbackPlan$Member" "offerMonth" "I"] ++ wsX10)
def wsX1_buyShares_r1 : List Cond := [Cond.fieldLink RX1 28 "LookbackPlan$Member" "offerPrice" "I", Cond.methodLink RX1 45 Lib.Math.min.name, Cond.static Lib.Math.min.name, Cond.initialized "java/lang/Math", Cond.code Lib.Math.min.name Lib.Math.min.code 2 (some .int), Cond.fieldLink RX1 31 "LookbackPlan$Member" "money" "J", Cond.methodLink RX1 63 Lib.MathLoose.min_long.x, Cond.static Lib.MathLoose.min_long.x, Cond.code Lib.MathLoose.min_long.x Lib.MathLoose.min_long.code 4 (some .long), Cond.classLink RX1 9 RX0, Cond.instantiable RX0 7, Cond.initialized RX0, Cond.fieldLink RX1 25 "LookbackPlan$Member" "offerMonth" "I", Cond.fieldLink RX1 76 "LookbackPlan$Member" "spent" "J", Cond.fieldLink RX1 79 "LookbackPlan$Member" "offerPurchases" "I", Cond.methodLink RX1 51 yX1_purchasePrice, Cond.static yX1_purchasePrice, Cond.initialized RX1, Cond.code yX1_purchasePrice cX1_purchasePrice 1 (some .int), Cond.methodLink RX1 55 yX1_wholeTimes, Cond.static yX1_wholeTimes, Cond.code yX1_wholeTimes cX1_wholeTimes 4 (some .long), Cond.methodLink RX1 59 yX1_countedIn, Cond.instanceMethod yX1_countedIn]
def wsX1_buyShares_r2 : List Cond := [Cond.selects RX1 yX1_countedIn yX1_countedIn, Cond.code yX1_countedIn cX1_countedIn 2 (some .long), Cond.fieldLink RX1 17 "LookbackPlan$Member" "countedByYear" "[J", Cond.instanceMethod yX0_init, Cond.code yX0_init cX0_init 7 none, Cond.methodLink RX0 3 objectInit, Cond.instanceMethod objectInit, Cond.code objectInit ⟨#[0xb1]⟩ 1 none, Cond.fieldLink RX0 9 "LookbackPlan$Lot" "month" "I", Cond.fieldLink RX0 15 "LookbackPlan$Lot" "monthPrice" "I", Cond.fieldLink RX0 18 "LookbackPlan$Lot" "paidEach" "I", Cond.fieldLink RX0 21 "LookbackPlan$Lot" "offerMonth" "I", Cond.fieldLink RX0 24 "LookbackPlan$Lot" "offerPrice" "I", Cond.fieldLink RX0 27 "LookbackPlan$Lot" "bought" "I", Cond.fieldLink RX0 30 "LookbackPlan$Lot" "left" "I", Cond.methodLink RX1 68 yX1_putLot, Cond.instanceMethod yX1_putLot, Cond.selects RX1 yX1_putLot yX1_putLot, Cond.code yX1_putLot cX1_putLot 3 none, Cond.fieldLink RX1 11 "LookbackPlan$Member" "lots" "[LLookbackPlan$Lot;", Cond.methodLink RX1 72 yX1_addCounted, Cond.instanceMethod yX1_addCounted, Cond.selects RX1 yX1_addCounted yX1_addCounted, Cond.code yX1_addCounted cX1_addCounted 4 none]
def wsX1_buyShares_r3 : List Cond := [Cond.methodLink RX1 82 yX1_renewOffer, Cond.instanceMethod yX1_renewOffer, Cond.selects RX1 yX1_renewOffer yX1_renewOffer, Cond.code yX1_renewOffer cX1_renewOffer 4 none, Cond.fieldLink RX1 86 "LookbackPlan$Member" "resets" "I"]
def wsX1_buyShares : List Cond := .code yX1_buyShares cX1_buyShares 11 none :: ((wsX1_buyShares_r1 ++ (wsX1_buyShares_r2 ++ wsX1_buyShares_r3)) ++ wsX10 ++ wsX00)
def wsX2_isPurchaseMonth : List Cond := .code yX2_isPurchaseMonth cX2_isPurchaseMonth 1 (some .boolean) :: ([])
def wsX1_lotOf : List Cond := .code yX1_lotOf cX1_lotOf 3 (some (.object "LookbackPlan$Lot")) :: ([.fieldLink RX1 11 "LookbackPlan$Member" "lots" "[LLookbackPlan$Lot;", .static yX2_isPurchaseMonth, .initialized RX2, .code yX2_isPurchaseMonth cX2_isPurchaseMonth 1 (some .boolean)] ++ wsX10)
def wsX1_sharesHeld : List Cond := .code yX1_sharesHeld cX1_sharesHeld 4 (some .int) :: ([.fieldLink RX1 11 "LookbackPlan$Member" "lots" "[LLookbackPlan$Lot;"] ++ wsX10 ++ wsX00)
def wsX1_sellOldest_r1 : List Cond := [Cond.fieldLink RX1 11 "LookbackPlan$Member" "lots" "[LLookbackPlan$Lot;", Cond.methodLink RX1 45 Lib.Math.min.name, Cond.static Lib.Math.min.name, Cond.initialized "java/lang/Math", Cond.code Lib.Math.min.name Lib.Math.min.code 2 (some .int), Cond.fieldLink RX1 99 "LookbackPlan$Member" "payOfSales" "J", Cond.fieldLink RX1 106 "LookbackPlan$Member" "gainOfSales" "J", Cond.instanceMethod yX0_payEach, Cond.initialized RX0, Cond.selects RX0 yX0_payEach yX0_payEach, Cond.code yX0_payEach cX0_payEach 4 (some .long), Cond.fieldLink RX0 15 "LookbackPlan$Lot" "monthPrice" "I", Cond.fieldLink RX0 18 "LookbackPlan$Lot" "paidEach" "I", Cond.fieldLink RX0 24 "LookbackPlan$Lot" "offerPrice" "I", Cond.methodLink RX0 37 Lib.Math.min.name, Cond.methodLink RX0 43 Lib.Math.max.name, Cond.static Lib.Math.max.name, Cond.code Lib.Math.max.name Lib.Math.max.code 2 (some .int), Cond.methodLink RX0 33 yX0_isEarly, Cond.instanceMethod yX0_isEarly, Cond.selects RX0 yX0_isEarly yX0_isEarly, Cond.code yX0_isEarly cX0_isEarly 2 (some .boolean), Cond.fieldLink RX0 21 "LookbackPlan$Lot" "offerMonth" "I", Cond.fieldLink RX0 9 "LookbackPlan$Lot" "month" "I"]
def wsX1_sellOldest_r2 : List Cond := [Cond.instanceMethod yX0_gainEach, Cond.selects RX0 yX0_gainEach yX0_gainEach, Cond.code yX0_gainEach cX0_gainEach 3 (some .long), Cond.methodLink RX0 46 yX0_payEach]
def wsX1_sellOldest : List Cond := .code yX1_sellOldest cX1_sellOldest 9 (some .int) :: ((wsX1_sellOldest_r1 ++ wsX1_sellOldest_r2) ++ wsX10 ++ wsX00)
def wsX1_gainIfAllSold_r1 : List Cond := [Cond.fieldLink RX1 11 "LookbackPlan$Member" "lots" "[LLookbackPlan$Lot;", Cond.instanceMethod yX0_gainEach, Cond.initialized RX0, Cond.selects RX0 yX0_gainEach yX0_gainEach, Cond.code yX0_gainEach cX0_gainEach 3 (some .long), Cond.fieldLink RX0 18 "LookbackPlan$Lot" "paidEach" "I", Cond.methodLink RX0 46 yX0_payEach, Cond.instanceMethod yX0_payEach, Cond.selects RX0 yX0_payEach yX0_payEach, Cond.code yX0_payEach cX0_payEach 4 (some .long), Cond.fieldLink RX0 15 "LookbackPlan$Lot" "monthPrice" "I", Cond.fieldLink RX0 24 "LookbackPlan$Lot" "offerPrice" "I", Cond.methodLink RX0 37 Lib.Math.min.name, Cond.static Lib.Math.min.name, Cond.initialized "java/lang/Math", Cond.code Lib.Math.min.name Lib.Math.min.code 2 (some .int), Cond.methodLink RX0 43 Lib.Math.max.name, Cond.static Lib.Math.max.name, Cond.code Lib.Math.max.name Lib.Math.max.code 2 (some .int), Cond.methodLink RX0 33 yX0_isEarly, Cond.instanceMethod yX0_isEarly, Cond.selects RX0 yX0_isEarly yX0_isEarly, Cond.code yX0_isEarly cX0_isEarly 2 (some .boolean), Cond.fieldLink RX0 21 "LookbackPlan$Lot" "offerMonth" "I"]
def wsX1_gainIfAllSold_r2 : List Cond := [Cond.fieldLink RX0 9 "LookbackPlan$Lot" "month" "I"]
def wsX1_gainIfAllSold : List Cond := .code yX1_gainIfAllSold cX1_gainIfAllSold 7 (some .long) :: ((wsX1_gainIfAllSold_r1 ++ wsX1_gainIfAllSold_r2) ++ wsX10 ++ wsX00)
def wsX2_init : List Cond := .code yX2_init cX2_init 1 none :: ([.methodLink RX2 3 objectInit, .instanceMethod objectInit, .code objectInit ⟨#[0xb1]⟩ 1 none, .classLink RX2 9 RX1, .fieldLink RX2 11 "LookbackPlan" "members" "[LLookbackPlan$Member;", .fieldLink RX2 15 "LookbackPlan" "memberCount" "I", .fieldLink RX2 19 "LookbackPlan" "month" "I", .fieldLink RX2 22 "LookbackPlan" "priceNow" "I", .constant RX2 25 (2500000), .fieldLink RX2 26 "LookbackPlan" "ceiling" "I"] ++ wsX20)
def wsX2_buyForAll_r1 : List Cond := [Cond.fieldLink RX2 11 "LookbackPlan" "members" "[LLookbackPlan$Member;", Cond.fieldLink RX2 19 "LookbackPlan" "month" "I", Cond.fieldLink RX2 22 "LookbackPlan" "priceNow" "I", Cond.fieldLink RX2 26 "LookbackPlan" "ceiling" "I", Cond.instanceMethod yX1_buyShares, Cond.initialized RX1, Cond.selects RX1 yX1_buyShares yX1_buyShares, Cond.code yX1_buyShares cX1_buyShares 11 none, Cond.fieldLink RX1 28 "LookbackPlan$Member" "offerPrice" "I", Cond.methodLink RX1 45 Lib.Math.min.name, Cond.static Lib.Math.min.name, Cond.initialized "java/lang/Math", Cond.code Lib.Math.min.name Lib.Math.min.code 2 (some .int), Cond.fieldLink RX1 31 "LookbackPlan$Member" "money" "J", Cond.methodLink RX1 63 Lib.MathLoose.min_long.x, Cond.static Lib.MathLoose.min_long.x, Cond.code Lib.MathLoose.min_long.x Lib.MathLoose.min_long.code 4 (some .long), Cond.classLink RX1 9 RX0, Cond.instantiable RX0 7, Cond.initialized RX0, Cond.fieldLink RX1 25 "LookbackPlan$Member" "offerMonth" "I", Cond.fieldLink RX1 76 "LookbackPlan$Member" "spent" "J", Cond.fieldLink RX1 79 "LookbackPlan$Member" "offerPurchases" "I", Cond.methodLink RX1 51 yX1_purchasePrice]
def wsX2_buyForAll_r2 : List Cond := [Cond.static yX1_purchasePrice, Cond.code yX1_purchasePrice cX1_purchasePrice 1 (some .int), Cond.methodLink RX1 55 yX1_wholeTimes, Cond.static yX1_wholeTimes, Cond.code yX1_wholeTimes cX1_wholeTimes 4 (some .long), Cond.methodLink RX1 59 yX1_countedIn, Cond.instanceMethod yX1_countedIn, Cond.selects RX1 yX1_countedIn yX1_countedIn, Cond.code yX1_countedIn cX1_countedIn 2 (some .long), Cond.fieldLink RX1 17 "LookbackPlan$Member" "countedByYear" "[J", Cond.instanceMethod yX0_init, Cond.code yX0_init cX0_init 7 none, Cond.methodLink RX0 3 objectInit, Cond.instanceMethod objectInit, Cond.code objectInit ⟨#[0xb1]⟩ 1 none, Cond.fieldLink RX0 9 "LookbackPlan$Lot" "month" "I", Cond.fieldLink RX0 15 "LookbackPlan$Lot" "monthPrice" "I", Cond.fieldLink RX0 18 "LookbackPlan$Lot" "paidEach" "I", Cond.fieldLink RX0 21 "LookbackPlan$Lot" "offerMonth" "I", Cond.fieldLink RX0 24 "LookbackPlan$Lot" "offerPrice" "I", Cond.fieldLink RX0 27 "LookbackPlan$Lot" "bought" "I", Cond.fieldLink RX0 30 "LookbackPlan$Lot" "left" "I", Cond.methodLink RX1 68 yX1_putLot, Cond.instanceMethod yX1_putLot]
def wsX2_buyForAll_r3 : List Cond := [Cond.selects RX1 yX1_putLot yX1_putLot, Cond.code yX1_putLot cX1_putLot 3 none, Cond.fieldLink RX1 11 "LookbackPlan$Member" "lots" "[LLookbackPlan$Lot;", Cond.methodLink RX1 72 yX1_addCounted, Cond.instanceMethod yX1_addCounted, Cond.selects RX1 yX1_addCounted yX1_addCounted, Cond.code yX1_addCounted cX1_addCounted 4 none, Cond.methodLink RX1 82 yX1_renewOffer, Cond.instanceMethod yX1_renewOffer, Cond.selects RX1 yX1_renewOffer yX1_renewOffer, Cond.code yX1_renewOffer cX1_renewOffer 4 none, Cond.fieldLink RX1 86 "LookbackPlan$Member" "resets" "I"]
def wsX2_buyForAll : List Cond := .code yX2_buyForAll cX2_buyForAll 3 none :: ((wsX2_buyForAll_r1 ++ (wsX2_buyForAll_r2 ++ wsX2_buyForAll_r3)) ++ wsX20 ++ wsX10 ++ wsX00)
def wsX2_next_r1 : List Cond := [Cond.classLink RX2 30 "java/lang/IllegalArgumentException", Cond.initialized "java/lang/IllegalArgumentException", Cond.classLink RX2 37 "java/lang/IllegalStateException", Cond.initialized "java/lang/IllegalStateException", Cond.constant RX2 29 (100000), Cond.fieldLink RX2 19 "LookbackPlan" "month" "I", Cond.fieldLink RX2 22 "LookbackPlan" "priceNow" "I", Cond.methodLink RX2 42 yX2_isPurchaseMonth, Cond.static yX2_isPurchaseMonth, Cond.initialized RX2, Cond.code yX2_isPurchaseMonth cX2_isPurchaseMonth 1 (some .boolean), Cond.methodLink RX2 46 yX2_buyForAll, Cond.instanceMethod yX2_buyForAll, Cond.selects RX2 yX2_buyForAll yX2_buyForAll, Cond.code yX2_buyForAll cX2_buyForAll 3 none, Cond.fieldLink RX2 11 "LookbackPlan" "members" "[LLookbackPlan$Member;", Cond.fieldLink RX2 26 "LookbackPlan" "ceiling" "I", Cond.instanceMethod yX1_buyShares, Cond.initialized RX1, Cond.selects RX1 yX1_buyShares yX1_buyShares, Cond.code yX1_buyShares cX1_buyShares 11 none, Cond.fieldLink RX1 28 "LookbackPlan$Member" "offerPrice" "I", Cond.methodLink RX1 45 Lib.Math.min.name, Cond.static Lib.Math.min.name]
def wsX2_next_r2 : List Cond := [Cond.initialized "java/lang/Math", Cond.code Lib.Math.min.name Lib.Math.min.code 2 (some .int), Cond.fieldLink RX1 31 "LookbackPlan$Member" "money" "J", Cond.methodLink RX1 63 Lib.MathLoose.min_long.x, Cond.static Lib.MathLoose.min_long.x, Cond.code Lib.MathLoose.min_long.x Lib.MathLoose.min_long.code 4 (some .long), Cond.classLink RX1 9 RX0, Cond.instantiable RX0 7, Cond.initialized RX0, Cond.fieldLink RX1 25 "LookbackPlan$Member" "offerMonth" "I", Cond.fieldLink RX1 76 "LookbackPlan$Member" "spent" "J", Cond.fieldLink RX1 79 "LookbackPlan$Member" "offerPurchases" "I", Cond.methodLink RX1 51 yX1_purchasePrice, Cond.static yX1_purchasePrice, Cond.code yX1_purchasePrice cX1_purchasePrice 1 (some .int), Cond.methodLink RX1 55 yX1_wholeTimes, Cond.static yX1_wholeTimes, Cond.code yX1_wholeTimes cX1_wholeTimes 4 (some .long), Cond.methodLink RX1 59 yX1_countedIn, Cond.instanceMethod yX1_countedIn, Cond.selects RX1 yX1_countedIn yX1_countedIn, Cond.code yX1_countedIn cX1_countedIn 2 (some .long), Cond.fieldLink RX1 17 "LookbackPlan$Member" "countedByYear" "[J", Cond.instanceMethod yX0_init]
def wsX2_next_r3 : List Cond := [Cond.code yX0_init cX0_init 7 none, Cond.methodLink RX0 3 objectInit, Cond.instanceMethod objectInit, Cond.code objectInit ⟨#[0xb1]⟩ 1 none, Cond.fieldLink RX0 9 "LookbackPlan$Lot" "month" "I", Cond.fieldLink RX0 15 "LookbackPlan$Lot" "monthPrice" "I", Cond.fieldLink RX0 18 "LookbackPlan$Lot" "paidEach" "I", Cond.fieldLink RX0 21 "LookbackPlan$Lot" "offerMonth" "I", Cond.fieldLink RX0 24 "LookbackPlan$Lot" "offerPrice" "I", Cond.fieldLink RX0 27 "LookbackPlan$Lot" "bought" "I", Cond.fieldLink RX0 30 "LookbackPlan$Lot" "left" "I", Cond.methodLink RX1 68 yX1_putLot, Cond.instanceMethod yX1_putLot, Cond.selects RX1 yX1_putLot yX1_putLot, Cond.code yX1_putLot cX1_putLot 3 none, Cond.fieldLink RX1 11 "LookbackPlan$Member" "lots" "[LLookbackPlan$Lot;", Cond.methodLink RX1 72 yX1_addCounted, Cond.instanceMethod yX1_addCounted, Cond.selects RX1 yX1_addCounted yX1_addCounted, Cond.code yX1_addCounted cX1_addCounted 4 none, Cond.methodLink RX1 82 yX1_renewOffer, Cond.instanceMethod yX1_renewOffer, Cond.selects RX1 yX1_renewOffer yX1_renewOffer, Cond.code yX1_renewOffer cX1_renewOffer 4 none]
def wsX2_next_r4 : List Cond := [Cond.fieldLink RX1 86 "LookbackPlan$Member" "resets" "I"]
def wsX2_next : List Cond := .code yX2_next cX2_next 2 (some .int) :: ((wsX2_next_r1 ++ (wsX2_next_r2 ++ (wsX2_next_r3 ++ wsX2_next_r4))) ++ wsX20 ++ wsX10 ++ wsX00 ++ (vx_atS RX2 34 "java/lang/IllegalArgumentException" ["java/lang/RuntimeException", "java/lang/Exception"]).filter goodWord ++ (vx_atS RX2 41 "java/lang/IllegalStateException" ["java/lang/RuntimeException", "java/lang/Exception"]).filter goodWord)
def wsX2_month : List Cond := .code yX2_month cX2_month 1 (some .int) :: ([.fieldLink RX2 19 "LookbackPlan" "month" "I"] ++ wsX20)
def wsX2_ceiling : List Cond := .code yX2_ceiling cX2_ceiling 3 (some .int) :: ([.classLink RX2 30 "java/lang/IllegalArgumentException", .initialized "java/lang/IllegalArgumentException", .constant RX2 49 (10000000), .fieldLink RX2 26 "LookbackPlan" "ceiling" "I"] ++ wsX20 ++ (vx_atS RX2 34 "java/lang/IllegalArgumentException" ["java/lang/RuntimeException", "java/lang/Exception"]).filter goodWord)
def wsX2_refuseBadRate : List Cond := .code yX2_refuseBadRate cX2_refuseBadRate 1 none :: ([.classLink RX2 30 "java/lang/IllegalArgumentException", .initialized "java/lang/IllegalArgumentException"] ++ (vx_atS RX2 34 "java/lang/IllegalArgumentException" ["java/lang/RuntimeException", "java/lang/Exception"]).filter goodWord)
def wsX2_join_r1 : List Cond := [Cond.classLink RX2 37 "java/lang/IllegalStateException", Cond.initialized "java/lang/IllegalStateException", Cond.fieldLink RX2 19 "LookbackPlan" "month" "I", Cond.fieldLink RX2 15 "LookbackPlan" "memberCount" "I", Cond.fieldLink RX2 11 "LookbackPlan" "members" "[LLookbackPlan$Member;", Cond.classLink RX2 9 RX1, Cond.instantiable RX1 14, Cond.initialized RX1, Cond.fieldLink RX2 22 "LookbackPlan" "priceNow" "I", Cond.methodLink RX2 52 yX2_refuseBadRate, Cond.static yX2_refuseBadRate, Cond.initialized RX2, Cond.code yX2_refuseBadRate cX2_refuseBadRate 1 none, Cond.classLink RX2 30 "java/lang/IllegalArgumentException", Cond.initialized "java/lang/IllegalArgumentException", Cond.instanceMethod yX1_init, Cond.code yX1_init cX1_init 4 none, Cond.methodLink RX1 3 objectInit, Cond.instanceMethod objectInit, Cond.code objectInit ⟨#[0xb1]⟩ 1 none, Cond.classLink RX1 9 RX0, Cond.fieldLink RX1 11 "LookbackPlan$Member" "lots" "[LLookbackPlan$Lot;", Cond.arrayClass .long, Cond.fieldLink RX1 17 "LookbackPlan$Member" "countedByYear" "[J"]
def wsX2_join_r2 : List Cond := [Cond.fieldLink RX1 21 "LookbackPlan$Member" "rate" "I", Cond.fieldLink RX1 25 "LookbackPlan$Member" "offerMonth" "I", Cond.fieldLink RX1 28 "LookbackPlan$Member" "offerPrice" "I"]
def wsX2_join : List Cond := .code yX2_join cX2_join 3 (some .int) :: ((wsX2_join_r1 ++ wsX2_join_r2) ++ wsX20 ++ wsX10 ++ (vx_atS RX2 41 "java/lang/IllegalStateException" ["java/lang/RuntimeException", "java/lang/Exception"]).filter goodWord ++ (vx_atS RX2 34 "java/lang/IllegalArgumentException" ["java/lang/RuntimeException", "java/lang/Exception"]).filter goodWord)
def wsX2_memberOrThrow : List Cond := .code yX2_memberOrThrow cX2_memberOrThrow 3 (some (.object "LookbackPlan$Member")) :: ([.classLink RX2 117 "java/lang/IndexOutOfBoundsException", .initialized "java/lang/IndexOutOfBoundsException", .fieldLink RX2 11 "LookbackPlan" "members" "[LLookbackPlan$Member;"] ++ wsX20 ++ (vx_atS RX2 121 "java/lang/IndexOutOfBoundsException" ["java/lang/RuntimeException", "java/lang/Exception"]).filter goodWord)
def wsX2_refuseLeft : List Cond := .code yX2_refuseLeft cX2_refuseLeft 1 none :: ([.classLink RX2 37 "java/lang/IllegalStateException", .initialized "java/lang/IllegalStateException"] ++ wsX10 ++ (vx_atS RX2 41 "java/lang/IllegalStateException" ["java/lang/RuntimeException", "java/lang/Exception"]).filter goodWord)
def wsX2_rate : List Cond := .code yX2_rate cX2_rate 5 (some .int) :: ([.methodLink RX2 63 yX2_memberOrThrow, .instanceMethod yX2_memberOrThrow, .selects RX2 yX2_memberOrThrow yX2_memberOrThrow, .initialized RX2, .code yX2_memberOrThrow cX2_memberOrThrow 3 (some (.object "LookbackPlan$Member")), .classLink RX2 117 "java/lang/IndexOutOfBoundsException", .initialized "java/lang/IndexOutOfBoundsException", .fieldLink RX2 11 "LookbackPlan" "members" "[LLookbackPlan$Member;", .methodLink RX2 52 yX2_refuseBadRate, .static yX2_refuseBadRate, .code yX2_refuseBadRate cX2_refuseBadRate 1 none, .classLink RX2 30 "java/lang/IllegalArgumentException", .initialized "java/lang/IllegalArgumentException", .methodLink RX2 67 yX2_refuseLeft, .static yX2_refuseLeft, .code yX2_refuseLeft cX2_refuseLeft 1 none, .classLink RX2 37 "java/lang/IllegalStateException", .initialized "java/lang/IllegalStateException"] ++ wsX10 ++ wsX20 ++ (vx_atS RX2 121 "java/lang/IndexOutOfBoundsException" ["java/lang/RuntimeException", "java/lang/Exception"]).filter goodWord ++ (vx_atS RX2 34 "java/lang/IllegalArgumentException" ["java/lang/RuntimeException", "java/lang/Exception"]).filter goodWord ++ (vx_atS RX2 41 "java/lang/IllegalStateException" ["java/lang/RuntimeException", "java/lang/Exception"]).filter goodWord)
def wsX2_slip : List Cond := .code yX2_slip cX2_slip 4 (some .int) :: ([.classLink RX2 30 "java/lang/IllegalArgumentException", .initialized "java/lang/IllegalArgumentException", .constant RX2 74 (5000000), .methodLink RX2 63 yX2_memberOrThrow, .instanceMethod yX2_memberOrThrow, .selects RX2 yX2_memberOrThrow yX2_memberOrThrow, .initialized RX2, .code yX2_memberOrThrow cX2_memberOrThrow 3 (some (.object "LookbackPlan$Member")), .classLink RX2 117 "java/lang/IndexOutOfBoundsException", .initialized "java/lang/IndexOutOfBoundsException", .fieldLink RX2 11 "LookbackPlan" "members" "[LLookbackPlan$Member;", .methodLink RX2 67 yX2_refuseLeft, .static yX2_refuseLeft, .code yX2_refuseLeft cX2_refuseLeft 1 none, .classLink RX2 37 "java/lang/IllegalStateException", .initialized "java/lang/IllegalStateException", .instanceMethod yX1_takeSlip, .initialized RX1, .selects RX1 yX1_takeSlip yX1_takeSlip, .code yX1_takeSlip cX1_takeSlip 3 (some .int), .fieldLink RX1 21 "LookbackPlan$Member" "rate" "I", .fieldLink RX1 31 "LookbackPlan$Member" "money" "J", .fieldLink RX1 35 "LookbackPlan$Member" "keptOfSlips" "J"] ++ wsX20 ++ wsX10 ++ (vx_atS RX2 34 "java/lang/IllegalArgumentException" ["java/lang/RuntimeException", "java/lang/Exception"]).filter goodWord ++ (vx_atS RX2 121 "java/lang/IndexOutOfBoundsException" ["java/lang/RuntimeException", "java/lang/Exception"]).filter goodWord ++ (vx_atS RX2 41 "java/lang/IllegalStateException" ["java/lang/RuntimeException", "java/lang/Exception"]).filter goodWord)
def wsX2_leave : List Cond := .code yX2_leave cX2_leave 3 (some .int) :: ([.methodLink RX2 63 yX2_memberOrThrow, .instanceMethod yX2_memberOrThrow, .selects RX2 yX2_memberOrThrow yX2_memberOrThrow, .initialized RX2, .code yX2_memberOrThrow cX2_memberOrThrow 3 (some (.object "LookbackPlan$Member")), .classLink RX2 117 "java/lang/IndexOutOfBoundsException", .initialized "java/lang/IndexOutOfBoundsException", .fieldLink RX2 11 "LookbackPlan" "members" "[LLookbackPlan$Member;", .methodLink RX2 67 yX2_refuseLeft, .static yX2_refuseLeft, .code yX2_refuseLeft cX2_refuseLeft 1 none, .classLink RX2 37 "java/lang/IllegalStateException", .initialized "java/lang/IllegalStateException", .instanceMethod yX1_giveBack, .initialized RX1, .selects RX1 yX1_giveBack yX1_giveBack, .code yX1_giveBack cX1_giveBack 3 (some .long), .fieldLink RX1 31 "LookbackPlan$Member" "money" "J", .fieldLink RX1 38 "LookbackPlan$Member" "givenBack" "J", .fieldLink RX1 41 "LookbackPlan$Member" "hasLeft" "Z"] ++ wsX20 ++ wsX10 ++ (vx_atS RX2 121 "java/lang/IndexOutOfBoundsException" ["java/lang/RuntimeException", "java/lang/Exception"]).filter goodWord ++ (vx_atS RX2 41 "java/lang/IllegalStateException" ["java/lang/RuntimeException", "java/lang/Exception"]).filter goodWord)
def wsX2_money : List Cond := .code yX2_money cX2_money 2 (some .int) :: ([.methodLink RX2 63 yX2_memberOrThrow, .instanceMethod yX2_memberOrThrow, .selects RX2 yX2_memberOrThrow yX2_memberOrThrow, .initialized RX2, .code yX2_memberOrThrow cX2_memberOrThrow 3 (some (.object "LookbackPlan$Member")), .classLink RX2 117 "java/lang/IndexOutOfBoundsException", .initialized "java/lang/IndexOutOfBoundsException", .fieldLink RX2 11 "LookbackPlan" "members" "[LLookbackPlan$Member;"] ++ wsX10 ++ wsX20 ++ (vx_atS RX2 121 "java/lang/IndexOutOfBoundsException" ["java/lang/RuntimeException", "java/lang/Exception"]).filter goodWord)
def wsX2_offerMonth : List Cond := .code yX2_offerMonth cX2_offerMonth 2 (some .int) :: ([.methodLink RX2 63 yX2_memberOrThrow, .instanceMethod yX2_memberOrThrow, .selects RX2 yX2_memberOrThrow yX2_memberOrThrow, .initialized RX2, .code yX2_memberOrThrow cX2_memberOrThrow 3 (some (.object "LookbackPlan$Member")), .classLink RX2 117 "java/lang/IndexOutOfBoundsException", .initialized "java/lang/IndexOutOfBoundsException", .fieldLink RX2 11 "LookbackPlan" "members" "[LLookbackPlan$Member;"] ++ wsX10 ++ wsX20 ++ (vx_atS RX2 121 "java/lang/IndexOutOfBoundsException" ["java/lang/RuntimeException", "java/lang/Exception"]).filter goodWord)
def wsX2_offerPrice : List Cond := .code yX2_offerPrice cX2_offerPrice 2 (some .int) :: ([.methodLink RX2 63 yX2_memberOrThrow, .instanceMethod yX2_memberOrThrow, .selects RX2 yX2_memberOrThrow yX2_memberOrThrow, .initialized RX2, .code yX2_memberOrThrow cX2_memberOrThrow 3 (some (.object "LookbackPlan$Member")), .classLink RX2 117 "java/lang/IndexOutOfBoundsException", .initialized "java/lang/IndexOutOfBoundsException", .fieldLink RX2 11 "LookbackPlan" "members" "[LLookbackPlan$Member;"] ++ wsX10 ++ wsX20 ++ (vx_atS RX2 121 "java/lang/IndexOutOfBoundsException" ["java/lang/RuntimeException", "java/lang/Exception"]).filter goodWord)
def wsX2_resets : List Cond := .code yX2_resets cX2_resets 2 (some .int) :: ([.methodLink RX2 63 yX2_memberOrThrow, .instanceMethod yX2_memberOrThrow, .selects RX2 yX2_memberOrThrow yX2_memberOrThrow, .initialized RX2, .code yX2_memberOrThrow cX2_memberOrThrow 3 (some (.object "LookbackPlan$Member")), .classLink RX2 117 "java/lang/IndexOutOfBoundsException", .initialized "java/lang/IndexOutOfBoundsException", .fieldLink RX2 11 "LookbackPlan" "members" "[LLookbackPlan$Member;"] ++ wsX10 ++ wsX20 ++ (vx_atS RX2 121 "java/lang/IndexOutOfBoundsException" ["java/lang/RuntimeException", "java/lang/Exception"]).filter goodWord)
def wsX2_shares : List Cond := .code yX2_shares cX2_shares 2 (some .int) :: ([.methodLink RX2 63 yX2_memberOrThrow, .instanceMethod yX2_memberOrThrow, .selects RX2 yX2_memberOrThrow yX2_memberOrThrow, .initialized RX2, .code yX2_memberOrThrow cX2_memberOrThrow 3 (some (.object "LookbackPlan$Member")), .classLink RX2 117 "java/lang/IndexOutOfBoundsException", .initialized "java/lang/IndexOutOfBoundsException", .fieldLink RX2 11 "LookbackPlan" "members" "[LLookbackPlan$Member;", .instanceMethod yX1_sharesHeld, .initialized RX1, .selects RX1 yX1_sharesHeld yX1_sharesHeld, .code yX1_sharesHeld cX1_sharesHeld 4 (some .int), .fieldLink RX1 11 "LookbackPlan$Member" "lots" "[LLookbackPlan$Lot;"] ++ wsX20 ++ wsX10 ++ wsX00 ++ (vx_atS RX2 121 "java/lang/IndexOutOfBoundsException" ["java/lang/RuntimeException", "java/lang/Exception"]).filter goodWord)
def wsX2_refuseBadMonth : List Cond := .code yX2_refuseBadMonth cX2_refuseBadMonth 1 none :: ([.classLink RX2 117 "java/lang/IndexOutOfBoundsException", .initialized "java/lang/IndexOutOfBoundsException"] ++ (vx_atS RX2 121 "java/lang/IndexOutOfBoundsException" ["java/lang/RuntimeException", "java/lang/Exception"]).filter goodWord)
def wsX2_bought : List Cond := .code yX2_bought cX2_bought 5 (some .int) :: ([.methodLink RX2 63 yX2_memberOrThrow, .instanceMethod yX2_memberOrThrow, .selects RX2 yX2_memberOrThrow yX2_memberOrThrow, .initialized RX2, .code yX2_memberOrThrow cX2_memberOrThrow 3 (some (.object "LookbackPlan$Member")), .classLink RX2 117 "java/lang/IndexOutOfBoundsException", .initialized "java/lang/IndexOutOfBoundsException", .fieldLink RX2 11 "LookbackPlan" "members" "[LLookbackPlan$Member;", .methodLink RX2 102 yX2_refuseBadMonth, .static yX2_refuseBadMonth, .code yX2_refuseBadMonth cX2_refuseBadMonth 1 none, .instanceMethod yX1_lotOf, .initialized RX1, .selects RX1 yX1_lotOf yX1_lotOf, .code yX1_lotOf cX1_lotOf 3 (some (.object "LookbackPlan$Lot")), .fieldLink RX1 11 "LookbackPlan$Member" "lots" "[LLookbackPlan$Lot;", .static yX2_isPurchaseMonth, .code yX2_isPurchaseMonth cX2_isPurchaseMonth 1 (some .boolean)] ++ wsX00 ++ wsX20 ++ wsX10 ++ (vx_atS RX2 121 "java/lang/IndexOutOfBoundsException" ["java/lang/RuntimeException", "java/lang/Exception"]).filter goodWord)
def wsX2_paidEach : List Cond := .code yX2_paidEach cX2_paidEach 5 (some .int) :: ([.methodLink RX2 63 yX2_memberOrThrow, .instanceMethod yX2_memberOrThrow, .selects RX2 yX2_memberOrThrow yX2_memberOrThrow, .initialized RX2, .code yX2_memberOrThrow cX2_memberOrThrow 3 (some (.object "LookbackPlan$Member")), .classLink RX2 117 "java/lang/IndexOutOfBoundsException", .initialized "java/lang/IndexOutOfBoundsException", .fieldLink RX2 11 "LookbackPlan" "members" "[LLookbackPlan$Member;", .methodLink RX2 102 yX2_refuseBadMonth, .static yX2_refuseBadMonth, .code yX2_refuseBadMonth cX2_refuseBadMonth 1 none, .instanceMethod yX1_lotOf, .initialized RX1, .selects RX1 yX1_lotOf yX1_lotOf, .code yX1_lotOf cX1_lotOf 3 (some (.object "LookbackPlan$Lot")), .fieldLink RX1 11 "LookbackPlan$Member" "lots" "[LLookbackPlan$Lot;", .static yX2_isPurchaseMonth, .code yX2_isPurchaseMonth cX2_isPurchaseMonth 1 (some .boolean)] ++ wsX00 ++ wsX20 ++ wsX10 ++ (vx_atS RX2 121 "java/lang/IndexOutOfBoundsException" ["java/lang/RuntimeException", "java/lang/Exception"]).filter goodWord)
def wsX2_counted : List Cond := .code yX2_counted cX2_counted 4 (some .long) :: ([.classLink RX2 117 "java/lang/IndexOutOfBoundsException", .initialized "java/lang/IndexOutOfBoundsException", .methodLink RX2 63 yX2_memberOrThrow, .instanceMethod yX2_memberOrThrow, .selects RX2 yX2_memberOrThrow yX2_memberOrThrow, .initialized RX2, .code yX2_memberOrThrow cX2_memberOrThrow 3 (some (.object "LookbackPlan$Member")), .fieldLink RX2 11 "LookbackPlan" "members" "[LLookbackPlan$Member;", .instanceMethod yX1_countedIn, .initialized RX1, .selects RX1 yX1_countedIn yX1_countedIn, .code yX1_countedIn cX1_countedIn 2 (some .long), .fieldLink RX1 17 "LookbackPlan$Member" "countedByYear" "[J"] ++ wsX20 ++ wsX10 ++ (vx_atS RX2 121 "java/lang/IndexOutOfBoundsException" ["java/lang/RuntimeException", "java/lang/Exception"]).filter goodWord)
def wsX2_traced : List Cond := .code yX2_traced cX2_traced 3 (some .long) :: ([.methodLink RX2 63 yX2_memberOrThrow, .instanceMethod yX2_memberOrThrow, .selects RX2 yX2_memberOrThrow yX2_memberOrThrow, .initialized RX2, .code yX2_memberOrThrow cX2_memberOrThrow 3 (some (.object "LookbackPlan$Member")), .classLink RX2 117 "java/lang/IndexOutOfBoundsException", .initialized "java/lang/IndexOutOfBoundsException", .fieldLink RX2 11 "LookbackPlan" "members" "[LLookbackPlan$Member;"] ++ wsX10 ++ wsX20 ++ (vx_atS RX2 121 "java/lang/IndexOutOfBoundsException" ["java/lang/RuntimeException", "java/lang/Exception"]).filter goodWord)
def wsX2_kept : List Cond := .code yX2_kept cX2_kept 2 (some .long) :: ([.methodLink RX2 63 yX2_memberOrThrow, .instanceMethod yX2_memberOrThrow, .selects RX2 yX2_memberOrThrow yX2_memberOrThrow, .initialized RX2, .code yX2_memberOrThrow cX2_memberOrThrow 3 (some (.object "LookbackPlan$Member")), .classLink RX2 117 "java/lang/IndexOutOfBoundsException", .initialized "java/lang/IndexOutOfBoundsException", .fieldLink RX2 11 "LookbackPlan" "members" "[LLookbackPlan$Member;"] ++ wsX10 ++ wsX20 ++ (vx_atS RX2 121 "java/lang/IndexOutOfBoundsException" ["java/lang/RuntimeException", "java/lang/Exception"]).filter goodWord)
def wsX2_sell_r1 : List Cond := [Cond.classLink RX2 30 "java/lang/IllegalArgumentException", Cond.initialized "java/lang/IllegalArgumentException", Cond.classLink RX2 37 "java/lang/IllegalStateException", Cond.initialized "java/lang/IllegalStateException", Cond.constant RX2 135 (1000000), Cond.fieldLink RX2 19 "LookbackPlan" "month" "I", Cond.fieldLink RX2 22 "LookbackPlan" "priceNow" "I", Cond.methodLink RX2 63 yX2_memberOrThrow, Cond.instanceMethod yX2_memberOrThrow, Cond.selects RX2 yX2_memberOrThrow yX2_memberOrThrow, Cond.initialized RX2, Cond.code yX2_memberOrThrow cX2_memberOrThrow 3 (some (.object "LookbackPlan$Member")), Cond.classLink RX2 117 "java/lang/IndexOutOfBoundsException", Cond.initialized "java/lang/IndexOutOfBoundsException", Cond.fieldLink RX2 11 "LookbackPlan" "members" "[LLookbackPlan$Member;", Cond.instanceMethod yX1_sharesHeld, Cond.initialized RX1, Cond.selects RX1 yX1_sharesHeld yX1_sharesHeld, Cond.code yX1_sharesHeld cX1_sharesHeld 4 (some .int), Cond.fieldLink RX1 11 "LookbackPlan$Member" "lots" "[LLookbackPlan$Lot;", Cond.instanceMethod yX1_sellOldest, Cond.selects RX1 yX1_sellOldest yX1_sellOldest, Cond.code yX1_sellOldest cX1_sellOldest 9 (some .int), Cond.methodLink RX1 45 Lib.Math.min.name]
def wsX2_sell_r2 : List Cond := [Cond.static Lib.Math.min.name, Cond.initialized "java/lang/Math", Cond.code Lib.Math.min.name Lib.Math.min.code 2 (some .int), Cond.fieldLink RX1 99 "LookbackPlan$Member" "payOfSales" "J", Cond.fieldLink RX1 106 "LookbackPlan$Member" "gainOfSales" "J", Cond.instanceMethod yX0_payEach, Cond.initialized RX0, Cond.selects RX0 yX0_payEach yX0_payEach, Cond.code yX0_payEach cX0_payEach 4 (some .long), Cond.fieldLink RX0 15 "LookbackPlan$Lot" "monthPrice" "I", Cond.fieldLink RX0 18 "LookbackPlan$Lot" "paidEach" "I", Cond.fieldLink RX0 24 "LookbackPlan$Lot" "offerPrice" "I", Cond.methodLink RX0 37 Lib.Math.min.name, Cond.methodLink RX0 43 Lib.Math.max.name, Cond.static Lib.Math.max.name, Cond.code Lib.Math.max.name Lib.Math.max.code 2 (some .int), Cond.methodLink RX0 33 yX0_isEarly, Cond.instanceMethod yX0_isEarly, Cond.selects RX0 yX0_isEarly yX0_isEarly, Cond.code yX0_isEarly cX0_isEarly 2 (some .boolean), Cond.fieldLink RX0 21 "LookbackPlan$Lot" "offerMonth" "I", Cond.fieldLink RX0 9 "LookbackPlan$Lot" "month" "I", Cond.instanceMethod yX0_gainEach, Cond.selects RX0 yX0_gainEach yX0_gainEach]
def wsX2_sell_r3 : List Cond := [Cond.code yX0_gainEach cX0_gainEach 3 (some .long), Cond.methodLink RX0 46 yX0_payEach]
def wsX2_sell : List Cond := .code yX2_sell cX2_sell 4 (some .int) :: ((wsX2_sell_r1 ++ (wsX2_sell_r2 ++ wsX2_sell_r3)) ++ wsX20 ++ wsX10 ++ wsX00 ++ (vx_atS RX2 34 "java/lang/IllegalArgumentException" ["java/lang/RuntimeException", "java/lang/Exception"]).filter goodWord ++ (vx_atS RX2 41 "java/lang/IllegalStateException" ["java/lang/RuntimeException", "java/lang/Exception"]).filter goodWord ++ (vx_atS RX2 121 "java/lang/IndexOutOfBoundsException" ["java/lang/RuntimeException", "java/lang/Exception"]).filter goodWord)
def wsX2_pay : List Cond := .code yX2_pay cX2_pay 2 (some .long) :: ([.methodLink RX2 63 yX2_memberOrThrow, .instanceMethod yX2_memberOrThrow, .selects RX2 yX2_memberOrThrow yX2_memberOrThrow, .initialized RX2, .code yX2_memberOrThrow cX2_memberOrThrow 3 (some (.object "LookbackPlan$Member")), .classLink RX2 117 "java/lang/IndexOutOfBoundsException", .initialized "java/lang/IndexOutOfBoundsException", .fieldLink RX2 11 "LookbackPlan" "members" "[LLookbackPlan$Member;"] ++ wsX10 ++ wsX20 ++ (vx_atS RX2 121 "java/lang/IndexOutOfBoundsException" ["java/lang/RuntimeException", "java/lang/Exception"]).filter goodWord)
def wsX2_gain : List Cond := .code yX2_gain cX2_gain 2 (some .long) :: ([.methodLink RX2 63 yX2_memberOrThrow, .instanceMethod yX2_memberOrThrow, .selects RX2 yX2_memberOrThrow yX2_memberOrThrow, .initialized RX2, .code yX2_memberOrThrow cX2_memberOrThrow 3 (some (.object "LookbackPlan$Member")), .classLink RX2 117 "java/lang/IndexOutOfBoundsException", .initialized "java/lang/IndexOutOfBoundsException", .fieldLink RX2 11 "LookbackPlan" "members" "[LLookbackPlan$Member;"] ++ wsX10 ++ wsX20 ++ (vx_atS RX2 121 "java/lang/IndexOutOfBoundsException" ["java/lang/RuntimeException", "java/lang/Exception"]).filter goodWord)
def wsX2_gainNow_r1 : List Cond := [Cond.fieldLink RX2 19 "LookbackPlan" "month" "I", Cond.fieldLink RX2 22 "LookbackPlan" "priceNow" "I", Cond.methodLink RX2 63 yX2_memberOrThrow, Cond.instanceMethod yX2_memberOrThrow, Cond.selects RX2 yX2_memberOrThrow yX2_memberOrThrow, Cond.initialized RX2, Cond.code yX2_memberOrThrow cX2_memberOrThrow 3 (some (.object "LookbackPlan$Member")), Cond.classLink RX2 117 "java/lang/IndexOutOfBoundsException", Cond.initialized "java/lang/IndexOutOfBoundsException", Cond.fieldLink RX2 11 "LookbackPlan" "members" "[LLookbackPlan$Member;", Cond.instanceMethod yX1_gainIfAllSold, Cond.initialized RX1, Cond.selects RX1 yX1_gainIfAllSold yX1_gainIfAllSold, Cond.code yX1_gainIfAllSold cX1_gainIfAllSold 7 (some .long), Cond.fieldLink RX1 11 "LookbackPlan$Member" "lots" "[LLookbackPlan$Lot;", Cond.instanceMethod yX0_gainEach, Cond.initialized RX0, Cond.selects RX0 yX0_gainEach yX0_gainEach, Cond.code yX0_gainEach cX0_gainEach 3 (some .long), Cond.fieldLink RX0 18 "LookbackPlan$Lot" "paidEach" "I", Cond.methodLink RX0 46 yX0_payEach, Cond.instanceMethod yX0_payEach, Cond.selects RX0 yX0_payEach yX0_payEach, Cond.code yX0_payEach cX0_payEach 4 (some .long)]
def wsX2_gainNow_r2 : List Cond := [Cond.fieldLink RX0 15 "LookbackPlan$Lot" "monthPrice" "I", Cond.fieldLink RX0 24 "LookbackPlan$Lot" "offerPrice" "I", Cond.methodLink RX0 37 Lib.Math.min.name, Cond.static Lib.Math.min.name, Cond.initialized "java/lang/Math", Cond.code Lib.Math.min.name Lib.Math.min.code 2 (some .int), Cond.methodLink RX0 43 Lib.Math.max.name, Cond.static Lib.Math.max.name, Cond.code Lib.Math.max.name Lib.Math.max.code 2 (some .int), Cond.methodLink RX0 33 yX0_isEarly, Cond.instanceMethod yX0_isEarly, Cond.selects RX0 yX0_isEarly yX0_isEarly, Cond.code yX0_isEarly cX0_isEarly 2 (some .boolean), Cond.fieldLink RX0 21 "LookbackPlan$Lot" "offerMonth" "I", Cond.fieldLink RX0 9 "LookbackPlan$Lot" "month" "I"]
def wsX2_gainNow : List Cond := .code yX2_gainNow cX2_gainNow 2 (some .long) :: ((wsX2_gainNow_r1 ++ wsX2_gainNow_r2) ++ wsX20 ++ wsX10 ++ wsX00 ++ (vx_atS RX2 121 "java/lang/IndexOutOfBoundsException" ["java/lang/RuntimeException", "java/lang/Exception"]).filter goodWord)
def wsJ9_max_7cf53 : List Cond := .code yJ9_max_7cf53 cJ9_max_7cf53 2 (some .int) :: ([])
def wsJ9_min_7cf53 : List Cond := .code yJ9_min_7cf53 cJ9_min_7cf53 2 (some .int) :: ([])
def wsJ9_min_f86c9 : List Cond := .code yJ9_min_f86c9 cJ9_min_f86c9 4 (some .long) :: ([])
def wsL_cell : List Cond := .code yL_cell cL_cell 2 (some .int) :: ([.constantLong RL 7 (3266489917)])
def wsL_some : List Cond := .code yL_some cL_some 2 (some .int) :: ([])
def wsL_counted : List Cond := .code yL_counted cL_counted 8 (some .long) :: ([])
def wsL_buys : List Cond := .code yL_buys cL_buys 16 none :: ([.constant RL 15 (1000000), .methodLink RL 9 yL_counted, .static yL_counted, .initialized RL, .code yL_counted cL_counted 8 (some .long)])
def wsL_isEarly : List Cond := .code yL_isEarly cL_isEarly 4 (some .boolean) :: ([])
def wsL_payEach : List Cond := .code yL_payEach cL_payEach 7 (some .int) :: ([.methodLink RL 16 yL_isEarly, .static yL_isEarly, .initialized RL, .code yL_isEarly cL_isEarly 4 (some .boolean)])
def wsL_begun_r1 : List Cond := [Cond.classLink RL 26 "java/lang/IllegalArgumentException", Cond.classLink RL 28 "java/lang/IllegalStateException", Cond.methodLink RL 20 yX2_next, Cond.instanceMethod yX2_next, Cond.selects RX2 yX2_next yX2_next, Cond.initialized RX2, Cond.code yX2_next cX2_next 2 (some .int), Cond.classLink RX2 30 "java/lang/IllegalArgumentException", Cond.initialized "java/lang/IllegalArgumentException", Cond.classLink RX2 37 "java/lang/IllegalStateException", Cond.initialized "java/lang/IllegalStateException", Cond.constant RX2 29 (100000), Cond.fieldLink RX2 19 "LookbackPlan" "month" "I", Cond.fieldLink RX2 22 "LookbackPlan" "priceNow" "I", Cond.methodLink RX2 42 yX2_isPurchaseMonth, Cond.static yX2_isPurchaseMonth, Cond.code yX2_isPurchaseMonth cX2_isPurchaseMonth 1 (some .boolean), Cond.methodLink RX2 46 yX2_buyForAll, Cond.instanceMethod yX2_buyForAll, Cond.selects RX2 yX2_buyForAll yX2_buyForAll, Cond.code yX2_buyForAll cX2_buyForAll 3 none, Cond.fieldLink RX2 11 "LookbackPlan" "members" "[LLookbackPlan$Member;", Cond.fieldLink RX2 26 "LookbackPlan" "ceiling" "I", Cond.instanceMethod yX1_buyShares]
def wsL_begun_r2 : List Cond := [Cond.initialized RX1, Cond.selects RX1 yX1_buyShares yX1_buyShares, Cond.code yX1_buyShares cX1_buyShares 11 none, Cond.fieldLink RX1 28 "LookbackPlan$Member" "offerPrice" "I", Cond.methodLink RX1 45 Lib.Math.min.name, Cond.static Lib.Math.min.name, Cond.initialized "java/lang/Math", Cond.code Lib.Math.min.name Lib.Math.min.code 2 (some .int), Cond.fieldLink RX1 31 "LookbackPlan$Member" "money" "J", Cond.methodLink RX1 63 Lib.MathLoose.min_long.x, Cond.static Lib.MathLoose.min_long.x, Cond.code Lib.MathLoose.min_long.x Lib.MathLoose.min_long.code 4 (some .long), Cond.classLink RX1 9 RX0, Cond.instantiable RX0 7, Cond.initialized RX0, Cond.fieldLink RX1 25 "LookbackPlan$Member" "offerMonth" "I", Cond.fieldLink RX1 76 "LookbackPlan$Member" "spent" "J", Cond.fieldLink RX1 79 "LookbackPlan$Member" "offerPurchases" "I", Cond.methodLink RX1 51 yX1_purchasePrice, Cond.static yX1_purchasePrice, Cond.code yX1_purchasePrice cX1_purchasePrice 1 (some .int), Cond.methodLink RX1 55 yX1_wholeTimes, Cond.static yX1_wholeTimes, Cond.code yX1_wholeTimes cX1_wholeTimes 4 (some .long)]
def wsL_begun_r3 : List Cond := [Cond.methodLink RX1 59 yX1_countedIn, Cond.instanceMethod yX1_countedIn, Cond.selects RX1 yX1_countedIn yX1_countedIn, Cond.code yX1_countedIn cX1_countedIn 2 (some .long), Cond.fieldLink RX1 17 "LookbackPlan$Member" "countedByYear" "[J", Cond.instanceMethod yX0_init, Cond.code yX0_init cX0_init 7 none, Cond.methodLink RX0 3 objectInit, Cond.instanceMethod objectInit, Cond.code objectInit ⟨#[0xb1]⟩ 1 none, Cond.fieldLink RX0 9 "LookbackPlan$Lot" "month" "I", Cond.fieldLink RX0 15 "LookbackPlan$Lot" "monthPrice" "I", Cond.fieldLink RX0 18 "LookbackPlan$Lot" "paidEach" "I", Cond.fieldLink RX0 21 "LookbackPlan$Lot" "offerMonth" "I", Cond.fieldLink RX0 24 "LookbackPlan$Lot" "offerPrice" "I", Cond.fieldLink RX0 27 "LookbackPlan$Lot" "bought" "I", Cond.fieldLink RX0 30 "LookbackPlan$Lot" "left" "I", Cond.methodLink RX1 68 yX1_putLot, Cond.instanceMethod yX1_putLot, Cond.selects RX1 yX1_putLot yX1_putLot, Cond.code yX1_putLot cX1_putLot 3 none, Cond.fieldLink RX1 11 "LookbackPlan$Member" "lots" "[LLookbackPlan$Lot;", Cond.methodLink RX1 72 yX1_addCounted, Cond.instanceMethod yX1_addCounted]
def wsL_begun_r4 : List Cond := [Cond.selects RX1 yX1_addCounted yX1_addCounted, Cond.code yX1_addCounted cX1_addCounted 4 none, Cond.methodLink RX1 82 yX1_renewOffer, Cond.instanceMethod yX1_renewOffer, Cond.selects RX1 yX1_renewOffer yX1_renewOffer, Cond.code yX1_renewOffer cX1_renewOffer 4 none, Cond.fieldLink RX1 86 "LookbackPlan$Member" "resets" "I"]
def wsL_begun : List Cond := .codeWith yL_begun cL_begun 3 (some .int) [(0, 5, 6, 26), (0, 5, 10, 28)] :: ((wsL_begun_r1 ++ (wsL_begun_r2 ++ (wsL_begun_r3 ++ wsL_begun_r4))) ++ wsX20 ++ wsX10 ++ wsX00 ++ (vx_atS RX2 34 "java/lang/IllegalArgumentException" ["java/lang/RuntimeException", "java/lang/Exception"]).filter goodWord ++ (vx_atS RX2 41 "java/lang/IllegalStateException" ["java/lang/RuntimeException", "java/lang/Exception"]).filter goodWord)
def wsL_set_r1 : List Cond := [Cond.classLink RL 26 "java/lang/IllegalArgumentException", Cond.classLink RL 28 "java/lang/IllegalStateException", Cond.methodLink RL 30 yX2_ceiling, Cond.instanceMethod yX2_ceiling, Cond.selects RX2 yX2_ceiling yX2_ceiling, Cond.initialized RX2, Cond.code yX2_ceiling cX2_ceiling 3 (some .int), Cond.classLink RX2 30 "java/lang/IllegalArgumentException", Cond.initialized "java/lang/IllegalArgumentException", Cond.constant RX2 49 (10000000), Cond.fieldLink RX2 26 "LookbackPlan" "ceiling" "I", Cond.methodLink RL 33 yX2_join, Cond.instanceMethod yX2_join, Cond.selects RX2 yX2_join yX2_join, Cond.code yX2_join cX2_join 3 (some .int), Cond.classLink RX2 37 "java/lang/IllegalStateException", Cond.initialized "java/lang/IllegalStateException", Cond.fieldLink RX2 19 "LookbackPlan" "month" "I", Cond.fieldLink RX2 15 "LookbackPlan" "memberCount" "I", Cond.fieldLink RX2 11 "LookbackPlan" "members" "[LLookbackPlan$Member;", Cond.classLink RX2 9 RX1, Cond.instantiable RX1 14, Cond.initialized RX1, Cond.fieldLink RX2 22 "LookbackPlan" "priceNow" "I"]
def wsL_set_r2 : List Cond := [Cond.methodLink RX2 52 yX2_refuseBadRate, Cond.static yX2_refuseBadRate, Cond.code yX2_refuseBadRate cX2_refuseBadRate 1 none, Cond.instanceMethod yX1_init, Cond.code yX1_init cX1_init 4 none, Cond.methodLink RX1 3 objectInit, Cond.instanceMethod objectInit, Cond.code objectInit ⟨#[0xb1]⟩ 1 none, Cond.classLink RX1 9 RX0, Cond.fieldLink RX1 11 "LookbackPlan$Member" "lots" "[LLookbackPlan$Lot;", Cond.arrayClass .long, Cond.fieldLink RX1 17 "LookbackPlan$Member" "countedByYear" "[J", Cond.fieldLink RX1 21 "LookbackPlan$Member" "rate" "I", Cond.fieldLink RX1 25 "LookbackPlan$Member" "offerMonth" "I", Cond.fieldLink RX1 28 "LookbackPlan$Member" "offerPrice" "I"]
def wsL_set : List Cond := .codeWith yL_set cL_set 4 (some .int) [(0, 17, 18, 26), (0, 17, 22, 28)] :: ((wsL_set_r1 ++ wsL_set_r2) ++ wsX20 ++ wsX10 ++ (vx_atS RX2 34 "java/lang/IllegalArgumentException" ["java/lang/RuntimeException", "java/lang/Exception"]).filter goodWord ++ (vx_atS RX2 41 "java/lang/IllegalStateException" ["java/lang/RuntimeException", "java/lang/Exception"]).filter goodWord)
def wsL_act_r1 : List Cond := [Cond.classLink RL 46 "java/lang/IndexOutOfBoundsException", Cond.classLink RL 26 "java/lang/IllegalArgumentException", Cond.classLink RL 28 "java/lang/IllegalStateException", Cond.methodLink RL 36 yX2_rate, Cond.instanceMethod yX2_rate, Cond.selects RX2 yX2_rate yX2_rate, Cond.initialized RX2, Cond.code yX2_rate cX2_rate 5 (some .int), Cond.methodLink RX2 63 yX2_memberOrThrow, Cond.instanceMethod yX2_memberOrThrow, Cond.selects RX2 yX2_memberOrThrow yX2_memberOrThrow, Cond.code yX2_memberOrThrow cX2_memberOrThrow 3 (some (.object "LookbackPlan$Member")), Cond.classLink RX2 117 "java/lang/IndexOutOfBoundsException", Cond.initialized "java/lang/IndexOutOfBoundsException", Cond.fieldLink RX2 11 "LookbackPlan" "members" "[LLookbackPlan$Member;", Cond.methodLink RX2 52 yX2_refuseBadRate, Cond.static yX2_refuseBadRate, Cond.code yX2_refuseBadRate cX2_refuseBadRate 1 none, Cond.classLink RX2 30 "java/lang/IllegalArgumentException", Cond.initialized "java/lang/IllegalArgumentException", Cond.methodLink RX2 67 yX2_refuseLeft, Cond.static yX2_refuseLeft, Cond.code yX2_refuseLeft cX2_refuseLeft 1 none, Cond.classLink RX2 37 "java/lang/IllegalStateException"]
def wsL_act_r2 : List Cond := [Cond.initialized "java/lang/IllegalStateException", Cond.methodLink RL 40 yX2_slip, Cond.instanceMethod yX2_slip, Cond.selects RX2 yX2_slip yX2_slip, Cond.code yX2_slip cX2_slip 4 (some .int), Cond.constant RX2 74 (5000000), Cond.instanceMethod yX1_takeSlip, Cond.initialized RX1, Cond.selects RX1 yX1_takeSlip yX1_takeSlip, Cond.code yX1_takeSlip cX1_takeSlip 3 (some .int), Cond.fieldLink RX1 21 "LookbackPlan$Member" "rate" "I", Cond.fieldLink RX1 31 "LookbackPlan$Member" "money" "J", Cond.fieldLink RX1 35 "LookbackPlan$Member" "keptOfSlips" "J", Cond.methodLink RL 43 yX2_sell, Cond.instanceMethod yX2_sell, Cond.selects RX2 yX2_sell yX2_sell, Cond.code yX2_sell cX2_sell 4 (some .int), Cond.constant RX2 135 (1000000), Cond.fieldLink RX2 19 "LookbackPlan" "month" "I", Cond.fieldLink RX2 22 "LookbackPlan" "priceNow" "I", Cond.instanceMethod yX1_sharesHeld, Cond.selects RX1 yX1_sharesHeld yX1_sharesHeld, Cond.code yX1_sharesHeld cX1_sharesHeld 4 (some .int), Cond.fieldLink RX1 11 "LookbackPlan$Member" "lots" "[LLookbackPlan$Lot;"]
def wsL_act_r3 : List Cond := [Cond.instanceMethod yX1_sellOldest, Cond.selects RX1 yX1_sellOldest yX1_sellOldest, Cond.code yX1_sellOldest cX1_sellOldest 9 (some .int), Cond.methodLink RX1 45 Lib.Math.min.name, Cond.static Lib.Math.min.name, Cond.initialized "java/lang/Math", Cond.code Lib.Math.min.name Lib.Math.min.code 2 (some .int), Cond.fieldLink RX1 99 "LookbackPlan$Member" "payOfSales" "J", Cond.fieldLink RX1 106 "LookbackPlan$Member" "gainOfSales" "J", Cond.instanceMethod yX0_payEach, Cond.initialized RX0, Cond.selects RX0 yX0_payEach yX0_payEach, Cond.code yX0_payEach cX0_payEach 4 (some .long), Cond.fieldLink RX0 15 "LookbackPlan$Lot" "monthPrice" "I", Cond.fieldLink RX0 18 "LookbackPlan$Lot" "paidEach" "I", Cond.fieldLink RX0 24 "LookbackPlan$Lot" "offerPrice" "I", Cond.methodLink RX0 37 Lib.Math.min.name, Cond.methodLink RX0 43 Lib.Math.max.name, Cond.static Lib.Math.max.name, Cond.code Lib.Math.max.name Lib.Math.max.code 2 (some .int), Cond.methodLink RX0 33 yX0_isEarly, Cond.instanceMethod yX0_isEarly, Cond.selects RX0 yX0_isEarly yX0_isEarly, Cond.code yX0_isEarly cX0_isEarly 2 (some .boolean)]
def wsL_act_r4 : List Cond := [Cond.fieldLink RX0 21 "LookbackPlan$Lot" "offerMonth" "I", Cond.fieldLink RX0 9 "LookbackPlan$Lot" "month" "I", Cond.instanceMethod yX0_gainEach, Cond.selects RX0 yX0_gainEach yX0_gainEach, Cond.code yX0_gainEach cX0_gainEach 3 (some .long), Cond.methodLink RX0 46 yX0_payEach]
def wsL_act : List Cond := .codeWith yL_act cL_act 5 (some .int) [(0, 33, 34, 46), (0, 33, 39, 26), (0, 33, 44, 28)] :: ((wsL_act_r1 ++ (wsL_act_r2 ++ (wsL_act_r3 ++ wsL_act_r4))) ++ wsX10 ++ wsX20 ++ wsX00 ++ (vx_atS RX2 121 "java/lang/IndexOutOfBoundsException" ["java/lang/RuntimeException", "java/lang/Exception"]).filter goodWord ++ (vx_atS RX2 34 "java/lang/IllegalArgumentException" ["java/lang/RuntimeException", "java/lang/Exception"]).filter goodWord ++ (vx_atS RX2 41 "java/lang/IllegalStateException" ["java/lang/RuntimeException", "java/lang/Exception"]).filter goodWord)
def wsL_leaves_r1 : List Cond := [Cond.classLink RL 46 "java/lang/IndexOutOfBoundsException", Cond.classLink RL 28 "java/lang/IllegalStateException", Cond.methodLink RL 48 yX2_leave, Cond.instanceMethod yX2_leave, Cond.selects RX2 yX2_leave yX2_leave, Cond.initialized RX2, Cond.code yX2_leave cX2_leave 3 (some .int), Cond.methodLink RX2 63 yX2_memberOrThrow, Cond.instanceMethod yX2_memberOrThrow, Cond.selects RX2 yX2_memberOrThrow yX2_memberOrThrow, Cond.code yX2_memberOrThrow cX2_memberOrThrow 3 (some (.object "LookbackPlan$Member")), Cond.classLink RX2 117 "java/lang/IndexOutOfBoundsException", Cond.initialized "java/lang/IndexOutOfBoundsException", Cond.fieldLink RX2 11 "LookbackPlan" "members" "[LLookbackPlan$Member;", Cond.methodLink RX2 67 yX2_refuseLeft, Cond.static yX2_refuseLeft, Cond.code yX2_refuseLeft cX2_refuseLeft 1 none, Cond.classLink RX2 37 "java/lang/IllegalStateException", Cond.initialized "java/lang/IllegalStateException", Cond.instanceMethod yX1_giveBack, Cond.initialized RX1, Cond.selects RX1 yX1_giveBack yX1_giveBack, Cond.code yX1_giveBack cX1_giveBack 3 (some .long), Cond.fieldLink RX1 31 "LookbackPlan$Member" "money" "J"]
def wsL_leaves_r2 : List Cond := [Cond.fieldLink RX1 38 "LookbackPlan$Member" "givenBack" "J", Cond.fieldLink RX1 41 "LookbackPlan$Member" "hasLeft" "Z"]
def wsL_leaves : List Cond := .codeWith yL_leaves cL_leaves 3 (some .int) [(0, 5, 6, 46), (0, 5, 10, 28)] :: ((wsL_leaves_r1 ++ wsL_leaves_r2) ++ wsX20 ++ wsX10 ++ (vx_atS RX2 121 "java/lang/IndexOutOfBoundsException" ["java/lang/RuntimeException", "java/lang/Exception"]).filter goodWord ++ (vx_atS RX2 41 "java/lang/IllegalStateException" ["java/lang/RuntimeException", "java/lang/Exception"]).filter goodWord)
def wsL_of_r1 : List Cond := [Cond.classLink RL 46 "java/lang/IndexOutOfBoundsException", Cond.methodLink RL 51 yX2_money, Cond.instanceMethod yX2_money, Cond.selects RX2 yX2_money yX2_money, Cond.initialized RX2, Cond.code yX2_money cX2_money 2 (some .int), Cond.methodLink RX2 63 yX2_memberOrThrow, Cond.instanceMethod yX2_memberOrThrow, Cond.selects RX2 yX2_memberOrThrow yX2_memberOrThrow, Cond.code yX2_memberOrThrow cX2_memberOrThrow 3 (some (.object "LookbackPlan$Member")), Cond.classLink RX2 117 "java/lang/IndexOutOfBoundsException", Cond.initialized "java/lang/IndexOutOfBoundsException", Cond.fieldLink RX2 11 "LookbackPlan" "members" "[LLookbackPlan$Member;", Cond.methodLink RL 54 yX2_offerMonth, Cond.instanceMethod yX2_offerMonth, Cond.selects RX2 yX2_offerMonth yX2_offerMonth, Cond.code yX2_offerMonth cX2_offerMonth 2 (some .int), Cond.methodLink RL 57 yX2_offerPrice, Cond.instanceMethod yX2_offerPrice, Cond.selects RX2 yX2_offerPrice yX2_offerPrice, Cond.code yX2_offerPrice cX2_offerPrice 2 (some .int), Cond.methodLink RL 60 yX2_resets, Cond.instanceMethod yX2_resets, Cond.selects RX2 yX2_resets yX2_resets]
def wsL_of_r2 : List Cond := [Cond.code yX2_resets cX2_resets 2 (some .int), Cond.methodLink RL 63 yX2_shares, Cond.instanceMethod yX2_shares, Cond.selects RX2 yX2_shares yX2_shares, Cond.code yX2_shares cX2_shares 2 (some .int), Cond.instanceMethod yX1_sharesHeld, Cond.initialized RX1, Cond.selects RX1 yX1_sharesHeld yX1_sharesHeld, Cond.code yX1_sharesHeld cX1_sharesHeld 4 (some .int), Cond.fieldLink RX1 11 "LookbackPlan$Member" "lots" "[LLookbackPlan$Lot;", Cond.methodLink RL 66 yX2_bought, Cond.instanceMethod yX2_bought, Cond.selects RX2 yX2_bought yX2_bought, Cond.code yX2_bought cX2_bought 5 (some .int), Cond.methodLink RX2 102 yX2_refuseBadMonth, Cond.static yX2_refuseBadMonth, Cond.code yX2_refuseBadMonth cX2_refuseBadMonth 1 none, Cond.instanceMethod yX1_lotOf, Cond.selects RX1 yX1_lotOf yX1_lotOf, Cond.code yX1_lotOf cX1_lotOf 3 (some (.object "LookbackPlan$Lot")), Cond.static yX2_isPurchaseMonth, Cond.code yX2_isPurchaseMonth cX2_isPurchaseMonth 1 (some .boolean), Cond.methodLink RL 69 yX2_paidEach, Cond.instanceMethod yX2_paidEach]
def wsL_of_r3 : List Cond := [Cond.selects RX2 yX2_paidEach yX2_paidEach, Cond.code yX2_paidEach cX2_paidEach 5 (some .int)]
def wsL_of : List Cond := .codeWith yL_of cL_of 5 (some .int) [(0, 84, 85, 46)] :: ((wsL_of_r1 ++ (wsL_of_r2 ++ wsL_of_r3)) ++ wsX10 ++ wsX20 ++ wsX00 ++ (vx_atS RX2 121 "java/lang/IndexOutOfBoundsException" ["java/lang/RuntimeException", "java/lang/Exception"]).filter goodWord)
def wsL_sum_r1 : List Cond := [Cond.classLink RL 46 "java/lang/IndexOutOfBoundsException", Cond.constantLong RL 91 (-987654321987654321), Cond.methodLink RL 72 yX2_counted, Cond.instanceMethod yX2_counted, Cond.selects RX2 yX2_counted yX2_counted, Cond.initialized RX2, Cond.code yX2_counted cX2_counted 4 (some .long), Cond.classLink RX2 117 "java/lang/IndexOutOfBoundsException", Cond.initialized "java/lang/IndexOutOfBoundsException", Cond.methodLink RX2 63 yX2_memberOrThrow, Cond.instanceMethod yX2_memberOrThrow, Cond.selects RX2 yX2_memberOrThrow yX2_memberOrThrow, Cond.code yX2_memberOrThrow cX2_memberOrThrow 3 (some (.object "LookbackPlan$Member")), Cond.fieldLink RX2 11 "LookbackPlan" "members" "[LLookbackPlan$Member;", Cond.instanceMethod yX1_countedIn, Cond.initialized RX1, Cond.selects RX1 yX1_countedIn yX1_countedIn, Cond.code yX1_countedIn cX1_countedIn 2 (some .long), Cond.fieldLink RX1 17 "LookbackPlan$Member" "countedByYear" "[J", Cond.methodLink RL 75 yX2_traced, Cond.instanceMethod yX2_traced, Cond.selects RX2 yX2_traced yX2_traced, Cond.code yX2_traced cX2_traced 3 (some .long), Cond.methodLink RL 79 yX2_kept]
def wsL_sum_r2 : List Cond := [Cond.instanceMethod yX2_kept, Cond.selects RX2 yX2_kept yX2_kept, Cond.code yX2_kept cX2_kept 2 (some .long), Cond.methodLink RL 82 yX2_pay, Cond.instanceMethod yX2_pay, Cond.selects RX2 yX2_pay yX2_pay, Cond.code yX2_pay cX2_pay 2 (some .long), Cond.methodLink RL 85 yX2_gain, Cond.instanceMethod yX2_gain, Cond.selects RX2 yX2_gain yX2_gain, Cond.code yX2_gain cX2_gain 2 (some .long), Cond.methodLink RL 88 yX2_gainNow, Cond.instanceMethod yX2_gainNow, Cond.selects RX2 yX2_gainNow yX2_gainNow, Cond.code yX2_gainNow cX2_gainNow 2 (some .long), Cond.fieldLink RX2 19 "LookbackPlan" "month" "I", Cond.fieldLink RX2 22 "LookbackPlan" "priceNow" "I", Cond.instanceMethod yX1_gainIfAllSold, Cond.selects RX1 yX1_gainIfAllSold yX1_gainIfAllSold, Cond.code yX1_gainIfAllSold cX1_gainIfAllSold 7 (some .long), Cond.fieldLink RX1 11 "LookbackPlan$Member" "lots" "[LLookbackPlan$Lot;", Cond.instanceMethod yX0_gainEach, Cond.initialized RX0, Cond.selects RX0 yX0_gainEach yX0_gainEach]
def wsL_sum_r3 : List Cond := [Cond.code yX0_gainEach cX0_gainEach 3 (some .long), Cond.fieldLink RX0 18 "LookbackPlan$Lot" "paidEach" "I", Cond.methodLink RX0 46 yX0_payEach, Cond.instanceMethod yX0_payEach, Cond.selects RX0 yX0_payEach yX0_payEach, Cond.code yX0_payEach cX0_payEach 4 (some .long), Cond.fieldLink RX0 15 "LookbackPlan$Lot" "monthPrice" "I", Cond.fieldLink RX0 24 "LookbackPlan$Lot" "offerPrice" "I", Cond.methodLink RX0 37 Lib.Math.min.name, Cond.static Lib.Math.min.name, Cond.initialized "java/lang/Math", Cond.code Lib.Math.min.name Lib.Math.min.code 2 (some .int), Cond.methodLink RX0 43 Lib.Math.max.name, Cond.static Lib.Math.max.name, Cond.code Lib.Math.max.name Lib.Math.max.code 2 (some .int), Cond.methodLink RX0 33 yX0_isEarly, Cond.instanceMethod yX0_isEarly, Cond.selects RX0 yX0_isEarly yX0_isEarly, Cond.code yX0_isEarly cX0_isEarly 2 (some .boolean), Cond.fieldLink RX0 21 "LookbackPlan$Lot" "offerMonth" "I", Cond.fieldLink RX0 9 "LookbackPlan$Lot" "month" "I"]
def wsL_sum : List Cond := .codeWith yL_sum cL_sum 5 (some .long) [(0, 70, 71, 46)] :: ((wsL_sum_r1 ++ (wsL_sum_r2 ++ wsL_sum_r3)) ++ wsX20 ++ wsX10 ++ wsX00 ++ (vx_atS RX2 121 "java/lang/IndexOutOfBoundsException" ["java/lang/RuntimeException", "java/lang/Exception"]).filter goodWord)
def wsL_goes_r1 : List Cond := [Cond.constant RL 96 (100001), Cond.constant RL 97 (100000), Cond.constant RL 106 (10000001), Cond.constant RL 107 (2500000), Cond.constant RL 108 (300000), Cond.constant RL 120 (5000001), Cond.constant RL 121 (400000), Cond.methodLink RL 93 yL_some, Cond.static yL_some, Cond.initialized RL, Cond.code yL_some cL_some 2 (some .int), Cond.methodLink RL 98 yL_buys, Cond.static yL_buys, Cond.code yL_buys cL_buys 16 none, Cond.constant RL 15 (1000000), Cond.methodLink RL 9 yL_counted, Cond.static yL_counted, Cond.code yL_counted cL_counted 8 (some .long), Cond.methodLink RL 102 yL_begun, Cond.static yL_begun, Cond.codeWith yL_begun cL_begun 3 (some .int) [(0, 5, 6, 26), (0, 5, 10, 28)], Cond.classLink RL 26 "java/lang/IllegalArgumentException", Cond.classLink RL 28 "java/lang/IllegalStateException", Cond.methodLink RL 20 yX2_next]
def wsL_goes_r2 : List Cond := [Cond.instanceMethod yX2_next, Cond.selects RX2 yX2_next yX2_next, Cond.initialized RX2, Cond.code yX2_next cX2_next 2 (some .int), Cond.classLink RX2 30 "java/lang/IllegalArgumentException", Cond.initialized "java/lang/IllegalArgumentException", Cond.classLink RX2 37 "java/lang/IllegalStateException", Cond.initialized "java/lang/IllegalStateException", Cond.constant RX2 29 (100000), Cond.fieldLink RX2 19 "LookbackPlan" "month" "I", Cond.fieldLink RX2 22 "LookbackPlan" "priceNow" "I", Cond.methodLink RX2 42 yX2_isPurchaseMonth, Cond.static yX2_isPurchaseMonth, Cond.code yX2_isPurchaseMonth cX2_isPurchaseMonth 1 (some .boolean), Cond.methodLink RX2 46 yX2_buyForAll, Cond.instanceMethod yX2_buyForAll, Cond.selects RX2 yX2_buyForAll yX2_buyForAll, Cond.code yX2_buyForAll cX2_buyForAll 3 none, Cond.fieldLink RX2 11 "LookbackPlan" "members" "[LLookbackPlan$Member;", Cond.fieldLink RX2 26 "LookbackPlan" "ceiling" "I", Cond.instanceMethod yX1_buyShares, Cond.initialized RX1, Cond.selects RX1 yX1_buyShares yX1_buyShares, Cond.code yX1_buyShares cX1_buyShares 11 none]
def wsL_goes_r3 : List Cond := [Cond.fieldLink RX1 28 "LookbackPlan$Member" "offerPrice" "I", Cond.methodLink RX1 45 Lib.Math.min.name, Cond.static Lib.Math.min.name, Cond.initialized "java/lang/Math", Cond.code Lib.Math.min.name Lib.Math.min.code 2 (some .int), Cond.fieldLink RX1 31 "LookbackPlan$Member" "money" "J", Cond.methodLink RX1 63 Lib.MathLoose.min_long.x, Cond.static Lib.MathLoose.min_long.x, Cond.code Lib.MathLoose.min_long.x Lib.MathLoose.min_long.code 4 (some .long), Cond.classLink RX1 9 RX0, Cond.instantiable RX0 7, Cond.initialized RX0, Cond.fieldLink RX1 25 "LookbackPlan$Member" "offerMonth" "I", Cond.fieldLink RX1 76 "LookbackPlan$Member" "spent" "J", Cond.fieldLink RX1 79 "LookbackPlan$Member" "offerPurchases" "I", Cond.methodLink RX1 51 yX1_purchasePrice, Cond.static yX1_purchasePrice, Cond.code yX1_purchasePrice cX1_purchasePrice 1 (some .int), Cond.methodLink RX1 55 yX1_wholeTimes, Cond.static yX1_wholeTimes, Cond.code yX1_wholeTimes cX1_wholeTimes 4 (some .long), Cond.methodLink RX1 59 yX1_countedIn, Cond.instanceMethod yX1_countedIn, Cond.selects RX1 yX1_countedIn yX1_countedIn]
def wsL_goes_r4 : List Cond := [Cond.code yX1_countedIn cX1_countedIn 2 (some .long), Cond.fieldLink RX1 17 "LookbackPlan$Member" "countedByYear" "[J", Cond.instanceMethod yX0_init, Cond.code yX0_init cX0_init 7 none, Cond.methodLink RX0 3 objectInit, Cond.instanceMethod objectInit, Cond.code objectInit ⟨#[0xb1]⟩ 1 none, Cond.fieldLink RX0 9 "LookbackPlan$Lot" "month" "I", Cond.fieldLink RX0 15 "LookbackPlan$Lot" "monthPrice" "I", Cond.fieldLink RX0 18 "LookbackPlan$Lot" "paidEach" "I", Cond.fieldLink RX0 21 "LookbackPlan$Lot" "offerMonth" "I", Cond.fieldLink RX0 24 "LookbackPlan$Lot" "offerPrice" "I", Cond.fieldLink RX0 27 "LookbackPlan$Lot" "bought" "I", Cond.fieldLink RX0 30 "LookbackPlan$Lot" "left" "I", Cond.methodLink RX1 68 yX1_putLot, Cond.instanceMethod yX1_putLot, Cond.selects RX1 yX1_putLot yX1_putLot, Cond.code yX1_putLot cX1_putLot 3 none, Cond.fieldLink RX1 11 "LookbackPlan$Member" "lots" "[LLookbackPlan$Lot;", Cond.methodLink RX1 72 yX1_addCounted, Cond.instanceMethod yX1_addCounted, Cond.selects RX1 yX1_addCounted yX1_addCounted, Cond.code yX1_addCounted cX1_addCounted 4 none, Cond.methodLink RX1 82 yX1_renewOffer]
def wsL_goes_r5 : List Cond := [Cond.instanceMethod yX1_renewOffer, Cond.selects RX1 yX1_renewOffer yX1_renewOffer, Cond.code yX1_renewOffer cX1_renewOffer 4 none, Cond.fieldLink RX1 86 "LookbackPlan$Member" "resets" "I", Cond.methodLink RL 109 yL_set, Cond.static yL_set, Cond.codeWith yL_set cL_set 4 (some .int) [(0, 17, 18, 26), (0, 17, 22, 28)], Cond.methodLink RL 30 yX2_ceiling, Cond.instanceMethod yX2_ceiling, Cond.selects RX2 yX2_ceiling yX2_ceiling, Cond.code yX2_ceiling cX2_ceiling 3 (some .int), Cond.constant RX2 49 (10000000), Cond.methodLink RL 33 yX2_join, Cond.instanceMethod yX2_join, Cond.selects RX2 yX2_join yX2_join, Cond.code yX2_join cX2_join 3 (some .int), Cond.fieldLink RX2 15 "LookbackPlan" "memberCount" "I", Cond.classLink RX2 9 RX1, Cond.instantiable RX1 14, Cond.methodLink RX2 52 yX2_refuseBadRate, Cond.static yX2_refuseBadRate, Cond.code yX2_refuseBadRate cX2_refuseBadRate 1 none, Cond.instanceMethod yX1_init, Cond.code yX1_init cX1_init 4 none]
def wsL_goes_r6 : List Cond := [Cond.methodLink RX1 3 objectInit, Cond.arrayClass .long, Cond.fieldLink RX1 21 "LookbackPlan$Member" "rate" "I", Cond.methodLink RL 113 yL_act, Cond.static yL_act, Cond.codeWith yL_act cL_act 5 (some .int) [(0, 33, 34, 46), (0, 33, 39, 26), (0, 33, 44, 28)], Cond.classLink RL 46 "java/lang/IndexOutOfBoundsException", Cond.methodLink RL 36 yX2_rate, Cond.instanceMethod yX2_rate, Cond.selects RX2 yX2_rate yX2_rate, Cond.code yX2_rate cX2_rate 5 (some .int), Cond.methodLink RX2 63 yX2_memberOrThrow, Cond.instanceMethod yX2_memberOrThrow, Cond.selects RX2 yX2_memberOrThrow yX2_memberOrThrow, Cond.code yX2_memberOrThrow cX2_memberOrThrow 3 (some (.object "LookbackPlan$Member")), Cond.classLink RX2 117 "java/lang/IndexOutOfBoundsException", Cond.initialized "java/lang/IndexOutOfBoundsException", Cond.methodLink RX2 67 yX2_refuseLeft, Cond.static yX2_refuseLeft, Cond.code yX2_refuseLeft cX2_refuseLeft 1 none, Cond.methodLink RL 40 yX2_slip, Cond.instanceMethod yX2_slip, Cond.selects RX2 yX2_slip yX2_slip, Cond.code yX2_slip cX2_slip 4 (some .int)]
def wsL_goes_r7 : List Cond := [Cond.constant RX2 74 (5000000), Cond.instanceMethod yX1_takeSlip, Cond.selects RX1 yX1_takeSlip yX1_takeSlip, Cond.code yX1_takeSlip cX1_takeSlip 3 (some .int), Cond.fieldLink RX1 35 "LookbackPlan$Member" "keptOfSlips" "J", Cond.methodLink RL 43 yX2_sell, Cond.instanceMethod yX2_sell, Cond.selects RX2 yX2_sell yX2_sell, Cond.code yX2_sell cX2_sell 4 (some .int), Cond.constant RX2 135 (1000000), Cond.instanceMethod yX1_sharesHeld, Cond.selects RX1 yX1_sharesHeld yX1_sharesHeld, Cond.code yX1_sharesHeld cX1_sharesHeld 4 (some .int), Cond.instanceMethod yX1_sellOldest, Cond.selects RX1 yX1_sellOldest yX1_sellOldest, Cond.code yX1_sellOldest cX1_sellOldest 9 (some .int), Cond.fieldLink RX1 99 "LookbackPlan$Member" "payOfSales" "J", Cond.fieldLink RX1 106 "LookbackPlan$Member" "gainOfSales" "J", Cond.instanceMethod yX0_payEach, Cond.selects RX0 yX0_payEach yX0_payEach, Cond.code yX0_payEach cX0_payEach 4 (some .long), Cond.methodLink RX0 37 Lib.Math.min.name, Cond.methodLink RX0 43 Lib.Math.max.name, Cond.static Lib.Math.max.name]
def wsL_goes_r8 : List Cond := [Cond.code Lib.Math.max.name Lib.Math.max.code 2 (some .int), Cond.methodLink RX0 33 yX0_isEarly, Cond.instanceMethod yX0_isEarly, Cond.selects RX0 yX0_isEarly yX0_isEarly, Cond.code yX0_isEarly cX0_isEarly 2 (some .boolean), Cond.instanceMethod yX0_gainEach, Cond.selects RX0 yX0_gainEach yX0_gainEach, Cond.code yX0_gainEach cX0_gainEach 3 (some .long), Cond.methodLink RX0 46 yX0_payEach, Cond.methodLink RL 117 yL_leaves, Cond.static yL_leaves, Cond.codeWith yL_leaves cL_leaves 3 (some .int) [(0, 5, 6, 46), (0, 5, 10, 28)], Cond.methodLink RL 48 yX2_leave, Cond.instanceMethod yX2_leave, Cond.selects RX2 yX2_leave yX2_leave, Cond.code yX2_leave cX2_leave 3 (some .int), Cond.instanceMethod yX1_giveBack, Cond.selects RX1 yX1_giveBack yX1_giveBack, Cond.code yX1_giveBack cX1_giveBack 3 (some .long), Cond.fieldLink RX1 38 "LookbackPlan$Member" "givenBack" "J", Cond.fieldLink RX1 41 "LookbackPlan$Member" "hasLeft" "Z"]
def wsL_goes : List Cond := .code yL_goes cL_goes 19 (some .boolean) :: ((wsL_goes_r1 ++ (wsL_goes_r2 ++ (wsL_goes_r3 ++ (wsL_goes_r4 ++ (wsL_goes_r5 ++ (wsL_goes_r6 ++ (wsL_goes_r7 ++ wsL_goes_r8))))))) ++ wsX20 ++ wsX10 ++ wsX00 ++ (vx_atS RX2 34 "java/lang/IllegalArgumentException" ["java/lang/RuntimeException", "java/lang/Exception"]).filter goodWord ++ (vx_atS RX2 41 "java/lang/IllegalStateException" ["java/lang/RuntimeException", "java/lang/Exception"]).filter goodWord ++ (vx_atS RX2 121 "java/lang/IndexOutOfBoundsException" ["java/lang/RuntimeException", "java/lang/Exception"]).filter goodWord)
def wsL_sells_r1 : List Cond := [Cond.constant RL 122 (1000001), Cond.methodLink RL 93 yL_some, Cond.static yL_some, Cond.initialized RL, Cond.code yL_some cL_some 2 (some .int), Cond.methodLink RL 123 yL_payEach, Cond.static yL_payEach, Cond.code yL_payEach cL_payEach 7 (some .int), Cond.methodLink RL 16 yL_isEarly, Cond.static yL_isEarly, Cond.code yL_isEarly cL_isEarly 4 (some .boolean), Cond.methodLink RL 113 yL_act, Cond.static yL_act, Cond.codeWith yL_act cL_act 5 (some .int) [(0, 33, 34, 46), (0, 33, 39, 26), (0, 33, 44, 28)], Cond.classLink RL 46 "java/lang/IndexOutOfBoundsException", Cond.classLink RL 26 "java/lang/IllegalArgumentException", Cond.classLink RL 28 "java/lang/IllegalStateException", Cond.methodLink RL 36 yX2_rate, Cond.instanceMethod yX2_rate, Cond.selects RX2 yX2_rate yX2_rate, Cond.initialized RX2, Cond.code yX2_rate cX2_rate 5 (some .int), Cond.methodLink RX2 63 yX2_memberOrThrow, Cond.instanceMethod yX2_memberOrThrow]
def wsL_sells_r2 : List Cond := [Cond.selects RX2 yX2_memberOrThrow yX2_memberOrThrow, Cond.code yX2_memberOrThrow cX2_memberOrThrow 3 (some (.object "LookbackPlan$Member")), Cond.classLink RX2 117 "java/lang/IndexOutOfBoundsException", Cond.initialized "java/lang/IndexOutOfBoundsException", Cond.fieldLink RX2 11 "LookbackPlan" "members" "[LLookbackPlan$Member;", Cond.methodLink RX2 52 yX2_refuseBadRate, Cond.static yX2_refuseBadRate, Cond.code yX2_refuseBadRate cX2_refuseBadRate 1 none, Cond.classLink RX2 30 "java/lang/IllegalArgumentException", Cond.initialized "java/lang/IllegalArgumentException", Cond.methodLink RX2 67 yX2_refuseLeft, Cond.static yX2_refuseLeft, Cond.code yX2_refuseLeft cX2_refuseLeft 1 none, Cond.classLink RX2 37 "java/lang/IllegalStateException", Cond.initialized "java/lang/IllegalStateException", Cond.methodLink RL 40 yX2_slip, Cond.instanceMethod yX2_slip, Cond.selects RX2 yX2_slip yX2_slip, Cond.code yX2_slip cX2_slip 4 (some .int), Cond.constant RX2 74 (5000000), Cond.instanceMethod yX1_takeSlip, Cond.initialized RX1, Cond.selects RX1 yX1_takeSlip yX1_takeSlip, Cond.code yX1_takeSlip cX1_takeSlip 3 (some .int)]
def wsL_sells_r3 : List Cond := [Cond.fieldLink RX1 21 "LookbackPlan$Member" "rate" "I", Cond.fieldLink RX1 31 "LookbackPlan$Member" "money" "J", Cond.fieldLink RX1 35 "LookbackPlan$Member" "keptOfSlips" "J", Cond.methodLink RL 43 yX2_sell, Cond.instanceMethod yX2_sell, Cond.selects RX2 yX2_sell yX2_sell, Cond.code yX2_sell cX2_sell 4 (some .int), Cond.constant RX2 135 (1000000), Cond.fieldLink RX2 19 "LookbackPlan" "month" "I", Cond.fieldLink RX2 22 "LookbackPlan" "priceNow" "I", Cond.instanceMethod yX1_sharesHeld, Cond.selects RX1 yX1_sharesHeld yX1_sharesHeld, Cond.code yX1_sharesHeld cX1_sharesHeld 4 (some .int), Cond.fieldLink RX1 11 "LookbackPlan$Member" "lots" "[LLookbackPlan$Lot;", Cond.instanceMethod yX1_sellOldest, Cond.selects RX1 yX1_sellOldest yX1_sellOldest, Cond.code yX1_sellOldest cX1_sellOldest 9 (some .int), Cond.methodLink RX1 45 Lib.Math.min.name, Cond.static Lib.Math.min.name, Cond.initialized "java/lang/Math", Cond.code Lib.Math.min.name Lib.Math.min.code 2 (some .int), Cond.fieldLink RX1 99 "LookbackPlan$Member" "payOfSales" "J", Cond.fieldLink RX1 106 "LookbackPlan$Member" "gainOfSales" "J", Cond.instanceMethod yX0_payEach]
def wsL_sells_r4 : List Cond := [Cond.initialized RX0, Cond.selects RX0 yX0_payEach yX0_payEach, Cond.code yX0_payEach cX0_payEach 4 (some .long), Cond.fieldLink RX0 15 "LookbackPlan$Lot" "monthPrice" "I", Cond.fieldLink RX0 18 "LookbackPlan$Lot" "paidEach" "I", Cond.fieldLink RX0 24 "LookbackPlan$Lot" "offerPrice" "I", Cond.methodLink RX0 37 Lib.Math.min.name, Cond.methodLink RX0 43 Lib.Math.max.name, Cond.static Lib.Math.max.name, Cond.code Lib.Math.max.name Lib.Math.max.code 2 (some .int), Cond.methodLink RX0 33 yX0_isEarly, Cond.instanceMethod yX0_isEarly, Cond.selects RX0 yX0_isEarly yX0_isEarly, Cond.code yX0_isEarly cX0_isEarly 2 (some .boolean), Cond.fieldLink RX0 21 "LookbackPlan$Lot" "offerMonth" "I", Cond.fieldLink RX0 9 "LookbackPlan$Lot" "month" "I", Cond.instanceMethod yX0_gainEach, Cond.selects RX0 yX0_gainEach yX0_gainEach, Cond.code yX0_gainEach cX0_gainEach 3 (some .long), Cond.methodLink RX0 46 yX0_payEach]
def wsL_sells : List Cond := .code yL_sells cL_sells 19 (some .boolean) :: ((wsL_sells_r1 ++ (wsL_sells_r2 ++ (wsL_sells_r3 ++ wsL_sells_r4))) ++ wsX10 ++ wsX20 ++ wsX00 ++ (vx_atS RX2 121 "java/lang/IndexOutOfBoundsException" ["java/lang/RuntimeException", "java/lang/Exception"]).filter goodWord ++ (vx_atS RX2 34 "java/lang/IllegalArgumentException" ["java/lang/RuntimeException", "java/lang/Exception"]).filter goodWord ++ (vx_atS RX2 41 "java/lang/IllegalStateException" ["java/lang/RuntimeException", "java/lang/Exception"]).filter goodWord)
def wsL_tells_r1 : List Cond := [Cond.constantLong RL 91 (-987654321987654321), Cond.methodLink RL 93 yL_some, Cond.static yL_some, Cond.initialized RL, Cond.code yL_some cL_some 2 (some .int), Cond.methodLink RL 123 yL_payEach, Cond.static yL_payEach, Cond.code yL_payEach cL_payEach 7 (some .int), Cond.methodLink RL 16 yL_isEarly, Cond.static yL_isEarly, Cond.code yL_isEarly cL_isEarly 4 (some .boolean), Cond.methodLink RL 127 yL_of, Cond.static yL_of, Cond.codeWith yL_of cL_of 5 (some .int) [(0, 84, 85, 46)], Cond.classLink RL 46 "java/lang/IndexOutOfBoundsException", Cond.methodLink RL 51 yX2_money, Cond.instanceMethod yX2_money, Cond.selects RX2 yX2_money yX2_money, Cond.initialized RX2, Cond.code yX2_money cX2_money 2 (some .int), Cond.methodLink RX2 63 yX2_memberOrThrow, Cond.instanceMethod yX2_memberOrThrow, Cond.selects RX2 yX2_memberOrThrow yX2_memberOrThrow, Cond.code yX2_memberOrThrow cX2_memberOrThrow 3 (some (.object "LookbackPlan$Member"))]
def wsL_tells_r2 : List Cond := [Cond.classLink RX2 117 "java/lang/IndexOutOfBoundsException", Cond.initialized "java/lang/IndexOutOfBoundsException", Cond.fieldLink RX2 11 "LookbackPlan" "members" "[LLookbackPlan$Member;", Cond.methodLink RL 54 yX2_offerMonth, Cond.instanceMethod yX2_offerMonth, Cond.selects RX2 yX2_offerMonth yX2_offerMonth, Cond.code yX2_offerMonth cX2_offerMonth 2 (some .int), Cond.methodLink RL 57 yX2_offerPrice, Cond.instanceMethod yX2_offerPrice, Cond.selects RX2 yX2_offerPrice yX2_offerPrice, Cond.code yX2_offerPrice cX2_offerPrice 2 (some .int), Cond.methodLink RL 60 yX2_resets, Cond.instanceMethod yX2_resets, Cond.selects RX2 yX2_resets yX2_resets, Cond.code yX2_resets cX2_resets 2 (some .int), Cond.methodLink RL 63 yX2_shares, Cond.instanceMethod yX2_shares, Cond.selects RX2 yX2_shares yX2_shares, Cond.code yX2_shares cX2_shares 2 (some .int), Cond.instanceMethod yX1_sharesHeld, Cond.initialized RX1, Cond.selects RX1 yX1_sharesHeld yX1_sharesHeld, Cond.code yX1_sharesHeld cX1_sharesHeld 4 (some .int), Cond.fieldLink RX1 11 "LookbackPlan$Member" "lots" "[LLookbackPlan$Lot;"]
def wsL_tells_r3 : List Cond := [Cond.methodLink RL 66 yX2_bought, Cond.instanceMethod yX2_bought, Cond.selects RX2 yX2_bought yX2_bought, Cond.code yX2_bought cX2_bought 5 (some .int), Cond.methodLink RX2 102 yX2_refuseBadMonth, Cond.static yX2_refuseBadMonth, Cond.code yX2_refuseBadMonth cX2_refuseBadMonth 1 none, Cond.instanceMethod yX1_lotOf, Cond.selects RX1 yX1_lotOf yX1_lotOf, Cond.code yX1_lotOf cX1_lotOf 3 (some (.object "LookbackPlan$Lot")), Cond.static yX2_isPurchaseMonth, Cond.code yX2_isPurchaseMonth cX2_isPurchaseMonth 1 (some .boolean), Cond.methodLink RL 69 yX2_paidEach, Cond.instanceMethod yX2_paidEach, Cond.selects RX2 yX2_paidEach yX2_paidEach, Cond.code yX2_paidEach cX2_paidEach 5 (some .int), Cond.methodLink RL 130 yL_sum, Cond.static yL_sum, Cond.codeWith yL_sum cL_sum 5 (some .long) [(0, 70, 71, 46)], Cond.methodLink RL 72 yX2_counted, Cond.instanceMethod yX2_counted, Cond.selects RX2 yX2_counted yX2_counted, Cond.code yX2_counted cX2_counted 4 (some .long), Cond.instanceMethod yX1_countedIn]
def wsL_tells_r4 : List Cond := [Cond.selects RX1 yX1_countedIn yX1_countedIn, Cond.code yX1_countedIn cX1_countedIn 2 (some .long), Cond.fieldLink RX1 17 "LookbackPlan$Member" "countedByYear" "[J", Cond.methodLink RL 75 yX2_traced, Cond.instanceMethod yX2_traced, Cond.selects RX2 yX2_traced yX2_traced, Cond.code yX2_traced cX2_traced 3 (some .long), Cond.methodLink RL 79 yX2_kept, Cond.instanceMethod yX2_kept, Cond.selects RX2 yX2_kept yX2_kept, Cond.code yX2_kept cX2_kept 2 (some .long), Cond.methodLink RL 82 yX2_pay, Cond.instanceMethod yX2_pay, Cond.selects RX2 yX2_pay yX2_pay, Cond.code yX2_pay cX2_pay 2 (some .long), Cond.methodLink RL 85 yX2_gain, Cond.instanceMethod yX2_gain, Cond.selects RX2 yX2_gain yX2_gain, Cond.code yX2_gain cX2_gain 2 (some .long), Cond.methodLink RL 88 yX2_gainNow, Cond.instanceMethod yX2_gainNow, Cond.selects RX2 yX2_gainNow yX2_gainNow, Cond.code yX2_gainNow cX2_gainNow 2 (some .long), Cond.fieldLink RX2 19 "LookbackPlan" "month" "I"]
def wsL_tells_r5 : List Cond := [Cond.fieldLink RX2 22 "LookbackPlan" "priceNow" "I", Cond.instanceMethod yX1_gainIfAllSold, Cond.selects RX1 yX1_gainIfAllSold yX1_gainIfAllSold, Cond.code yX1_gainIfAllSold cX1_gainIfAllSold 7 (some .long), Cond.instanceMethod yX0_gainEach, Cond.initialized RX0, Cond.selects RX0 yX0_gainEach yX0_gainEach, Cond.code yX0_gainEach cX0_gainEach 3 (some .long), Cond.fieldLink RX0 18 "LookbackPlan$Lot" "paidEach" "I", Cond.methodLink RX0 46 yX0_payEach, Cond.instanceMethod yX0_payEach, Cond.selects RX0 yX0_payEach yX0_payEach, Cond.code yX0_payEach cX0_payEach 4 (some .long), Cond.fieldLink RX0 15 "LookbackPlan$Lot" "monthPrice" "I", Cond.fieldLink RX0 24 "LookbackPlan$Lot" "offerPrice" "I", Cond.methodLink RX0 37 Lib.Math.min.name, Cond.static Lib.Math.min.name, Cond.initialized "java/lang/Math", Cond.code Lib.Math.min.name Lib.Math.min.code 2 (some .int), Cond.methodLink RX0 43 Lib.Math.max.name, Cond.static Lib.Math.max.name, Cond.code Lib.Math.max.name Lib.Math.max.code 2 (some .int), Cond.methodLink RX0 33 yX0_isEarly, Cond.instanceMethod yX0_isEarly]
def wsL_tells_r6 : List Cond := [Cond.selects RX0 yX0_isEarly yX0_isEarly, Cond.code yX0_isEarly cX0_isEarly 2 (some .boolean), Cond.fieldLink RX0 21 "LookbackPlan$Lot" "offerMonth" "I", Cond.fieldLink RX0 9 "LookbackPlan$Lot" "month" "I", Cond.methodLink RL 9 yL_counted, Cond.static yL_counted, Cond.code yL_counted cL_counted 8 (some .long), Cond.methodLink RL 134 yX2_month, Cond.instanceMethod yX2_month, Cond.selects RX2 yX2_month yX2_month, Cond.code yX2_month cX2_month 1 (some .int)]
def wsL_tells : List Cond := .code yL_tells cL_tells 20 (some .boolean) :: ((wsL_tells_r1 ++ (wsL_tells_r2 ++ (wsL_tells_r3 ++ (wsL_tells_r4 ++ (wsL_tells_r5 ++ wsL_tells_r6))))) ++ wsX10 ++ wsX20 ++ wsX00 ++ (vx_atS RX2 121 "java/lang/IndexOutOfBoundsException" ["java/lang/RuntimeException", "java/lang/Exception"]).filter goodWord)
def wsL_law0_r1 : List Cond := [Cond.classLink RL 21 RX2, Cond.instantiable RX2 5, Cond.initialized RX2, Cond.arrayClass .int, Cond.arrayClass .long, Cond.constant RL 107 (2500000), Cond.methodLink RL 138 yX2_init, Cond.instanceMethod yX2_init, Cond.code yX2_init cX2_init 1 none, Cond.methodLink RX2 3 objectInit, Cond.instanceMethod objectInit, Cond.code objectInit ⟨#[0xb1]⟩ 1 none, Cond.classLink RX2 9 RX1, Cond.fieldLink RX2 11 "LookbackPlan" "members" "[LLookbackPlan$Member;", Cond.fieldLink RX2 15 "LookbackPlan" "memberCount" "I", Cond.fieldLink RX2 19 "LookbackPlan" "month" "I", Cond.fieldLink RX2 22 "LookbackPlan" "priceNow" "I", Cond.constant RX2 25 (2500000), Cond.fieldLink RX2 26 "LookbackPlan" "ceiling" "I", Cond.methodLink RL 139 yL_cell, Cond.static yL_cell, Cond.initialized RL, Cond.code yL_cell cL_cell 2 (some .int), Cond.constantLong RL 7 (3266489917)]
def wsL_law0_r2 : List Cond := [Cond.methodLink RL 93 yL_some, Cond.static yL_some, Cond.code yL_some cL_some 2 (some .int), Cond.methodLink RL 143 yL_goes, Cond.static yL_goes, Cond.code yL_goes cL_goes 19 (some .boolean), Cond.constant RL 96 (100001), Cond.constant RL 97 (100000), Cond.constant RL 106 (10000001), Cond.constant RL 108 (300000), Cond.constant RL 120 (5000001), Cond.constant RL 121 (400000), Cond.methodLink RL 98 yL_buys, Cond.static yL_buys, Cond.code yL_buys cL_buys 16 none, Cond.constant RL 15 (1000000), Cond.methodLink RL 9 yL_counted, Cond.static yL_counted, Cond.code yL_counted cL_counted 8 (some .long), Cond.methodLink RL 102 yL_begun, Cond.static yL_begun, Cond.codeWith yL_begun cL_begun 3 (some .int) [(0, 5, 6, 26), (0, 5, 10, 28)], Cond.classLink RL 26 "java/lang/IllegalArgumentException", Cond.classLink RL 28 "java/lang/IllegalStateException"]
def wsL_law0_r3 : List Cond := [Cond.methodLink RL 20 yX2_next, Cond.instanceMethod yX2_next, Cond.selects RX2 yX2_next yX2_next, Cond.code yX2_next cX2_next 2 (some .int), Cond.classLink RX2 30 "java/lang/IllegalArgumentException", Cond.initialized "java/lang/IllegalArgumentException", Cond.classLink RX2 37 "java/lang/IllegalStateException", Cond.initialized "java/lang/IllegalStateException", Cond.constant RX2 29 (100000), Cond.methodLink RX2 42 yX2_isPurchaseMonth, Cond.static yX2_isPurchaseMonth, Cond.code yX2_isPurchaseMonth cX2_isPurchaseMonth 1 (some .boolean), Cond.methodLink RX2 46 yX2_buyForAll, Cond.instanceMethod yX2_buyForAll, Cond.selects RX2 yX2_buyForAll yX2_buyForAll, Cond.code yX2_buyForAll cX2_buyForAll 3 none, Cond.instanceMethod yX1_buyShares, Cond.initialized RX1, Cond.selects RX1 yX1_buyShares yX1_buyShares, Cond.code yX1_buyShares cX1_buyShares 11 none, Cond.fieldLink RX1 28 "LookbackPlan$Member" "offerPrice" "I", Cond.methodLink RX1 45 Lib.Math.min.name, Cond.static Lib.Math.min.name, Cond.initialized "java/lang/Math"]
def wsL_law0_r4 : List Cond := [Cond.code Lib.Math.min.name Lib.Math.min.code 2 (some .int), Cond.fieldLink RX1 31 "LookbackPlan$Member" "money" "J", Cond.methodLink RX1 63 Lib.MathLoose.min_long.x, Cond.static Lib.MathLoose.min_long.x, Cond.code Lib.MathLoose.min_long.x Lib.MathLoose.min_long.code 4 (some .long), Cond.classLink RX1 9 RX0, Cond.instantiable RX0 7, Cond.initialized RX0, Cond.fieldLink RX1 25 "LookbackPlan$Member" "offerMonth" "I", Cond.fieldLink RX1 76 "LookbackPlan$Member" "spent" "J", Cond.fieldLink RX1 79 "LookbackPlan$Member" "offerPurchases" "I", Cond.methodLink RX1 51 yX1_purchasePrice, Cond.static yX1_purchasePrice, Cond.code yX1_purchasePrice cX1_purchasePrice 1 (some .int), Cond.methodLink RX1 55 yX1_wholeTimes, Cond.static yX1_wholeTimes, Cond.code yX1_wholeTimes cX1_wholeTimes 4 (some .long), Cond.methodLink RX1 59 yX1_countedIn, Cond.instanceMethod yX1_countedIn, Cond.selects RX1 yX1_countedIn yX1_countedIn, Cond.code yX1_countedIn cX1_countedIn 2 (some .long), Cond.fieldLink RX1 17 "LookbackPlan$Member" "countedByYear" "[J", Cond.instanceMethod yX0_init, Cond.code yX0_init cX0_init 7 none]
def wsL_law0_r5 : List Cond := [Cond.methodLink RX0 3 objectInit, Cond.fieldLink RX0 9 "LookbackPlan$Lot" "month" "I", Cond.fieldLink RX0 15 "LookbackPlan$Lot" "monthPrice" "I", Cond.fieldLink RX0 18 "LookbackPlan$Lot" "paidEach" "I", Cond.fieldLink RX0 21 "LookbackPlan$Lot" "offerMonth" "I", Cond.fieldLink RX0 24 "LookbackPlan$Lot" "offerPrice" "I", Cond.fieldLink RX0 27 "LookbackPlan$Lot" "bought" "I", Cond.fieldLink RX0 30 "LookbackPlan$Lot" "left" "I", Cond.methodLink RX1 68 yX1_putLot, Cond.instanceMethod yX1_putLot, Cond.selects RX1 yX1_putLot yX1_putLot, Cond.code yX1_putLot cX1_putLot 3 none, Cond.fieldLink RX1 11 "LookbackPlan$Member" "lots" "[LLookbackPlan$Lot;", Cond.methodLink RX1 72 yX1_addCounted, Cond.instanceMethod yX1_addCounted, Cond.selects RX1 yX1_addCounted yX1_addCounted, Cond.code yX1_addCounted cX1_addCounted 4 none, Cond.methodLink RX1 82 yX1_renewOffer, Cond.instanceMethod yX1_renewOffer, Cond.selects RX1 yX1_renewOffer yX1_renewOffer, Cond.code yX1_renewOffer cX1_renewOffer 4 none, Cond.fieldLink RX1 86 "LookbackPlan$Member" "resets" "I", Cond.methodLink RL 109 yL_set, Cond.static yL_set]
def wsL_law0_r6 : List Cond := [Cond.codeWith yL_set cL_set 4 (some .int) [(0, 17, 18, 26), (0, 17, 22, 28)], Cond.methodLink RL 30 yX2_ceiling, Cond.instanceMethod yX2_ceiling, Cond.selects RX2 yX2_ceiling yX2_ceiling, Cond.code yX2_ceiling cX2_ceiling 3 (some .int), Cond.constant RX2 49 (10000000), Cond.methodLink RL 33 yX2_join, Cond.instanceMethod yX2_join, Cond.selects RX2 yX2_join yX2_join, Cond.code yX2_join cX2_join 3 (some .int), Cond.instantiable RX1 14, Cond.methodLink RX2 52 yX2_refuseBadRate, Cond.static yX2_refuseBadRate, Cond.code yX2_refuseBadRate cX2_refuseBadRate 1 none, Cond.instanceMethod yX1_init, Cond.code yX1_init cX1_init 4 none, Cond.methodLink RX1 3 objectInit, Cond.fieldLink RX1 21 "LookbackPlan$Member" "rate" "I", Cond.methodLink RL 113 yL_act, Cond.static yL_act, Cond.codeWith yL_act cL_act 5 (some .int) [(0, 33, 34, 46), (0, 33, 39, 26), (0, 33, 44, 28)], Cond.classLink RL 46 "java/lang/IndexOutOfBoundsException", Cond.methodLink RL 36 yX2_rate, Cond.instanceMethod yX2_rate]
def wsL_law0_r7 : List Cond := [Cond.selects RX2 yX2_rate yX2_rate, Cond.code yX2_rate cX2_rate 5 (some .int), Cond.methodLink RX2 63 yX2_memberOrThrow, Cond.instanceMethod yX2_memberOrThrow, Cond.selects RX2 yX2_memberOrThrow yX2_memberOrThrow, Cond.code yX2_memberOrThrow cX2_memberOrThrow 3 (some (.object "LookbackPlan$Member")), Cond.classLink RX2 117 "java/lang/IndexOutOfBoundsException", Cond.initialized "java/lang/IndexOutOfBoundsException", Cond.methodLink RX2 67 yX2_refuseLeft, Cond.static yX2_refuseLeft, Cond.code yX2_refuseLeft cX2_refuseLeft 1 none, Cond.methodLink RL 40 yX2_slip, Cond.instanceMethod yX2_slip, Cond.selects RX2 yX2_slip yX2_slip, Cond.code yX2_slip cX2_slip 4 (some .int), Cond.constant RX2 74 (5000000), Cond.instanceMethod yX1_takeSlip, Cond.selects RX1 yX1_takeSlip yX1_takeSlip, Cond.code yX1_takeSlip cX1_takeSlip 3 (some .int), Cond.fieldLink RX1 35 "LookbackPlan$Member" "keptOfSlips" "J", Cond.methodLink RL 43 yX2_sell, Cond.instanceMethod yX2_sell, Cond.selects RX2 yX2_sell yX2_sell, Cond.code yX2_sell cX2_sell 4 (some .int)]
def wsL_law0_r8 : List Cond := [Cond.constant RX2 135 (1000000), Cond.instanceMethod yX1_sharesHeld, Cond.selects RX1 yX1_sharesHeld yX1_sharesHeld, Cond.code yX1_sharesHeld cX1_sharesHeld 4 (some .int), Cond.instanceMethod yX1_sellOldest, Cond.selects RX1 yX1_sellOldest yX1_sellOldest, Cond.code yX1_sellOldest cX1_sellOldest 9 (some .int), Cond.fieldLink RX1 99 "LookbackPlan$Member" "payOfSales" "J", Cond.fieldLink RX1 106 "LookbackPlan$Member" "gainOfSales" "J", Cond.instanceMethod yX0_payEach, Cond.selects RX0 yX0_payEach yX0_payEach, Cond.code yX0_payEach cX0_payEach 4 (some .long), Cond.methodLink RX0 37 Lib.Math.min.name, Cond.methodLink RX0 43 Lib.Math.max.name, Cond.static Lib.Math.max.name, Cond.code Lib.Math.max.name Lib.Math.max.code 2 (some .int), Cond.methodLink RX0 33 yX0_isEarly, Cond.instanceMethod yX0_isEarly, Cond.selects RX0 yX0_isEarly yX0_isEarly, Cond.code yX0_isEarly cX0_isEarly 2 (some .boolean), Cond.instanceMethod yX0_gainEach, Cond.selects RX0 yX0_gainEach yX0_gainEach, Cond.code yX0_gainEach cX0_gainEach 3 (some .long), Cond.methodLink RX0 46 yX0_payEach]
def wsL_law0_r9 : List Cond := [Cond.methodLink RL 117 yL_leaves, Cond.static yL_leaves, Cond.codeWith yL_leaves cL_leaves 3 (some .int) [(0, 5, 6, 46), (0, 5, 10, 28)], Cond.methodLink RL 48 yX2_leave, Cond.instanceMethod yX2_leave, Cond.selects RX2 yX2_leave yX2_leave, Cond.code yX2_leave cX2_leave 3 (some .int), Cond.instanceMethod yX1_giveBack, Cond.selects RX1 yX1_giveBack yX1_giveBack, Cond.code yX1_giveBack cX1_giveBack 3 (some .long), Cond.fieldLink RX1 38 "LookbackPlan$Member" "givenBack" "J", Cond.fieldLink RX1 41 "LookbackPlan$Member" "hasLeft" "Z", Cond.methodLink RL 147 yL_sells, Cond.static yL_sells, Cond.code yL_sells cL_sells 19 (some .boolean), Cond.constant RL 122 (1000001), Cond.methodLink RL 123 yL_payEach, Cond.static yL_payEach, Cond.code yL_payEach cL_payEach 7 (some .int), Cond.methodLink RL 16 yL_isEarly, Cond.static yL_isEarly, Cond.code yL_isEarly cL_isEarly 4 (some .boolean), Cond.methodLink RL 151 yL_tells, Cond.static yL_tells]
def wsL_law0_r10 : List Cond := [Cond.code yL_tells cL_tells 20 (some .boolean), Cond.constantLong RL 91 (-987654321987654321), Cond.methodLink RL 127 yL_of, Cond.static yL_of, Cond.codeWith yL_of cL_of 5 (some .int) [(0, 84, 85, 46)], Cond.methodLink RL 51 yX2_money, Cond.instanceMethod yX2_money, Cond.selects RX2 yX2_money yX2_money, Cond.code yX2_money cX2_money 2 (some .int), Cond.methodLink RL 54 yX2_offerMonth, Cond.instanceMethod yX2_offerMonth, Cond.selects RX2 yX2_offerMonth yX2_offerMonth, Cond.code yX2_offerMonth cX2_offerMonth 2 (some .int), Cond.methodLink RL 57 yX2_offerPrice, Cond.instanceMethod yX2_offerPrice, Cond.selects RX2 yX2_offerPrice yX2_offerPrice, Cond.code yX2_offerPrice cX2_offerPrice 2 (some .int), Cond.methodLink RL 60 yX2_resets, Cond.instanceMethod yX2_resets, Cond.selects RX2 yX2_resets yX2_resets, Cond.code yX2_resets cX2_resets 2 (some .int), Cond.methodLink RL 63 yX2_shares, Cond.instanceMethod yX2_shares, Cond.selects RX2 yX2_shares yX2_shares]
def wsL_law0_r11 : List Cond := [Cond.code yX2_shares cX2_shares 2 (some .int), Cond.methodLink RL 66 yX2_bought, Cond.instanceMethod yX2_bought, Cond.selects RX2 yX2_bought yX2_bought, Cond.code yX2_bought cX2_bought 5 (some .int), Cond.methodLink RX2 102 yX2_refuseBadMonth, Cond.static yX2_refuseBadMonth, Cond.code yX2_refuseBadMonth cX2_refuseBadMonth 1 none, Cond.instanceMethod yX1_lotOf, Cond.selects RX1 yX1_lotOf yX1_lotOf, Cond.code yX1_lotOf cX1_lotOf 3 (some (.object "LookbackPlan$Lot")), Cond.methodLink RL 69 yX2_paidEach, Cond.instanceMethod yX2_paidEach, Cond.selects RX2 yX2_paidEach yX2_paidEach, Cond.code yX2_paidEach cX2_paidEach 5 (some .int), Cond.methodLink RL 130 yL_sum, Cond.static yL_sum, Cond.codeWith yL_sum cL_sum 5 (some .long) [(0, 70, 71, 46)], Cond.methodLink RL 72 yX2_counted, Cond.instanceMethod yX2_counted, Cond.selects RX2 yX2_counted yX2_counted, Cond.code yX2_counted cX2_counted 4 (some .long), Cond.methodLink RL 75 yX2_traced, Cond.instanceMethod yX2_traced]
def wsL_law0_r12 : List Cond := [Cond.selects RX2 yX2_traced yX2_traced, Cond.code yX2_traced cX2_traced 3 (some .long), Cond.methodLink RL 79 yX2_kept, Cond.instanceMethod yX2_kept, Cond.selects RX2 yX2_kept yX2_kept, Cond.code yX2_kept cX2_kept 2 (some .long), Cond.methodLink RL 82 yX2_pay, Cond.instanceMethod yX2_pay, Cond.selects RX2 yX2_pay yX2_pay, Cond.code yX2_pay cX2_pay 2 (some .long), Cond.methodLink RL 85 yX2_gain, Cond.instanceMethod yX2_gain, Cond.selects RX2 yX2_gain yX2_gain, Cond.code yX2_gain cX2_gain 2 (some .long), Cond.methodLink RL 88 yX2_gainNow, Cond.instanceMethod yX2_gainNow, Cond.selects RX2 yX2_gainNow yX2_gainNow, Cond.code yX2_gainNow cX2_gainNow 2 (some .long), Cond.instanceMethod yX1_gainIfAllSold, Cond.selects RX1 yX1_gainIfAllSold yX1_gainIfAllSold, Cond.code yX1_gainIfAllSold cX1_gainIfAllSold 7 (some .long), Cond.methodLink RL 134 yX2_month, Cond.instanceMethod yX2_month, Cond.selects RX2 yX2_month yX2_month]
def wsL_law0_r13 : List Cond := [Cond.code yX2_month cX2_month 1 (some .int)]
def wsL_law0 : List Cond := (wsL_law0_r1 ++ (wsL_law0_r2 ++ (wsL_law0_r3 ++ (wsL_law0_r4 ++ (wsL_law0_r5 ++ (wsL_law0_r6 ++ (wsL_law0_r7 ++ (wsL_law0_r8 ++ (wsL_law0_r9 ++ (wsL_law0_r10 ++ (wsL_law0_r11 ++ (wsL_law0_r12 ++ wsL_law0_r13)))))))))))) ++ wsX20 ++ wsX10 ++ wsX00 ++ ([] : List Cond)
def wsL_law : List Cond := wsL_law0 ++ (vx_atS RX2 34 "java/lang/IllegalArgumentException" ["java/lang/RuntimeException", "java/lang/Exception"]).filter goodWord ++ (vx_atS RX2 41 "java/lang/IllegalStateException" ["java/lang/RuntimeException", "java/lang/Exception"]).filter goodWord ++ (vx_atS RX2 121 "java/lang/IndexOutOfBoundsException" ["java/lang/RuntimeException", "java/lang/Exception"]).filter goodWord
end
section
set_option maxRecDepth 20000 in
theorem wsL_law_in0_1 : ∀ w ∈ wsL_law0_r1, w ∈ lw_tbl := fun w h => (goodIn_p wsL_law0_r1 [32, 35, 57] rfl (by decide +kernel) w h).1
set_option maxRecDepth 20000 in
theorem wsL_law_in0_2 : ∀ w ∈ wsL_law0_r2, w ∈ lw_tbl := fun w h => (goodIn_p wsL_law0_r2 [61, 64, 69, 72] rfl (by decide +kernel) w h).1
set_option maxRecDepth 20000 in
theorem wsL_law_in0_3 : ∀ w ∈ wsL_law0_r3, w ∈ lw_tbl := fun w h => (goodIn_p wsL_law0_r3 [82, 170, 174, 179] rfl (by decide +kernel) w h).1
set_option maxRecDepth 20000 in
theorem wsL_law_in0_4 : ∀ w ∈ wsL_law0_r4, w ∈ lw_tbl := fun w h => (goodIn_p wsL_law0_r4 [182, 195, 185, 188, 192, 200] rfl (by decide +kernel) w h).1
set_option maxRecDepth 20000 in
theorem wsL_law_in0_5 : ∀ w ∈ wsL_law0_r5, w ∈ lw_tbl := fun w h => (goodIn_p wsL_law0_r5 [231, 235, 239] rfl (by decide +kernel) w h).1
set_option maxRecDepth 20000 in
theorem wsL_law_in0_6 : ∀ w ∈ wsL_law0_r6, w ∈ lw_tbl := fun w h => (goodIn_p wsL_law0_r6 [249, 255, 258, 264] rfl (by decide +kernel) w h).1
end
section
set_option maxRecDepth 20000 in
theorem wsL_law_in0_7 : ∀ w ∈ wsL_law0_r7, w ∈ lw_tbl := fun w h => (goodIn_p wsL_law0_r7 [329, 333, 352, 357, 363, 367] rfl (by decide +kernel) w h).1
set_option maxRecDepth 20000 in
theorem wsL_law_in0_8 : ∀ w ∈ wsL_law0_r8, w ∈ lw_tbl := fun w h => (goodIn_p wsL_law0_r8 [373, 378, 382, 390, 386, 394] rfl (by decide +kernel) w h).1
set_option maxRecDepth 20000 in
theorem wsL_law_in0_9 : ∀ w ∈ wsL_law0_r9, w ∈ lw_tbl := fun w h => (goodIn_p wsL_law0_r9 [403, 407, 412, 416, 419] rfl (by decide +kernel) w h).1
set_option maxRecDepth 20000 in
theorem wsL_law_in0_10 : ∀ w ∈ wsL_law0_r10, w ∈ lw_tbl := fun w h => (goodIn_p wsL_law0_r10 [422, 430, 434, 438, 442] rfl (by decide +kernel) w h).1
set_option maxRecDepth 20000 in
theorem wsL_law_in0_11 : ∀ w ∈ wsL_law0_r11, w ∈ lw_tbl := fun w h => (goodIn_p wsL_law0_r11 [446, 450, 453, 458, 463, 470] rfl (by decide +kernel) w h).1
set_option maxRecDepth 20000 in
theorem wsL_law_in0_12 : ∀ w ∈ wsL_law0_r12, w ∈ lw_tbl := fun w h => (goodIn_p wsL_law0_r12 [476, 480, 484, 488, 492, 496] rfl (by decide +kernel) w h).1
set_option maxRecDepth 20000 in
theorem wsL_law_in0_13 : ∀ w ∈ wsL_law0_r13, w ∈ lw_tbl := fun w h => (goodIn_p wsL_law0_r13 [500] rfl (by decide +kernel) w h).1
end
section
theorem wsL_law_iwsX20 : ∀ w ∈ wsX20, w ∈ lw_tbl := by decide +kernel
theorem wsL_law_iwsX10 : ∀ w ∈ wsX10, w ∈ lw_tbl := by decide +kernel
theorem wsL_law_iwsX00 : ∀ w ∈ wsX00, w ∈ lw_tbl := by decide +kernel
theorem wsL_law_in0 : ∀ w ∈ wsL_law0, w ∈ lw_tbl := fun w => (fun h => (List.mem_append.mp h).elim (fun h => (List.mem_append.mp h).elim (fun h => (List.mem_append.mp h).elim (fun h => (List.mem_append.mp h).elim (fun h => (List.mem_append.mp h).elim (wsL_law_in0_1 w) (fun h => (List.mem_append.mp h).elim (wsL_law_in0_2 w) (fun h => (List.mem_append.mp h).elim (wsL_law_in0_3 w) (fun h => (List.mem_append.mp h).elim (wsL_law_in0_4 w) (fun h => (List.mem_append.mp h).elim (wsL_law_in0_5 w) (fun h => (List.mem_append.mp h).elim (wsL_law_in0_6 w) (fun h => (List.mem_append.mp h).elim (wsL_law_in0_7 w) (fun h => (List.mem_append.mp h).elim (wsL_law_in0_8 w) (fun h => (List.mem_append.mp h).elim (wsL_law_in0_9 w) (fun h => (List.mem_append.mp h).elim (wsL_law_in0_10 w) (fun h => (List.mem_append.mp h).elim (wsL_law_in0_11 w) (fun h => (List.mem_append.mp h).elim (wsL_law_in0_12 w) (wsL_law_in0_13 w))))))))))))) (wsL_law_iwsX20 w)) (wsL_law_iwsX10 w)) (wsL_law_iwsX00 w)) (fun h => absurd h List.not_mem_nil))
theorem wsL_law_x0 : ∀ w ∈ (vx_atS RX2 34 "java/lang/IllegalArgumentException" ["java/lang/RuntimeException", "java/lang/Exception"]).filter goodWord, w ∈ lw_tbl := by decide +kernel
theorem wsL_law_x1 : ∀ w ∈ (vx_atS RX2 41 "java/lang/IllegalStateException" ["java/lang/RuntimeException", "java/lang/Exception"]).filter goodWord, w ∈ lw_tbl := by decide +kernel
theorem wsL_law_x2 : ∀ w ∈ (vx_atS RX2 121 "java/lang/IndexOutOfBoundsException" ["java/lang/RuntimeException", "java/lang/Exception"]).filter goodWord, w ∈ lw_tbl := by decide +kernel
theorem wsL_law_in : ∀ w ∈ wsL_law, w ∈ lw_tbl := fun w h => (List.mem_append.mp h).elim (fun h => (List.mem_append.mp h).elim (fun h => (List.mem_append.mp h).elim (fun h => wsL_law_in0 w h) (fun h => wsL_law_x0 w h)) (fun h => wsL_law_x1 w h)) (fun h => wsL_law_x2 w h)
theorem inlX0 : ∀ w ∈ wsX00, w ∈ wsL_law := fun _ h => List.mem_append_left _ (List.mem_append_left _ (List.mem_append_left _ (List.mem_append_left _ (List.mem_append_right _ h))))
theorem inX0 : ∀ w ∈ wsX00, w ∈ lw_tbl := fun w h => wsL_law_in w (inlX0 w h)
theorem inlX1 : ∀ w ∈ wsX10, w ∈ wsL_law := fun _ h => List.mem_append_left _ (List.mem_append_left _ (List.mem_append_left _ (List.mem_append_left _ (List.mem_append_left _ (List.mem_append_right _ h)))))
theorem inX1 : ∀ w ∈ wsX10, w ∈ lw_tbl := fun w h => wsL_law_in w (inlX1 w h)
theorem inlX2 : ∀ w ∈ wsX20, w ∈ wsL_law := fun _ h => List.mem_append_left _ (List.mem_append_left _ (List.mem_append_left _ (List.mem_append_left _ (List.mem_append_left _ (List.mem_append_left _ (List.mem_append_right _ h))))))
theorem inX2 : ∀ w ∈ wsX20, w ∈ lw_tbl := fun w h => wsL_law_in w (inlX2 w h)
theorem inX3 : ∀ w ∈ wsX30, w ∈ lw_tbl := by decide +kernel
theorem inJ9 : ∀ w ∈ wsJ90, w ∈ lw_tbl := by decide +kernel
theorem inJ0 : ∀ w ∈ wsJ00, w ∈ lw_tbl := by decide +kernel
abbrev vwCl : List vw_C := [(RX0, TX0, 7), (RX1, TX1, 14), (RX2, TX2, 5)]
end
section
set_option maxRecDepth 20000 in
theorem ggX0_payEach_X0_isEarly : GoodIn wsX0_payEach wsX0_isEarly := goodIn_r _ [15, 16, 17, 18, 19, 20, 21, 22, 23, 24] (by decide +kernel) (by decide +kernel)
set_option maxRecDepth 20000 in
theorem gX0_payEach_X0_isEarly : GoodIn wsX0_payEach (wsV RX0 33 RX0 yX0_isEarly wsX0_isEarly) := goodIn_app (goodIn_of _ (by decide +kernel)) ggX0_payEach_X0_isEarly
set_option maxRecDepth 20000 in
theorem ggX0_gainEach_X0_payEach : GoodIn wsX0_gainEach wsX0_payEach := goodIn_r _ [6, 7, 1, 8, 9, 10, 11, 12, 13, 14, 15, 16, 17, 18, 5, 19, 20, 21, 22, 23, 24, 25, 26, 27, 28] (by decide +kernel) (by decide +kernel)
set_option maxRecDepth 20000 in
theorem gX0_gainEach_X0_payEach : GoodIn wsX0_gainEach (wsV RX0 46 RX0 yX0_payEach wsX0_payEach) := goodIn_app (goodIn_of _ (by decide +kernel)) ggX0_gainEach_X0_payEach
set_option maxRecDepth 20000 in
theorem ggX1_buyShares_X1_purchasePrice : GoodIn wsX1_buyShares wsX1_purchasePrice := goodIn_r _ [19] (by decide +kernel) (by decide +kernel)
set_option maxRecDepth 20000 in
theorem gX1_buyShares_X1_purchasePrice : GoodIn wsX1_buyShares (va_wsS RX1 51 yX1_purchasePrice wsX1_purchasePrice) := goodIn_app (goodIn_of _ (by decide +kernel)) ggX1_buyShares_X1_purchasePrice
set_option maxRecDepth 20000 in
theorem ggX1_buyShares_X1_wholeTimes : GoodIn wsX1_buyShares wsX1_wholeTimes := goodIn_r _ [22] (by decide +kernel) (by decide +kernel)
set_option maxRecDepth 20000 in
theorem gX1_buyShares_X1_wholeTimes : GoodIn wsX1_buyShares (va_wsS RX1 55 yX1_wholeTimes wsX1_wholeTimes) := goodIn_app (goodIn_of _ (by decide +kernel)) ggX1_buyShares_X1_wholeTimes
set_option maxRecDepth 20000 in
theorem ggX1_buyShares_X1_countedIn : GoodIn wsX1_buyShares wsX1_countedIn := goodIn_r _ [26, 27, 54, 55, 56, 57, 58, 59, 60, 61, 62, 63, 64, 65, 66, 67] (by decide +kernel) (by decide +kernel)
set_option maxRecDepth 20000 in
theorem gX1_buyShares_X1_countedIn : GoodIn wsX1_buyShares (wsV RX1 59 RX1 yX1_countedIn wsX1_countedIn) := goodIn_app (goodIn_of _ (by decide +kernel)) ggX1_buyShares_X1_countedIn
set_option maxRecDepth 20000 in
theorem ggX1_buyShares_X0_init : GoodIn wsX1_buyShares wsX0_init := goodIn_r _ [29, 30, 31, 32, 33, 34, 35, 36, 37, 38, 39, 68, 69, 70, 71, 72, 73, 74] (by decide +kernel) (by decide +kernel)
set_option maxRecDepth 20000 in
theorem gX1_buyShares_X0_init_n65 : GoodIn wsX1_buyShares (wsX0_init) := ggX1_buyShares_X0_init
set_option maxRecDepth 20000 in
theorem ggX1_buyShares_X1_putLot : GoodIn wsX1_buyShares wsX1_putLot := goodIn_r _ [43, 44, 68, 69, 70, 71, 72, 73, 74, 54, 55, 56, 57, 58, 59, 60, 61, 62, 63, 64, 65, 66, 67] (by decide +kernel) (by decide +kernel)
set_option maxRecDepth 20000 in
theorem gX1_buyShares_X1_putLot : GoodIn wsX1_buyShares (wsV RX1 68 RX1 yX1_putLot wsX1_putLot) := goodIn_app (goodIn_of _ (by decide +kernel)) ggX1_buyShares_X1_putLot
set_option maxRecDepth 20000 in
theorem ggX1_buyShares_X1_addCounted : GoodIn wsX1_buyShares wsX1_addCounted := goodIn_r _ [48, 27, 54, 55, 56, 57, 58, 59, 60, 61, 62, 63, 64, 65, 66, 67] (by decide +kernel) (by decide +kernel)
set_option maxRecDepth 20000 in
theorem gX1_buyShares_X1_addCounted : GoodIn wsX1_buyShares (wsV RX1 72 RX1 yX1_addCounted wsX1_addCounted) := goodIn_app (goodIn_of _ (by decide +kernel)) ggX1_buyShares_X1_addCounted
set_option maxRecDepth 20000 in
theorem ggX1_buyShares_X1_renewOffer : GoodIn wsX1_buyShares wsX1_renewOffer := goodIn_r _ [52, 1, 53, 15, 13, 54, 55, 56, 57, 58, 59, 60, 61, 62, 63, 64, 65, 66, 67] (by decide +kernel) (by decide +kernel)
set_option maxRecDepth 20000 in
theorem gX1_buyShares_X1_renewOffer : GoodIn wsX1_buyShares (wsV RX1 82 RX1 yX1_renewOffer wsX1_renewOffer) := goodIn_app (goodIn_of _ (by decide +kernel)) ggX1_buyShares_X1_renewOffer
set_option maxRecDepth 20000 in
theorem ggX1_lotOf_X2_isPurchaseMonth : GoodIn wsX1_lotOf wsX2_isPurchaseMonth := goodIn_r _ [4] (by decide +kernel) (by decide +kernel)
set_option maxRecDepth 20000 in
theorem gX1_lotOf_X2_isPurchaseMonth_n89 : GoodIn wsX1_lotOf (wsX2_isPurchaseMonth) := ggX1_lotOf_X2_isPurchaseMonth
set_option maxRecDepth 20000 in
theorem ggX1_sellOldest_X0_payEach : GoodIn wsX1_sellOldest wsX0_payEach := goodIn_r _ [11, 12, 13, 14, 15, 3, 4, 5, 16, 17, 18, 19, 20, 21, 9, 22, 23, 24, 43, 44, 45, 46, 47, 48, 49] (by decide +kernel) (by decide +kernel)
set_option maxRecDepth 20000 in
theorem gX1_sellOldest_X0_payEach_n102 : GoodIn wsX1_sellOldest (wsX0_payEach) := ggX1_sellOldest_X0_payEach
set_option maxRecDepth 20000 in
theorem ggX1_sellOldest_X0_gainEach : GoodIn wsX1_sellOldest wsX0_gainEach := goodIn_r _ [27, 13, 28, 8, 10, 9, 11, 12, 14, 15, 3, 4, 5, 16, 17, 18, 19, 20, 21, 22, 23, 24, 43, 44, 45, 46, 47, 48, 49] (by decide +kernel) (by decide +kernel)
set_option maxRecDepth 20000 in
theorem gX1_sellOldest_X0_gainEach_n109 : GoodIn wsX1_sellOldest (wsX0_gainEach) := ggX1_sellOldest_X0_gainEach
set_option maxRecDepth 20000 in
theorem ggX1_sellOldest_X0_isEarly : GoodIn wsX1_sellOldest wsX0_isEarly := goodIn_r _ [22, 23, 24, 43, 44, 45, 46, 47, 48, 49] (by decide +kernel) (by decide +kernel)
set_option maxRecDepth 20000 in
theorem gX1_sellOldest_X0_isEarly_n112 : GoodIn wsX1_sellOldest (wsX0_isEarly) := ggX1_sellOldest_X0_isEarly
set_option maxRecDepth 20000 in
theorem ggX1_gainIfAllSold_X0_gainEach : GoodIn wsX1_gainIfAllSold wsX0_gainEach := goodIn_r _ [5, 6, 7, 8, 9, 3, 10, 11, 12, 13, 14, 15, 16, 17, 18, 19, 20, 21, 22, 23, 24, 25, 40, 41, 42, 43, 44, 45, 46] (by decide +kernel) (by decide +kernel)
set_option maxRecDepth 20000 in
theorem gX1_gainIfAllSold_X0_gainEach_n109 : GoodIn wsX1_gainIfAllSold (wsX0_gainEach) := ggX1_gainIfAllSold_X0_gainEach
set_option maxRecDepth 20000 in
theorem ggX2_next_X2_isPurchaseMonth : GoodIn wsX2_next wsX2_isPurchaseMonth := goodIn_r _ [11] (by decide +kernel) (by decide +kernel)
set_option maxRecDepth 20000 in
theorem gX2_next_X2_isPurchaseMonth : GoodIn wsX2_next (va_wsS RX2 42 yX2_isPurchaseMonth wsX2_isPurchaseMonth) := goodIn_app (goodIn_of _ (by decide +kernel)) ggX2_next_X2_isPurchaseMonth
set_option maxRecDepth 20000 in
theorem ggX2_next_X2_buyForAll : GoodIn wsX2_next wsX2_buyForAll := goodIn_r _ [15, 16, 6, 7, 17, 18, 19, 20, 21, 22, 23, 24, 25, 26, 27, 28, 29, 30, 31, 32, 33, 34, 35, 36, 37, 38, 39, 40, 41, 42, 43, 44, 45, 46, 47, 48, 49, 50, 51, 52, 53, 54, 55, 56, 57, 58, 59, 60, 61, 62, 63, 64, 65, 66, 67, 68, 69, 70, 71, 72, 73, 74, 75, 76, 77, 78, 79, 80, 81, 82, 83, 84, 85, 86, 87, 88, 89, 90, 91, 92, 93, 94, 95, 96, 97, 98, 99] (by decide +kernel) (by decide +kernel)
set_option maxRecDepth 20000 in
theorem gX2_next_X2_buyForAll : GoodIn wsX2_next (wsV RX2 46 RX2 yX2_buyForAll wsX2_buyForAll) := goodIn_app (goodIn_of _ (by decide +kernel)) ggX2_next_X2_buyForAll
set_option maxRecDepth 20000 in
theorem ggX2_join_X2_refuseBadRate : GoodIn wsX2_join wsX2_refuseBadRate := goodIn_ca (goodIn_r _ [13, 14, 15] (by decide +kernel) (by decide +kernel)) (goodIn_sub (fun _ h => List.mem_cons_of_mem _ (List.mem_append_right _ h)) (by decide +kernel))
set_option maxRecDepth 20000 in
theorem gX2_join_X2_refuseBadRate : GoodIn wsX2_join (va_wsS RX2 52 yX2_refuseBadRate wsX2_refuseBadRate) := goodIn_app (goodIn_of _ (by decide +kernel)) ggX2_join_X2_refuseBadRate
set_option maxRecDepth 20000 in
theorem ggX2_join_X1_init : GoodIn wsX2_join wsX1_init := goodIn_r _ [17, 18, 19, 20, 21, 22, 23, 24, 25, 26, 27, 33, 34, 35, 36, 37, 38, 39, 40, 41, 42, 43, 44, 45, 46] (by decide +kernel) (by decide +kernel)
set_option maxRecDepth 20000 in
theorem gX2_join_X1_init_n60 : GoodIn wsX2_join (wsX1_init) := ggX2_join_X1_init
set_option maxRecDepth 20000 in
theorem ggX2_rate_X2_memberOrThrow : GoodIn wsX2_rate wsX2_memberOrThrow := goodIn_ca (goodIn_r _ [5, 6, 7, 8, 33, 34, 35, 36, 37] (by decide +kernel) (by decide +kernel)) (goodIn_sub (fun _ h => List.mem_cons_of_mem _ (List.mem_append_left _ (List.mem_append_left _ (List.mem_append_right _ h)))) (by decide +kernel))
set_option maxRecDepth 20000 in
theorem gX2_rate_X2_memberOrThrow : GoodIn wsX2_rate (wsV RX2 63 RX2 yX2_memberOrThrow wsX2_memberOrThrow) := goodIn_app (goodIn_of _ (by decide +kernel)) ggX2_rate_X2_memberOrThrow
set_option maxRecDepth 20000 in
theorem ggX2_rate_X2_refuseBadRate : GoodIn wsX2_rate wsX2_refuseBadRate := goodIn_ca (goodIn_r _ [11, 12, 13] (by decide +kernel) (by decide +kernel)) (goodIn_sub (fun _ h => List.mem_cons_of_mem _ (List.mem_append_left _ (List.mem_append_right _ h))) (by decide +kernel))
set_option maxRecDepth 20000 in
theorem gX2_rate_X2_refuseBadRate : GoodIn wsX2_rate (va_wsS RX2 52 yX2_refuseBadRate wsX2_refuseBadRate) := goodIn_app (goodIn_of _ (by decide +kernel)) ggX2_rate_X2_refuseBadRate
set_option maxRecDepth 20000 in
theorem ggX2_rate_X2_refuseLeft : GoodIn wsX2_rate wsX2_refuseLeft := goodIn_ca (goodIn_r _ [16, 17, 18, 19, 20, 21, 22, 23, 24, 25, 26, 27, 28, 29, 30, 31, 32] (by decide +kernel) (by decide +kernel)) (goodIn_sub (fun _ h => List.mem_cons_of_mem _ (List.mem_append_right _ h)) (by decide +kernel))
set_option maxRecDepth 20000 in
theorem gX2_rate_X2_refuseLeft : GoodIn wsX2_rate (va_wsS RX2 67 yX2_refuseLeft wsX2_refuseLeft) := goodIn_app (goodIn_of _ (by decide +kernel)) ggX2_rate_X2_refuseLeft
set_option maxRecDepth 20000 in
theorem ggX2_slip_X2_memberOrThrow : GoodIn wsX2_slip wsX2_memberOrThrow := goodIn_ca (goodIn_r _ [8, 9, 10, 11, 24, 25, 26, 27, 28] (by decide +kernel) (by decide +kernel)) (goodIn_sub (fun _ h => List.mem_cons_of_mem _ (List.mem_append_left _ (List.mem_append_right _ h))) (by decide +kernel))
set_option maxRecDepth 20000 in
theorem gX2_slip_X2_memberOrThrow : GoodIn wsX2_slip (wsV RX2 63 RX2 yX2_memberOrThrow wsX2_memberOrThrow) := goodIn_app (goodIn_of _ (by decide +kernel)) ggX2_slip_X2_memberOrThrow
set_option maxRecDepth 20000 in
theorem ggX2_slip_X2_refuseLeft : GoodIn wsX2_slip wsX2_refuseLeft := goodIn_ca (goodIn_r _ [14, 15, 16, 29, 30, 31, 32, 33, 34, 35, 36, 37, 38, 39, 40, 41, 42] (by decide +kernel) (by decide +kernel)) (goodIn_sub (fun _ h => List.mem_cons_of_mem _ (List.mem_append_right _ h)) (by decide +kernel))
set_option maxRecDepth 20000 in
theorem gX2_slip_X2_refuseLeft : GoodIn wsX2_slip (va_wsS RX2 67 yX2_refuseLeft wsX2_refuseLeft) := goodIn_app (goodIn_of _ (by decide +kernel)) ggX2_slip_X2_refuseLeft
set_option maxRecDepth 20000 in
theorem ggX2_slip_X1_takeSlip : GoodIn wsX2_slip wsX1_takeSlip := goodIn_r _ [20, 21, 22, 23, 29, 30, 31, 32, 33, 34, 35, 36, 37, 38, 39, 40, 41, 42] (by decide +kernel) (by decide +kernel)
set_option maxRecDepth 20000 in
theorem gX2_slip_X1_takeSlip_n77 : GoodIn wsX2_slip (wsX1_takeSlip) := ggX2_slip_X1_takeSlip
set_option maxRecDepth 20000 in
theorem ggX2_leave_X2_memberOrThrow : GoodIn wsX2_leave wsX2_memberOrThrow := goodIn_ca (goodIn_r _ [5, 6, 7, 8, 21, 22, 23, 24, 25] (by decide +kernel) (by decide +kernel)) (goodIn_sub (fun _ h => List.mem_cons_of_mem _ (List.mem_append_left _ (List.mem_append_right _ h))) (by decide +kernel))
set_option maxRecDepth 20000 in
theorem gX2_leave_X2_memberOrThrow : GoodIn wsX2_leave (wsV RX2 63 RX2 yX2_memberOrThrow wsX2_memberOrThrow) := goodIn_app (goodIn_of _ (by decide +kernel)) ggX2_leave_X2_memberOrThrow
set_option maxRecDepth 20000 in
theorem ggX2_leave_X2_refuseLeft : GoodIn wsX2_leave wsX2_refuseLeft := goodIn_ca (goodIn_r _ [11, 12, 13, 26, 27, 28, 29, 30, 31, 32, 33, 34, 35, 36, 37, 38, 39] (by decide +kernel) (by decide +kernel)) (goodIn_sub (fun _ h => List.mem_cons_of_mem _ (List.mem_append_right _ h)) (by decide +kernel))
set_option maxRecDepth 20000 in
theorem gX2_leave_X2_refuseLeft : GoodIn wsX2_leave (va_wsS RX2 67 yX2_refuseLeft wsX2_refuseLeft) := goodIn_app (goodIn_of _ (by decide +kernel)) ggX2_leave_X2_refuseLeft
set_option maxRecDepth 20000 in
theorem ggX2_leave_X1_giveBack : GoodIn wsX2_leave wsX1_giveBack := goodIn_r _ [17, 18, 19, 20, 26, 27, 28, 29, 30, 31, 32, 33, 34, 35, 36, 37, 38, 39] (by decide +kernel) (by decide +kernel)
set_option maxRecDepth 20000 in
theorem gX2_leave_X1_giveBack_n81 : GoodIn wsX2_leave (wsX1_giveBack) := ggX2_leave_X1_giveBack
set_option maxRecDepth 20000 in
theorem ggX2_money_X2_memberOrThrow : GoodIn wsX2_money wsX2_memberOrThrow := goodIn_ca (goodIn_r _ [5, 6, 7, 8, 23, 24, 25, 26, 27] (by decide +kernel) (by decide +kernel)) (goodIn_sub (fun _ h => List.mem_cons_of_mem _ (List.mem_append_right _ h)) (by decide +kernel))
set_option maxRecDepth 20000 in
theorem gX2_money_X2_memberOrThrow : GoodIn wsX2_money (wsV RX2 63 RX2 yX2_memberOrThrow wsX2_memberOrThrow) := goodIn_app (goodIn_of _ (by decide +kernel)) ggX2_money_X2_memberOrThrow
set_option maxRecDepth 20000 in
theorem ggX2_offerMonth_X2_memberOrThrow : GoodIn wsX2_offerMonth wsX2_memberOrThrow := goodIn_ca (goodIn_r _ [5, 6, 7, 8, 23, 24, 25, 26, 27] (by decide +kernel) (by decide +kernel)) (goodIn_sub (fun _ h => List.mem_cons_of_mem _ (List.mem_append_right _ h)) (by decide +kernel))
set_option maxRecDepth 20000 in
theorem gX2_offerMonth_X2_memberOrThrow : GoodIn wsX2_offerMonth (wsV RX2 63 RX2 yX2_memberOrThrow wsX2_memberOrThrow) := goodIn_app (goodIn_of _ (by decide +kernel)) ggX2_offerMonth_X2_memberOrThrow
set_option maxRecDepth 20000 in
theorem ggX2_offerPrice_X2_memberOrThrow : GoodIn wsX2_offerPrice wsX2_memberOrThrow := goodIn_ca (goodIn_r _ [5, 6, 7, 8, 23, 24, 25, 26, 27] (by decide +kernel) (by decide +kernel)) (goodIn_sub (fun _ h => List.mem_cons_of_mem _ (List.mem_append_right _ h)) (by decide +kernel))
set_option maxRecDepth 20000 in
theorem gX2_offerPrice_X2_memberOrThrow : GoodIn wsX2_offerPrice (wsV RX2 63 RX2 yX2_memberOrThrow wsX2_memberOrThrow) := goodIn_app (goodIn_of _ (by decide +kernel)) ggX2_offerPrice_X2_memberOrThrow
set_option maxRecDepth 20000 in
theorem ggX2_resets_X2_memberOrThrow : GoodIn wsX2_resets wsX2_memberOrThrow := goodIn_ca (goodIn_r _ [5, 6, 7, 8, 23, 24, 25, 26, 27] (by decide +kernel) (by decide +kernel)) (goodIn_sub (fun _ h => List.mem_cons_of_mem _ (List.mem_append_right _ h)) (by decide +kernel))
set_option maxRecDepth 20000 in
theorem gX2_resets_X2_memberOrThrow : GoodIn wsX2_resets (wsV RX2 63 RX2 yX2_memberOrThrow wsX2_memberOrThrow) := goodIn_app (goodIn_of _ (by decide +kernel)) ggX2_resets_X2_memberOrThrow
set_option maxRecDepth 20000 in
theorem ggX2_shares_X2_memberOrThrow : GoodIn wsX2_shares wsX2_memberOrThrow := goodIn_ca (goodIn_r _ [5, 6, 7, 8, 14, 15, 16, 17, 18] (by decide +kernel) (by decide +kernel)) (goodIn_sub (fun _ h => List.mem_cons_of_mem _ (List.mem_append_right _ h)) (by decide +kernel))
set_option maxRecDepth 20000 in
theorem gX2_shares_X2_memberOrThrow : GoodIn wsX2_shares (wsV RX2 63 RX2 yX2_memberOrThrow wsX2_memberOrThrow) := goodIn_app (goodIn_of _ (by decide +kernel)) ggX2_shares_X2_memberOrThrow
set_option maxRecDepth 20000 in
theorem ggX2_shares_X1_sharesHeld : GoodIn wsX2_shares wsX1_sharesHeld := goodIn_r _ [12, 13, 19, 20, 21, 22, 23, 24, 25, 26, 27, 28, 29, 30, 31, 32, 33, 34, 35, 36, 37, 38, 39] (by decide +kernel) (by decide +kernel)
set_option maxRecDepth 20000 in
theorem gX2_shares_X1_sharesHeld_n98 : GoodIn wsX2_shares (wsX1_sharesHeld) := ggX2_shares_X1_sharesHeld
set_option maxRecDepth 20000 in
theorem ggX2_bought_X2_memberOrThrow : GoodIn wsX2_bought wsX2_memberOrThrow := goodIn_ca (goodIn_r _ [5, 6, 7, 8, 26, 27, 28, 29, 30] (by decide +kernel) (by decide +kernel)) (goodIn_sub (fun _ h => List.mem_cons_of_mem _ (List.mem_append_right _ h)) (by decide +kernel))
set_option maxRecDepth 20000 in
theorem gX2_bought_X2_memberOrThrow : GoodIn wsX2_bought (wsV RX2 63 RX2 yX2_memberOrThrow wsX2_memberOrThrow) := goodIn_app (goodIn_of _ (by decide +kernel)) ggX2_bought_X2_memberOrThrow
set_option maxRecDepth 20000 in
theorem ggX2_bought_X2_refuseBadMonth : GoodIn wsX2_bought wsX2_refuseBadMonth := goodIn_ca (goodIn_r _ [11, 6, 7] (by decide +kernel) (by decide +kernel)) (goodIn_sub (fun _ h => List.mem_cons_of_mem _ (List.mem_append_right _ h)) (by decide +kernel))
set_option maxRecDepth 20000 in
theorem gX2_bought_X2_refuseBadMonth : GoodIn wsX2_bought (va_wsS RX2 102 yX2_refuseBadMonth wsX2_refuseBadMonth) := goodIn_app (goodIn_of _ (by decide +kernel)) ggX2_bought_X2_refuseBadMonth
set_option maxRecDepth 20000 in
theorem ggX2_bought_X1_lotOf : GoodIn wsX2_bought wsX1_lotOf := goodIn_r _ [15, 16, 17, 4, 18, 31, 32, 33, 34, 35, 36, 37, 38, 39, 40, 41, 42, 43, 44] (by decide +kernel) (by decide +kernel)
set_option maxRecDepth 20000 in
theorem gX2_bought_X1_lotOf_n105 : GoodIn wsX2_bought (wsX1_lotOf) := ggX2_bought_X1_lotOf
set_option maxRecDepth 20000 in
theorem ggX2_paidEach_X2_memberOrThrow : GoodIn wsX2_paidEach wsX2_memberOrThrow := goodIn_ca (goodIn_r _ [5, 6, 7, 8, 26, 27, 28, 29, 30] (by decide +kernel) (by decide +kernel)) (goodIn_sub (fun _ h => List.mem_cons_of_mem _ (List.mem_append_right _ h)) (by decide +kernel))
set_option maxRecDepth 20000 in
theorem gX2_paidEach_X2_memberOrThrow : GoodIn wsX2_paidEach (wsV RX2 63 RX2 yX2_memberOrThrow wsX2_memberOrThrow) := goodIn_app (goodIn_of _ (by decide +kernel)) ggX2_paidEach_X2_memberOrThrow
set_option maxRecDepth 20000 in
theorem ggX2_paidEach_X2_refuseBadMonth : GoodIn wsX2_paidEach wsX2_refuseBadMonth := goodIn_ca (goodIn_r _ [11, 6, 7] (by decide +kernel) (by decide +kernel)) (goodIn_sub (fun _ h => List.mem_cons_of_mem _ (List.mem_append_right _ h)) (by decide +kernel))
set_option maxRecDepth 20000 in
theorem gX2_paidEach_X2_refuseBadMonth : GoodIn wsX2_paidEach (va_wsS RX2 102 yX2_refuseBadMonth wsX2_refuseBadMonth) := goodIn_app (goodIn_of _ (by decide +kernel)) ggX2_paidEach_X2_refuseBadMonth
set_option maxRecDepth 20000 in
theorem ggX2_paidEach_X1_lotOf : GoodIn wsX2_paidEach wsX1_lotOf := goodIn_r _ [15, 16, 17, 4, 18, 31, 32, 33, 34, 35, 36, 37, 38, 39, 40, 41, 42, 43, 44] (by decide +kernel) (by decide +kernel)
set_option maxRecDepth 20000 in
theorem gX2_paidEach_X1_lotOf_n105 : GoodIn wsX2_paidEach (wsX1_lotOf) := ggX2_paidEach_X1_lotOf
set_option maxRecDepth 20000 in
theorem ggX2_counted_X2_memberOrThrow : GoodIn wsX2_counted wsX2_memberOrThrow := goodIn_ca (goodIn_r _ [7, 1, 2, 8, 14, 15, 16, 17, 18] (by decide +kernel) (by decide +kernel)) (goodIn_sub (fun _ h => List.mem_cons_of_mem _ (List.mem_append_right _ h)) (by decide +kernel))
set_option maxRecDepth 20000 in
theorem gX2_counted_X2_memberOrThrow : GoodIn wsX2_counted (wsV RX2 63 RX2 yX2_memberOrThrow wsX2_memberOrThrow) := goodIn_app (goodIn_of _ (by decide +kernel)) ggX2_counted_X2_memberOrThrow
set_option maxRecDepth 20000 in
theorem ggX2_counted_X1_countedIn : GoodIn wsX2_counted wsX1_countedIn := goodIn_r _ [12, 13, 19, 20, 21, 22, 23, 24, 25, 26, 27, 28, 29, 30, 31, 32] (by decide +kernel) (by decide +kernel)
set_option maxRecDepth 20000 in
theorem gX2_counted_X1_countedIn_n122 : GoodIn wsX2_counted (wsX1_countedIn) := ggX2_counted_X1_countedIn
set_option maxRecDepth 20000 in
theorem ggX2_traced_X2_memberOrThrow : GoodIn wsX2_traced wsX2_memberOrThrow := goodIn_ca (goodIn_r _ [5, 6, 7, 8, 23, 24, 25, 26, 27] (by decide +kernel) (by decide +kernel)) (goodIn_sub (fun _ h => List.mem_cons_of_mem _ (List.mem_append_right _ h)) (by decide +kernel))
set_option maxRecDepth 20000 in
theorem gX2_traced_X2_memberOrThrow : GoodIn wsX2_traced (wsV RX2 63 RX2 yX2_memberOrThrow wsX2_memberOrThrow) := goodIn_app (goodIn_of _ (by decide +kernel)) ggX2_traced_X2_memberOrThrow
set_option maxRecDepth 20000 in
theorem ggX2_kept_X2_memberOrThrow : GoodIn wsX2_kept wsX2_memberOrThrow := goodIn_ca (goodIn_r _ [5, 6, 7, 8, 23, 24, 25, 26, 27] (by decide +kernel) (by decide +kernel)) (goodIn_sub (fun _ h => List.mem_cons_of_mem _ (List.mem_append_right _ h)) (by decide +kernel))
set_option maxRecDepth 20000 in
theorem gX2_kept_X2_memberOrThrow : GoodIn wsX2_kept (wsV RX2 63 RX2 yX2_memberOrThrow wsX2_memberOrThrow) := goodIn_app (goodIn_of _ (by decide +kernel)) ggX2_kept_X2_memberOrThrow
set_option maxRecDepth 20000 in
theorem ggX2_sell_X2_memberOrThrow : GoodIn wsX2_sell wsX2_memberOrThrow := goodIn_ca (goodIn_r _ [12, 13, 14, 15, 51, 52, 53, 54, 55] (by decide +kernel) (by decide +kernel)) (goodIn_sub (fun _ h => List.mem_cons_of_mem _ (List.mem_append_right _ h)) (by decide +kernel))
set_option maxRecDepth 20000 in
theorem gX2_sell_X2_memberOrThrow : GoodIn wsX2_sell (wsV RX2 63 RX2 yX2_memberOrThrow wsX2_memberOrThrow) := goodIn_app (goodIn_of _ (by decide +kernel)) ggX2_sell_X2_memberOrThrow
set_option maxRecDepth 20000 in
theorem ggX2_sell_X1_sharesHeld : GoodIn wsX2_sell wsX1_sharesHeld := goodIn_r _ [19, 20, 56, 57, 58, 59, 60, 61, 62, 63, 64, 65, 66, 67, 68, 69, 70, 71, 72, 73, 74, 75, 76] (by decide +kernel) (by decide +kernel)
set_option maxRecDepth 20000 in
theorem gX2_sell_X1_sharesHeld_n98 : GoodIn wsX2_sell (wsX1_sharesHeld) := ggX2_sell_X1_sharesHeld
set_option maxRecDepth 20000 in
theorem ggX2_sell_X1_sellOldest : GoodIn wsX2_sell wsX1_sellOldest := goodIn_r _ [23, 20, 24, 25, 26, 27, 28, 29, 30, 31, 32, 33, 34, 35, 36, 37, 38, 39, 40, 41, 42, 43, 44, 45, 46, 47, 48, 49, 50, 56, 57, 58, 59, 60, 61, 62, 63, 64, 65, 66, 67, 68, 69, 70, 71, 72, 73, 74, 75, 76] (by decide +kernel) (by decide +kernel)
set_option maxRecDepth 20000 in
theorem gX2_sell_X1_sellOldest_n140 : GoodIn wsX2_sell (wsX1_sellOldest) := ggX2_sell_X1_sellOldest
set_option maxRecDepth 20000 in
theorem ggX2_pay_X2_memberOrThrow : GoodIn wsX2_pay wsX2_memberOrThrow := goodIn_ca (goodIn_r _ [5, 6, 7, 8, 23, 24, 25, 26, 27] (by decide +kernel) (by decide +kernel)) (goodIn_sub (fun _ h => List.mem_cons_of_mem _ (List.mem_append_right _ h)) (by decide +kernel))
set_option maxRecDepth 20000 in
theorem gX2_pay_X2_memberOrThrow : GoodIn wsX2_pay (wsV RX2 63 RX2 yX2_memberOrThrow wsX2_memberOrThrow) := goodIn_app (goodIn_of _ (by decide +kernel)) ggX2_pay_X2_memberOrThrow
set_option maxRecDepth 20000 in
theorem ggX2_gain_X2_memberOrThrow : GoodIn wsX2_gain wsX2_memberOrThrow := goodIn_ca (goodIn_r _ [5, 6, 7, 8, 23, 24, 25, 26, 27] (by decide +kernel) (by decide +kernel)) (goodIn_sub (fun _ h => List.mem_cons_of_mem _ (List.mem_append_right _ h)) (by decide +kernel))
set_option maxRecDepth 20000 in
theorem gX2_gain_X2_memberOrThrow : GoodIn wsX2_gain (wsV RX2 63 RX2 yX2_memberOrThrow wsX2_memberOrThrow) := goodIn_app (goodIn_of _ (by decide +kernel)) ggX2_gain_X2_memberOrThrow
set_option maxRecDepth 20000 in
theorem ggX2_gainNow_X2_memberOrThrow : GoodIn wsX2_gainNow wsX2_memberOrThrow := goodIn_ca (goodIn_r _ [7, 8, 9, 10, 40, 41, 42, 43, 44] (by decide +kernel) (by decide +kernel)) (goodIn_sub (fun _ h => List.mem_cons_of_mem _ (List.mem_append_right _ h)) (by decide +kernel))
set_option maxRecDepth 20000 in
theorem gX2_gainNow_X2_memberOrThrow : GoodIn wsX2_gainNow (wsV RX2 63 RX2 yX2_memberOrThrow wsX2_memberOrThrow) := goodIn_app (goodIn_of _ (by decide +kernel)) ggX2_gainNow_X2_memberOrThrow
set_option maxRecDepth 20000 in
theorem ggX2_gainNow_X1_gainIfAllSold : GoodIn wsX2_gainNow wsX1_gainIfAllSold := goodIn_r _ [14, 15, 16, 17, 18, 19, 20, 21, 22, 23, 24, 25, 26, 27, 28, 29, 30, 31, 32, 33, 34, 35, 36, 37, 38, 39, 45, 46, 47, 48, 49, 50, 51, 52, 53, 54, 55, 56, 57, 58, 59, 60, 61, 62, 63, 64, 65] (by decide +kernel) (by decide +kernel)
set_option maxRecDepth 20000 in
theorem gX2_gainNow_X1_gainIfAllSold_n150 : GoodIn wsX2_gainNow (wsX1_gainIfAllSold) := ggX2_gainNow_X1_gainIfAllSold
set_option maxRecDepth 20000 in
theorem ggX2_buyForAll_X1_buyShares : GoodIn wsX2_buyForAll wsX1_buyShares := goodIn_r _ [8, 9, 10, 11, 12, 13, 14, 15, 16, 17, 18, 19, 20, 21, 22, 23, 24, 25, 6, 26, 27, 28, 29, 30, 31, 32, 33, 34, 35, 36, 37, 38, 39, 40, 41, 42, 43, 44, 45, 46, 47, 48, 49, 50, 51, 52, 53, 54, 55, 56, 57, 58, 59, 60, 66, 67, 68, 69, 70, 71, 72, 73, 74, 75, 76, 77, 78, 79, 80, 81, 82, 83, 84, 85, 86] (by decide +kernel) (by decide +kernel)
set_option maxRecDepth 20000 in
theorem gX2_buyForAll_X1_buyShares_n166 : GoodIn wsX2_buyForAll (wsX1_buyShares) := ggX2_buyForAll_X1_buyShares
set_option maxRecDepth 20000 in
theorem ggL_buys_L_counted : GoodIn wsL_buys wsL_counted := goodIn_r _ [5] (by decide +kernel) (by decide +kernel)
set_option maxRecDepth 20000 in
theorem gL_buys_L_counted : GoodIn wsL_buys (va_wsS RL 9 yL_counted wsL_counted) := goodIn_app (goodIn_of _ (by decide +kernel)) ggL_buys_L_counted
set_option maxRecDepth 20000 in
theorem ggL_payEach_L_isEarly : GoodIn wsL_payEach wsL_isEarly := goodIn_r _ [4] (by decide +kernel) (by decide +kernel)
set_option maxRecDepth 20000 in
theorem gL_payEach_L_isEarly : GoodIn wsL_payEach (va_wsS RL 16 yL_isEarly wsL_isEarly) := goodIn_app (goodIn_of _ (by decide +kernel)) ggL_payEach_L_isEarly
set_option maxRecDepth 20000 in
theorem ggL_begun_X2_next : GoodIn wsL_begun wsX2_next := goodIn_ca (goodIn_ca (goodIn_r _ [7, 8, 9, 10, 11, 12, 13, 14, 15, 16, 6, 17, 18, 19, 20, 21, 22, 23, 24, 25, 26, 27, 28, 29, 30, 31, 32, 33, 34, 35, 36, 37, 38, 39, 40, 41, 42, 43, 44, 45, 46, 47, 48, 49, 50, 51, 52, 53, 54, 55, 56, 57, 58, 59, 60, 61, 62, 63, 64, 65, 66, 67, 68, 69, 70, 71, 72, 73, 74, 75, 76, 77, 78, 79, 80, 81, 82, 83, 84, 85, 86, 87, 88, 89, 90, 91, 92, 93, 94, 95, 96, 97, 98, 99, 100, 101, 102, 103, 104, 105] (by decide +kernel) (by decide +kernel)) (goodIn_sub (fun _ h => List.mem_cons_of_mem _ (List.mem_append_left _ (List.mem_append_right _ h))) (by decide +kernel))) (goodIn_sub (fun _ h => List.mem_cons_of_mem _ (List.mem_append_right _ h)) (by decide +kernel))
set_option maxRecDepth 20000 in
theorem gL_begun_X2_next : GoodIn wsL_begun (wsV RL 20 RX2 yX2_next wsX2_next) := goodIn_app (goodIn_of _ (by decide +kernel)) ggL_begun_X2_next
set_option maxRecDepth 20000 in
theorem ggL_set_X2_ceiling : GoodIn wsL_set wsX2_ceiling := goodIn_ca (goodIn_r _ [7, 8, 9, 10, 11, 40, 41, 42, 43, 44] (by decide +kernel) (by decide +kernel)) (goodIn_sub (fun _ h => List.mem_cons_of_mem _ (List.mem_append_left _ (List.mem_append_right _ h))) (by decide +kernel))
set_option maxRecDepth 20000 in
theorem gL_set_X2_ceiling : GoodIn wsL_set (wsV RL 30 RX2 yX2_ceiling wsX2_ceiling) := goodIn_app (goodIn_of _ (by decide +kernel)) ggL_set_X2_ceiling
set_option maxRecDepth 20000 in
theorem ggL_set_X2_join : GoodIn wsL_set wsX2_join := goodIn_ca (goodIn_ca (goodIn_r _ [15, 16, 17, 18, 19, 20, 21, 22, 23, 24, 25, 26, 6, 27, 8, 9, 28, 29, 30, 31, 32, 33, 34, 35, 36, 37, 38, 39, 40, 41, 42, 43, 44, 45, 46, 47, 48, 49, 50, 51, 52, 53, 54, 55, 56, 57, 58] (by decide +kernel) (by decide +kernel)) (goodIn_sub (fun _ h => List.mem_cons_of_mem _ (List.mem_append_right _ h)) (by decide +kernel))) (goodIn_sub (fun _ h => List.mem_cons_of_mem _ (List.mem_append_left _ (List.mem_append_right _ h))) (by decide +kernel))
set_option maxRecDepth 20000 in
theorem gL_set_X2_join : GoodIn wsL_set (wsV RL 33 RX2 yX2_join wsX2_join) := goodIn_app (goodIn_of _ (by decide +kernel)) ggL_set_X2_join
set_option maxRecDepth 20000 in
theorem ggL_act_X2_rate : GoodIn wsL_act wsX2_rate := goodIn_ca (goodIn_ca (goodIn_ca (goodIn_r _ [8, 9, 10, 11, 7, 12, 13, 14, 15, 16, 17, 18, 19, 20, 21, 22, 23, 24, 25, 79, 80, 81, 82, 83, 84, 85, 86, 87, 88, 89, 90, 91, 92, 93, 94, 95, 96, 97] (by decide +kernel) (by decide +kernel)) (goodIn_sub (fun _ h => List.mem_cons_of_mem _ (List.mem_append_left _ (List.mem_append_left _ (List.mem_append_right _ h)))) (by decide +kernel))) (goodIn_sub (fun _ h => List.mem_cons_of_mem _ (List.mem_append_left _ (List.mem_append_right _ h))) (by decide +kernel))) (goodIn_sub (fun _ h => List.mem_cons_of_mem _ (List.mem_append_right _ h)) (by decide +kernel))
set_option maxRecDepth 20000 in
theorem gL_act_X2_rate : GoodIn wsL_act (wsV RL 36 RX2 yX2_rate wsX2_rate) := goodIn_app (goodIn_of _ (by decide +kernel)) ggL_act_X2_rate
set_option maxRecDepth 20000 in
theorem ggL_act_X2_slip : GoodIn wsL_act wsX2_slip := goodIn_ca (goodIn_ca (goodIn_ca (goodIn_r _ [29, 19, 20, 30, 9, 10, 11, 7, 12, 13, 14, 15, 21, 22, 23, 24, 25, 31, 32, 33, 34, 35, 36, 37, 93, 94, 95, 96, 97, 79, 80, 81, 82, 83, 84, 85, 86, 87, 88, 89, 90, 91, 92] (by decide +kernel) (by decide +kernel)) (goodIn_sub (fun _ h => List.mem_cons_of_mem _ (List.mem_append_left _ (List.mem_append_right _ h))) (by decide +kernel))) (goodIn_sub (fun _ h => List.mem_cons_of_mem _ (List.mem_append_left _ (List.mem_append_left _ (List.mem_append_right _ h)))) (by decide +kernel))) (goodIn_sub (fun _ h => List.mem_cons_of_mem _ (List.mem_append_right _ h)) (by decide +kernel))
set_option maxRecDepth 20000 in
theorem gL_act_X2_slip : GoodIn wsL_act (wsV RL 40 RX2 yX2_slip wsX2_slip) := goodIn_app (goodIn_of _ (by decide +kernel)) ggL_act_X2_slip
set_option maxRecDepth 20000 in
theorem ggL_act_X2_sell : GoodIn wsL_act wsX2_sell := goodIn_ca (goodIn_ca (goodIn_ca (goodIn_r _ [41, 19, 20, 24, 25, 42, 43, 44, 9, 10, 11, 7, 12, 13, 14, 15, 45, 32, 46, 47, 48, 49, 50, 51, 52, 53, 54, 55, 56, 57, 58, 59, 60, 61, 62, 63, 64, 65, 66, 67, 68, 69, 70, 71, 72, 73, 74, 75, 76, 77, 78, 93, 94, 95, 96, 97, 79, 80, 81, 82, 83, 84, 85, 86, 87, 88, 89, 90, 91, 92, 98, 99, 100, 101, 102, 103, 104] (by decide +kernel) (by decide +kernel)) (goodIn_sub (fun _ h => List.mem_cons_of_mem _ (List.mem_append_left _ (List.mem_append_right _ h))) (by decide +kernel))) (goodIn_sub (fun _ h => List.mem_cons_of_mem _ (List.mem_append_right _ h)) (by decide +kernel))) (goodIn_sub (fun _ h => List.mem_cons_of_mem _ (List.mem_append_left _ (List.mem_append_left _ (List.mem_append_right _ h)))) (by decide +kernel))
set_option maxRecDepth 20000 in
theorem gL_act_X2_sell : GoodIn wsL_act (wsV RL 43 RX2 yX2_sell wsX2_sell) := goodIn_app (goodIn_of _ (by decide +kernel)) ggL_act_X2_sell
set_option maxRecDepth 20000 in
theorem ggL_leaves_X2_leave : GoodIn wsL_leaves wsX2_leave := goodIn_ca (goodIn_ca (goodIn_r _ [7, 8, 9, 10, 6, 11, 12, 13, 14, 15, 16, 17, 18, 19, 20, 21, 22, 23, 24, 25, 26, 27, 28, 29, 30, 31, 32, 33, 34, 35, 36, 37, 38, 39, 40, 41, 42, 43, 44, 45] (by decide +kernel) (by decide +kernel)) (goodIn_sub (fun _ h => List.mem_cons_of_mem _ (List.mem_append_left _ (List.mem_append_right _ h))) (by decide +kernel))) (goodIn_sub (fun _ h => List.mem_cons_of_mem _ (List.mem_append_right _ h)) (by decide +kernel))
set_option maxRecDepth 20000 in
theorem gL_leaves_X2_leave : GoodIn wsL_leaves (wsV RL 48 RX2 yX2_leave wsX2_leave) := goodIn_app (goodIn_of _ (by decide +kernel)) ggL_leaves_X2_leave
set_option maxRecDepth 20000 in
theorem ggL_of_X2_money : GoodIn wsL_of wsX2_money := goodIn_ca (goodIn_r _ [6, 7, 8, 9, 5, 10, 11, 12, 13, 51, 52, 53, 54, 55, 56, 57, 58, 59, 60, 61, 62, 63, 64, 65, 66, 67, 68, 69] (by decide +kernel) (by decide +kernel)) (goodIn_sub (fun _ h => List.mem_cons_of_mem _ (List.mem_append_right _ h)) (by decide +kernel))
set_option maxRecDepth 20000 in
theorem gL_of_X2_money : GoodIn wsL_of (wsV RL 51 RX2 yX2_money wsX2_money) := goodIn_app (goodIn_of _ (by decide +kernel)) ggL_of_X2_money
set_option maxRecDepth 20000 in
theorem ggL_of_X2_offerMonth : GoodIn wsL_of wsX2_offerMonth := goodIn_ca (goodIn_r _ [17, 7, 8, 9, 5, 10, 11, 12, 13, 51, 52, 53, 54, 55, 56, 57, 58, 59, 60, 61, 62, 63, 64, 65, 66, 67, 68, 69] (by decide +kernel) (by decide +kernel)) (goodIn_sub (fun _ h => List.mem_cons_of_mem _ (List.mem_append_right _ h)) (by decide +kernel))
set_option maxRecDepth 20000 in
theorem gL_of_X2_offerMonth : GoodIn wsL_of (wsV RL 54 RX2 yX2_offerMonth wsX2_offerMonth) := goodIn_app (goodIn_of _ (by decide +kernel)) ggL_of_X2_offerMonth
set_option maxRecDepth 20000 in
theorem ggL_of_X2_offerPrice : GoodIn wsL_of wsX2_offerPrice := goodIn_ca (goodIn_r _ [21, 7, 8, 9, 5, 10, 11, 12, 13, 51, 52, 53, 54, 55, 56, 57, 58, 59, 60, 61, 62, 63, 64, 65, 66, 67, 68, 69] (by decide +kernel) (by decide +kernel)) (goodIn_sub (fun _ h => List.mem_cons_of_mem _ (List.mem_append_right _ h)) (by decide +kernel))
set_option maxRecDepth 20000 in
theorem gL_of_X2_offerPrice : GoodIn wsL_of (wsV RL 57 RX2 yX2_offerPrice wsX2_offerPrice) := goodIn_app (goodIn_of _ (by decide +kernel)) ggL_of_X2_offerPrice
set_option maxRecDepth 20000 in
theorem ggL_of_X2_resets : GoodIn wsL_of wsX2_resets := goodIn_ca (goodIn_r _ [25, 7, 8, 9, 5, 10, 11, 12, 13, 51, 52, 53, 54, 55, 56, 57, 58, 59, 60, 61, 62, 63, 64, 65, 66, 67, 68, 69] (by decide +kernel) (by decide +kernel)) (goodIn_sub (fun _ h => List.mem_cons_of_mem _ (List.mem_append_right _ h)) (by decide +kernel))
set_option maxRecDepth 20000 in
theorem gL_of_X2_resets : GoodIn wsL_of (wsV RL 60 RX2 yX2_resets wsX2_resets) := goodIn_app (goodIn_of _ (by decide +kernel)) ggL_of_X2_resets
set_option maxRecDepth 20000 in
theorem ggL_of_X2_shares : GoodIn wsL_of wsX2_shares := goodIn_ca (goodIn_r _ [29, 7, 8, 9, 5, 10, 11, 12, 13, 30, 31, 32, 33, 34, 65, 66, 67, 68, 69, 51, 52, 53, 54, 55, 56, 57, 58, 59, 60, 61, 62, 63, 64, 70, 71, 72, 73, 74, 75, 76] (by decide +kernel) (by decide +kernel)) (goodIn_sub (fun _ h => List.mem_cons_of_mem _ (List.mem_append_right _ h)) (by decide +kernel))
set_option maxRecDepth 20000 in
theorem gL_of_X2_shares : GoodIn wsL_of (wsV RL 63 RX2 yX2_shares wsX2_shares) := goodIn_app (goodIn_of _ (by decide +kernel)) ggL_of_X2_shares
set_option maxRecDepth 20000 in
theorem ggL_of_X2_bought : GoodIn wsL_of wsX2_bought := goodIn_ca (goodIn_r _ [38, 7, 8, 9, 5, 10, 11, 12, 13, 39, 40, 41, 42, 31, 43, 44, 34, 45, 46, 70, 71, 72, 73, 74, 75, 76, 65, 66, 67, 68, 69, 51, 52, 53, 54, 55, 56, 57, 58, 59, 60, 61, 62, 63, 64] (by decide +kernel) (by decide +kernel)) (goodIn_sub (fun _ h => List.mem_cons_of_mem _ (List.mem_append_right _ h)) (by decide +kernel))
set_option maxRecDepth 20000 in
theorem gL_of_X2_bought : GoodIn wsL_of (wsV RL 66 RX2 yX2_bought wsX2_bought) := goodIn_app (goodIn_of _ (by decide +kernel)) ggL_of_X2_bought
set_option maxRecDepth 20000 in
theorem ggL_of_X2_paidEach : GoodIn wsL_of wsX2_paidEach := goodIn_ca (goodIn_r _ [50, 7, 8, 9, 5, 10, 11, 12, 13, 39, 40, 41, 42, 31, 43, 44, 34, 45, 46, 70, 71, 72, 73, 74, 75, 76, 65, 66, 67, 68, 69, 51, 52, 53, 54, 55, 56, 57, 58, 59, 60, 61, 62, 63, 64] (by decide +kernel) (by decide +kernel)) (goodIn_sub (fun _ h => List.mem_cons_of_mem _ (List.mem_append_right _ h)) (by decide +kernel))
set_option maxRecDepth 20000 in
theorem gL_of_X2_paidEach : GoodIn wsL_of (wsV RL 69 RX2 yX2_paidEach wsX2_paidEach) := goodIn_app (goodIn_of _ (by decide +kernel)) ggL_of_X2_paidEach
set_option maxRecDepth 20000 in
theorem ggL_sum_X2_counted : GoodIn wsL_sum wsX2_counted := goodIn_ca (goodIn_r _ [7, 8, 9, 10, 11, 12, 6, 13, 14, 15, 16, 17, 18, 19, 70, 71, 72, 73, 74, 75, 76, 77, 78, 79, 80, 81, 82, 83, 84, 85, 86, 87, 88] (by decide +kernel) (by decide +kernel)) (goodIn_sub (fun _ h => List.mem_cons_of_mem _ (List.mem_append_right _ h)) (by decide +kernel))
set_option maxRecDepth 20000 in
theorem gL_sum_X2_counted : GoodIn wsL_sum (wsV RL 72 RX2 yX2_counted wsX2_counted) := goodIn_app (goodIn_of _ (by decide +kernel)) ggL_sum_X2_counted
set_option maxRecDepth 20000 in
theorem ggL_sum_X2_traced : GoodIn wsL_sum wsX2_traced := goodIn_ca (goodIn_r _ [23, 10, 11, 12, 6, 13, 8, 9, 14, 75, 76, 77, 78, 79, 80, 81, 82, 83, 84, 85, 86, 87, 88, 70, 71, 72, 73, 74] (by decide +kernel) (by decide +kernel)) (goodIn_sub (fun _ h => List.mem_cons_of_mem _ (List.mem_append_right _ h)) (by decide +kernel))
set_option maxRecDepth 20000 in
theorem gL_sum_X2_traced : GoodIn wsL_sum (wsV RL 75 RX2 yX2_traced wsX2_traced) := goodIn_app (goodIn_of _ (by decide +kernel)) ggL_sum_X2_traced
set_option maxRecDepth 20000 in
theorem ggL_sum_X2_kept : GoodIn wsL_sum wsX2_kept := goodIn_ca (goodIn_r _ [27, 10, 11, 12, 6, 13, 8, 9, 14, 75, 76, 77, 78, 79, 80, 81, 82, 83, 84, 85, 86, 87, 88, 70, 71, 72, 73, 74] (by decide +kernel) (by decide +kernel)) (goodIn_sub (fun _ h => List.mem_cons_of_mem _ (List.mem_append_right _ h)) (by decide +kernel))
set_option maxRecDepth 20000 in
theorem gL_sum_X2_kept : GoodIn wsL_sum (wsV RL 79 RX2 yX2_kept wsX2_kept) := goodIn_app (goodIn_of _ (by decide +kernel)) ggL_sum_X2_kept
set_option maxRecDepth 20000 in
theorem ggL_sum_X2_pay : GoodIn wsL_sum wsX2_pay := goodIn_ca (goodIn_r _ [31, 10, 11, 12, 6, 13, 8, 9, 14, 75, 76, 77, 78, 79, 80, 81, 82, 83, 84, 85, 86, 87, 88, 70, 71, 72, 73, 74] (by decide +kernel) (by decide +kernel)) (goodIn_sub (fun _ h => List.mem_cons_of_mem _ (List.mem_append_right _ h)) (by decide +kernel))
set_option maxRecDepth 20000 in
theorem gL_sum_X2_pay : GoodIn wsL_sum (wsV RL 82 RX2 yX2_pay wsX2_pay) := goodIn_app (goodIn_of _ (by decide +kernel)) ggL_sum_X2_pay
set_option maxRecDepth 20000 in
theorem ggL_sum_X2_gain : GoodIn wsL_sum wsX2_gain := goodIn_ca (goodIn_r _ [35, 10, 11, 12, 6, 13, 8, 9, 14, 75, 76, 77, 78, 79, 80, 81, 82, 83, 84, 85, 86, 87, 88, 70, 71, 72, 73, 74] (by decide +kernel) (by decide +kernel)) (goodIn_sub (fun _ h => List.mem_cons_of_mem _ (List.mem_append_right _ h)) (by decide +kernel))
set_option maxRecDepth 20000 in
theorem gL_sum_X2_gain : GoodIn wsL_sum (wsV RL 85 RX2 yX2_gain wsX2_gain) := goodIn_app (goodIn_of _ (by decide +kernel)) ggL_sum_X2_gain
set_option maxRecDepth 20000 in
theorem ggL_sum_X2_gainNow : GoodIn wsL_sum wsX2_gainNow := goodIn_ca (goodIn_r _ [39, 40, 41, 10, 11, 12, 6, 13, 8, 9, 14, 42, 16, 43, 44, 45, 46, 47, 48, 49, 50, 51, 52, 53, 54, 55, 56, 57, 58, 59, 60, 61, 62, 63, 64, 65, 66, 67, 68, 69, 70, 71, 72, 73, 74, 75, 76, 77, 78, 79, 80, 81, 82, 83, 84, 85, 86, 87, 88, 89, 90, 91, 92, 93, 94, 95] (by decide +kernel) (by decide +kernel)) (goodIn_sub (fun _ h => List.mem_cons_of_mem _ (List.mem_append_right _ h)) (by decide +kernel))
set_option maxRecDepth 20000 in
theorem gL_sum_X2_gainNow : GoodIn wsL_sum (wsV RL 88 RX2 yX2_gainNow wsX2_gainNow) := goodIn_app (goodIn_of _ (by decide +kernel)) ggL_sum_X2_gainNow
set_option maxRecDepth 20000 in
theorem ggL_goes_L_some : GoodIn wsL_goes wsL_some := goodIn_r _ [11] (by decide +kernel) (by decide +kernel)
set_option maxRecDepth 20000 in
theorem gL_goes_L_some : GoodIn wsL_goes (va_wsS RL 93 yL_some wsL_some) := goodIn_app (goodIn_of _ (by decide +kernel)) ggL_goes_L_some
set_option maxRecDepth 20000 in
theorem ggL_goes_L_buys : GoodIn wsL_goes wsL_buys := goodIn_r _ [14, 15, 16, 17, 10, 18] rfl (by decide +kernel)
set_option maxRecDepth 20000 in
theorem gL_goes_L_buys : GoodIn wsL_goes (va_wsS RL 98 yL_buys wsL_buys) := goodIn_app (goodIn_of _ (by decide +kernel)) ggL_goes_L_buys
set_option maxRecDepth 20000 in
theorem ggL_goes_L_begun : GoodIn wsL_goes wsL_begun := goodIn_ca (goodIn_ca (goodIn_r _ [21, 22, 23, 24, 25, 26, 27, 28, 29, 30, 31, 32, 33, 34, 35, 36, 37, 38, 39, 40, 41, 42, 43, 44, 45, 46, 47, 48, 49, 50, 51, 52, 53, 54, 55, 56, 57, 58, 59, 60, 61, 62, 63, 64, 65, 66, 67, 68, 69, 70, 71, 72, 73, 74, 75, 76, 77, 78, 79, 80, 81, 82, 83, 84, 85, 86, 87, 88, 89, 90, 91, 92, 93, 94, 95, 96, 97, 98, 99, 100, 190, 191, 192, 193, 194, 195, 196, 197, 198, 199, 200, 201, 202, 203, 204, 205, 206, 207, 208, 209, 210, 211, 212, 213, 214, 215] (by decide +kernel) (by decide +kernel)) (goodIn_sub (fun _ h => List.mem_cons_of_mem _ (List.mem_append_left _ (List.mem_append_left _ (List.mem_append_right _ h)))) (by decide +kernel))) (goodIn_sub (fun _ h => List.mem_cons_of_mem _ (List.mem_append_left _ (List.mem_append_right _ h))) (by decide +kernel))
set_option maxRecDepth 20000 in
theorem gL_goes_L_begun : GoodIn wsL_goes (va_wsS RL 102 yL_begun wsL_begun) := goodIn_app (goodIn_of _ (by decide +kernel)) ggL_goes_L_begun
set_option maxRecDepth 20000 in
theorem ggL_goes_L_set : GoodIn wsL_goes wsL_set := goodIn_ca (goodIn_ca (goodIn_r _ [103, 22, 23, 104, 105, 106, 27, 107, 29, 30, 108, 44, 109, 110, 111, 112, 31, 32, 34, 113, 43, 114, 115, 46, 35, 116, 117, 118, 119, 120, 121, 78, 79, 58, 91, 122, 74, 123, 61, 49, 190, 191, 192, 193, 194, 195, 196, 197, 198, 199, 200, 201, 202, 203, 204, 205, 206, 207, 208] (by decide +kernel) (by decide +kernel)) (goodIn_sub (fun _ h => List.mem_cons_of_mem _ (List.mem_append_left _ (List.mem_append_left _ (List.mem_append_right _ h)))) (by decide +kernel))) (goodIn_sub (fun _ h => List.mem_cons_of_mem _ (List.mem_append_left _ (List.mem_append_right _ h))) (by decide +kernel))
set_option maxRecDepth 20000 in
theorem gL_goes_L_set : GoodIn wsL_goes (va_wsS RL 109 yL_set wsL_set) := goodIn_app (goodIn_of _ (by decide +kernel)) ggL_goes_L_set
set_option maxRecDepth 20000 in
theorem ggL_goes_L_act : GoodIn wsL_goes wsL_act := goodIn_ca (goodIn_ca (goodIn_ca (goodIn_r _ [126, 127, 22, 23, 128, 129, 130, 27, 131, 132, 133, 134, 135, 136, 137, 43, 116, 117, 118, 29, 30, 138, 139, 140, 31, 32, 141, 142, 143, 144, 145, 146, 46, 147, 148, 123, 54, 149, 150, 151, 152, 153, 154, 34, 35, 155, 156, 157, 91, 158, 159, 160, 50, 51, 52, 53, 161, 162, 163, 60, 164, 165, 81, 82, 84, 166, 167, 168, 169, 170, 171, 172, 173, 83, 80, 174, 175, 176, 177, 195, 196, 197, 198, 199, 200, 201, 202, 203, 204, 205, 206, 207, 208, 190, 191, 192, 193, 194, 209, 210, 211, 212, 213, 214, 215] (by decide +kernel) (by decide +kernel)) (goodIn_sub (fun _ h => List.mem_cons_of_mem _ (List.mem_append_right _ h)) (by decide +kernel))) (goodIn_sub (fun _ h => List.mem_cons_of_mem _ (List.mem_append_left _ (List.mem_append_left _ (List.mem_append_right _ h)))) (by decide +kernel))) (goodIn_sub (fun _ h => List.mem_cons_of_mem _ (List.mem_append_left _ (List.mem_append_right _ h))) (by decide +kernel))
set_option maxRecDepth 20000 in
theorem gL_goes_L_act : GoodIn wsL_goes (va_wsS RL 113 yL_act wsL_act) := goodIn_app (goodIn_of _ (by decide +kernel)) ggL_goes_L_act
set_option maxRecDepth 20000 in
theorem ggL_goes_L_leaves : GoodIn wsL_goes wsL_leaves := goodIn_ca (goodIn_ca (goodIn_r _ [180, 127, 23, 181, 182, 183, 27, 184, 132, 133, 134, 135, 136, 137, 43, 138, 139, 140, 31, 32, 185, 46, 186, 187, 54, 188, 189, 190, 191, 192, 193, 194, 195, 196, 197, 198, 199, 200, 201, 202, 203, 204, 205, 206, 207, 208] (by decide +kernel) (by decide +kernel)) (goodIn_sub (fun _ h => List.mem_cons_of_mem _ (List.mem_append_right _ h)) (by decide +kernel))) (goodIn_sub (fun _ h => List.mem_cons_of_mem _ (List.mem_append_left _ (List.mem_append_right _ h))) (by decide +kernel))
set_option maxRecDepth 20000 in
theorem gL_goes_L_leaves : GoodIn wsL_goes (va_wsS RL 117 yL_leaves wsL_leaves) := goodIn_app (goodIn_of _ (by decide +kernel)) ggL_goes_L_leaves
set_option maxRecDepth 20000 in
theorem ggL_sells_L_some : GoodIn wsL_sells wsL_some := goodIn_r _ [5] (by decide +kernel) (by decide +kernel)
set_option maxRecDepth 20000 in
theorem gL_sells_L_some : GoodIn wsL_sells (va_wsS RL 93 yL_some wsL_some) := goodIn_app (goodIn_of _ (by decide +kernel)) ggL_sells_L_some
set_option maxRecDepth 20000 in
theorem ggL_sells_L_payEach : GoodIn wsL_sells wsL_payEach := goodIn_r _ [8, 9, 10, 4, 11] (by decide +kernel) (by decide +kernel)
set_option maxRecDepth 20000 in
theorem gL_sells_L_payEach : GoodIn wsL_sells (va_wsS RL 123 yL_payEach wsL_payEach) := goodIn_app (goodIn_of _ (by decide +kernel)) ggL_sells_L_payEach
set_option maxRecDepth 20000 in
theorem ggL_sells_L_isEarly : GoodIn wsL_sells wsL_isEarly := goodIn_r _ [11] (by decide +kernel) (by decide +kernel)
set_option maxRecDepth 20000 in
theorem gL_sells_L_isEarly : GoodIn wsL_sells (va_wsS RL 16 yL_isEarly wsL_isEarly) := goodIn_app (goodIn_of _ (by decide +kernel)) ggL_sells_L_isEarly
set_option maxRecDepth 20000 in
theorem ggL_sells_L_act : GoodIn wsL_sells wsL_act := goodIn_ca (goodIn_ca (goodIn_ca (goodIn_r _ [14, 15, 16, 17, 18, 19, 20, 21, 22, 23, 24, 25, 26, 27, 28, 29, 30, 31, 32, 33, 34, 35, 36, 37, 38, 39, 40, 41, 42, 43, 44, 45, 46, 47, 48, 49, 50, 51, 52, 53, 54, 55, 56, 57, 58, 59, 60, 61, 62, 63, 64, 65, 66, 67, 68, 69, 70, 71, 72, 73, 74, 75, 76, 77, 78, 79, 80, 81, 82, 83, 84, 85, 86, 87, 88, 89, 90, 91, 92, 93, 94, 95, 96, 97, 98, 99, 100, 101, 102, 103, 104, 105, 106, 107, 108, 109, 110, 111, 112, 113, 114, 115, 116, 117, 118] (by decide +kernel) (by decide +kernel)) (goodIn_sub (fun _ h => List.mem_cons_of_mem _ (List.mem_append_left _ (List.mem_append_left _ (List.mem_append_right _ h)))) (by decide +kernel))) (goodIn_sub (fun _ h => List.mem_cons_of_mem _ (List.mem_append_left _ (List.mem_append_right _ h))) (by decide +kernel))) (goodIn_sub (fun _ h => List.mem_cons_of_mem _ (List.mem_append_right _ h)) (by decide +kernel))
set_option maxRecDepth 20000 in
theorem gL_sells_L_act : GoodIn wsL_sells (va_wsS RL 113 yL_act wsL_act) := goodIn_app (goodIn_of _ (by decide +kernel)) ggL_sells_L_act
set_option maxRecDepth 20000 in
theorem ggL_tells_L_some : GoodIn wsL_tells wsL_some := goodIn_r _ [5] (by decide +kernel) (by decide +kernel)
set_option maxRecDepth 20000 in
theorem gL_tells_L_some : GoodIn wsL_tells (va_wsS RL 93 yL_some wsL_some) := goodIn_app (goodIn_of _ (by decide +kernel)) ggL_tells_L_some
set_option maxRecDepth 20000 in
theorem ggL_tells_L_payEach : GoodIn wsL_tells wsL_payEach := goodIn_r _ [8, 9, 10, 4, 11] (by decide +kernel) (by decide +kernel)
set_option maxRecDepth 20000 in
theorem gL_tells_L_payEach : GoodIn wsL_tells (va_wsS RL 123 yL_payEach wsL_payEach) := goodIn_app (goodIn_of _ (by decide +kernel)) ggL_tells_L_payEach
set_option maxRecDepth 20000 in
theorem ggL_tells_L_of : GoodIn wsL_tells wsL_of := goodIn_ca (goodIn_r _ [14, 15, 16, 17, 18, 19, 20, 21, 22, 23, 24, 25, 26, 27, 28, 29, 30, 31, 32, 33, 34, 35, 36, 37, 38, 39, 40, 41, 42, 43, 44, 45, 46, 47, 48, 49, 50, 51, 52, 53, 54, 55, 56, 57, 58, 59, 60, 61, 62, 63, 64, 132, 133, 134, 135, 136, 137, 138, 139, 140, 141, 142, 143, 144, 145, 146, 147, 148, 149, 150, 151, 152, 153, 154, 155, 156, 157] (by decide +kernel) (by decide +kernel)) (goodIn_sub (fun _ h => List.mem_cons_of_mem _ (List.mem_append_right _ h)) (by decide +kernel))
set_option maxRecDepth 20000 in
theorem gL_tells_L_of : GoodIn wsL_tells (va_wsS RL 127 yL_of wsL_of) := goodIn_app (goodIn_of _ (by decide +kernel)) ggL_tells_L_of
set_option maxRecDepth 20000 in
theorem ggL_tells_L_sum : GoodIn wsL_tells wsL_sum := goodIn_ca (goodIn_r _ [67, 15, 1, 68, 69, 70, 19, 71, 25, 26, 21, 22, 23, 24, 27, 72, 45, 73, 74, 75, 76, 77, 78, 79, 80, 81, 82, 83, 84, 85, 86, 87, 88, 89, 90, 91, 92, 93, 94, 95, 96, 97, 98, 99, 100, 48, 101, 102, 103, 104, 105, 106, 107, 108, 109, 110, 111, 112, 113, 114, 115, 116, 117, 118, 119, 120, 121, 122, 123, 124, 146, 147, 148, 149, 150, 132, 133, 134, 135, 136, 137, 138, 139, 140, 141, 142, 143, 144, 145, 151, 152, 153, 154, 155, 156, 157] (by decide +kernel) (by decide +kernel)) (goodIn_sub (fun _ h => List.mem_cons_of_mem _ (List.mem_append_right _ h)) (by decide +kernel))
set_option maxRecDepth 20000 in
theorem gL_tells_L_sum : GoodIn wsL_tells (va_wsS RL 130 yL_sum wsL_sum) := goodIn_app (goodIn_of _ (by decide +kernel)) ggL_tells_L_sum
set_option maxRecDepth 20000 in
theorem ggL_tells_L_counted : GoodIn wsL_tells wsL_counted := goodIn_r _ [127] (by decide +kernel) (by decide +kernel)
set_option maxRecDepth 20000 in
theorem gL_tells_L_counted : GoodIn wsL_tells (va_wsS RL 9 yL_counted wsL_counted) := goodIn_app (goodIn_of _ (by decide +kernel)) ggL_tells_L_counted
set_option maxRecDepth 20000 in
theorem ggL_tells_X2_month : GoodIn wsL_tells wsX2_month := goodIn_r _ [131, 96, 146, 147, 148, 149, 150] (by decide +kernel) (by decide +kernel)
set_option maxRecDepth 20000 in
theorem gL_tells_X2_month : GoodIn wsL_tells (wsV RL 134 RX2 yX2_month wsX2_month) := goodIn_app (goodIn_of _ (by decide +kernel)) ggL_tells_X2_month
set_option maxRecDepth 20000 in
theorem ggL_law_X2_init : GoodIn wsL_law wsX2_init := goodIn_r _ [8, 9, 10, 11, 12, 13, 14, 15, 16, 17, 18, 289, 290, 291, 292, 293] (by decide +kernel) (by decide +kernel)
set_option maxRecDepth 20000 in
theorem gL_law_X2_init : GoodIn wsL_law (wsX2_init) := ggL_law_X2_init
set_option maxRecDepth 20000 in
theorem ggL_law_L_cell : GoodIn wsL_law wsL_cell := goodIn_r _ [22, 23] (by decide +kernel) (by decide +kernel)
set_option maxRecDepth 20000 in
theorem gL_law_L_cell : GoodIn wsL_law (va_wsS RL 139 yL_cell wsL_cell) := goodIn_app (goodIn_of _ (by decide +kernel)) ggL_law_L_cell
set_option maxRecDepth 20000 in
theorem ggL_law_L_some : GoodIn wsL_law wsL_some := goodIn_r _ [26] (by decide +kernel) (by decide +kernel)
set_option maxRecDepth 20000 in
theorem gL_law_L_some : GoodIn wsL_law (va_wsS RL 93 yL_some wsL_some) := goodIn_app (goodIn_of _ (by decide +kernel)) ggL_law_L_some
set_option maxRecDepth 20000 in
theorem ggL_law_L_goes : GoodIn wsL_law wsL_goes := goodIn_ca (goodIn_ca (goodIn_ca (goodIn_r _ [29, 30, 31, 32, 5, 33, 34, 35, 24, 25, 21, 26, 36, 37, 38, 39, 40, 41, 42, 43, 44, 45, 46, 47, 48, 49, 50, 2, 51, 52, 53, 54, 55, 56, 15, 16, 57, 58, 59, 60, 61, 62, 63, 13, 18, 64, 65, 66, 67, 68, 69, 70, 71, 72, 73, 74, 75, 76, 77, 78, 79, 80, 81, 82, 83, 84, 85, 86, 87, 88, 89, 90, 91, 92, 93, 94, 95, 96, 10, 11, 97, 98, 99, 100, 101, 102, 103, 104, 105, 106, 107, 108, 109, 110, 111, 112, 113, 114, 115, 116, 117, 118, 119, 120, 121, 122, 123, 124, 125, 126, 127, 128, 129, 14, 12, 130, 131, 132, 133, 134, 135, 136, 4, 137, 138, 139, 140, 141, 142, 143, 144, 145, 146, 147, 148, 149, 150, 151, 152, 153, 154, 155, 156, 157, 158, 159, 160, 161, 162, 163, 164, 165, 166, 167, 168, 169, 170, 171, 172, 173, 174, 175, 176, 177, 178, 179, 180, 181, 182, 183, 184, 185, 186, 187, 188, 189, 190, 191, 192, 193, 194, 195, 196, 197, 198, 199, 200, 201, 202, 203, 289, 290, 291, 292, 293, 294, 295, 296, 297, 298, 299, 300, 301, 302, 303, 304, 305, 306, 307, 308, 309, 310, 311, 312, 313, 314] rfl (by decide +kernel)) (goodIn_sub (fun _ h => List.mem_append_left _ (List.mem_append_left _ (List.mem_append_right _ h))) (by decide +kernel))) (goodIn_sub (fun _ h => List.mem_append_left _ (List.mem_append_right _ h)) (by decide +kernel))) (goodIn_sub (fun _ h => List.mem_append_right _ h) (by decide +kernel))
set_option maxRecDepth 20000 in
theorem gL_law_L_goes : GoodIn wsL_law (va_wsS RL 143 yL_goes wsL_goes) := goodIn_app (goodIn_of _ (by decide +kernel)) ggL_law_L_goes
set_option maxRecDepth 20000 in
theorem ggL_law_L_sells : GoodIn wsL_law wsL_sells := goodIn_ca (goodIn_ca (goodIn_ca (goodIn_r _ [206, 207, 24, 25, 21, 26, 208, 209, 210, 211, 212, 213, 138, 139, 140, 141, 46, 47, 142, 143, 144, 2, 145, 146, 147, 148, 149, 150, 151, 13, 131, 132, 133, 52, 53, 152, 153, 154, 54, 55, 155, 156, 157, 158, 159, 160, 65, 161, 162, 137, 73, 163, 164, 165, 166, 167, 168, 15, 16, 169, 170, 171, 108, 172, 173, 174, 69, 70, 71, 72, 175, 176, 177, 79, 178, 179, 98, 99, 101, 180, 181, 182, 183, 184, 185, 186, 187, 100, 97, 188, 189, 190, 191, 294, 295, 296, 297, 298, 299, 300, 301, 302, 303, 304, 305, 306, 307, 289, 290, 291, 292, 293, 308, 309, 310, 311, 312, 313, 314] rfl (by decide +kernel)) (goodIn_sub (fun _ h => List.mem_append_right _ h) (by decide +kernel))) (goodIn_sub (fun _ h => List.mem_append_left _ (List.mem_append_left _ (List.mem_append_right _ h))) (by decide +kernel))) (goodIn_sub (fun _ h => List.mem_append_left _ (List.mem_append_right _ h)) (by decide +kernel))
set_option maxRecDepth 20000 in
theorem gL_law_L_sells : GoodIn wsL_law (va_wsS RL 147 yL_sells wsL_sells) := goodIn_app (goodIn_of _ (by decide +kernel)) ggL_law_L_sells
set_option maxRecDepth 20000 in
theorem ggL_law_L_tells : GoodIn wsL_law wsL_tells := goodIn_ca (goodIn_r _ [216, 217, 24, 25, 21, 26, 208, 209, 210, 211, 212, 213, 218, 219, 220, 141, 221, 222, 223, 2, 224, 146, 147, 148, 149, 150, 151, 13, 225, 226, 227, 228, 229, 230, 231, 232, 233, 234, 235, 236, 237, 238, 239, 240, 169, 65, 170, 171, 108, 241, 242, 243, 244, 245, 246, 247, 248, 249, 250, 58, 59, 251, 252, 253, 254, 255, 256, 257, 258, 259, 260, 261, 90, 91, 92, 93, 262, 263, 264, 265, 266, 267, 268, 269, 270, 271, 272, 273, 274, 275, 276, 277, 278, 279, 280, 281, 15, 16, 282, 283, 284, 188, 79, 189, 190, 99, 191, 177, 178, 179, 98, 101, 180, 70, 71, 72, 181, 182, 183, 184, 185, 186, 187, 100, 97, 40, 41, 42, 285, 286, 287, 288, 294, 295, 296, 297, 298, 299, 300, 301, 302, 303, 304, 305, 306, 307, 289, 290, 291, 292, 293, 308, 309, 310, 311, 312, 313, 314] rfl (by decide +kernel)) (goodIn_sub (fun _ h => List.mem_append_right _ h) (by decide +kernel))
set_option maxRecDepth 20000 in
theorem gL_law_L_tells : GoodIn wsL_law (va_wsS RL 151 yL_tells wsL_tells) := goodIn_app (goodIn_of _ (by decide +kernel)) ggL_law_L_tells
end
section
theorem dX0_init_0 : decode cX0_init 0 = .ok (.aload_n 0, 1) := by decide +kernel
theorem dX0_init_1 : decode cX0_init 1 = .ok (.invokespecial 3, 3) := by decide +kernel
theorem dX0_init_4 : decode cX0_init 4 = .ok (.aload_n 0, 1) := by decide +kernel
theorem dX0_init_5 : decode cX0_init 5 = .ok (.iload_n 1, 1) := by decide +kernel
theorem dX0_init_6 : decode cX0_init 6 = .ok (.putfield 9, 3) := by decide +kernel
theorem dX0_init_9 : decode cX0_init 9 = .ok (.aload_n 0, 1) := by decide +kernel
theorem dX0_init_10 : decode cX0_init 10 = .ok (.iload_n 2, 1) := by decide +kernel
theorem dX0_init_11 : decode cX0_init 11 = .ok (.putfield 15, 3) := by decide +kernel
theorem dX0_init_14 : decode cX0_init 14 = .ok (.aload_n 0, 1) := by decide +kernel
theorem dX0_init_15 : decode cX0_init 15 = .ok (.iload_n 3, 1) := by decide +kernel
theorem dX0_init_16 : decode cX0_init 16 = .ok (.putfield 18, 3) := by decide +kernel
theorem dX0_init_19 : decode cX0_init 19 = .ok (.aload_n 0, 1) := by decide +kernel
theorem dX0_init_20 : decode cX0_init 20 = .ok (.iload 4, 2) := by decide +kernel
theorem dX0_init_22 : decode cX0_init 22 = .ok (.putfield 21, 3) := by decide +kernel
theorem dX0_init_25 : decode cX0_init 25 = .ok (.aload_n 0, 1) := by decide +kernel
theorem dX0_init_26 : decode cX0_init 26 = .ok (.iload 5, 2) := by decide +kernel
theorem dX0_init_28 : decode cX0_init 28 = .ok (.putfield 24, 3) := by decide +kernel
theorem dX0_init_31 : decode cX0_init 31 = .ok (.aload_n 0, 1) := by decide +kernel
theorem dX0_init_32 : decode cX0_init 32 = .ok (.iload 6, 2) := by decide +kernel
theorem dX0_init_34 : decode cX0_init 34 = .ok (.putfield 27, 3) := by decide +kernel
theorem dX0_init_37 : decode cX0_init 37 = .ok (.aload_n 0, 1) := by decide +kernel
theorem dX0_init_38 : decode cX0_init 38 = .ok (.iload 6, 2) := by decide +kernel
theorem dX0_init_40 : decode cX0_init 40 = .ok (.putfield 30, 3) := by decide +kernel
theorem dX0_init_43 : decode cX0_init 43 = .ok (.return_, 1) := by decide +kernel
theorem dX0_isEarly_0 : decode cX0_isEarly 0 = .ok (.iload_n 1, 1) := by decide +kernel
theorem dX0_isEarly_1 : decode cX0_isEarly 1 = .ok (.aload_n 0, 1) := by decide +kernel
theorem dX0_isEarly_2 : decode cX0_isEarly 2 = .ok (.getfield 21, 3) := by decide +kernel
theorem dX0_isEarly_5 : decode cX0_isEarly 5 = .ok (.isub, 1) := by decide +kernel
theorem dX0_isEarly_6 : decode cX0_isEarly 6 = .ok (.bipush 24, 2) := by decide +kernel
theorem dX0_isEarly_8 : decode cX0_isEarly 8 = .ok (.if_icmp .lt 14, 3) := by decide +kernel
theorem dX0_isEarly_11 : decode cX0_isEarly 11 = .ok (.iload_n 1, 1) := by decide +kernel
theorem dX0_isEarly_12 : decode cX0_isEarly 12 = .ok (.aload_n 0, 1) := by decide +kernel
theorem dX0_isEarly_13 : decode cX0_isEarly 13 = .ok (.getfield 9, 3) := by decide +kernel
theorem dX0_isEarly_16 : decode cX0_isEarly 16 = .ok (.isub, 1) := by decide +kernel
theorem dX0_isEarly_17 : decode cX0_isEarly 17 = .ok (.bipush 12, 2) := by decide +kernel
theorem dX0_isEarly_19 : decode cX0_isEarly 19 = .ok (.if_icmp .ge 7, 3) := by decide +kernel
theorem dX0_isEarly_22 : decode cX0_isEarly 22 = .ok (.iconst 1, 1) := by decide +kernel
theorem dX0_isEarly_23 : decode cX0_isEarly 23 = .ok (.goto 4, 3) := by decide +kernel
theorem dX0_isEarly_26 : decode cX0_isEarly 26 = .ok (.iconst 0, 1) := by decide +kernel
theorem dX0_isEarly_27 : decode cX0_isEarly 27 = .ok (.ireturn, 1) := by decide +kernel
theorem dX0_payEach_0 : decode cX0_payEach 0 = .ok (.aload_n 0, 1) := by decide +kernel
theorem dX0_payEach_1 : decode cX0_payEach 1 = .ok (.iload_n 1, 1) := by decide +kernel
theorem dX0_payEach_2 : decode cX0_payEach 2 = .ok (.invokevirtual 33, 3) := by decide +kernel
theorem dX0_payEach_5 : decode cX0_payEach 5 = .ok (.ifCond .eq 14, 3) := by decide +kernel
theorem dX0_payEach_8 : decode cX0_payEach 8 = .ok (.aload_n 0, 1) := by decide +kernel
theorem dX0_payEach_9 : decode cX0_payEach 9 = .ok (.getfield 15, 3) := by decide +kernel
theorem dX0_payEach_12 : decode cX0_payEach 12 = .ok (.aload_n 0, 1) := by decide +kernel
theorem dX0_payEach_13 : decode cX0_payEach 13 = .ok (.getfield 18, 3) := by decide +kernel
theorem dX0_payEach_16 : decode cX0_payEach 16 = .ok (.isub, 1) := by decide +kernel
theorem dX0_payEach_17 : decode cX0_payEach 17 = .ok (.i2l, 1) := by decide +kernel
theorem dX0_payEach_18 : decode cX0_payEach 18 = .ok (.lreturn, 1) := by decide +kernel
theorem dX0_payEach_19 : decode cX0_payEach 19 = .ok (.aload_n 0, 1) := by decide +kernel
theorem dX0_payEach_20 : decode cX0_payEach 20 = .ok (.getfield 24, 3) := by decide +kernel
theorem dX0_payEach_23 : decode cX0_payEach 23 = .ok (.bipush 15, 2) := by decide +kernel
theorem dX0_payEach_25 : decode cX0_payEach 25 = .ok (.imul, 1) := by decide +kernel
theorem dX0_payEach_26 : decode cX0_payEach 26 = .ok (.bipush 100, 2) := by decide +kernel
theorem dX0_payEach_28 : decode cX0_payEach 28 = .ok (.idiv, 1) := by decide +kernel
theorem dX0_payEach_29 : decode cX0_payEach 29 = .ok (.istore_n 3, 1) := by decide +kernel
theorem dX0_payEach_30 : decode cX0_payEach 30 = .ok (.iconst 0, 1) := by decide +kernel
theorem dX0_payEach_31 : decode cX0_payEach 31 = .ok (.iload_n 3, 1) := by decide +kernel
theorem dX0_payEach_32 : decode cX0_payEach 32 = .ok (.iload_n 2, 1) := by decide +kernel
theorem dX0_payEach_33 : decode cX0_payEach 33 = .ok (.aload_n 0, 1) := by decide +kernel
theorem dX0_payEach_34 : decode cX0_payEach 34 = .ok (.getfield 18, 3) := by decide +kernel
theorem dX0_payEach_37 : decode cX0_payEach 37 = .ok (.isub, 1) := by decide +kernel
theorem dX0_payEach_38 : decode cX0_payEach 38 = .ok (.invokestatic 37, 3) := by decide +kernel
theorem dX0_payEach_41 : decode cX0_payEach 41 = .ok (.invokestatic 43, 3) := by decide +kernel
theorem dX0_payEach_44 : decode cX0_payEach 44 = .ok (.i2l, 1) := by decide +kernel
theorem dX0_payEach_45 : decode cX0_payEach 45 = .ok (.lreturn, 1) := by decide +kernel
theorem dX0_gainEach_0 : decode cX0_gainEach 0 = .ok (.iload_n 2, 1) := by decide +kernel
theorem dX0_gainEach_1 : decode cX0_gainEach 1 = .ok (.aload_n 0, 1) := by decide +kernel
theorem dX0_gainEach_2 : decode cX0_gainEach 2 = .ok (.getfield 18, 3) := by decide +kernel
theorem dX0_gainEach_5 : decode cX0_gainEach 5 = .ok (.isub, 1) := by decide +kernel
theorem dX0_gainEach_6 : decode cX0_gainEach 6 = .ok (.i2l, 1) := by decide +kernel
theorem dX0_gainEach_7 : decode cX0_gainEach 7 = .ok (.aload_n 0, 1) := by decide +kernel
theorem dX0_gainEach_8 : decode cX0_gainEach 8 = .ok (.iload_n 1, 1) := by decide +kernel
theorem dX0_gainEach_9 : decode cX0_gainEach 9 = .ok (.iload_n 2, 1) := by decide +kernel
theorem dX0_gainEach_10 : decode cX0_gainEach 10 = .ok (.invokevirtual 46, 3) := by decide +kernel
theorem dX0_gainEach_13 : decode cX0_gainEach 13 = .ok (.lsub, 1) := by decide +kernel
theorem dX0_gainEach_14 : decode cX0_gainEach 14 = .ok (.lreturn, 1) := by decide +kernel
theorem dX1_init_0 : decode cX1_init 0 = .ok (.aload_n 0, 1) := by decide +kernel
theorem dX1_init_1 : decode cX1_init 1 = .ok (.invokespecial 3, 3) := by decide +kernel
theorem dX1_init_4 : decode cX1_init 4 = .ok (.aload_n 0, 1) := by decide +kernel
theorem dX1_init_5 : decode cX1_init 5 = .ok (.bipush 10, 2) := by decide +kernel
theorem dX1_init_7 : decode cX1_init 7 = .ok (.anewarray 9, 3) := by decide +kernel
theorem dX1_init_10 : decode cX1_init 10 = .ok (.putfield 11, 3) := by decide +kernel
theorem dX1_init_13 : decode cX1_init 13 = .ok (.aload_n 0, 1) := by decide +kernel
theorem dX1_init_14 : decode cX1_init 14 = .ok (.iconst 5, 1) := by decide +kernel
theorem dX1_init_15 : decode cX1_init 15 = .ok (.newarray .long, 2) := by decide +kernel
theorem dX1_init_17 : decode cX1_init 17 = .ok (.putfield 17, 3) := by decide +kernel
theorem dX1_init_20 : decode cX1_init 20 = .ok (.aload_n 0, 1) := by decide +kernel
theorem dX1_init_21 : decode cX1_init 21 = .ok (.iload_n 1, 1) := by decide +kernel
theorem dX1_init_22 : decode cX1_init 22 = .ok (.putfield 21, 3) := by decide +kernel
theorem dX1_init_25 : decode cX1_init 25 = .ok (.aload_n 0, 1) := by decide +kernel
theorem dX1_init_26 : decode cX1_init 26 = .ok (.iload_n 2, 1) := by decide +kernel
theorem dX1_init_27 : decode cX1_init 27 = .ok (.putfield 25, 3) := by decide +kernel
theorem dX1_init_30 : decode cX1_init 30 = .ok (.aload_n 0, 1) := by decide +kernel
theorem dX1_init_31 : decode cX1_init 31 = .ok (.iload_n 3, 1) := by decide +kernel
theorem dX1_init_32 : decode cX1_init 32 = .ok (.putfield 28, 3) := by decide +kernel
theorem dX1_init_35 : decode cX1_init 35 = .ok (.return_, 1) := by decide +kernel
theorem dX1_takeSlip_0 : decode cX1_takeSlip 0 = .ok (.iload_n 1, 1) := by decide +kernel
theorem dX1_takeSlip_1 : decode cX1_takeSlip 1 = .ok (.aload_n 0, 1) := by decide +kernel
theorem dX1_takeSlip_2 : decode cX1_takeSlip 2 = .ok (.getfield 21, 3) := by decide +kernel
theorem dX1_takeSlip_5 : decode cX1_takeSlip 5 = .ok (.imul, 1) := by decide +kernel
theorem dX1_takeSlip_6 : decode cX1_takeSlip 6 = .ok (.bipush 100, 2) := by decide +kernel
theorem dX1_takeSlip_8 : decode cX1_takeSlip 8 = .ok (.idiv, 1) := by decide +kernel
theorem dX1_takeSlip_9 : decode cX1_takeSlip 9 = .ok (.istore_n 2, 1) := by decide +kernel
theorem dX1_takeSlip_10 : decode cX1_takeSlip 10 = .ok (.aload_n 0, 1) := by decide +kernel
theorem dX1_takeSlip_11 : decode cX1_takeSlip 11 = .ok (.dup, 1) := by decide +kernel
theorem dX1_takeSlip_12 : decode cX1_takeSlip 12 = .ok (.getfield 31, 3) := by decide +kernel
theorem dX1_takeSlip_15 : decode cX1_takeSlip 15 = .ok (.iload_n 2, 1) := by decide +kernel
theorem dX1_takeSlip_16 : decode cX1_takeSlip 16 = .ok (.i2l, 1) := by decide +kernel
theorem dX1_takeSlip_17 : decode cX1_takeSlip 17 = .ok (.ladd, 1) := by decide +kernel
theorem dX1_takeSlip_18 : decode cX1_takeSlip 18 = .ok (.putfield 31, 3) := by decide +kernel
theorem dX1_takeSlip_21 : decode cX1_takeSlip 21 = .ok (.aload_n 0, 1) := by decide +kernel
theorem dX1_takeSlip_22 : decode cX1_takeSlip 22 = .ok (.dup, 1) := by decide +kernel
theorem dX1_takeSlip_23 : decode cX1_takeSlip 23 = .ok (.getfield 35, 3) := by decide +kernel
theorem dX1_takeSlip_26 : decode cX1_takeSlip 26 = .ok (.iload_n 2, 1) := by decide +kernel
theorem dX1_takeSlip_27 : decode cX1_takeSlip 27 = .ok (.i2l, 1) := by decide +kernel
theorem dX1_takeSlip_28 : decode cX1_takeSlip 28 = .ok (.ladd, 1) := by decide +kernel
theorem dX1_takeSlip_29 : decode cX1_takeSlip 29 = .ok (.putfield 35, 3) := by decide +kernel
theorem dX1_takeSlip_32 : decode cX1_takeSlip 32 = .ok (.iload_n 2, 1) := by decide +kernel
theorem dX1_takeSlip_33 : decode cX1_takeSlip 33 = .ok (.ireturn, 1) := by decide +kernel
theorem dX1_giveBack_0 : decode cX1_giveBack 0 = .ok (.aload_n 0, 1) := by decide +kernel
theorem dX1_giveBack_1 : decode cX1_giveBack 1 = .ok (.getfield 31, 3) := by decide +kernel
theorem dX1_giveBack_4 : decode cX1_giveBack 4 = .ok (.lstore_n 1, 1) := by decide +kernel
theorem dX1_giveBack_5 : decode cX1_giveBack 5 = .ok (.aload_n 0, 1) := by decide +kernel
theorem dX1_giveBack_6 : decode cX1_giveBack 6 = .ok (.dup, 1) := by decide +kernel
theorem dX1_giveBack_7 : decode cX1_giveBack 7 = .ok (.getfield 38, 3) := by decide +kernel
theorem dX1_giveBack_10 : decode cX1_giveBack 10 = .ok (.lload_n 1, 1) := by decide +kernel
theorem dX1_giveBack_11 : decode cX1_giveBack 11 = .ok (.ladd, 1) := by decide +kernel
theorem dX1_giveBack_12 : decode cX1_giveBack 12 = .ok (.putfield 38, 3) := by decide +kernel
theorem dX1_giveBack_15 : decode cX1_giveBack 15 = .ok (.aload_n 0, 1) := by decide +kernel
theorem dX1_giveBack_16 : decode cX1_giveBack 16 = .ok (.lconst 0, 1) := by decide +kernel
theorem dX1_giveBack_17 : decode cX1_giveBack 17 = .ok (.putfield 31, 3) := by decide +kernel
theorem dX1_giveBack_20 : decode cX1_giveBack 20 = .ok (.aload_n 0, 1) := by decide +kernel
theorem dX1_giveBack_21 : decode cX1_giveBack 21 = .ok (.iconst 1, 1) := by decide +kernel
theorem dX1_giveBack_22 : decode cX1_giveBack 22 = .ok (.putfield 41, 3) := by decide +kernel
theorem dX1_giveBack_25 : decode cX1_giveBack 25 = .ok (.lload_n 1, 1) := by decide +kernel
theorem dX1_giveBack_26 : decode cX1_giveBack 26 = .ok (.lreturn, 1) := by decide +kernel
theorem dX1_buyShares_0 : decode cX1_buyShares 0 = .ok (.iload_n 1, 1) := by decide +kernel
theorem dX1_buyShares_1 : decode cX1_buyShares 1 = .ok (.bipush 12, 2) := by decide +kernel
theorem dX1_buyShares_3 : decode cX1_buyShares 3 = .ok (.idiv, 1) := by decide +kernel
theorem dX1_buyShares_4 : decode cX1_buyShares 4 = .ok (.istore 4, 2) := by decide +kernel
theorem dX1_buyShares_6 : decode cX1_buyShares 6 = .ok (.aload_n 0, 1) := by decide +kernel
theorem dX1_buyShares_7 : decode cX1_buyShares 7 = .ok (.getfield 28, 3) := by decide +kernel
theorem dX1_buyShares_10 : decode cX1_buyShares 10 = .ok (.iload_n 2, 1) := by decide +kernel
theorem dX1_buyShares_11 : decode cX1_buyShares 11 = .ok (.invokestatic 45, 3) := by decide +kernel
theorem dX1_buyShares_14 : decode cX1_buyShares 14 = .ok (.invokestatic 51, 3) := by decide +kernel
theorem dX1_buyShares_17 : decode cX1_buyShares 17 = .ok (.istore 5, 2) := by decide +kernel
theorem dX1_buyShares_19 : decode cX1_buyShares 19 = .ok (.aload_n 0, 1) := by decide +kernel
theorem dX1_buyShares_20 : decode cX1_buyShares 20 = .ok (.getfield 31, 3) := by decide +kernel
theorem dX1_buyShares_23 : decode cX1_buyShares 23 = .ok (.iload 5, 2) := by decide +kernel
theorem dX1_buyShares_25 : decode cX1_buyShares 25 = .ok (.i2l, 1) := by decide +kernel
theorem dX1_buyShares_26 : decode cX1_buyShares 26 = .ok (.invokestatic 55, 3) := by decide +kernel
theorem dX1_buyShares_29 : decode cX1_buyShares 29 = .ok (.lstore 6, 2) := by decide +kernel
theorem dX1_buyShares_31 : decode cX1_buyShares 31 = .ok (.iload_n 3, 1) := by decide +kernel
theorem dX1_buyShares_32 : decode cX1_buyShares 32 = .ok (.i2l, 1) := by decide +kernel
theorem dX1_buyShares_33 : decode cX1_buyShares 33 = .ok (.aload_n 0, 1) := by decide +kernel
theorem dX1_buyShares_34 : decode cX1_buyShares 34 = .ok (.iload 4, 2) := by decide +kernel
theorem dX1_buyShares_36 : decode cX1_buyShares 36 = .ok (.invokevirtual 59, 3) := by decide +kernel
theorem dX1_buyShares_39 : decode cX1_buyShares 39 = .ok (.lsub, 1) := by decide +kernel
theorem dX1_buyShares_40 : decode cX1_buyShares 40 = .ok (.aload_n 0, 1) := by decide +kernel
theorem dX1_buyShares_41 : decode cX1_buyShares 41 = .ok (.getfield 28, 3) := by decide +kernel
theorem dX1_buyShares_44 : decode cX1_buyShares 44 = .ok (.i2l, 1) := by decide +kernel
theorem dX1_buyShares_45 : decode cX1_buyShares 45 = .ok (.invokestatic 55, 3) := by decide +kernel
theorem dX1_buyShares_48 : decode cX1_buyShares 48 = .ok (.lstore 8, 2) := by decide +kernel
theorem dX1_buyShares_50 : decode cX1_buyShares 50 = .ok (.lload 6, 2) := by decide +kernel
theorem dX1_buyShares_52 : decode cX1_buyShares 52 = .ok (.lload 8, 2) := by decide +kernel
theorem dX1_buyShares_54 : decode cX1_buyShares 54 = .ok (.invokestatic 63, 3) := by decide +kernel
theorem dX1_buyShares_57 : decode cX1_buyShares 57 = .ok (.l2i, 1) := by decide +kernel
theorem dX1_buyShares_58 : decode cX1_buyShares 58 = .ok (.istore 10, 2) := by decide +kernel
theorem dX1_buyShares_60 : decode cX1_buyShares 60 = .ok (.iload 10, 2) := by decide +kernel
theorem dX1_buyShares_62 : decode cX1_buyShares 62 = .ok (.ifCond .le 75, 3) := by decide +kernel
theorem dX1_buyShares_65 : decode cX1_buyShares 65 = .ok (.aload_n 0, 1) := by decide +kernel
theorem dX1_buyShares_66 : decode cX1_buyShares 66 = .ok (.new 9, 3) := by decide +kernel
theorem dX1_buyShares_69 : decode cX1_buyShares 69 = .ok (.dup, 1) := by decide +kernel
theorem dX1_buyShares_70 : decode cX1_buyShares 70 = .ok (.iload_n 1, 1) := by decide +kernel
theorem dX1_buyShares_71 : decode cX1_buyShares 71 = .ok (.iload_n 2, 1) := by decide +kernel
theorem dX1_buyShares_72 : decode cX1_buyShares 72 = .ok (.iload 5, 2) := by decide +kernel
theorem dX1_buyShares_74 : decode cX1_buyShares 74 = .ok (.aload_n 0, 1) := by decide +kernel
theorem dX1_buyShares_75 : decode cX1_buyShares 75 = .ok (.getfield 25, 3) := by decide +kernel
theorem dX1_buyShares_78 : decode cX1_buyShares 78 = .ok (.aload_n 0, 1) := by decide +kernel
theorem dX1_buyShares_79 : decode cX1_buyShares 79 = .ok (.getfield 28, 3) := by decide +kernel
theorem dX1_buyShares_82 : decode cX1_buyShares 82 = .ok (.iload 10, 2) := by decide +kernel
theorem dX1_buyShares_84 : decode cX1_buyShares 84 = .ok (.invokespecial 65, 3) := by decide +kernel
theorem dX1_buyShares_87 : decode cX1_buyShares 87 = .ok (.invokevirtual 68, 3) := by decide +kernel
theorem dX1_buyShares_90 : decode cX1_buyShares 90 = .ok (.aload_n 0, 1) := by decide +kernel
theorem dX1_buyShares_91 : decode cX1_buyShares 91 = .ok (.iload 4, 2) := by decide +kernel
theorem dX1_buyShares_93 : decode cX1_buyShares 93 = .ok (.iload 10, 2) := by decide +kernel
theorem dX1_buyShares_95 : decode cX1_buyShares 95 = .ok (.i2l, 1) := by decide +kernel
theorem dX1_buyShares_96 : decode cX1_buyShares 96 = .ok (.aload_n 0, 1) := by decide +kernel
theorem dX1_buyShares_97 : decode cX1_buyShares 97 = .ok (.getfield 28, 3) := by decide +kernel
theorem dX1_buyShares_100 : decode cX1_buyShares 100 = .ok (.i2l, 1) := by decide +kernel
theorem dX1_buyShares_101 : decode cX1_buyShares 101 = .ok (.lmul, 1) := by decide +kernel
theorem dX1_buyShares_102 : decode cX1_buyShares 102 = .ok (.invokevirtual 72, 3) := by decide +kernel
theorem dX1_buyShares_105 : decode cX1_buyShares 105 = .ok (.aload_n 0, 1) := by decide +kernel
theorem dX1_buyShares_106 : decode cX1_buyShares 106 = .ok (.dup, 1) := by decide +kernel
theorem dX1_buyShares_107 : decode cX1_buyShares 107 = .ok (.getfield 31, 3) := by decide +kernel
theorem dX1_buyShares_110 : decode cX1_buyShares 110 = .ok (.iload 10, 2) := by decide +kernel
theorem dX1_buyShares_112 : decode cX1_buyShares 112 = .ok (.i2l, 1) := by decide +kernel
theorem dX1_buyShares_113 : decode cX1_buyShares 113 = .ok (.iload 5, 2) := by decide +kernel
theorem dX1_buyShares_115 : decode cX1_buyShares 115 = .ok (.i2l, 1) := by decide +kernel
theorem dX1_buyShares_116 : decode cX1_buyShares 116 = .ok (.lmul, 1) := by decide +kernel
theorem dX1_buyShares_117 : decode cX1_buyShares 117 = .ok (.lsub, 1) := by decide +kernel
theorem dX1_buyShares_118 : decode cX1_buyShares 118 = .ok (.putfield 31, 3) := by decide +kernel
theorem dX1_buyShares_121 : decode cX1_buyShares 121 = .ok (.aload_n 0, 1) := by decide +kernel
theorem dX1_buyShares_122 : decode cX1_buyShares 122 = .ok (.dup, 1) := by decide +kernel
theorem dX1_buyShares_123 : decode cX1_buyShares 123 = .ok (.getfield 76, 3) := by decide +kernel
theorem dX1_buyShares_126 : decode cX1_buyShares 126 = .ok (.iload 10, 2) := by decide +kernel
theorem dX1_buyShares_128 : decode cX1_buyShares 128 = .ok (.i2l, 1) := by decide +kernel
theorem dX1_buyShares_129 : decode cX1_buyShares 129 = .ok (.iload 5, 2) := by decide +kernel
theorem dX1_buyShares_131 : decode cX1_buyShares 131 = .ok (.i2l, 1) := by decide +kernel
theorem dX1_buyShares_132 : decode cX1_buyShares 132 = .ok (.lmul, 1) := by decide +kernel
theorem dX1_buyShares_133 : decode cX1_buyShares 133 = .ok (.ladd, 1) := by decide +kernel
theorem dX1_buyShares_134 : decode cX1_buyShares 134 = .ok (.putfield 76, 3) := by decide +kernel
theorem dX1_buyShares_137 : decode cX1_buyShares 137 = .ok (.aload_n 0, 1) := by decide +kernel
theorem dX1_buyShares_138 : decode cX1_buyShares 138 = .ok (.dup, 1) := by decide +kernel
theorem dX1_buyShares_139 : decode cX1_buyShares 139 = .ok (.getfield 79, 3) := by decide +kernel
theorem dX1_buyShares_142 : decode cX1_buyShares 142 = .ok (.iconst 1, 1) := by decide +kernel
theorem dX1_buyShares_143 : decode cX1_buyShares 143 = .ok (.iadd, 1) := by decide +kernel
theorem dX1_buyShares_144 : decode cX1_buyShares 144 = .ok (.putfield 79, 3) := by decide +kernel
theorem dX1_buyShares_147 : decode cX1_buyShares 147 = .ok (.aload_n 0, 1) := by decide +kernel
theorem dX1_buyShares_148 : decode cX1_buyShares 148 = .ok (.iload_n 1, 1) := by decide +kernel
theorem dX1_buyShares_149 : decode cX1_buyShares 149 = .ok (.iload_n 2, 1) := by decide +kernel
theorem dX1_buyShares_150 : decode cX1_buyShares 150 = .ok (.invokevirtual 82, 3) := by decide +kernel
theorem dX1_buyShares_153 : decode cX1_buyShares 153 = .ok (.return_, 1) := by decide +kernel
theorem dX1_renewOffer_0 : decode cX1_renewOffer 0 = .ok (.iload_n 2, 1) := by decide +kernel
theorem dX1_renewOffer_1 : decode cX1_renewOffer 1 = .ok (.aload_n 0, 1) := by decide +kernel
theorem dX1_renewOffer_2 : decode cX1_renewOffer 2 = .ok (.getfield 28, 3) := by decide +kernel
theorem dX1_renewOffer_5 : decode cX1_renewOffer 5 = .ok (.if_icmp .ge 7, 3) := by decide +kernel
theorem dX1_renewOffer_8 : decode cX1_renewOffer 8 = .ok (.iconst 1, 1) := by decide +kernel
theorem dX1_renewOffer_9 : decode cX1_renewOffer 9 = .ok (.goto 4, 3) := by decide +kernel
theorem dX1_renewOffer_12 : decode cX1_renewOffer 12 = .ok (.iconst 0, 1) := by decide +kernel
theorem dX1_renewOffer_13 : decode cX1_renewOffer 13 = .ok (.istore_n 3, 1) := by decide +kernel
theorem dX1_renewOffer_14 : decode cX1_renewOffer 14 = .ok (.iload_n 3, 1) := by decide +kernel
theorem dX1_renewOffer_15 : decode cX1_renewOffer 15 = .ok (.ifCond .eq 13, 3) := by decide +kernel
theorem dX1_renewOffer_18 : decode cX1_renewOffer 18 = .ok (.aload_n 0, 1) := by decide +kernel
theorem dX1_renewOffer_19 : decode cX1_renewOffer 19 = .ok (.dup, 1) := by decide +kernel
theorem dX1_renewOffer_20 : decode cX1_renewOffer 20 = .ok (.getfield 86, 3) := by decide +kernel
theorem dX1_renewOffer_23 : decode cX1_renewOffer 23 = .ok (.iconst 1, 1) := by decide +kernel
theorem dX1_renewOffer_24 : decode cX1_renewOffer 24 = .ok (.iadd, 1) := by decide +kernel
theorem dX1_renewOffer_25 : decode cX1_renewOffer 25 = .ok (.putfield 86, 3) := by decide +kernel
theorem dX1_renewOffer_28 : decode cX1_renewOffer 28 = .ok (.iload_n 3, 1) := by decide +kernel
theorem dX1_renewOffer_29 : decode cX1_renewOffer 29 = .ok (.ifCond .ne 11, 3) := by decide +kernel
theorem dX1_renewOffer_32 : decode cX1_renewOffer 32 = .ok (.aload_n 0, 1) := by decide +kernel
theorem dX1_renewOffer_33 : decode cX1_renewOffer 33 = .ok (.getfield 79, 3) := by decide +kernel
theorem dX1_renewOffer_36 : decode cX1_renewOffer 36 = .ok (.iconst 4, 1) := by decide +kernel
theorem dX1_renewOffer_37 : decode cX1_renewOffer 37 = .ok (.if_icmp .lt 18, 3) := by decide +kernel
theorem dX1_renewOffer_40 : decode cX1_renewOffer 40 = .ok (.aload_n 0, 1) := by decide +kernel
theorem dX1_renewOffer_41 : decode cX1_renewOffer 41 = .ok (.iload_n 1, 1) := by decide +kernel
theorem dX1_renewOffer_42 : decode cX1_renewOffer 42 = .ok (.putfield 25, 3) := by decide +kernel
theorem dX1_renewOffer_45 : decode cX1_renewOffer 45 = .ok (.aload_n 0, 1) := by decide +kernel
theorem dX1_renewOffer_46 : decode cX1_renewOffer 46 = .ok (.iload_n 2, 1) := by decide +kernel
theorem dX1_renewOffer_47 : decode cX1_renewOffer 47 = .ok (.putfield 28, 3) := by decide +kernel
theorem dX1_renewOffer_50 : decode cX1_renewOffer 50 = .ok (.aload_n 0, 1) := by decide +kernel
theorem dX1_renewOffer_51 : decode cX1_renewOffer 51 = .ok (.iconst 0, 1) := by decide +kernel
theorem dX1_renewOffer_52 : decode cX1_renewOffer 52 = .ok (.putfield 79, 3) := by decide +kernel
theorem dX1_renewOffer_55 : decode cX1_renewOffer 55 = .ok (.return_, 1) := by decide +kernel
theorem dX1_purchasePrice_0 : decode cX1_purchasePrice 0 = .ok (.iload_n 0, 1) := by decide +kernel
theorem dX1_purchasePrice_1 : decode cX1_purchasePrice 1 = .ok (.bipush 85, 2) := by decide +kernel
theorem dX1_purchasePrice_3 : decode cX1_purchasePrice 3 = .ok (.imul, 1) := by decide +kernel
theorem dX1_purchasePrice_4 : decode cX1_purchasePrice 4 = .ok (.bipush 100, 2) := by decide +kernel
theorem dX1_purchasePrice_6 : decode cX1_purchasePrice 6 = .ok (.iadd, 1) := by decide +kernel
theorem dX1_purchasePrice_7 : decode cX1_purchasePrice 7 = .ok (.iconst 1, 1) := by decide +kernel
theorem dX1_purchasePrice_8 : decode cX1_purchasePrice 8 = .ok (.isub, 1) := by decide +kernel
theorem dX1_purchasePrice_9 : decode cX1_purchasePrice 9 = .ok (.bipush 100, 2) := by decide +kernel
theorem dX1_purchasePrice_11 : decode cX1_purchasePrice 11 = .ok (.idiv, 1) := by decide +kernel
theorem dX1_purchasePrice_12 : decode cX1_purchasePrice 12 = .ok (.ireturn, 1) := by decide +kernel
theorem dX1_wholeTimes_0 : decode cX1_wholeTimes 0 = .ok (.lload_n 0, 1) := by decide +kernel
theorem dX1_wholeTimes_1 : decode cX1_wholeTimes 1 = .ok (.lconst 0, 1) := by decide +kernel
theorem dX1_wholeTimes_2 : decode cX1_wholeTimes 2 = .ok (.lcmp, 1) := by decide +kernel
theorem dX1_wholeTimes_3 : decode cX1_wholeTimes 3 = .ok (.ifCond .le 9, 3) := by decide +kernel
theorem dX1_wholeTimes_6 : decode cX1_wholeTimes 6 = .ok (.lload_n 2, 1) := by decide +kernel
theorem dX1_wholeTimes_7 : decode cX1_wholeTimes 7 = .ok (.lconst 0, 1) := by decide +kernel
theorem dX1_wholeTimes_8 : decode cX1_wholeTimes 8 = .ok (.lcmp, 1) := by decide +kernel
theorem dX1_wholeTimes_9 : decode cX1_wholeTimes 9 = .ok (.ifCond .gt 7, 3) := by decide +kernel
theorem dX1_wholeTimes_12 : decode cX1_wholeTimes 12 = .ok (.lconst 0, 1) := by decide +kernel
theorem dX1_wholeTimes_13 : decode cX1_wholeTimes 13 = .ok (.goto 6, 3) := by decide +kernel
theorem dX1_wholeTimes_16 : decode cX1_wholeTimes 16 = .ok (.lload_n 0, 1) := by decide +kernel
theorem dX1_wholeTimes_17 : decode cX1_wholeTimes 17 = .ok (.lload_n 2, 1) := by decide +kernel
theorem dX1_wholeTimes_18 : decode cX1_wholeTimes 18 = .ok (.ldiv, 1) := by decide +kernel
theorem dX1_wholeTimes_19 : decode cX1_wholeTimes 19 = .ok (.lreturn, 1) := by decide +kernel
theorem dX1_countedIn_0 : decode cX1_countedIn 0 = .ok (.iload_n 1, 1) := by decide +kernel
theorem dX1_countedIn_1 : decode cX1_countedIn 1 = .ok (.ifCond .lt 12, 3) := by decide +kernel
theorem dX1_countedIn_4 : decode cX1_countedIn 4 = .ok (.iload_n 1, 1) := by decide +kernel
theorem dX1_countedIn_5 : decode cX1_countedIn 5 = .ok (.aload_n 0, 1) := by decide +kernel
theorem dX1_countedIn_6 : decode cX1_countedIn 6 = .ok (.getfield 17, 3) := by decide +kernel
theorem dX1_countedIn_9 : decode cX1_countedIn 9 = .ok (.arraylength, 1) := by decide +kernel
theorem dX1_countedIn_10 : decode cX1_countedIn 10 = .ok (.if_icmp .lt 7, 3) := by decide +kernel
theorem dX1_countedIn_13 : decode cX1_countedIn 13 = .ok (.lconst 0, 1) := by decide +kernel
theorem dX1_countedIn_14 : decode cX1_countedIn 14 = .ok (.goto 9, 3) := by decide +kernel
theorem dX1_countedIn_17 : decode cX1_countedIn 17 = .ok (.aload_n 0, 1) := by decide +kernel
theorem dX1_countedIn_18 : decode cX1_countedIn 18 = .ok (.getfield 17, 3) := by decide +kernel
theorem dX1_countedIn_21 : decode cX1_countedIn 21 = .ok (.iload_n 1, 1) := by decide +kernel
theorem dX1_countedIn_22 : decode cX1_countedIn 22 = .ok (.laload, 1) := by decide +kernel
theorem dX1_countedIn_23 : decode cX1_countedIn 23 = .ok (.lreturn, 1) := by decide +kernel
theorem dX1_addCounted_0 : decode cX1_addCounted 0 = .ok (.iload_n 1, 1) := by decide +kernel
theorem dX1_addCounted_1 : decode cX1_addCounted 1 = .ok (.ifCond .lt 22, 3) := by decide +kernel
theorem dX1_addCounted_4 : decode cX1_addCounted 4 = .ok (.iload_n 1, 1) := by decide +kernel
theorem dX1_addCounted_5 : decode cX1_addCounted 5 = .ok (.aload_n 0, 1) := by decide +kernel
theorem dX1_addCounted_6 : decode cX1_addCounted 6 = .ok (.getfield 17, 3) := by decide +kernel
theorem dX1_addCounted_9 : decode cX1_addCounted 9 = .ok (.arraylength, 1) := by decide +kernel
theorem dX1_addCounted_10 : decode cX1_addCounted 10 = .ok (.if_icmp .ge 13, 3) := by decide +kernel
theorem dX1_addCounted_13 : decode cX1_addCounted 13 = .ok (.aload_n 0, 1) := by decide +kernel
theorem dX1_addCounted_14 : decode cX1_addCounted 14 = .ok (.getfield 17, 3) := by decide +kernel
theorem dX1_addCounted_17 : decode cX1_addCounted 17 = .ok (.iload_n 1, 1) := by decide +kernel
theorem dX1_addCounted_18 : decode cX1_addCounted 18 = .ok (.dup2, 1) := by decide +kernel
theorem dX1_addCounted_19 : decode cX1_addCounted 19 = .ok (.laload, 1) := by decide +kernel
theorem dX1_addCounted_20 : decode cX1_addCounted 20 = .ok (.lload_n 2, 1) := by decide +kernel
theorem dX1_addCounted_21 : decode cX1_addCounted 21 = .ok (.ladd, 1) := by decide +kernel
theorem dX1_addCounted_22 : decode cX1_addCounted 22 = .ok (.lastore, 1) := by decide +kernel
theorem dX1_addCounted_23 : decode cX1_addCounted 23 = .ok (.return_, 1) := by decide +kernel
theorem dX1_lotOf_0 : decode cX1_lotOf 0 = .ok (.iload_n 1, 1) := by decide +kernel
theorem dX1_lotOf_1 : decode cX1_lotOf 1 = .ok (.invokestatic 89, 3) := by decide +kernel
theorem dX1_lotOf_4 : decode cX1_lotOf 4 = .ok (.ifCond .ne 5, 3) := by decide +kernel
theorem dX1_lotOf_7 : decode cX1_lotOf 7 = .ok (.aconst_null, 1) := by decide +kernel
theorem dX1_lotOf_8 : decode cX1_lotOf 8 = .ok (.areturn, 1) := by decide +kernel
theorem dX1_lotOf_9 : decode cX1_lotOf 9 = .ok (.iload_n 1, 1) := by decide +kernel
theorem dX1_lotOf_10 : decode cX1_lotOf 10 = .ok (.bipush 6, 2) := by decide +kernel
theorem dX1_lotOf_12 : decode cX1_lotOf 12 = .ok (.idiv, 1) := by decide +kernel
theorem dX1_lotOf_13 : decode cX1_lotOf 13 = .ok (.istore_n 2, 1) := by decide +kernel
theorem dX1_lotOf_14 : decode cX1_lotOf 14 = .ok (.iload_n 2, 1) := by decide +kernel
theorem dX1_lotOf_15 : decode cX1_lotOf 15 = .ok (.ifCond .lt 12, 3) := by decide +kernel
theorem dX1_lotOf_18 : decode cX1_lotOf 18 = .ok (.iload_n 2, 1) := by decide +kernel
theorem dX1_lotOf_19 : decode cX1_lotOf 19 = .ok (.aload_n 0, 1) := by decide +kernel
theorem dX1_lotOf_20 : decode cX1_lotOf 20 = .ok (.getfield 11, 3) := by decide +kernel
theorem dX1_lotOf_23 : decode cX1_lotOf 23 = .ok (.arraylength, 1) := by decide +kernel
theorem dX1_lotOf_24 : decode cX1_lotOf 24 = .ok (.if_icmp .lt 7, 3) := by decide +kernel
theorem dX1_lotOf_27 : decode cX1_lotOf 27 = .ok (.aconst_null, 1) := by decide +kernel
theorem dX1_lotOf_28 : decode cX1_lotOf 28 = .ok (.goto 9, 3) := by decide +kernel
theorem dX1_lotOf_31 : decode cX1_lotOf 31 = .ok (.aload_n 0, 1) := by decide +kernel
theorem dX1_lotOf_32 : decode cX1_lotOf 32 = .ok (.getfield 11, 3) := by decide +kernel
theorem dX1_lotOf_35 : decode cX1_lotOf 35 = .ok (.iload_n 2, 1) := by decide +kernel
theorem dX1_lotOf_36 : decode cX1_lotOf 36 = .ok (.aaload, 1) := by decide +kernel
theorem dX1_lotOf_37 : decode cX1_lotOf 37 = .ok (.areturn, 1) := by decide +kernel
theorem dX1_putLot_0 : decode cX1_putLot 0 = .ok (.aload_n 1, 1) := by decide +kernel
theorem dX1_putLot_1 : decode cX1_putLot 1 = .ok (.getfield 93, 3) := by decide +kernel
theorem dX1_putLot_4 : decode cX1_putLot 4 = .ok (.bipush 6, 2) := by decide +kernel
theorem dX1_putLot_6 : decode cX1_putLot 6 = .ok (.idiv, 1) := by decide +kernel
theorem dX1_putLot_7 : decode cX1_putLot 7 = .ok (.istore_n 2, 1) := by decide +kernel
theorem dX1_putLot_8 : decode cX1_putLot 8 = .ok (.iload_n 2, 1) := by decide +kernel
theorem dX1_putLot_9 : decode cX1_putLot 9 = .ok (.ifCond .lt 19, 3) := by decide +kernel
theorem dX1_putLot_12 : decode cX1_putLot 12 = .ok (.iload_n 2, 1) := by decide +kernel
theorem dX1_putLot_13 : decode cX1_putLot 13 = .ok (.aload_n 0, 1) := by decide +kernel
theorem dX1_putLot_14 : decode cX1_putLot 14 = .ok (.getfield 11, 3) := by decide +kernel
theorem dX1_putLot_17 : decode cX1_putLot 17 = .ok (.arraylength, 1) := by decide +kernel
theorem dX1_putLot_18 : decode cX1_putLot 18 = .ok (.if_icmp .ge 10, 3) := by decide +kernel
theorem dX1_putLot_21 : decode cX1_putLot 21 = .ok (.aload_n 0, 1) := by decide +kernel
theorem dX1_putLot_22 : decode cX1_putLot 22 = .ok (.getfield 11, 3) := by decide +kernel
theorem dX1_putLot_25 : decode cX1_putLot 25 = .ok (.iload_n 2, 1) := by decide +kernel
theorem dX1_putLot_26 : decode cX1_putLot 26 = .ok (.aload_n 1, 1) := by decide +kernel
theorem dX1_putLot_27 : decode cX1_putLot 27 = .ok (.aastore, 1) := by decide +kernel
theorem dX1_putLot_28 : decode cX1_putLot 28 = .ok (.return_, 1) := by decide +kernel
theorem dX1_sharesHeld_0 : decode cX1_sharesHeld 0 = .ok (.iconst 0, 1) := by decide +kernel
theorem dX1_sharesHeld_1 : decode cX1_sharesHeld 1 = .ok (.istore_n 1, 1) := by decide +kernel
theorem dX1_sharesHeld_2 : decode cX1_sharesHeld 2 = .ok (.iconst 0, 1) := by decide +kernel
theorem dX1_sharesHeld_3 : decode cX1_sharesHeld 3 = .ok (.istore_n 2, 1) := by decide +kernel
theorem dX1_sharesHeld_4 : decode cX1_sharesHeld 4 = .ok (.iload_n 2, 1) := by decide +kernel
theorem dX1_sharesHeld_5 : decode cX1_sharesHeld 5 = .ok (.aload_n 0, 1) := by decide +kernel
theorem dX1_sharesHeld_6 : decode cX1_sharesHeld 6 = .ok (.getfield 11, 3) := by decide +kernel
theorem dX1_sharesHeld_9 : decode cX1_sharesHeld 9 = .ok (.arraylength, 1) := by decide +kernel
theorem dX1_sharesHeld_10 : decode cX1_sharesHeld 10 = .ok (.if_icmp .ge 27, 3) := by decide +kernel
theorem dX1_sharesHeld_13 : decode cX1_sharesHeld 13 = .ok (.aload_n 0, 1) := by decide +kernel
theorem dX1_sharesHeld_14 : decode cX1_sharesHeld 14 = .ok (.getfield 11, 3) := by decide +kernel
theorem dX1_sharesHeld_17 : decode cX1_sharesHeld 17 = .ok (.iload_n 2, 1) := by decide +kernel
theorem dX1_sharesHeld_18 : decode cX1_sharesHeld 18 = .ok (.aaload, 1) := by decide +kernel
theorem dX1_sharesHeld_19 : decode cX1_sharesHeld 19 = .ok (.astore_n 3, 1) := by decide +kernel
theorem dX1_sharesHeld_20 : decode cX1_sharesHeld 20 = .ok (.aload_n 3, 1) := by decide +kernel
theorem dX1_sharesHeld_21 : decode cX1_sharesHeld 21 = .ok (.ifnull 10, 3) := by decide +kernel
theorem dX1_sharesHeld_24 : decode cX1_sharesHeld 24 = .ok (.iload_n 1, 1) := by decide +kernel
theorem dX1_sharesHeld_25 : decode cX1_sharesHeld 25 = .ok (.aload_n 3, 1) := by decide +kernel
theorem dX1_sharesHeld_26 : decode cX1_sharesHeld 26 = .ok (.getfield 96, 3) := by decide +kernel
theorem dX1_sharesHeld_29 : decode cX1_sharesHeld 29 = .ok (.iadd, 1) := by decide +kernel
theorem dX1_sharesHeld_30 : decode cX1_sharesHeld 30 = .ok (.istore_n 1, 1) := by decide +kernel
theorem dX1_sharesHeld_31 : decode cX1_sharesHeld 31 = .ok (.iinc 2 1, 3) := by decide +kernel
theorem dX1_sharesHeld_34 : decode cX1_sharesHeld 34 = .ok (.goto (-30), 3) := by decide +kernel
theorem dX1_sharesHeld_37 : decode cX1_sharesHeld 37 = .ok (.iload_n 1, 1) := by decide +kernel
theorem dX1_sharesHeld_38 : decode cX1_sharesHeld 38 = .ok (.ireturn, 1) := by decide +kernel
theorem dX1_sellOldest_0 : decode cX1_sellOldest 0 = .ok (.iconst 0, 1) := by decide +kernel
theorem dX1_sellOldest_1 : decode cX1_sellOldest 1 = .ok (.istore 4, 2) := by decide +kernel
theorem dX1_sellOldest_3 : decode cX1_sellOldest 3 = .ok (.iload_n 1, 1) := by decide +kernel
theorem dX1_sellOldest_4 : decode cX1_sellOldest 4 = .ok (.istore 5, 2) := by decide +kernel
theorem dX1_sellOldest_6 : decode cX1_sellOldest 6 = .ok (.iconst 0, 1) := by decide +kernel
theorem dX1_sellOldest_7 : decode cX1_sellOldest 7 = .ok (.istore 6, 2) := by decide +kernel
theorem dX1_sellOldest_9 : decode cX1_sellOldest 9 = .ok (.iload 6, 2) := by decide +kernel
theorem dX1_sellOldest_11 : decode cX1_sellOldest 11 = .ok (.aload_n 0, 1) := by decide +kernel
theorem dX1_sellOldest_12 : decode cX1_sellOldest 12 = .ok (.getfield 11, 3) := by decide +kernel
theorem dX1_sellOldest_15 : decode cX1_sellOldest 15 = .ok (.arraylength, 1) := by decide +kernel
theorem dX1_sellOldest_16 : decode cX1_sellOldest 16 = .ok (.if_icmp .ge 114, 3) := by decide +kernel
theorem dX1_sellOldest_19 : decode cX1_sellOldest 19 = .ok (.aload_n 0, 1) := by decide +kernel
theorem dX1_sellOldest_20 : decode cX1_sellOldest 20 = .ok (.getfield 11, 3) := by decide +kernel
theorem dX1_sellOldest_23 : decode cX1_sellOldest 23 = .ok (.iload 6, 2) := by decide +kernel
theorem dX1_sellOldest_25 : decode cX1_sellOldest 25 = .ok (.aaload, 1) := by decide +kernel
theorem dX1_sellOldest_26 : decode cX1_sellOldest 26 = .ok (.astore 7, 2) := by decide +kernel
theorem dX1_sellOldest_28 : decode cX1_sellOldest 28 = .ok (.aload 7, 2) := by decide +kernel
theorem dX1_sellOldest_30 : decode cX1_sellOldest 30 = .ok (.ifnull 94, 3) := by decide +kernel
theorem dX1_sellOldest_33 : decode cX1_sellOldest 33 = .ok (.iload 5, 2) := by decide +kernel
theorem dX1_sellOldest_35 : decode cX1_sellOldest 35 = .ok (.aload 7, 2) := by decide +kernel
theorem dX1_sellOldest_37 : decode cX1_sellOldest 37 = .ok (.getfield 96, 3) := by decide +kernel
theorem dX1_sellOldest_40 : decode cX1_sellOldest 40 = .ok (.invokestatic 45, 3) := by decide +kernel
theorem dX1_sellOldest_43 : decode cX1_sellOldest 43 = .ok (.istore 8, 2) := by decide +kernel
theorem dX1_sellOldest_45 : decode cX1_sellOldest 45 = .ok (.aload_n 0, 1) := by decide +kernel
theorem dX1_sellOldest_46 : decode cX1_sellOldest 46 = .ok (.dup, 1) := by decide +kernel
theorem dX1_sellOldest_47 : decode cX1_sellOldest 47 = .ok (.getfield 99, 3) := by decide +kernel
theorem dX1_sellOldest_50 : decode cX1_sellOldest 50 = .ok (.iload 8, 2) := by decide +kernel
theorem dX1_sellOldest_52 : decode cX1_sellOldest 52 = .ok (.i2l, 1) := by decide +kernel
theorem dX1_sellOldest_53 : decode cX1_sellOldest 53 = .ok (.aload 7, 2) := by decide +kernel
theorem dX1_sellOldest_55 : decode cX1_sellOldest 55 = .ok (.iload_n 2, 1) := by decide +kernel
theorem dX1_sellOldest_56 : decode cX1_sellOldest 56 = .ok (.iload_n 3, 1) := by decide +kernel
theorem dX1_sellOldest_57 : decode cX1_sellOldest 57 = .ok (.invokevirtual 102, 3) := by decide +kernel
theorem dX1_sellOldest_60 : decode cX1_sellOldest 60 = .ok (.lmul, 1) := by decide +kernel
theorem dX1_sellOldest_61 : decode cX1_sellOldest 61 = .ok (.ladd, 1) := by decide +kernel
theorem dX1_sellOldest_62 : decode cX1_sellOldest 62 = .ok (.putfield 99, 3) := by decide +kernel
theorem dX1_sellOldest_65 : decode cX1_sellOldest 65 = .ok (.aload_n 0, 1) := by decide +kernel
theorem dX1_sellOldest_66 : decode cX1_sellOldest 66 = .ok (.dup, 1) := by decide +kernel
theorem dX1_sellOldest_67 : decode cX1_sellOldest 67 = .ok (.getfield 106, 3) := by decide +kernel
theorem dX1_sellOldest_70 : decode cX1_sellOldest 70 = .ok (.iload 8, 2) := by decide +kernel
theorem dX1_sellOldest_72 : decode cX1_sellOldest 72 = .ok (.i2l, 1) := by decide +kernel
theorem dX1_sellOldest_73 : decode cX1_sellOldest 73 = .ok (.aload 7, 2) := by decide +kernel
theorem dX1_sellOldest_75 : decode cX1_sellOldest 75 = .ok (.iload_n 2, 1) := by decide +kernel
theorem dX1_sellOldest_76 : decode cX1_sellOldest 76 = .ok (.iload_n 3, 1) := by decide +kernel
theorem dX1_sellOldest_77 : decode cX1_sellOldest 77 = .ok (.invokevirtual 109, 3) := by decide +kernel
theorem dX1_sellOldest_80 : decode cX1_sellOldest 80 = .ok (.lmul, 1) := by decide +kernel
theorem dX1_sellOldest_81 : decode cX1_sellOldest 81 = .ok (.ladd, 1) := by decide +kernel
theorem dX1_sellOldest_82 : decode cX1_sellOldest 82 = .ok (.putfield 106, 3) := by decide +kernel
theorem dX1_sellOldest_85 : decode cX1_sellOldest 85 = .ok (.iload 4, 2) := by decide +kernel
theorem dX1_sellOldest_87 : decode cX1_sellOldest 87 = .ok (.aload 7, 2) := by decide +kernel
theorem dX1_sellOldest_89 : decode cX1_sellOldest 89 = .ok (.iload_n 2, 1) := by decide +kernel
theorem dX1_sellOldest_90 : decode cX1_sellOldest 90 = .ok (.invokevirtual 112, 3) := by decide +kernel
theorem dX1_sellOldest_93 : decode cX1_sellOldest 93 = .ok (.ifCond .eq 8, 3) := by decide +kernel
theorem dX1_sellOldest_96 : decode cX1_sellOldest 96 = .ok (.iload 8, 2) := by decide +kernel
theorem dX1_sellOldest_98 : decode cX1_sellOldest 98 = .ok (.goto 4, 3) := by decide +kernel
theorem dX1_sellOldest_101 : decode cX1_sellOldest 101 = .ok (.iconst 0, 1) := by decide +kernel
theorem dX1_sellOldest_102 : decode cX1_sellOldest 102 = .ok (.iadd, 1) := by decide +kernel
theorem dX1_sellOldest_103 : decode cX1_sellOldest 103 = .ok (.istore 4, 2) := by decide +kernel
theorem dX1_sellOldest_105 : decode cX1_sellOldest 105 = .ok (.aload 7, 2) := by decide +kernel
theorem dX1_sellOldest_107 : decode cX1_sellOldest 107 = .ok (.dup, 1) := by decide +kernel
theorem dX1_sellOldest_108 : decode cX1_sellOldest 108 = .ok (.getfield 96, 3) := by decide +kernel
theorem dX1_sellOldest_111 : decode cX1_sellOldest 111 = .ok (.iload 8, 2) := by decide +kernel
theorem dX1_sellOldest_113 : decode cX1_sellOldest 113 = .ok (.isub, 1) := by decide +kernel
theorem dX1_sellOldest_114 : decode cX1_sellOldest 114 = .ok (.putfield 96, 3) := by decide +kernel
theorem dX1_sellOldest_117 : decode cX1_sellOldest 117 = .ok (.iload 5, 2) := by decide +kernel
theorem dX1_sellOldest_119 : decode cX1_sellOldest 119 = .ok (.iload 8, 2) := by decide +kernel
theorem dX1_sellOldest_121 : decode cX1_sellOldest 121 = .ok (.isub, 1) := by decide +kernel
theorem dX1_sellOldest_122 : decode cX1_sellOldest 122 = .ok (.istore 5, 2) := by decide +kernel
theorem dX1_sellOldest_124 : decode cX1_sellOldest 124 = .ok (.iinc 6 1, 3) := by decide +kernel
theorem dX1_sellOldest_127 : decode cX1_sellOldest 127 = .ok (.goto (-118), 3) := by decide +kernel
theorem dX1_sellOldest_130 : decode cX1_sellOldest 130 = .ok (.iload 4, 2) := by decide +kernel
theorem dX1_sellOldest_132 : decode cX1_sellOldest 132 = .ok (.ireturn, 1) := by decide +kernel
theorem dX1_gainIfAllSold_0 : decode cX1_gainIfAllSold 0 = .ok (.lconst 0, 1) := by decide +kernel
theorem dX1_gainIfAllSold_1 : decode cX1_gainIfAllSold 1 = .ok (.lstore_n 3, 1) := by decide +kernel
theorem dX1_gainIfAllSold_2 : decode cX1_gainIfAllSold 2 = .ok (.iconst 0, 1) := by decide +kernel
theorem dX1_gainIfAllSold_3 : decode cX1_gainIfAllSold 3 = .ok (.istore 5, 2) := by decide +kernel
theorem dX1_gainIfAllSold_5 : decode cX1_gainIfAllSold 5 = .ok (.iload 5, 2) := by decide +kernel
theorem dX1_gainIfAllSold_7 : decode cX1_gainIfAllSold 7 = .ok (.aload_n 0, 1) := by decide +kernel
theorem dX1_gainIfAllSold_8 : decode cX1_gainIfAllSold 8 = .ok (.getfield 11, 3) := by decide +kernel
theorem dX1_gainIfAllSold_11 : decode cX1_gainIfAllSold 11 = .ok (.arraylength, 1) := by decide +kernel
theorem dX1_gainIfAllSold_12 : decode cX1_gainIfAllSold 12 = .ok (.if_icmp .ge 40, 3) := by decide +kernel
theorem dX1_gainIfAllSold_15 : decode cX1_gainIfAllSold 15 = .ok (.aload_n 0, 1) := by decide +kernel
theorem dX1_gainIfAllSold_16 : decode cX1_gainIfAllSold 16 = .ok (.getfield 11, 3) := by decide +kernel
theorem dX1_gainIfAllSold_19 : decode cX1_gainIfAllSold 19 = .ok (.iload 5, 2) := by decide +kernel
theorem dX1_gainIfAllSold_21 : decode cX1_gainIfAllSold 21 = .ok (.aaload, 1) := by decide +kernel
theorem dX1_gainIfAllSold_22 : decode cX1_gainIfAllSold 22 = .ok (.astore 6, 2) := by decide +kernel
theorem dX1_gainIfAllSold_24 : decode cX1_gainIfAllSold 24 = .ok (.aload 6, 2) := by decide +kernel
theorem dX1_gainIfAllSold_26 : decode cX1_gainIfAllSold 26 = .ok (.ifnull 20, 3) := by decide +kernel
theorem dX1_gainIfAllSold_29 : decode cX1_gainIfAllSold 29 = .ok (.lload_n 3, 1) := by decide +kernel
theorem dX1_gainIfAllSold_30 : decode cX1_gainIfAllSold 30 = .ok (.aload 6, 2) := by decide +kernel
theorem dX1_gainIfAllSold_32 : decode cX1_gainIfAllSold 32 = .ok (.getfield 96, 3) := by decide +kernel
theorem dX1_gainIfAllSold_35 : decode cX1_gainIfAllSold 35 = .ok (.i2l, 1) := by decide +kernel
theorem dX1_gainIfAllSold_36 : decode cX1_gainIfAllSold 36 = .ok (.aload 6, 2) := by decide +kernel
theorem dX1_gainIfAllSold_38 : decode cX1_gainIfAllSold 38 = .ok (.iload_n 1, 1) := by decide +kernel
theorem dX1_gainIfAllSold_39 : decode cX1_gainIfAllSold 39 = .ok (.iload_n 2, 1) := by decide +kernel
theorem dX1_gainIfAllSold_40 : decode cX1_gainIfAllSold 40 = .ok (.invokevirtual 109, 3) := by decide +kernel
theorem dX1_gainIfAllSold_43 : decode cX1_gainIfAllSold 43 = .ok (.lmul, 1) := by decide +kernel
theorem dX1_gainIfAllSold_44 : decode cX1_gainIfAllSold 44 = .ok (.ladd, 1) := by decide +kernel
theorem dX1_gainIfAllSold_45 : decode cX1_gainIfAllSold 45 = .ok (.lstore_n 3, 1) := by decide +kernel
theorem dX1_gainIfAllSold_46 : decode cX1_gainIfAllSold 46 = .ok (.iinc 5 1, 3) := by decide +kernel
theorem dX1_gainIfAllSold_49 : decode cX1_gainIfAllSold 49 = .ok (.goto (-44), 3) := by decide +kernel
theorem dX1_gainIfAllSold_52 : decode cX1_gainIfAllSold 52 = .ok (.lload_n 3, 1) := by decide +kernel
theorem dX1_gainIfAllSold_53 : decode cX1_gainIfAllSold 53 = .ok (.lreturn, 1) := by decide +kernel
theorem dX2_init_0 : decode cX2_init 0 = .ok (.aload_n 0, 1) := by decide +kernel
theorem dX2_init_1 : decode cX2_init 1 = .ok (.invokespecial 3, 3) := by decide +kernel
theorem dX2_init_4 : decode cX2_init 4 = .ok (.aload_n 0, 1) := by decide +kernel
theorem dX2_init_5 : decode cX2_init 5 = .ok (.bipush 6, 2) := by decide +kernel
theorem dX2_init_7 : decode cX2_init 7 = .ok (.anewarray 9, 3) := by decide +kernel
theorem dX2_init_10 : decode cX2_init 10 = .ok (.putfield 11, 3) := by decide +kernel
theorem dX2_init_13 : decode cX2_init 13 = .ok (.aload_n 0, 1) := by decide +kernel
theorem dX2_init_14 : decode cX2_init 14 = .ok (.iconst 0, 1) := by decide +kernel
theorem dX2_init_15 : decode cX2_init 15 = .ok (.putfield 15, 3) := by decide +kernel
theorem dX2_init_18 : decode cX2_init 18 = .ok (.aload_n 0, 1) := by decide +kernel
theorem dX2_init_19 : decode cX2_init 19 = .ok (.iconst (-1), 1) := by decide +kernel
theorem dX2_init_20 : decode cX2_init 20 = .ok (.putfield 19, 3) := by decide +kernel
theorem dX2_init_23 : decode cX2_init 23 = .ok (.aload_n 0, 1) := by decide +kernel
theorem dX2_init_24 : decode cX2_init 24 = .ok (.iconst 0, 1) := by decide +kernel
theorem dX2_init_25 : decode cX2_init 25 = .ok (.putfield 22, 3) := by decide +kernel
theorem dX2_init_28 : decode cX2_init 28 = .ok (.aload_n 0, 1) := by decide +kernel
theorem dX2_init_29 : decode cX2_init 29 = .ok (.ldc 25, 2) := by decide +kernel
theorem dX2_init_31 : decode cX2_init 31 = .ok (.putfield 26, 3) := by decide +kernel
theorem dX2_init_34 : decode cX2_init 34 = .ok (.return_, 1) := by decide +kernel
theorem dX2_next_0 : decode cX2_next 0 = .ok (.iload_n 1, 1) := by decide +kernel
theorem dX2_next_1 : decode cX2_next 1 = .ok (.iconst 1, 1) := by decide +kernel
theorem dX2_next_2 : decode cX2_next 2 = .ok (.if_icmp .lt 9, 3) := by decide +kernel
theorem dX2_next_5 : decode cX2_next 5 = .ok (.iload_n 1, 1) := by decide +kernel
theorem dX2_next_6 : decode cX2_next 6 = .ok (.ldc 29, 2) := by decide +kernel
theorem dX2_next_8 : decode cX2_next 8 = .ok (.if_icmp .le 13, 3) := by decide +kernel
theorem dX2_next_11 : decode cX2_next 11 = .ok (.new 30, 3) := by decide +kernel
theorem dX2_next_14 : decode cX2_next 14 = .ok (.dup, 1) := by decide +kernel
theorem dX2_next_15 : decode cX2_next 15 = .ok (.ldc 32, 2) := by decide +kernel
theorem dX2_next_17 : decode cX2_next 17 = .ok (.invokespecial 34, 3) := by decide +kernel
theorem dX2_next_20 : decode cX2_next 20 = .ok (.athrow, 1) := by decide +kernel
theorem dX2_next_21 : decode cX2_next 21 = .ok (.aload_n 0, 1) := by decide +kernel
theorem dX2_next_22 : decode cX2_next 22 = .ok (.getfield 19, 3) := by decide +kernel
theorem dX2_next_25 : decode cX2_next 25 = .ok (.bipush 59, 2) := by decide +kernel
theorem dX2_next_27 : decode cX2_next 27 = .ok (.if_icmp .lt 13, 3) := by decide +kernel
theorem dX2_next_30 : decode cX2_next 30 = .ok (.new 37, 3) := by decide +kernel
theorem dX2_next_33 : decode cX2_next 33 = .ok (.dup, 1) := by decide +kernel
theorem dX2_next_34 : decode cX2_next 34 = .ok (.ldc 39, 2) := by decide +kernel
theorem dX2_next_36 : decode cX2_next 36 = .ok (.invokespecial 41, 3) := by decide +kernel
theorem dX2_next_39 : decode cX2_next 39 = .ok (.athrow, 1) := by decide +kernel
theorem dX2_next_40 : decode cX2_next 40 = .ok (.aload_n 0, 1) := by decide +kernel
theorem dX2_next_41 : decode cX2_next 41 = .ok (.getfield 19, 3) := by decide +kernel
theorem dX2_next_44 : decode cX2_next 44 = .ok (.invokestatic 42, 3) := by decide +kernel
theorem dX2_next_47 : decode cX2_next 47 = .ok (.ifCond .eq 7, 3) := by decide +kernel
theorem dX2_next_50 : decode cX2_next 50 = .ok (.aload_n 0, 1) := by decide +kernel
theorem dX2_next_51 : decode cX2_next 51 = .ok (.invokevirtual 46, 3) := by decide +kernel
theorem dX2_next_54 : decode cX2_next 54 = .ok (.aload_n 0, 1) := by decide +kernel
theorem dX2_next_55 : decode cX2_next 55 = .ok (.dup, 1) := by decide +kernel
theorem dX2_next_56 : decode cX2_next 56 = .ok (.getfield 19, 3) := by decide +kernel
theorem dX2_next_59 : decode cX2_next 59 = .ok (.iconst 1, 1) := by decide +kernel
theorem dX2_next_60 : decode cX2_next 60 = .ok (.iadd, 1) := by decide +kernel
theorem dX2_next_61 : decode cX2_next 61 = .ok (.putfield 19, 3) := by decide +kernel
theorem dX2_next_64 : decode cX2_next 64 = .ok (.aload_n 0, 1) := by decide +kernel
theorem dX2_next_65 : decode cX2_next 65 = .ok (.iload_n 1, 1) := by decide +kernel
theorem dX2_next_66 : decode cX2_next 66 = .ok (.putfield 22, 3) := by decide +kernel
theorem dX2_next_69 : decode cX2_next 69 = .ok (.aload_n 0, 1) := by decide +kernel
theorem dX2_next_70 : decode cX2_next 70 = .ok (.getfield 19, 3) := by decide +kernel
theorem dX2_next_73 : decode cX2_next 73 = .ok (.ireturn, 1) := by decide +kernel
theorem dX2_month_0 : decode cX2_month 0 = .ok (.aload_n 0, 1) := by decide +kernel
theorem dX2_month_1 : decode cX2_month 1 = .ok (.getfield 19, 3) := by decide +kernel
theorem dX2_month_4 : decode cX2_month 4 = .ok (.ireturn, 1) := by decide +kernel
theorem dX2_ceiling_0 : decode cX2_ceiling 0 = .ok (.iload_n 1, 1) := by decide +kernel
theorem dX2_ceiling_1 : decode cX2_ceiling 1 = .ok (.ifCond .lt 9, 3) := by decide +kernel
theorem dX2_ceiling_4 : decode cX2_ceiling 4 = .ok (.iload_n 1, 1) := by decide +kernel
theorem dX2_ceiling_5 : decode cX2_ceiling 5 = .ok (.ldc 49, 2) := by decide +kernel
theorem dX2_ceiling_7 : decode cX2_ceiling 7 = .ok (.if_icmp .le 13, 3) := by decide +kernel
theorem dX2_ceiling_10 : decode cX2_ceiling 10 = .ok (.new 30, 3) := by decide +kernel
theorem dX2_ceiling_13 : decode cX2_ceiling 13 = .ok (.dup, 1) := by decide +kernel
theorem dX2_ceiling_14 : decode cX2_ceiling 14 = .ok (.ldc 50, 2) := by decide +kernel
theorem dX2_ceiling_16 : decode cX2_ceiling 16 = .ok (.invokespecial 34, 3) := by decide +kernel
theorem dX2_ceiling_19 : decode cX2_ceiling 19 = .ok (.athrow, 1) := by decide +kernel
theorem dX2_ceiling_20 : decode cX2_ceiling 20 = .ok (.aload_n 0, 1) := by decide +kernel
theorem dX2_ceiling_21 : decode cX2_ceiling 21 = .ok (.getfield 26, 3) := by decide +kernel
theorem dX2_ceiling_24 : decode cX2_ceiling 24 = .ok (.istore_n 2, 1) := by decide +kernel
theorem dX2_ceiling_25 : decode cX2_ceiling 25 = .ok (.aload_n 0, 1) := by decide +kernel
theorem dX2_ceiling_26 : decode cX2_ceiling 26 = .ok (.iload_n 1, 1) := by decide +kernel
theorem dX2_ceiling_27 : decode cX2_ceiling 27 = .ok (.putfield 26, 3) := by decide +kernel
theorem dX2_ceiling_30 : decode cX2_ceiling 30 = .ok (.iload_n 2, 1) := by decide +kernel
theorem dX2_ceiling_31 : decode cX2_ceiling 31 = .ok (.ireturn, 1) := by decide +kernel
theorem dX2_join_0 : decode cX2_join 0 = .ok (.iload_n 1, 1) := by decide +kernel
theorem dX2_join_1 : decode cX2_join 1 = .ok (.invokestatic 52, 3) := by decide +kernel
theorem dX2_join_4 : decode cX2_join 4 = .ok (.aload_n 0, 1) := by decide +kernel
theorem dX2_join_5 : decode cX2_join 5 = .ok (.getfield 19, 3) := by decide +kernel
theorem dX2_join_8 : decode cX2_join 8 = .ok (.iconst (-1), 1) := by decide +kernel
theorem dX2_join_9 : decode cX2_join 9 = .ok (.if_icmp .ne 13, 3) := by decide +kernel
theorem dX2_join_12 : decode cX2_join 12 = .ok (.new 37, 3) := by decide +kernel
theorem dX2_join_15 : decode cX2_join 15 = .ok (.dup, 1) := by decide +kernel
theorem dX2_join_16 : decode cX2_join 16 = .ok (.ldc 56, 2) := by decide +kernel
theorem dX2_join_18 : decode cX2_join 18 = .ok (.invokespecial 41, 3) := by decide +kernel
theorem dX2_join_21 : decode cX2_join 21 = .ok (.athrow, 1) := by decide +kernel
theorem dX2_join_22 : decode cX2_join 22 = .ok (.aload_n 0, 1) := by decide +kernel
theorem dX2_join_23 : decode cX2_join 23 = .ok (.getfield 15, 3) := by decide +kernel
theorem dX2_join_26 : decode cX2_join 26 = .ok (.istore_n 2, 1) := by decide +kernel
theorem dX2_join_27 : decode cX2_join 27 = .ok (.iload_n 2, 1) := by decide +kernel
theorem dX2_join_28 : decode cX2_join 28 = .ok (.ifCond .lt 12, 3) := by decide +kernel
theorem dX2_join_31 : decode cX2_join 31 = .ok (.iload_n 2, 1) := by decide +kernel
theorem dX2_join_32 : decode cX2_join 32 = .ok (.aload_n 0, 1) := by decide +kernel
theorem dX2_join_33 : decode cX2_join 33 = .ok (.getfield 11, 3) := by decide +kernel
theorem dX2_join_36 : decode cX2_join 36 = .ok (.arraylength, 1) := by decide +kernel
theorem dX2_join_37 : decode cX2_join 37 = .ok (.if_icmp .lt 13, 3) := by decide +kernel
theorem dX2_join_40 : decode cX2_join 40 = .ok (.new 37, 3) := by decide +kernel
theorem dX2_join_43 : decode cX2_join 43 = .ok (.dup, 1) := by decide +kernel
theorem dX2_join_44 : decode cX2_join 44 = .ok (.ldc 58, 2) := by decide +kernel
theorem dX2_join_46 : decode cX2_join 46 = .ok (.invokespecial 41, 3) := by decide +kernel
theorem dX2_join_49 : decode cX2_join 49 = .ok (.athrow, 1) := by decide +kernel
theorem dX2_join_50 : decode cX2_join 50 = .ok (.aload_n 0, 1) := by decide +kernel
theorem dX2_join_51 : decode cX2_join 51 = .ok (.getfield 11, 3) := by decide +kernel
theorem dX2_join_54 : decode cX2_join 54 = .ok (.iload_n 2, 1) := by decide +kernel
theorem dX2_join_55 : decode cX2_join 55 = .ok (.new 9, 3) := by decide +kernel
theorem dX2_join_58 : decode cX2_join 58 = .ok (.dup, 1) := by decide +kernel
theorem dX2_join_59 : decode cX2_join 59 = .ok (.iload_n 1, 1) := by decide +kernel
theorem dX2_join_60 : decode cX2_join 60 = .ok (.aload_n 0, 1) := by decide +kernel
theorem dX2_join_61 : decode cX2_join 61 = .ok (.getfield 19, 3) := by decide +kernel
theorem dX2_join_64 : decode cX2_join 64 = .ok (.aload_n 0, 1) := by decide +kernel
theorem dX2_join_65 : decode cX2_join 65 = .ok (.getfield 22, 3) := by decide +kernel
theorem dX2_join_68 : decode cX2_join 68 = .ok (.invokespecial 60, 3) := by decide +kernel
theorem dX2_join_71 : decode cX2_join 71 = .ok (.aastore, 1) := by decide +kernel
theorem dX2_join_72 : decode cX2_join 72 = .ok (.aload_n 0, 1) := by decide +kernel
theorem dX2_join_73 : decode cX2_join 73 = .ok (.dup, 1) := by decide +kernel
theorem dX2_join_74 : decode cX2_join 74 = .ok (.getfield 15, 3) := by decide +kernel
theorem dX2_join_77 : decode cX2_join 77 = .ok (.iconst 1, 1) := by decide +kernel
theorem dX2_join_78 : decode cX2_join 78 = .ok (.iadd, 1) := by decide +kernel
theorem dX2_join_79 : decode cX2_join 79 = .ok (.putfield 15, 3) := by decide +kernel
theorem dX2_join_82 : decode cX2_join 82 = .ok (.iload_n 2, 1) := by decide +kernel
theorem dX2_join_83 : decode cX2_join 83 = .ok (.ireturn, 1) := by decide +kernel
theorem dX2_rate_0 : decode cX2_rate 0 = .ok (.aload_n 0, 1) := by decide +kernel
theorem dX2_rate_1 : decode cX2_rate 1 = .ok (.iload_n 1, 1) := by decide +kernel
theorem dX2_rate_2 : decode cX2_rate 2 = .ok (.invokevirtual 63, 3) := by decide +kernel
theorem dX2_rate_5 : decode cX2_rate 5 = .ok (.astore_n 3, 1) := by decide +kernel
theorem dX2_rate_6 : decode cX2_rate 6 = .ok (.iload_n 2, 1) := by decide +kernel
theorem dX2_rate_7 : decode cX2_rate 7 = .ok (.invokestatic 52, 3) := by decide +kernel
theorem dX2_rate_10 : decode cX2_rate 10 = .ok (.aload_n 3, 1) := by decide +kernel
theorem dX2_rate_11 : decode cX2_rate 11 = .ok (.invokestatic 67, 3) := by decide +kernel
theorem dX2_rate_14 : decode cX2_rate 14 = .ok (.aload_n 3, 1) := by decide +kernel
theorem dX2_rate_15 : decode cX2_rate 15 = .ok (.getfield 71, 3) := by decide +kernel
theorem dX2_rate_18 : decode cX2_rate 18 = .ok (.istore 4, 2) := by decide +kernel
theorem dX2_rate_20 : decode cX2_rate 20 = .ok (.aload_n 3, 1) := by decide +kernel
theorem dX2_rate_21 : decode cX2_rate 21 = .ok (.iload_n 2, 1) := by decide +kernel
theorem dX2_rate_22 : decode cX2_rate 22 = .ok (.putfield 71, 3) := by decide +kernel
theorem dX2_rate_25 : decode cX2_rate 25 = .ok (.iload 4, 2) := by decide +kernel
theorem dX2_rate_27 : decode cX2_rate 27 = .ok (.ireturn, 1) := by decide +kernel
theorem dX2_slip_0 : decode cX2_slip 0 = .ok (.aload_n 0, 1) := by decide +kernel
theorem dX2_slip_1 : decode cX2_slip 1 = .ok (.iload_n 1, 1) := by decide +kernel
theorem dX2_slip_2 : decode cX2_slip 2 = .ok (.invokevirtual 63, 3) := by decide +kernel
theorem dX2_slip_5 : decode cX2_slip 5 = .ok (.astore_n 3, 1) := by decide +kernel
theorem dX2_slip_6 : decode cX2_slip 6 = .ok (.iload_n 2, 1) := by decide +kernel
theorem dX2_slip_7 : decode cX2_slip 7 = .ok (.ifCond .lt 9, 3) := by decide +kernel
theorem dX2_slip_10 : decode cX2_slip 10 = .ok (.iload_n 2, 1) := by decide +kernel
theorem dX2_slip_11 : decode cX2_slip 11 = .ok (.ldc 74, 2) := by decide +kernel
theorem dX2_slip_13 : decode cX2_slip 13 = .ok (.if_icmp .le 13, 3) := by decide +kernel
theorem dX2_slip_16 : decode cX2_slip 16 = .ok (.new 30, 3) := by decide +kernel
theorem dX2_slip_19 : decode cX2_slip 19 = .ok (.dup, 1) := by decide +kernel
theorem dX2_slip_20 : decode cX2_slip 20 = .ok (.ldc 75, 2) := by decide +kernel
theorem dX2_slip_22 : decode cX2_slip 22 = .ok (.invokespecial 34, 3) := by decide +kernel
theorem dX2_slip_25 : decode cX2_slip 25 = .ok (.athrow, 1) := by decide +kernel
theorem dX2_slip_26 : decode cX2_slip 26 = .ok (.aload_n 3, 1) := by decide +kernel
theorem dX2_slip_27 : decode cX2_slip 27 = .ok (.invokestatic 67, 3) := by decide +kernel
theorem dX2_slip_30 : decode cX2_slip 30 = .ok (.aload_n 3, 1) := by decide +kernel
theorem dX2_slip_31 : decode cX2_slip 31 = .ok (.iload_n 2, 1) := by decide +kernel
theorem dX2_slip_32 : decode cX2_slip 32 = .ok (.invokevirtual 77, 3) := by decide +kernel
theorem dX2_slip_35 : decode cX2_slip 35 = .ok (.ireturn, 1) := by decide +kernel
theorem dX2_leave_0 : decode cX2_leave 0 = .ok (.aload_n 0, 1) := by decide +kernel
theorem dX2_leave_1 : decode cX2_leave 1 = .ok (.iload_n 1, 1) := by decide +kernel
theorem dX2_leave_2 : decode cX2_leave 2 = .ok (.invokevirtual 63, 3) := by decide +kernel
theorem dX2_leave_5 : decode cX2_leave 5 = .ok (.astore_n 2, 1) := by decide +kernel
theorem dX2_leave_6 : decode cX2_leave 6 = .ok (.aload_n 2, 1) := by decide +kernel
theorem dX2_leave_7 : decode cX2_leave 7 = .ok (.invokestatic 67, 3) := by decide +kernel
theorem dX2_leave_10 : decode cX2_leave 10 = .ok (.aload_n 2, 1) := by decide +kernel
theorem dX2_leave_11 : decode cX2_leave 11 = .ok (.invokevirtual 81, 3) := by decide +kernel
theorem dX2_leave_14 : decode cX2_leave 14 = .ok (.l2i, 1) := by decide +kernel
theorem dX2_leave_15 : decode cX2_leave 15 = .ok (.ireturn, 1) := by decide +kernel
theorem dX2_money_0 : decode cX2_money 0 = .ok (.aload_n 0, 1) := by decide +kernel
theorem dX2_money_1 : decode cX2_money 1 = .ok (.iload_n 1, 1) := by decide +kernel
theorem dX2_money_2 : decode cX2_money 2 = .ok (.invokevirtual 63, 3) := by decide +kernel
theorem dX2_money_5 : decode cX2_money 5 = .ok (.getfield 85, 3) := by decide +kernel
theorem dX2_money_8 : decode cX2_money 8 = .ok (.l2i, 1) := by decide +kernel
theorem dX2_money_9 : decode cX2_money 9 = .ok (.ireturn, 1) := by decide +kernel
theorem dX2_offerMonth_0 : decode cX2_offerMonth 0 = .ok (.aload_n 0, 1) := by decide +kernel
theorem dX2_offerMonth_1 : decode cX2_offerMonth 1 = .ok (.iload_n 1, 1) := by decide +kernel
theorem dX2_offerMonth_2 : decode cX2_offerMonth 2 = .ok (.invokevirtual 63, 3) := by decide +kernel
theorem dX2_offerMonth_5 : decode cX2_offerMonth 5 = .ok (.getfield 89, 3) := by decide +kernel
theorem dX2_offerMonth_8 : decode cX2_offerMonth 8 = .ok (.ireturn, 1) := by decide +kernel
theorem dX2_offerPrice_0 : decode cX2_offerPrice 0 = .ok (.aload_n 0, 1) := by decide +kernel
theorem dX2_offerPrice_1 : decode cX2_offerPrice 1 = .ok (.iload_n 1, 1) := by decide +kernel
theorem dX2_offerPrice_2 : decode cX2_offerPrice 2 = .ok (.invokevirtual 63, 3) := by decide +kernel
theorem dX2_offerPrice_5 : decode cX2_offerPrice 5 = .ok (.getfield 92, 3) := by decide +kernel
theorem dX2_offerPrice_8 : decode cX2_offerPrice 8 = .ok (.ireturn, 1) := by decide +kernel
theorem dX2_resets_0 : decode cX2_resets 0 = .ok (.aload_n 0, 1) := by decide +kernel
theorem dX2_resets_1 : decode cX2_resets 1 = .ok (.iload_n 1, 1) := by decide +kernel
theorem dX2_resets_2 : decode cX2_resets 2 = .ok (.invokevirtual 63, 3) := by decide +kernel
theorem dX2_resets_5 : decode cX2_resets 5 = .ok (.getfield 95, 3) := by decide +kernel
theorem dX2_resets_8 : decode cX2_resets 8 = .ok (.ireturn, 1) := by decide +kernel
theorem dX2_shares_0 : decode cX2_shares 0 = .ok (.aload_n 0, 1) := by decide +kernel
theorem dX2_shares_1 : decode cX2_shares 1 = .ok (.iload_n 1, 1) := by decide +kernel
theorem dX2_shares_2 : decode cX2_shares 2 = .ok (.invokevirtual 63, 3) := by decide +kernel
theorem dX2_shares_5 : decode cX2_shares 5 = .ok (.invokevirtual 98, 3) := by decide +kernel
theorem dX2_shares_8 : decode cX2_shares 8 = .ok (.ireturn, 1) := by decide +kernel
theorem dX2_bought_0 : decode cX2_bought 0 = .ok (.aload_n 0, 1) := by decide +kernel
theorem dX2_bought_1 : decode cX2_bought 1 = .ok (.iload_n 1, 1) := by decide +kernel
theorem dX2_bought_2 : decode cX2_bought 2 = .ok (.invokevirtual 63, 3) := by decide +kernel
theorem dX2_bought_5 : decode cX2_bought 5 = .ok (.astore_n 3, 1) := by decide +kernel
theorem dX2_bought_6 : decode cX2_bought 6 = .ok (.iload_n 2, 1) := by decide +kernel
theorem dX2_bought_7 : decode cX2_bought 7 = .ok (.invokestatic 102, 3) := by decide +kernel
theorem dX2_bought_10 : decode cX2_bought 10 = .ok (.aload_n 3, 1) := by decide +kernel
theorem dX2_bought_11 : decode cX2_bought 11 = .ok (.iload_n 2, 1) := by decide +kernel
theorem dX2_bought_12 : decode cX2_bought 12 = .ok (.invokevirtual 105, 3) := by decide +kernel
theorem dX2_bought_15 : decode cX2_bought 15 = .ok (.astore 4, 2) := by decide +kernel
theorem dX2_bought_17 : decode cX2_bought 17 = .ok (.aload 4, 2) := by decide +kernel
theorem dX2_bought_19 : decode cX2_bought 19 = .ok (.ifnonnull 7, 3) := by decide +kernel
theorem dX2_bought_22 : decode cX2_bought 22 = .ok (.iconst 0, 1) := by decide +kernel
theorem dX2_bought_23 : decode cX2_bought 23 = .ok (.goto 8, 3) := by decide +kernel
theorem dX2_bought_26 : decode cX2_bought 26 = .ok (.aload 4, 2) := by decide +kernel
theorem dX2_bought_28 : decode cX2_bought 28 = .ok (.getfield 109, 3) := by decide +kernel
theorem dX2_bought_31 : decode cX2_bought 31 = .ok (.ireturn, 1) := by decide +kernel
theorem dX2_paidEach_0 : decode cX2_paidEach 0 = .ok (.aload_n 0, 1) := by decide +kernel
theorem dX2_paidEach_1 : decode cX2_paidEach 1 = .ok (.iload_n 1, 1) := by decide +kernel
theorem dX2_paidEach_2 : decode cX2_paidEach 2 = .ok (.invokevirtual 63, 3) := by decide +kernel
theorem dX2_paidEach_5 : decode cX2_paidEach 5 = .ok (.astore_n 3, 1) := by decide +kernel
theorem dX2_paidEach_6 : decode cX2_paidEach 6 = .ok (.iload_n 2, 1) := by decide +kernel
theorem dX2_paidEach_7 : decode cX2_paidEach 7 = .ok (.invokestatic 102, 3) := by decide +kernel
theorem dX2_paidEach_10 : decode cX2_paidEach 10 = .ok (.aload_n 3, 1) := by decide +kernel
theorem dX2_paidEach_11 : decode cX2_paidEach 11 = .ok (.iload_n 2, 1) := by decide +kernel
theorem dX2_paidEach_12 : decode cX2_paidEach 12 = .ok (.invokevirtual 105, 3) := by decide +kernel
theorem dX2_paidEach_15 : decode cX2_paidEach 15 = .ok (.astore 4, 2) := by decide +kernel
theorem dX2_paidEach_17 : decode cX2_paidEach 17 = .ok (.aload 4, 2) := by decide +kernel
theorem dX2_paidEach_19 : decode cX2_paidEach 19 = .ok (.ifnonnull 7, 3) := by decide +kernel
theorem dX2_paidEach_22 : decode cX2_paidEach 22 = .ok (.iconst (-1), 1) := by decide +kernel
theorem dX2_paidEach_23 : decode cX2_paidEach 23 = .ok (.goto 8, 3) := by decide +kernel
theorem dX2_paidEach_26 : decode cX2_paidEach 26 = .ok (.aload 4, 2) := by decide +kernel
theorem dX2_paidEach_28 : decode cX2_paidEach 28 = .ok (.getfield 114, 3) := by decide +kernel
theorem dX2_paidEach_31 : decode cX2_paidEach 31 = .ok (.ireturn, 1) := by decide +kernel
theorem dX2_counted_0 : decode cX2_counted 0 = .ok (.aload_n 0, 1) := by decide +kernel
theorem dX2_counted_1 : decode cX2_counted 1 = .ok (.iload_n 1, 1) := by decide +kernel
theorem dX2_counted_2 : decode cX2_counted 2 = .ok (.invokevirtual 63, 3) := by decide +kernel
theorem dX2_counted_5 : decode cX2_counted 5 = .ok (.astore_n 3, 1) := by decide +kernel
theorem dX2_counted_6 : decode cX2_counted 6 = .ok (.iload_n 2, 1) := by decide +kernel
theorem dX2_counted_7 : decode cX2_counted 7 = .ok (.ifCond .lt 8, 3) := by decide +kernel
theorem dX2_counted_10 : decode cX2_counted 10 = .ok (.iload_n 2, 1) := by decide +kernel
theorem dX2_counted_11 : decode cX2_counted 11 = .ok (.iconst 5, 1) := by decide +kernel
theorem dX2_counted_12 : decode cX2_counted 12 = .ok (.if_icmp .lt 13, 3) := by decide +kernel
theorem dX2_counted_15 : decode cX2_counted 15 = .ok (.new 117, 3) := by decide +kernel
theorem dX2_counted_18 : decode cX2_counted 18 = .ok (.dup, 1) := by decide +kernel
theorem dX2_counted_19 : decode cX2_counted 19 = .ok (.ldc 119, 2) := by decide +kernel
theorem dX2_counted_21 : decode cX2_counted 21 = .ok (.invokespecial 121, 3) := by decide +kernel
theorem dX2_counted_24 : decode cX2_counted 24 = .ok (.athrow, 1) := by decide +kernel
theorem dX2_counted_25 : decode cX2_counted 25 = .ok (.aload_n 3, 1) := by decide +kernel
theorem dX2_counted_26 : decode cX2_counted 26 = .ok (.iload_n 2, 1) := by decide +kernel
theorem dX2_counted_27 : decode cX2_counted 27 = .ok (.invokevirtual 122, 3) := by decide +kernel
theorem dX2_counted_30 : decode cX2_counted 30 = .ok (.lreturn, 1) := by decide +kernel
theorem dX2_traced_0 : decode cX2_traced 0 = .ok (.aload_n 0, 1) := by decide +kernel
theorem dX2_traced_1 : decode cX2_traced 1 = .ok (.iload_n 1, 1) := by decide +kernel
theorem dX2_traced_2 : decode cX2_traced 2 = .ok (.invokevirtual 63, 3) := by decide +kernel
theorem dX2_traced_5 : decode cX2_traced 5 = .ok (.astore_n 2, 1) := by decide +kernel
theorem dX2_traced_6 : decode cX2_traced 6 = .ok (.aload_n 2, 1) := by decide +kernel
theorem dX2_traced_7 : decode cX2_traced 7 = .ok (.getfield 126, 3) := by decide +kernel
theorem dX2_traced_10 : decode cX2_traced 10 = .ok (.aload_n 2, 1) := by decide +kernel
theorem dX2_traced_11 : decode cX2_traced 11 = .ok (.getfield 85, 3) := by decide +kernel
theorem dX2_traced_14 : decode cX2_traced 14 = .ok (.ladd, 1) := by decide +kernel
theorem dX2_traced_15 : decode cX2_traced 15 = .ok (.aload_n 2, 1) := by decide +kernel
theorem dX2_traced_16 : decode cX2_traced 16 = .ok (.getfield 129, 3) := by decide +kernel
theorem dX2_traced_19 : decode cX2_traced 19 = .ok (.ladd, 1) := by decide +kernel
theorem dX2_traced_20 : decode cX2_traced 20 = .ok (.lreturn, 1) := by decide +kernel
theorem dX2_kept_0 : decode cX2_kept 0 = .ok (.aload_n 0, 1) := by decide +kernel
theorem dX2_kept_1 : decode cX2_kept 1 = .ok (.iload_n 1, 1) := by decide +kernel
theorem dX2_kept_2 : decode cX2_kept 2 = .ok (.invokevirtual 63, 3) := by decide +kernel
theorem dX2_kept_5 : decode cX2_kept 5 = .ok (.getfield 132, 3) := by decide +kernel
theorem dX2_kept_8 : decode cX2_kept 8 = .ok (.lreturn, 1) := by decide +kernel
theorem dX2_sell_0 : decode cX2_sell 0 = .ok (.aload_n 0, 1) := by decide +kernel
theorem dX2_sell_1 : decode cX2_sell 1 = .ok (.iload_n 1, 1) := by decide +kernel
theorem dX2_sell_2 : decode cX2_sell 2 = .ok (.invokevirtual 63, 3) := by decide +kernel
theorem dX2_sell_5 : decode cX2_sell 5 = .ok (.astore_n 3, 1) := by decide +kernel
theorem dX2_sell_6 : decode cX2_sell 6 = .ok (.iload_n 2, 1) := by decide +kernel
theorem dX2_sell_7 : decode cX2_sell 7 = .ok (.iconst 1, 1) := by decide +kernel
theorem dX2_sell_8 : decode cX2_sell 8 = .ok (.if_icmp .lt 9, 3) := by decide +kernel
theorem dX2_sell_11 : decode cX2_sell 11 = .ok (.iload_n 2, 1) := by decide +kernel
theorem dX2_sell_12 : decode cX2_sell 12 = .ok (.ldc 135, 2) := by decide +kernel
theorem dX2_sell_14 : decode cX2_sell 14 = .ok (.if_icmp .le 13, 3) := by decide +kernel
theorem dX2_sell_17 : decode cX2_sell 17 = .ok (.new 30, 3) := by decide +kernel
theorem dX2_sell_20 : decode cX2_sell 20 = .ok (.dup, 1) := by decide +kernel
theorem dX2_sell_21 : decode cX2_sell 21 = .ok (.ldc 136, 2) := by decide +kernel
theorem dX2_sell_23 : decode cX2_sell 23 = .ok (.invokespecial 34, 3) := by decide +kernel
theorem dX2_sell_26 : decode cX2_sell 26 = .ok (.athrow, 1) := by decide +kernel
theorem dX2_sell_27 : decode cX2_sell 27 = .ok (.aload_n 3, 1) := by decide +kernel
theorem dX2_sell_28 : decode cX2_sell 28 = .ok (.invokevirtual 98, 3) := by decide +kernel
theorem dX2_sell_31 : decode cX2_sell 31 = .ok (.iload_n 2, 1) := by decide +kernel
theorem dX2_sell_32 : decode cX2_sell 32 = .ok (.if_icmp .ge 13, 3) := by decide +kernel
theorem dX2_sell_35 : decode cX2_sell 35 = .ok (.new 37, 3) := by decide +kernel
theorem dX2_sell_38 : decode cX2_sell 38 = .ok (.dup, 1) := by decide +kernel
theorem dX2_sell_39 : decode cX2_sell 39 = .ok (.ldc 138, 2) := by decide +kernel
theorem dX2_sell_41 : decode cX2_sell 41 = .ok (.invokespecial 41, 3) := by decide +kernel
theorem dX2_sell_44 : decode cX2_sell 44 = .ok (.athrow, 1) := by decide +kernel
theorem dX2_sell_45 : decode cX2_sell 45 = .ok (.aload_n 3, 1) := by decide +kernel
theorem dX2_sell_46 : decode cX2_sell 46 = .ok (.iload_n 2, 1) := by decide +kernel
theorem dX2_sell_47 : decode cX2_sell 47 = .ok (.aload_n 0, 1) := by decide +kernel
theorem dX2_sell_48 : decode cX2_sell 48 = .ok (.getfield 19, 3) := by decide +kernel
theorem dX2_sell_51 : decode cX2_sell 51 = .ok (.aload_n 0, 1) := by decide +kernel
theorem dX2_sell_52 : decode cX2_sell 52 = .ok (.getfield 22, 3) := by decide +kernel
theorem dX2_sell_55 : decode cX2_sell 55 = .ok (.invokevirtual 140, 3) := by decide +kernel
theorem dX2_sell_58 : decode cX2_sell 58 = .ok (.ireturn, 1) := by decide +kernel
theorem dX2_pay_0 : decode cX2_pay 0 = .ok (.aload_n 0, 1) := by decide +kernel
theorem dX2_pay_1 : decode cX2_pay 1 = .ok (.iload_n 1, 1) := by decide +kernel
theorem dX2_pay_2 : decode cX2_pay 2 = .ok (.invokevirtual 63, 3) := by decide +kernel
theorem dX2_pay_5 : decode cX2_pay 5 = .ok (.getfield 144, 3) := by decide +kernel
theorem dX2_pay_8 : decode cX2_pay 8 = .ok (.lreturn, 1) := by decide +kernel
theorem dX2_gain_0 : decode cX2_gain 0 = .ok (.aload_n 0, 1) := by decide +kernel
theorem dX2_gain_1 : decode cX2_gain 1 = .ok (.iload_n 1, 1) := by decide +kernel
theorem dX2_gain_2 : decode cX2_gain 2 = .ok (.invokevirtual 63, 3) := by decide +kernel
theorem dX2_gain_5 : decode cX2_gain 5 = .ok (.getfield 147, 3) := by decide +kernel
theorem dX2_gain_8 : decode cX2_gain 8 = .ok (.lreturn, 1) := by decide +kernel
theorem dX2_gainNow_0 : decode cX2_gainNow 0 = .ok (.aload_n 0, 1) := by decide +kernel
theorem dX2_gainNow_1 : decode cX2_gainNow 1 = .ok (.iload_n 1, 1) := by decide +kernel
theorem dX2_gainNow_2 : decode cX2_gainNow 2 = .ok (.invokevirtual 63, 3) := by decide +kernel
theorem dX2_gainNow_5 : decode cX2_gainNow 5 = .ok (.aload_n 0, 1) := by decide +kernel
theorem dX2_gainNow_6 : decode cX2_gainNow 6 = .ok (.getfield 19, 3) := by decide +kernel
theorem dX2_gainNow_9 : decode cX2_gainNow 9 = .ok (.aload_n 0, 1) := by decide +kernel
theorem dX2_gainNow_10 : decode cX2_gainNow 10 = .ok (.getfield 22, 3) := by decide +kernel
theorem dX2_gainNow_13 : decode cX2_gainNow 13 = .ok (.invokevirtual 150, 3) := by decide +kernel
theorem dX2_gainNow_16 : decode cX2_gainNow 16 = .ok (.lreturn, 1) := by decide +kernel
theorem dX2_memberOrThrow_0 : decode cX2_memberOrThrow 0 = .ok (.iload_n 1, 1) := by decide +kernel
theorem dX2_memberOrThrow_1 : decode cX2_memberOrThrow 1 = .ok (.ifCond .lt 12, 3) := by decide +kernel
theorem dX2_memberOrThrow_4 : decode cX2_memberOrThrow 4 = .ok (.iload_n 1, 1) := by decide +kernel
theorem dX2_memberOrThrow_5 : decode cX2_memberOrThrow 5 = .ok (.aload_n 0, 1) := by decide +kernel
theorem dX2_memberOrThrow_6 : decode cX2_memberOrThrow 6 = .ok (.getfield 11, 3) := by decide +kernel
theorem dX2_memberOrThrow_9 : decode cX2_memberOrThrow 9 = .ok (.arraylength, 1) := by decide +kernel
theorem dX2_memberOrThrow_10 : decode cX2_memberOrThrow 10 = .ok (.if_icmp .lt 13, 3) := by decide +kernel
theorem dX2_memberOrThrow_13 : decode cX2_memberOrThrow 13 = .ok (.new 117, 3) := by decide +kernel
theorem dX2_memberOrThrow_16 : decode cX2_memberOrThrow 16 = .ok (.dup, 1) := by decide +kernel
theorem dX2_memberOrThrow_17 : decode cX2_memberOrThrow 17 = .ok (.ldc 154, 2) := by decide +kernel
theorem dX2_memberOrThrow_19 : decode cX2_memberOrThrow 19 = .ok (.invokespecial 121, 3) := by decide +kernel
theorem dX2_memberOrThrow_22 : decode cX2_memberOrThrow 22 = .ok (.athrow, 1) := by decide +kernel
theorem dX2_memberOrThrow_23 : decode cX2_memberOrThrow 23 = .ok (.aload_n 0, 1) := by decide +kernel
theorem dX2_memberOrThrow_24 : decode cX2_memberOrThrow 24 = .ok (.getfield 11, 3) := by decide +kernel
theorem dX2_memberOrThrow_27 : decode cX2_memberOrThrow 27 = .ok (.iload_n 1, 1) := by decide +kernel
theorem dX2_memberOrThrow_28 : decode cX2_memberOrThrow 28 = .ok (.aaload, 1) := by decide +kernel
theorem dX2_memberOrThrow_29 : decode cX2_memberOrThrow 29 = .ok (.astore_n 2, 1) := by decide +kernel
theorem dX2_memberOrThrow_30 : decode cX2_memberOrThrow 30 = .ok (.aload_n 2, 1) := by decide +kernel
theorem dX2_memberOrThrow_31 : decode cX2_memberOrThrow 31 = .ok (.ifnonnull 13, 3) := by decide +kernel
theorem dX2_memberOrThrow_34 : decode cX2_memberOrThrow 34 = .ok (.new 117, 3) := by decide +kernel
theorem dX2_memberOrThrow_37 : decode cX2_memberOrThrow 37 = .ok (.dup, 1) := by decide +kernel
theorem dX2_memberOrThrow_38 : decode cX2_memberOrThrow 38 = .ok (.ldc 154, 2) := by decide +kernel
theorem dX2_memberOrThrow_40 : decode cX2_memberOrThrow 40 = .ok (.invokespecial 121, 3) := by decide +kernel
theorem dX2_memberOrThrow_43 : decode cX2_memberOrThrow 43 = .ok (.athrow, 1) := by decide +kernel
theorem dX2_memberOrThrow_44 : decode cX2_memberOrThrow 44 = .ok (.aload_n 2, 1) := by decide +kernel
theorem dX2_memberOrThrow_45 : decode cX2_memberOrThrow 45 = .ok (.areturn, 1) := by decide +kernel
theorem dX2_refuseBadRate_0 : decode cX2_refuseBadRate 0 = .ok (.iload_n 0, 1) := by decide +kernel
theorem dX2_refuseBadRate_1 : decode cX2_refuseBadRate 1 = .ok (.iconst 1, 1) := by decide +kernel
theorem dX2_refuseBadRate_2 : decode cX2_refuseBadRate 2 = .ok (.if_icmp .lt 9, 3) := by decide +kernel
theorem dX2_refuseBadRate_5 : decode cX2_refuseBadRate 5 = .ok (.iload_n 0, 1) := by decide +kernel
theorem dX2_refuseBadRate_6 : decode cX2_refuseBadRate 6 = .ok (.bipush 15, 2) := by decide +kernel
theorem dX2_refuseBadRate_8 : decode cX2_refuseBadRate 8 = .ok (.if_icmp .le 13, 3) := by decide +kernel
theorem dX2_refuseBadRate_11 : decode cX2_refuseBadRate 11 = .ok (.new 30, 3) := by decide +kernel
theorem dX2_refuseBadRate_14 : decode cX2_refuseBadRate 14 = .ok (.dup, 1) := by decide +kernel
theorem dX2_refuseBadRate_15 : decode cX2_refuseBadRate 15 = .ok (.ldc 156, 2) := by decide +kernel
theorem dX2_refuseBadRate_17 : decode cX2_refuseBadRate 17 = .ok (.invokespecial 34, 3) := by decide +kernel
theorem dX2_refuseBadRate_20 : decode cX2_refuseBadRate 20 = .ok (.athrow, 1) := by decide +kernel
theorem dX2_refuseBadRate_21 : decode cX2_refuseBadRate 21 = .ok (.return_, 1) := by decide +kernel
theorem dX2_refuseBadMonth_0 : decode cX2_refuseBadMonth 0 = .ok (.iload_n 0, 1) := by decide +kernel
theorem dX2_refuseBadMonth_1 : decode cX2_refuseBadMonth 1 = .ok (.ifCond .lt 9, 3) := by decide +kernel
theorem dX2_refuseBadMonth_4 : decode cX2_refuseBadMonth 4 = .ok (.iload_n 0, 1) := by decide +kernel
theorem dX2_refuseBadMonth_5 : decode cX2_refuseBadMonth 5 = .ok (.bipush 60, 2) := by decide +kernel
theorem dX2_refuseBadMonth_7 : decode cX2_refuseBadMonth 7 = .ok (.if_icmp .lt 13, 3) := by decide +kernel
theorem dX2_refuseBadMonth_10 : decode cX2_refuseBadMonth 10 = .ok (.new 117, 3) := by decide +kernel
theorem dX2_refuseBadMonth_13 : decode cX2_refuseBadMonth 13 = .ok (.dup, 1) := by decide +kernel
theorem dX2_refuseBadMonth_14 : decode cX2_refuseBadMonth 14 = .ok (.ldc 158, 2) := by decide +kernel
theorem dX2_refuseBadMonth_16 : decode cX2_refuseBadMonth 16 = .ok (.invokespecial 121, 3) := by decide +kernel
theorem dX2_refuseBadMonth_19 : decode cX2_refuseBadMonth 19 = .ok (.athrow, 1) := by decide +kernel
theorem dX2_refuseBadMonth_20 : decode cX2_refuseBadMonth 20 = .ok (.return_, 1) := by decide +kernel
theorem dX2_refuseLeft_0 : decode cX2_refuseLeft 0 = .ok (.aload_n 0, 1) := by decide +kernel
theorem dX2_refuseLeft_1 : decode cX2_refuseLeft 1 = .ok (.getfield 160, 3) := by decide +kernel
theorem dX2_refuseLeft_4 : decode cX2_refuseLeft 4 = .ok (.ifCond .eq 13, 3) := by decide +kernel
end
section
theorem dX2_refuseLeft_7 : decode cX2_refuseLeft 7 = .ok (.new 37, 3) := by decide +kernel
theorem dX2_refuseLeft_10 : decode cX2_refuseLeft 10 = .ok (.dup, 1) := by decide +kernel
theorem dX2_refuseLeft_11 : decode cX2_refuseLeft 11 = .ok (.ldc 164, 2) := by decide +kernel
theorem dX2_refuseLeft_13 : decode cX2_refuseLeft 13 = .ok (.invokespecial 41, 3) := by decide +kernel
theorem dX2_refuseLeft_16 : decode cX2_refuseLeft 16 = .ok (.athrow, 1) := by decide +kernel
theorem dX2_refuseLeft_17 : decode cX2_refuseLeft 17 = .ok (.return_, 1) := by decide +kernel
theorem dX2_isPurchaseMonth_0 : decode cX2_isPurchaseMonth 0 = .ok (.iload_n 0, 1) := by decide +kernel
theorem dX2_isPurchaseMonth_1 : decode cX2_isPurchaseMonth 1 = .ok (.bipush 6, 2) := by decide +kernel
theorem dX2_isPurchaseMonth_3 : decode cX2_isPurchaseMonth 3 = .ok (.irem, 1) := by decide +kernel
theorem dX2_isPurchaseMonth_4 : decode cX2_isPurchaseMonth 4 = .ok (.iconst 5, 1) := by decide +kernel
theorem dX2_isPurchaseMonth_5 : decode cX2_isPurchaseMonth 5 = .ok (.if_icmp .ne 7, 3) := by decide +kernel
theorem dX2_isPurchaseMonth_8 : decode cX2_isPurchaseMonth 8 = .ok (.iconst 1, 1) := by decide +kernel
theorem dX2_isPurchaseMonth_9 : decode cX2_isPurchaseMonth 9 = .ok (.goto 4, 3) := by decide +kernel
theorem dX2_isPurchaseMonth_12 : decode cX2_isPurchaseMonth 12 = .ok (.iconst 0, 1) := by decide +kernel
theorem dX2_isPurchaseMonth_13 : decode cX2_isPurchaseMonth 13 = .ok (.ireturn, 1) := by decide +kernel
theorem dX2_buyForAll_0 : decode cX2_buyForAll 0 = .ok (.iconst 0, 1) := by decide +kernel
theorem dX2_buyForAll_1 : decode cX2_buyForAll 1 = .ok (.istore_n 1, 1) := by decide +kernel
theorem dX2_buyForAll_2 : decode cX2_buyForAll 2 = .ok (.iload_n 1, 1) := by decide +kernel
theorem dX2_buyForAll_3 : decode cX2_buyForAll 3 = .ok (.aload_n 0, 1) := by decide +kernel
theorem dX2_buyForAll_4 : decode cX2_buyForAll 4 = .ok (.getfield 11, 3) := by decide +kernel
theorem dX2_buyForAll_7 : decode cX2_buyForAll 7 = .ok (.arraylength, 1) := by decide +kernel
theorem dX2_buyForAll_8 : decode cX2_buyForAll 8 = .ok (.if_icmp .ge 43, 3) := by decide +kernel
theorem dX2_buyForAll_11 : decode cX2_buyForAll 11 = .ok (.aload_n 0, 1) := by decide +kernel
theorem dX2_buyForAll_12 : decode cX2_buyForAll 12 = .ok (.getfield 11, 3) := by decide +kernel
theorem dX2_buyForAll_15 : decode cX2_buyForAll 15 = .ok (.iload_n 1, 1) := by decide +kernel
theorem dX2_buyForAll_16 : decode cX2_buyForAll 16 = .ok (.aaload, 1) := by decide +kernel
theorem dX2_buyForAll_17 : decode cX2_buyForAll 17 = .ok (.astore_n 2, 1) := by decide +kernel
theorem dX2_buyForAll_18 : decode cX2_buyForAll 18 = .ok (.aload_n 2, 1) := by decide +kernel
theorem dX2_buyForAll_19 : decode cX2_buyForAll 19 = .ok (.ifnull 26, 3) := by decide +kernel
theorem dX2_buyForAll_22 : decode cX2_buyForAll 22 = .ok (.aload_n 2, 1) := by decide +kernel
theorem dX2_buyForAll_23 : decode cX2_buyForAll 23 = .ok (.getfield 160, 3) := by decide +kernel
theorem dX2_buyForAll_26 : decode cX2_buyForAll 26 = .ok (.ifCond .ne 19, 3) := by decide +kernel
theorem dX2_buyForAll_29 : decode cX2_buyForAll 29 = .ok (.aload_n 2, 1) := by decide +kernel
theorem dX2_buyForAll_30 : decode cX2_buyForAll 30 = .ok (.aload_n 0, 1) := by decide +kernel
theorem dX2_buyForAll_31 : decode cX2_buyForAll 31 = .ok (.getfield 19, 3) := by decide +kernel
theorem dX2_buyForAll_34 : decode cX2_buyForAll 34 = .ok (.aload_n 0, 1) := by decide +kernel
theorem dX2_buyForAll_35 : decode cX2_buyForAll 35 = .ok (.getfield 22, 3) := by decide +kernel
theorem dX2_buyForAll_38 : decode cX2_buyForAll 38 = .ok (.aload_n 0, 1) := by decide +kernel
theorem dX2_buyForAll_39 : decode cX2_buyForAll 39 = .ok (.getfield 26, 3) := by decide +kernel
theorem dX2_buyForAll_42 : decode cX2_buyForAll 42 = .ok (.invokevirtual 166, 3) := by decide +kernel
theorem dX2_buyForAll_45 : decode cX2_buyForAll 45 = .ok (.iinc 1 1, 3) := by decide +kernel
theorem dX2_buyForAll_48 : decode cX2_buyForAll 48 = .ok (.goto (-46), 3) := by decide +kernel
theorem dX2_buyForAll_51 : decode cX2_buyForAll 51 = .ok (.return_, 1) := by decide +kernel
theorem dJ9_max_7cf53_0 : decode cJ9_max_7cf53 0 = .ok (.iload_n 0, 1) := by decide +kernel
theorem dJ9_max_7cf53_1 : decode cJ9_max_7cf53 1 = .ok (.iload_n 1, 1) := by decide +kernel
theorem dJ9_max_7cf53_2 : decode cJ9_max_7cf53 2 = .ok (.if_icmp .lt 7, 3) := by decide +kernel
theorem dJ9_max_7cf53_5 : decode cJ9_max_7cf53 5 = .ok (.iload_n 0, 1) := by decide +kernel
theorem dJ9_max_7cf53_6 : decode cJ9_max_7cf53 6 = .ok (.goto 4, 3) := by decide +kernel
theorem dJ9_max_7cf53_9 : decode cJ9_max_7cf53 9 = .ok (.iload_n 1, 1) := by decide +kernel
theorem dJ9_max_7cf53_10 : decode cJ9_max_7cf53 10 = .ok (.ireturn, 1) := by decide +kernel
theorem dJ9_min_7cf53_0 : decode cJ9_min_7cf53 0 = .ok (.iload_n 0, 1) := by decide +kernel
theorem dJ9_min_7cf53_1 : decode cJ9_min_7cf53 1 = .ok (.iload_n 1, 1) := by decide +kernel
theorem dJ9_min_7cf53_2 : decode cJ9_min_7cf53 2 = .ok (.if_icmp .gt 7, 3) := by decide +kernel
theorem dJ9_min_7cf53_5 : decode cJ9_min_7cf53 5 = .ok (.iload_n 0, 1) := by decide +kernel
theorem dJ9_min_7cf53_6 : decode cJ9_min_7cf53 6 = .ok (.goto 4, 3) := by decide +kernel
theorem dJ9_min_7cf53_9 : decode cJ9_min_7cf53 9 = .ok (.iload_n 1, 1) := by decide +kernel
theorem dJ9_min_7cf53_10 : decode cJ9_min_7cf53 10 = .ok (.ireturn, 1) := by decide +kernel
theorem dJ9_min_f86c9_0 : decode cJ9_min_f86c9 0 = .ok (.lload_n 0, 1) := by decide +kernel
theorem dJ9_min_f86c9_1 : decode cJ9_min_f86c9 1 = .ok (.lload_n 2, 1) := by decide +kernel
theorem dJ9_min_f86c9_2 : decode cJ9_min_f86c9 2 = .ok (.lcmp, 1) := by decide +kernel
theorem dJ9_min_f86c9_3 : decode cJ9_min_f86c9 3 = .ok (.ifCond .gt 7, 3) := by decide +kernel
theorem dJ9_min_f86c9_6 : decode cJ9_min_f86c9 6 = .ok (.lload_n 0, 1) := by decide +kernel
theorem dJ9_min_f86c9_7 : decode cJ9_min_f86c9 7 = .ok (.goto 4, 3) := by decide +kernel
theorem dJ9_min_f86c9_10 : decode cJ9_min_f86c9 10 = .ok (.lload_n 2, 1) := by decide +kernel
theorem dJ9_min_f86c9_11 : decode cJ9_min_f86c9 11 = .ok (.lreturn, 1) := by decide +kernel
theorem dL_cell_0 : decode cL_cell 0 = .ok (.iload_n 1, 1) := by decide +kernel
theorem dL_cell_1 : decode cL_cell 1 = .ok (.aload_n 0, 1) := by decide +kernel
theorem dL_cell_2 : decode cL_cell 2 = .ok (.arraylength, 1) := by decide +kernel
theorem dL_cell_3 : decode cL_cell 3 = .ok (.if_icmp .ge 9, 3) := by decide +kernel
theorem dL_cell_6 : decode cL_cell 6 = .ok (.aload_n 0, 1) := by decide +kernel
theorem dL_cell_7 : decode cL_cell 7 = .ok (.iload_n 1, 1) := by decide +kernel
theorem dL_cell_8 : decode cL_cell 8 = .ok (.iaload, 1) := by decide +kernel
theorem dL_cell_9 : decode cL_cell 9 = .ok (.goto 15, 3) := by decide +kernel
theorem dL_cell_12 : decode cL_cell 12 = .ok (.ldc2_w 7, 3) := by decide +kernel
theorem dL_cell_15 : decode cL_cell 15 = .ok (.iload_n 1, 1) := by decide +kernel
theorem dL_cell_16 : decode cL_cell 16 = .ok (.bipush 19, 2) := by decide +kernel
theorem dL_cell_18 : decode cL_cell 18 = .ok (.iadd, 1) := by decide +kernel
theorem dL_cell_19 : decode cL_cell 19 = .ok (.i2l, 1) := by decide +kernel
theorem dL_cell_20 : decode cL_cell 20 = .ok (.lmul, 1) := by decide +kernel
theorem dL_cell_21 : decode cL_cell 21 = .ok (.iconst 5, 1) := by decide +kernel
theorem dL_cell_22 : decode cL_cell 22 = .ok (.lushr, 1) := by decide +kernel
theorem dL_cell_23 : decode cL_cell 23 = .ok (.l2i, 1) := by decide +kernel
theorem dL_cell_24 : decode cL_cell 24 = .ok (.ireturn, 1) := by decide +kernel
theorem dL_some_0 : decode cL_some 0 = .ok (.iload_n 0, 1) := by decide +kernel
theorem dL_some_1 : decode cL_some 1 = .ok (.iconst 2, 1) := by decide +kernel
theorem dL_some_2 : decode cL_some 2 = .ok (.iushr, 1) := by decide +kernel
theorem dL_some_3 : decode cL_some 3 = .ok (.iload_n 1, 1) := by decide +kernel
theorem dL_some_4 : decode cL_some 4 = .ok (.irem, 1) := by decide +kernel
theorem dL_some_5 : decode cL_some 5 = .ok (.ireturn, 1) := by decide +kernel
theorem dL_counted_0 : decode cL_counted 0 = .ok (.lconst 0, 1) := by decide +kernel
theorem dL_counted_1 : decode cL_counted 1 = .ok (.lstore 5, 2) := by decide +kernel
theorem dL_counted_3 : decode cL_counted 3 = .ok (.iconst 0, 1) := by decide +kernel
theorem dL_counted_4 : decode cL_counted 4 = .ok (.istore 7, 2) := by decide +kernel
theorem dL_counted_6 : decode cL_counted 6 = .ok (.iload 7, 2) := by decide +kernel
theorem dL_counted_8 : decode cL_counted 8 = .ok (.bipush 10, 2) := by decide +kernel
theorem dL_counted_10 : decode cL_counted 10 = .ok (.if_icmp .ge 56, 3) := by decide +kernel
theorem dL_counted_13 : decode cL_counted 13 = .ok (.lload 5, 2) := by decide +kernel
theorem dL_counted_15 : decode cL_counted 15 = .ok (.bipush 6, 2) := by decide +kernel
theorem dL_counted_17 : decode cL_counted 17 = .ok (.iload 7, 2) := by decide +kernel
theorem dL_counted_19 : decode cL_counted 19 = .ok (.imul, 1) := by decide +kernel
theorem dL_counted_20 : decode cL_counted 20 = .ok (.iconst 5, 1) := by decide +kernel
theorem dL_counted_21 : decode cL_counted 21 = .ok (.iadd, 1) := by decide +kernel
theorem dL_counted_22 : decode cL_counted 22 = .ok (.bipush 12, 2) := by decide +kernel
theorem dL_counted_24 : decode cL_counted 24 = .ok (.idiv, 1) := by decide +kernel
theorem dL_counted_25 : decode cL_counted 25 = .ok (.iload 4, 2) := by decide +kernel
theorem dL_counted_27 : decode cL_counted 27 = .ok (.if_icmp .ne 29, 3) := by decide +kernel
theorem dL_counted_30 : decode cL_counted 30 = .ok (.aload_n 1, 1) := by decide +kernel
theorem dL_counted_31 : decode cL_counted 31 = .ok (.bipush 10, 2) := by decide +kernel
theorem dL_counted_33 : decode cL_counted 33 = .ok (.iload_n 3, 1) := by decide +kernel
theorem dL_counted_34 : decode cL_counted 34 = .ok (.imul, 1) := by decide +kernel
theorem dL_counted_35 : decode cL_counted 35 = .ok (.iload 7, 2) := by decide +kernel
theorem dL_counted_37 : decode cL_counted 37 = .ok (.iadd, 1) := by decide +kernel
theorem dL_counted_38 : decode cL_counted 38 = .ok (.iaload, 1) := by decide +kernel
theorem dL_counted_39 : decode cL_counted 39 = .ok (.i2l, 1) := by decide +kernel
theorem dL_counted_40 : decode cL_counted 40 = .ok (.aload_n 0, 1) := by decide +kernel
theorem dL_counted_41 : decode cL_counted 41 = .ok (.aload_n 2, 1) := by decide +kernel
theorem dL_counted_42 : decode cL_counted 42 = .ok (.bipush 10, 2) := by decide +kernel
theorem dL_counted_44 : decode cL_counted 44 = .ok (.iload_n 3, 1) := by decide +kernel
theorem dL_counted_45 : decode cL_counted 45 = .ok (.imul, 1) := by decide +kernel
theorem dL_counted_46 : decode cL_counted 46 = .ok (.iload 7, 2) := by decide +kernel
theorem dL_counted_48 : decode cL_counted 48 = .ok (.iadd, 1) := by decide +kernel
theorem dL_counted_49 : decode cL_counted 49 = .ok (.iaload, 1) := by decide +kernel
theorem dL_counted_50 : decode cL_counted 50 = .ok (.iaload, 1) := by decide +kernel
theorem dL_counted_51 : decode cL_counted 51 = .ok (.i2l, 1) := by decide +kernel
theorem dL_counted_52 : decode cL_counted 52 = .ok (.lmul, 1) := by decide +kernel
theorem dL_counted_53 : decode cL_counted 53 = .ok (.goto 4, 3) := by decide +kernel
theorem dL_counted_56 : decode cL_counted 56 = .ok (.lconst 0, 1) := by decide +kernel
theorem dL_counted_57 : decode cL_counted 57 = .ok (.ladd, 1) := by decide +kernel
theorem dL_counted_58 : decode cL_counted 58 = .ok (.lstore 5, 2) := by decide +kernel
theorem dL_counted_60 : decode cL_counted 60 = .ok (.iinc 7 1, 3) := by decide +kernel
theorem dL_counted_63 : decode cL_counted 63 = .ok (.goto (-57), 3) := by decide +kernel
theorem dL_counted_66 : decode cL_counted 66 = .ok (.lload 5, 2) := by decide +kernel
theorem dL_counted_68 : decode cL_counted 68 = .ok (.lreturn, 1) := by decide +kernel
theorem dL_buys_0 : decode cL_buys 0 = .ok (.aload_n 0, 1) := by decide +kernel
theorem dL_buys_1 : decode cL_buys 1 = .ok (.iconst 0, 1) := by decide +kernel
theorem dL_buys_2 : decode cL_buys 2 = .ok (.iaload, 1) := by decide +kernel
theorem dL_buys_3 : decode cL_buys 3 = .ok (.iconst 1, 1) := by decide +kernel
theorem dL_buys_4 : decode cL_buys 4 = .ok (.isub, 1) := by decide +kernel
theorem dL_buys_5 : decode cL_buys 5 = .ok (.istore 9, 2) := by decide +kernel
theorem dL_buys_7 : decode cL_buys 7 = .ok (.aload_n 1, 1) := by decide +kernel
theorem dL_buys_8 : decode cL_buys 8 = .ok (.aload_n 2, 1) := by decide +kernel
theorem dL_buys_9 : decode cL_buys 9 = .ok (.bipush 12, 2) := by decide +kernel
theorem dL_buys_11 : decode cL_buys 11 = .ok (.iload 8, 2) := by decide +kernel
theorem dL_buys_13 : decode cL_buys 13 = .ok (.iadd, 1) := by decide +kernel
theorem dL_buys_14 : decode cL_buys 14 = .ok (.iaload, 1) := by decide +kernel
theorem dL_buys_15 : decode cL_buys 15 = .ok (.iaload, 1) := by decide +kernel
theorem dL_buys_16 : decode cL_buys 16 = .ok (.istore 10, 2) := by decide +kernel
theorem dL_buys_18 : decode cL_buys 18 = .ok (.iconst 1, 1) := by decide +kernel
theorem dL_buys_19 : decode cL_buys 19 = .ok (.istore 11, 2) := by decide +kernel
theorem dL_buys_21 : decode cL_buys 21 = .ok (.bipush 100, 2) := by decide +kernel
theorem dL_buys_23 : decode cL_buys 23 = .ok (.iload 11, 2) := by decide +kernel
theorem dL_buys_25 : decode cL_buys 25 = .ok (.imul, 1) := by decide +kernel
theorem dL_buys_26 : decode cL_buys 26 = .ok (.bipush 85, 2) := by decide +kernel
theorem dL_buys_28 : decode cL_buys 28 = .ok (.iload 10, 2) := by decide +kernel
theorem dL_buys_30 : decode cL_buys 30 = .ok (.aload_n 1, 1) := by decide +kernel
theorem dL_buys_31 : decode cL_buys 31 = .ok (.iload 9, 2) := by decide +kernel
theorem dL_buys_33 : decode cL_buys 33 = .ok (.iaload, 1) := by decide +kernel
theorem dL_buys_34 : decode cL_buys 34 = .ok (.if_icmp .ge 8, 3) := by decide +kernel
theorem dL_buys_37 : decode cL_buys 37 = .ok (.iload 10, 2) := by decide +kernel
theorem dL_buys_39 : decode cL_buys 39 = .ok (.goto 7, 3) := by decide +kernel
theorem dL_buys_42 : decode cL_buys 42 = .ok (.aload_n 1, 1) := by decide +kernel
theorem dL_buys_43 : decode cL_buys 43 = .ok (.iload 9, 2) := by decide +kernel
theorem dL_buys_45 : decode cL_buys 45 = .ok (.iaload, 1) := by decide +kernel
theorem dL_buys_46 : decode cL_buys 46 = .ok (.imul, 1) := by decide +kernel
theorem dL_buys_47 : decode cL_buys 47 = .ok (.if_icmp .ge 9, 3) := by decide +kernel
theorem dL_buys_50 : decode cL_buys 50 = .ok (.iinc 11 1, 3) := by decide +kernel
theorem dL_buys_53 : decode cL_buys 53 = .ok (.goto (-32), 3) := by decide +kernel
theorem dL_buys_56 : decode cL_buys 56 = .ok (.bipush 10, 2) := by decide +kernel
theorem dL_buys_58 : decode cL_buys 58 = .ok (.iload 8, 2) := by decide +kernel
theorem dL_buys_60 : decode cL_buys 60 = .ok (.imul, 1) := by decide +kernel
theorem dL_buys_61 : decode cL_buys 61 = .ok (.iload 9, 2) := by decide +kernel
theorem dL_buys_63 : decode cL_buys 63 = .ok (.bipush 6, 2) := by decide +kernel
theorem dL_buys_65 : decode cL_buys 65 = .ok (.idiv, 1) := by decide +kernel
theorem dL_buys_66 : decode cL_buys 66 = .ok (.iadd, 1) := by decide +kernel
theorem dL_buys_67 : decode cL_buys 67 = .ok (.istore 12, 2) := by decide +kernel
theorem dL_buys_69 : decode cL_buys 69 = .ok (.aload 6, 2) := by decide +kernel
theorem dL_buys_71 : decode cL_buys 71 = .ok (.iload 12, 2) := by decide +kernel
theorem dL_buys_73 : decode cL_buys 73 = .ok (.aload_n 2, 1) := by decide +kernel
theorem dL_buys_74 : decode cL_buys 74 = .ok (.bipush 12, 2) := by decide +kernel
theorem dL_buys_76 : decode cL_buys 76 = .ok (.iload 8, 2) := by decide +kernel
theorem dL_buys_78 : decode cL_buys 78 = .ok (.iadd, 1) := by decide +kernel
theorem dL_buys_79 : decode cL_buys 79 = .ok (.iaload, 1) := by decide +kernel
theorem dL_buys_80 : decode cL_buys 80 = .ok (.iastore, 1) := by decide +kernel
theorem dL_buys_81 : decode cL_buys 81 = .ok (.aload_n 1, 1) := by decide +kernel
theorem dL_buys_82 : decode cL_buys 82 = .ok (.aload_n 3, 1) := by decide +kernel
theorem dL_buys_83 : decode cL_buys 83 = .ok (.aload 6, 2) := by decide +kernel
theorem dL_buys_85 : decode cL_buys 85 = .ok (.iload 8, 2) := by decide +kernel
theorem dL_buys_87 : decode cL_buys 87 = .ok (.iload 9, 2) := by decide +kernel
theorem dL_buys_89 : decode cL_buys 89 = .ok (.bipush 12, 2) := by decide +kernel
theorem dL_buys_91 : decode cL_buys 91 = .ok (.idiv, 1) := by decide +kernel
theorem dL_buys_92 : decode cL_buys 92 = .ok (.invokestatic 9, 3) := by decide +kernel
theorem dL_buys_95 : decode cL_buys 95 = .ok (.lstore 13, 2) := by decide +kernel
theorem dL_buys_97 : decode cL_buys 97 = .ok (.ldc 15, 2) := by decide +kernel
theorem dL_buys_99 : decode cL_buys 99 = .ok (.istore 15, 2) := by decide +kernel
theorem dL_buys_101 : decode cL_buys 101 = .ok (.iload 15, 2) := by decide +kernel
theorem dL_buys_103 : decode cL_buys 103 = .ok (.ifCond .le 106, 3) := by decide +kernel
theorem dL_buys_106 : decode cL_buys 106 = .ok (.aload_n 2, 1) := by decide +kernel
theorem dL_buys_107 : decode cL_buys 107 = .ok (.bipush 8, 2) := by decide +kernel
theorem dL_buys_109 : decode cL_buys 109 = .ok (.iload 8, 2) := by decide +kernel
theorem dL_buys_111 : decode cL_buys 111 = .ok (.iadd, 1) := by decide +kernel
theorem dL_buys_112 : decode cL_buys 112 = .ok (.iaload, 1) := by decide +kernel
theorem dL_buys_113 : decode cL_buys 113 = .ok (.i2l, 1) := by decide +kernel
theorem dL_buys_114 : decode cL_buys 114 = .ok (.iload 15, 2) := by decide +kernel
theorem dL_buys_116 : decode cL_buys 116 = .ok (.i2l, 1) := by decide +kernel
theorem dL_buys_117 : decode cL_buys 117 = .ok (.iload 11, 2) := by decide +kernel
theorem dL_buys_119 : decode cL_buys 119 = .ok (.i2l, 1) := by decide +kernel
theorem dL_buys_120 : decode cL_buys 120 = .ok (.lmul, 1) := by decide +kernel
theorem dL_buys_121 : decode cL_buys 121 = .ok (.lcmp, 1) := by decide +kernel
theorem dL_buys_122 : decode cL_buys 122 = .ok (.ifCond .lt 77, 3) := by decide +kernel
theorem dL_buys_125 : decode cL_buys 125 = .ok (.lload 13, 2) := by decide +kernel
theorem dL_buys_127 : decode cL_buys 127 = .ok (.iload 15, 2) := by decide +kernel
theorem dL_buys_129 : decode cL_buys 129 = .ok (.i2l, 1) := by decide +kernel
theorem dL_buys_130 : decode cL_buys 130 = .ok (.iload 10, 2) := by decide +kernel
theorem dL_buys_132 : decode cL_buys 132 = .ok (.i2l, 1) := by decide +kernel
theorem dL_buys_133 : decode cL_buys 133 = .ok (.lmul, 1) := by decide +kernel
theorem dL_buys_134 : decode cL_buys 134 = .ok (.ladd, 1) := by decide +kernel
theorem dL_buys_135 : decode cL_buys 135 = .ok (.aload_n 0, 1) := by decide +kernel
theorem dL_buys_136 : decode cL_buys 136 = .ok (.iconst 2, 1) := by decide +kernel
theorem dL_buys_137 : decode cL_buys 137 = .ok (.iaload, 1) := by decide +kernel
theorem dL_buys_138 : decode cL_buys 138 = .ok (.i2l, 1) := by decide +kernel
theorem dL_buys_139 : decode cL_buys 139 = .ok (.lcmp, 1) := by decide +kernel
theorem dL_buys_140 : decode cL_buys 140 = .ok (.ifCond .gt 59, 3) := by decide +kernel
theorem dL_buys_143 : decode cL_buys 143 = .ok (.aload_n 2, 1) := by decide +kernel
theorem dL_buys_144 : decode cL_buys 144 = .ok (.bipush 8, 2) := by decide +kernel
theorem dL_buys_146 : decode cL_buys 146 = .ok (.iload 8, 2) := by decide +kernel
theorem dL_buys_148 : decode cL_buys 148 = .ok (.iadd, 1) := by decide +kernel
theorem dL_buys_149 : decode cL_buys 149 = .ok (.dup2, 1) := by decide +kernel
theorem dL_buys_150 : decode cL_buys 150 = .ok (.iaload, 1) := by decide +kernel
theorem dL_buys_151 : decode cL_buys 151 = .ok (.iload 15, 2) := by decide +kernel
theorem dL_buys_153 : decode cL_buys 153 = .ok (.iload 11, 2) := by decide +kernel
theorem dL_buys_155 : decode cL_buys 155 = .ok (.imul, 1) := by decide +kernel
theorem dL_buys_156 : decode cL_buys 156 = .ok (.isub, 1) := by decide +kernel
theorem dL_buys_157 : decode cL_buys 157 = .ok (.iastore, 1) := by decide +kernel
theorem dL_buys_158 : decode cL_buys 158 = .ok (.aload 7, 2) := by decide +kernel
theorem dL_buys_160 : decode cL_buys 160 = .ok (.iconst 4, 1) := by decide +kernel
theorem dL_buys_161 : decode cL_buys 161 = .ok (.iload 8, 2) := by decide +kernel
theorem dL_buys_163 : decode cL_buys 163 = .ok (.iadd, 1) := by decide +kernel
theorem dL_buys_164 : decode cL_buys 164 = .ok (.dup2, 1) := by decide +kernel
theorem dL_buys_165 : decode cL_buys 165 = .ok (.laload, 1) := by decide +kernel
theorem dL_buys_166 : decode cL_buys 166 = .ok (.iload 15, 2) := by decide +kernel
theorem dL_buys_168 : decode cL_buys 168 = .ok (.i2l, 1) := by decide +kernel
theorem dL_buys_169 : decode cL_buys 169 = .ok (.iload 11, 2) := by decide +kernel
theorem dL_buys_171 : decode cL_buys 171 = .ok (.i2l, 1) := by decide +kernel
theorem dL_buys_172 : decode cL_buys 172 = .ok (.lmul, 1) := by decide +kernel
theorem dL_buys_173 : decode cL_buys 173 = .ok (.ladd, 1) := by decide +kernel
theorem dL_buys_174 : decode cL_buys 174 = .ok (.lastore, 1) := by decide +kernel
theorem dL_buys_175 : decode cL_buys 175 = .ok (.lload 13, 2) := by decide +kernel
theorem dL_buys_177 : decode cL_buys 177 = .ok (.iload 15, 2) := by decide +kernel
theorem dL_buys_179 : decode cL_buys 179 = .ok (.i2l, 1) := by decide +kernel
theorem dL_buys_180 : decode cL_buys 180 = .ok (.iload 10, 2) := by decide +kernel
theorem dL_buys_182 : decode cL_buys 182 = .ok (.i2l, 1) := by decide +kernel
theorem dL_buys_183 : decode cL_buys 183 = .ok (.lmul, 1) := by decide +kernel
theorem dL_buys_184 : decode cL_buys 184 = .ok (.ladd, 1) := by decide +kernel
theorem dL_buys_185 : decode cL_buys 185 = .ok (.lstore 13, 2) := by decide +kernel
theorem dL_buys_187 : decode cL_buys 187 = .ok (.aload_n 3, 1) := by decide +kernel
theorem dL_buys_188 : decode cL_buys 188 = .ok (.iload 12, 2) := by decide +kernel
theorem dL_buys_190 : decode cL_buys 190 = .ok (.dup2, 1) := by decide +kernel
theorem dL_buys_191 : decode cL_buys 191 = .ok (.iaload, 1) := by decide +kernel
theorem dL_buys_192 : decode cL_buys 192 = .ok (.iload 15, 2) := by decide +kernel
theorem dL_buys_194 : decode cL_buys 194 = .ok (.iadd, 1) := by decide +kernel
theorem dL_buys_195 : decode cL_buys 195 = .ok (.iastore, 1) := by decide +kernel
theorem dL_buys_196 : decode cL_buys 196 = .ok (.goto (-90), 3) := by decide +kernel
theorem dL_buys_199 : decode cL_buys 199 = .ok (.iload 15, 2) := by decide +kernel
theorem dL_buys_201 : decode cL_buys 201 = .ok (.bipush 10, 2) := by decide +kernel
theorem dL_buys_203 : decode cL_buys 203 = .ok (.idiv, 1) := by decide +kernel
theorem dL_buys_204 : decode cL_buys 204 = .ok (.istore 15, 2) := by decide +kernel
theorem dL_buys_206 : decode cL_buys 206 = .ok (.goto (-105), 3) := by decide +kernel
theorem dL_buys_209 : decode cL_buys 209 = .ok (.aload 4, 2) := by decide +kernel
theorem dL_buys_211 : decode cL_buys 211 = .ok (.iload 12, 2) := by decide +kernel
theorem dL_buys_213 : decode cL_buys 213 = .ok (.aload_n 3, 1) := by decide +kernel
theorem dL_buys_214 : decode cL_buys 214 = .ok (.iload 12, 2) := by decide +kernel
theorem dL_buys_216 : decode cL_buys 216 = .ok (.iaload, 1) := by decide +kernel
theorem dL_buys_217 : decode cL_buys 217 = .ok (.iastore, 1) := by decide +kernel
theorem dL_buys_218 : decode cL_buys 218 = .ok (.aload 5, 2) := by decide +kernel
theorem dL_buys_220 : decode cL_buys 220 = .ok (.iload 12, 2) := by decide +kernel
theorem dL_buys_222 : decode cL_buys 222 = .ok (.iload 11, 2) := by decide +kernel
theorem dL_buys_224 : decode cL_buys 224 = .ok (.iastore, 1) := by decide +kernel
theorem dL_buys_225 : decode cL_buys 225 = .ok (.aload_n 2, 1) := by decide +kernel
theorem dL_buys_226 : decode cL_buys 226 = .ok (.bipush 16, 2) := by decide +kernel
theorem dL_buys_228 : decode cL_buys 228 = .ok (.iload 8, 2) := by decide +kernel
theorem dL_buys_230 : decode cL_buys 230 = .ok (.iadd, 1) := by decide +kernel
theorem dL_buys_231 : decode cL_buys 231 = .ok (.dup2, 1) := by decide +kernel
theorem dL_buys_232 : decode cL_buys 232 = .ok (.iaload, 1) := by decide +kernel
theorem dL_buys_233 : decode cL_buys 233 = .ok (.iconst 1, 1) := by decide +kernel
theorem dL_buys_234 : decode cL_buys 234 = .ok (.iadd, 1) := by decide +kernel
theorem dL_buys_235 : decode cL_buys 235 = .ok (.iastore, 1) := by decide +kernel
theorem dL_buys_236 : decode cL_buys 236 = .ok (.aload_n 1, 1) := by decide +kernel
theorem dL_buys_237 : decode cL_buys 237 = .ok (.iload 9, 2) := by decide +kernel
theorem dL_buys_239 : decode cL_buys 239 = .ok (.iaload, 1) := by decide +kernel
theorem dL_buys_240 : decode cL_buys 240 = .ok (.iload 10, 2) := by decide +kernel
theorem dL_buys_242 : decode cL_buys 242 = .ok (.if_icmp .ge 7, 3) := by decide +kernel
theorem dL_buys_245 : decode cL_buys 245 = .ok (.iconst 1, 1) := by decide +kernel
theorem dL_buys_246 : decode cL_buys 246 = .ok (.goto 4, 3) := by decide +kernel
theorem dL_buys_249 : decode cL_buys 249 = .ok (.iconst 0, 1) := by decide +kernel
theorem dL_buys_250 : decode cL_buys 250 = .ok (.istore 15, 2) := by decide +kernel
theorem dL_buys_252 : decode cL_buys 252 = .ok (.iload 15, 2) := by decide +kernel
theorem dL_buys_254 : decode cL_buys 254 = .ok (.ifCond .ne 14, 3) := by decide +kernel
theorem dL_buys_257 : decode cL_buys 257 = .ok (.aload_n 2, 1) := by decide +kernel
theorem dL_buys_258 : decode cL_buys 258 = .ok (.bipush 16, 2) := by decide +kernel
theorem dL_buys_260 : decode cL_buys 260 = .ok (.iload 8, 2) := by decide +kernel
theorem dL_buys_262 : decode cL_buys 262 = .ok (.iadd, 1) := by decide +kernel
theorem dL_buys_263 : decode cL_buys 263 = .ok (.iaload, 1) := by decide +kernel
theorem dL_buys_264 : decode cL_buys 264 = .ok (.iconst 3, 1) := by decide +kernel
theorem dL_buys_265 : decode cL_buys 265 = .ok (.if_icmp .le 40, 3) := by decide +kernel
theorem dL_buys_268 : decode cL_buys 268 = .ok (.aload_n 2, 1) := by decide +kernel
theorem dL_buys_269 : decode cL_buys 269 = .ok (.bipush 20, 2) := by decide +kernel
theorem dL_buys_271 : decode cL_buys 271 = .ok (.iload 8, 2) := by decide +kernel
theorem dL_buys_273 : decode cL_buys 273 = .ok (.iadd, 1) := by decide +kernel
theorem dL_buys_274 : decode cL_buys 274 = .ok (.dup2, 1) := by decide +kernel
theorem dL_buys_275 : decode cL_buys 275 = .ok (.iaload, 1) := by decide +kernel
theorem dL_buys_276 : decode cL_buys 276 = .ok (.iload 15, 2) := by decide +kernel
theorem dL_buys_278 : decode cL_buys 278 = .ok (.ifCond .eq 7, 3) := by decide +kernel
theorem dL_buys_281 : decode cL_buys 281 = .ok (.iconst 1, 1) := by decide +kernel
theorem dL_buys_282 : decode cL_buys 282 = .ok (.goto 4, 3) := by decide +kernel
theorem dL_buys_285 : decode cL_buys 285 = .ok (.iconst 0, 1) := by decide +kernel
theorem dL_buys_286 : decode cL_buys 286 = .ok (.iadd, 1) := by decide +kernel
theorem dL_buys_287 : decode cL_buys 287 = .ok (.iastore, 1) := by decide +kernel
theorem dL_buys_288 : decode cL_buys 288 = .ok (.aload_n 2, 1) := by decide +kernel
theorem dL_buys_289 : decode cL_buys 289 = .ok (.bipush 12, 2) := by decide +kernel
theorem dL_buys_291 : decode cL_buys 291 = .ok (.iload 8, 2) := by decide +kernel
theorem dL_buys_293 : decode cL_buys 293 = .ok (.iadd, 1) := by decide +kernel
theorem dL_buys_294 : decode cL_buys 294 = .ok (.iload 9, 2) := by decide +kernel
theorem dL_buys_296 : decode cL_buys 296 = .ok (.iastore, 1) := by decide +kernel
theorem dL_buys_297 : decode cL_buys 297 = .ok (.aload_n 2, 1) := by decide +kernel
theorem dL_buys_298 : decode cL_buys 298 = .ok (.bipush 16, 2) := by decide +kernel
theorem dL_buys_300 : decode cL_buys 300 = .ok (.iload 8, 2) := by decide +kernel
theorem dL_buys_302 : decode cL_buys 302 = .ok (.iadd, 1) := by decide +kernel
theorem dL_buys_303 : decode cL_buys 303 = .ok (.iconst 0, 1) := by decide +kernel
theorem dL_buys_304 : decode cL_buys 304 = .ok (.iastore, 1) := by decide +kernel
theorem dL_buys_305 : decode cL_buys 305 = .ok (.return_, 1) := by decide +kernel
theorem dL_isEarly_0 : decode cL_isEarly 0 = .ok (.aload_n 0, 1) := by decide +kernel
theorem dL_isEarly_1 : decode cL_isEarly 1 = .ok (.iconst 0, 1) := by decide +kernel
theorem dL_isEarly_2 : decode cL_isEarly 2 = .ok (.iaload, 1) := by decide +kernel
theorem dL_isEarly_3 : decode cL_isEarly 3 = .ok (.iconst 1, 1) := by decide +kernel
theorem dL_isEarly_4 : decode cL_isEarly 4 = .ok (.isub, 1) := by decide +kernel
theorem dL_isEarly_5 : decode cL_isEarly 5 = .ok (.istore_n 3, 1) := by decide +kernel
theorem dL_isEarly_6 : decode cL_isEarly 6 = .ok (.iload_n 3, 1) := by decide +kernel
theorem dL_isEarly_7 : decode cL_isEarly 7 = .ok (.aload_n 1, 1) := by decide +kernel
theorem dL_isEarly_8 : decode cL_isEarly 8 = .ok (.iload_n 2, 1) := by decide +kernel
theorem dL_isEarly_9 : decode cL_isEarly 9 = .ok (.iaload, 1) := by decide +kernel
theorem dL_isEarly_10 : decode cL_isEarly 10 = .ok (.bipush 24, 2) := by decide +kernel
theorem dL_isEarly_12 : decode cL_isEarly 12 = .ok (.iadd, 1) := by decide +kernel
theorem dL_isEarly_13 : decode cL_isEarly 13 = .ok (.if_icmp .lt 19, 3) := by decide +kernel
theorem dL_isEarly_16 : decode cL_isEarly 16 = .ok (.iload_n 3, 1) := by decide +kernel
theorem dL_isEarly_17 : decode cL_isEarly 17 = .ok (.bipush 6, 2) := by decide +kernel
theorem dL_isEarly_19 : decode cL_isEarly 19 = .ok (.iload_n 2, 1) := by decide +kernel
theorem dL_isEarly_20 : decode cL_isEarly 20 = .ok (.bipush 10, 2) := by decide +kernel
theorem dL_isEarly_22 : decode cL_isEarly 22 = .ok (.irem, 1) := by decide +kernel
theorem dL_isEarly_23 : decode cL_isEarly 23 = .ok (.imul, 1) := by decide +kernel
theorem dL_isEarly_24 : decode cL_isEarly 24 = .ok (.iconst 5, 1) := by decide +kernel
theorem dL_isEarly_25 : decode cL_isEarly 25 = .ok (.iadd, 1) := by decide +kernel
theorem dL_isEarly_26 : decode cL_isEarly 26 = .ok (.bipush 12, 2) := by decide +kernel
theorem dL_isEarly_28 : decode cL_isEarly 28 = .ok (.iadd, 1) := by decide +kernel
theorem dL_isEarly_29 : decode cL_isEarly 29 = .ok (.if_icmp .ge 7, 3) := by decide +kernel
theorem dL_isEarly_32 : decode cL_isEarly 32 = .ok (.iconst 1, 1) := by decide +kernel
theorem dL_isEarly_33 : decode cL_isEarly 33 = .ok (.goto 4, 3) := by decide +kernel
theorem dL_isEarly_36 : decode cL_isEarly 36 = .ok (.iconst 0, 1) := by decide +kernel
theorem dL_isEarly_37 : decode cL_isEarly 37 = .ok (.ireturn, 1) := by decide +kernel
theorem dL_payEach_0 : decode cL_payEach 0 = .ok (.aload_n 1, 1) := by decide +kernel
theorem dL_payEach_1 : decode cL_payEach 1 = .ok (.aload_n 0, 1) := by decide +kernel
theorem dL_payEach_2 : decode cL_payEach 2 = .ok (.iconst 0, 1) := by decide +kernel
theorem dL_payEach_3 : decode cL_payEach 3 = .ok (.iaload, 1) := by decide +kernel
theorem dL_payEach_4 : decode cL_payEach 4 = .ok (.iconst 1, 1) := by decide +kernel
theorem dL_payEach_5 : decode cL_payEach 5 = .ok (.isub, 1) := by decide +kernel
theorem dL_payEach_6 : decode cL_payEach 6 = .ok (.iaload, 1) := by decide +kernel
theorem dL_payEach_7 : decode cL_payEach 7 = .ok (.aload_n 2, 1) := by decide +kernel
theorem dL_payEach_8 : decode cL_payEach 8 = .ok (.iload 4, 2) := by decide +kernel
theorem dL_payEach_10 : decode cL_payEach 10 = .ok (.iaload, 1) := by decide +kernel
theorem dL_payEach_11 : decode cL_payEach 11 = .ok (.isub, 1) := by decide +kernel
theorem dL_payEach_12 : decode cL_payEach 12 = .ok (.istore 5, 2) := by decide +kernel
theorem dL_payEach_14 : decode cL_payEach 14 = .ok (.aload_n 0, 1) := by decide +kernel
theorem dL_payEach_15 : decode cL_payEach 15 = .ok (.aload_n 3, 1) := by decide +kernel
theorem dL_payEach_16 : decode cL_payEach 16 = .ok (.iload 4, 2) := by decide +kernel
theorem dL_payEach_18 : decode cL_payEach 18 = .ok (.invokestatic 16, 3) := by decide +kernel
theorem dL_payEach_21 : decode cL_payEach 21 = .ok (.ifCond .eq 21, 3) := by decide +kernel
theorem dL_payEach_24 : decode cL_payEach 24 = .ok (.aload_n 1, 1) := by decide +kernel
theorem dL_payEach_25 : decode cL_payEach 25 = .ok (.bipush 6, 2) := by decide +kernel
theorem dL_payEach_27 : decode cL_payEach 27 = .ok (.iload 4, 2) := by decide +kernel
theorem dL_payEach_29 : decode cL_payEach 29 = .ok (.bipush 10, 2) := by decide +kernel
theorem dL_payEach_31 : decode cL_payEach 31 = .ok (.irem, 1) := by decide +kernel
theorem dL_payEach_32 : decode cL_payEach 32 = .ok (.imul, 1) := by decide +kernel
theorem dL_payEach_33 : decode cL_payEach 33 = .ok (.iconst 5, 1) := by decide +kernel
theorem dL_payEach_34 : decode cL_payEach 34 = .ok (.iadd, 1) := by decide +kernel
theorem dL_payEach_35 : decode cL_payEach 35 = .ok (.iaload, 1) := by decide +kernel
theorem dL_payEach_36 : decode cL_payEach 36 = .ok (.aload_n 2, 1) := by decide +kernel
theorem dL_payEach_37 : decode cL_payEach 37 = .ok (.iload 4, 2) := by decide +kernel
theorem dL_payEach_39 : decode cL_payEach 39 = .ok (.iaload, 1) := by decide +kernel
theorem dL_payEach_40 : decode cL_payEach 40 = .ok (.isub, 1) := by decide +kernel
theorem dL_payEach_41 : decode cL_payEach 41 = .ok (.ireturn, 1) := by decide +kernel
theorem dL_payEach_42 : decode cL_payEach 42 = .ok (.bipush 15, 2) := by decide +kernel
theorem dL_payEach_44 : decode cL_payEach 44 = .ok (.aload_n 1, 1) := by decide +kernel
theorem dL_payEach_45 : decode cL_payEach 45 = .ok (.aload_n 3, 1) := by decide +kernel
theorem dL_payEach_46 : decode cL_payEach 46 = .ok (.iload 4, 2) := by decide +kernel
theorem dL_payEach_48 : decode cL_payEach 48 = .ok (.iaload, 1) := by decide +kernel
theorem dL_payEach_49 : decode cL_payEach 49 = .ok (.iaload, 1) := by decide +kernel
theorem dL_payEach_50 : decode cL_payEach 50 = .ok (.imul, 1) := by decide +kernel
theorem dL_payEach_51 : decode cL_payEach 51 = .ok (.bipush 100, 2) := by decide +kernel
theorem dL_payEach_53 : decode cL_payEach 53 = .ok (.idiv, 1) := by decide +kernel
theorem dL_payEach_54 : decode cL_payEach 54 = .ok (.istore 6, 2) := by decide +kernel
theorem dL_payEach_56 : decode cL_payEach 56 = .ok (.iload 5, 2) := by decide +kernel
theorem dL_payEach_58 : decode cL_payEach 58 = .ok (.ifCond .gt 7, 3) := by decide +kernel
theorem dL_payEach_61 : decode cL_payEach 61 = .ok (.iconst 0, 1) := by decide +kernel
theorem dL_payEach_62 : decode cL_payEach 62 = .ok (.goto 17, 3) := by decide +kernel
theorem dL_payEach_65 : decode cL_payEach 65 = .ok (.iload 5, 2) := by decide +kernel
theorem dL_payEach_67 : decode cL_payEach 67 = .ok (.iload 6, 2) := by decide +kernel
theorem dL_payEach_69 : decode cL_payEach 69 = .ok (.if_icmp .ge 8, 3) := by decide +kernel
theorem dL_payEach_72 : decode cL_payEach 72 = .ok (.iload 5, 2) := by decide +kernel
theorem dL_payEach_74 : decode cL_payEach 74 = .ok (.goto 5, 3) := by decide +kernel
theorem dL_payEach_77 : decode cL_payEach 77 = .ok (.iload 6, 2) := by decide +kernel
theorem dL_payEach_79 : decode cL_payEach 79 = .ok (.ireturn, 1) := by decide +kernel
theorem dL_begun_0 : decode cL_begun 0 = .ok (.aload_n 0, 1) := by decide +kernel
theorem dL_begun_1 : decode cL_begun 1 = .ok (.iload_n 1, 1) := by decide +kernel
theorem dL_begun_2 : decode cL_begun 2 = .ok (.invokevirtual 20, 3) := by decide +kernel
theorem dL_begun_5 : decode cL_begun 5 = .ok (.ireturn, 1) := by decide +kernel
theorem dL_begun_6 : decode cL_begun 6 = .ok (.astore_n 2, 1) := by decide +kernel
theorem dL_begun_7 : decode cL_begun 7 = .ok (.bipush (-101), 2) := by decide +kernel
theorem dL_begun_9 : decode cL_begun 9 = .ok (.ireturn, 1) := by decide +kernel
theorem dL_begun_10 : decode cL_begun 10 = .ok (.astore_n 2, 1) := by decide +kernel
theorem dL_begun_11 : decode cL_begun 11 = .ok (.bipush (-102), 2) := by decide +kernel
theorem dL_begun_13 : decode cL_begun 13 = .ok (.ireturn, 1) := by decide +kernel
theorem dL_set_0 : decode cL_set 0 = .ok (.iload_n 1, 1) := by decide +kernel
theorem dL_set_1 : decode cL_set 1 = .ok (.ifCond .ne 11, 3) := by decide +kernel
theorem dL_set_4 : decode cL_set 4 = .ok (.aload_n 0, 1) := by decide +kernel
theorem dL_set_5 : decode cL_set 5 = .ok (.iload_n 2, 1) := by decide +kernel
theorem dL_set_6 : decode cL_set 6 = .ok (.invokevirtual 30, 3) := by decide +kernel
theorem dL_set_9 : decode cL_set 9 = .ok (.goto 8, 3) := by decide +kernel
theorem dL_set_12 : decode cL_set 12 = .ok (.aload_n 0, 1) := by decide +kernel
theorem dL_set_13 : decode cL_set 13 = .ok (.iload_n 2, 1) := by decide +kernel
theorem dL_set_14 : decode cL_set 14 = .ok (.invokevirtual 33, 3) := by decide +kernel
theorem dL_set_17 : decode cL_set 17 = .ok (.ireturn, 1) := by decide +kernel
theorem dL_set_18 : decode cL_set 18 = .ok (.astore_n 3, 1) := by decide +kernel
theorem dL_set_19 : decode cL_set 19 = .ok (.bipush (-101), 2) := by decide +kernel
theorem dL_set_21 : decode cL_set 21 = .ok (.ireturn, 1) := by decide +kernel
theorem dL_set_22 : decode cL_set 22 = .ok (.astore_n 3, 1) := by decide +kernel
theorem dL_set_23 : decode cL_set 23 = .ok (.bipush (-102), 2) := by decide +kernel
theorem dL_set_25 : decode cL_set 25 = .ok (.ireturn, 1) := by decide +kernel
theorem dL_act_0 : decode cL_act 0 = .ok (.iload_n 1, 1) := by decide +kernel
theorem dL_act_1 : decode cL_act 1 = .ok (.ifCond .ne 12, 3) := by decide +kernel
theorem dL_act_4 : decode cL_act 4 = .ok (.aload_n 0, 1) := by decide +kernel
theorem dL_act_5 : decode cL_act 5 = .ok (.iload_n 2, 1) := by decide +kernel
theorem dL_act_6 : decode cL_act 6 = .ok (.iload_n 3, 1) := by decide +kernel
theorem dL_act_7 : decode cL_act 7 = .ok (.invokevirtual 36, 3) := by decide +kernel
theorem dL_act_10 : decode cL_act 10 = .ok (.goto 23, 3) := by decide +kernel
theorem dL_act_13 : decode cL_act 13 = .ok (.iload_n 1, 1) := by decide +kernel
theorem dL_act_14 : decode cL_act 14 = .ok (.iconst 1, 1) := by decide +kernel
theorem dL_act_15 : decode cL_act 15 = .ok (.if_icmp .ne 12, 3) := by decide +kernel
theorem dL_act_18 : decode cL_act 18 = .ok (.aload_n 0, 1) := by decide +kernel
theorem dL_act_19 : decode cL_act 19 = .ok (.iload_n 2, 1) := by decide +kernel
theorem dL_act_20 : decode cL_act 20 = .ok (.iload_n 3, 1) := by decide +kernel
theorem dL_act_21 : decode cL_act 21 = .ok (.invokevirtual 40, 3) := by decide +kernel
theorem dL_act_24 : decode cL_act 24 = .ok (.goto 9, 3) := by decide +kernel
theorem dL_act_27 : decode cL_act 27 = .ok (.aload_n 0, 1) := by decide +kernel
theorem dL_act_28 : decode cL_act 28 = .ok (.iload_n 2, 1) := by decide +kernel
theorem dL_act_29 : decode cL_act 29 = .ok (.iload_n 3, 1) := by decide +kernel
theorem dL_act_30 : decode cL_act 30 = .ok (.invokevirtual 43, 3) := by decide +kernel
theorem dL_act_33 : decode cL_act 33 = .ok (.ireturn, 1) := by decide +kernel
theorem dL_act_34 : decode cL_act 34 = .ok (.astore 4, 2) := by decide +kernel
theorem dL_act_36 : decode cL_act 36 = .ok (.bipush (-101), 2) := by decide +kernel
theorem dL_act_38 : decode cL_act 38 = .ok (.ireturn, 1) := by decide +kernel
theorem dL_act_39 : decode cL_act 39 = .ok (.astore 4, 2) := by decide +kernel
theorem dL_act_41 : decode cL_act 41 = .ok (.bipush (-102), 2) := by decide +kernel
theorem dL_act_43 : decode cL_act 43 = .ok (.ireturn, 1) := by decide +kernel
theorem dL_act_44 : decode cL_act 44 = .ok (.astore 4, 2) := by decide +kernel
theorem dL_act_46 : decode cL_act 46 = .ok (.bipush (-103), 2) := by decide +kernel
theorem dL_act_48 : decode cL_act 48 = .ok (.ireturn, 1) := by decide +kernel
theorem dL_leaves_0 : decode cL_leaves 0 = .ok (.aload_n 0, 1) := by decide +kernel
theorem dL_leaves_1 : decode cL_leaves 1 = .ok (.iload_n 1, 1) := by decide +kernel
theorem dL_leaves_2 : decode cL_leaves 2 = .ok (.invokevirtual 48, 3) := by decide +kernel
theorem dL_leaves_5 : decode cL_leaves 5 = .ok (.ireturn, 1) := by decide +kernel
theorem dL_leaves_6 : decode cL_leaves 6 = .ok (.astore_n 2, 1) := by decide +kernel
theorem dL_leaves_7 : decode cL_leaves 7 = .ok (.bipush (-101), 2) := by decide +kernel
theorem dL_leaves_9 : decode cL_leaves 9 = .ok (.ireturn, 1) := by decide +kernel
theorem dL_leaves_10 : decode cL_leaves 10 = .ok (.astore_n 2, 1) := by decide +kernel
theorem dL_leaves_11 : decode cL_leaves 11 = .ok (.bipush (-102), 2) := by decide +kernel
theorem dL_leaves_13 : decode cL_leaves 13 = .ok (.ireturn, 1) := by decide +kernel
theorem dL_of_0 : decode cL_of 0 = .ok (.iload_n 1, 1) := by decide +kernel
theorem dL_of_1 : decode cL_of 1 = .ok (.ifCond .ne 11, 3) := by decide +kernel
theorem dL_of_4 : decode cL_of 4 = .ok (.aload_n 0, 1) := by decide +kernel
theorem dL_of_5 : decode cL_of 5 = .ok (.iload_n 2, 1) := by decide +kernel
theorem dL_of_6 : decode cL_of 6 = .ok (.invokevirtual 51, 3) := by decide +kernel
theorem dL_of_9 : decode cL_of 9 = .ok (.goto 75, 3) := by decide +kernel
theorem dL_of_12 : decode cL_of 12 = .ok (.iload_n 1, 1) := by decide +kernel
theorem dL_of_13 : decode cL_of 13 = .ok (.iconst 1, 1) := by decide +kernel
theorem dL_of_14 : decode cL_of 14 = .ok (.if_icmp .ne 11, 3) := by decide +kernel
theorem dL_of_17 : decode cL_of 17 = .ok (.aload_n 0, 1) := by decide +kernel
theorem dL_of_18 : decode cL_of 18 = .ok (.iload_n 2, 1) := by decide +kernel
theorem dL_of_19 : decode cL_of 19 = .ok (.invokevirtual 54, 3) := by decide +kernel
theorem dL_of_22 : decode cL_of 22 = .ok (.goto 62, 3) := by decide +kernel
theorem dL_of_25 : decode cL_of 25 = .ok (.iload_n 1, 1) := by decide +kernel
theorem dL_of_26 : decode cL_of 26 = .ok (.iconst 2, 1) := by decide +kernel
theorem dL_of_27 : decode cL_of 27 = .ok (.if_icmp .ne 11, 3) := by decide +kernel
theorem dL_of_30 : decode cL_of 30 = .ok (.aload_n 0, 1) := by decide +kernel
theorem dL_of_31 : decode cL_of 31 = .ok (.iload_n 2, 1) := by decide +kernel
theorem dL_of_32 : decode cL_of 32 = .ok (.invokevirtual 57, 3) := by decide +kernel
theorem dL_of_35 : decode cL_of 35 = .ok (.goto 49, 3) := by decide +kernel
theorem dL_of_38 : decode cL_of 38 = .ok (.iload_n 1, 1) := by decide +kernel
theorem dL_of_39 : decode cL_of 39 = .ok (.iconst 3, 1) := by decide +kernel
theorem dL_of_40 : decode cL_of 40 = .ok (.if_icmp .ne 11, 3) := by decide +kernel
theorem dL_of_43 : decode cL_of 43 = .ok (.aload_n 0, 1) := by decide +kernel
theorem dL_of_44 : decode cL_of 44 = .ok (.iload_n 2, 1) := by decide +kernel
theorem dL_of_45 : decode cL_of 45 = .ok (.invokevirtual 60, 3) := by decide +kernel
theorem dL_of_48 : decode cL_of 48 = .ok (.goto 36, 3) := by decide +kernel
theorem dL_of_51 : decode cL_of 51 = .ok (.iload_n 1, 1) := by decide +kernel
theorem dL_of_52 : decode cL_of 52 = .ok (.iconst 4, 1) := by decide +kernel
theorem dL_of_53 : decode cL_of 53 = .ok (.if_icmp .ne 11, 3) := by decide +kernel
theorem dL_of_56 : decode cL_of 56 = .ok (.aload_n 0, 1) := by decide +kernel
theorem dL_of_57 : decode cL_of 57 = .ok (.iload_n 2, 1) := by decide +kernel
theorem dL_of_58 : decode cL_of 58 = .ok (.invokevirtual 63, 3) := by decide +kernel
theorem dL_of_61 : decode cL_of 61 = .ok (.goto 23, 3) := by decide +kernel
theorem dL_of_64 : decode cL_of 64 = .ok (.iload_n 1, 1) := by decide +kernel
theorem dL_of_65 : decode cL_of 65 = .ok (.iconst 5, 1) := by decide +kernel
theorem dL_of_66 : decode cL_of 66 = .ok (.if_icmp .ne 12, 3) := by decide +kernel
theorem dL_of_69 : decode cL_of 69 = .ok (.aload_n 0, 1) := by decide +kernel
theorem dL_of_70 : decode cL_of 70 = .ok (.iload_n 2, 1) := by decide +kernel
theorem dL_of_71 : decode cL_of 71 = .ok (.iload_n 3, 1) := by decide +kernel
theorem dL_of_72 : decode cL_of 72 = .ok (.invokevirtual 66, 3) := by decide +kernel
theorem dL_of_75 : decode cL_of 75 = .ok (.goto 9, 3) := by decide +kernel
theorem dL_of_78 : decode cL_of 78 = .ok (.aload_n 0, 1) := by decide +kernel
theorem dL_of_79 : decode cL_of 79 = .ok (.iload_n 2, 1) := by decide +kernel
theorem dL_of_80 : decode cL_of 80 = .ok (.iload_n 3, 1) := by decide +kernel
theorem dL_of_81 : decode cL_of 81 = .ok (.invokevirtual 69, 3) := by decide +kernel
theorem dL_of_84 : decode cL_of 84 = .ok (.ireturn, 1) := by decide +kernel
theorem dL_of_85 : decode cL_of 85 = .ok (.astore 4, 2) := by decide +kernel
theorem dL_of_87 : decode cL_of 87 = .ok (.bipush (-101), 2) := by decide +kernel
theorem dL_of_89 : decode cL_of 89 = .ok (.ireturn, 1) := by decide +kernel
theorem dL_sum_0 : decode cL_sum 0 = .ok (.iload_n 1, 1) := by decide +kernel
theorem dL_sum_1 : decode cL_sum 1 = .ok (.ifCond .ne 12, 3) := by decide +kernel
theorem dL_sum_4 : decode cL_sum 4 = .ok (.aload_n 0, 1) := by decide +kernel
theorem dL_sum_5 : decode cL_sum 5 = .ok (.iload_n 2, 1) := by decide +kernel
theorem dL_sum_6 : decode cL_sum 6 = .ok (.iload_n 3, 1) := by decide +kernel
theorem dL_sum_7 : decode cL_sum 7 = .ok (.invokevirtual 72, 3) := by decide +kernel
theorem dL_sum_10 : decode cL_sum 10 = .ok (.goto 60, 3) := by decide +kernel
theorem dL_sum_13 : decode cL_sum 13 = .ok (.iload_n 1, 1) := by decide +kernel
theorem dL_sum_14 : decode cL_sum 14 = .ok (.iconst 1, 1) := by decide +kernel
theorem dL_sum_15 : decode cL_sum 15 = .ok (.if_icmp .ne 11, 3) := by decide +kernel
theorem dL_sum_18 : decode cL_sum 18 = .ok (.aload_n 0, 1) := by decide +kernel
theorem dL_sum_19 : decode cL_sum 19 = .ok (.iload_n 2, 1) := by decide +kernel
theorem dL_sum_20 : decode cL_sum 20 = .ok (.invokevirtual 75, 3) := by decide +kernel
theorem dL_sum_23 : decode cL_sum 23 = .ok (.goto 47, 3) := by decide +kernel
theorem dL_sum_26 : decode cL_sum 26 = .ok (.iload_n 1, 1) := by decide +kernel
theorem dL_sum_27 : decode cL_sum 27 = .ok (.iconst 2, 1) := by decide +kernel
theorem dL_sum_28 : decode cL_sum 28 = .ok (.if_icmp .ne 11, 3) := by decide +kernel
theorem dL_sum_31 : decode cL_sum 31 = .ok (.aload_n 0, 1) := by decide +kernel
theorem dL_sum_32 : decode cL_sum 32 = .ok (.iload_n 2, 1) := by decide +kernel
theorem dL_sum_33 : decode cL_sum 33 = .ok (.invokevirtual 79, 3) := by decide +kernel
theorem dL_sum_36 : decode cL_sum 36 = .ok (.goto 34, 3) := by decide +kernel
theorem dL_sum_39 : decode cL_sum 39 = .ok (.iload_n 1, 1) := by decide +kernel
theorem dL_sum_40 : decode cL_sum 40 = .ok (.iconst 3, 1) := by decide +kernel
theorem dL_sum_41 : decode cL_sum 41 = .ok (.if_icmp .ne 11, 3) := by decide +kernel
theorem dL_sum_44 : decode cL_sum 44 = .ok (.aload_n 0, 1) := by decide +kernel
theorem dL_sum_45 : decode cL_sum 45 = .ok (.iload_n 2, 1) := by decide +kernel
theorem dL_sum_46 : decode cL_sum 46 = .ok (.invokevirtual 82, 3) := by decide +kernel
theorem dL_sum_49 : decode cL_sum 49 = .ok (.goto 21, 3) := by decide +kernel
theorem dL_sum_52 : decode cL_sum 52 = .ok (.iload_n 1, 1) := by decide +kernel
theorem dL_sum_53 : decode cL_sum 53 = .ok (.iconst 4, 1) := by decide +kernel
theorem dL_sum_54 : decode cL_sum 54 = .ok (.if_icmp .ne 11, 3) := by decide +kernel
theorem dL_sum_57 : decode cL_sum 57 = .ok (.aload_n 0, 1) := by decide +kernel
theorem dL_sum_58 : decode cL_sum 58 = .ok (.iload_n 2, 1) := by decide +kernel
theorem dL_sum_59 : decode cL_sum 59 = .ok (.invokevirtual 85, 3) := by decide +kernel
theorem dL_sum_62 : decode cL_sum 62 = .ok (.goto 8, 3) := by decide +kernel
theorem dL_sum_65 : decode cL_sum 65 = .ok (.aload_n 0, 1) := by decide +kernel
theorem dL_sum_66 : decode cL_sum 66 = .ok (.iload_n 2, 1) := by decide +kernel
theorem dL_sum_67 : decode cL_sum 67 = .ok (.invokevirtual 88, 3) := by decide +kernel
theorem dL_sum_70 : decode cL_sum 70 = .ok (.lreturn, 1) := by decide +kernel
theorem dL_sum_71 : decode cL_sum 71 = .ok (.astore 4, 2) := by decide +kernel
theorem dL_sum_73 : decode cL_sum 73 = .ok (.ldc2_w 91, 3) := by decide +kernel
theorem dL_sum_76 : decode cL_sum 76 = .ok (.lreturn, 1) := by decide +kernel
theorem dL_goes_0 : decode cL_goes 0 = .ok (.iload_n 1, 1) := by decide +kernel
theorem dL_goes_1 : decode cL_goes 1 = .ok (.ifCond .ne 276, 3) := by decide +kernel
theorem dL_goes_4 : decode cL_goes 4 = .ok (.aload_n 3, 1) := by decide +kernel
theorem dL_goes_5 : decode cL_goes 5 = .ok (.iconst 0, 1) := by decide +kernel
theorem dL_goes_6 : decode cL_goes 6 = .ok (.iaload, 1) := by decide +kernel
theorem dL_goes_7 : decode cL_goes 7 = .ok (.ifCond .le 14, 3) := by decide +kernel
theorem dL_goes_10 : decode cL_goes 10 = .ok (.aload 4, 2) := by decide +kernel
theorem dL_goes_12 : decode cL_goes 12 = .ok (.aload_n 3, 1) := by decide +kernel
theorem dL_goes_13 : decode cL_goes 13 = .ok (.iconst 0, 1) := by decide +kernel
theorem dL_goes_14 : decode cL_goes 14 = .ok (.iaload, 1) := by decide +kernel
theorem dL_goes_15 : decode cL_goes 15 = .ok (.iconst 1, 1) := by decide +kernel
theorem dL_goes_16 : decode cL_goes 16 = .ok (.isub, 1) := by decide +kernel
theorem dL_goes_17 : decode cL_goes 17 = .ok (.iaload, 1) := by decide +kernel
theorem dL_goes_18 : decode cL_goes 18 = .ok (.goto 6, 3) := by decide +kernel
theorem dL_goes_21 : decode cL_goes 21 = .ok (.sipush 1000, 3) := by decide +kernel
theorem dL_goes_24 : decode cL_goes 24 = .ok (.istore 11, 2) := by decide +kernel
theorem dL_goes_26 : decode cL_goes 26 = .ok (.iload_n 2, 1) := by decide +kernel
theorem dL_goes_27 : decode cL_goes 27 = .ok (.bipush 50, 2) := by decide +kernel
theorem dL_goes_29 : decode cL_goes 29 = .ok (.invokestatic 93, 3) := by decide +kernel
theorem dL_goes_32 : decode cL_goes 32 = .ok (.ifCond .ne 16, 3) := by decide +kernel
theorem dL_goes_35 : decode cL_goes 35 = .ok (.ldc 96, 2) := by decide +kernel
theorem dL_goes_37 : decode cL_goes 37 = .ok (.iload_n 2, 1) := by decide +kernel
theorem dL_goes_38 : decode cL_goes 38 = .ok (.iconst 3, 1) := by decide +kernel
theorem dL_goes_39 : decode cL_goes 39 = .ok (.ishr, 1) := by decide +kernel
theorem dL_goes_40 : decode cL_goes 40 = .ok (.iconst 2, 1) := by decide +kernel
theorem dL_goes_41 : decode cL_goes 41 = .ok (.invokestatic 93, 3) := by decide +kernel
theorem dL_goes_44 : decode cL_goes 44 = .ok (.imul, 1) := by decide +kernel
theorem dL_goes_45 : decode cL_goes 45 = .ok (.goto 46, 3) := by decide +kernel
theorem dL_goes_48 : decode cL_goes 48 = .ok (.iload_n 2, 1) := by decide +kernel
theorem dL_goes_49 : decode cL_goes 49 = .ok (.iconst 3, 1) := by decide +kernel
theorem dL_goes_50 : decode cL_goes 50 = .ok (.ishr, 1) := by decide +kernel
theorem dL_goes_51 : decode cL_goes 51 = .ok (.bipush 12, 2) := by decide +kernel
theorem dL_goes_53 : decode cL_goes 53 = .ok (.invokestatic 93, 3) := by decide +kernel
theorem dL_goes_56 : decode cL_goes 56 = .ok (.ifCond .ne 16, 3) := by decide +kernel
theorem dL_goes_59 : decode cL_goes 59 = .ok (.iconst 1, 1) := by decide +kernel
theorem dL_goes_60 : decode cL_goes 60 = .ok (.iload_n 2, 1) := by decide +kernel
theorem dL_goes_61 : decode cL_goes 61 = .ok (.iconst 5, 1) := by decide +kernel
theorem dL_goes_62 : decode cL_goes 62 = .ok (.ishr, 1) := by decide +kernel
theorem dL_goes_63 : decode cL_goes 63 = .ok (.bipush 100, 2) := by decide +kernel
theorem dL_goes_65 : decode cL_goes 65 = .ok (.invokestatic 93, 3) := by decide +kernel
theorem dL_goes_68 : decode cL_goes 68 = .ok (.iadd, 1) := by decide +kernel
theorem dL_goes_69 : decode cL_goes 69 = .ok (.goto 22, 3) := by decide +kernel
theorem dL_goes_72 : decode cL_goes 72 = .ok (.iload 11, 2) := by decide +kernel
theorem dL_goes_74 : decode cL_goes 74 = .ok (.bipush 70, 2) := by decide +kernel
theorem dL_goes_76 : decode cL_goes 76 = .ok (.iload_n 2, 1) := by decide +kernel
theorem dL_goes_77 : decode cL_goes 77 = .ok (.iconst 4, 1) := by decide +kernel
theorem dL_goes_78 : decode cL_goes 78 = .ok (.ishr, 1) := by decide +kernel
theorem dL_goes_79 : decode cL_goes 79 = .ok (.bipush 70, 2) := by decide +kernel
theorem dL_goes_81 : decode cL_goes 81 = .ok (.invokestatic 93, 3) := by decide +kernel
theorem dL_goes_84 : decode cL_goes 84 = .ok (.iadd, 1) := by decide +kernel
theorem dL_goes_85 : decode cL_goes 85 = .ok (.imul, 1) := by decide +kernel
theorem dL_goes_86 : decode cL_goes 86 = .ok (.bipush 100, 2) := by decide +kernel
theorem dL_goes_88 : decode cL_goes 88 = .ok (.idiv, 1) := by decide +kernel
theorem dL_goes_89 : decode cL_goes 89 = .ok (.iconst 1, 1) := by decide +kernel
theorem dL_goes_90 : decode cL_goes 90 = .ok (.iadd, 1) := by decide +kernel
theorem dL_goes_91 : decode cL_goes 91 = .ok (.istore 12, 2) := by decide +kernel
theorem dL_goes_93 : decode cL_goes 93 = .ok (.iload 12, 2) := by decide +kernel
theorem dL_goes_95 : decode cL_goes 95 = .ok (.ldc 97, 2) := by decide +kernel
theorem dL_goes_97 : decode cL_goes 97 = .ok (.if_icmp .le 15, 3) := by decide +kernel
theorem dL_goes_100 : decode cL_goes 100 = .ok (.iload 12, 2) := by decide +kernel
theorem dL_goes_102 : decode cL_goes 102 = .ok (.ldc 96, 2) := by decide +kernel
theorem dL_goes_104 : decode cL_goes 104 = .ok (.if_icmp .eq 8, 3) := by decide +kernel
theorem dL_goes_107 : decode cL_goes 107 = .ok (.ldc 97, 2) := by decide +kernel
theorem dL_goes_109 : decode cL_goes 109 = .ok (.goto 5, 3) := by decide +kernel
theorem dL_goes_112 : decode cL_goes 112 = .ok (.iload 12, 2) := by decide +kernel
theorem dL_goes_114 : decode cL_goes 114 = .ok (.istore 12, 2) := by decide +kernel
theorem dL_goes_116 : decode cL_goes 116 = .ok (.iload 12, 2) := by decide +kernel
theorem dL_goes_118 : decode cL_goes 118 = .ok (.ifCond .le 14, 3) := by decide +kernel
theorem dL_goes_121 : decode cL_goes 121 = .ok (.iload 12, 2) := by decide +kernel
theorem dL_goes_123 : decode cL_goes 123 = .ok (.ldc 96, 2) := by decide +kernel
theorem dL_goes_125 : decode cL_goes 125 = .ok (.if_icmp .ge 7, 3) := by decide +kernel
theorem dL_goes_128 : decode cL_goes 128 = .ok (.iconst 1, 1) := by decide +kernel
theorem dL_goes_129 : decode cL_goes 129 = .ok (.goto 4, 3) := by decide +kernel
theorem dL_goes_132 : decode cL_goes 132 = .ok (.iconst 0, 1) := by decide +kernel
theorem dL_goes_133 : decode cL_goes 133 = .ok (.istore 13, 2) := by decide +kernel
theorem dL_goes_135 : decode cL_goes 135 = .ok (.aload_n 3, 1) := by decide +kernel
theorem dL_goes_136 : decode cL_goes 136 = .ok (.iconst 0, 1) := by decide +kernel
theorem dL_goes_137 : decode cL_goes 137 = .ok (.iaload, 1) := by decide +kernel
theorem dL_goes_138 : decode cL_goes 138 = .ok (.bipush 60, 2) := by decide +kernel
theorem dL_goes_140 : decode cL_goes 140 = .ok (.if_icmp .ge 7, 3) := by decide +kernel
theorem dL_goes_143 : decode cL_goes 143 = .ok (.iconst 1, 1) := by decide +kernel
theorem dL_goes_144 : decode cL_goes 144 = .ok (.goto 4, 3) := by decide +kernel
theorem dL_goes_147 : decode cL_goes 147 = .ok (.iconst 0, 1) := by decide +kernel
theorem dL_goes_148 : decode cL_goes 148 = .ok (.istore 14, 2) := by decide +kernel
theorem dL_goes_150 : decode cL_goes 150 = .ok (.iload 13, 2) := by decide +kernel
theorem dL_goes_152 : decode cL_goes 152 = .ok (.ifCond .eq 85, 3) := by decide +kernel
theorem dL_goes_155 : decode cL_goes 155 = .ok (.iload 14, 2) := by decide +kernel
theorem dL_goes_157 : decode cL_goes 157 = .ok (.ifCond .eq 80, 3) := by decide +kernel
theorem dL_goes_160 : decode cL_goes 160 = .ok (.iconst 0, 1) := by decide +kernel
theorem dL_goes_161 : decode cL_goes 161 = .ok (.istore 15, 2) := by decide +kernel
theorem dL_goes_163 : decode cL_goes 163 = .ok (.iload 15, 2) := by decide +kernel
theorem dL_goes_165 : decode cL_goes 165 = .ok (.aload_n 3, 1) := by decide +kernel
theorem dL_goes_166 : decode cL_goes 166 = .ok (.iconst 1, 1) := by decide +kernel
theorem dL_goes_167 : decode cL_goes 167 = .ok (.iaload, 1) := by decide +kernel
theorem dL_goes_168 : decode cL_goes 168 = .ok (.if_icmp .ge 54, 3) := by decide +kernel
theorem dL_goes_171 : decode cL_goes 171 = .ok (.aload_n 3, 1) := by decide +kernel
theorem dL_goes_172 : decode cL_goes 172 = .ok (.iconst 0, 1) := by decide +kernel
theorem dL_goes_173 : decode cL_goes 173 = .ok (.iaload, 1) := by decide +kernel
theorem dL_goes_174 : decode cL_goes 174 = .ok (.bipush 6, 2) := by decide +kernel
theorem dL_goes_176 : decode cL_goes 176 = .ok (.irem, 1) := by decide +kernel
theorem dL_goes_177 : decode cL_goes 177 = .ok (.ifCond .ne 45, 3) := by decide +kernel
theorem dL_goes_180 : decode cL_goes 180 = .ok (.aload_n 3, 1) := by decide +kernel
theorem dL_goes_181 : decode cL_goes 181 = .ok (.iconst 0, 1) := by decide +kernel
theorem dL_goes_182 : decode cL_goes 182 = .ok (.iaload, 1) := by decide +kernel
theorem dL_goes_183 : decode cL_goes 183 = .ok (.ifCond .le 39, 3) := by decide +kernel
theorem dL_goes_186 : decode cL_goes 186 = .ok (.aload 5, 2) := by decide +kernel
theorem dL_goes_188 : decode cL_goes 188 = .ok (.iconst 4, 1) := by decide +kernel
theorem dL_goes_189 : decode cL_goes 189 = .ok (.iload 15, 2) := by decide +kernel
theorem dL_goes_191 : decode cL_goes 191 = .ok (.iadd, 1) := by decide +kernel
theorem dL_goes_192 : decode cL_goes 192 = .ok (.iaload, 1) := by decide +kernel
theorem dL_goes_193 : decode cL_goes 193 = .ok (.ifCond .ne 23, 3) := by decide +kernel
theorem dL_goes_196 : decode cL_goes 196 = .ok (.aload_n 3, 1) := by decide +kernel
theorem dL_goes_197 : decode cL_goes 197 = .ok (.aload 4, 2) := by decide +kernel
theorem dL_goes_199 : decode cL_goes 199 = .ok (.aload 5, 2) := by decide +kernel
theorem dL_goes_201 : decode cL_goes 201 = .ok (.aload 6, 2) := by decide +kernel
theorem dL_goes_203 : decode cL_goes 203 = .ok (.aload 7, 2) := by decide +kernel
theorem dL_goes_205 : decode cL_goes 205 = .ok (.aload 8, 2) := by decide +kernel
theorem dL_goes_207 : decode cL_goes 207 = .ok (.aload 9, 2) := by decide +kernel
theorem dL_goes_209 : decode cL_goes 209 = .ok (.aload 10, 2) := by decide +kernel
theorem dL_goes_211 : decode cL_goes 211 = .ok (.iload 15, 2) := by decide +kernel
theorem dL_goes_213 : decode cL_goes 213 = .ok (.invokestatic 98, 3) := by decide +kernel
theorem dL_goes_216 : decode cL_goes 216 = .ok (.iinc 15 1, 3) := by decide +kernel
theorem dL_goes_219 : decode cL_goes 219 = .ok (.goto (-56), 3) := by decide +kernel
theorem dL_goes_222 : decode cL_goes 222 = .ok (.aload 4, 2) := by decide +kernel
theorem dL_goes_224 : decode cL_goes 224 = .ok (.aload_n 3, 1) := by decide +kernel
theorem dL_goes_225 : decode cL_goes 225 = .ok (.iconst 0, 1) := by decide +kernel
theorem dL_goes_226 : decode cL_goes 226 = .ok (.iaload, 1) := by decide +kernel
theorem dL_goes_227 : decode cL_goes 227 = .ok (.iload 12, 2) := by decide +kernel
theorem dL_goes_229 : decode cL_goes 229 = .ok (.iastore, 1) := by decide +kernel
theorem dL_goes_230 : decode cL_goes 230 = .ok (.aload_n 3, 1) := by decide +kernel
theorem dL_goes_231 : decode cL_goes 231 = .ok (.iconst 0, 1) := by decide +kernel
theorem dL_goes_232 : decode cL_goes 232 = .ok (.dup2, 1) := by decide +kernel
theorem dL_goes_233 : decode cL_goes 233 = .ok (.iaload, 1) := by decide +kernel
theorem dL_goes_234 : decode cL_goes 234 = .ok (.iconst 1, 1) := by decide +kernel
theorem dL_goes_235 : decode cL_goes 235 = .ok (.iadd, 1) := by decide +kernel
theorem dL_goes_236 : decode cL_goes 236 = .ok (.iastore, 1) := by decide +kernel
theorem dL_goes_237 : decode cL_goes 237 = .ok (.aload_n 0, 1) := by decide +kernel
theorem dL_goes_238 : decode cL_goes 238 = .ok (.iload 12, 2) := by decide +kernel
theorem dL_goes_240 : decode cL_goes 240 = .ok (.invokestatic 102, 3) := by decide +kernel
theorem dL_goes_243 : decode cL_goes 243 = .ok (.iload 13, 2) := by decide +kernel
theorem dL_goes_245 : decode cL_goes 245 = .ok (.ifCond .ne 8, 3) := by decide +kernel
theorem dL_goes_248 : decode cL_goes 248 = .ok (.bipush (-101), 2) := by decide +kernel
theorem dL_goes_250 : decode cL_goes 250 = .ok (.goto 18, 3) := by decide +kernel
theorem dL_goes_253 : decode cL_goes 253 = .ok (.iload 14, 2) := by decide +kernel
theorem dL_goes_255 : decode cL_goes 255 = .ok (.ifCond .eq 11, 3) := by decide +kernel
theorem dL_goes_258 : decode cL_goes 258 = .ok (.aload_n 3, 1) := by decide +kernel
theorem dL_goes_259 : decode cL_goes 259 = .ok (.iconst 0, 1) := by decide +kernel
theorem dL_goes_260 : decode cL_goes 260 = .ok (.iaload, 1) := by decide +kernel
theorem dL_goes_261 : decode cL_goes 261 = .ok (.iconst 1, 1) := by decide +kernel
theorem dL_goes_262 : decode cL_goes 262 = .ok (.isub, 1) := by decide +kernel
theorem dL_goes_263 : decode cL_goes 263 = .ok (.goto 5, 3) := by decide +kernel
theorem dL_goes_266 : decode cL_goes 266 = .ok (.bipush (-102), 2) := by decide +kernel
theorem dL_goes_268 : decode cL_goes 268 = .ok (.if_icmp .ne 7, 3) := by decide +kernel
theorem dL_goes_271 : decode cL_goes 271 = .ok (.iconst 1, 1) := by decide +kernel
theorem dL_goes_272 : decode cL_goes 272 = .ok (.goto 4, 3) := by decide +kernel
theorem dL_goes_275 : decode cL_goes 275 = .ok (.iconst 0, 1) := by decide +kernel
theorem dL_goes_276 : decode cL_goes 276 = .ok (.ireturn, 1) := by decide +kernel
theorem dL_goes_277 : decode cL_goes 277 = .ok (.iload_n 1, 1) := by decide +kernel
theorem dL_goes_278 : decode cL_goes 278 = .ok (.iconst 1, 1) := by decide +kernel
theorem dL_goes_279 : decode cL_goes 279 = .ok (.if_icmp .ne 92, 3) := by decide +kernel
theorem dL_goes_282 : decode cL_goes 282 = .ok (.iload_n 2, 1) := by decide +kernel
theorem dL_goes_283 : decode cL_goes 283 = .ok (.bipush 30, 2) := by decide +kernel
theorem dL_goes_285 : decode cL_goes 285 = .ok (.invokestatic 93, 3) := by decide +kernel
theorem dL_goes_288 : decode cL_goes 288 = .ok (.ifCond .ne 8, 3) := by decide +kernel
theorem dL_goes_291 : decode cL_goes 291 = .ok (.ldc 106, 2) := by decide +kernel
theorem dL_goes_293 : decode cL_goes 293 = .ok (.goto 24, 3) := by decide +kernel
theorem dL_goes_296 : decode cL_goes 296 = .ok (.iload_n 2, 1) := by decide +kernel
theorem dL_goes_297 : decode cL_goes 297 = .ok (.iconst 3, 1) := by decide +kernel
theorem dL_goes_298 : decode cL_goes 298 = .ok (.ishr, 1) := by decide +kernel
theorem dL_goes_299 : decode cL_goes 299 = .ok (.iconst 3, 1) := by decide +kernel
theorem dL_goes_300 : decode cL_goes 300 = .ok (.invokestatic 93, 3) := by decide +kernel
theorem dL_goes_303 : decode cL_goes 303 = .ok (.ifCond .ne 8, 3) := by decide +kernel
theorem dL_goes_306 : decode cL_goes 306 = .ok (.ldc 107, 2) := by decide +kernel
theorem dL_goes_308 : decode cL_goes 308 = .ok (.goto 9, 3) := by decide +kernel
theorem dL_goes_311 : decode cL_goes 311 = .ok (.iload_n 2, 1) := by decide +kernel
theorem dL_goes_312 : decode cL_goes 312 = .ok (.ldc 108, 2) := by decide +kernel
theorem dL_goes_314 : decode cL_goes 314 = .ok (.invokestatic 93, 3) := by decide +kernel
theorem dL_goes_317 : decode cL_goes 317 = .ok (.istore 11, 2) := by decide +kernel
theorem dL_goes_319 : decode cL_goes 319 = .ok (.aload_n 3, 1) := by decide +kernel
theorem dL_goes_320 : decode cL_goes 320 = .ok (.iconst 2, 1) := by decide +kernel
theorem dL_goes_321 : decode cL_goes 321 = .ok (.iaload, 1) := by decide +kernel
theorem dL_goes_322 : decode cL_goes 322 = .ok (.istore 12, 2) := by decide +kernel
theorem dL_goes_324 : decode cL_goes 324 = .ok (.aload_n 3, 1) := by decide +kernel
theorem dL_goes_325 : decode cL_goes 325 = .ok (.iconst 2, 1) := by decide +kernel
theorem dL_goes_326 : decode cL_goes 326 = .ok (.iload 11, 2) := by decide +kernel
theorem dL_goes_328 : decode cL_goes 328 = .ok (.ldc 106, 2) := by decide +kernel
theorem dL_goes_330 : decode cL_goes 330 = .ok (.if_icmp .ge 8, 3) := by decide +kernel
theorem dL_goes_333 : decode cL_goes 333 = .ok (.iload 11, 2) := by decide +kernel
theorem dL_goes_335 : decode cL_goes 335 = .ok (.goto 5, 3) := by decide +kernel
theorem dL_goes_338 : decode cL_goes 338 = .ok (.iload 12, 2) := by decide +kernel
theorem dL_goes_340 : decode cL_goes 340 = .ok (.iastore, 1) := by decide +kernel
theorem dL_goes_341 : decode cL_goes 341 = .ok (.aload_n 0, 1) := by decide +kernel
theorem dL_goes_342 : decode cL_goes 342 = .ok (.iconst 0, 1) := by decide +kernel
theorem dL_goes_343 : decode cL_goes 343 = .ok (.iload 11, 2) := by decide +kernel
theorem dL_goes_345 : decode cL_goes 345 = .ok (.invokestatic 109, 3) := by decide +kernel
theorem dL_goes_348 : decode cL_goes 348 = .ok (.iload 11, 2) := by decide +kernel
theorem dL_goes_350 : decode cL_goes 350 = .ok (.ldc 106, 2) := by decide +kernel
theorem dL_goes_352 : decode cL_goes 352 = .ok (.if_icmp .ge 8, 3) := by decide +kernel
theorem dL_goes_355 : decode cL_goes 355 = .ok (.iload 12, 2) := by decide +kernel
theorem dL_goes_357 : decode cL_goes 357 = .ok (.goto 5, 3) := by decide +kernel
theorem dL_goes_360 : decode cL_goes 360 = .ok (.bipush (-101), 2) := by decide +kernel
theorem dL_goes_362 : decode cL_goes 362 = .ok (.if_icmp .ne 7, 3) := by decide +kernel
theorem dL_goes_365 : decode cL_goes 365 = .ok (.iconst 1, 1) := by decide +kernel
theorem dL_goes_366 : decode cL_goes 366 = .ok (.goto 4, 3) := by decide +kernel
theorem dL_goes_369 : decode cL_goes 369 = .ok (.iconst 0, 1) := by decide +kernel
theorem dL_goes_370 : decode cL_goes 370 = .ok (.ireturn, 1) := by decide +kernel
theorem dL_goes_371 : decode cL_goes 371 = .ok (.iload_n 2, 1) := by decide +kernel
theorem dL_goes_372 : decode cL_goes 372 = .ok (.bipush 30, 2) := by decide +kernel
theorem dL_goes_374 : decode cL_goes 374 = .ok (.invokestatic 93, 3) := by decide +kernel
theorem dL_goes_377 : decode cL_goes 377 = .ok (.ifCond .ne 16, 3) := by decide +kernel
theorem dL_goes_380 : decode cL_goes 380 = .ok (.bipush 16, 2) := by decide +kernel
theorem dL_goes_382 : decode cL_goes 382 = .ok (.iload_n 2, 1) := by decide +kernel
theorem dL_goes_383 : decode cL_goes 383 = .ok (.iconst 3, 1) := by decide +kernel
theorem dL_goes_384 : decode cL_goes 384 = .ok (.ishr, 1) := by decide +kernel
theorem dL_goes_385 : decode cL_goes 385 = .ok (.iconst 2, 1) := by decide +kernel
theorem dL_goes_386 : decode cL_goes 386 = .ok (.invokestatic 93, 3) := by decide +kernel
theorem dL_goes_389 : decode cL_goes 389 = .ok (.imul, 1) := by decide +kernel
theorem dL_goes_390 : decode cL_goes 390 = .ok (.goto 11, 3) := by decide +kernel
theorem dL_goes_393 : decode cL_goes 393 = .ok (.iconst 1, 1) := by decide +kernel
theorem dL_goes_394 : decode cL_goes 394 = .ok (.iload_n 2, 1) := by decide +kernel
theorem dL_goes_395 : decode cL_goes 395 = .ok (.bipush 15, 2) := by decide +kernel
theorem dL_goes_397 : decode cL_goes 397 = .ok (.invokestatic 93, 3) := by decide +kernel
theorem dL_goes_400 : decode cL_goes 400 = .ok (.iadd, 1) := by decide +kernel
theorem dL_goes_401 : decode cL_goes 401 = .ok (.istore 11, 2) := by decide +kernel
theorem dL_goes_403 : decode cL_goes 403 = .ok (.iload 11, 2) := by decide +kernel
theorem dL_goes_405 : decode cL_goes 405 = .ok (.ifCond .le 14, 3) := by decide +kernel
theorem dL_goes_408 : decode cL_goes 408 = .ok (.iload 11, 2) := by decide +kernel
theorem dL_goes_410 : decode cL_goes 410 = .ok (.bipush 16, 2) := by decide +kernel
theorem dL_goes_412 : decode cL_goes 412 = .ok (.if_icmp .ge 7, 3) := by decide +kernel
theorem dL_goes_415 : decode cL_goes 415 = .ok (.iconst 1, 1) := by decide +kernel
theorem dL_goes_416 : decode cL_goes 416 = .ok (.goto 4, 3) := by decide +kernel
theorem dL_goes_419 : decode cL_goes 419 = .ok (.iconst 0, 1) := by decide +kernel
theorem dL_goes_420 : decode cL_goes 420 = .ok (.istore 12, 2) := by decide +kernel
theorem dL_goes_422 : decode cL_goes 422 = .ok (.iload_n 1, 1) := by decide +kernel
theorem dL_goes_423 : decode cL_goes 423 = .ok (.iconst 2, 1) := by decide +kernel
theorem dL_goes_424 : decode cL_goes 424 = .ok (.if_icmp .ne 99, 3) := by decide +kernel
theorem dL_goes_427 : decode cL_goes 427 = .ok (.iload 12, 2) := by decide +kernel
theorem dL_goes_429 : decode cL_goes 429 = .ok (.ifCond .eq 18, 3) := by decide +kernel
theorem dL_goes_432 : decode cL_goes 432 = .ok (.aload_n 3, 1) := by decide +kernel
theorem dL_goes_433 : decode cL_goes 433 = .ok (.iconst 1, 1) := by decide +kernel
theorem dL_goes_434 : decode cL_goes 434 = .ok (.iaload, 1) := by decide +kernel
theorem dL_goes_435 : decode cL_goes 435 = .ok (.iconst 4, 1) := by decide +kernel
theorem dL_goes_436 : decode cL_goes 436 = .ok (.if_icmp .ne 11, 3) := by decide +kernel
theorem dL_goes_439 : decode cL_goes 439 = .ok (.aload_n 3, 1) := by decide +kernel
theorem dL_goes_440 : decode cL_goes 440 = .ok (.iconst 0, 1) := by decide +kernel
theorem dL_goes_441 : decode cL_goes 441 = .ok (.iaload, 1) := by decide +kernel
theorem dL_goes_442 : decode cL_goes 442 = .ok (.ifCond .le 5, 3) := by decide +kernel
theorem dL_goes_445 : decode cL_goes 445 = .ok (.iconst 1, 1) := by decide +kernel
theorem dL_goes_446 : decode cL_goes 446 = .ok (.ireturn, 1) := by decide +kernel
theorem dL_goes_447 : decode cL_goes 447 = .ok (.iload 12, 2) := by decide +kernel
theorem dL_goes_449 : decode cL_goes 449 = .ok (.ifCond .ne 8, 3) := by decide +kernel
theorem dL_goes_452 : decode cL_goes 452 = .ok (.bipush (-101), 2) := by decide +kernel
theorem dL_goes_454 : decode cL_goes 454 = .ok (.goto 17, 3) := by decide +kernel
theorem dL_goes_457 : decode cL_goes 457 = .ok (.aload_n 3, 1) := by decide +kernel
theorem dL_goes_458 : decode cL_goes 458 = .ok (.iconst 0, 1) := by decide +kernel
theorem dL_goes_459 : decode cL_goes 459 = .ok (.iaload, 1) := by decide +kernel
theorem dL_goes_460 : decode cL_goes 460 = .ok (.ifCond .ne 8, 3) := by decide +kernel
theorem dL_goes_463 : decode cL_goes 463 = .ok (.bipush (-102), 2) := by decide +kernel
theorem dL_goes_465 : decode cL_goes 465 = .ok (.goto 6, 3) := by decide +kernel
theorem dL_goes_468 : decode cL_goes 468 = .ok (.aload_n 3, 1) := by decide +kernel
theorem dL_goes_469 : decode cL_goes 469 = .ok (.iconst 1, 1) := by decide +kernel
theorem dL_goes_470 : decode cL_goes 470 = .ok (.iaload, 1) := by decide +kernel
theorem dL_goes_471 : decode cL_goes 471 = .ok (.istore 13, 2) := by decide +kernel
theorem dL_goes_473 : decode cL_goes 473 = .ok (.iload 13, 2) := by decide +kernel
theorem dL_goes_475 : decode cL_goes 475 = .ok (.ifCond .lt 30, 3) := by decide +kernel
theorem dL_goes_478 : decode cL_goes 478 = .ok (.aload 5, 2) := by decide +kernel
theorem dL_goes_480 : decode cL_goes 480 = .ok (.iload 13, 2) := by decide +kernel
theorem dL_goes_482 : decode cL_goes 482 = .ok (.iload 11, 2) := by decide +kernel
theorem dL_goes_484 : decode cL_goes 484 = .ok (.iastore, 1) := by decide +kernel
theorem dL_goes_485 : decode cL_goes 485 = .ok (.aload 5, 2) := by decide +kernel
theorem dL_goes_487 : decode cL_goes 487 = .ok (.bipush 12, 2) := by decide +kernel
theorem dL_goes_489 : decode cL_goes 489 = .ok (.iload 13, 2) := by decide +kernel
theorem dL_goes_491 : decode cL_goes 491 = .ok (.iadd, 1) := by decide +kernel
theorem dL_goes_492 : decode cL_goes 492 = .ok (.aload_n 3, 1) := by decide +kernel
theorem dL_goes_493 : decode cL_goes 493 = .ok (.iconst 0, 1) := by decide +kernel
theorem dL_goes_494 : decode cL_goes 494 = .ok (.iaload, 1) := by decide +kernel
theorem dL_goes_495 : decode cL_goes 495 = .ok (.iconst 1, 1) := by decide +kernel
theorem dL_goes_496 : decode cL_goes 496 = .ok (.isub, 1) := by decide +kernel
theorem dL_goes_497 : decode cL_goes 497 = .ok (.iastore, 1) := by decide +kernel
theorem dL_goes_498 : decode cL_goes 498 = .ok (.aload_n 3, 1) := by decide +kernel
theorem dL_goes_499 : decode cL_goes 499 = .ok (.iconst 1, 1) := by decide +kernel
theorem dL_goes_500 : decode cL_goes 500 = .ok (.dup2, 1) := by decide +kernel
end
section
theorem dL_goes_501 : decode cL_goes 501 = .ok (.iaload, 1) := by decide +kernel
theorem dL_goes_502 : decode cL_goes 502 = .ok (.iconst 1, 1) := by decide +kernel
theorem dL_goes_503 : decode cL_goes 503 = .ok (.iadd, 1) := by decide +kernel
theorem dL_goes_504 : decode cL_goes 504 = .ok (.iastore, 1) := by decide +kernel
theorem dL_goes_505 : decode cL_goes 505 = .ok (.aload_n 0, 1) := by decide +kernel
theorem dL_goes_506 : decode cL_goes 506 = .ok (.iconst 1, 1) := by decide +kernel
theorem dL_goes_507 : decode cL_goes 507 = .ok (.iload 11, 2) := by decide +kernel
theorem dL_goes_509 : decode cL_goes 509 = .ok (.invokestatic 109, 3) := by decide +kernel
theorem dL_goes_512 : decode cL_goes 512 = .ok (.iload 13, 2) := by decide +kernel
theorem dL_goes_514 : decode cL_goes 514 = .ok (.if_icmp .ne 7, 3) := by decide +kernel
theorem dL_goes_517 : decode cL_goes 517 = .ok (.iconst 1, 1) := by decide +kernel
theorem dL_goes_518 : decode cL_goes 518 = .ok (.goto 4, 3) := by decide +kernel
theorem dL_goes_521 : decode cL_goes 521 = .ok (.iconst 0, 1) := by decide +kernel
theorem dL_goes_522 : decode cL_goes 522 = .ok (.ireturn, 1) := by decide +kernel
theorem dL_goes_523 : decode cL_goes 523 = .ok (.iload_n 2, 1) := by decide +kernel
theorem dL_goes_524 : decode cL_goes 524 = .ok (.iconst 4, 1) := by decide +kernel
theorem dL_goes_525 : decode cL_goes 525 = .ok (.ishr, 1) := by decide +kernel
theorem dL_goes_526 : decode cL_goes 526 = .ok (.aload_n 3, 1) := by decide +kernel
theorem dL_goes_527 : decode cL_goes 527 = .ok (.iconst 1, 1) := by decide +kernel
theorem dL_goes_528 : decode cL_goes 528 = .ok (.iaload, 1) := by decide +kernel
theorem dL_goes_529 : decode cL_goes 529 = .ok (.iconst 1, 1) := by decide +kernel
theorem dL_goes_530 : decode cL_goes 530 = .ok (.iadd, 1) := by decide +kernel
theorem dL_goes_531 : decode cL_goes 531 = .ok (.invokestatic 93, 3) := by decide +kernel
theorem dL_goes_534 : decode cL_goes 534 = .ok (.iload_n 2, 1) := by decide +kernel
theorem dL_goes_535 : decode cL_goes 535 = .ok (.bipush 11, 2) := by decide +kernel
theorem dL_goes_537 : decode cL_goes 537 = .ok (.ishr, 1) := by decide +kernel
theorem dL_goes_538 : decode cL_goes 538 = .ok (.bipush 19, 2) := by decide +kernel
theorem dL_goes_540 : decode cL_goes 540 = .ok (.invokestatic 93, 3) := by decide +kernel
theorem dL_goes_543 : decode cL_goes 543 = .ok (.ifCond .ne 7, 3) := by decide +kernel
theorem dL_goes_546 : decode cL_goes 546 = .ok (.iconst 1, 1) := by decide +kernel
theorem dL_goes_547 : decode cL_goes 547 = .ok (.goto 4, 3) := by decide +kernel
theorem dL_goes_550 : decode cL_goes 550 = .ok (.iconst 0, 1) := by decide +kernel
theorem dL_goes_551 : decode cL_goes 551 = .ok (.isub, 1) := by decide +kernel
theorem dL_goes_552 : decode cL_goes 552 = .ok (.istore 13, 2) := by decide +kernel
theorem dL_goes_554 : decode cL_goes 554 = .ok (.iload 13, 2) := by decide +kernel
theorem dL_goes_556 : decode cL_goes 556 = .ok (.ifCond .lt 15, 3) := by decide +kernel
theorem dL_goes_559 : decode cL_goes 559 = .ok (.iload 13, 2) := by decide +kernel
theorem dL_goes_561 : decode cL_goes 561 = .ok (.aload_n 3, 1) := by decide +kernel
theorem dL_goes_562 : decode cL_goes 562 = .ok (.iconst 1, 1) := by decide +kernel
theorem dL_goes_563 : decode cL_goes 563 = .ok (.iaload, 1) := by decide +kernel
theorem dL_goes_564 : decode cL_goes 564 = .ok (.if_icmp .ge 7, 3) := by decide +kernel
theorem dL_goes_567 : decode cL_goes 567 = .ok (.iconst 1, 1) := by decide +kernel
theorem dL_goes_568 : decode cL_goes 568 = .ok (.goto 4, 3) := by decide +kernel
theorem dL_goes_571 : decode cL_goes 571 = .ok (.iconst 0, 1) := by decide +kernel
theorem dL_goes_572 : decode cL_goes 572 = .ok (.istore 14, 2) := by decide +kernel
theorem dL_goes_574 : decode cL_goes 574 = .ok (.iload 14, 2) := by decide +kernel
theorem dL_goes_576 : decode cL_goes 576 = .ok (.ifCond .eq 17, 3) := by decide +kernel
theorem dL_goes_579 : decode cL_goes 579 = .ok (.aload 5, 2) := by decide +kernel
theorem dL_goes_581 : decode cL_goes 581 = .ok (.iconst 4, 1) := by decide +kernel
theorem dL_goes_582 : decode cL_goes 582 = .ok (.iload 13, 2) := by decide +kernel
theorem dL_goes_584 : decode cL_goes 584 = .ok (.iadd, 1) := by decide +kernel
theorem dL_goes_585 : decode cL_goes 585 = .ok (.iaload, 1) := by decide +kernel
theorem dL_goes_586 : decode cL_goes 586 = .ok (.ifCond .ne 7, 3) := by decide +kernel
theorem dL_goes_589 : decode cL_goes 589 = .ok (.iconst 1, 1) := by decide +kernel
theorem dL_goes_590 : decode cL_goes 590 = .ok (.goto 4, 3) := by decide +kernel
theorem dL_goes_593 : decode cL_goes 593 = .ok (.iconst 0, 1) := by decide +kernel
theorem dL_goes_594 : decode cL_goes 594 = .ok (.istore 15, 2) := by decide +kernel
theorem dL_goes_596 : decode cL_goes 596 = .ok (.iload_n 1, 1) := by decide +kernel
theorem dL_goes_597 : decode cL_goes 597 = .ok (.iconst 3, 1) := by decide +kernel
theorem dL_goes_598 : decode cL_goes 598 = .ok (.if_icmp .ne 86, 3) := by decide +kernel
theorem dL_goes_601 : decode cL_goes 601 = .ok (.iload 14, 2) := by decide +kernel
theorem dL_goes_603 : decode cL_goes 603 = .ok (.ifCond .eq 11, 3) := by decide +kernel
theorem dL_goes_606 : decode cL_goes 606 = .ok (.aload 5, 2) := by decide +kernel
theorem dL_goes_608 : decode cL_goes 608 = .ok (.iload 13, 2) := by decide +kernel
theorem dL_goes_610 : decode cL_goes 610 = .ok (.iaload, 1) := by decide +kernel
theorem dL_goes_611 : decode cL_goes 611 = .ok (.goto 4, 3) := by decide +kernel
theorem dL_goes_614 : decode cL_goes 614 = .ok (.iconst 0, 1) := by decide +kernel
theorem dL_goes_615 : decode cL_goes 615 = .ok (.istore 16, 2) := by decide +kernel
theorem dL_goes_617 : decode cL_goes 617 = .ok (.iload 15, 2) := by decide +kernel
theorem dL_goes_619 : decode cL_goes 619 = .ok (.ifCond .eq 15, 3) := by decide +kernel
theorem dL_goes_622 : decode cL_goes 622 = .ok (.iload 12, 2) := by decide +kernel
theorem dL_goes_624 : decode cL_goes 624 = .ok (.ifCond .eq 10, 3) := by decide +kernel
theorem dL_goes_627 : decode cL_goes 627 = .ok (.aload 5, 2) := by decide +kernel
theorem dL_goes_629 : decode cL_goes 629 = .ok (.iload 13, 2) := by decide +kernel
theorem dL_goes_631 : decode cL_goes 631 = .ok (.iload 11, 2) := by decide +kernel
theorem dL_goes_633 : decode cL_goes 633 = .ok (.iastore, 1) := by decide +kernel
theorem dL_goes_634 : decode cL_goes 634 = .ok (.aload_n 0, 1) := by decide +kernel
theorem dL_goes_635 : decode cL_goes 635 = .ok (.iconst 0, 1) := by decide +kernel
theorem dL_goes_636 : decode cL_goes 636 = .ok (.iload 13, 2) := by decide +kernel
theorem dL_goes_638 : decode cL_goes 638 = .ok (.iload 11, 2) := by decide +kernel
theorem dL_goes_640 : decode cL_goes 640 = .ok (.invokestatic 113, 3) := by decide +kernel
theorem dL_goes_643 : decode cL_goes 643 = .ok (.iload 14, 2) := by decide +kernel
theorem dL_goes_645 : decode cL_goes 645 = .ok (.ifCond .ne 8, 3) := by decide +kernel
theorem dL_goes_648 : decode cL_goes 648 = .ok (.bipush (-101), 2) := by decide +kernel
theorem dL_goes_650 : decode cL_goes 650 = .ok (.goto 25, 3) := by decide +kernel
theorem dL_goes_653 : decode cL_goes 653 = .ok (.iload 12, 2) := by decide +kernel
theorem dL_goes_655 : decode cL_goes 655 = .ok (.ifCond .ne 8, 3) := by decide +kernel
theorem dL_goes_658 : decode cL_goes 658 = .ok (.bipush (-102), 2) := by decide +kernel
theorem dL_goes_660 : decode cL_goes 660 = .ok (.goto 15, 3) := by decide +kernel
theorem dL_goes_663 : decode cL_goes 663 = .ok (.iload 15, 2) := by decide +kernel
theorem dL_goes_665 : decode cL_goes 665 = .ok (.ifCond .eq 8, 3) := by decide +kernel
theorem dL_goes_668 : decode cL_goes 668 = .ok (.iload 16, 2) := by decide +kernel
theorem dL_goes_670 : decode cL_goes 670 = .ok (.goto 5, 3) := by decide +kernel
theorem dL_goes_673 : decode cL_goes 673 = .ok (.bipush (-103), 2) := by decide +kernel
theorem dL_goes_675 : decode cL_goes 675 = .ok (.if_icmp .ne 7, 3) := by decide +kernel
theorem dL_goes_678 : decode cL_goes 678 = .ok (.iconst 1, 1) := by decide +kernel
theorem dL_goes_679 : decode cL_goes 679 = .ok (.goto 4, 3) := by decide +kernel
theorem dL_goes_682 : decode cL_goes 682 = .ok (.iconst 0, 1) := by decide +kernel
theorem dL_goes_683 : decode cL_goes 683 = .ok (.ireturn, 1) := by decide +kernel
theorem dL_goes_684 : decode cL_goes 684 = .ok (.iload_n 1, 1) := by decide +kernel
theorem dL_goes_685 : decode cL_goes 685 = .ok (.iconst 4, 1) := by decide +kernel
theorem dL_goes_686 : decode cL_goes 686 = .ok (.if_icmp .ne 91, 3) := by decide +kernel
theorem dL_goes_689 : decode cL_goes 689 = .ok (.iload 14, 2) := by decide +kernel
theorem dL_goes_691 : decode cL_goes 691 = .ok (.ifCond .eq 14, 3) := by decide +kernel
theorem dL_goes_694 : decode cL_goes 694 = .ok (.aload 5, 2) := by decide +kernel
theorem dL_goes_696 : decode cL_goes 696 = .ok (.bipush 8, 2) := by decide +kernel
theorem dL_goes_698 : decode cL_goes 698 = .ok (.iload 13, 2) := by decide +kernel
theorem dL_goes_700 : decode cL_goes 700 = .ok (.iadd, 1) := by decide +kernel
theorem dL_goes_701 : decode cL_goes 701 = .ok (.iaload, 1) := by decide +kernel
theorem dL_goes_702 : decode cL_goes 702 = .ok (.goto 4, 3) := by decide +kernel
theorem dL_goes_705 : decode cL_goes 705 = .ok (.iconst 0, 1) := by decide +kernel
theorem dL_goes_706 : decode cL_goes 706 = .ok (.istore 16, 2) := by decide +kernel
theorem dL_goes_708 : decode cL_goes 708 = .ok (.iload 15, 2) := by decide +kernel
theorem dL_goes_710 : decode cL_goes 710 = .ok (.ifCond .eq 30, 3) := by decide +kernel
theorem dL_goes_713 : decode cL_goes 713 = .ok (.aload 5, 2) := by decide +kernel
theorem dL_goes_715 : decode cL_goes 715 = .ok (.iconst 4, 1) := by decide +kernel
theorem dL_goes_716 : decode cL_goes 716 = .ok (.iload 13, 2) := by decide +kernel
theorem dL_goes_718 : decode cL_goes 718 = .ok (.iadd, 1) := by decide +kernel
theorem dL_goes_719 : decode cL_goes 719 = .ok (.iconst 1, 1) := by decide +kernel
theorem dL_goes_720 : decode cL_goes 720 = .ok (.iastore, 1) := by decide +kernel
theorem dL_goes_721 : decode cL_goes 721 = .ok (.aload 5, 2) := by decide +kernel
theorem dL_goes_723 : decode cL_goes 723 = .ok (.bipush 24, 2) := by decide +kernel
theorem dL_goes_725 : decode cL_goes 725 = .ok (.iload 13, 2) := by decide +kernel
theorem dL_goes_727 : decode cL_goes 727 = .ok (.iadd, 1) := by decide +kernel
theorem dL_goes_728 : decode cL_goes 728 = .ok (.iload 16, 2) := by decide +kernel
theorem dL_goes_730 : decode cL_goes 730 = .ok (.iastore, 1) := by decide +kernel
theorem dL_goes_731 : decode cL_goes 731 = .ok (.aload 5, 2) := by decide +kernel
theorem dL_goes_733 : decode cL_goes 733 = .ok (.bipush 8, 2) := by decide +kernel
theorem dL_goes_735 : decode cL_goes 735 = .ok (.iload 13, 2) := by decide +kernel
theorem dL_goes_737 : decode cL_goes 737 = .ok (.iadd, 1) := by decide +kernel
theorem dL_goes_738 : decode cL_goes 738 = .ok (.iconst 0, 1) := by decide +kernel
theorem dL_goes_739 : decode cL_goes 739 = .ok (.iastore, 1) := by decide +kernel
theorem dL_goes_740 : decode cL_goes 740 = .ok (.aload_n 0, 1) := by decide +kernel
theorem dL_goes_741 : decode cL_goes 741 = .ok (.iload 13, 2) := by decide +kernel
theorem dL_goes_743 : decode cL_goes 743 = .ok (.invokestatic 117, 3) := by decide +kernel
theorem dL_goes_746 : decode cL_goes 746 = .ok (.iload 14, 2) := by decide +kernel
theorem dL_goes_748 : decode cL_goes 748 = .ok (.ifCond .ne 8, 3) := by decide +kernel
theorem dL_goes_751 : decode cL_goes 751 = .ok (.bipush (-101), 2) := by decide +kernel
theorem dL_goes_753 : decode cL_goes 753 = .ok (.goto 15, 3) := by decide +kernel
theorem dL_goes_756 : decode cL_goes 756 = .ok (.iload 15, 2) := by decide +kernel
theorem dL_goes_758 : decode cL_goes 758 = .ok (.ifCond .eq 8, 3) := by decide +kernel
theorem dL_goes_761 : decode cL_goes 761 = .ok (.iload 16, 2) := by decide +kernel
theorem dL_goes_763 : decode cL_goes 763 = .ok (.goto 5, 3) := by decide +kernel
theorem dL_goes_766 : decode cL_goes 766 = .ok (.bipush (-102), 2) := by decide +kernel
theorem dL_goes_768 : decode cL_goes 768 = .ok (.if_icmp .ne 7, 3) := by decide +kernel
theorem dL_goes_771 : decode cL_goes 771 = .ok (.iconst 1, 1) := by decide +kernel
theorem dL_goes_772 : decode cL_goes 772 = .ok (.goto 4, 3) := by decide +kernel
theorem dL_goes_775 : decode cL_goes 775 = .ok (.iconst 0, 1) := by decide +kernel
theorem dL_goes_776 : decode cL_goes 776 = .ok (.ireturn, 1) := by decide +kernel
theorem dL_goes_777 : decode cL_goes 777 = .ok (.iload_n 2, 1) := by decide +kernel
theorem dL_goes_778 : decode cL_goes 778 = .ok (.bipush 30, 2) := by decide +kernel
theorem dL_goes_780 : decode cL_goes 780 = .ok (.invokestatic 93, 3) := by decide +kernel
theorem dL_goes_783 : decode cL_goes 783 = .ok (.ifCond .ne 8, 3) := by decide +kernel
theorem dL_goes_786 : decode cL_goes 786 = .ok (.ldc 120, 2) := by decide +kernel
theorem dL_goes_788 : decode cL_goes 788 = .ok (.goto 11, 3) := by decide +kernel
theorem dL_goes_791 : decode cL_goes 791 = .ok (.iload_n 2, 1) := by decide +kernel
theorem dL_goes_792 : decode cL_goes 792 = .ok (.iconst 2, 1) := by decide +kernel
theorem dL_goes_793 : decode cL_goes 793 = .ok (.ishr, 1) := by decide +kernel
theorem dL_goes_794 : decode cL_goes 794 = .ok (.ldc 121, 2) := by decide +kernel
theorem dL_goes_796 : decode cL_goes 796 = .ok (.invokestatic 93, 3) := by decide +kernel
theorem dL_goes_799 : decode cL_goes 799 = .ok (.istore 16, 2) := by decide +kernel
theorem dL_goes_801 : decode cL_goes 801 = .ok (.iload 16, 2) := by decide +kernel
theorem dL_goes_803 : decode cL_goes 803 = .ok (.ldc 120, 2) := by decide +kernel
theorem dL_goes_805 : decode cL_goes 805 = .ok (.if_icmp .ge 7, 3) := by decide +kernel
theorem dL_goes_808 : decode cL_goes 808 = .ok (.iconst 1, 1) := by decide +kernel
theorem dL_goes_809 : decode cL_goes 809 = .ok (.goto 4, 3) := by decide +kernel
theorem dL_goes_812 : decode cL_goes 812 = .ok (.iconst 0, 1) := by decide +kernel
theorem dL_goes_813 : decode cL_goes 813 = .ok (.istore 17, 2) := by decide +kernel
theorem dL_goes_815 : decode cL_goes 815 = .ok (.iload 15, 2) := by decide +kernel
theorem dL_goes_817 : decode cL_goes 817 = .ok (.ifCond .eq 43, 3) := by decide +kernel
theorem dL_goes_820 : decode cL_goes 820 = .ok (.iload 17, 2) := by decide +kernel
theorem dL_goes_822 : decode cL_goes 822 = .ok (.ifCond .eq 38, 3) := by decide +kernel
theorem dL_goes_825 : decode cL_goes 825 = .ok (.iload 16, 2) := by decide +kernel
theorem dL_goes_827 : decode cL_goes 827 = .ok (.iload 16, 2) := by decide +kernel
theorem dL_goes_829 : decode cL_goes 829 = .ok (.bipush 100, 2) := by decide +kernel
theorem dL_goes_831 : decode cL_goes 831 = .ok (.irem, 1) := by decide +kernel
theorem dL_goes_832 : decode cL_goes 832 = .ok (.isub, 1) := by decide +kernel
theorem dL_goes_833 : decode cL_goes 833 = .ok (.bipush 100, 2) := by decide +kernel
theorem dL_goes_835 : decode cL_goes 835 = .ok (.idiv, 1) := by decide +kernel
theorem dL_goes_836 : decode cL_goes 836 = .ok (.aload 5, 2) := by decide +kernel
theorem dL_goes_838 : decode cL_goes 838 = .ok (.iload 13, 2) := by decide +kernel
theorem dL_goes_840 : decode cL_goes 840 = .ok (.iaload, 1) := by decide +kernel
theorem dL_goes_841 : decode cL_goes 841 = .ok (.imul, 1) := by decide +kernel
theorem dL_goes_842 : decode cL_goes 842 = .ok (.iload 16, 2) := by decide +kernel
theorem dL_goes_844 : decode cL_goes 844 = .ok (.bipush 100, 2) := by decide +kernel
theorem dL_goes_846 : decode cL_goes 846 = .ok (.irem, 1) := by decide +kernel
theorem dL_goes_847 : decode cL_goes 847 = .ok (.aload 5, 2) := by decide +kernel
theorem dL_goes_849 : decode cL_goes 849 = .ok (.iload 13, 2) := by decide +kernel
theorem dL_goes_851 : decode cL_goes 851 = .ok (.iaload, 1) := by decide +kernel
theorem dL_goes_852 : decode cL_goes 852 = .ok (.imul, 1) := by decide +kernel
theorem dL_goes_853 : decode cL_goes 853 = .ok (.bipush 100, 2) := by decide +kernel
theorem dL_goes_855 : decode cL_goes 855 = .ok (.idiv, 1) := by decide +kernel
theorem dL_goes_856 : decode cL_goes 856 = .ok (.iadd, 1) := by decide +kernel
theorem dL_goes_857 : decode cL_goes 857 = .ok (.goto 4, 3) := by decide +kernel
theorem dL_goes_860 : decode cL_goes 860 = .ok (.iconst 0, 1) := by decide +kernel
theorem dL_goes_861 : decode cL_goes 861 = .ok (.istore 18, 2) := by decide +kernel
theorem dL_goes_863 : decode cL_goes 863 = .ok (.iload 15, 2) := by decide +kernel
theorem dL_goes_865 : decode cL_goes 865 = .ok (.ifCond .eq 32, 3) := by decide +kernel
theorem dL_goes_868 : decode cL_goes 868 = .ok (.iload 17, 2) := by decide +kernel
theorem dL_goes_870 : decode cL_goes 870 = .ok (.ifCond .eq 27, 3) := by decide +kernel
theorem dL_goes_873 : decode cL_goes 873 = .ok (.aload 5, 2) := by decide +kernel
theorem dL_goes_875 : decode cL_goes 875 = .ok (.bipush 8, 2) := by decide +kernel
theorem dL_goes_877 : decode cL_goes 877 = .ok (.iload 13, 2) := by decide +kernel
theorem dL_goes_879 : decode cL_goes 879 = .ok (.iadd, 1) := by decide +kernel
theorem dL_goes_880 : decode cL_goes 880 = .ok (.dup2, 1) := by decide +kernel
theorem dL_goes_881 : decode cL_goes 881 = .ok (.iaload, 1) := by decide +kernel
theorem dL_goes_882 : decode cL_goes 882 = .ok (.iload 18, 2) := by decide +kernel
theorem dL_goes_884 : decode cL_goes 884 = .ok (.iadd, 1) := by decide +kernel
theorem dL_goes_885 : decode cL_goes 885 = .ok (.iastore, 1) := by decide +kernel
theorem dL_goes_886 : decode cL_goes 886 = .ok (.aload 10, 2) := by decide +kernel
theorem dL_goes_888 : decode cL_goes 888 = .ok (.iload 13, 2) := by decide +kernel
theorem dL_goes_890 : decode cL_goes 890 = .ok (.dup2, 1) := by decide +kernel
theorem dL_goes_891 : decode cL_goes 891 = .ok (.laload, 1) := by decide +kernel
theorem dL_goes_892 : decode cL_goes 892 = .ok (.iload 18, 2) := by decide +kernel
theorem dL_goes_894 : decode cL_goes 894 = .ok (.i2l, 1) := by decide +kernel
theorem dL_goes_895 : decode cL_goes 895 = .ok (.ladd, 1) := by decide +kernel
theorem dL_goes_896 : decode cL_goes 896 = .ok (.lastore, 1) := by decide +kernel
theorem dL_goes_897 : decode cL_goes 897 = .ok (.aload_n 0, 1) := by decide +kernel
theorem dL_goes_898 : decode cL_goes 898 = .ok (.iconst 1, 1) := by decide +kernel
theorem dL_goes_899 : decode cL_goes 899 = .ok (.iload 13, 2) := by decide +kernel
theorem dL_goes_901 : decode cL_goes 901 = .ok (.iload 16, 2) := by decide +kernel
theorem dL_goes_903 : decode cL_goes 903 = .ok (.invokestatic 113, 3) := by decide +kernel
theorem dL_goes_906 : decode cL_goes 906 = .ok (.iload 14, 2) := by decide +kernel
theorem dL_goes_908 : decode cL_goes 908 = .ok (.ifCond .ne 8, 3) := by decide +kernel
theorem dL_goes_911 : decode cL_goes 911 = .ok (.bipush (-101), 2) := by decide +kernel
theorem dL_goes_913 : decode cL_goes 913 = .ok (.goto 25, 3) := by decide +kernel
theorem dL_goes_916 : decode cL_goes 916 = .ok (.iload 17, 2) := by decide +kernel
theorem dL_goes_918 : decode cL_goes 918 = .ok (.ifCond .ne 8, 3) := by decide +kernel
theorem dL_goes_921 : decode cL_goes 921 = .ok (.bipush (-102), 2) := by decide +kernel
theorem dL_goes_923 : decode cL_goes 923 = .ok (.goto 15, 3) := by decide +kernel
theorem dL_goes_926 : decode cL_goes 926 = .ok (.iload 15, 2) := by decide +kernel
theorem dL_goes_928 : decode cL_goes 928 = .ok (.ifCond .eq 8, 3) := by decide +kernel
theorem dL_goes_931 : decode cL_goes 931 = .ok (.iload 18, 2) := by decide +kernel
theorem dL_goes_933 : decode cL_goes 933 = .ok (.goto 5, 3) := by decide +kernel
theorem dL_goes_936 : decode cL_goes 936 = .ok (.bipush (-103), 2) := by decide +kernel
theorem dL_goes_938 : decode cL_goes 938 = .ok (.if_icmp .ne 7, 3) := by decide +kernel
theorem dL_goes_941 : decode cL_goes 941 = .ok (.iconst 1, 1) := by decide +kernel
theorem dL_goes_942 : decode cL_goes 942 = .ok (.goto 4, 3) := by decide +kernel
theorem dL_goes_945 : decode cL_goes 945 = .ok (.iconst 0, 1) := by decide +kernel
theorem dL_goes_946 : decode cL_goes 946 = .ok (.ireturn, 1) := by decide +kernel
theorem dL_sells_0 : decode cL_sells 0 = .ok (.iload_n 1, 1) := by decide +kernel
theorem dL_sells_1 : decode cL_sells 1 = .ok (.iconst 4, 1) := by decide +kernel
theorem dL_sells_2 : decode cL_sells 2 = .ok (.ishr, 1) := by decide +kernel
theorem dL_sells_3 : decode cL_sells 3 = .ok (.aload_n 2, 1) := by decide +kernel
theorem dL_sells_4 : decode cL_sells 4 = .ok (.iconst 1, 1) := by decide +kernel
theorem dL_sells_5 : decode cL_sells 5 = .ok (.iaload, 1) := by decide +kernel
theorem dL_sells_6 : decode cL_sells 6 = .ok (.iconst 1, 1) := by decide +kernel
theorem dL_sells_7 : decode cL_sells 7 = .ok (.iadd, 1) := by decide +kernel
theorem dL_sells_8 : decode cL_sells 8 = .ok (.invokestatic 93, 3) := by decide +kernel
theorem dL_sells_11 : decode cL_sells 11 = .ok (.istore 9, 2) := by decide +kernel
theorem dL_sells_13 : decode cL_sells 13 = .ok (.iload 9, 2) := by decide +kernel
theorem dL_sells_15 : decode cL_sells 15 = .ok (.aload_n 2, 1) := by decide +kernel
theorem dL_sells_16 : decode cL_sells 16 = .ok (.iconst 1, 1) := by decide +kernel
theorem dL_sells_17 : decode cL_sells 17 = .ok (.iaload, 1) := by decide +kernel
theorem dL_sells_18 : decode cL_sells 18 = .ok (.if_icmp .ge 7, 3) := by decide +kernel
theorem dL_sells_21 : decode cL_sells 21 = .ok (.iconst 1, 1) := by decide +kernel
theorem dL_sells_22 : decode cL_sells 22 = .ok (.goto 4, 3) := by decide +kernel
theorem dL_sells_25 : decode cL_sells 25 = .ok (.iconst 0, 1) := by decide +kernel
theorem dL_sells_26 : decode cL_sells 26 = .ok (.istore 10, 2) := by decide +kernel
theorem dL_sells_28 : decode cL_sells 28 = .ok (.iconst 0, 1) := by decide +kernel
theorem dL_sells_29 : decode cL_sells 29 = .ok (.istore 11, 2) := by decide +kernel
theorem dL_sells_31 : decode cL_sells 31 = .ok (.iconst 0, 1) := by decide +kernel
theorem dL_sells_32 : decode cL_sells 32 = .ok (.istore 12, 2) := by decide +kernel
theorem dL_sells_34 : decode cL_sells 34 = .ok (.iload 12, 2) := by decide +kernel
theorem dL_sells_36 : decode cL_sells 36 = .ok (.bipush 10, 2) := by decide +kernel
theorem dL_sells_38 : decode cL_sells 38 = .ok (.if_icmp .ge 30, 3) := by decide +kernel
theorem dL_sells_41 : decode cL_sells 41 = .ok (.iload 10, 2) := by decide +kernel
theorem dL_sells_43 : decode cL_sells 43 = .ok (.ifCond .eq 25, 3) := by decide +kernel
theorem dL_sells_46 : decode cL_sells 46 = .ok (.iload 11, 2) := by decide +kernel
theorem dL_sells_48 : decode cL_sells 48 = .ok (.aload 5, 2) := by decide +kernel
theorem dL_sells_50 : decode cL_sells 50 = .ok (.bipush 10, 2) := by decide +kernel
theorem dL_sells_52 : decode cL_sells 52 = .ok (.iload 9, 2) := by decide +kernel
theorem dL_sells_54 : decode cL_sells 54 = .ok (.imul, 1) := by decide +kernel
theorem dL_sells_55 : decode cL_sells 55 = .ok (.iload 12, 2) := by decide +kernel
theorem dL_sells_57 : decode cL_sells 57 = .ok (.iadd, 1) := by decide +kernel
theorem dL_sells_58 : decode cL_sells 58 = .ok (.iaload, 1) := by decide +kernel
theorem dL_sells_59 : decode cL_sells 59 = .ok (.iadd, 1) := by decide +kernel
theorem dL_sells_60 : decode cL_sells 60 = .ok (.istore 11, 2) := by decide +kernel
theorem dL_sells_62 : decode cL_sells 62 = .ok (.iinc 12 1, 3) := by decide +kernel
theorem dL_sells_65 : decode cL_sells 65 = .ok (.goto (-31), 3) := by decide +kernel
theorem dL_sells_68 : decode cL_sells 68 = .ok (.iload_n 1, 1) := by decide +kernel
theorem dL_sells_69 : decode cL_sells 69 = .ok (.bipush 30, 2) := by decide +kernel
theorem dL_sells_71 : decode cL_sells 71 = .ok (.invokestatic 93, 3) := by decide +kernel
theorem dL_sells_74 : decode cL_sells 74 = .ok (.ifCond .ne 16, 3) := by decide +kernel
theorem dL_sells_77 : decode cL_sells 77 = .ok (.ldc 122, 2) := by decide +kernel
theorem dL_sells_79 : decode cL_sells 79 = .ok (.iload_n 1, 1) := by decide +kernel
theorem dL_sells_80 : decode cL_sells 80 = .ok (.iconst 3, 1) := by decide +kernel
theorem dL_sells_81 : decode cL_sells 81 = .ok (.ishr, 1) := by decide +kernel
theorem dL_sells_82 : decode cL_sells 82 = .ok (.iconst 2, 1) := by decide +kernel
theorem dL_sells_83 : decode cL_sells 83 = .ok (.invokestatic 93, 3) := by decide +kernel
theorem dL_sells_86 : decode cL_sells 86 = .ok (.imul, 1) := by decide +kernel
theorem dL_sells_87 : decode cL_sells 87 = .ok (.goto 41, 3) := by decide +kernel
theorem dL_sells_90 : decode cL_sells 90 = .ok (.iload_n 1, 1) := by decide +kernel
theorem dL_sells_91 : decode cL_sells 91 = .ok (.bipush 12, 2) := by decide +kernel
theorem dL_sells_93 : decode cL_sells 93 = .ok (.invokestatic 93, 3) := by decide +kernel
theorem dL_sells_96 : decode cL_sells 96 = .ok (.ifCond .ne 10, 3) := by decide +kernel
theorem dL_sells_99 : decode cL_sells 99 = .ok (.iload 11, 2) := by decide +kernel
theorem dL_sells_101 : decode cL_sells 101 = .ok (.iconst 1, 1) := by decide +kernel
theorem dL_sells_102 : decode cL_sells 102 = .ok (.iadd, 1) := by decide +kernel
theorem dL_sells_103 : decode cL_sells 103 = .ok (.goto 25, 3) := by decide +kernel
theorem dL_sells_106 : decode cL_sells 106 = .ok (.iconst 1, 1) := by decide +kernel
theorem dL_sells_107 : decode cL_sells 107 = .ok (.iload_n 1, 1) := by decide +kernel
theorem dL_sells_108 : decode cL_sells 108 = .ok (.iconst 2, 1) := by decide +kernel
theorem dL_sells_109 : decode cL_sells 109 = .ok (.ishr, 1) := by decide +kernel
theorem dL_sells_110 : decode cL_sells 110 = .ok (.iload 11, 2) := by decide +kernel
theorem dL_sells_112 : decode cL_sells 112 = .ok (.iconst 4, 1) := by decide +kernel
theorem dL_sells_113 : decode cL_sells 113 = .ok (.if_icmp .le 10, 3) := by decide +kernel
theorem dL_sells_116 : decode cL_sells 116 = .ok (.iload 11, 2) := by decide +kernel
theorem dL_sells_118 : decode cL_sells 118 = .ok (.iconst 2, 1) := by decide +kernel
theorem dL_sells_119 : decode cL_sells 119 = .ok (.idiv, 1) := by decide +kernel
theorem dL_sells_120 : decode cL_sells 120 = .ok (.goto 4, 3) := by decide +kernel
theorem dL_sells_123 : decode cL_sells 123 = .ok (.iconst 3, 1) := by decide +kernel
theorem dL_sells_124 : decode cL_sells 124 = .ok (.invokestatic 93, 3) := by decide +kernel
theorem dL_sells_127 : decode cL_sells 127 = .ok (.iadd, 1) := by decide +kernel
theorem dL_sells_128 : decode cL_sells 128 = .ok (.istore 12, 2) := by decide +kernel
theorem dL_sells_130 : decode cL_sells 130 = .ok (.iload 12, 2) := by decide +kernel
theorem dL_sells_132 : decode cL_sells 132 = .ok (.ifCond .le 14, 3) := by decide +kernel
theorem dL_sells_135 : decode cL_sells 135 = .ok (.iload 12, 2) := by decide +kernel
theorem dL_sells_137 : decode cL_sells 137 = .ok (.ldc 122, 2) := by decide +kernel
theorem dL_sells_139 : decode cL_sells 139 = .ok (.if_icmp .ge 7, 3) := by decide +kernel
theorem dL_sells_142 : decode cL_sells 142 = .ok (.iconst 1, 1) := by decide +kernel
theorem dL_sells_143 : decode cL_sells 143 = .ok (.goto 4, 3) := by decide +kernel
theorem dL_sells_146 : decode cL_sells 146 = .ok (.iconst 0, 1) := by decide +kernel
theorem dL_sells_147 : decode cL_sells 147 = .ok (.istore 13, 2) := by decide +kernel
theorem dL_sells_149 : decode cL_sells 149 = .ok (.iload 10, 2) := by decide +kernel
theorem dL_sells_151 : decode cL_sells 151 = .ok (.ifCond .ne 8, 3) := by decide +kernel
theorem dL_sells_154 : decode cL_sells 154 = .ok (.bipush (-101), 2) := by decide +kernel
theorem dL_sells_156 : decode cL_sells 156 = .ok (.goto 26, 3) := by decide +kernel
theorem dL_sells_159 : decode cL_sells 159 = .ok (.iload 13, 2) := by decide +kernel
theorem dL_sells_161 : decode cL_sells 161 = .ok (.ifCond .ne 8, 3) := by decide +kernel
theorem dL_sells_164 : decode cL_sells 164 = .ok (.bipush (-102), 2) := by decide +kernel
theorem dL_sells_166 : decode cL_sells 166 = .ok (.goto 16, 3) := by decide +kernel
theorem dL_sells_169 : decode cL_sells 169 = .ok (.iload 12, 2) := by decide +kernel
theorem dL_sells_171 : decode cL_sells 171 = .ok (.iload 11, 2) := by decide +kernel
theorem dL_sells_173 : decode cL_sells 173 = .ok (.if_icmp .le 8, 3) := by decide +kernel
theorem dL_sells_176 : decode cL_sells 176 = .ok (.bipush (-103), 2) := by decide +kernel
theorem dL_sells_178 : decode cL_sells 178 = .ok (.goto 4, 3) := by decide +kernel
theorem dL_sells_181 : decode cL_sells 181 = .ok (.iconst 0, 1) := by decide +kernel
theorem dL_sells_182 : decode cL_sells 182 = .ok (.istore 14, 2) := by decide +kernel
theorem dL_sells_184 : decode cL_sells 184 = .ok (.iload 14, 2) := by decide +kernel
theorem dL_sells_186 : decode cL_sells 186 = .ok (.ifCond .ne 8, 3) := by decide +kernel
theorem dL_sells_189 : decode cL_sells 189 = .ok (.iload 12, 2) := by decide +kernel
theorem dL_sells_191 : decode cL_sells 191 = .ok (.goto 4, 3) := by decide +kernel
theorem dL_sells_194 : decode cL_sells 194 = .ok (.iconst 0, 1) := by decide +kernel
theorem dL_sells_195 : decode cL_sells 195 = .ok (.istore 15, 2) := by decide +kernel
theorem dL_sells_197 : decode cL_sells 197 = .ok (.bipush 10, 2) := by decide +kernel
theorem dL_sells_199 : decode cL_sells 199 = .ok (.iload 9, 2) := by decide +kernel
theorem dL_sells_201 : decode cL_sells 201 = .ok (.imul, 1) := by decide +kernel
theorem dL_sells_202 : decode cL_sells 202 = .ok (.istore 16, 2) := by decide +kernel
theorem dL_sells_204 : decode cL_sells 204 = .ok (.iload 15, 2) := by decide +kernel
theorem dL_sells_206 : decode cL_sells 206 = .ok (.ifCond .le 147, 3) := by decide +kernel
theorem dL_sells_209 : decode cL_sells 209 = .ok (.aload 5, 2) := by decide +kernel
theorem dL_sells_211 : decode cL_sells 211 = .ok (.iload 16, 2) := by decide +kernel
theorem dL_sells_213 : decode cL_sells 213 = .ok (.iaload, 1) := by decide +kernel
theorem dL_sells_214 : decode cL_sells 214 = .ok (.iload 15, 2) := by decide +kernel
theorem dL_sells_216 : decode cL_sells 216 = .ok (.if_icmp .ge 11, 3) := by decide +kernel
theorem dL_sells_219 : decode cL_sells 219 = .ok (.aload 5, 2) := by decide +kernel
theorem dL_sells_221 : decode cL_sells 221 = .ok (.iload 16, 2) := by decide +kernel
theorem dL_sells_223 : decode cL_sells 223 = .ok (.iaload, 1) := by decide +kernel
theorem dL_sells_224 : decode cL_sells 224 = .ok (.goto 5, 3) := by decide +kernel
theorem dL_sells_227 : decode cL_sells 227 = .ok (.iload 15, 2) := by decide +kernel
theorem dL_sells_229 : decode cL_sells 229 = .ok (.istore 17, 2) := by decide +kernel
theorem dL_sells_231 : decode cL_sells 231 = .ok (.iload 17, 2) := by decide +kernel
theorem dL_sells_233 : decode cL_sells 233 = .ok (.ifCond .le 17, 3) := by decide +kernel
theorem dL_sells_236 : decode cL_sells 236 = .ok (.aload_n 2, 1) := by decide +kernel
theorem dL_sells_237 : decode cL_sells 237 = .ok (.aload_n 3, 1) := by decide +kernel
theorem dL_sells_238 : decode cL_sells 238 = .ok (.aload 6, 2) := by decide +kernel
theorem dL_sells_240 : decode cL_sells 240 = .ok (.aload 7, 2) := by decide +kernel
theorem dL_sells_242 : decode cL_sells 242 = .ok (.iload 16, 2) := by decide +kernel
theorem dL_sells_244 : decode cL_sells 244 = .ok (.invokestatic 123, 3) := by decide +kernel
theorem dL_sells_247 : decode cL_sells 247 = .ok (.goto 4, 3) := by decide +kernel
theorem dL_sells_250 : decode cL_sells 250 = .ok (.iconst 0, 1) := by decide +kernel
theorem dL_sells_251 : decode cL_sells 251 = .ok (.istore 18, 2) := by decide +kernel
theorem dL_sells_253 : decode cL_sells 253 = .ok (.aload 8, 2) := by decide +kernel
theorem dL_sells_255 : decode cL_sells 255 = .ok (.bipush 8, 2) := by decide +kernel
theorem dL_sells_257 : decode cL_sells 257 = .ok (.iload 9, 2) := by decide +kernel
theorem dL_sells_259 : decode cL_sells 259 = .ok (.iadd, 1) := by decide +kernel
theorem dL_sells_260 : decode cL_sells 260 = .ok (.dup2, 1) := by decide +kernel
theorem dL_sells_261 : decode cL_sells 261 = .ok (.laload, 1) := by decide +kernel
theorem dL_sells_262 : decode cL_sells 262 = .ok (.iload 17, 2) := by decide +kernel
theorem dL_sells_264 : decode cL_sells 264 = .ok (.i2l, 1) := by decide +kernel
theorem dL_sells_265 : decode cL_sells 265 = .ok (.iload 18, 2) := by decide +kernel
theorem dL_sells_267 : decode cL_sells 267 = .ok (.i2l, 1) := by decide +kernel
theorem dL_sells_268 : decode cL_sells 268 = .ok (.lmul, 1) := by decide +kernel
theorem dL_sells_269 : decode cL_sells 269 = .ok (.ladd, 1) := by decide +kernel
theorem dL_sells_270 : decode cL_sells 270 = .ok (.lastore, 1) := by decide +kernel
theorem dL_sells_271 : decode cL_sells 271 = .ok (.aload 8, 2) := by decide +kernel
theorem dL_sells_273 : decode cL_sells 273 = .ok (.bipush 12, 2) := by decide +kernel
theorem dL_sells_275 : decode cL_sells 275 = .ok (.iload 9, 2) := by decide +kernel
theorem dL_sells_277 : decode cL_sells 277 = .ok (.iadd, 1) := by decide +kernel
theorem dL_sells_278 : decode cL_sells 278 = .ok (.dup2, 1) := by decide +kernel
theorem dL_sells_279 : decode cL_sells 279 = .ok (.laload, 1) := by decide +kernel
theorem dL_sells_280 : decode cL_sells 280 = .ok (.iload 17, 2) := by decide +kernel
theorem dL_sells_282 : decode cL_sells 282 = .ok (.i2l, 1) := by decide +kernel
theorem dL_sells_283 : decode cL_sells 283 = .ok (.aload_n 3, 1) := by decide +kernel
theorem dL_sells_284 : decode cL_sells 284 = .ok (.aload_n 2, 1) := by decide +kernel
theorem dL_sells_285 : decode cL_sells 285 = .ok (.iconst 0, 1) := by decide +kernel
theorem dL_sells_286 : decode cL_sells 286 = .ok (.iaload, 1) := by decide +kernel
theorem dL_sells_287 : decode cL_sells 287 = .ok (.iconst 1, 1) := by decide +kernel
theorem dL_sells_288 : decode cL_sells 288 = .ok (.isub, 1) := by decide +kernel
theorem dL_sells_289 : decode cL_sells 289 = .ok (.iaload, 1) := by decide +kernel
theorem dL_sells_290 : decode cL_sells 290 = .ok (.aload 6, 2) := by decide +kernel
theorem dL_sells_292 : decode cL_sells 292 = .ok (.iload 16, 2) := by decide +kernel
theorem dL_sells_294 : decode cL_sells 294 = .ok (.iaload, 1) := by decide +kernel
theorem dL_sells_295 : decode cL_sells 295 = .ok (.isub, 1) := by decide +kernel
theorem dL_sells_296 : decode cL_sells 296 = .ok (.iload 18, 2) := by decide +kernel
theorem dL_sells_298 : decode cL_sells 298 = .ok (.isub, 1) := by decide +kernel
theorem dL_sells_299 : decode cL_sells 299 = .ok (.i2l, 1) := by decide +kernel
theorem dL_sells_300 : decode cL_sells 300 = .ok (.lmul, 1) := by decide +kernel
theorem dL_sells_301 : decode cL_sells 301 = .ok (.ladd, 1) := by decide +kernel
theorem dL_sells_302 : decode cL_sells 302 = .ok (.lastore, 1) := by decide +kernel
theorem dL_sells_303 : decode cL_sells 303 = .ok (.iload 14, 2) := by decide +kernel
theorem dL_sells_305 : decode cL_sells 305 = .ok (.iload 17, 2) := by decide +kernel
theorem dL_sells_307 : decode cL_sells 307 = .ok (.ifCond .le 19, 3) := by decide +kernel
theorem dL_sells_310 : decode cL_sells 310 = .ok (.aload_n 2, 1) := by decide +kernel
theorem dL_sells_311 : decode cL_sells 311 = .ok (.aload 7, 2) := by decide +kernel
theorem dL_sells_313 : decode cL_sells 313 = .ok (.iload 16, 2) := by decide +kernel
theorem dL_sells_315 : decode cL_sells 315 = .ok (.invokestatic 16, 3) := by decide +kernel
theorem dL_sells_318 : decode cL_sells 318 = .ok (.ifCond .eq 8, 3) := by decide +kernel
theorem dL_sells_321 : decode cL_sells 321 = .ok (.iload 17, 2) := by decide +kernel
theorem dL_sells_323 : decode cL_sells 323 = .ok (.goto 4, 3) := by decide +kernel
theorem dL_sells_326 : decode cL_sells 326 = .ok (.iconst 0, 1) := by decide +kernel
theorem dL_sells_327 : decode cL_sells 327 = .ok (.iadd, 1) := by decide +kernel
theorem dL_sells_328 : decode cL_sells 328 = .ok (.istore 14, 2) := by decide +kernel
theorem dL_sells_330 : decode cL_sells 330 = .ok (.aload 5, 2) := by decide +kernel
theorem dL_sells_332 : decode cL_sells 332 = .ok (.iload 16, 2) := by decide +kernel
theorem dL_sells_334 : decode cL_sells 334 = .ok (.dup2, 1) := by decide +kernel
theorem dL_sells_335 : decode cL_sells 335 = .ok (.iaload, 1) := by decide +kernel
theorem dL_sells_336 : decode cL_sells 336 = .ok (.iload 17, 2) := by decide +kernel
theorem dL_sells_338 : decode cL_sells 338 = .ok (.isub, 1) := by decide +kernel
theorem dL_sells_339 : decode cL_sells 339 = .ok (.iastore, 1) := by decide +kernel
theorem dL_sells_340 : decode cL_sells 340 = .ok (.iload 15, 2) := by decide +kernel
theorem dL_sells_342 : decode cL_sells 342 = .ok (.iload 17, 2) := by decide +kernel
theorem dL_sells_344 : decode cL_sells 344 = .ok (.isub, 1) := by decide +kernel
theorem dL_sells_345 : decode cL_sells 345 = .ok (.istore 15, 2) := by decide +kernel
theorem dL_sells_347 : decode cL_sells 347 = .ok (.iinc 16 1, 3) := by decide +kernel
theorem dL_sells_350 : decode cL_sells 350 = .ok (.goto (-146), 3) := by decide +kernel
theorem dL_sells_353 : decode cL_sells 353 = .ok (.aload_n 0, 1) := by decide +kernel
theorem dL_sells_354 : decode cL_sells 354 = .ok (.iconst 2, 1) := by decide +kernel
theorem dL_sells_355 : decode cL_sells 355 = .ok (.iload 9, 2) := by decide +kernel
theorem dL_sells_357 : decode cL_sells 357 = .ok (.iload 12, 2) := by decide +kernel
theorem dL_sells_359 : decode cL_sells 359 = .ok (.invokestatic 113, 3) := by decide +kernel
theorem dL_sells_362 : decode cL_sells 362 = .ok (.iload 14, 2) := by decide +kernel
theorem dL_sells_364 : decode cL_sells 364 = .ok (.if_icmp .ne 7, 3) := by decide +kernel
theorem dL_sells_367 : decode cL_sells 367 = .ok (.iconst 1, 1) := by decide +kernel
theorem dL_sells_368 : decode cL_sells 368 = .ok (.goto 4, 3) := by decide +kernel
theorem dL_sells_371 : decode cL_sells 371 = .ok (.iconst 0, 1) := by decide +kernel
theorem dL_sells_372 : decode cL_sells 372 = .ok (.ireturn, 1) := by decide +kernel
theorem dL_tells_0 : decode cL_tells 0 = .ok (.ldc2_w 91, 3) := by decide +kernel
theorem dL_tells_3 : decode cL_tells 3 = .ok (.lstore 10, 2) := by decide +kernel
theorem dL_tells_5 : decode cL_tells 5 = .ok (.iload_n 1, 1) := by decide +kernel
theorem dL_tells_6 : decode cL_tells 6 = .ok (.bipush 30, 2) := by decide +kernel
theorem dL_tells_8 : decode cL_tells 8 = .ok (.invokestatic 93, 3) := by decide +kernel
theorem dL_tells_11 : decode cL_tells 11 = .ok (.ifCond .ne 8, 3) := by decide +kernel
theorem dL_tells_14 : decode cL_tells 14 = .ok (.bipush 60, 2) := by decide +kernel
theorem dL_tells_16 : decode cL_tells 16 = .ok (.goto 33, 3) := by decide +kernel
theorem dL_tells_19 : decode cL_tells 19 = .ok (.iload_n 1, 1) := by decide +kernel
theorem dL_tells_20 : decode cL_tells 20 = .ok (.iconst 2, 1) := by decide +kernel
theorem dL_tells_21 : decode cL_tells 21 = .ok (.ishr, 1) := by decide +kernel
theorem dL_tells_22 : decode cL_tells 22 = .ok (.iconst 3, 1) := by decide +kernel
theorem dL_tells_23 : decode cL_tells 23 = .ok (.invokestatic 93, 3) := by decide +kernel
theorem dL_tells_26 : decode cL_tells 26 = .ok (.ifCond .ne 12, 3) := by decide +kernel
theorem dL_tells_29 : decode cL_tells 29 = .ok (.iload_n 1, 1) := by decide +kernel
theorem dL_tells_30 : decode cL_tells 30 = .ok (.bipush 60, 2) := by decide +kernel
theorem dL_tells_32 : decode cL_tells 32 = .ok (.invokestatic 93, 3) := by decide +kernel
theorem dL_tells_35 : decode cL_tells 35 = .ok (.goto 14, 3) := by decide +kernel
theorem dL_tells_38 : decode cL_tells 38 = .ok (.iload_n 1, 1) := by decide +kernel
theorem dL_tells_39 : decode cL_tells 39 = .ok (.bipush 10, 2) := by decide +kernel
theorem dL_tells_41 : decode cL_tells 41 = .ok (.invokestatic 93, 3) := by decide +kernel
theorem dL_tells_44 : decode cL_tells 44 = .ok (.bipush 6, 2) := by decide +kernel
theorem dL_tells_46 : decode cL_tells 46 = .ok (.imul, 1) := by decide +kernel
theorem dL_tells_47 : decode cL_tells 47 = .ok (.iconst 5, 1) := by decide +kernel
theorem dL_tells_48 : decode cL_tells 48 = .ok (.iadd, 1) := by decide +kernel
theorem dL_tells_49 : decode cL_tells 49 = .ok (.istore 12, 2) := by decide +kernel
theorem dL_tells_51 : decode cL_tells 51 = .ok (.iload_n 1, 1) := by decide +kernel
theorem dL_tells_52 : decode cL_tells 52 = .ok (.iconst 5, 1) := by decide +kernel
theorem dL_tells_53 : decode cL_tells 53 = .ok (.ishr, 1) := by decide +kernel
theorem dL_tells_54 : decode cL_tells 54 = .ok (.bipush 6, 2) := by decide +kernel
theorem dL_tells_56 : decode cL_tells 56 = .ok (.invokestatic 93, 3) := by decide +kernel
theorem dL_tells_59 : decode cL_tells 59 = .ok (.istore 13, 2) := by decide +kernel
theorem dL_tells_61 : decode cL_tells 61 = .ok (.iconst 0, 1) := by decide +kernel
theorem dL_tells_62 : decode cL_tells 62 = .ok (.istore 14, 2) := by decide +kernel
theorem dL_tells_64 : decode cL_tells 64 = .ok (.iload 14, 2) := by decide +kernel
theorem dL_tells_66 : decode cL_tells 66 = .ok (.aload_n 2, 1) := by decide +kernel
theorem dL_tells_67 : decode cL_tells 67 = .ok (.iconst 1, 1) := by decide +kernel
theorem dL_tells_68 : decode cL_tells 68 = .ok (.iaload, 1) := by decide +kernel
theorem dL_tells_69 : decode cL_tells 69 = .ok (.if_icmp .gt 640, 3) := by decide +kernel
theorem dL_tells_72 : decode cL_tells 72 = .ok (.iload 14, 2) := by decide +kernel
theorem dL_tells_74 : decode cL_tells 74 = .ok (.aload_n 2, 1) := by decide +kernel
theorem dL_tells_75 : decode cL_tells 75 = .ok (.iconst 1, 1) := by decide +kernel
theorem dL_tells_76 : decode cL_tells 76 = .ok (.iaload, 1) := by decide +kernel
theorem dL_tells_77 : decode cL_tells 77 = .ok (.if_icmp .ge 7, 3) := by decide +kernel
theorem dL_tells_80 : decode cL_tells 80 = .ok (.iconst 1, 1) := by decide +kernel
theorem dL_tells_81 : decode cL_tells 81 = .ok (.goto 4, 3) := by decide +kernel
theorem dL_tells_84 : decode cL_tells 84 = .ok (.iconst 0, 1) := by decide +kernel
theorem dL_tells_85 : decode cL_tells 85 = .ok (.istore 15, 2) := by decide +kernel
theorem dL_tells_87 : decode cL_tells 87 = .ok (.iconst 0, 1) := by decide +kernel
theorem dL_tells_88 : decode cL_tells 88 = .ok (.istore 16, 2) := by decide +kernel
theorem dL_tells_90 : decode cL_tells 90 = .ok (.lconst 0, 1) := by decide +kernel
theorem dL_tells_91 : decode cL_tells 91 = .ok (.lstore 17, 2) := by decide +kernel
theorem dL_tells_93 : decode cL_tells 93 = .ok (.bipush 10, 2) := by decide +kernel
theorem dL_tells_95 : decode cL_tells 95 = .ok (.iload 14, 2) := by decide +kernel
theorem dL_tells_97 : decode cL_tells 97 = .ok (.imul, 1) := by decide +kernel
theorem dL_tells_98 : decode cL_tells 98 = .ok (.istore 19, 2) := by decide +kernel
theorem dL_tells_100 : decode cL_tells 100 = .ok (.iload 19, 2) := by decide +kernel
theorem dL_tells_102 : decode cL_tells 102 = .ok (.bipush 10, 2) := by decide +kernel
theorem dL_tells_104 : decode cL_tells 104 = .ok (.iload 14, 2) := by decide +kernel
theorem dL_tells_106 : decode cL_tells 106 = .ok (.imul, 1) := by decide +kernel
theorem dL_tells_107 : decode cL_tells 107 = .ok (.bipush 10, 2) := by decide +kernel
theorem dL_tells_109 : decode cL_tells 109 = .ok (.iadd, 1) := by decide +kernel
theorem dL_tells_110 : decode cL_tells 110 = .ok (.if_icmp .ge 74, 3) := by decide +kernel
theorem dL_tells_113 : decode cL_tells 113 = .ok (.iload 15, 2) := by decide +kernel
theorem dL_tells_115 : decode cL_tells 115 = .ok (.ifCond .eq 69, 3) := by decide +kernel
theorem dL_tells_118 : decode cL_tells 118 = .ok (.iload 16, 2) := by decide +kernel
theorem dL_tells_120 : decode cL_tells 120 = .ok (.aload 6, 2) := by decide +kernel
theorem dL_tells_122 : decode cL_tells 122 = .ok (.iload 19, 2) := by decide +kernel
theorem dL_tells_124 : decode cL_tells 124 = .ok (.iaload, 1) := by decide +kernel
theorem dL_tells_125 : decode cL_tells 125 = .ok (.iadd, 1) := by decide +kernel
theorem dL_tells_126 : decode cL_tells 126 = .ok (.istore 16, 2) := by decide +kernel
theorem dL_tells_128 : decode cL_tells 128 = .ok (.lload 17, 2) := by decide +kernel
theorem dL_tells_130 : decode cL_tells 130 = .ok (.aload 6, 2) := by decide +kernel
theorem dL_tells_132 : decode cL_tells 132 = .ok (.iload 19, 2) := by decide +kernel
theorem dL_tells_134 : decode cL_tells 134 = .ok (.iaload, 1) := by decide +kernel
theorem dL_tells_135 : decode cL_tells 135 = .ok (.ifCond .le 39, 3) := by decide +kernel
theorem dL_tells_138 : decode cL_tells 138 = .ok (.aload 6, 2) := by decide +kernel
theorem dL_tells_140 : decode cL_tells 140 = .ok (.iload 19, 2) := by decide +kernel
theorem dL_tells_142 : decode cL_tells 142 = .ok (.iaload, 1) := by decide +kernel
theorem dL_tells_143 : decode cL_tells 143 = .ok (.i2l, 1) := by decide +kernel
theorem dL_tells_144 : decode cL_tells 144 = .ok (.aload_n 3, 1) := by decide +kernel
theorem dL_tells_145 : decode cL_tells 145 = .ok (.aload_n 2, 1) := by decide +kernel
theorem dL_tells_146 : decode cL_tells 146 = .ok (.iconst 0, 1) := by decide +kernel
theorem dL_tells_147 : decode cL_tells 147 = .ok (.iaload, 1) := by decide +kernel
theorem dL_tells_148 : decode cL_tells 148 = .ok (.iconst 1, 1) := by decide +kernel
theorem dL_tells_149 : decode cL_tells 149 = .ok (.isub, 1) := by decide +kernel
theorem dL_tells_150 : decode cL_tells 150 = .ok (.iaload, 1) := by decide +kernel
theorem dL_tells_151 : decode cL_tells 151 = .ok (.aload 7, 2) := by decide +kernel
theorem dL_tells_153 : decode cL_tells 153 = .ok (.iload 19, 2) := by decide +kernel
theorem dL_tells_155 : decode cL_tells 155 = .ok (.iaload, 1) := by decide +kernel
theorem dL_tells_156 : decode cL_tells 156 = .ok (.isub, 1) := by decide +kernel
theorem dL_tells_157 : decode cL_tells 157 = .ok (.aload_n 2, 1) := by decide +kernel
theorem dL_tells_158 : decode cL_tells 158 = .ok (.aload_n 3, 1) := by decide +kernel
theorem dL_tells_159 : decode cL_tells 159 = .ok (.aload 7, 2) := by decide +kernel
theorem dL_tells_161 : decode cL_tells 161 = .ok (.aload 8, 2) := by decide +kernel
theorem dL_tells_163 : decode cL_tells 163 = .ok (.iload 19, 2) := by decide +kernel
theorem dL_tells_165 : decode cL_tells 165 = .ok (.invokestatic 123, 3) := by decide +kernel
theorem dL_tells_168 : decode cL_tells 168 = .ok (.isub, 1) := by decide +kernel
theorem dL_tells_169 : decode cL_tells 169 = .ok (.i2l, 1) := by decide +kernel
theorem dL_tells_170 : decode cL_tells 170 = .ok (.lmul, 1) := by decide +kernel
theorem dL_tells_171 : decode cL_tells 171 = .ok (.goto 4, 3) := by decide +kernel
theorem dL_tells_174 : decode cL_tells 174 = .ok (.lconst 0, 1) := by decide +kernel
theorem dL_tells_175 : decode cL_tells 175 = .ok (.ladd, 1) := by decide +kernel
theorem dL_tells_176 : decode cL_tells 176 = .ok (.lstore 17, 2) := by decide +kernel
theorem dL_tells_178 : decode cL_tells 178 = .ok (.iinc 19 1, 3) := by decide +kernel
theorem dL_tells_181 : decode cL_tells 181 = .ok (.goto (-81), 3) := by decide +kernel
theorem dL_tells_184 : decode cL_tells 184 = .ok (.iload 15, 2) := by decide +kernel
theorem dL_tells_186 : decode cL_tells 186 = .ok (.ifCond .eq 40, 3) := by decide +kernel
theorem dL_tells_189 : decode cL_tells 189 = .ok (.iload 12, 2) := by decide +kernel
theorem dL_tells_191 : decode cL_tells 191 = .ok (.bipush 60, 2) := by decide +kernel
theorem dL_tells_193 : decode cL_tells 193 = .ok (.if_icmp .ge 33, 3) := by decide +kernel
theorem dL_tells_196 : decode cL_tells 196 = .ok (.iload 12, 2) := by decide +kernel
theorem dL_tells_198 : decode cL_tells 198 = .ok (.bipush 6, 2) := by decide +kernel
theorem dL_tells_200 : decode cL_tells 200 = .ok (.irem, 1) := by decide +kernel
theorem dL_tells_201 : decode cL_tells 201 = .ok (.iconst 5, 1) := by decide +kernel
theorem dL_tells_202 : decode cL_tells 202 = .ok (.if_icmp .ne 24, 3) := by decide +kernel
theorem dL_tells_205 : decode cL_tells 205 = .ok (.aload 5, 2) := by decide +kernel
theorem dL_tells_207 : decode cL_tells 207 = .ok (.bipush 10, 2) := by decide +kernel
theorem dL_tells_209 : decode cL_tells 209 = .ok (.iload 14, 2) := by decide +kernel
theorem dL_tells_211 : decode cL_tells 211 = .ok (.imul, 1) := by decide +kernel
theorem dL_tells_212 : decode cL_tells 212 = .ok (.iload 12, 2) := by decide +kernel
theorem dL_tells_214 : decode cL_tells 214 = .ok (.bipush 6, 2) := by decide +kernel
theorem dL_tells_216 : decode cL_tells 216 = .ok (.idiv, 1) := by decide +kernel
theorem dL_tells_217 : decode cL_tells 217 = .ok (.iadd, 1) := by decide +kernel
theorem dL_tells_218 : decode cL_tells 218 = .ok (.iaload, 1) := by decide +kernel
theorem dL_tells_219 : decode cL_tells 219 = .ok (.ifCond .le 7, 3) := by decide +kernel
theorem dL_tells_222 : decode cL_tells 222 = .ok (.iconst 1, 1) := by decide +kernel
theorem dL_tells_223 : decode cL_tells 223 = .ok (.goto 4, 3) := by decide +kernel
theorem dL_tells_226 : decode cL_tells 226 = .ok (.iconst 0, 1) := by decide +kernel
theorem dL_tells_227 : decode cL_tells 227 = .ok (.istore 19, 2) := by decide +kernel
theorem dL_tells_229 : decode cL_tells 229 = .ok (.aload_n 0, 1) := by decide +kernel
theorem dL_tells_230 : decode cL_tells 230 = .ok (.iconst 0, 1) := by decide +kernel
theorem dL_tells_231 : decode cL_tells 231 = .ok (.iload 14, 2) := by decide +kernel
theorem dL_tells_233 : decode cL_tells 233 = .ok (.iconst 0, 1) := by decide +kernel
theorem dL_tells_234 : decode cL_tells 234 = .ok (.invokestatic 127, 3) := by decide +kernel
theorem dL_tells_237 : decode cL_tells 237 = .ok (.iload 15, 2) := by decide +kernel
theorem dL_tells_239 : decode cL_tells 239 = .ok (.ifCond .eq 14, 3) := by decide +kernel
theorem dL_tells_242 : decode cL_tells 242 = .ok (.aload 4, 2) := by decide +kernel
theorem dL_tells_244 : decode cL_tells 244 = .ok (.bipush 8, 2) := by decide +kernel
theorem dL_tells_246 : decode cL_tells 246 = .ok (.iload 14, 2) := by decide +kernel
theorem dL_tells_248 : decode cL_tells 248 = .ok (.iadd, 1) := by decide +kernel
theorem dL_tells_249 : decode cL_tells 249 = .ok (.iaload, 1) := by decide +kernel
theorem dL_tells_250 : decode cL_tells 250 = .ok (.goto 5, 3) := by decide +kernel
theorem dL_tells_253 : decode cL_tells 253 = .ok (.bipush (-101), 2) := by decide +kernel
theorem dL_tells_255 : decode cL_tells 255 = .ok (.if_icmp .ne 115, 3) := by decide +kernel
theorem dL_tells_258 : decode cL_tells 258 = .ok (.aload_n 0, 1) := by decide +kernel
theorem dL_tells_259 : decode cL_tells 259 = .ok (.iconst 1, 1) := by decide +kernel
theorem dL_tells_260 : decode cL_tells 260 = .ok (.iload 14, 2) := by decide +kernel
theorem dL_tells_262 : decode cL_tells 262 = .ok (.iconst 0, 1) := by decide +kernel
theorem dL_tells_263 : decode cL_tells 263 = .ok (.invokestatic 127, 3) := by decide +kernel
theorem dL_tells_266 : decode cL_tells 266 = .ok (.iload 15, 2) := by decide +kernel
theorem dL_tells_268 : decode cL_tells 268 = .ok (.ifCond .eq 14, 3) := by decide +kernel
theorem dL_tells_271 : decode cL_tells 271 = .ok (.aload 4, 2) := by decide +kernel
theorem dL_tells_273 : decode cL_tells 273 = .ok (.bipush 12, 2) := by decide +kernel
theorem dL_tells_275 : decode cL_tells 275 = .ok (.iload 14, 2) := by decide +kernel
theorem dL_tells_277 : decode cL_tells 277 = .ok (.iadd, 1) := by decide +kernel
theorem dL_tells_278 : decode cL_tells 278 = .ok (.iaload, 1) := by decide +kernel
theorem dL_tells_279 : decode cL_tells 279 = .ok (.goto 5, 3) := by decide +kernel
theorem dL_tells_282 : decode cL_tells 282 = .ok (.bipush (-101), 2) := by decide +kernel
theorem dL_tells_284 : decode cL_tells 284 = .ok (.if_icmp .ne 86, 3) := by decide +kernel
theorem dL_tells_287 : decode cL_tells 287 = .ok (.aload_n 0, 1) := by decide +kernel
theorem dL_tells_288 : decode cL_tells 288 = .ok (.iconst 2, 1) := by decide +kernel
theorem dL_tells_289 : decode cL_tells 289 = .ok (.iload 14, 2) := by decide +kernel
theorem dL_tells_291 : decode cL_tells 291 = .ok (.iconst 0, 1) := by decide +kernel
theorem dL_tells_292 : decode cL_tells 292 = .ok (.invokestatic 127, 3) := by decide +kernel
theorem dL_tells_295 : decode cL_tells 295 = .ok (.iload 15, 2) := by decide +kernel
theorem dL_tells_297 : decode cL_tells 297 = .ok (.ifCond .eq 16, 3) := by decide +kernel
theorem dL_tells_300 : decode cL_tells 300 = .ok (.aload_n 3, 1) := by decide +kernel
theorem dL_tells_301 : decode cL_tells 301 = .ok (.aload 4, 2) := by decide +kernel
theorem dL_tells_303 : decode cL_tells 303 = .ok (.bipush 12, 2) := by decide +kernel
theorem dL_tells_305 : decode cL_tells 305 = .ok (.iload 14, 2) := by decide +kernel
theorem dL_tells_307 : decode cL_tells 307 = .ok (.iadd, 1) := by decide +kernel
theorem dL_tells_308 : decode cL_tells 308 = .ok (.iaload, 1) := by decide +kernel
theorem dL_tells_309 : decode cL_tells 309 = .ok (.iaload, 1) := by decide +kernel
theorem dL_tells_310 : decode cL_tells 310 = .ok (.goto 5, 3) := by decide +kernel
theorem dL_tells_313 : decode cL_tells 313 = .ok (.bipush (-101), 2) := by decide +kernel
theorem dL_tells_315 : decode cL_tells 315 = .ok (.if_icmp .ne 55, 3) := by decide +kernel
theorem dL_tells_318 : decode cL_tells 318 = .ok (.aload_n 0, 1) := by decide +kernel
theorem dL_tells_319 : decode cL_tells 319 = .ok (.iconst 3, 1) := by decide +kernel
theorem dL_tells_320 : decode cL_tells 320 = .ok (.iload 14, 2) := by decide +kernel
theorem dL_tells_322 : decode cL_tells 322 = .ok (.iconst 0, 1) := by decide +kernel
theorem dL_tells_323 : decode cL_tells 323 = .ok (.invokestatic 127, 3) := by decide +kernel
theorem dL_tells_326 : decode cL_tells 326 = .ok (.iload 15, 2) := by decide +kernel
theorem dL_tells_328 : decode cL_tells 328 = .ok (.ifCond .eq 14, 3) := by decide +kernel
theorem dL_tells_331 : decode cL_tells 331 = .ok (.aload 4, 2) := by decide +kernel
theorem dL_tells_333 : decode cL_tells 333 = .ok (.bipush 20, 2) := by decide +kernel
theorem dL_tells_335 : decode cL_tells 335 = .ok (.iload 14, 2) := by decide +kernel
theorem dL_tells_337 : decode cL_tells 337 = .ok (.iadd, 1) := by decide +kernel
theorem dL_tells_338 : decode cL_tells 338 = .ok (.iaload, 1) := by decide +kernel
theorem dL_tells_339 : decode cL_tells 339 = .ok (.goto 5, 3) := by decide +kernel
theorem dL_tells_342 : decode cL_tells 342 = .ok (.bipush (-101), 2) := by decide +kernel
theorem dL_tells_344 : decode cL_tells 344 = .ok (.if_icmp .ne 26, 3) := by decide +kernel
theorem dL_tells_347 : decode cL_tells 347 = .ok (.aload_n 0, 1) := by decide +kernel
theorem dL_tells_348 : decode cL_tells 348 = .ok (.iconst 4, 1) := by decide +kernel
theorem dL_tells_349 : decode cL_tells 349 = .ok (.iload 14, 2) := by decide +kernel
theorem dL_tells_351 : decode cL_tells 351 = .ok (.iconst 0, 1) := by decide +kernel
theorem dL_tells_352 : decode cL_tells 352 = .ok (.invokestatic 127, 3) := by decide +kernel
theorem dL_tells_355 : decode cL_tells 355 = .ok (.iload 15, 2) := by decide +kernel
theorem dL_tells_357 : decode cL_tells 357 = .ok (.ifCond .eq 8, 3) := by decide +kernel
theorem dL_tells_360 : decode cL_tells 360 = .ok (.iload 16, 2) := by decide +kernel
theorem dL_tells_362 : decode cL_tells 362 = .ok (.goto 5, 3) := by decide +kernel
theorem dL_tells_365 : decode cL_tells 365 = .ok (.bipush (-101), 2) := by decide +kernel
theorem dL_tells_367 : decode cL_tells 367 = .ok (.if_icmp .eq 5, 3) := by decide +kernel
theorem dL_tells_370 : decode cL_tells 370 = .ok (.iconst 0, 1) := by decide +kernel
theorem dL_tells_371 : decode cL_tells 371 = .ok (.ireturn, 1) := by decide +kernel
theorem dL_tells_372 : decode cL_tells 372 = .ok (.aload_n 0, 1) := by decide +kernel
theorem dL_tells_373 : decode cL_tells 373 = .ok (.iconst 5, 1) := by decide +kernel
theorem dL_tells_374 : decode cL_tells 374 = .ok (.iload 14, 2) := by decide +kernel
theorem dL_tells_376 : decode cL_tells 376 = .ok (.iload 12, 2) := by decide +kernel
theorem dL_tells_378 : decode cL_tells 378 = .ok (.invokestatic 127, 3) := by decide +kernel
theorem dL_tells_381 : decode cL_tells 381 = .ok (.iload 15, 2) := by decide +kernel
theorem dL_tells_383 : decode cL_tells 383 = .ok (.ifCond .eq 10, 3) := by decide +kernel
theorem dL_tells_386 : decode cL_tells 386 = .ok (.iload 12, 2) := by decide +kernel
theorem dL_tells_388 : decode cL_tells 388 = .ok (.bipush 59, 2) := by decide +kernel
theorem dL_tells_390 : decode cL_tells 390 = .ok (.if_icmp .le 8, 3) := by decide +kernel
theorem dL_tells_393 : decode cL_tells 393 = .ok (.bipush (-101), 2) := by decide +kernel
theorem dL_tells_395 : decode cL_tells 395 = .ok (.goto 26, 3) := by decide +kernel
theorem dL_tells_398 : decode cL_tells 398 = .ok (.iload 19, 2) := by decide +kernel
theorem dL_tells_400 : decode cL_tells 400 = .ok (.ifCond .eq 20, 3) := by decide +kernel
theorem dL_tells_403 : decode cL_tells 403 = .ok (.aload 5, 2) := by decide +kernel
theorem dL_tells_405 : decode cL_tells 405 = .ok (.bipush 10, 2) := by decide +kernel
theorem dL_tells_407 : decode cL_tells 407 = .ok (.iload 14, 2) := by decide +kernel
theorem dL_tells_409 : decode cL_tells 409 = .ok (.imul, 1) := by decide +kernel
theorem dL_tells_410 : decode cL_tells 410 = .ok (.iload 12, 2) := by decide +kernel
theorem dL_tells_412 : decode cL_tells 412 = .ok (.bipush 6, 2) := by decide +kernel
theorem dL_tells_414 : decode cL_tells 414 = .ok (.idiv, 1) := by decide +kernel
theorem dL_tells_415 : decode cL_tells 415 = .ok (.iadd, 1) := by decide +kernel
theorem dL_tells_416 : decode cL_tells 416 = .ok (.iaload, 1) := by decide +kernel
theorem dL_tells_417 : decode cL_tells 417 = .ok (.goto 4, 3) := by decide +kernel
theorem dL_tells_420 : decode cL_tells 420 = .ok (.iconst 0, 1) := by decide +kernel
theorem dL_tells_421 : decode cL_tells 421 = .ok (.if_icmp .ne 56, 3) := by decide +kernel
theorem dL_tells_424 : decode cL_tells 424 = .ok (.aload_n 0, 1) := by decide +kernel
theorem dL_tells_425 : decode cL_tells 425 = .ok (.bipush 6, 2) := by decide +kernel
theorem dL_tells_427 : decode cL_tells 427 = .ok (.iload 14, 2) := by decide +kernel
theorem dL_tells_429 : decode cL_tells 429 = .ok (.iload 12, 2) := by decide +kernel
theorem dL_tells_431 : decode cL_tells 431 = .ok (.invokestatic 127, 3) := by decide +kernel
theorem dL_tells_434 : decode cL_tells 434 = .ok (.iload 15, 2) := by decide +kernel
theorem dL_tells_436 : decode cL_tells 436 = .ok (.ifCond .eq 10, 3) := by decide +kernel
theorem dL_tells_439 : decode cL_tells 439 = .ok (.iload 12, 2) := by decide +kernel
theorem dL_tells_441 : decode cL_tells 441 = .ok (.bipush 59, 2) := by decide +kernel
theorem dL_tells_443 : decode cL_tells 443 = .ok (.if_icmp .le 8, 3) := by decide +kernel
theorem dL_tells_446 : decode cL_tells 446 = .ok (.bipush (-101), 2) := by decide +kernel
theorem dL_tells_448 : decode cL_tells 448 = .ok (.goto 26, 3) := by decide +kernel
theorem dL_tells_451 : decode cL_tells 451 = .ok (.iload 19, 2) := by decide +kernel
theorem dL_tells_453 : decode cL_tells 453 = .ok (.ifCond .eq 20, 3) := by decide +kernel
theorem dL_tells_456 : decode cL_tells 456 = .ok (.aload 7, 2) := by decide +kernel
theorem dL_tells_458 : decode cL_tells 458 = .ok (.bipush 10, 2) := by decide +kernel
theorem dL_tells_460 : decode cL_tells 460 = .ok (.iload 14, 2) := by decide +kernel
theorem dL_tells_462 : decode cL_tells 462 = .ok (.imul, 1) := by decide +kernel
theorem dL_tells_463 : decode cL_tells 463 = .ok (.iload 12, 2) := by decide +kernel
theorem dL_tells_465 : decode cL_tells 465 = .ok (.bipush 6, 2) := by decide +kernel
theorem dL_tells_467 : decode cL_tells 467 = .ok (.idiv, 1) := by decide +kernel
theorem dL_tells_468 : decode cL_tells 468 = .ok (.iadd, 1) := by decide +kernel
theorem dL_tells_469 : decode cL_tells 469 = .ok (.iaload, 1) := by decide +kernel
theorem dL_tells_470 : decode cL_tells 470 = .ok (.goto 4, 3) := by decide +kernel
theorem dL_tells_473 : decode cL_tells 473 = .ok (.iconst (-1), 1) := by decide +kernel
theorem dL_tells_474 : decode cL_tells 474 = .ok (.if_icmp .eq 5, 3) := by decide +kernel
theorem dL_tells_477 : decode cL_tells 477 = .ok (.iconst 0, 1) := by decide +kernel
theorem dL_tells_478 : decode cL_tells 478 = .ok (.ireturn, 1) := by decide +kernel
theorem dL_tells_479 : decode cL_tells 479 = .ok (.aload_n 0, 1) := by decide +kernel
theorem dL_tells_480 : decode cL_tells 480 = .ok (.iconst 0, 1) := by decide +kernel
theorem dL_tells_481 : decode cL_tells 481 = .ok (.iload 14, 2) := by decide +kernel
theorem dL_tells_483 : decode cL_tells 483 = .ok (.iload 13, 2) := by decide +kernel
theorem dL_tells_485 : decode cL_tells 485 = .ok (.invokestatic 130, 3) := by decide +kernel
theorem dL_tells_488 : decode cL_tells 488 = .ok (.iload 15, 2) := by decide +kernel
theorem dL_tells_490 : decode cL_tells 490 = .ok (.ifCond .eq 24, 3) := by decide +kernel
theorem dL_tells_493 : decode cL_tells 493 = .ok (.iload 13, 2) := by decide +kernel
theorem dL_tells_495 : decode cL_tells 495 = .ok (.iconst 5, 1) := by decide +kernel
theorem dL_tells_496 : decode cL_tells 496 = .ok (.if_icmp .ge 18, 3) := by decide +kernel
theorem dL_tells_499 : decode cL_tells 499 = .ok (.aload_n 3, 1) := by decide +kernel
theorem dL_tells_500 : decode cL_tells 500 = .ok (.aload 5, 2) := by decide +kernel
theorem dL_tells_502 : decode cL_tells 502 = .ok (.aload 8, 2) := by decide +kernel
theorem dL_tells_504 : decode cL_tells 504 = .ok (.iload 14, 2) := by decide +kernel
theorem dL_tells_506 : decode cL_tells 506 = .ok (.iload 13, 2) := by decide +kernel
theorem dL_tells_508 : decode cL_tells 508 = .ok (.invokestatic 9, 3) := by decide +kernel
theorem dL_tells_511 : decode cL_tells 511 = .ok (.goto 5, 3) := by decide +kernel
theorem dL_tells_514 : decode cL_tells 514 = .ok (.lload 10, 2) := by decide +kernel
theorem dL_tells_516 : decode cL_tells 516 = .ok (.lcmp, 1) := by decide +kernel
theorem dL_tells_517 : decode cL_tells 517 = .ok (.ifCond .ne 141, 3) := by decide +kernel
theorem dL_tells_520 : decode cL_tells 520 = .ok (.aload_n 0, 1) := by decide +kernel
theorem dL_tells_521 : decode cL_tells 521 = .ok (.iconst 1, 1) := by decide +kernel
theorem dL_tells_522 : decode cL_tells 522 = .ok (.iload 14, 2) := by decide +kernel
theorem dL_tells_524 : decode cL_tells 524 = .ok (.iconst 0, 1) := by decide +kernel
theorem dL_tells_525 : decode cL_tells 525 = .ok (.invokestatic 130, 3) := by decide +kernel
theorem dL_tells_528 : decode cL_tells 528 = .ok (.iload 15, 2) := by decide +kernel
theorem dL_tells_530 : decode cL_tells 530 = .ok (.ifCond .eq 11, 3) := by decide +kernel
theorem dL_tells_533 : decode cL_tells 533 = .ok (.aload 9, 2) := by decide +kernel
theorem dL_tells_535 : decode cL_tells 535 = .ok (.iload 14, 2) := by decide +kernel
theorem dL_tells_537 : decode cL_tells 537 = .ok (.laload, 1) := by decide +kernel
theorem dL_tells_538 : decode cL_tells 538 = .ok (.goto 5, 3) := by decide +kernel
theorem dL_tells_541 : decode cL_tells 541 = .ok (.lload 10, 2) := by decide +kernel
theorem dL_tells_543 : decode cL_tells 543 = .ok (.lcmp, 1) := by decide +kernel
theorem dL_tells_544 : decode cL_tells 544 = .ok (.ifCond .ne 114, 3) := by decide +kernel
theorem dL_tells_547 : decode cL_tells 547 = .ok (.aload_n 0, 1) := by decide +kernel
theorem dL_tells_548 : decode cL_tells 548 = .ok (.iconst 2, 1) := by decide +kernel
theorem dL_tells_549 : decode cL_tells 549 = .ok (.iload 14, 2) := by decide +kernel
theorem dL_tells_551 : decode cL_tells 551 = .ok (.iconst 0, 1) := by decide +kernel
theorem dL_tells_552 : decode cL_tells 552 = .ok (.invokestatic 130, 3) := by decide +kernel
theorem dL_tells_555 : decode cL_tells 555 = .ok (.iload 15, 2) := by decide +kernel
theorem dL_tells_557 : decode cL_tells 557 = .ok (.ifCond .eq 11, 3) := by decide +kernel
theorem dL_tells_560 : decode cL_tells 560 = .ok (.aload 9, 2) := by decide +kernel
theorem dL_tells_562 : decode cL_tells 562 = .ok (.iload 14, 2) := by decide +kernel
theorem dL_tells_564 : decode cL_tells 564 = .ok (.laload, 1) := by decide +kernel
theorem dL_tells_565 : decode cL_tells 565 = .ok (.goto 5, 3) := by decide +kernel
theorem dL_tells_568 : decode cL_tells 568 = .ok (.lload 10, 2) := by decide +kernel
theorem dL_tells_570 : decode cL_tells 570 = .ok (.lcmp, 1) := by decide +kernel
theorem dL_tells_571 : decode cL_tells 571 = .ok (.ifCond .ne 87, 3) := by decide +kernel
theorem dL_tells_574 : decode cL_tells 574 = .ok (.aload_n 0, 1) := by decide +kernel
theorem dL_tells_575 : decode cL_tells 575 = .ok (.iconst 3, 1) := by decide +kernel
theorem dL_tells_576 : decode cL_tells 576 = .ok (.iload 14, 2) := by decide +kernel
theorem dL_tells_578 : decode cL_tells 578 = .ok (.iconst 0, 1) := by decide +kernel
theorem dL_tells_579 : decode cL_tells 579 = .ok (.invokestatic 130, 3) := by decide +kernel
theorem dL_tells_582 : decode cL_tells 582 = .ok (.iload 15, 2) := by decide +kernel
theorem dL_tells_584 : decode cL_tells 584 = .ok (.ifCond .eq 14, 3) := by decide +kernel
theorem dL_tells_587 : decode cL_tells 587 = .ok (.aload 9, 2) := by decide +kernel
theorem dL_tells_589 : decode cL_tells 589 = .ok (.bipush 8, 2) := by decide +kernel
theorem dL_tells_591 : decode cL_tells 591 = .ok (.iload 14, 2) := by decide +kernel
theorem dL_tells_593 : decode cL_tells 593 = .ok (.iadd, 1) := by decide +kernel
theorem dL_tells_594 : decode cL_tells 594 = .ok (.laload, 1) := by decide +kernel
theorem dL_tells_595 : decode cL_tells 595 = .ok (.goto 5, 3) := by decide +kernel
theorem dL_tells_598 : decode cL_tells 598 = .ok (.lload 10, 2) := by decide +kernel
theorem dL_tells_600 : decode cL_tells 600 = .ok (.lcmp, 1) := by decide +kernel
theorem dL_tells_601 : decode cL_tells 601 = .ok (.ifCond .ne 57, 3) := by decide +kernel
theorem dL_tells_604 : decode cL_tells 604 = .ok (.aload_n 0, 1) := by decide +kernel
theorem dL_tells_605 : decode cL_tells 605 = .ok (.iconst 4, 1) := by decide +kernel
theorem dL_tells_606 : decode cL_tells 606 = .ok (.iload 14, 2) := by decide +kernel
theorem dL_tells_608 : decode cL_tells 608 = .ok (.iconst 0, 1) := by decide +kernel
theorem dL_tells_609 : decode cL_tells 609 = .ok (.invokestatic 130, 3) := by decide +kernel
theorem dL_tells_612 : decode cL_tells 612 = .ok (.iload 15, 2) := by decide +kernel
theorem dL_tells_614 : decode cL_tells 614 = .ok (.ifCond .eq 14, 3) := by decide +kernel
theorem dL_tells_617 : decode cL_tells 617 = .ok (.aload 9, 2) := by decide +kernel
theorem dL_tells_619 : decode cL_tells 619 = .ok (.bipush 12, 2) := by decide +kernel
theorem dL_tells_621 : decode cL_tells 621 = .ok (.iload 14, 2) := by decide +kernel
theorem dL_tells_623 : decode cL_tells 623 = .ok (.iadd, 1) := by decide +kernel
theorem dL_tells_624 : decode cL_tells 624 = .ok (.laload, 1) := by decide +kernel
theorem dL_tells_625 : decode cL_tells 625 = .ok (.goto 5, 3) := by decide +kernel
theorem dL_tells_628 : decode cL_tells 628 = .ok (.lload 10, 2) := by decide +kernel
theorem dL_tells_630 : decode cL_tells 630 = .ok (.lcmp, 1) := by decide +kernel
theorem dL_tells_631 : decode cL_tells 631 = .ok (.ifCond .ne 27, 3) := by decide +kernel
theorem dL_tells_634 : decode cL_tells 634 = .ok (.aload_n 0, 1) := by decide +kernel
theorem dL_tells_635 : decode cL_tells 635 = .ok (.iconst 5, 1) := by decide +kernel
theorem dL_tells_636 : decode cL_tells 636 = .ok (.iload 14, 2) := by decide +kernel
theorem dL_tells_638 : decode cL_tells 638 = .ok (.iconst 0, 1) := by decide +kernel
theorem dL_tells_639 : decode cL_tells 639 = .ok (.invokestatic 130, 3) := by decide +kernel
theorem dL_tells_642 : decode cL_tells 642 = .ok (.iload 15, 2) := by decide +kernel
theorem dL_tells_644 : decode cL_tells 644 = .ok (.ifCond .eq 8, 3) := by decide +kernel
theorem dL_tells_647 : decode cL_tells 647 = .ok (.lload 17, 2) := by decide +kernel
theorem dL_tells_649 : decode cL_tells 649 = .ok (.goto 5, 3) := by decide +kernel
theorem dL_tells_652 : decode cL_tells 652 = .ok (.lload 10, 2) := by decide +kernel
theorem dL_tells_654 : decode cL_tells 654 = .ok (.lcmp, 1) := by decide +kernel
theorem dL_tells_655 : decode cL_tells 655 = .ok (.ifCond .eq 5, 3) := by decide +kernel
theorem dL_tells_658 : decode cL_tells 658 = .ok (.iconst 0, 1) := by decide +kernel
theorem dL_tells_659 : decode cL_tells 659 = .ok (.ireturn, 1) := by decide +kernel
theorem dL_tells_660 : decode cL_tells 660 = .ok (.iload 15, 2) := by decide +kernel
theorem dL_tells_662 : decode cL_tells 662 = .ok (.ifCond .eq 41, 3) := by decide +kernel
theorem dL_tells_665 : decode cL_tells 665 = .ok (.aload 9, 2) := by decide +kernel
theorem dL_tells_667 : decode cL_tells 667 = .ok (.iload 14, 2) := by decide +kernel
theorem dL_tells_669 : decode cL_tells 669 = .ok (.laload, 1) := by decide +kernel
theorem dL_tells_670 : decode cL_tells 670 = .ok (.aload 9, 2) := by decide +kernel
theorem dL_tells_672 : decode cL_tells 672 = .ok (.iconst 4, 1) := by decide +kernel
theorem dL_tells_673 : decode cL_tells 673 = .ok (.iload 14, 2) := by decide +kernel
theorem dL_tells_675 : decode cL_tells 675 = .ok (.iadd, 1) := by decide +kernel
theorem dL_tells_676 : decode cL_tells 676 = .ok (.laload, 1) := by decide +kernel
theorem dL_tells_677 : decode cL_tells 677 = .ok (.aload 4, 2) := by decide +kernel
theorem dL_tells_679 : decode cL_tells 679 = .ok (.bipush 8, 2) := by decide +kernel
theorem dL_tells_681 : decode cL_tells 681 = .ok (.iload 14, 2) := by decide +kernel
theorem dL_tells_683 : decode cL_tells 683 = .ok (.iadd, 1) := by decide +kernel
theorem dL_tells_684 : decode cL_tells 684 = .ok (.iaload, 1) := by decide +kernel
theorem dL_tells_685 : decode cL_tells 685 = .ok (.i2l, 1) := by decide +kernel
theorem dL_tells_686 : decode cL_tells 686 = .ok (.ladd, 1) := by decide +kernel
theorem dL_tells_687 : decode cL_tells 687 = .ok (.aload 4, 2) := by decide +kernel
theorem dL_tells_689 : decode cL_tells 689 = .ok (.bipush 24, 2) := by decide +kernel
theorem dL_tells_691 : decode cL_tells 691 = .ok (.iload 14, 2) := by decide +kernel
theorem dL_tells_693 : decode cL_tells 693 = .ok (.iadd, 1) := by decide +kernel
theorem dL_tells_694 : decode cL_tells 694 = .ok (.iaload, 1) := by decide +kernel
theorem dL_tells_695 : decode cL_tells 695 = .ok (.i2l, 1) := by decide +kernel
theorem dL_tells_696 : decode cL_tells 696 = .ok (.ladd, 1) := by decide +kernel
theorem dL_tells_697 : decode cL_tells 697 = .ok (.lcmp, 1) := by decide +kernel
theorem dL_tells_698 : decode cL_tells 698 = .ok (.ifCond .eq 5, 3) := by decide +kernel
theorem dL_tells_701 : decode cL_tells 701 = .ok (.iconst 0, 1) := by decide +kernel
theorem dL_tells_702 : decode cL_tells 702 = .ok (.ireturn, 1) := by decide +kernel
theorem dL_tells_703 : decode cL_tells 703 = .ok (.iinc 14 1, 3) := by decide +kernel
theorem dL_tells_706 : decode cL_tells 706 = .ok (.goto (-642), 3) := by decide +kernel
theorem dL_tells_709 : decode cL_tells 709 = .ok (.aload_n 0, 1) := by decide +kernel
theorem dL_tells_710 : decode cL_tells 710 = .ok (.invokevirtual 134, 3) := by decide +kernel
theorem dL_tells_713 : decode cL_tells 713 = .ok (.aload_n 2, 1) := by decide +kernel
theorem dL_tells_714 : decode cL_tells 714 = .ok (.iconst 0, 1) := by decide +kernel
theorem dL_tells_715 : decode cL_tells 715 = .ok (.iaload, 1) := by decide +kernel
theorem dL_tells_716 : decode cL_tells 716 = .ok (.iconst 1, 1) := by decide +kernel
theorem dL_tells_717 : decode cL_tells 717 = .ok (.isub, 1) := by decide +kernel
theorem dL_tells_718 : decode cL_tells 718 = .ok (.if_icmp .ne 19, 3) := by decide +kernel
theorem dL_tells_721 : decode cL_tells 721 = .ok (.aload_n 0, 1) := by decide +kernel
theorem dL_tells_722 : decode cL_tells 722 = .ok (.iconst 0, 1) := by decide +kernel
theorem dL_tells_723 : decode cL_tells 723 = .ok (.iconst (-1), 1) := by decide +kernel
theorem dL_tells_724 : decode cL_tells 724 = .ok (.iconst 0, 1) := by decide +kernel
theorem dL_tells_725 : decode cL_tells 725 = .ok (.invokestatic 127, 3) := by decide +kernel
theorem dL_tells_728 : decode cL_tells 728 = .ok (.bipush (-101), 2) := by decide +kernel
theorem dL_tells_730 : decode cL_tells 730 = .ok (.if_icmp .ne 7, 3) := by decide +kernel
theorem dL_tells_733 : decode cL_tells 733 = .ok (.iconst 1, 1) := by decide +kernel
theorem dL_tells_734 : decode cL_tells 734 = .ok (.goto 4, 3) := by decide +kernel
theorem dL_tells_737 : decode cL_tells 737 = .ok (.iconst 0, 1) := by decide +kernel
theorem dL_tells_738 : decode cL_tells 738 = .ok (.ireturn, 1) := by decide +kernel
end
section
theorem dL_law_0 : decode cL_law 0 = .ok (.new 21, 3) := by decide +kernel
theorem dL_law_3 : decode cL_law 3 = .ok (.dup, 1) := by decide +kernel
theorem dL_law_4 : decode cL_law 4 = .ok (.invokespecial 138, 3) := by decide +kernel
theorem dL_law_7 : decode cL_law 7 = .ok (.astore_n 1, 1) := by decide +kernel
theorem dL_law_8 : decode cL_law 8 = .ok (.iconst 3, 1) := by decide +kernel
theorem dL_law_9 : decode cL_law 9 = .ok (.newarray .int, 2) := by decide +kernel
theorem dL_law_11 : decode cL_law 11 = .ok (.astore_n 2, 1) := by decide +kernel
theorem dL_law_12 : decode cL_law 12 = .ok (.bipush 60, 2) := by decide +kernel
theorem dL_law_14 : decode cL_law 14 = .ok (.newarray .int, 2) := by decide +kernel
theorem dL_law_16 : decode cL_law 16 = .ok (.astore_n 3, 1) := by decide +kernel
theorem dL_law_17 : decode cL_law 17 = .ok (.bipush 28, 2) := by decide +kernel
theorem dL_law_19 : decode cL_law 19 = .ok (.newarray .int, 2) := by decide +kernel
theorem dL_law_21 : decode cL_law 21 = .ok (.astore 4, 2) := by decide +kernel
theorem dL_law_23 : decode cL_law 23 = .ok (.bipush 40, 2) := by decide +kernel
theorem dL_law_25 : decode cL_law 25 = .ok (.newarray .int, 2) := by decide +kernel
theorem dL_law_27 : decode cL_law 27 = .ok (.astore 5, 2) := by decide +kernel
theorem dL_law_29 : decode cL_law 29 = .ok (.bipush 40, 2) := by decide +kernel
theorem dL_law_31 : decode cL_law 31 = .ok (.newarray .int, 2) := by decide +kernel
theorem dL_law_33 : decode cL_law 33 = .ok (.astore 6, 2) := by decide +kernel
theorem dL_law_35 : decode cL_law 35 = .ok (.bipush 40, 2) := by decide +kernel
theorem dL_law_37 : decode cL_law 37 = .ok (.newarray .int, 2) := by decide +kernel
theorem dL_law_39 : decode cL_law 39 = .ok (.astore 7, 2) := by decide +kernel
theorem dL_law_41 : decode cL_law 41 = .ok (.bipush 40, 2) := by decide +kernel
theorem dL_law_43 : decode cL_law 43 = .ok (.newarray .int, 2) := by decide +kernel
theorem dL_law_45 : decode cL_law 45 = .ok (.astore 8, 2) := by decide +kernel
theorem dL_law_47 : decode cL_law 47 = .ok (.bipush 16, 2) := by decide +kernel
theorem dL_law_49 : decode cL_law 49 = .ok (.newarray .long, 2) := by decide +kernel
theorem dL_law_51 : decode cL_law 51 = .ok (.astore 9, 2) := by decide +kernel
theorem dL_law_53 : decode cL_law 53 = .ok (.aload_n 2, 1) := by decide +kernel
theorem dL_law_54 : decode cL_law 54 = .ok (.iconst 2, 1) := by decide +kernel
theorem dL_law_55 : decode cL_law 55 = .ok (.ldc 107, 2) := by decide +kernel
theorem dL_law_57 : decode cL_law 57 = .ok (.iastore, 1) := by decide +kernel
theorem dL_law_58 : decode cL_law 58 = .ok (.iconst 0, 1) := by decide +kernel
theorem dL_law_59 : decode cL_law 59 = .ok (.istore 10, 2) := by decide +kernel
theorem dL_law_61 : decode cL_law 61 = .ok (.iload 10, 2) := by decide +kernel
theorem dL_law_63 : decode cL_law 63 = .ok (.sipush 160, 3) := by decide +kernel
theorem dL_law_66 : decode cL_law 66 = .ok (.if_icmp .ge 231, 3) := by decide +kernel
theorem dL_law_69 : decode cL_law 69 = .ok (.aload_n 0, 1) := by decide +kernel
theorem dL_law_70 : decode cL_law 70 = .ok (.iload 10, 2) := by decide +kernel
theorem dL_law_72 : decode cL_law 72 = .ok (.bipush 97, 2) := by decide +kernel
theorem dL_law_74 : decode cL_law 74 = .ok (.irem, 1) := by decide +kernel
theorem dL_law_75 : decode cL_law 75 = .ok (.invokestatic 139, 3) := by decide +kernel
theorem dL_law_78 : decode cL_law 78 = .ok (.iload 10, 2) := by decide +kernel
theorem dL_law_80 : decode cL_law 80 = .ok (.sipush 7919, 3) := by decide +kernel
theorem dL_law_83 : decode cL_law 83 = .ok (.imul, 1) := by decide +kernel
theorem dL_law_84 : decode cL_law 84 = .ok (.ixor, 1) := by decide +kernel
theorem dL_law_85 : decode cL_law 85 = .ok (.istore 11, 2) := by decide +kernel
theorem dL_law_87 : decode cL_law 87 = .ok (.iload 11, 2) := by decide +kernel
theorem dL_law_89 : decode cL_law 89 = .ok (.iconst 4, 1) := by decide +kernel
theorem dL_law_90 : decode cL_law 90 = .ok (.ishr, 1) := by decide +kernel
theorem dL_law_91 : decode cL_law 91 = .ok (.istore 12, 2) := by decide +kernel
theorem dL_law_93 : decode cL_law 93 = .ok (.iload 11, 2) := by decide +kernel
theorem dL_law_95 : decode cL_law 95 = .ok (.bipush 16, 2) := by decide +kernel
theorem dL_law_97 : decode cL_law 97 = .ok (.invokestatic 93, 3) := by decide +kernel
theorem dL_law_100 : decode cL_law 100 = .ok (.istore 13, 2) := by decide +kernel
theorem dL_law_102 : decode cL_law 102 = .ok (.iload 10, 2) := by decide +kernel
theorem dL_law_104 : decode cL_law 104 = .ok (.iconst 2, 1) := by decide +kernel
theorem dL_law_105 : decode cL_law 105 = .ok (.if_icmp .ge 36, 3) := by decide +kernel
theorem dL_law_108 : decode cL_law 108 = .ok (.aload_n 1, 1) := by decide +kernel
theorem dL_law_109 : decode cL_law 109 = .ok (.iload 10, 2) := by decide +kernel
theorem dL_law_111 : decode cL_law 111 = .ok (.ifCond .ne 7, 3) := by decide +kernel
theorem dL_law_114 : decode cL_law 114 = .ok (.iconst 0, 1) := by decide +kernel
theorem dL_law_115 : decode cL_law 115 = .ok (.goto 4, 3) := by decide +kernel
theorem dL_law_118 : decode cL_law 118 = .ok (.iconst 2, 1) := by decide +kernel
theorem dL_law_119 : decode cL_law 119 = .ok (.iload 12, 2) := by decide +kernel
theorem dL_law_121 : decode cL_law 121 = .ok (.aload_n 2, 1) := by decide +kernel
theorem dL_law_122 : decode cL_law 122 = .ok (.aload_n 3, 1) := by decide +kernel
theorem dL_law_123 : decode cL_law 123 = .ok (.aload 4, 2) := by decide +kernel
theorem dL_law_125 : decode cL_law 125 = .ok (.aload 5, 2) := by decide +kernel
theorem dL_law_127 : decode cL_law 127 = .ok (.aload 6, 2) := by decide +kernel
theorem dL_law_129 : decode cL_law 129 = .ok (.aload 7, 2) := by decide +kernel
theorem dL_law_131 : decode cL_law 131 = .ok (.aload 8, 2) := by decide +kernel
theorem dL_law_133 : decode cL_law 133 = .ok (.aload 9, 2) := by decide +kernel
theorem dL_law_135 : decode cL_law 135 = .ok (.invokestatic 143, 3) := by decide +kernel
theorem dL_law_138 : decode cL_law 138 = .ok (.goto 114, 3) := by decide +kernel
theorem dL_law_141 : decode cL_law 141 = .ok (.iload 13, 2) := by decide +kernel
theorem dL_law_143 : decode cL_law 143 = .ok (.iconst 5, 1) := by decide +kernel
theorem dL_law_144 : decode cL_law 144 = .ok (.if_icmp .ge 28, 3) := by decide +kernel
theorem dL_law_147 : decode cL_law 147 = .ok (.aload_n 1, 1) := by decide +kernel
end
section
theorem dL_law_148 : decode cL_law 148 = .ok (.iload 13, 2) := by decide +kernel
theorem dL_law_150 : decode cL_law 150 = .ok (.iload 12, 2) := by decide +kernel
theorem dL_law_152 : decode cL_law 152 = .ok (.aload_n 2, 1) := by decide +kernel
theorem dL_law_153 : decode cL_law 153 = .ok (.aload_n 3, 1) := by decide +kernel
theorem dL_law_154 : decode cL_law 154 = .ok (.aload 4, 2) := by decide +kernel
theorem dL_law_156 : decode cL_law 156 = .ok (.aload 5, 2) := by decide +kernel
theorem dL_law_158 : decode cL_law 158 = .ok (.aload 6, 2) := by decide +kernel
theorem dL_law_160 : decode cL_law 160 = .ok (.aload 7, 2) := by decide +kernel
theorem dL_law_162 : decode cL_law 162 = .ok (.aload 8, 2) := by decide +kernel
theorem dL_law_164 : decode cL_law 164 = .ok (.aload 9, 2) := by decide +kernel
theorem dL_law_166 : decode cL_law 166 = .ok (.invokestatic 143, 3) := by decide +kernel
theorem dL_law_169 : decode cL_law 169 = .ok (.goto 83, 3) := by decide +kernel
theorem dL_law_172 : decode cL_law 172 = .ok (.iload 13, 2) := by decide +kernel
theorem dL_law_174 : decode cL_law 174 = .ok (.bipush 9, 2) := by decide +kernel
theorem dL_law_176 : decode cL_law 176 = .ok (.if_icmp .ge 27, 3) := by decide +kernel
theorem dL_law_179 : decode cL_law 179 = .ok (.aload_n 1, 1) := by decide +kernel
theorem dL_law_180 : decode cL_law 180 = .ok (.iconst 0, 1) := by decide +kernel
theorem dL_law_181 : decode cL_law 181 = .ok (.iload 12, 2) := by decide +kernel
theorem dL_law_183 : decode cL_law 183 = .ok (.aload_n 2, 1) := by decide +kernel
theorem dL_law_184 : decode cL_law 184 = .ok (.aload_n 3, 1) := by decide +kernel
theorem dL_law_185 : decode cL_law 185 = .ok (.aload 4, 2) := by decide +kernel
theorem dL_law_187 : decode cL_law 187 = .ok (.aload 5, 2) := by decide +kernel
theorem dL_law_189 : decode cL_law 189 = .ok (.aload 6, 2) := by decide +kernel
theorem dL_law_191 : decode cL_law 191 = .ok (.aload 7, 2) := by decide +kernel
theorem dL_law_193 : decode cL_law 193 = .ok (.aload 8, 2) := by decide +kernel
theorem dL_law_195 : decode cL_law 195 = .ok (.aload 9, 2) := by decide +kernel
theorem dL_law_197 : decode cL_law 197 = .ok (.invokestatic 143, 3) := by decide +kernel
theorem dL_law_200 : decode cL_law 200 = .ok (.goto 52, 3) := by decide +kernel
theorem dL_law_203 : decode cL_law 203 = .ok (.iload 13, 2) := by decide +kernel
theorem dL_law_205 : decode cL_law 205 = .ok (.bipush 14, 2) := by decide +kernel
theorem dL_law_207 : decode cL_law 207 = .ok (.if_icmp .ge 27, 3) := by decide +kernel
theorem dL_law_210 : decode cL_law 210 = .ok (.aload_n 1, 1) := by decide +kernel
theorem dL_law_211 : decode cL_law 211 = .ok (.iconst 5, 1) := by decide +kernel
theorem dL_law_212 : decode cL_law 212 = .ok (.iload 12, 2) := by decide +kernel
theorem dL_law_214 : decode cL_law 214 = .ok (.aload_n 2, 1) := by decide +kernel
theorem dL_law_215 : decode cL_law 215 = .ok (.aload_n 3, 1) := by decide +kernel
theorem dL_law_216 : decode cL_law 216 = .ok (.aload 4, 2) := by decide +kernel
theorem dL_law_218 : decode cL_law 218 = .ok (.aload 5, 2) := by decide +kernel
theorem dL_law_220 : decode cL_law 220 = .ok (.aload 6, 2) := by decide +kernel
theorem dL_law_222 : decode cL_law 222 = .ok (.aload 7, 2) := by decide +kernel
theorem dL_law_224 : decode cL_law 224 = .ok (.aload 8, 2) := by decide +kernel
theorem dL_law_226 : decode cL_law 226 = .ok (.aload 9, 2) := by decide +kernel
theorem dL_law_228 : decode cL_law 228 = .ok (.invokestatic 143, 3) := by decide +kernel
theorem dL_law_231 : decode cL_law 231 = .ok (.goto 21, 3) := by decide +kernel
theorem dL_law_234 : decode cL_law 234 = .ok (.aload_n 1, 1) := by decide +kernel
theorem dL_law_235 : decode cL_law 235 = .ok (.iload 12, 2) := by decide +kernel
theorem dL_law_237 : decode cL_law 237 = .ok (.aload_n 2, 1) := by decide +kernel
theorem dL_law_238 : decode cL_law 238 = .ok (.aload_n 3, 1) := by decide +kernel
theorem dL_law_239 : decode cL_law 239 = .ok (.aload 4, 2) := by decide +kernel
theorem dL_law_241 : decode cL_law 241 = .ok (.aload 6, 2) := by decide +kernel
theorem dL_law_243 : decode cL_law 243 = .ok (.aload 7, 2) := by decide +kernel
theorem dL_law_245 : decode cL_law 245 = .ok (.aload 8, 2) := by decide +kernel
theorem dL_law_247 : decode cL_law 247 = .ok (.aload 9, 2) := by decide +kernel
theorem dL_law_249 : decode cL_law 249 = .ok (.invokestatic 147, 3) := by decide +kernel
theorem dL_law_252 : decode cL_law 252 = .ok (.istore 14, 2) := by decide +kernel
theorem dL_law_254 : decode cL_law 254 = .ok (.iload 14, 2) := by decide +kernel
theorem dL_law_256 : decode cL_law 256 = .ok (.ifCond .eq 33, 3) := by decide +kernel
theorem dL_law_259 : decode cL_law 259 = .ok (.iload 10, 2) := by decide +kernel
theorem dL_law_261 : decode cL_law 261 = .ok (.iconst 3, 1) := by decide +kernel
theorem dL_law_262 : decode cL_law 262 = .ok (.irem, 1) := by decide +kernel
theorem dL_law_263 : decode cL_law 263 = .ok (.ifCond .ne 28, 3) := by decide +kernel
theorem dL_law_266 : decode cL_law 266 = .ok (.aload_n 1, 1) := by decide +kernel
theorem dL_law_267 : decode cL_law 267 = .ok (.iload 12, 2) := by decide +kernel
theorem dL_law_269 : decode cL_law 269 = .ok (.aload_n 2, 1) := by decide +kernel
theorem dL_law_270 : decode cL_law 270 = .ok (.aload_n 3, 1) := by decide +kernel
theorem dL_law_271 : decode cL_law 271 = .ok (.aload 4, 2) := by decide +kernel
theorem dL_law_273 : decode cL_law 273 = .ok (.aload 5, 2) := by decide +kernel
theorem dL_law_275 : decode cL_law 275 = .ok (.aload 6, 2) := by decide +kernel
theorem dL_law_277 : decode cL_law 277 = .ok (.aload 7, 2) := by decide +kernel
theorem dL_law_279 : decode cL_law 279 = .ok (.aload 8, 2) := by decide +kernel
theorem dL_law_281 : decode cL_law 281 = .ok (.aload 9, 2) := by decide +kernel
theorem dL_law_283 : decode cL_law 283 = .ok (.invokestatic 151, 3) := by decide +kernel
theorem dL_law_286 : decode cL_law 286 = .ok (.ifCond .ne 5, 3) := by decide +kernel
theorem dL_law_289 : decode cL_law 289 = .ok (.iconst 0, 1) := by decide +kernel
theorem dL_law_290 : decode cL_law 290 = .ok (.ireturn, 1) := by decide +kernel
theorem dL_law_291 : decode cL_law 291 = .ok (.iinc 10 1, 3) := by decide +kernel
theorem dL_law_294 : decode cL_law 294 = .ok (.goto (-233), 3) := by decide +kernel
theorem dL_law_297 : decode cL_law 297 = .ok (.iconst 1, 1) := by decide +kernel
theorem dL_law_298 : decode cL_law 298 = .ok (.ireturn, 1) := by decide +kernel
end
section
/-! WORLDS BY NAMES. A cell has a name (a number), an address and a content; a world is a function from names. Every method's contract takes the whole world and tells the whole world behind it: nothing is cut out before a call, nothing joined behind it. -/
abbrev sg_W : Type := Nat → Option (Nat × va_E)
def sg_P (D : va_G) (σ : sg_W) (H : Heap) : Prop := ∀ (n : Nat) (q : Nat × va_E), σ n = some q → va_at D vwCl q H
def sg_D (A : Nat → Prop) (σ : sg_W) : Prop := (∀ (i j : Nat) (p q : Nat × va_E), σ i = some p → σ j = some q → p.1 = q.1 → i = j) ∧ ∀ (k : Nat) (q : Nat × va_E), σ k = some q → A q.1
def sg_A (σ : sg_W) (sz : Nat) : Nat → Prop := fun a => (∃ (n : Nat) (e : va_E), σ n = some (a, e)) ∨ sz ≤ a
def sg_u (σ : sg_W) (n a : Nat) (e : va_E) : sg_W := fun j => if j = n then some (a, e) else σ j
theorem sg_ue {σ : sg_W} {n a : Nat} {e : va_E} : sg_u σ n a e n = some (a, e) := if_pos rfl
theorem sg_un {σ : sg_W} {n a j : Nat} {e : va_E} (h : j ≠ n) : sg_u σ n a e j = σ j := if_neg h
theorem sg_one {D : va_G} {σ : sg_W} {H : Heap} {n : Nat} {q : Nat × va_E} (hP : sg_P D σ H) (h : σ n = some q) : va_P D vwCl [q] H := by
  intro k x hx
  have hz : k < 1 := (List.getElem?_eq_some_iff.mp hx).1
  rw [show k = 0 by omega] at hx
  cases hx
  exact hP n q h
theorem sg_lt {D : va_G} {σ : sg_W} {H : Heap} {n : Nat} {q : Nat × va_E} (hP : sg_P D σ H) (h : σ n = some q) : q.1 < H.size := (hP n q h).lt
theorem sg_P.set {D : va_G} {σ : sg_W} {A : Nat → Prop} {H H1 : Heap} {n a : Nat} {e0 e : va_E} (hP : sg_P D σ H) (hD : sg_D A σ) (h : σ n = some (a, e0)) (he : va_at D vwCl (a, e) H1) (oq : ∀ q : Nat, q ≠ a → H1[q]? = H[q]?) : sg_P D (sg_u σ n a e) H1 := by
  intro k q hk
  by_cases hkn : k = n
  · subst hkn
    rw [sg_ue] at hk
    cases hk
    exact he
  · rw [sg_un hkn] at hk
    exact (hP k q hk).kept (oq q.1 (fun z => hkn (hD.1 k n q (a, e0) hk h z)))
theorem sg_D.set {A : Nat → Prop} {σ : sg_W} {n a : Nat} {e0 e : va_E} (hD : sg_D A σ) (h : σ n = some (a, e0)) : sg_D A (sg_u σ n a e) := by
  have key : ∀ (k : Nat) (q : Nat × va_E), sg_u σ n a e k = some q → ∃ q0, σ k = some q0 ∧ q0.1 = q.1 := by
    intro k q hk
    by_cases hkn : k = n
    · subst hkn
      rw [sg_ue] at hk
      cases hk
      exact ⟨_, h, rfl⟩
    · rw [sg_un hkn] at hk
      exact ⟨q, hk, rfl⟩
  refine ⟨fun i j x y hi hj hxy => ?_, fun k q hk => ?_⟩
  · obtain ⟨x0, h1, h2⟩ := key i x hi
    obtain ⟨y0, h3, h4⟩ := key j y hj
    exact hD.1 i j x0 y0 h1 h3 (h2.trans (hxy.trans h4.symm))
  · obtain ⟨q0, h1, h2⟩ := key k q hk
    rw [← h2]
    exact hD.2 k q0 h1
theorem sg_P.new {D : va_G} {σ : sg_W} {H H1 : Heap} {n : Nat} {e : va_E} (hP : sg_P D σ H) (he : va_at D vwCl (H.size, e) H1) (oq : ∀ q : Nat, q < H.size → H1[q]? = H[q]?) : sg_P D (sg_u σ n H.size e) H1 := by
  intro k q hk
  by_cases hkn : k = n
  · subst hkn
    rw [sg_ue] at hk
    cases hk
    exact he
  · rw [sg_un hkn] at hk
    exact (hP k q hk).kept (oq q.1 (hP k q hk).lt)
theorem sg_D.new {D : va_G} {A : Nat → Prop} {σ : sg_W} {H : Heap} {n : Nat} {e : va_E} (hD : sg_D A σ) (hP : sg_P D σ H) (hA : A H.size) : sg_D A (sg_u σ n H.size e) := by
  have key : ∀ (k : Nat) (q : Nat × va_E), sg_u σ n H.size e k = some q → (k = n ∧ q.1 = H.size) ∨ (σ k = some q ∧ q.1 < H.size) := by
    intro k q hk
    by_cases hkn : k = n
    · subst hkn
      rw [sg_ue] at hk
      cases hk
      exact Or.inl ⟨rfl, rfl⟩
    · rw [sg_un hkn] at hk
      exact Or.inr ⟨hk, (hP k q hk).lt⟩
  refine ⟨fun i j x y hi hj hxy => ?_, fun k q hk => ?_⟩
  · rcases key i x hi with ⟨h1, l1⟩ | ⟨h1, l1⟩ <;> rcases key j y hj with ⟨h2, l2⟩ | ⟨h2, l2⟩
    · rw [h1, h2]
    · omega
    · omega
    · exact hD.1 i j x y h1 h2 hxy
  · rcases key k q hk with ⟨-, l1⟩ | ⟨h1, -⟩
    · rw [l1]; exact hA
    · exact hD.2 k q h1
theorem sg_D.weaken {A B : Nat → Prop} {σ : sg_W} (h : sg_D A σ) (hAB : ∀ q, A q → B q) : sg_D B σ := ⟨h.1, fun k q hk => hAB _ (h.2 k q hk)⟩
theorem sg_D.self {A : Nat → Prop} {σ : sg_W} {sz : Nat} (h : sg_D A σ) : sg_D (sg_A σ sz) σ := ⟨h.1, fun k q hk => Or.inl ⟨k, q.2, hk⟩⟩
theorem sg_A.sub {A : Nat → Prop} {σ : sg_W} {sz : Nat} (h : sg_D A σ) (hA : ∀ q, sz ≤ q → A q) : ∀ q, sg_A σ sz q → A q := fun q hq => hq.elim (fun ⟨n, e, h1⟩ => h.2 n (q, e) h1) (hA q)
/-- the classes and array classes: Y 0 int[], 1 long[], 2 boolean[], 3 Lot[], 4 Member[] -/
abbrev sg_T (Y : Nat → ClassId) : List (ClassId × FieldType) := [(Y 0, .int), (Y 1, .long), (Y 2, .boolean), (Y 3, .object RX0), (Y 4, .object RX1)]
abbrev sg_K (D : va_G) (Y : Nat → ClassId) (U : State) : Prop := va_K D vwCl (sg_T Y) U
/-- words of the tables that no list of words holds: nest mates' links, castables, arrays of references -/
abbrev sg_nf : List Cond := [.fieldLinkNest RX1 93 RX0 "month" "I" RX2, .fieldLinkNest RX2 114 RX0 "paidEach" "I" RX2, .fieldLinkNest RX2 109 RX0 "bought" "I" RX2, .fieldLinkNest RX1 96 RX0 "left" "I" RX2, .fieldLinkNest RX2 71 RX1 "rate" "I" RX2, .fieldLinkNest RX2 160 RX1 "hasLeft" "Z" RX2, .fieldLinkNest RX2 85 RX1 "money" "J" RX2, .fieldLinkNest RX2 126 RX1 "spent" "J" RX2, .fieldLinkNest RX2 129 RX1 "givenBack" "J" RX2, .fieldLinkNest RX2 132 RX1 "keptOfSlips" "J" RX2, .fieldLinkNest RX2 89 RX1 "offerMonth" "I" RX2, .fieldLinkNest RX2 92 RX1 "offerPrice" "I" RX2, .fieldLinkNest RX2 95 RX1 "resets" "I" RX2, .fieldLinkNest RX2 144 RX1 "payOfSales" "J" RX2, .fieldLinkNest RX2 147 RX1 "gainOfSales" "J" RX2]
abbrev sg_nm : List Cond := [.methodLinkNest RX2 105 yX1_lotOf RX2, .methodLinkNest RX2 122 yX1_countedIn RX2, .methodLinkNest RX2 140 yX1_sellOldest RX2, .methodLinkNest RX2 150 yX1_gainIfAllSold RX2, .methodLinkNest RX2 166 yX1_buyShares RX2, .methodLinkNest RX2 60 yX1_init RX2, .methodLinkNest RX2 77 yX1_takeSlip RX2, .methodLinkNest RX2 81 yX1_giveBack RX2, .methodLinkNest RX2 98 yX1_sharesHeld RX2, .methodLinkNest RX1 102 yX0_payEach RX2, .methodLinkNest RX1 109 yX0_gainEach RX2, .methodLinkNest RX1 112 yX0_isEarly RX2, .methodLinkNest RX1 65 yX0_init RX2, .methodLinkNest RX1 89 yX2_isPurchaseMonth RX2]
abbrev sg_nc : List Cond := [.castable "java/lang/IndexOutOfBoundsException" "java/lang/IndexOutOfBoundsException", .castable "java/lang/IllegalArgumentException" "java/lang/IllegalArgumentException", .castable "java/lang/IllegalStateException" "java/lang/IllegalStateException", .declares (Bundle.initS "java/lang/RuntimeException"), .declares (Bundle.initS "java/lang/Exception"), .declares (Bundle.initS "java/lang/Throwable")]
abbrev sg_ns : List (Nat × String) := [(119, "there is no such year"), (136, "the number of shares is out of its range"), (138, "the member has fewer shares"), (154, "there is no such member"), (156, "the rate is out of its range"), (158, "there is no such month"), (164, "the member has left"), (32, "the price is out of its range"), (39, "the last month has begun already"), (50, "the ceiling is out of its range"), (56, "no month has begun"), (58, "the plan is full"), (75, "the gross is out of its range")]
def sg_N (U : State) : Prop := (∀ w ∈ sg_nf, va_Nw w U) ∧ (∀ w ∈ sg_nm, va_Nw w U) ∧ (∀ w ∈ sg_nc, va_Nw w U) ∧ (va_AO RX0 U ∧ va_AO RX1 U) ∧ ∀ q ∈ sg_ns, ∃ a, vk_R RX2 q.1 q.2 a U
theorem sg_N.warm {s U : State} (hW : s.WarmedH U.vm) (h : sg_N s) : sg_N U := by
  obtain ⟨h1, h2, h3, h4, h5⟩ := h
  refine ⟨fun w hw => ?_, fun w hw => ?_, fun w hw => ?_, ⟨h4.1.moved hW.alike, h4.2.moved hW.alike⟩, fun q hq => ?_⟩
  · have h9 := h1 w hw
    simp only [sg_nf, List.mem_cons, List.not_mem_nil, or_false] at hw
    rcases hw with rfl | rfl | rfl | rfl | rfl | rfl | rfl | rfl | rfl | rfl | rfl | rfl | rfl | rfl | rfl <;> exact va_Nw.warmF hW h9
  · have h9 := h2 w hw
    simp only [sg_nm, List.mem_cons, List.not_mem_nil, or_false] at hw
    rcases hw with rfl | rfl | rfl | rfl | rfl | rfl | rfl | rfl | rfl | rfl | rfl | rfl | rfl | rfl <;> exact va_Nw.warmM hW h9
  · have h9 := h3 w hw
    simp only [sg_nc, List.mem_cons, List.not_mem_nil, or_false] at hw
    rcases hw with rfl | rfl | rfl | rfl | rfl | rfl <;> first | exact va_Nw.warmC hW h9 | exact va_Nw.warmD hW h9
  · obtain ⟨a, ha⟩ := h5 q hq
    exact ⟨a, ha.warm hW⟩
def sg_X (A : Nat → Prop) (U : State) (H : Heap) : Prop := vx_Zq Bundle.tN "UNASSIGNED_STACK" Bundle.steD A U H ∧ vx_Zq Bundle.tN "SUPPRESSED_SENTINEL" Bundle.listD A U H
theorem sg_X.at {A B : Nat → Prop} {s U : State} {H : Heap} {locs : List Loc} (hvm : s.vm.Alike U.vm) (h : sg_X A s s.heap) (hS : va_S A s.heap H locs) (hB : ∀ q, B q → A q) : sg_X B U H :=
  ⟨((h.1.kept hS.2.1).narrow hB).moved hvm, ((h.2.kept hS.2.1).narrow hB).moved hvm⟩
/-- a contract's start: the heap's size, the world, the tables -/
def sg_U (D : va_G) (Y : Nat → ClassId) (σ : sg_W) (sz : Nat) (U : State) : Prop := U.heap.size = sz ∧ sg_P D σ U.heap ∧ sg_K D Y U ∧ sg_D (fun _ => True) σ ∧ sg_N U ∧ sg_X (sg_A σ sz) U U.heap
/-- a contract's end: the world behind it -/
def sg_B (D : va_G) (σ : sg_W) (sz : Nat) (σ' : sg_W) (t : State) : Prop := sg_P D σ' t.heap ∧ sg_D (sg_A σ sz) σ'
theorem sg_blind {D : va_G} {Y : Nat → ClassId} {σ : sg_W} {sz : Nat} {av : List Value} : FrameBlind (va_Pc av (sg_U D Y σ sz)) := fun a U g mk q => by
  obtain ⟨q0, q1, q2, q3, q4, q5, q6⟩ := q
  exact ⟨q0, q1, q2, va_K.moved (u := U) (U := U.calling g mk a) (Vm.Alike.refl U.vm) q3, q4, sg_N.warm (s := U) (U := U.calling g mk a) (State.WarmedH.refl U) q5, ⟨vx_Zq.moved (u := U) (U := U.calling g mk a) (Vm.Alike.refl U.vm) q6.1, vx_Zq.moved (u := U) (U := U.calling g mk a) (Vm.Alike.refl U.vm) q6.2⟩⟩
end
section
/-! the rows over worlds by names: stores, new cells, calls, starts and ends of methods -/
section SG
variable {p : Program} {l : Launch} {e : Env} {R : Room} {s : State} {m : MethodId} {args : Array Value} {below : List Frame} {meth : Method} {c : Code} {H : Heap} {locs : List Loc} {cells slots : Nat} {Q : State → Prop}
variable {cc : ByteArray} {pc : Nat} {ls : Array Slot} {rest : List Value} {D : va_G} {Y : Nat → ClassId} {A : Nat → Prop} {a : Nat} {σ : sg_W} {H0 : Heap}
theorem sg_iast (hexec : p.tables.exec = Jvm.exec) (hb : c.code = cc) (hK : sg_K D Y s) (hP : sg_P D σ H) (hD : sg_D A σ) (hS : va_S A H0 H locs) {n N : Nat} {f : Nat → Int32} (h : σ n = some (a, .inl (Y 0, N, .inl f))) {i x : Int32} (hin : vp_in i N) (hdg : decode cc pc = .ok (.iastore, 1))
    (kk : ∀ (H1 : Heap) (locs1 : List Loc), sg_P D (sg_u σ n a (.inl (Y 0, N, .inl (upd f i.toNatClampNeg x)))) H1 → sg_D A (sg_u σ n a (.inl (Y 0, N, .inl (upd f i.toNatClampNeg x)))) → va_S A H0 H1 locs1 → W p l e R s m args below meth c H1 locs1 cells slots Q (F0 m (pc + 1) ls rest)) : W p l e R s m args below meth c H locs cells slots Q (F0 m pc ls (.int x :: .int i :: .ref a :: rest)) := by
  refine W.iast hexec hb (hP n _ h) ((hK.2 0 _ rfl).1 N (fun j => .int (f j))) (fun q => by cases q) (by show ¬ (i < 0 ∨ (arrV _ _ _).slots.size ≤ _); rw [arrV_size]; exact hin) rfl rfl hdg fun H1 e1 z oq => ?_
  refine kk H1 _ (hP.set hD h ?_ oq) (hD.set h) (hS.put z oq (hD.2 n _ h))
  show H1[a]? = some (vp_cell _ _)
  rw [e1, vp_cell_i, vp_cell_i, arrV_store]
  congr 2
  funext q
  by_cases hq : q = i.toNatClampNeg
  · subst hq; simp [updV, upd]
  · simp [updV, upd, hq]
theorem sg_zast (hexec : p.tables.exec = Jvm.exec) (hb : c.code = cc) (hK : sg_K D Y s) (hP : sg_P D σ H) (hD : sg_D A σ) (hS : va_S A H0 H locs) {n N : Nat} {f : Nat → Int32} (h : σ n = some (a, .inl (Y 2, N, .inl f))) {i x : Int32} (hin : vp_in i N) (hx : vp_nar .boolean x = x) (hdg : decode cc pc = .ok (.bastore, 1))
    (kk : ∀ (H1 : Heap) (locs1 : List Loc), sg_P D (sg_u σ n a (.inl (Y 2, N, .inl (upd f i.toNatClampNeg x)))) H1 → sg_D A (sg_u σ n a (.inl (Y 2, N, .inl (upd f i.toNatClampNeg x)))) → va_S A H0 H1 locs1 → W p l e R s m args below meth c H1 locs1 cells slots Q (F0 m (pc + 1) ls rest)) : W p l e R s m args below meth c H locs cells slots Q (F0 m pc ls (.int x :: .int i :: .ref a :: rest)) := by
  refine W.zast hexec hb (hP n _ h) ((hK.2 2 _ rfl).1 N (fun j => .int (f j))) (fun q => by cases q) (by show ¬ (i < 0 ∨ (arrV _ _ _).slots.size ≤ _); rw [arrV_size]; exact hin) rfl rfl hdg fun H1 e1 z oq => ?_
  refine kk H1 _ (hP.set hD h ?_ oq) (hD.set h) (hS.put z oq (hD.2 n _ h))
  show H1[a]? = some (vp_cell _ _)
  rw [e1, vp_cell_i, vp_cell_i, arrV_store]
  congr 2
  funext q
  by_cases hq : q = i.toNatClampNeg
  · subst hq
    have h8 : narrow FieldType.boolean (Value.int x) = .int x := by
      rw [show narrow FieldType.boolean (Value.int x) = .int (vp_nar .boolean x) from rfl, hx]
    simp [updV, upd, h8]
  · simp [updV, upd, hq]
theorem sg_last (hexec : p.tables.exec = Jvm.exec) (hb : c.code = cc) (hK : sg_K D Y s) (hP : sg_P D σ H) (hD : sg_D A σ) (hS : va_S A H0 H locs) {n N : Nat} {f : Nat → Int64} (h : σ n = some (a, .inl (Y 1, N, .inr (.inl f)))) {i : Int32} {x : Int64} (hin : vp_in i N) (hdg : decode cc pc = .ok (.lastore, 1))
    (kk : ∀ (H1 : Heap) (locs1 : List Loc), sg_P D (sg_u σ n a (.inl (Y 1, N, .inr (.inl (vp_updL f i.toNatClampNeg x))))) H1 → sg_D A (sg_u σ n a (.inl (Y 1, N, .inr (.inl (vp_updL f i.toNatClampNeg x))))) → va_S A H0 H1 locs1 → W p l e R s m args below meth c H1 locs1 cells slots Q (F0 m (pc + 1) ls rest)) : W p l e R s m args below meth c H locs cells slots Q (F0 m pc ls (.long x :: .int i :: .ref a :: rest)) := by
  refine W.last hexec hb (hP n _ h) ((hK.2 1 _ rfl).1 N (fun j => .long (f j))) (fun q => by cases q) (by show ¬ (i < 0 ∨ (arrV _ _ _).slots.size ≤ _); rw [arrV_size]; exact hin) rfl rfl hdg fun H1 e1 z oq => ?_
  refine kk H1 _ (hP.set hD h ?_ oq) (hD.set h) (hS.put z oq (hD.2 n _ h))
  show H1[a]? = some (vp_cell _ _)
  rw [e1, vp_cell_l, vp_cell_l, arrV_store]
  congr 2
  funext q
  by_cases hq : q = i.toNatClampNeg
  · subst hq; simp [updV, vp_updL]
  · simp [updV, vp_updL, hq]
theorem sg_aast (hexec : p.tables.exec = Jvm.exec) (hb : c.code = cc) (hK : sg_K D Y s) (hP : sg_P D σ H) (hD : sg_D A σ) (hS : va_S A H0 H locs) (t0 ci : Nat) {n N n2 v : Nat} {cA : ClassId} {r : vw_C} {vs : List Value} {f : Nat → Option Nat} (h : σ n = some (a, .inl (cA, N, .inr (.inr (.inr (.inr f)))))) (ht : (sg_T Y)[t0]? = some (cA, .object r.1)) (hv : σ n2 = some (v, .inr (ci, vs))) (hc : vwCl[ci]? = some r) {i : Int32} (hin : vp_in i N) (hdg : decode cc pc = .ok (.aastore, 1))
    (kk : ∀ (H1 : Heap) (locs1 : List Loc), sg_P D (sg_u σ n a (.inl (cA, N, .inr (.inr (.inr (.inr (va_up f i.toNatClampNeg (some v)))))))) H1 → sg_D A (sg_u σ n a (.inl (cA, N, .inr (.inr (.inr (.inr (va_up f i.toNatClampNeg (some v)))))))) → va_S A H0 H1 locs1 → W p l e R s m args below meth c H1 locs1 cells slots Q (F0 m (pc + 1) ls rest)) : W p l e R s m args below meth c H locs cells slots Q (F0 m pc ls (.ref v :: .int i :: .ref a :: rest)) := by
  have hlt : i.toNatClampNeg < N := Nat.not_le.mp fun q => hin (Or.inr q)
  have h0 : ¬ i < 0 := fun q => hin (Or.inl q)
  obtain ⟨r', hr', cellV, g1, g2, g3, -⟩ := hP n2 _ hv
  have hcls := (hK.1 ci r hc).2
  obtain ⟨kA, comp, k1, k2, k3, -⟩ := (hK.2 t0 _ ht).2
  have hcomp : comp = D.1 ci := Option.some.inj (k3.symm.trans hcls.1)
  subst hcomp
  obtain ⟨kC, hkC, -⟩ := hcls.2
  refine W.aast hexec hb (hP n _ h) (fun q h => by cases h) (fun h => by cases h) k1 k2 rfl hkC ⟨h0, by show _ < (arrV _ _ _).slots.size; rw [arrV_size]; exact hlt⟩ g1 (fun q h => by rw [g3] at h; cases h) (by rw [g2]; exact hkC) (by rw [g2]; exact va_assign hcls) rfl rfl hdg fun H1 e1 z oq => ?_
  refine kk H1 _ (hP.set hD h ?_ oq) (hD.set h) (hS.put z oq (hD.2 n _ h))
  show H1[a]? = some (vp_cell _ _)
  rw [e1, vp_cell_q, vp_cell_q, arrV_store]
  congr 2
  funext q
  by_cases hq : q = i.toNatClampNeg
  · subst hq; simp [updV, va_up, va_rf]
  · simp [updV, va_up, hq]
theorem sg_put (hexec : p.tables.exec = Jvm.exec) (hb : c.code = cc) {own ref C : String} {T : u_T} {N ci index : Nat} {Ts : List Cond} (hts : ∀ w ∈ Ts, w.before args s = true) (hin : ∀ w ∈ u_ws C T N, w ∈ Ts) (ty0 : Nat → FieldType) (hty : ∀ k, k < N → parseFieldDescriptor (T k).2.2.1 = some (ty0 k)) (hnm : ∀ a, a < N → ∀ b, b < N → a ≠ b → (T a).2.1 ≠ (T b).2.1) (hown : s.vm.findClass own = some m.cls) (hK : sg_K D Y s) (hP : sg_P D σ H) (hD : sg_D A σ) (hS0 : va_S A H0 H locs) {n : Nat} {fs : List Value} (h : σ n = some (a, .inr (ci, fs))) (hc : vwCl[ci]? = some (C, T, N)) (k : Nat) (hk : k < N) (hlink : (Cond.fieldLink own index ref (T k).2.1 (T k).2.2.1).before args s = true) (hsame : ∀ x, s.fieldFound? (T k).1 (T k).2.1 (T k).2.2.1 = some x → s.fieldFound? ref (T k).2.1 (T k).2.2.1 = some x) (hfin : (T k).2.2.2 = false) {ty : FieldType} {v : Value} (hd : parseFieldDescriptor (T k).2.2.1 = some ty) (hn : narrow ty v = v) (hfit : fits ty v = true) (hl : k < fs.length)
    (hdg : decode cc pc = .ok (.putfield index, 3)) (kk : ∀ (H1 : Heap) (locs1 : List Loc), sg_P D (sg_u σ n a (.inr (ci, fs.set k v))) H1 → sg_D A (sg_u σ n a (.inr (ci, fs.set k v))) → va_S A H0 H1 locs1 → W p l e R s m args below meth c H1 locs1 cells slots Q (F0 m (pc + 3) ls rest)) : W p l e R s m args below meth c H locs cells slots Q (F0 m pc ls (v :: .ref a :: rest)) := by
  have hap := va_apart (own := own) hts hin ty0 hty hnm hK hc
  obtain ⟨r, h1, cell, q1, q2, q3, q4⟩ := hP n _ h
  have hr : r = (C, T, N) := Option.some.inj (h1.symm.trans hc)
  subst hr
  obtain ⟨hS, hfc, kC, hkC, hkind⟩ := hK.1 ci _ hc
  obtain ⟨cf, kf, fi, f, hi, hsl⟩ := hS k hk
  have hlay := hts _ (hin _ (u_in_lay hk))
  unfold u_lay at hlay
  rw [if_neg (by rw [hfin]; decide)] at hlay
  have hst := (u_facts hfc hkC (u_lays hts hin hk) hi).1
  have h6 := u_store hfc hkC hkind hlay hi hd hn hfit
  refine W.putK hexec hb (f := f) ⟨hown, hlink, ⟨_, _, _, hsame _ hi⟩, hst⟩ (by rw [q2]; exact h6) q1 q3 (by rw [hsl]; exact k2_hasslot (q4 k hk)) rfl rfl hdg fun H' e1 e2 e3 => ?_
  rw [hsl] at e1 ⊢
  exact kk H' _ (hP.set hD h ⟨_, hc, t_OB.to (V := updV (vp_V fs) k v) ⟨_, e1, q2, q3, t_set q4 hap hk v⟩ (fun j _ => vp_updV_set hl v j)⟩ e3) (hD.set h) (hS0.put e2 e3 (hD.2 n _ h))
theorem sg_putN (hexec : p.tables.exec = Jvm.exec) (hb : c.code = cc) {own ref C host : String} {T : u_T} {N ci index : Nat} {Ts : List Cond} (hts : ∀ w ∈ Ts, w.before args s = true) (hin : ∀ w ∈ u_ws C T N, w ∈ Ts) (ty0 : Nat → FieldType) (hty : ∀ k, k < N → parseFieldDescriptor (T k).2.2.1 = some (ty0 k)) (hnm : ∀ a, a < N → ∀ b, b < N → a ≠ b → (T a).2.1 ≠ (T b).2.1) (hown : s.vm.findClass own = some m.cls) (hK : sg_K D Y s) (hP : sg_P D σ H) (hD : sg_D A σ) (hS0 : va_S A H0 H locs) {n : Nat} {fs : List Value} (h : σ n = some (a, .inr (ci, fs))) (hc : vwCl[ci]? = some (C, T, N)) (k : Nat) (hk : k < N) (hlink : (Cond.fieldLinkNest own index ref (T k).2.1 (T k).2.2.1 host).before args s = true) (hsame : ∀ x, s.fieldFound? (T k).1 (T k).2.1 (T k).2.2.1 = some x → s.fieldFound? ref (T k).2.1 (T k).2.2.1 = some x) (hfin : (T k).2.2.2 = false) {ty : FieldType} {v : Value} (hd : parseFieldDescriptor (T k).2.2.1 = some ty) (hn : narrow ty v = v) (hfit : fits ty v = true) (hl : k < fs.length)
    (hdg : decode cc pc = .ok (.putfield index, 3)) (kk : ∀ (H1 : Heap) (locs1 : List Loc), sg_P D (sg_u σ n a (.inr (ci, fs.set k v))) H1 → sg_D A (sg_u σ n a (.inr (ci, fs.set k v))) → va_S A H0 H1 locs1 → W p l e R s m args below meth c H1 locs1 cells slots Q (F0 m (pc + 3) ls rest)) : W p l e R s m args below meth c H locs cells slots Q (F0 m pc ls (v :: .ref a :: rest)) := by
  have hap := va_apart (own := own) hts hin ty0 hty hnm hK hc
  obtain ⟨r, h1, cell, q1, q2, q3, q4⟩ := hP n _ h
  have hr : r = (C, T, N) := Option.some.inj (h1.symm.trans hc)
  subst hr
  obtain ⟨hS, hfc, kC, hkC, hkind⟩ := hK.1 ci _ hc
  obtain ⟨cf, kf, fi, f, hi, hsl⟩ := hS k hk
  have hlay := hts _ (hin _ (u_in_lay hk))
  unfold u_lay at hlay
  rw [if_neg (by rw [hfin]; decide)] at hlay
  have hst := (u_facts hfc hkC (u_lays hts hin hk) hi).1
  have h6 := u_store hfc hkC hkind hlay hi hd hn hfit
  refine va_WputK hexec hb (f := f) hown hlink (hsame _ hi) hst (by rw [q2]; exact h6) q1 q3 (by rw [hsl]; exact k2_hasslot (q4 k hk)) rfl rfl hdg fun H' e1 e2 e3 => ?_
  rw [hsl] at e1 ⊢
  exact kk H' _ (hP.set hD h ⟨_, hc, t_OB.to (V := updV (vp_V fs) k v) ⟨_, e1, q2, q3, t_set q4 hap hk v⟩ (fun j _ => vp_updV_set hl v j)⟩ e3) (hD.set h) (hS0.put e2 e3 (hD.2 n _ h))
theorem sg_putF (hexec : p.tables.exec = Jvm.exec) (hb : c.code = cc) {own ref C : String} {T : u_T} {N ci index : Nat} {Ts : List Cond} (hts : ∀ w ∈ Ts, w.before args s = true) (hin : ∀ w ∈ u_ws C T N, w ∈ Ts) (ty0 : Nat → FieldType) (hty : ∀ k, k < N → parseFieldDescriptor (T k).2.2.1 = some (ty0 k)) (hnm : ∀ a, a < N → ∀ b, b < N → a ≠ b → (T a).2.1 ≠ (T b).2.1) (hown : s.vm.findClass own = some m.cls) (hK : sg_K D Y s) (hP : sg_P D σ H) (hD : sg_D A σ) (hS0 : va_S A H0 H locs) {n : Nat} {fs : List Value} (h : σ n = some (a, .inr (ci, fs))) (hc : vwCl[ci]? = some (C, T, N)) (k : Nat) (hk : k < N) (hlink : (Cond.fieldLink own index ref (T k).2.1 (T k).2.2.1).before args s = true) (hsame : ∀ x, s.fieldFound? (T k).1 (T k).2.1 (T k).2.2.1 = some x → s.fieldFound? ref (T k).2.1 (T k).2.2.1 = some x) (hfin : (T k).2.2.2 = true) (hin2 : meth.name = "<init>") (hdecl : (T k).1 = own) {ty : FieldType} {v : Value} (hd : parseFieldDescriptor (T k).2.2.1 = some ty) (hn : narrow ty v = v) (hfit : fits ty v = true) (hl : k < fs.length)
    (hdg : decode cc pc = .ok (.putfield index, 3)) (kk : ∀ (H1 : Heap) (locs1 : List Loc), sg_P D (sg_u σ n a (.inr (ci, fs.set k v))) H1 → sg_D A (sg_u σ n a (.inr (ci, fs.set k v))) → va_S A H0 H1 locs1 → W p l e R s m args below meth c H1 locs1 cells slots Q (F0 m (pc + 3) ls rest)) : W p l e R s m args below meth c H locs cells slots Q (F0 m pc ls (v :: .ref a :: rest)) := by
  have hap := va_apart (own := own) hts hin ty0 hty hnm hK hc
  obtain ⟨r, h1, cell, q1, q2, q3, q4⟩ := hP n _ h
  have hr : r = (C, T, N) := Option.some.inj (h1.symm.trans hc)
  subst hr
  obtain ⟨hS, hfc, kC, hkC, hkind⟩ := hK.1 ci _ hc
  obtain ⟨cf, kf, fi, f, hi, hsl⟩ := hS k hk
  have hlay := hts _ (hin _ (u_in_lay hk))
  unfold u_lay at hlay
  rw [if_pos hfin] at hlay
  have hst := (u_facts hfc hkC (u_lays hts hin hk) hi).1
  have hcf : m.cls = cf := by
    obtain ⟨_, _, c', _, _, _, -, -, hf', -, -, -, hown2, -⟩ := Cond.laysFinal_spec hlay
    have e1 : c' = cf := by have := hi.symm.trans hf'; simp at this; exact this.1.symm
    rw [hdecl] at hown2
    rw [← e1]; exact Option.some.inj (hown.symm.trans hown2)
  have h6 := u_fits hfc hkC hkind (Or.inr hlay) hi hd hn hfit
  refine W.putFinK hexec hb hown hlink (hsame _ hi) hst hcf hin2 (by rw [q2]; exact h6) q1 q3 (by rw [hsl]; exact k2_hasslot (q4 k hk)) rfl rfl hdg fun H' e1 e2 e3 => ?_
  rw [hsl] at e1 ⊢
  exact kk H' _ (hP.set hD h ⟨_, hc, t_OB.to (V := updV (vp_V fs) k v) ⟨_, e1, q2, q3, t_set q4 hap hk v⟩ (fun j _ => vp_updV_set hl v j)⟩ e3) (hD.set h) (hS0.put e2 e3 (hD.2 n _ h))
/-- a new object gets the name n -/
theorem sg_new (n : Nat) (hexec : p.tables.exec = Jvm.exec) (hb : c.code = cc) {own C : String} {T : u_T} {N ci index : Nat} {Ts : List Cond} (hts : ∀ w ∈ Ts, w.before args s = true) (hin : ∀ w ∈ u_ws C T N, w ∈ Ts) (ty : Nat → FieldType) (hty : ∀ k, k < N → parseFieldDescriptor (T k).2.2.1 = some (ty k)) (hown : s.vm.findClass own = some m.cls) (hcl : (Cond.classLink own index C).before args s = true) (hinst : (Cond.instantiable C N).before args s = true) (hini : (Cond.initialized C).before args s = true)
    (hK : sg_K D Y s) (hP : sg_P D σ H) (hD : sg_D A σ) (hS : va_S A H0 H locs) (hA : ∀ q, H0.size ≤ q → A q) (hc : vwCl[ci]? = some (C, T, N)) {fs : List Value} (hfs : ∀ j, j < N → defaultValue (ty j) = vp_V fs j) (hcells : cells + 1 ≤ R.cells) (hslots : slots + N ≤ R.slots) (hdg : decode cc pc = .ok (.new index, 3))
    (kk : ∀ (q : Nat) (H1 : Heap), sg_P D (sg_u σ n q (.inr (ci, fs))) H1 → sg_D A (sg_u σ n q (.inr (ci, fs))) → va_S A H0 H1 locs →
      W p l e R s m args below meth c H1 locs (cells + 1) (slots + N) Q (F0 m (pc + 3) ls (.ref q :: rest))) : W p l e R s m args below meth c H locs cells slots Q (F0 m pc ls rest) := by
  have hKn := hK.1 ci _ hc
  refine W.newcK hexec hb hown hcl hinst hini rfl hdg hcells hslots hKn.2.1 rfl fun H1 kC hkC e1 z1 o1 => ?_
  exact kk H.size H1 (hP.new ⟨_, hc, (u_born ty hts hin hKn hkC e1 hty).to hfs⟩ o1) (hD.new hP (hA _ hS.1)) ⟨Nat.le_trans hS.1 (by omega), fun x h1 h2 => (o1 x (Nat.lt_of_lt_of_le h1 hS.1)).trans (hS.2.1 x h1 h2), hS.2.2⟩
/-- a new array of numbers gets the name n; t0: its class's place among the array classes -/
theorem sg_newa (n t0 : Nat) (hexec : p.tables.exec = Jvm.exec) (hb : c.code = cc) {atype : ArrayType} (harr : (Cond.arrayClass (newarray.typeOf atype)).before args s = true) {cA : ClassId} (ht : (sg_T Y)[t0]? = some (cA, newarray.typeOf atype)) (hK : sg_K D Y s) (hP : sg_P D σ H) (hD : sg_D A σ) (hS : va_S A H0 H locs) (hA : ∀ q, H0.size ≤ q → A q)
    {n1 : Int32} {N' : Nat} {a0 : vp_A} (ha : ∀ cA : ClassId, vp_cell cA a0 = arrV cA N' (fun _ => defaultValue (newarray.typeOf atype))) (hn : ¬ n1 < 0) (hN : n1.toNatClampNeg = N') (hbytes : N' * componentBytes (newarray.typeOf atype) ≤ 536870912) (hcells : cells + 1 ≤ R.cells) (hslots : slots + N' ≤ R.slots) (hdg : decode cc pc = .ok (.newarray atype, 2))
    (kk : ∀ (q : Nat) (H1 : Heap), sg_P D (sg_u σ n q (.inl (cA, a0))) H1 → sg_D A (sg_u σ n q (.inl (cA, a0))) → va_S A H0 H1 locs →
      W p l e R s m args below meth c H1 locs (cells + 1) (slots + N') Q (F0 m (pc + 2) ls (.ref q :: rest))) : W p l e R s m args below meth c H locs cells slots Q (F0 m pc ls (.int n1 :: rest)) := by
  refine va_newaK hexec hb harr rfl hdg rfl hn hN hbytes hcells hslots rfl fun H1 cB e1 z1 o1 hAr hNm => ?_
  have hcc : cB = cA := by
    have h9 := (hK.2 t0 _ ht).2
    have h8 : s.vm.findClass ("[" ++ (newarray.typeOf atype).toString) = some cA := by cases atype <;> exact h9
    exact Option.some.inj (hNm.symm.trans h8)
  subst hcc
  exact kk H.size H1 (hP.new (by show H1[H.size]? = some (vp_cell _ _); rw [ha]; exact e1) o1) (hD.new hP (hA _ hS.1)) ⟨Nat.le_trans hS.1 (by omega), fun x h1 h2 => (o1 x (Nat.lt_of_lt_of_le h1 hS.1)).trans (hS.2.1 x h1 h2), hS.2.2⟩
/-- a new array of references gets the name n -/
theorem sg_newq (n t0 : Nat) (hexec : p.tables.exec = Jvm.exec) (hb : c.code = cc) {own C : String} {index : Nat} (hown : s.vm.findClass own = some m.cls) (hclink : (Cond.classLink own index C).before args s = true) (hover : va_AO C s) {cA : ClassId} (ht : (sg_T Y)[t0]? = some (cA, .object C)) (hK : sg_K D Y s) (hP : sg_P D σ H) (hD : sg_D A σ) (hS : va_S A H0 H locs) (hA : ∀ q, H0.size ≤ q → A q)
    {n1 : Int32} {N' : Nat} (hn : ¬ n1 < 0) (hN : n1.toNatClampNeg = N') (hbytes : N' * 4 ≤ 536870912) (hcells : cells + 1 ≤ R.cells) (hslots : slots + N' ≤ R.slots) (hdg : decode cc pc = .ok (.anewarray index, 3))
    (kk : ∀ (q : Nat) (H1 : Heap), sg_P D (sg_u σ n q (.inl (cA, N', .inr (.inr (.inr (.inr (fun _ => none))))))) H1 → sg_D A (sg_u σ n q (.inl (cA, N', .inr (.inr (.inr (.inr (fun _ => none))))))) → va_S A H0 H1 locs →
      W p l e R s m args below meth c H1 locs (cells + 1) (slots + N') Q (F0 m (pc + 3) ls (.ref q :: rest))) : W p l e R s m args below meth c H locs cells slots Q (F0 m pc ls (.int n1 :: rest)) := by
  subst hN
  refine W.anew hexec hb hown hclink (va_AO.use hover) rfl hdg rfl hn hbytes hcells hslots fun cB kA comp f1 f2 f3 f4 => ?_
  have hcc : cB = cA := by
    obtain ⟨_, _, _, _, _, h9⟩ := (hK.2 t0 _ ht).2
    exact Option.some.inj (f1.symm.trans h9)
  subst hcc
  generalize hH1 : H.push ({ cls := cB, slots := Array.replicate n1.toNatClampNeg .null, vm := .none } : Cell) = H1
  have z1 : H1.size = H.size + 1 := by rw [← hH1, Array.size_push]
  have e1 : H1[H.size]? = some (arrV cB n1.toNatClampNeg (fun _ => .null)) := by rw [← hH1, Array.getElem?_push_size, ← arrV_new]
  have o1 : ∀ q : Nat, q < H.size → H1[q]? = H[q]? := fun q hq => by rw [← hH1, Array.getElem?_push, if_neg (Nat.ne_of_lt hq)]
  exact kk H.size H1 (hP.new (by show H1[H.size]? = some (vp_cell _ _); rw [vp_cell_q]; exact e1) o1) (hD.new hP (hA _ hS.1)) ⟨Nat.le_trans hS.1 (by omega), fun x h1 h2 => (o1 x (Nat.lt_of_lt_of_le h1 hS.1)).trans (hS.2.1 x h1 h2), hS.2.2⟩
/-! starts of calls -/
theorem sg_pre {av : List Value} (hK : sg_K D Y s) (hP : sg_P D σ H) (hD : sg_D A σ) (hN : sg_N s) (hX : sg_X A s s.heap) (hS : va_S A s.heap H locs) (hA : ∀ q, s.heap.size ≤ q → A q) : ∀ U : State, U.heap = H → s.WarmedH U.vm → va_Pc av (sg_U D Y σ H.size) av.toArray U := by
  intro U hU hW
  refine ⟨rfl, by rw [hU], by rw [hU]; exact hP, va_K.moved hW.alike hK, hD.weaken (fun _ _ => trivial), hN.warm hW, ?_⟩
  rw [hU]
  exact hX.at hW.alike hS (sg_A.sub hD (fun q h => hA q (Nat.le_trans hS.1 h)))
theorem sg_preS {av : List Value} (hK : sg_K D Y s) (hP : sg_P D σ H) (hD : sg_D A σ) (hN : sg_N s) (hX : sg_X A s s.heap) (hS : va_S A s.heap H locs) (hA : ∀ q, s.heap.size ≤ q → A q) : PreS s H (va_Pc av (sg_U D Y σ H.size)) av := ⟨sg_blind, sg_pre hK hP hD hN hX hS hA⟩
theorem sg_preV {As : List Value} {q : vw_C} {b ci n : Nat} {fs : List Value} (h : σ n = some (b, .inr (ci, fs))) (hc : vwCl[ci]? = some q) (hK : sg_K D Y s) (hP : sg_P D σ H) (hD : sg_D A σ) (hN : sg_N s) (hX : sg_X A s s.heap) (hS : va_S A s.heap H locs) (hA : ∀ q, s.heap.size ≤ q → A q) : PreV s H q.1 b (va_Pc (.ref b :: As) (sg_U D Y σ H.size)) As :=
  ⟨sg_blind, va_recv hK (sg_one hP h) (q0 := 0) hc rfl, sg_pre hK hP hD hN hX hS hA⟩
/-! behind calls -/
theorem sg_behind {σ' : sg_W} {t : State} {H1 : Heap} (hD : sg_D A σ) (hS : va_S A H0 H locs) (hA : ∀ q, H0.size ≤ q → A q) (ht : t.heap = H1) (hB : sg_B D σ H.size σ' t) : sg_P D σ' H1 ∧ sg_D A σ' := by
  refine ⟨by rw [← ht]; exact hB.1, hB.2.weaken (sg_A.sub hD (fun q h => hA q (Nat.le_trans hS.1 h)))⟩
theorem sg_calli {mc ms : Nat} {st0 : List Value} {a : Array Value} {Post : Int32 → sg_W → Prop} (hD : sg_D A σ) (hS : va_S A H0 H locs) (hA : ∀ q, H0.size ≤ q → A q) (hr : va_Run p l e R s m args below meth c H locs cells slots mc ms (F0 m pc ls st0) rest (va_Qi Post (sg_B D σ H.size) (sg_A σ H.size) a) (sg_A σ H.size))
    (kk : ∀ (r : Int32) (σ' : sg_W) (H1 : Heap) (locs1 : List Loc), Post r σ' → sg_P D σ' H1 → sg_D A σ' → va_S A H0 H1 locs1 → W p l e R s m args below meth c H1 locs1 (cells + mc) (slots + ms) Q (F0 m (pc + 3) ls (.int r :: rest))) : W p l e R s m args below meth c H locs cells slots Q (F0 m pc ls st0) := by
  have hsub := sg_A.sub hD (fun q h => hA q (Nat.le_trans hS.1 h))
  refine va_calli hr hS (fun q _ h => hsub q h) hsub (fun r σ' t H1 locs1 ht hvm hw hB hz hk hS1 => ?_)
  obtain ⟨h1, h2⟩ := sg_behind hD hS hA ht hB
  exact kk r σ' H1 locs1 hw h1 h2 hS1
theorem sg_calll {mc ms : Nat} {st0 : List Value} {a : Array Value} {Post : Int64 → sg_W → Prop} (hD : sg_D A σ) (hS : va_S A H0 H locs) (hA : ∀ q, H0.size ≤ q → A q) (hr : va_Run p l e R s m args below meth c H locs cells slots mc ms (F0 m pc ls st0) rest (va_Ql Post (sg_B D σ H.size) (sg_A σ H.size) a) (sg_A σ H.size))
    (kk : ∀ (r : Int64) (σ' : sg_W) (H1 : Heap) (locs1 : List Loc), Post r σ' → sg_P D σ' H1 → sg_D A σ' → va_S A H0 H1 locs1 → W p l e R s m args below meth c H1 locs1 (cells + mc) (slots + ms) Q (F0 m (pc + 3) ls (.long r :: rest))) : W p l e R s m args below meth c H locs cells slots Q (F0 m pc ls st0) := by
  have hsub := sg_A.sub hD (fun q h => hA q (Nat.le_trans hS.1 h))
  refine va_calll hr hS (fun q _ h => hsub q h) hsub (fun r σ' t H1 locs1 ht hvm hw hB hz hk hS1 => ?_)
  obtain ⟨h1, h2⟩ := sg_behind hD hS hA ht hB
  exact kk r σ' H1 locs1 hw h1 h2 hS1
theorem sg_callv {mc ms : Nat} {st0 : List Value} {a : Array Value} {Post : sg_W → Prop} (hD : sg_D A σ) (hS : va_S A H0 H locs) (hA : ∀ q, H0.size ≤ q → A q) (hr : va_Run p l e R s m args below meth c H locs cells slots mc ms (F0 m pc ls st0) rest (va_Qv Post (sg_B D σ H.size) (sg_A σ H.size) a) (sg_A σ H.size))
    (kk : ∀ (σ' : sg_W) (H1 : Heap) (locs1 : List Loc), Post σ' → sg_P D σ' H1 → sg_D A σ' → va_S A H0 H1 locs1 → W p l e R s m args below meth c H1 locs1 (cells + mc) (slots + ms) Q (F0 m (pc + 3) ls rest)) : W p l e R s m args below meth c H locs cells slots Q (F0 m pc ls st0) := by
  have hsub := sg_A.sub hD (fun q h => hA q (Nat.le_trans hS.1 h))
  refine va_callv hr hS (fun q _ h => hsub q h) hsub (fun σ' t H1 locs1 ht hvm hw hB hz hk hS1 => ?_)
  obtain ⟨h1, h2⟩ := sg_behind hD hS hA ht hB
  exact kk σ' H1 locs1 hw h1 h2 hS1
theorem sg_callq {mc ms : Nat} {st0 : List Value} {a : Array Value} {Post : Option Nat → sg_W → Prop} (hD : sg_D A σ) (hS : va_S A H0 H locs) (hA : ∀ q, H0.size ≤ q → A q) (hr : va_Run p l e R s m args below meth c H locs cells slots mc ms (F0 m pc ls st0) rest (va_Qq Post (sg_B D σ H.size) (sg_A σ H.size) a) (sg_A σ H.size))
    (kk : ∀ (r : Option Nat) (σ' : sg_W) (H1 : Heap) (locs1 : List Loc), Post r σ' → sg_P D σ' H1 → sg_D A σ' → va_S A H0 H1 locs1 → W p l e R s m args below meth c H1 locs1 (cells + mc) (slots + ms) Q (F0 m (pc + 3) ls (va_rf r :: rest))) : W p l e R s m args below meth c H locs cells slots Q (F0 m pc ls st0) := by
  have hsub := sg_A.sub hD (fun q h => hA q (Nat.le_trans hS.1 h))
  refine va_callq hr hS (fun q _ h => hsub q h) hsub (fun r σ' t H1 locs1 ht hvm hw hB hz hk hS1 => ?_)
  obtain ⟨h1, h2⟩ := sg_behind hD hS hA ht hB
  exact kk r σ' H1 locs1 hw h1 h2 hS1
/-! ends -/
theorem sg_iret {σ0 : sg_W} {sz mc ms : Nat} {v : Int32} {ty : FieldType} {Post : Int32 → sg_W → Prop} (hexec : p.tables.exec = Jvm.exec) (hb : c.code = cc) (hr : meth.sig.returnType = some ty) (hn : narrow ty (.int v) = .int v) (hlocks : meth.locks = false) (hP : sg_P D σ H) (hD : sg_D (sg_A σ0 sz) σ) (hS : va_S (sg_A σ0 sz) s.heap H locs) (hc : cells ≤ mc) (hs : slots ≤ ms) (hdg : decode cc pc = .ok (.ireturn, 1)) (hpost : Post v σ) :
    W p l e R s m args below meth c H locs cells slots (MQ below (va_Qi Post (sg_B D σ0 sz) (sg_A σ0 sz)) args s mc ms (sg_A σ0 sz)) (F0 m pc ls [.int v]) :=
  W.widen hc hs (W.zret hexec hb hr hn (fun t ht _ => ⟨⟨v, σ, rfl, hpost, by rw [ht]; exact hP, hD⟩, hS.F ht⟩) hS.2.2 hdg hlocks)
theorem sg_lret {σ0 : sg_W} {sz mc ms : Nat} {v : Int64} {Post : Int64 → sg_W → Prop} (hexec : p.tables.exec = Jvm.exec) (hb : c.code = cc) (hr : meth.sig.returnType = some .long) (hlocks : meth.locks = false) (hP : sg_P D σ H) (hD : sg_D (sg_A σ0 sz) σ) (hS : va_S (sg_A σ0 sz) s.heap H locs) (hc : cells ≤ mc) (hs : slots ≤ ms) (hdg : decode cc pc = .ok (.lreturn, 1)) (hpost : Post v σ) :
    W p l e R s m args below meth c H locs cells slots (MQ below (va_Ql Post (sg_B D σ0 sz) (sg_A σ0 sz)) args s mc ms (sg_A σ0 sz)) (F0 m pc ls [.long v]) :=
  W.widen hc hs (W.lret hexec hb hr (fun t ht _ => ⟨⟨v, σ, rfl, hpost, by rw [ht]; exact hP, hD⟩, hS.F ht⟩) hS.2.2 hdg hlocks)
theorem sg_vret {σ0 : sg_W} {sz mc ms : Nat} {Post : sg_W → Prop} (hexec : p.tables.exec = Jvm.exec) (hb : c.code = cc) (hr : meth.sig.returnType = none) (hlocks : meth.locks = false) (hP : sg_P D σ H) (hD : sg_D (sg_A σ0 sz) σ) (hS : va_S (sg_A σ0 sz) s.heap H locs) (hc : cells ≤ mc) (hs : slots ≤ ms) (hdg : decode cc pc = .ok (.return_, 1)) (hpost : Post σ) :
    W p l e R s m args below meth c H locs cells slots (MQ below (va_Qv Post (sg_B D σ0 sz) (sg_A σ0 sz)) args s mc ms (sg_A σ0 sz)) (F0 m pc ls []) :=
  W.widen hc hs (W.vret hexec hb hr (fun t ht _ => ⟨⟨σ, rfl, hpost, by rw [ht]; exact hP, hD⟩, hS.F ht⟩) hS.2.2 hdg hlocks)
theorem sg_qret {σ0 : sg_W} {sz mc ms : Nat} {n : String} {v : Option Nat} {Post : Option Nat → sg_W → Prop} (hexec : p.tables.exec = Jvm.exec) (hb : c.code = cc) (hr : meth.sig.returnType = some (.object n)) (hlocks : meth.locks = false) (hP : sg_P D σ H) (hD : sg_D (sg_A σ0 sz) σ) (hS : va_S (sg_A σ0 sz) s.heap H locs) (hc : cells ≤ mc) (hs : slots ≤ ms) (hdg : decode cc pc = .ok (.areturn, 1)) (hpost : Post v σ) :
    W p l e R s m args below meth c H locs cells slots (MQ below (va_Qq Post (sg_B D σ0 sz) (sg_A σ0 sz)) args s mc ms (sg_A σ0 sz)) (F0 m pc ls [va_rf v]) :=
  W.widen hc hs (W.aret hexec hb hr (Or.inl ⟨n, rfl⟩) (va_rf_or v) (fun t ht _ => ⟨⟨v, σ, rfl, hpost, by rw [ht]; exact hP, hD⟩, hS.F ht⟩) hS.2.2 hdg hlocks)
end SG
/-! starts of methods -/
theorem sg_met {l : Launch} {y : MethodName} {ws ws' : List Cond} {rm : Room} {av : List Value} {Qc : Array Value → State → Outcome → State → Prop} {mc ms : Nat} {cc : ByteArray} {maxL : Nat} {ret : Option FieldType} {D : va_G} {Y : Nat → ClassId} {σ : sg_W} {sz : Nat} (hy : plainName y.cls = true) (hw : ws = Cond.code y cc maxL ret :: ws') (hlen : (lg_sl av).length ≤ maxL)
    (body : ∀ (p : Program) (e : Env) (s : State) (m : MethodId) (below : List Frame) (meth : Method) (c : Code) (ls : Array Slot), p.tables.exec = Jvm.exec → c.code = cc → c.maxLocals = maxL → meth.sig.returnType = ret → s.vm.findClass y.cls = some m.cls → (∀ w ∈ ws, w.before av.toArray s = true) → meth.locks = false → meth.name = y.name →
      sg_P D σ s.heap → sg_K D Y s → sg_D (sg_A σ sz) σ → sg_N s → sg_X (sg_A σ sz) s s.heap → (∀ q, s.heap.size ≤ q → sg_A σ sz q) → va_S (sg_A σ sz) s.heap s.heap [] → s.heap.size = sz → lv_has ls maxL (lv_args 0 av) →
      W p l e rm s m av.toArray below meth c s.heap [] 0 0 (MQ below Qc av.toArray s mc ms (sg_A σ sz)) (F0 m 0 ls [])) : Met l y ws rm (va_Pc av (sg_U D Y σ sz)) Qc mc ms (sg_A σ sz) := by
  refine Met.ofW (cc := cc) (maxL := maxL) (ret := ret) hy hw ?_
  intro p e s m args below meth c s₁ B hml hv
  obtain ⟨rfl, hsz, hP, hK, hD0, hN, hX⟩ := hv
  rw [lg_entry_eq]
  exact body p e s m below meth c _ B.exec B.bytes hml B.returns (findClass_of_methodNamed B.named) (atoms_spec (ws := ws) B.pre) B.notSynchronized (name_of_methodNamed B.named B.method).1 hP hK hD0.self hN hX (fun q h => Or.inr (by rw [← hsz]; exact h)) va_S.rf hsz (lv_entry av hlen)
theorem sg_metX {l : Launch} {y : MethodName} {ws ws' : List Cond} {rm : Room} {av : List Value} {Qc : Array Value → State → Outcome → State → Prop} {XC : String → State → State → Prop} {mc ms : Nat} {cc : ByteArray} {maxL : Nat} {ret : Option FieldType} {D : va_G} {Y : Nat → ClassId} {σ : sg_W} {sz : Nat} (hy : plainName y.cls = true) (hw : ws = Cond.code y cc maxL ret :: ws') (hlen : (lg_sl av).length ≤ maxL)
    (body : ∀ (p : Program) (e : Env) (s : State) (m : MethodId) (below : List Frame) (meth : Method) (c : Code) (ls : Array Slot), p.tables.exec = Jvm.exec → c.code = cc → c.maxLocals = maxL → (∀ x ∈ c.exceptionTable.toList, False) → meth.sig.returnType = ret → s.vm.findClass y.cls = some m.cls → (∀ w ∈ ws, w.before av.toArray s = true) → meth.locks = false → meth.name = y.name →
      sg_P D σ s.heap → sg_K D Y s → sg_D (sg_A σ sz) σ → sg_N s → sg_X (sg_A σ sz) s s.heap → (∀ q, s.heap.size ≤ q → sg_A σ sz q) → va_S (sg_A σ sz) s.heap s.heap [] → s.heap.size = sz → lv_has ls maxL (lv_args 0 av) →
      W p l e rm s m av.toArray below meth c s.heap [] 0 0 (vx_MQ below Qc XC av.toArray s mc ms (sg_A σ sz)) (F0 m 0 ls [])) : vx_Met l y ws rm (va_Pc av (sg_U D Y σ sz)) Qc XC mc ms (sg_A σ sz) := by
  refine vx_ofW (cc := cc) (maxL := maxL) (ret := ret) hy hw ?_
  intro p e s m args below meth c s₁ B hml hx hv
  obtain ⟨rfl, hsz, hP, hK, hD0, hN, hX⟩ := hv
  rw [lg_entry_eq]
  exact body p e s m below meth c _ B.exec B.bytes hml hx B.returns (findClass_of_methodNamed B.named) (atoms_spec (ws := ws) B.pre) B.notSynchronized (name_of_methodNamed B.named B.method).1 hP hK hD0.self hN hX (fun q h => Or.inr (by rw [← hsz]; exact h)) va_S.rf hsz (lv_entry av hlen)
end
section
/-! THE STATE: a state of the plan is the reference's: its scalars, its int rows, its long rows, each by the place of its field (0 month, 1 price, 2 ceiling, 3 members, 4 rate, 5 left, 6 money, 7 back, 8 spent, 9 kept, 10 first, 11 times, 12 resets, 13 pay, 14 gain, 15 bought, 16 had, 17 paid, 18 offer, 19 thrown) -/
abbrev MS : Type := (Nat → Int32) × (Nat → Nat → Int32) × (Nat → Nat → Int64)
def sS (M : MS) (j : Nat) : Int32 := M.1 j
def sI (M : MS) (j : Nat) : Nat → Int32 := M.2.1 j
def sL (M : MS) (j : Nat) : Nat → Int64 := M.2.2 j
def uS (M : MS) (j : Nat) (v : Int32) : MS := (fun i => if i = j then v else M.1 i, M.2)
def uI (M : MS) (j k : Nat) (v : Int32) : MS := (M.1, fun i => if i = j then upd (M.2.1 j) k v else M.2.1 i, M.2.2)
def uL (M : MS) (j k : Nat) (v : Int64) : MS := (M.1, M.2.1, fun i => if i = j then vp_updL (M.2.2 j) k v else M.2.2 i)
theorem sS_uS {M : MS} {j i : Nat} {v : Int32} : sS (uS M j v) i = if i = j then v else sS M i := rfl
theorem sI_uS {M : MS} {j i : Nat} {v : Int32} : sI (uS M j v) i = sI M i := rfl
theorem sL_uS {M : MS} {j i : Nat} {v : Int32} : sL (uS M j v) i = sL M i := rfl
theorem sS_uI {M : MS} {j k i : Nat} {v : Int32} : sS (uI M j k v) i = sS M i := rfl
theorem sL_uI {M : MS} {j k i : Nat} {v : Int32} : sL (uI M j k v) i = sL M i := rfl
theorem sS_uL {M : MS} {j k i : Nat} {v : Int64} : sS (uL M j k v) i = sS M i := rfl
theorem sI_uL {M : MS} {j k i : Nat} {v : Int64} : sI (uL M j k v) i = sI M i := rfl
theorem sI_uI {M : MS} {j k i : Nat} {v : Int32} : sI (uI M j k v) i = if i = j then upd (sI M j) k v else sI M i := rfl
theorem sL_uL {M : MS} {j k i : Nat} {v : Int64} : sL (uL M j k v) i = if i = j then vp_updL (sL M j) k v else sL M i := rfl
theorem upd_at {f : Nat → Int32} {k x : Nat} {v : Int32} : upd f k v x = if x = k then v else f x := rfl
theorem updL_at {f : Nat → Int64} {k x : Nat} {v : Int64} : vp_updL f k v x = if x = k then v else f x := rfl
theorem MS_ext {M N : MS} (h1 : ∀ j, sS M j = sS N j) (h2 : ∀ j k, sI M j k = sI N j k) (h3 : ∀ j k, sL M j k = sL N j k) : M = N := by
  obtain ⟨a, b, c⟩ := M
  obtain ⟨a', b', c'⟩ := N
  have e1 : a = a' := funext h1
  have e2 : b = b' := funext fun j => funext (h2 j)
  have e3 : c = c' := funext fun j => funext (h3 j)
  subst e1; subst e2; subst e3; rfl
section CUT
variable {p : Program} {l : Launch} {e : Env} {R : Room} {s : State} {m : MethodId} {args : Array Value} {below : List Frame} {meth : Method} {c : Code} {H : Heap} {locs : List Loc} {cells slots : Nat} {Q : State → Prop}
/-- two roads that meet: the value on top at the meeting point -/
theorem sg_cuti {j : Nat} {ls : Array Slot} {rest : List Value} {g : JFrame} (Pj : Int32 → Prop) (k : ∀ x : Int32, Pj x → W p l e R s m args below meth c H locs cells slots Q (F0 m j ls (.int x :: rest)))
    (b : (∀ x : Int32, Pj x → W p l e R s m args below meth c H locs cells slots Q (F0 m j ls (.int x :: rest))) → W p l e R s m args below meth c H locs cells slots Q g) : W p l e R s m args below meth c H locs cells slots Q g := b k
theorem sg_cutl {j : Nat} {ls : Array Slot} {rest : List Value} {g : JFrame} (Pj : Int64 → Prop) (k : ∀ x : Int64, Pj x → W p l e R s m args below meth c H locs cells slots Q (F0 m j ls (.long x :: rest)))
    (b : (∀ x : Int64, Pj x → W p l e R s m args below meth c H locs cells slots Q (F0 m j ls (.long x :: rest))) → W p l e R s m args below meth c H locs cells slots Q g) : W p l e R s m args below meth c H locs cells slots Q g := b k
/-- two roads that meet, with worlds of their own -/
theorem sg_cutw {D : va_G} {A : Nat → Prop} {H0 : Heap} (_ : va_S A H0 H locs) {j : Nat} {ls : Array Slot} {rest : List Value} {g : JFrame} (cells' slots' : Nat) (Pj : sg_W → Prop) (k : ∀ (σ : sg_W) (H1 : Heap) (locs1 : List Loc), Pj σ → sg_P D σ H1 → sg_D A σ → va_S A H0 H1 locs1 → W p l e R s m args below meth c H1 locs1 cells' slots' Q (F0 m j ls rest))
    (b : (∀ (σ : sg_W) (H1 : Heap) (locs1 : List Loc), Pj σ → sg_P D σ H1 → sg_D A σ → va_S A H0 H1 locs1 → W p l e R s m args below meth c H1 locs1 cells' slots' Q (F0 m j ls rest)) → W p l e R s m args below meth c H locs cells slots Q g) : W p l e R s m args below meth c H locs cells slots Q g := b k
theorem sg_cutwi {D : va_G} {A : Nat → Prop} {H0 : Heap} (_ : va_S A H0 H locs) {j : Nat} {ls : Array Slot} {rest : List Value} {g : JFrame} (cells' slots' : Nat) (Pj : Int32 → sg_W → Prop) (k : ∀ (x : Int32) (σ : sg_W) (H1 : Heap) (locs1 : List Loc), Pj x σ → sg_P D σ H1 → sg_D A σ → va_S A H0 H1 locs1 → W p l e R s m args below meth c H1 locs1 cells' slots' Q (F0 m j ls (.int x :: rest)))
    (b : (∀ (x : Int32) (σ : sg_W) (H1 : Heap) (locs1 : List Loc), Pj x σ → sg_P D σ H1 → sg_D A σ → va_S A H0 H1 locs1 → W p l e R s m args below meth c H1 locs1 cells' slots' Q (F0 m j ls (.int x :: rest))) → W p l e R s m args below meth c H locs cells slots Q g) : W p l e R s m args below meth c H locs cells slots Q g := b k
theorem sg_cutwl {D : va_G} {A : Nat → Prop} {H0 : Heap} (_ : va_S A H0 H locs) {j : Nat} {ls : Array Slot} {rest : List Value} {g : JFrame} (cells' slots' : Nat) (Pj : Int64 → sg_W → Prop) (k : ∀ (x : Int64) (σ : sg_W) (H1 : Heap) (locs1 : List Loc), Pj x σ → sg_P D σ H1 → sg_D A σ → va_S A H0 H1 locs1 → W p l e R s m args below meth c H1 locs1 cells' slots' Q (F0 m j ls (.long x :: rest)))
    (b : (∀ (x : Int64) (σ : sg_W) (H1 : Heap) (locs1 : List Loc), Pj x σ → sg_P D σ H1 → sg_D A σ → va_S A H0 H1 locs1 → W p l e R s m args below meth c H1 locs1 cells' slots' Q (F0 m j ls (.long x :: rest))) → W p l e R s m args below meth c H locs cells slots Q g) : W p l e R s m args below meth c H locs cells slots Q g := b k
/-- a loop: n falls -/
theorem sg_loop {D : va_G} {A : Nat → Prop} {H0 : Heap} {T : Type} (j nL : Nat) (Inv : Nat → T → sg_W → Nat → Nat → Prop) (lv : T → List (Nat × Value))
    (step : ∀ (n : Nat) (t : T) (σ : sg_W) (cells slots : Nat) (H : Heap) (locs : List Loc) (ls : Array Slot), (∀ (n' : Nat) (t' : T) (σ' : sg_W) (cells' slots' : Nat) (H' : Heap) (locs' : List Loc) (ls' : Array Slot), n' < n → Inv n' t' σ' cells' slots' → sg_P D σ' H' → sg_D A σ' → va_S A H0 H' locs' → lv_has ls' nL (lv t') → W p l e R s m args below meth c H' locs' cells' slots' Q (F0 m j ls' [])) →
      Inv n t σ cells slots → sg_P D σ H → sg_D A σ → va_S A H0 H locs → lv_has ls nL (lv t) → W p l e R s m args below meth c H locs cells slots Q (F0 m j ls [])) :
    ∀ (n : Nat) (t : T) (σ : sg_W) (cells slots : Nat) (H : Heap) (locs : List Loc) (ls : Array Slot), Inv n t σ cells slots → sg_P D σ H → sg_D A σ → va_S A H0 H locs → lv_has ls nL (lv t) → W p l e R s m args below meth c H locs cells slots Q (F0 m j ls []) := by
  intro n
  induction n using Nat.strongRecOn with
  | _ n ih => exact fun t σ cells slots H locs ls h1 h2 h3 h4 h5 => step n t σ cells slots H locs ls (fun n' t' σ' c' s' H' l' ls' hn => ih n' hn t' σ' c' s' H' l' ls') h1 h2 h3 h4 h5
end CUT
end
section
/-! PURE: what each call answers and does, after the reference's words -/
def bI (c : Prop) [Decidable c] : Int32 := if c then 1 else 0
theorem bI_t {c : Prop} [Decidable c] (h : c) : bI c = 1 := if_pos h
theorem bI_f {c : Prop} [Decidable c] (h : ¬ c) : bI c = 0 := if_neg h
theorem bI_0 {c : Prop} [Decidable c] : bI c = 0 ↔ ¬ c := by unfold bI; split <;> simp [*]
theorem bI_1 {c : Prop} [Decidable c] : bI c = 1 ↔ c := by unfold bI; split <;> simp [*]
theorem bI_01 {c : Prop} [Decidable c] : bI c = 0 ∨ bI c = 1 := by unfold bI; split <;> simp
def nar01 (x : Int32) : Prop := x = 0 ∨ x = 1
theorem nar_z {x : Int32} (h : x = 0 ∨ x = 1) : narrow FieldType.boolean (Value.int x) = .int x := by
  rcases h with rfl | rfl <;> rfl
abbrev tN (i : Int32) : Nat := i.toNatClampNeg
/-- irem -/
def rm (x y : Int32) : Int32 := x - x / y * y
/-- is a member -/
abbrev qM (M : MS) (i : Int32) : Prop := 0 ≤ i ∧ i ≤ sS M 3 - 1
abbrev qIn (v a b : Int32) : Prop := a ≤ v ∧ v ≤ b
/-- stays -/
abbrev qT (M : MS) (i : Int32) : Prop := qM M i ∧ sI M 5 (tN i) = 0
def t1 (a : Int32) : Int32 := if a = 0 then 1 else 0
def t2 (a b : Int32) : Int32 := if a = 0 then 1 else if b = 0 then 2 else 0
def t3 (a b c : Int32) : Int32 := if a = 0 then 1 else if b = 0 then 2 else if c = 0 then 3 else 0
def mem6 (M : MS) : Prop := ∃ n : Nat, n ≤ 6 ∧ sS M 3 = nI n
theorem qM_in {M : MS} {i : Int32} (h6 : mem6 M) (h : qM M i) : vp_in i 6 := by
  obtain ⟨n, hn, e⟩ := h6
  obtain ⟨h1, h2⟩ := h
  rw [e] at h2
  rw [vp_in_iff]
  rw [Int32.le_iff_toInt_le] at h1 h2
  have h3 : (nI n - 1).toInt ≤ 5 := by
    rcases (show n = 0 ∨ n = 1 ∨ n = 2 ∨ n = 3 ∨ n = 4 ∨ n = 5 ∨ n = 6 by omega) with rfl | rfl | rfl | rfl | rfl | rfl | rfl <;> decide
  have h0 : (0 : Int32).toInt = 0 := rfl
  omega
theorem qM_lt {M : MS} {i : Int32} {n : Nat} (e : sS M 3 = nI n) (hn : n ≤ 6) (h : qM M i) : tN i < n ∧ i = nI (tN i) := by
  obtain ⟨h1, h2⟩ := h
  rw [e] at h2
  have h4 : (nI n - 1).toInt = (n : Int) - 1 := by
    rcases (show n = 0 ∨ n = 1 ∨ n = 2 ∨ n = 3 ∨ n = 4 ∨ n = 5 ∨ n = 6 by omega) with rfl | rfl | rfl | rfl | rfl | rfl | rfl <;> rfl
  obtain ⟨j, hj, rfl⟩ := nI_of (x := i) (fun h => by
    rw [Int32.lt_iff_toInt_lt] at h
    rw [Int32.le_iff_toInt_le] at h1
    omega)
  rw [Int32.le_iff_toInt_le, h4, nI_toInt hj] at h2
  rw [tN, nI_clamp hj]
  exact ⟨by omega, rfl⟩
end
section
/-! PURE, of lots and members by their numbers: q = 10 j + k is the lot of the k-th purchase month of the member j -/
def qE (M : MS) (q : Nat) : Prop := sS M 0 - sI M 18 q < 24 ∨ sS M 0 - nI (6 * (q % 10) + 5) < 12
noncomputable def qEd (M : MS) (q : Nat) : Decidable (qE M q) := by unfold qE; exact inferInstance
def eQ (M : MS) (q : Nat) : Int32 := bI (sS M 0 - sI M 18 q < 24 ∨ sS M 0 - nI (6 * (q % 10) + 5) < 12)
def pq (M : MS) (q : Nat) : Int32 := if eQ M q = 1 then sI M 1 (6 * (q % 10) + 5) - sI M 17 q else
  (if (if 15 * sI M 1 (tN (sI M 18 q)) / 100 < sI M 1 (tN (sS M 0)) - sI M 17 q then 15 * sI M 1 (tN (sI M 18 q)) / 100 else sI M 1 (tN (sS M 0)) - sI M 17 q) < 0 then 0 else
    (if 15 * sI M 1 (tN (sI M 18 q)) / 100 < sI M 1 (tN (sS M 0)) - sI M 17 q then 15 * sI M 1 (tN (sI M 18 q)) / 100 else sI M 1 (tN (sS M 0)) - sI M 17 q))
def gq (M : MS) (q : Nat) (s : Int32) : Int64 := s.toInt64 * (sI M 1 (tN (sS M 0)) - sI M 17 q - pq M q).toInt64
def tm (M : MS) (q : Nat) : Int64 := (sI M 15 q).toInt64 * (sI M 1 (tN (sI M 18 q))).toInt64
def cN (M : MS) (j y : Nat) : Int64 := 0 + tm M (10 * j + 2 * y) + tm M (10 * j + (2 * y + 1))
def sH (M : MS) (j : Nat) : Nat → Int32
  | 0 => 0
  | k + 1 => sH M j k + sI M 16 (10 * j + k)
def gN (M : MS) (j : Nat) : Nat → Int64
  | 0 => 0
  | k + 1 => gN M j k + (if 0 < sI M 16 (10 * j + k) then gq M (10 * j + k) (sI M 16 (10 * j + k)) else 0)
abbrev mSell : Type := MS × Int32 × Int32
def soldN (M : MS) (q : Nat) (op : Int32) : Int32 := if op < sI M 16 q then op else sI M 16 q
def sellS (j k : Nat) (x : mSell) : mSell :=
  if 0 < soldN x.1 (10 * j + k) x.2.1 then
    (uI (uL (uL x.1 13 j (sL x.1 13 j + (soldN x.1 (10 * j + k) x.2.1).toInt64 * (pq x.1 (10 * j + k)).toInt64)) 14 j (sL x.1 14 j + gq x.1 (10 * j + k) (soldN x.1 (10 * j + k) x.2.1))) 16 (10 * j + k) (sI x.1 16 (10 * j + k) - soldN x.1 (10 * j + k) x.2.1),
      x.2.1 - soldN x.1 (10 * j + k) x.2.1, x.2.2 + (if eQ x.1 (10 * j + k) = 0 then 0 else soldN x.1 (10 * j + k) x.2.1))
  else x
def sellN (j : Nat) : Nat → mSell → mSell
  | 0, x => x
  | k + 1, x => sellS j k (sellN j k x)
/-- a purchase of the member j at the end of the month t -/
def bEach (M : MS) (j : Nat) : Int32 := (85 * (if sI M 1 (tN (sI M 10 j)) < sI M 1 (tN (sS M 0)) then sI M 1 (tN (sI M 10 j)) else sI M 1 (tN (sS M 0))) + 99) / 100
def bRoom (M : MS) (j : Nat) : Int64 := ((sS M 2).toInt64 - cN M j (tN (sS M 0) / 12)) / (sI M 1 (tN (sI M 10 j))).toInt64
def bCan (M : MS) (j : Nat) : Int32 := sI M 6 j / bEach M j
def bN (M : MS) (j : Nat) : Int32 := if bRoom M j < 0 then 0 else if bRoom M j < (bCan M j).toInt64 then (bRoom M j).toInt32 else bCan M j
def buy1 (M : MS) (j : Nat) : MS := if 0 < bN M j then
    uL (uI (uI (uI (uI (uI M 15 (10 * j + tN (sS M 0) / 6) (bN M j)) 16 (10 * j + tN (sS M 0) / 6) (bN M j)) 17 (10 * j + tN (sS M 0) / 6) (bEach M j)) 18 (10 * j + tN (sS M 0) / 6) (sI M 10 j)) 6 j (sI M 6 j - bN M j * bEach M j)) 8 j (sL M 8 j + (bN M j * bEach M j).toInt64)
  else M
def buy2 (M : MS) (j : Nat) : MS := uI (buy1 M j) 11 j (sI M 11 j + 1)
def buyM (M : MS) (j : Nat) : MS := if sI M 1 (tN (sS M 0)) < sI M 1 (tN (sI M 10 j)) ∨ sI M 11 j + 1 = 4 then
    uI (uI (uI (buy2 M j) 12 j (sI M 12 j + (if sI M 1 (tN (sS M 0)) < sI M 1 (tN (sI M 10 j)) then 1 else 0))) 10 j (sS M 0)) 11 j 0
  else buy2 M j
def bAll (M : MS) : Nat → MS
  | 0 => M
  | k + 1 => if sI (bAll M k) 5 k = 0 then buyM (bAll M k) k else bAll M k
/-! the calls: what is thrown (0: nothing), the answer, the state behind -/
abbrev irem (x y : Int32) : Int32 := x - x / y * y
def tNext (M : MS) (p : Int32) : Int32 := t2 (bI (qIn p 1 100000)) (bI (sS M 0 < 59))
def nNext (M : MS) (p : Int32) : MS := uI (uS (if irem (sS M 0) 6 = 5 then bAll M (tN (sS M 3)) else M) 0 (sS M 0 + 1)) 1 (tN (sS M 0 + 1)) p
def tCeil (c : Int32) : Int32 := t1 (bI (qIn c 0 10000000))
def tJoin (M : MS) (r : Int32) : Int32 := t2 (bI (qIn r 1 15)) (bI (0 ≤ sS M 0 ∧ sS M 3 < 6))
def nJoin (M : MS) (r : Int32) : MS := uS (uI (uI M 4 (tN (sS M 3)) r) 10 (tN (sS M 3)) (sS M 0)) 3 (sS M 3 + 1)
def tRate (M : MS) (i r : Int32) : Int32 := t3 (bI (qM M i)) (bI (qIn r 1 15)) (bI (qT M i))
def nRate (M : MS) (i r : Int32) : MS := uI M 4 (tN i) r
def tSlip (M : MS) (i g : Int32) : Int32 := t3 (bI (qM M i)) (bI (qIn g 0 5000000)) (bI (qT M i))
def rSlip (M : MS) (i g : Int32) : Int32 := g * sI M 4 (tN i) / 100
def nSlip (M : MS) (i g : Int32) : MS := uL (uI M 6 (tN i) (sI M 6 (tN i) + rSlip M i g)) 9 (tN i) (sL M 9 (tN i) + (rSlip M i g).toInt64)
def tLeave (M : MS) (i : Int32) : Int32 := t2 (bI (qM M i)) (bI (qT M i))
def nLeave (M : MS) (i : Int32) : MS := uI (uI (uI M 5 (tN i) 1) 7 (tN i) (sI M 6 (tN i))) 6 (tN i) 0
def tMem (M : MS) (i : Int32) : Int32 := t1 (bI (qM M i))
def tMonth (M : MS) (i d : Int32) : Int32 := t1 (bI (qM M i ∧ qIn d 0 59))
def rBought (M : MS) (i d : Int32) : Int32 := if irem d 6 = 5 then sI M 15 (tN (10 * i + d / 6)) else 0
def rPaid (M : MS) (i d : Int32) : Int32 := if irem d 6 = 5 ∧ 0 < sI M 15 (tN (10 * i + d / 6)) then sI M 17 (tN (10 * i + d / 6)) else -1
def tYear (M : MS) (i y : Int32) : Int32 := t1 (bI (qM M i ∧ qIn y 0 4))
def tSell (M : MS) (i s : Int32) : Int32 := t3 (bI (qM M i)) (bI (qIn s 1 1000000)) (bI (qM M i ∧ s ≤ sH M (tN i) 10))
def xSell (M : MS) (i s : Int32) : mSell := sellN (tN i) 10 (M, s, 0)
/-- what the reference's indexes need -/
def wfI (M : MS) : Prop := mem6 M ∧ (∀ k, k < 6 → vp_in (sI M 10 k) 60) ∧ ∀ k, k < 60 → vp_in (sI M 18 k) 60
theorem vp_r {x : Int32} {N a : Nat} (e : x = nI a) (h : a < N) (hN : N < 2 ^ 31) : vp_in x N := by rw [e]; exact vp_in_nI h hN
theorem vp_lt {x : Int32} {N : Nat} (h : vp_in x N) : tN x < N := Nat.not_le.mp fun q => h (Or.inr q)
theorem vp_eq {x : Int32} {N : Nat} (h : vp_in x N) (hN : N < 2 ^ 31) : x = nI (tN x) := by
  obtain ⟨j, hj, rfl⟩ := vp_in_of h hN
  rw [tN, nI_clamp (by omega)]
theorem nI_10 (j k : Nat) : 10 * nI j + nI k = nI (10 * j + k) := by rw [show (10 : Int32) = nI 10 from rfl, pk_mul, nI_add]
theorem nI_rem {q d : Nat} (hq : q < 2 ^ 31) (h0 : 0 < d) (hd : d < 2 ^ 31) : nI q - nI q / nI d * nI d = nI (q % d) := pk_rem hq h0 hd
theorem nI_day {q : Nat} (hq : q < 60) : 6 * (nI q - nI q / 10 * 10) + 5 = nI (6 * (q % 10) + 5) := by
  rw [show (10 : Int32) = nI 10 from rfl, nI_rem (by omega) (by omega) (by omega), show (6 : Int32) = nI 6 from rfl, show (5 : Int32) = nI 5 from rfl, pk_mul, nI_add]
theorem eQ_01 {M : MS} {q : Nat} : eQ M q = 0 ∨ eQ M q = 1 := bI_01
end
section
theorem xI_uS {M : MS} {j i x : Nat} {v : Int32} : sI (uS M j v) i x = sI M i x := rfl
theorem xL_uS {M : MS} {j i x : Nat} {v : Int32} : sL (uS M j v) i x = sL M i x := rfl
theorem xL_uI {M : MS} {j k i x : Nat} {v : Int32} : sL (uI M j k v) i x = sL M i x := rfl
theorem xI_uL {M : MS} {j k i x : Nat} {v : Int64} : sI (uL M j k v) i x = sI M i x := rfl
theorem xI_uI {M : MS} {j k i x : Nat} {v : Int32} : sI (uI M j k v) i x = if i = j ∧ x = k then v else sI M i x := by
  by_cases h : i = j
  · subst h; simp [sI_uI, upd_at]
  · simp [sI_uI, h]
theorem xL_uL {M : MS} {j k i x : Nat} {v : Int64} : sL (uL M j k v) i x = if i = j ∧ x = k then v else sL M i x := by
  by_cases h : i = j
  · subst h; simp [sL_uL, updL_at]
  · simp [sL_uL, h]
theorem sH_uS {M : MS} {j n k : Nat} {v : Int32} : sH (uS M n v) j k = sH M j k := by
  induction k with
  | zero => rfl
  | succ k ih => simp only [sH, ih, sI_uS]
theorem vp_q {i d : Int32} (hi : vp_in i 6) (hd : qIn d 0 59) : vp_in (10 * i + d / 6) 60 := by
  obtain ⟨j, hj, rfl⟩ := vp_in_of hi (by decide)
  obtain ⟨t, ht, rfl⟩ := nI_of2 (M := 59) (n := 59) rfl (x := d) (by have := hd.1; exact Int32.not_lt.mpr this) hd.2
  rw [show (6 : Int32) = nI 6 from rfl, pk_div (by omega) (by omega) (by omega), nI_10]
  exact vp_in_nI (by omega) (by decide)
theorem vp_y {d : Int32} (hd : qIn d 0 4) : vp_in d 5 := by
  obtain ⟨t, ht, rfl⟩ := nI_of2 (M := 4) (n := 4) rfl (x := d) (by have := hd.1; exact Int32.not_lt.mpr this) hd.2
  exact vp_in_nI (by omega) (by decide)
theorem mem_in {M : MS} (h6 : mem6 M) (h : 0 ≤ sS M 0 ∧ sS M 3 < 6) : vp_in (sS M 3) 6 := by
  obtain ⟨n, hn, e⟩ := h6
  rw [e] at h ⊢
  have h2 := (nI_ltI (a := n) (b := 6) (by omega) (by omega)).mp h.2
  exact vp_in_nI h2 (by decide)
theorem i_cancel (x : Int32) : x + 1 - 1 = x := by rw [Int32.add_sub_cancel]
theorem cN_uS {M : MS} {n j y : Nat} {v : Int32} : cN (uS M n v) j y = cN M j y := rfl
theorem qM_pos {M : MS} {i : Int32} (h : qM M i) : 0 ≤ sS M 3 - 1 := by
  obtain ⟨h1, h2⟩ := h
  simp only [Int32.le_iff_toInt_le] at *
  omega
theorem sellN_S {j : Nat} {x : mSell} {a : Nat} : ∀ k, sS (sellN j k x).1 a = sS x.1 a
  | 0 => rfl
  | k + 1 => by
    have ih := sellN_S (j := j) (x := x) (a := a) k
    rw [sellN, sellS]
    split
    · simp only [sS_uI, sS_uL]; exact ih
    · exact ih
theorem sellN_I {j : Nat} {x : mSell} {a : Nat} (h : a ≠ 16) : ∀ k, sI (sellN j k x).1 a = sI x.1 a
  | 0 => rfl
  | k + 1 => by
    have ih := sellN_I (j := j) (x := x) (a := a) h k
    rw [sellN, sellS]
    split
    · simp only [sI_uI, sI_uL, if_neg h]; exact ih
    · exact ih
theorem soldN_0 {M : MS} {q : Nat} {op : Int32} (h : op ≤ 0) : ¬ 0 < soldN M q op := by
  unfold soldN
  split <;> (simp only [Int32.lt_iff_toInt_lt, Int32.le_iff_toInt_le] at *; omega)
theorem sellN_stop {j : Nat} {x : mSell} {k : Nat} (h : (sellN j k x).2.1 ≤ 0) : ∀ d, sellN j (k + d) x = sellN j k x
  | 0 => rfl
  | d + 1 => by
    have ih := sellN_stop h d
    show sellS j (k + d) (sellN j (k + d) x) = _
    rw [ih, sellS, if_neg (soldN_0 h)]
def okBuy (M : MS) (j : Nat) : Prop := vp_in (sS M 0) 60 ∧ vp_in (sI M 10 j) 60 ∧ (∀ k, k < 60 → vp_in (sI M 18 k) 60) ∧ ¬ (sI M 1 (tN (sI M 10 j))).toInt64 = 0 ∧ ¬ bEach M j = 0
theorem buy1_S {M : MS} {j a : Nat} : sS (buy1 M j) a = sS M a := by unfold buy1; split <;> rfl
theorem buy2_S {M : MS} {j a : Nat} : sS (buy2 M j) a = sS M a := by rw [buy2, sS_uI, buy1_S]
theorem buyM_S {M : MS} {j a : Nat} : sS (buyM M j) a = sS M a := by unfold buyM; split <;> (simp only [sS_uI, buy2_S])
theorem bAll_S {M : MS} {a : Nat} : ∀ k, sS (bAll M k) a = sS M a
  | 0 => rfl
  | k + 1 => by
    rw [bAll]
    split
    · rw [buyM_S, bAll_S k]
    · rw [bAll_S k]
theorem buy1_I {M : MS} {j a : Nat} (h : a ≠ 15 ∧ a ≠ 16 ∧ a ≠ 17 ∧ a ≠ 18 ∧ a ≠ 6) : sI (buy1 M j) a = sI M a := by
  unfold buy1
  split
  · simp only [sI_uI, sI_uL, if_neg h.1, if_neg h.2.1, if_neg h.2.2.1, if_neg h.2.2.2.1, if_neg h.2.2.2.2]
  · rfl
theorem buy2_I {M : MS} {j a : Nat} (h : a ≠ 15 ∧ a ≠ 16 ∧ a ≠ 17 ∧ a ≠ 18 ∧ a ≠ 6) (h2 : a ≠ 11) : sI (buy2 M j) a = sI M a := by rw [buy2, sI_uI, if_neg h2, buy1_I h]
theorem buy2_11 {M : MS} {j : Nat} : sI (buy2 M j) 11 j = sI M 11 j + 1 := by rw [buy2, sI_uI, if_pos rfl, upd_at, if_pos rfl]
theorem mo_in {x : Int32} (h : -1 ≤ x) (h2 : x < 59) : vp_in (x + 1) 60 := by
  rw [vp_in_iff]
  rw [Int32.le_iff_toInt_le] at h
  rw [Int32.lt_iff_toInt_lt] at h2
  have h3 : (-1 : Int32).toInt = -1 := rfl
  have h4 : (59 : Int32).toInt = 59 := rfl
  have h5 : (x + 1).toInt = x.toInt + 1 := by
    rw [Int32.toInt_add]
    have : (1 : Int32).toInt = 1 := rfl
    rw [this]
    exact Int.bmod_eq_of_le (by omega) (by omega)
  omega
def mNew : MS := (fun j => if j = 0 then -1 else if j = 2 then 2500000 else 0, fun _ _ => 0, fun _ _ => 0)
end
section
/-! THE CLASS: a member's state by its fields' places: ints kI, longs kL, the counted row kC, the lots' references kR, the lots' fields kV -/
abbrev CS : Type := (Nat → Int32) × (Nat → Int64) × (Nat → Int64) × (Nat → Option Nat) × (Nat → Nat → Int32)
def kI (c : CS) (k : Nat) : Int32 := c.1 k
def kL (c : CS) (k : Nat) : Int64 := c.2.1 k
def kC (c : CS) : Nat → Int64 := c.2.2.1
def kR (c : CS) : Nat → Option Nat := c.2.2.2.1
def kV (c : CS) (k : Nat) : Nat → Int32 := c.2.2.2.2 k
def uKI (c : CS) (k : Nat) (v : Int32) : CS := (fun i => if i = k then v else c.1 i, c.2)
def uKL (c : CS) (k : Nat) (v : Int64) : CS := (c.1, fun i => if i = k then v else c.2.1 i, c.2.2)
def uKC (c : CS) (y : Nat) (v : Int64) : CS := (c.1, c.2.1, vp_updL c.2.2.1 y v, c.2.2.2)
def uKT (c : CS) (k q : Nat) (v : Nat → Int32) : CS := (c.1, c.2.1, c.2.2.1, va_up c.2.2.2.1 k (some q), fun i => if i = k then v else c.2.2.2.2 i)
def uK6 (c : CS) (k : Nat) (v : Int32) : CS := (c.1, c.2.1, c.2.2.1, c.2.2.2.1, fun i => if i = k then upd (c.2.2.2.2 k) 6 v else c.2.2.2.2 i)

theorem kI_uKI {c : CS} {j : Nat} {v : Int32} {i : Nat} : kI (uKI c j v) i = if i = j then v else kI c i := rfl
theorem kL_uKI {c : CS} {j : Nat} {v : Int32} {i : Nat} : kL (uKI c j v) i = kL c i := rfl
theorem kC_uKI {c : CS} {j : Nat} {v : Int32} : kC (uKI c j v) = kC c := rfl
theorem kR_uKI {c : CS} {j : Nat} {v : Int32} : kR (uKI c j v) = kR c := rfl
theorem kV_uKI {c : CS} {j : Nat} {v : Int32} {i : Nat} : kV (uKI c j v) i = kV c i := rfl
theorem kI_uKL {c : CS} {j : Nat} {v : Int64} {i : Nat} : kI (uKL c j v) i = kI c i := rfl
theorem kL_uKL {c : CS} {j : Nat} {v : Int64} {i : Nat} : kL (uKL c j v) i = if i = j then v else kL c i := rfl
theorem kC_uKL {c : CS} {j : Nat} {v : Int64} : kC (uKL c j v) = kC c := rfl
theorem kR_uKL {c : CS} {j : Nat} {v : Int64} : kR (uKL c j v) = kR c := rfl
theorem kV_uKL {c : CS} {j : Nat} {v : Int64} {i : Nat} : kV (uKL c j v) i = kV c i := rfl
theorem kI_uKC {c : CS} {j : Nat} {v : Int64} {i : Nat} : kI (uKC c j v) i = kI c i := rfl
theorem kL_uKC {c : CS} {j : Nat} {v : Int64} {i : Nat} : kL (uKC c j v) i = kL c i := rfl
theorem kC_uKC {c : CS} {j : Nat} {v : Int64} : kC (uKC c j v) = vp_updL (kC c) j v := rfl
theorem kR_uKC {c : CS} {j : Nat} {v : Int64} : kR (uKC c j v) = kR c := rfl
theorem kV_uKC {c : CS} {j : Nat} {v : Int64} {i : Nat} : kV (uKC c j v) i = kV c i := rfl
theorem kI_uKT {c : CS} {j q : Nat} {v : Nat → Int32} {i : Nat} : kI (uKT c j q v) i = kI c i := rfl
theorem kL_uKT {c : CS} {j q : Nat} {v : Nat → Int32} {i : Nat} : kL (uKT c j q v) i = kL c i := rfl
theorem kC_uKT {c : CS} {j q : Nat} {v : Nat → Int32} : kC (uKT c j q v) = kC c := rfl
theorem kR_uKT {c : CS} {j q : Nat} {v : Nat → Int32} : kR (uKT c j q v) = va_up (kR c) j (some q) := rfl
theorem kV_uKT {c : CS} {j q : Nat} {v : Nat → Int32} {i : Nat} : kV (uKT c j q v) i = if i = j then v else kV c i := rfl
theorem kI_uK6 {c : CS} {j : Nat} {v : Int32} {i : Nat} : kI (uK6 c j v) i = kI c i := rfl
theorem kL_uK6 {c : CS} {j : Nat} {v : Int32} {i : Nat} : kL (uK6 c j v) i = kL c i := rfl
theorem kC_uK6 {c : CS} {j : Nat} {v : Int32} : kC (uK6 c j v) = kC c := rfl
theorem kR_uK6 {c : CS} {j : Nat} {v : Int32} : kR (uK6 c j v) = kR c := rfl
theorem kV_uK6 {c : CS} {j : Nat} {v : Int32} {i : Nat} : kV (uK6 c j v) i = if i = j then upd (kV c j) 6 v else kV c i := rfl
def lotF (v : Nat → Int32) : List Value := [.int (v 0), .int (v 1), .int (v 2), .int (v 3), .int (v 4), .int (v 5), .int (v 6)]
def k_f (aL aC : Nat) (c : CS) : List Value := [.ref aL, .ref aC, .int (kI c 2), .int (kI c 3), .long (kL c 4), .long (kL c 5), .long (kL c 6), .long (kL c 7), .int (kI c 8), .int (kI c 9), .int (kI c 10), .int (kI c 11), .long (kL c 12), .long (kL c 13)]
/-- σ holds a member at the names n .. n + 12: n the object, n + 1 the lots' row, n + 2 the counted row, n + 3 + k the k-th lot; off n .. n + 19 it is σ0 -/
def KF (Y : Nat → ClassId) (n aO aL aC : Nat) (σ0 : sg_W) (c : CS) (σ : sg_W) : Prop := σ n = some (aO, .inr (1, k_f aL aC c)) ∧ σ (n + 1) = some (aL, .inl (Y 3, 10, .inr (.inr (.inr (.inr (kR c)))))) ∧ σ (n + 2) = some (aC, .inl (Y 1, 5, .inr (.inl (kC c)))) ∧ (∀ k, k < 10 → ∀ a, kR c k = some a → σ (n + 3 + k) = some (a, .inr (0, lotF (kV c k)))) ∧ ∀ j, ¬ (n ≤ j ∧ j < n + 20) → σ j = σ0 j
section
variable {Y : Nat → ClassId} {n aO aL aC : Nat} {σ0 σ σ1 : sg_W} {c c' : CS}
theorem KF.self (h : KF Y n aO aL aC σ0 c σ) : KF Y n aO aL aC σ c σ := ⟨h.1, h.2.1, h.2.2.1, h.2.2.2.1, fun _ _ => rfl⟩
theorem KF.trans (h0 : KF Y n aO aL aC σ0 c σ1) (h : KF Y n aO aL aC σ1 c' σ) : KF Y n aO aL aC σ0 c' σ := ⟨h.1, h.2.1, h.2.2.1, h.2.2.2.1, fun j hj => (h.2.2.2.2 j hj).trans (h0.2.2.2.2 j hj)⟩
theorem KF.to (h : KF Y n aO aL aC σ0 c σ) (e : c = c') : KF Y n aO aL aC σ0 c' σ := e ▸ h
theorem KF.obj (h : KF Y n aO aL aC σ0 c σ) {fs : List Value} (e : k_f aL aC c' = fs) (h1 : kC c' = kC c) (h2 : kR c' = kR c) (h3 : ∀ k, kV c' k = kV c k) : KF Y n aO aL aC σ0 c' (sg_u σ n aO (.inr (1, fs))) := by
  obtain ⟨g1, g2, g3, g4, g5⟩ := h
  refine ⟨by rw [sg_ue, e], by rw [sg_un (by omega), g2, h2], by rw [sg_un (by omega), g3, h1], fun k hk a ha => ?_, fun j hj => ?_⟩
  · rw [sg_un (by omega), h3]
    rw [h2] at ha
    exact g4 k hk a ha
  · rw [sg_un (by omega)]
    exact g5 j hj
theorem KF.i2 {v : Int32} (h : KF Y n aO aL aC σ0 c σ) : KF Y n aO aL aC σ0 (uKI c 2 v) (sg_u σ n aO (.inr (1, (k_f aL aC c).set 2 (.int v)))) := h.obj (by simp [k_f, kI_uKI, kL_uKI]) rfl rfl (fun _ => rfl)
theorem KF.i3 {v : Int32} (h : KF Y n aO aL aC σ0 c σ) : KF Y n aO aL aC σ0 (uKI c 3 v) (sg_u σ n aO (.inr (1, (k_f aL aC c).set 3 (.int v)))) := h.obj (by simp [k_f, kI_uKI, kL_uKI]) rfl rfl (fun _ => rfl)
theorem KF.i8 {v : Int32} (h : KF Y n aO aL aC σ0 c σ) : KF Y n aO aL aC σ0 (uKI c 8 v) (sg_u σ n aO (.inr (1, (k_f aL aC c).set 8 (.int v)))) := h.obj (by simp [k_f, kI_uKI, kL_uKI]) rfl rfl (fun _ => rfl)
theorem KF.i9 {v : Int32} (h : KF Y n aO aL aC σ0 c σ) : KF Y n aO aL aC σ0 (uKI c 9 v) (sg_u σ n aO (.inr (1, (k_f aL aC c).set 9 (.int v)))) := h.obj (by simp [k_f, kI_uKI, kL_uKI]) rfl rfl (fun _ => rfl)
theorem KF.i10 {v : Int32} (h : KF Y n aO aL aC σ0 c σ) : KF Y n aO aL aC σ0 (uKI c 10 v) (sg_u σ n aO (.inr (1, (k_f aL aC c).set 10 (.int v)))) := h.obj (by simp [k_f, kI_uKI, kL_uKI]) rfl rfl (fun _ => rfl)
theorem KF.i11 {v : Int32} (h : KF Y n aO aL aC σ0 c σ) : KF Y n aO aL aC σ0 (uKI c 11 v) (sg_u σ n aO (.inr (1, (k_f aL aC c).set 11 (.int v)))) := h.obj (by simp [k_f, kI_uKI, kL_uKI]) rfl rfl (fun _ => rfl)
theorem KF.l4 {v : Int64} (h : KF Y n aO aL aC σ0 c σ) : KF Y n aO aL aC σ0 (uKL c 4 v) (sg_u σ n aO (.inr (1, (k_f aL aC c).set 4 (.long v)))) := h.obj (by simp [k_f, kI_uKL, kL_uKL]) rfl rfl (fun _ => rfl)
theorem KF.l5 {v : Int64} (h : KF Y n aO aL aC σ0 c σ) : KF Y n aO aL aC σ0 (uKL c 5 v) (sg_u σ n aO (.inr (1, (k_f aL aC c).set 5 (.long v)))) := h.obj (by simp [k_f, kI_uKL, kL_uKL]) rfl rfl (fun _ => rfl)
theorem KF.l6 {v : Int64} (h : KF Y n aO aL aC σ0 c σ) : KF Y n aO aL aC σ0 (uKL c 6 v) (sg_u σ n aO (.inr (1, (k_f aL aC c).set 6 (.long v)))) := h.obj (by simp [k_f, kI_uKL, kL_uKL]) rfl rfl (fun _ => rfl)
theorem KF.l7 {v : Int64} (h : KF Y n aO aL aC σ0 c σ) : KF Y n aO aL aC σ0 (uKL c 7 v) (sg_u σ n aO (.inr (1, (k_f aL aC c).set 7 (.long v)))) := h.obj (by simp [k_f, kI_uKL, kL_uKL]) rfl rfl (fun _ => rfl)
theorem KF.l12 {v : Int64} (h : KF Y n aO aL aC σ0 c σ) : KF Y n aO aL aC σ0 (uKL c 12 v) (sg_u σ n aO (.inr (1, (k_f aL aC c).set 12 (.long v)))) := h.obj (by simp [k_f, kI_uKL, kL_uKL]) rfl rfl (fun _ => rfl)
theorem KF.l13 {v : Int64} (h : KF Y n aO aL aC σ0 c σ) : KF Y n aO aL aC σ0 (uKL c 13 v) (sg_u σ n aO (.inr (1, (k_f aL aC c).set 13 (.long v)))) := h.obj (by simp [k_f, kI_uKL, kL_uKL]) rfl rfl (fun _ => rfl)
theorem KF.cnt {y : Nat} {v : Int64} (h : KF Y n aO aL aC σ0 c σ) : KF Y n aO aL aC σ0 (uKC c y v) (sg_u σ (n + 2) aC (.inl (Y 1, 5, .inr (.inl (vp_updL (kC c) y v))))) := by
  obtain ⟨g1, g2, g3, g4, g5⟩ := h
  refine ⟨by rw [sg_un (by omega)]; exact g1, by rw [sg_un (by omega)]; exact g2, by rw [sg_ue]; rfl, fun k hk a ha => ?_, fun j hj => ?_⟩
  · rw [sg_un (by omega)]
    exact g4 k hk a ha
  · rw [sg_un (by omega)]
    exact g5 j hj
theorem KF.put {k q : Nat} {v : Nat → Int32} (h : KF Y n aO aL aC σ0 c σ) (hv : σ (n + 3 + k) = some (q, .inr (0, lotF v))) : KF Y n aO aL aC σ0 (uKT c k q v) (sg_u σ (n + 1) aL (.inl (Y 3, 10, .inr (.inr (.inr (.inr (va_up (kR c) k (some q)))))))) := by
  obtain ⟨g1, g2, g3, g4, g5⟩ := h
  refine ⟨by rw [sg_un (by omega)]; exact g1, by rw [sg_ue]; rfl, by rw [sg_un (by omega)]; exact g3, fun i hi a ha => ?_, fun j hj => ?_⟩
  · rw [sg_un (by omega)]
    rw [kR_uKT] at ha
    rw [kV_uKT]
    by_cases hik : i = k
    · subst hik
      rw [va_up_self] at ha
      cases ha
      rw [if_pos rfl]
      exact hv
    · rw [va_up_ne _ _ hik] at ha
      rw [if_neg hik]
      exact g4 i hi a ha
  · rw [sg_un (by omega)]
    exact g5 j hj
theorem KF.lot {k a : Nat} (h : KF Y n aO aL aC σ0 c σ) (hk : k < 10) (ha : kR c k = some a) : σ (n + 3 + k) = some (a, .inr (0, lotF (kV c k))) := h.2.2.2.1 k hk a ha
theorem KF.left {k a : Nat} {v : Int32} (h : KF Y n aO aL aC σ0 c σ) (hk : k < 10) (hr : kR c k = some a) : KF Y n aO aL aC σ0 (uK6 c k v) (sg_u σ (n + 3 + k) a (.inr (0, (lotF (kV c k)).set 6 (.int v)))) := by
  obtain ⟨g1, g2, g3, g4, g5⟩ := h
  refine ⟨by rw [sg_un (by omega)]; exact g1, by rw [sg_un (by omega)]; exact g2, by rw [sg_un (by omega)]; exact g3, fun i hi b hb => ?_, fun j hj => ?_⟩
  · rw [kR_uK6] at hb
    rw [kV_uK6]
    by_cases hik : i = k
    · subst hik
      rw [hr] at hb
      cases hb
      rw [if_pos rfl, sg_ue]
      rfl
    · rw [sg_un (by omega), if_neg hik]
      exact g4 i hi b hb
  · rw [sg_un (by omega)]
    exact g5 j hj
theorem KF.fresh {k q : Nat} {e : va_E} (h : KF Y n aO aL aC σ0 c σ) (hk : k < 10) (hr : kR c k = none) : KF Y n aO aL aC σ0 c (sg_u σ (n + 3 + k) q e) := by
  obtain ⟨g1, g2, g3, g4, g5⟩ := h
  refine ⟨by rw [sg_un (by omega)]; exact g1, by rw [sg_un (by omega)]; exact g2, by rw [sg_un (by omega)]; exact g3, fun i hi b hb => ?_, fun j hj => ?_⟩
  · rw [sg_un (by rintro h; have : i = k := by omega
                  subst this; rw [hr] at hb; cases hb)]
    exact g4 i hi b hb
  · rw [sg_un (by omega)]
    exact g5 j hj
end
/-! a lot's words -/
def lE (v : Nat → Int32) (now : Int32) : Int32 := bI (now - v 3 < 24 ∨ now - v 0 < 12)
def lMin (x y : Int32) : Int32 := if y < x then y else x
def lMax (x y : Int32) : Int32 := if x < y then y else x
def lP (v : Nat → Int32) (now price : Int32) : Int64 := if lE v now = 0 then (lMax 0 (lMin (v 4 * 15 / 100) (price - v 2))).toInt64 else (v 1 - v 2).toInt64
def lG (v : Nat → Int32) (now price : Int32) : Int64 := (price - v 2).toInt64 - lP v now price
/-! a member's words -/
def kWhole (a b : Int64) : Int64 := if a ≤ 0 ∨ b ≤ 0 then 0 else a / b
def kCnt (c : CS) (y : Int32) : Int64 := if y < 0 ∨ 5 ≤ y then 0 else kC c (tN y)
def kAdd (c : CS) (y : Int32) (v : Int64) : CS := if y < 0 ∨ 5 ≤ y then c else uKC c (tN y) (kC c (tN y) + v)
def kSum (c : CS) : Nat → Int32
  | 0 => 0
  | k + 1 => if kR c k = none then kSum c k else kSum c k + kV c k 6
def kGN (c : CS) (now price : Int32) : Nat → Int64
  | 0 => 0
  | k + 1 => if kR c k = none then kGN c now price k else kGN c now price k + (kV c k 6).toInt64 * lG (kV c k) now price
abbrev kSell : Type := CS × Int32 × Int32
def kSo (c : CS) (k : Nat) (op : Int32) : Int32 := lMin op (kV c k 6)
def kSellS (now price : Int32) (k : Nat) (x : kSell) : kSell := if kR x.1 k = none then x else
  (uK6 (uKL (uKL x.1 12 (kL x.1 12 + (kSo x.1 k x.2.1).toInt64 * lP (kV x.1 k) now price)) 13 (kL x.1 13 + (kSo x.1 k x.2.1).toInt64 * lG (kV x.1 k) now price)) k (kV x.1 k 6 - kSo x.1 k x.2.1),
    x.2.1 - kSo x.1 k x.2.1, x.2.2 + (if lE (kV x.1 k) now = 0 then 0 else kSo x.1 k x.2.1))
def kSellN (now price : Int32) : Nat → kSell → kSell
  | 0, x => x
  | k + 1, x => kSellS now price k (kSellN now price k x)
def kEach (c : CS) (price : Int32) : Int32 := (lMin (kI c 9) price * 85 + 100 - 1) / 100
def lMinL (x y : Int64) : Int64 := if y < x then y else x
def kNum (c : CS) (mo price ce : Int32) : Int32 := (lMinL (kWhole (kL c 4) (kEach c price).toInt64) (kWhole (ce.toInt64 - kCnt c (mo / 12)) (kI c 9).toInt64)).toInt32
def kLotV (c : CS) (mo price n : Int32) : Nat → Int32 := fun i => match i with
  | 0 => mo
  | 1 => price
  | 2 => kEach c price
  | 3 => kI c 8
  | 4 => kI c 9
  | _ => n
def kBuy1 (c : CS) (mo price ce : Int32) (q : Nat) : CS := if 0 < kNum c mo price ce then
    uKL (uKL (kAdd (uKT c (tN (mo / 6)) q (kLotV c mo price (kNum c mo price ce))) (mo / 12) ((kNum c mo price ce).toInt64 * (kI c 9).toInt64)) 4 (kL c 4 - (kNum c mo price ce).toInt64 * (kEach c price).toInt64)) 5 (kL c 5 + (kNum c mo price ce).toInt64 * (kEach c price).toInt64)
  else c
def kRenew (c : CS) (mo price : Int32) : CS := if price < kI c 9 then uKI (uKI (uKI (uKI c 11 (kI c 11 + 1)) 8 mo) 9 price) 10 0 else if 4 ≤ kI c 10 then uKI (uKI (uKI c 8 mo) 9 price) 10 0 else c
def kBuyM (c : CS) (mo price ce : Int32) (q : Nat) : CS := kRenew (uKI (kBuy1 c mo price ce q) 10 (kI (kBuy1 c mo price ce q) 10 + 1)) mo price
end
section
theorem wi_X0_isEarly_X0 : ∀ w ∈ wsX00, w ∈ wsX0_isEarly := by decide +kernel
set_option maxHeartbeats 4000000 in
set_option maxRecDepth 100000 in
theorem c_X0_isEarly (l : Launch) (D : va_G) (Y : Nat → ClassId) (σ : sg_W) (sz : Nat) (n a : Nat) (v : Nat → Int32) (now : Int32) (h0 : σ n = some (a, .inr (0, lotF v))) : Met l yX0_isEarly wsX0_isEarly ({ frames := 0, cells := 0, slots := 0, locals := 0 } : Room) (va_Pc [.ref a, .int now] (sg_U D Y σ sz)) (va_Qi (fun r σ' => r = lE v now ∧ σ = σ') (sg_B D σ sz) (sg_A σ sz)) 0 0 (sg_A σ sz) := by
  refine sg_met (cc := cX0_isEarly) (maxL := 2) (ret := (some .boolean)) (by decide) rfl (Nat.le_of_ble_eq_true rfl) ?_
  intro p e s m below meth cd9 ls hx hb hml hr hown hts hlocks hnm hP hK hD hN hX hA hS hsz hl
  have hl : lv_has ls 2 [(0, .ref a), (1, .int now)] := hl
  refine lv_iload_n hx hb dX0_isEarly_0 rfl (lv_at hl 1 rfl) ?_
  refine lv_aload_n hx hb dX0_isEarly_1 rfl (lv_at hl 0 rfl) ?_
  refine va_get (ref := RX0) (v := .int (v 3)) hx hb hts wi_X0_isEarly_X0 hown hK (sg_one hP (h0)) 0 rfl rfl 3 (by decide) (hts (.fieldLink RX0 21 RX0 "offerMonth" "I") (by decide +kernel)) (fun _ h => h) rfl dX0_isEarly_2 ?_
  refine lv_isub hx hb dX0_isEarly_5 ?_
  refine lv_bipush (v := 24) hx hb dX0_isEarly_6 (by decide) ?_
  refine lv_icmp_lt (tgt := 22) hx hb dX0_isEarly_8 (by decide) (fun c8 => ?_) (fun c8 => ?_)
  · skip
    refine lv_iconst (v := 1) hx hb dX0_isEarly_22 (by decide) ?_
    refine lv_goto (tgt := 27) hx hb dX0_isEarly_23 (by decide) ?_
    exact sg_iret hx hb hr rfl hlocks hP hD hS (Nat.le_of_ble_eq_true rfl) (Nat.le_of_ble_eq_true rfl) dX0_isEarly_27 (⟨by grind [lE, bI], rfl⟩)
  · skip
    refine lv_iload_n hx hb dX0_isEarly_11 rfl (lv_at hl 1 rfl) ?_
    refine lv_aload_n hx hb dX0_isEarly_12 rfl (lv_at hl 0 rfl) ?_
    refine va_get (ref := RX0) (v := .int (v 0)) hx hb hts wi_X0_isEarly_X0 hown hK (sg_one hP (h0)) 0 rfl rfl 0 (by decide) (hts (.fieldLink RX0 9 RX0 "month" "I") (by decide +kernel)) (fun _ h => h) rfl dX0_isEarly_13 ?_
    refine lv_isub hx hb dX0_isEarly_16 ?_
    refine lv_bipush (v := 12) hx hb dX0_isEarly_17 (by decide) ?_
    refine lv_icmp_ge (tgt := 26) hx hb dX0_isEarly_19 (by decide) (fun c19 => ?_) (fun c19 => ?_)
    · skip
      refine lv_iconst (v := 0) hx hb dX0_isEarly_26 (by decide) ?_
      exact sg_iret hx hb hr rfl hlocks hP hD hS (Nat.le_of_ble_eq_true rfl) (Nat.le_of_ble_eq_true rfl) dX0_isEarly_27 (⟨by grind [lE, bI], rfl⟩)
    · skip
      refine lv_iconst (v := 1) hx hb dX0_isEarly_22 (by decide) ?_
      refine lv_goto (tgt := 27) hx hb dX0_isEarly_23 (by decide) ?_
      exact sg_iret hx hb hr rfl hlocks hP hD hS (Nat.le_of_ble_eq_true rfl) (Nat.le_of_ble_eq_true rfl) dX0_isEarly_27 (⟨by grind [lE, bI], rfl⟩)

theorem wi_X0_payEach_X0 : ∀ w ∈ wsX00, w ∈ wsX0_payEach := by decide +kernel
set_option maxHeartbeats 4000000 in
set_option maxRecDepth 100000 in
theorem c_X0_payEach (l : Launch) (D : va_G) (Y : Nat → ClassId) (σ : sg_W) (sz : Nat) (n a : Nat) (v : Nat → Int32) (now price : Int32) (h0 : σ n = some (a, .inr (0, lotF v))) : Met l yX0_payEach wsX0_payEach ({ frames := 1, cells := 0, slots := 0, locals := 21 } : Room) (va_Pc [.ref a, .int now, .int price] (sg_U D Y σ sz)) (va_Ql (fun r σ' => r = lP v now price ∧ σ = σ') (sg_B D σ sz) (sg_A σ sz)) 0 0 (sg_A σ sz) := by
  refine sg_met (cc := cX0_payEach) (maxL := 4) (ret := (some .long)) (by decide) rfl (Nat.le_of_ble_eq_true rfl) ?_
  intro p e s m below meth cd9 ls hx hb hml hr hown hts hlocks hnm hP hK hD hN hX hA hS hsz hl
  have hl : lv_has ls 4 [(0, .ref a), (1, .int now), (2, .int price)] := hl
  refine lv_aload_n hx hb dX0_payEach_0 rfl (lv_at hl 0 rfl) ?_
  refine lv_iload_n hx hb dX0_payEach_1 rfl (lv_at hl 1 rfl) ?_
  refine sg_calli hD hS hA (va_runV (As := [.int now]) (rest := []) ⟨hx, hb, hml, hown, hts⟩ (c_X0_isEarly l D Y _ _ n a v now h0) (cwV 1 hts gX0_payEach_X0_isEarly rfl rfl rfl (by decide +kernel) ⟨Nat.le_of_ble_eq_true rfl, Nat.le_of_ble_eq_true rfl⟩) (sg_preV (q := (RX0, TX0, 7)) (h0) rfl hK hP hD hN hX hS hA) rfl rfl hl.1 rfl (lv_room (Nat.le_of_ble_eq_true rfl)) dX0_payEach_2 ⟨Nat.le_of_ble_eq_true rfl, Nat.le_of_ble_eq_true rfl⟩) (fun r2 σ' H locs hw hP hD hS => ?_)
  obtain ⟨rfl, rfl⟩ := hw
  refine lv_if_eq (tgt := 19) hx hb dX0_payEach_5 (by decide) (fun c5 => ?_) (fun c5 => ?_)
  · skip
    refine lv_aload_n hx hb dX0_payEach_19 rfl (lv_at hl 0 rfl) ?_
    refine va_get (ref := RX0) (v := .int (v 4)) hx hb hts wi_X0_payEach_X0 hown hK (sg_one hP (h0)) 0 rfl rfl 4 (by decide) (hts (.fieldLink RX0 24 RX0 "offerPrice" "I") (by decide +kernel)) (fun _ h => h) rfl dX0_payEach_20 ?_
    refine lv_bipush (v := 15) hx hb dX0_payEach_23 (by decide) ?_
    refine lv_imul hx hb dX0_payEach_25 ?_
    refine lv_bipush (v := 100) hx hb dX0_payEach_26 (by decide) ?_
    refine lv_idiv hx hb dX0_payEach_28 (by decide) ?_
    refine lv_topi (fun v29 ev29 => ?_)
    refine lv_istore_n (lv' := [(3, .int v29), (0, .ref a), (1, .int now), (2, .int price)]) hx hb dX0_payEach_29 rfl hl (by decide) rfl (fun ls hl => ?_)
    refine lv_iconst (v := 0) hx hb dX0_payEach_30 (by decide) ?_
    refine lv_iload_n hx hb dX0_payEach_31 rfl (lv_at hl 0 rfl) ?_
    refine lv_iload_n hx hb dX0_payEach_32 rfl (lv_at hl 3 rfl) ?_
    refine lv_aload_n hx hb dX0_payEach_33 rfl (lv_at hl 1 rfl) ?_
    refine va_get (ref := RX0) (v := .int (v 2)) hx hb hts wi_X0_payEach_X0 hown hK (sg_one hP (h0)) 0 rfl rfl 2 (by decide) (hts (.fieldLink RX0 18 RX0 "paidEach" "I") (by decide +kernel)) (fun _ h => h) rfl dX0_payEach_34 ?_
    refine lv_isub hx hb dX0_payEach_37 ?_
    refine va_mmin hx hb (hml.trans hl.1.symm) hown (hts (.methodLink RX0 37 Lib.Math.min.name) (by decide +kernel)) (hts (.static Lib.Math.min.name) (by decide +kernel)) (hts (.initialized "java/lang/Math") (by decide +kernel)) (hts (.code Lib.Math.min.name Lib.Math.min.code 2 (some .int)) (by decide +kernel)) (Nat.le_of_ble_eq_true rfl) (Nat.le_of_ble_eq_true rfl) (Nat.le_of_ble_eq_true rfl) (Nat.le_of_ble_eq_true rfl) dX0_payEach_38 ?_
    refine va_mmax hx hb (hml.trans hl.1.symm) hown (hts (.methodLink RX0 43 Lib.Math.max.name) (by decide +kernel)) (hts (.static Lib.Math.max.name) (by decide +kernel)) (hts (.initialized "java/lang/Math") (by decide +kernel)) (hts (.code Lib.Math.max.name Lib.Math.max.code 2 (some .int)) (by decide +kernel)) (Nat.le_of_ble_eq_true rfl) (Nat.le_of_ble_eq_true rfl) (Nat.le_of_ble_eq_true rfl) (Nat.le_of_ble_eq_true rfl) dX0_payEach_41 ?_
    refine lv_i2l hx hb dX0_payEach_44 rfl ?_
    exact sg_lret hx hb hr hlocks hP hD hS (Nat.le_of_ble_eq_true rfl) (Nat.le_of_ble_eq_true rfl) dX0_payEach_45 (⟨by first | (rw [lP, if_pos c5, ev29]; rfl) | (rw [lP, if_neg c5]), rfl⟩)
  · skip
    refine lv_aload_n hx hb dX0_payEach_8 rfl (lv_at hl 0 rfl) ?_
    refine va_get (ref := RX0) (v := .int (v 1)) hx hb hts wi_X0_payEach_X0 hown hK (sg_one hP (h0)) 0 rfl rfl 1 (by decide) (hts (.fieldLink RX0 15 RX0 "monthPrice" "I") (by decide +kernel)) (fun _ h => h) rfl dX0_payEach_9 ?_
    refine lv_aload_n hx hb dX0_payEach_12 rfl (lv_at hl 0 rfl) ?_
    refine va_get (ref := RX0) (v := .int (v 2)) hx hb hts wi_X0_payEach_X0 hown hK (sg_one hP (h0)) 0 rfl rfl 2 (by decide) (hts (.fieldLink RX0 18 RX0 "paidEach" "I") (by decide +kernel)) (fun _ h => h) rfl dX0_payEach_13 ?_
    refine lv_isub hx hb dX0_payEach_16 ?_
    refine lv_i2l hx hb dX0_payEach_17 rfl ?_
    exact sg_lret hx hb hr hlocks hP hD hS (Nat.le_of_ble_eq_true rfl) (Nat.le_of_ble_eq_true rfl) dX0_payEach_18 (⟨by first | (rw [lP, if_pos c5, ev29]; rfl) | (rw [lP, if_neg c5]), rfl⟩)

theorem wi_X0_gainEach_X0 : ∀ w ∈ wsX00, w ∈ wsX0_gainEach := by decide +kernel
set_option maxHeartbeats 4000000 in
set_option maxRecDepth 100000 in
theorem c_X0_gainEach (l : Launch) (D : va_G) (Y : Nat → ClassId) (σ : sg_W) (sz : Nat) (n a : Nat) (v : Nat → Int32) (now price : Int32) (h0 : σ n = some (a, .inr (0, lotF v))) : Met l yX0_gainEach wsX0_gainEach ({ frames := 2, cells := 0, slots := 0, locals := 44 } : Room) (va_Pc [.ref a, .int now, .int price] (sg_U D Y σ sz)) (va_Ql (fun r σ' => r = lG v now price ∧ σ = σ') (sg_B D σ sz) (sg_A σ sz)) 0 0 (sg_A σ sz) := by
  refine sg_met (cc := cX0_gainEach) (maxL := 3) (ret := (some .long)) (by decide) rfl (Nat.le_of_ble_eq_true rfl) ?_
  intro p e s m below meth cd9 ls hx hb hml hr hown hts hlocks hnm hP hK hD hN hX hA hS hsz hl
  have hl : lv_has ls 3 [(0, .ref a), (1, .int now), (2, .int price)] := hl
  refine lv_iload_n hx hb dX0_gainEach_0 rfl (lv_at hl 2 rfl) ?_
  refine lv_aload_n hx hb dX0_gainEach_1 rfl (lv_at hl 0 rfl) ?_
  refine va_get (ref := RX0) (v := .int (v 2)) hx hb hts wi_X0_gainEach_X0 hown hK (sg_one hP (h0)) 0 rfl rfl 2 (by decide) (hts (.fieldLink RX0 18 RX0 "paidEach" "I") (by decide +kernel)) (fun _ h => h) rfl dX0_gainEach_2 ?_
  refine lv_isub hx hb dX0_gainEach_5 ?_
  refine lv_i2l hx hb dX0_gainEach_6 rfl ?_
  refine lv_aload_n hx hb dX0_gainEach_7 rfl (lv_at hl 0 rfl) ?_
  refine lv_iload_n hx hb dX0_gainEach_8 rfl (lv_at hl 1 rfl) ?_
  refine lv_iload_n hx hb dX0_gainEach_9 rfl (lv_at hl 2 rfl) ?_
  refine sg_calll hD hS hA (va_runV (As := [.int now, .int price]) (rest := [.long ((price - (v 2))).toInt64]) ⟨hx, hb, hml, hown, hts⟩ (c_X0_payEach l D Y _ _ n a v now price h0) (cwV 2 hts gX0_gainEach_X0_payEach rfl rfl rfl (by decide +kernel) ⟨Nat.le_of_ble_eq_true rfl, Nat.le_of_ble_eq_true rfl⟩) (sg_preV (q := (RX0, TX0, 7)) (h0) rfl hK hP hD hN hX hS hA) rfl rfl hl.1 rfl (lv_room (Nat.le_of_ble_eq_true rfl)) dX0_gainEach_10 ⟨Nat.le_of_ble_eq_true rfl, Nat.le_of_ble_eq_true rfl⟩) (fun r10 σ' H locs hw hP hD hS => ?_)
  obtain ⟨rfl, rfl⟩ := hw
  refine lv_lsub hx hb dX0_gainEach_13 ?_
  exact sg_lret hx hb hr hlocks hP hD hS (Nat.le_of_ble_eq_true rfl) (Nat.le_of_ble_eq_true rfl) dX0_gainEach_14 (⟨rfl, rfl⟩)

theorem wi_X0_init_X0 : ∀ w ∈ wsX00, w ∈ wsX0_init := by decide +kernel
set_option maxHeartbeats 4000000 in
set_option maxRecDepth 100000 in
theorem c_X0_init (l : Launch) (D : va_G) (Y : Nat → ClassId) (σ : sg_W) (sz : Nat) (n a : Nat) (a1 a2 a3 a4 a5 a6 : Int32) (h0 : σ n = some (a, .inr (0, lotF (fun _ => 0)))) : Met l yX0_init wsX0_init ({ frames := 1, cells := 0, slots := 0, locals := 12 } : Room) (va_Pc [.ref a, .int a1, .int a2, .int a3, .int a4, .int a5, .int a6] (sg_U D Y σ sz)) (va_Qv (fun σ' => σ' n = some (a, .inr (0, [.int a1, .int a2, .int a3, .int a4, .int a5, .int a6, .int a6])) ∧ ∀ j, j ≠ n → σ' j = σ j) (sg_B D σ sz) (sg_A σ sz)) 0 0 (sg_A σ sz) := by
  refine sg_met (cc := cX0_init) (maxL := 7) (ret := none) (by decide) rfl (Nat.le_of_ble_eq_true rfl) ?_
  intro p e s m below meth cd9 ls hx hb hml hr hown hts hlocks hnm hP hK hD hN hX hA hS hsz hl
  have hl : lv_has ls 7 [(0, .ref a), (1, .int a1), (2, .int a2), (3, .int a3), (4, .int a4), (5, .int a5), (6, .int a6)] := hl
  refine lv_aload_n hx hb dX0_init_0 rfl (lv_at hl 0 rfl) ?_
  refine W.objInit hx hb hown (hts (.methodLink RX0 3 objectInit) (by decide +kernel)) (hts (.instanceMethod objectInit) (by decide +kernel)) (hts (.code objectInit ⟨#[0xb1]⟩ 1 none) (by decide +kernel)) rfl (by rw [hml]; exact hl.1) rfl dX0_init_1 (Nat.le_of_ble_eq_true rfl) (Nat.le_of_ble_eq_true rfl) ?_
  refine W.eq (g2 := F0 m 4 ls []) rfl ?_
  refine lv_aload_n hx hb dX0_init_4 rfl (lv_at hl 0 rfl) ?_
  refine lv_iload_n hx hb dX0_init_5 rfl (lv_at hl 1 rfl) ?_
  refine sg_putF (ref := RX0) (ty := .int) (v := .int a1) hx hb hts wi_X0_init_X0 tyX0 tyX0_ok nmX0 hown hK hP hD hS (h0) rfl 0 (by decide) (hts (.fieldLink RX0 9 RX0 "month" "I") (by decide +kernel)) (fun _ h => h) rfl hnm rfl (by decide +kernel) rfl rfl (Nat.le_of_ble_eq_true rfl) dX0_init_6 (fun H locs hP hD hS => ?_)
  refine lv_aload_n hx hb dX0_init_9 rfl (lv_at hl 0 rfl) ?_
  refine lv_iload_n hx hb dX0_init_10 rfl (lv_at hl 2 rfl) ?_
  refine sg_putF (ref := RX0) (ty := .int) (v := .int a2) hx hb hts wi_X0_init_X0 tyX0 tyX0_ok nmX0 hown hK hP hD hS (sg_ue) rfl 1 (by decide) (hts (.fieldLink RX0 15 RX0 "monthPrice" "I") (by decide +kernel)) (fun _ h => h) rfl hnm rfl (by decide +kernel) rfl rfl (Nat.le_of_ble_eq_true rfl) dX0_init_11 (fun H locs hP hD hS => ?_)
  refine lv_aload_n hx hb dX0_init_14 rfl (lv_at hl 0 rfl) ?_
  refine lv_iload_n hx hb dX0_init_15 rfl (lv_at hl 3 rfl) ?_
  refine sg_putF (ref := RX0) (ty := .int) (v := .int a3) hx hb hts wi_X0_init_X0 tyX0 tyX0_ok nmX0 hown hK hP hD hS (sg_ue) rfl 2 (by decide) (hts (.fieldLink RX0 18 RX0 "paidEach" "I") (by decide +kernel)) (fun _ h => h) rfl hnm rfl (by decide +kernel) rfl rfl (Nat.le_of_ble_eq_true rfl) dX0_init_16 (fun H locs hP hD hS => ?_)
  refine lv_aload_n hx hb dX0_init_19 rfl (lv_at hl 0 rfl) ?_
  refine lv_iload hx hb dX0_init_20 (lv_at hl 4 rfl) ?_
  refine sg_putF (ref := RX0) (ty := .int) (v := .int a4) hx hb hts wi_X0_init_X0 tyX0 tyX0_ok nmX0 hown hK hP hD hS (sg_ue) rfl 3 (by decide) (hts (.fieldLink RX0 21 RX0 "offerMonth" "I") (by decide +kernel)) (fun _ h => h) rfl hnm rfl (by decide +kernel) rfl rfl (Nat.le_of_ble_eq_true rfl) dX0_init_22 (fun H locs hP hD hS => ?_)
  refine lv_aload_n hx hb dX0_init_25 rfl (lv_at hl 0 rfl) ?_
  refine lv_iload hx hb dX0_init_26 (lv_at hl 5 rfl) ?_
  refine sg_putF (ref := RX0) (ty := .int) (v := .int a5) hx hb hts wi_X0_init_X0 tyX0 tyX0_ok nmX0 hown hK hP hD hS (sg_ue) rfl 4 (by decide) (hts (.fieldLink RX0 24 RX0 "offerPrice" "I") (by decide +kernel)) (fun _ h => h) rfl hnm rfl (by decide +kernel) rfl rfl (Nat.le_of_ble_eq_true rfl) dX0_init_28 (fun H locs hP hD hS => ?_)
  refine lv_aload_n hx hb dX0_init_31 rfl (lv_at hl 0 rfl) ?_
  refine lv_iload hx hb dX0_init_32 (lv_at hl 6 rfl) ?_
  refine sg_putF (ref := RX0) (ty := .int) (v := .int a6) hx hb hts wi_X0_init_X0 tyX0 tyX0_ok nmX0 hown hK hP hD hS (sg_ue) rfl 5 (by decide) (hts (.fieldLink RX0 27 RX0 "bought" "I") (by decide +kernel)) (fun _ h => h) rfl hnm rfl (by decide +kernel) rfl rfl (Nat.le_of_ble_eq_true rfl) dX0_init_34 (fun H locs hP hD hS => ?_)
  refine lv_aload_n hx hb dX0_init_37 rfl (lv_at hl 0 rfl) ?_
  refine lv_iload hx hb dX0_init_38 (lv_at hl 6 rfl) ?_
  refine sg_put (ref := RX0) (ty := .int) (v := .int a6) hx hb hts wi_X0_init_X0 tyX0 tyX0_ok nmX0 hown hK hP hD hS (sg_ue) rfl 6 (by decide) (hts (.fieldLink RX0 30 RX0 "left" "I") (by decide +kernel)) (fun _ h => h) rfl (by decide +kernel) rfl rfl (Nat.le_of_ble_eq_true rfl) dX0_init_40 (fun H locs hP hD hS => ?_)
  exact sg_vret hx hb hr hlocks hP hD hS (Nat.le_of_ble_eq_true rfl) (Nat.le_of_ble_eq_true rfl) dX0_init_43 (⟨by rw [sg_ue]; rfl, fun j hj => by simp only [sg_un hj]⟩)
end
section
theorem vp_5 {y : Int32} (h : ¬ y < 0) (h2 : y < 5) : vp_in y 5 := by
  obtain ⟨j, hj, rfl⟩ := nI_of h
  rw [show (5 : Int32) = nI 5 from rfl, nI_ltI hj (by omega)] at h2
  exact vp_in_nI h2 (by decide)
theorem wi_X1_takeSlip_X1 : ∀ w ∈ wsX10, w ∈ wsX1_takeSlip := by decide +kernel
set_option maxHeartbeats 4000000 in
set_option maxRecDepth 100000 in
theorem c_X1_takeSlip (l : Launch) (D : va_G) (Y : Nat → ClassId) (σ : sg_W) (sz : Nat) (n aO aL aC : Nat) (c : CS) (x : Int32) (hC : KF Y n aO aL aC σ c σ) : Met l yX1_takeSlip wsX1_takeSlip ({ frames := 0, cells := 0, slots := 0, locals := 0 } : Room) (va_Pc [.ref aO, .int x] (sg_U D Y σ sz)) (va_Qi (fun r σ' => r = x * kI c 2 / 100 ∧ KF Y n aO aL aC σ (uKL (uKL c 4 (kL c 4 + (x * kI c 2 / 100).toInt64)) 7 (kL c 7 + (x * kI c 2 / 100).toInt64)) σ') (sg_B D σ sz) (sg_A σ sz)) 0 0 (sg_A σ sz) := by
  refine sg_met (cc := cX1_takeSlip) (maxL := 3) (ret := (some .int)) (by decide) rfl (Nat.le_of_ble_eq_true rfl) ?_
  intro p e s m below meth cd9 ls hx hb hml hr hown hts hlocks hnm hP hK hD hN hX hA hS hsz hl
  have hl : lv_has ls 3 [(0, .ref aO), (1, .int x)] := hl
  refine lv_iload_n hx hb dX1_takeSlip_0 rfl (lv_at hl 1 rfl) ?_
  refine lv_aload_n hx hb dX1_takeSlip_1 rfl (lv_at hl 0 rfl) ?_
  refine va_get (ref := RX1) (v := .int (kI c 2)) hx hb hts wi_X1_takeSlip_X1 hown hK (sg_one hP (hC.1)) 0 rfl rfl 2 (by decide) (hts (.fieldLink RX1 21 RX1 "rate" "I") (by decide +kernel)) (fun _ h => h) rfl dX1_takeSlip_2 ?_
  refine lv_imul hx hb dX1_takeSlip_5 ?_
  refine lv_bipush (v := 100) hx hb dX1_takeSlip_6 (by decide) ?_
  refine lv_idiv hx hb dX1_takeSlip_8 (by decide) ?_
  refine lv_topi (fun v9 ev9 => ?_)
  refine lv_istore_n (lv' := [(2, .int v9), (0, .ref aO), (1, .int x)]) hx hb dX1_takeSlip_9 rfl hl (by decide) rfl (fun ls hl => ?_)
  refine lv_aload_n hx hb dX1_takeSlip_10 rfl (lv_at hl 1 rfl) ?_
  refine lv_dup hx hb dX1_takeSlip_11 rfl ?_
  refine va_get (ref := RX1) (v := .long (kL c 4)) hx hb hts wi_X1_takeSlip_X1 hown hK (sg_one hP (hC.1)) 0 rfl rfl 4 (by decide) (hts (.fieldLink RX1 31 RX1 "money" "J") (by decide +kernel)) (fun _ h => h) rfl dX1_takeSlip_12 ?_
  refine lv_iload_n hx hb dX1_takeSlip_15 rfl (lv_at hl 0 rfl) ?_
  refine lv_i2l hx hb dX1_takeSlip_16 rfl ?_
  refine lv_ladd hx hb dX1_takeSlip_17 ?_
  refine sg_put (ref := RX1) (ty := .long) (v := .long ((kL c 4) + v9.toInt64)) hx hb hts wi_X1_takeSlip_X1 tyX1 tyX1_ok nmX1 hown hK hP hD hS (hC.1) rfl 4 (by decide) (hts (.fieldLink RX1 31 RX1 "money" "J") (by decide +kernel)) (fun _ h => h) rfl (by decide +kernel) rfl rfl (Nat.le_of_ble_eq_true rfl) dX1_takeSlip_18 (fun H locs hP hD hS => ?_)
  have hC := hC.l4 (v := ((kL c 4) + v9.toInt64))
  refine lv_aload_n hx hb dX1_takeSlip_21 rfl (lv_at hl 1 rfl) ?_
  refine lv_dup hx hb dX1_takeSlip_22 rfl ?_
  refine va_get (ref := RX1) (v := .long (kL (uKL c 4 (((kL c 4) + v9.toInt64))) 7)) hx hb hts wi_X1_takeSlip_X1 hown hK (sg_one hP (hC.1)) 0 rfl rfl 7 (by decide) (hts (.fieldLink RX1 35 RX1 "keptOfSlips" "J") (by decide +kernel)) (fun _ h => h) rfl dX1_takeSlip_23 ?_
  refine lv_iload_n hx hb dX1_takeSlip_26 rfl (lv_at hl 0 rfl) ?_
  refine lv_i2l hx hb dX1_takeSlip_27 rfl ?_
  refine lv_ladd hx hb dX1_takeSlip_28 ?_
  refine sg_put (ref := RX1) (ty := .long) (v := .long ((kL (uKL c 4 (((kL c 4) + v9.toInt64))) 7) + v9.toInt64)) hx hb hts wi_X1_takeSlip_X1 tyX1 tyX1_ok nmX1 hown hK hP hD hS (hC.1) rfl 7 (by decide) (hts (.fieldLink RX1 35 RX1 "keptOfSlips" "J") (by decide +kernel)) (fun _ h => h) rfl (by decide +kernel) rfl rfl (Nat.le_of_ble_eq_true rfl) dX1_takeSlip_29 (fun H locs hP hD hS => ?_)
  have hC := hC.l7 (v := ((kL (uKL c 4 (((kL c 4) + v9.toInt64))) 7) + v9.toInt64))
  refine lv_iload_n hx hb dX1_takeSlip_32 rfl (lv_at hl 0 rfl) ?_
  exact sg_iret hx hb hr rfl hlocks hP hD hS (Nat.le_of_ble_eq_true rfl) (Nat.le_of_ble_eq_true rfl) dX1_takeSlip_33 (by subst ev9; exact ⟨rfl, hC⟩)

theorem wi_X1_giveBack_X1 : ∀ w ∈ wsX10, w ∈ wsX1_giveBack := by decide +kernel
set_option maxHeartbeats 4000000 in
set_option maxRecDepth 100000 in
theorem c_X1_giveBack (l : Launch) (D : va_G) (Y : Nat → ClassId) (σ : sg_W) (sz : Nat) (n aO aL aC : Nat) (c : CS) (hC : KF Y n aO aL aC σ c σ) : Met l yX1_giveBack wsX1_giveBack ({ frames := 0, cells := 0, slots := 0, locals := 0 } : Room) (va_Pc [.ref aO] (sg_U D Y σ sz)) (va_Ql (fun r σ' => r = kL c 4 ∧ KF Y n aO aL aC σ (uKI (uKL (uKL c 6 (kL c 6 + kL c 4)) 4 0) 3 1) σ') (sg_B D σ sz) (sg_A σ sz)) 0 0 (sg_A σ sz) := by
  refine sg_met (cc := cX1_giveBack) (maxL := 3) (ret := (some .long)) (by decide) rfl (Nat.le_of_ble_eq_true rfl) ?_
  intro p e s m below meth cd9 ls hx hb hml hr hown hts hlocks hnm hP hK hD hN hX hA hS hsz hl
  have hl : lv_has ls 3 [(0, .ref aO)] := hl
  refine lv_aload_n hx hb dX1_giveBack_0 rfl (lv_at hl 0 rfl) ?_
  refine va_get (ref := RX1) (v := .long (kL c 4)) hx hb hts wi_X1_giveBack_X1 hown hK (sg_one hP (hC.1)) 0 rfl rfl 4 (by decide) (hts (.fieldLink RX1 31 RX1 "money" "J") (by decide +kernel)) (fun _ h => h) rfl dX1_giveBack_1 ?_
  refine lv_topl (fun v4 ev4 => ?_)
  refine lv_lstore_n (lv' := [(1, .long v4), (0, .ref aO)]) hx hb dX1_giveBack_4 rfl hl (by decide) rfl (fun ls hl => ?_)
  refine lv_aload_n hx hb dX1_giveBack_5 rfl (lv_at hl 1 rfl) ?_
  refine lv_dup hx hb dX1_giveBack_6 rfl ?_
  refine va_get (ref := RX1) (v := .long (kL c 6)) hx hb hts wi_X1_giveBack_X1 hown hK (sg_one hP (hC.1)) 0 rfl rfl 6 (by decide) (hts (.fieldLink RX1 38 RX1 "givenBack" "J") (by decide +kernel)) (fun _ h => h) rfl dX1_giveBack_7 ?_
  refine lv_lload_n hx hb dX1_giveBack_10 rfl (lv_at hl 0 rfl) ?_
  refine lv_ladd hx hb dX1_giveBack_11 ?_
  refine sg_put (ref := RX1) (ty := .long) (v := .long ((kL c 6) + v4)) hx hb hts wi_X1_giveBack_X1 tyX1 tyX1_ok nmX1 hown hK hP hD hS (hC.1) rfl 6 (by decide) (hts (.fieldLink RX1 38 RX1 "givenBack" "J") (by decide +kernel)) (fun _ h => h) rfl (by decide +kernel) rfl rfl (Nat.le_of_ble_eq_true rfl) dX1_giveBack_12 (fun H locs hP hD hS => ?_)
  have hC := hC.l6 (v := ((kL c 6) + v4))
  refine lv_aload_n hx hb dX1_giveBack_15 rfl (lv_at hl 1 rfl) ?_
  refine lv_lconst (v := 0) hx hb dX1_giveBack_16 (by decide) ?_
  refine sg_put (ref := RX1) (ty := .long) (v := .long 0) hx hb hts wi_X1_giveBack_X1 tyX1 tyX1_ok nmX1 hown hK hP hD hS (hC.1) rfl 4 (by decide) (hts (.fieldLink RX1 31 RX1 "money" "J") (by decide +kernel)) (fun _ h => h) rfl (by decide +kernel) rfl rfl (Nat.le_of_ble_eq_true rfl) dX1_giveBack_17 (fun H locs hP hD hS => ?_)
  have hC := hC.l4 (v := 0)
  refine lv_aload_n hx hb dX1_giveBack_20 rfl (lv_at hl 1 rfl) ?_
  refine lv_iconst (v := 1) hx hb dX1_giveBack_21 (by decide) ?_
  refine sg_put (ref := RX1) (ty := .boolean) (v := .int 1) hx hb hts wi_X1_giveBack_X1 tyX1 tyX1_ok nmX1 hown hK hP hD hS (hC.1) rfl 3 (by decide) (hts (.fieldLink RX1 41 RX1 "hasLeft" "Z") (by decide +kernel)) (fun _ h => h) rfl (by decide +kernel) (rfl) rfl (Nat.le_of_ble_eq_true rfl) dX1_giveBack_22 (fun H locs hP hD hS => ?_)
  have hC := hC.i3 (v := 1)
  refine lv_lload_n hx hb dX1_giveBack_25 rfl (lv_at hl 0 rfl) ?_
  exact sg_lret hx hb hr hlocks hP hD hS (Nat.le_of_ble_eq_true rfl) (Nat.le_of_ble_eq_true rfl) dX1_giveBack_26 (by subst ev4; exact ⟨rfl, hC⟩)

theorem wi_X1_renewOffer_X1 : ∀ w ∈ wsX10, w ∈ wsX1_renewOffer := by decide +kernel
set_option maxHeartbeats 4000000 in
set_option maxRecDepth 100000 in
theorem c_X1_renewOffer (l : Launch) (D : va_G) (Y : Nat → ClassId) (σ : sg_W) (sz : Nat) (n aO aL aC : Nat) (c : CS) (mo price : Int32) (hC : KF Y n aO aL aC σ c σ) : Met l yX1_renewOffer wsX1_renewOffer ({ frames := 0, cells := 0, slots := 0, locals := 0 } : Room) (va_Pc [.ref aO, .int mo, .int price] (sg_U D Y σ sz)) (va_Qv (fun σ' => KF Y n aO aL aC σ (kRenew c mo price) σ') (sg_B D σ sz) (sg_A σ sz)) 0 0 (sg_A σ sz) := by
  refine sg_met (cc := cX1_renewOffer) (maxL := 4) (ret := none) (by decide) rfl (Nat.le_of_ble_eq_true rfl) ?_
  intro p e s m below meth cd9 ls hx hb hml hr hown hts hlocks hnm hP hK hD hN hX hA hS hsz hl
  have hl : lv_has ls 4 [(0, .ref aO), (1, .int mo), (2, .int price)] := hl
  refine sg_cutwi (D := D) hS (j := 13) (ls := ls) (rest := []) 0 0 (fun x9 σ' => x9 = (bI (price < kI c 9)) ∧ KF Y n aO aL aC σ c σ') (fun x9 σ' H locs hj9 hP hD hS => ?_) (fun k13 => ?_)
  · obtain ⟨rfl, hC⟩ := hj9
    refine lv_topi (fun v13 ev13 => ?_)
    refine lv_istore_n (lv' := [(3, .int v13), (0, .ref aO), (1, .int mo), (2, .int price)]) hx hb dX1_renewOffer_13 rfl hl (by decide) rfl (fun ls hl => ?_)
    refine lv_iload_n hx hb dX1_renewOffer_14 rfl (lv_at hl 0 rfl) ?_
    refine lv_if_eq (tgt := 28) hx hb dX1_renewOffer_15 (by decide) (fun c15 => ?_) (fun c15 => ?_)
    · skip
      refine lv_iload_n hx hb dX1_renewOffer_28 rfl (lv_at hl 0 rfl) ?_
      refine lv_if_ne (tgt := 40) hx hb dX1_renewOffer_29 (by decide) (fun c29 => ?_) (fun c29 => ?_)
      · skip
        refine lv_aload_n hx hb dX1_renewOffer_40 rfl (lv_at hl 1 rfl) ?_
        refine lv_iload_n hx hb dX1_renewOffer_41 rfl (lv_at hl 2 rfl) ?_
        refine sg_put (ref := RX1) (ty := .int) (v := .int mo) hx hb hts wi_X1_renewOffer_X1 tyX1 tyX1_ok nmX1 hown hK hP hD hS (hC.1) rfl 8 (by decide) (hts (.fieldLink RX1 25 RX1 "offerMonth" "I") (by decide +kernel)) (fun _ h => h) rfl (by decide +kernel) rfl rfl (Nat.le_of_ble_eq_true rfl) dX1_renewOffer_42 (fun H locs hP hD hS => ?_)
        have hC := hC.i8 (v := mo)
        refine lv_aload_n hx hb dX1_renewOffer_45 rfl (lv_at hl 1 rfl) ?_
        refine lv_iload_n hx hb dX1_renewOffer_46 rfl (lv_at hl 3 rfl) ?_
        refine sg_put (ref := RX1) (ty := .int) (v := .int price) hx hb hts wi_X1_renewOffer_X1 tyX1 tyX1_ok nmX1 hown hK hP hD hS (hC.1) rfl 9 (by decide) (hts (.fieldLink RX1 28 RX1 "offerPrice" "I") (by decide +kernel)) (fun _ h => h) rfl (by decide +kernel) rfl rfl (Nat.le_of_ble_eq_true rfl) dX1_renewOffer_47 (fun H locs hP hD hS => ?_)
        have hC := hC.i9 (v := price)
        refine lv_aload_n hx hb dX1_renewOffer_50 rfl (lv_at hl 1 rfl) ?_
        refine lv_iconst (v := 0) hx hb dX1_renewOffer_51 (by decide) ?_
        refine sg_put (ref := RX1) (ty := .int) (v := .int 0) hx hb hts wi_X1_renewOffer_X1 tyX1 tyX1_ok nmX1 hown hK hP hD hS (hC.1) rfl 10 (by decide) (hts (.fieldLink RX1 79 RX1 "offerPurchases" "I") (by decide +kernel)) (fun _ h => h) rfl (by decide +kernel) rfl rfl (Nat.le_of_ble_eq_true rfl) dX1_renewOffer_52 (fun H locs hP hD hS => ?_)
        have hC := hC.i10 (v := 0)
        exact sg_vret hx hb hr hlocks hP hD hS (Nat.le_of_ble_eq_true rfl) (Nat.le_of_ble_eq_true rfl) dX1_renewOffer_55 (hC.to (by grind [kRenew, bI, Int32.not_le, Int32.not_lt, kI_uKI]))
      · skip
        refine lv_aload_n hx hb dX1_renewOffer_32 rfl (lv_at hl 1 rfl) ?_
        refine va_get (ref := RX1) (v := .int (kI c 10)) hx hb hts wi_X1_renewOffer_X1 hown hK (sg_one hP (hC.1)) 0 rfl rfl 10 (by decide) (hts (.fieldLink RX1 79 RX1 "offerPurchases" "I") (by decide +kernel)) (fun _ h => h) rfl dX1_renewOffer_33 ?_
        refine lv_iconst (v := 4) hx hb dX1_renewOffer_36 (by decide) ?_
        refine lv_icmp_lt (tgt := 55) hx hb dX1_renewOffer_37 (by decide) (fun c37 => ?_) (fun c37 => ?_)
        · skip
          exact sg_vret hx hb hr hlocks hP hD hS (Nat.le_of_ble_eq_true rfl) (Nat.le_of_ble_eq_true rfl) dX1_renewOffer_55 (hC.to (by grind [kRenew, bI, Int32.not_le, Int32.not_lt, kI_uKI]))
        · skip
          refine lv_aload_n hx hb dX1_renewOffer_40 rfl (lv_at hl 1 rfl) ?_
          refine lv_iload_n hx hb dX1_renewOffer_41 rfl (lv_at hl 2 rfl) ?_
          refine sg_put (ref := RX1) (ty := .int) (v := .int mo) hx hb hts wi_X1_renewOffer_X1 tyX1 tyX1_ok nmX1 hown hK hP hD hS (hC.1) rfl 8 (by decide) (hts (.fieldLink RX1 25 RX1 "offerMonth" "I") (by decide +kernel)) (fun _ h => h) rfl (by decide +kernel) rfl rfl (Nat.le_of_ble_eq_true rfl) dX1_renewOffer_42 (fun H locs hP hD hS => ?_)
          have hC := hC.i8 (v := mo)
          refine lv_aload_n hx hb dX1_renewOffer_45 rfl (lv_at hl 1 rfl) ?_
          refine lv_iload_n hx hb dX1_renewOffer_46 rfl (lv_at hl 3 rfl) ?_
          refine sg_put (ref := RX1) (ty := .int) (v := .int price) hx hb hts wi_X1_renewOffer_X1 tyX1 tyX1_ok nmX1 hown hK hP hD hS (hC.1) rfl 9 (by decide) (hts (.fieldLink RX1 28 RX1 "offerPrice" "I") (by decide +kernel)) (fun _ h => h) rfl (by decide +kernel) rfl rfl (Nat.le_of_ble_eq_true rfl) dX1_renewOffer_47 (fun H locs hP hD hS => ?_)
          have hC := hC.i9 (v := price)
          refine lv_aload_n hx hb dX1_renewOffer_50 rfl (lv_at hl 1 rfl) ?_
          refine lv_iconst (v := 0) hx hb dX1_renewOffer_51 (by decide) ?_
          refine sg_put (ref := RX1) (ty := .int) (v := .int 0) hx hb hts wi_X1_renewOffer_X1 tyX1 tyX1_ok nmX1 hown hK hP hD hS (hC.1) rfl 10 (by decide) (hts (.fieldLink RX1 79 RX1 "offerPurchases" "I") (by decide +kernel)) (fun _ h => h) rfl (by decide +kernel) rfl rfl (Nat.le_of_ble_eq_true rfl) dX1_renewOffer_52 (fun H locs hP hD hS => ?_)
          have hC := hC.i10 (v := 0)
          exact sg_vret hx hb hr hlocks hP hD hS (Nat.le_of_ble_eq_true rfl) (Nat.le_of_ble_eq_true rfl) dX1_renewOffer_55 (hC.to (by grind [kRenew, bI, Int32.not_le, Int32.not_lt, kI_uKI]))
    · skip
      refine lv_aload_n hx hb dX1_renewOffer_18 rfl (lv_at hl 1 rfl) ?_
      refine lv_dup hx hb dX1_renewOffer_19 rfl ?_
      refine va_get (ref := RX1) (v := .int (kI c 11)) hx hb hts wi_X1_renewOffer_X1 hown hK (sg_one hP (hC.1)) 0 rfl rfl 11 (by decide) (hts (.fieldLink RX1 86 RX1 "resets" "I") (by decide +kernel)) (fun _ h => h) rfl dX1_renewOffer_20 ?_
      refine lv_iconst (v := 1) hx hb dX1_renewOffer_23 (by decide) ?_
      refine lv_iadd hx hb dX1_renewOffer_24 ?_
      refine sg_put (ref := RX1) (ty := .int) (v := .int ((kI c 11) + 1)) hx hb hts wi_X1_renewOffer_X1 tyX1 tyX1_ok nmX1 hown hK hP hD hS (hC.1) rfl 11 (by decide) (hts (.fieldLink RX1 86 RX1 "resets" "I") (by decide +kernel)) (fun _ h => h) rfl (by decide +kernel) rfl rfl (Nat.le_of_ble_eq_true rfl) dX1_renewOffer_25 (fun H locs hP hD hS => ?_)
      have hC := hC.i11 (v := ((kI c 11) + 1))
      refine lv_iload_n hx hb dX1_renewOffer_28 rfl (lv_at hl 0 rfl) ?_
      refine lv_if_ne (tgt := 40) hx hb dX1_renewOffer_29 (by decide) (fun c29 => ?_) (fun c29 => ?_)
      · skip
        refine lv_aload_n hx hb dX1_renewOffer_40 rfl (lv_at hl 1 rfl) ?_
        refine lv_iload_n hx hb dX1_renewOffer_41 rfl (lv_at hl 2 rfl) ?_
        refine sg_put (ref := RX1) (ty := .int) (v := .int mo) hx hb hts wi_X1_renewOffer_X1 tyX1 tyX1_ok nmX1 hown hK hP hD hS (hC.1) rfl 8 (by decide) (hts (.fieldLink RX1 25 RX1 "offerMonth" "I") (by decide +kernel)) (fun _ h => h) rfl (by decide +kernel) rfl rfl (Nat.le_of_ble_eq_true rfl) dX1_renewOffer_42 (fun H locs hP hD hS => ?_)
        have hC := hC.i8 (v := mo)
        refine lv_aload_n hx hb dX1_renewOffer_45 rfl (lv_at hl 1 rfl) ?_
        refine lv_iload_n hx hb dX1_renewOffer_46 rfl (lv_at hl 3 rfl) ?_
        refine sg_put (ref := RX1) (ty := .int) (v := .int price) hx hb hts wi_X1_renewOffer_X1 tyX1 tyX1_ok nmX1 hown hK hP hD hS (hC.1) rfl 9 (by decide) (hts (.fieldLink RX1 28 RX1 "offerPrice" "I") (by decide +kernel)) (fun _ h => h) rfl (by decide +kernel) rfl rfl (Nat.le_of_ble_eq_true rfl) dX1_renewOffer_47 (fun H locs hP hD hS => ?_)
        have hC := hC.i9 (v := price)
        refine lv_aload_n hx hb dX1_renewOffer_50 rfl (lv_at hl 1 rfl) ?_
        refine lv_iconst (v := 0) hx hb dX1_renewOffer_51 (by decide) ?_
        refine sg_put (ref := RX1) (ty := .int) (v := .int 0) hx hb hts wi_X1_renewOffer_X1 tyX1 tyX1_ok nmX1 hown hK hP hD hS (hC.1) rfl 10 (by decide) (hts (.fieldLink RX1 79 RX1 "offerPurchases" "I") (by decide +kernel)) (fun _ h => h) rfl (by decide +kernel) rfl rfl (Nat.le_of_ble_eq_true rfl) dX1_renewOffer_52 (fun H locs hP hD hS => ?_)
        have hC := hC.i10 (v := 0)
        exact sg_vret hx hb hr hlocks hP hD hS (Nat.le_of_ble_eq_true rfl) (Nat.le_of_ble_eq_true rfl) dX1_renewOffer_55 (hC.to (by grind [kRenew, bI, Int32.not_le, Int32.not_lt, kI_uKI]))
      · skip
        refine lv_aload_n hx hb dX1_renewOffer_32 rfl (lv_at hl 1 rfl) ?_
        refine va_get (ref := RX1) (v := .int (kI (uKI c 11 (((kI c 11) + 1))) 10)) hx hb hts wi_X1_renewOffer_X1 hown hK (sg_one hP (hC.1)) 0 rfl rfl 10 (by decide) (hts (.fieldLink RX1 79 RX1 "offerPurchases" "I") (by decide +kernel)) (fun _ h => h) rfl dX1_renewOffer_33 ?_
        refine lv_iconst (v := 4) hx hb dX1_renewOffer_36 (by decide) ?_
        refine lv_icmp_lt (tgt := 55) hx hb dX1_renewOffer_37 (by decide) (fun c37 => ?_) (fun c37 => ?_)
        · skip
          exact sg_vret hx hb hr hlocks hP hD hS (Nat.le_of_ble_eq_true rfl) (Nat.le_of_ble_eq_true rfl) dX1_renewOffer_55 (hC.to (by grind [kRenew, bI, Int32.not_le, Int32.not_lt, kI_uKI]))
        · skip
          refine lv_aload_n hx hb dX1_renewOffer_40 rfl (lv_at hl 1 rfl) ?_
          refine lv_iload_n hx hb dX1_renewOffer_41 rfl (lv_at hl 2 rfl) ?_
          refine sg_put (ref := RX1) (ty := .int) (v := .int mo) hx hb hts wi_X1_renewOffer_X1 tyX1 tyX1_ok nmX1 hown hK hP hD hS (hC.1) rfl 8 (by decide) (hts (.fieldLink RX1 25 RX1 "offerMonth" "I") (by decide +kernel)) (fun _ h => h) rfl (by decide +kernel) rfl rfl (Nat.le_of_ble_eq_true rfl) dX1_renewOffer_42 (fun H locs hP hD hS => ?_)
          have hC := hC.i8 (v := mo)
          refine lv_aload_n hx hb dX1_renewOffer_45 rfl (lv_at hl 1 rfl) ?_
          refine lv_iload_n hx hb dX1_renewOffer_46 rfl (lv_at hl 3 rfl) ?_
          refine sg_put (ref := RX1) (ty := .int) (v := .int price) hx hb hts wi_X1_renewOffer_X1 tyX1 tyX1_ok nmX1 hown hK hP hD hS (hC.1) rfl 9 (by decide) (hts (.fieldLink RX1 28 RX1 "offerPrice" "I") (by decide +kernel)) (fun _ h => h) rfl (by decide +kernel) rfl rfl (Nat.le_of_ble_eq_true rfl) dX1_renewOffer_47 (fun H locs hP hD hS => ?_)
          have hC := hC.i9 (v := price)
          refine lv_aload_n hx hb dX1_renewOffer_50 rfl (lv_at hl 1 rfl) ?_
          refine lv_iconst (v := 0) hx hb dX1_renewOffer_51 (by decide) ?_
          refine sg_put (ref := RX1) (ty := .int) (v := .int 0) hx hb hts wi_X1_renewOffer_X1 tyX1 tyX1_ok nmX1 hown hK hP hD hS (hC.1) rfl 10 (by decide) (hts (.fieldLink RX1 79 RX1 "offerPurchases" "I") (by decide +kernel)) (fun _ h => h) rfl (by decide +kernel) rfl rfl (Nat.le_of_ble_eq_true rfl) dX1_renewOffer_52 (fun H locs hP hD hS => ?_)
          have hC := hC.i10 (v := 0)
          exact sg_vret hx hb hr hlocks hP hD hS (Nat.le_of_ble_eq_true rfl) (Nat.le_of_ble_eq_true rfl) dX1_renewOffer_55 (hC.to (by grind [kRenew, bI, Int32.not_le, Int32.not_lt, kI_uKI]))
  · skip
    refine lv_iload_n hx hb dX1_renewOffer_0 rfl (lv_at hl 2 rfl) ?_
    refine lv_aload_n hx hb dX1_renewOffer_1 rfl (lv_at hl 0 rfl) ?_
    refine va_get (ref := RX1) (v := .int (kI c 9)) hx hb hts wi_X1_renewOffer_X1 hown hK (sg_one hP (hC.1)) 0 rfl rfl 9 (by decide) (hts (.fieldLink RX1 28 RX1 "offerPrice" "I") (by decide +kernel)) (fun _ h => h) rfl dX1_renewOffer_2 ?_
    refine lv_icmp_ge (tgt := 12) hx hb dX1_renewOffer_5 (by decide) (fun c5 => ?_) (fun c5 => ?_)
    · skip
      refine lv_iconst (v := 0) hx hb dX1_renewOffer_12 (by decide) ?_
      exact k13 _ _ _ _ (⟨by grind [bI, Int32.not_le, Int32.not_lt], hC⟩) hP hD hS
    · skip
      refine lv_iconst (v := 1) hx hb dX1_renewOffer_8 (by decide) ?_
      refine lv_goto (tgt := 13) hx hb dX1_renewOffer_9 (by decide) ?_
      exact k13 _ _ _ _ (⟨by grind [bI, Int32.not_le, Int32.not_lt], hC⟩) hP hD hS

set_option maxHeartbeats 4000000 in
set_option maxRecDepth 100000 in
theorem c_X1_purchasePrice (l : Launch) (D : va_G) (Y : Nat → ClassId) (σ : sg_W) (sz : Nat) (x : Int32) : Met l yX1_purchasePrice wsX1_purchasePrice ({ frames := 0, cells := 0, slots := 0, locals := 0 } : Room) (va_Pc [.int x] (sg_U D Y σ sz)) (va_Qi (fun r σ' => r = (x * 85 + 100 - 1) / 100 ∧ σ = σ') (sg_B D σ sz) (sg_A σ sz)) 0 0 (sg_A σ sz) := by
  refine sg_met (cc := cX1_purchasePrice) (maxL := 1) (ret := (some .int)) (by decide) rfl (Nat.le_of_ble_eq_true rfl) ?_
  intro p e s m below meth cd9 ls hx hb hml hr hown hts hlocks hnm hP hK hD hN hX hA hS hsz hl
  have hl : lv_has ls 1 [(0, .int x)] := hl
  refine lv_iload_n hx hb dX1_purchasePrice_0 rfl (lv_at hl 0 rfl) ?_
  refine lv_bipush (v := 85) hx hb dX1_purchasePrice_1 (by decide) ?_
  refine lv_imul hx hb dX1_purchasePrice_3 ?_
  refine lv_bipush (v := 100) hx hb dX1_purchasePrice_4 (by decide) ?_
  refine lv_iadd hx hb dX1_purchasePrice_6 ?_
  refine lv_iconst (v := 1) hx hb dX1_purchasePrice_7 (by decide) ?_
  refine lv_isub hx hb dX1_purchasePrice_8 ?_
  refine lv_bipush (v := 100) hx hb dX1_purchasePrice_9 (by decide) ?_
  refine lv_idiv hx hb dX1_purchasePrice_11 (by decide) ?_
  exact sg_iret hx hb hr rfl hlocks hP hD hS (Nat.le_of_ble_eq_true rfl) (Nat.le_of_ble_eq_true rfl) dX1_purchasePrice_12 (⟨rfl, rfl⟩)

set_option maxHeartbeats 4000000 in
set_option maxRecDepth 100000 in
theorem c_X1_wholeTimes (l : Launch) (D : va_G) (Y : Nat → ClassId) (σ : sg_W) (sz : Nat) (x y : Int64) : Met l yX1_wholeTimes wsX1_wholeTimes ({ frames := 0, cells := 0, slots := 0, locals := 0 } : Room) (va_Pc [.long x, .long y] (sg_U D Y σ sz)) (va_Ql (fun r σ' => r = kWhole x y ∧ σ = σ') (sg_B D σ sz) (sg_A σ sz)) 0 0 (sg_A σ sz) := by
  refine sg_met (cc := cX1_wholeTimes) (maxL := 4) (ret := (some .long)) (by decide) rfl (Nat.le_of_ble_eq_true rfl) ?_
  intro p e s m below meth cd9 ls hx hb hml hr hown hts hlocks hnm hP hK hD hN hX hA hS hsz hl
  have hl : lv_has ls 4 [(0, .long x), (2, .long y)] := hl
  refine lv_lload_n hx hb dX1_wholeTimes_0 rfl (lv_at hl 0 rfl) ?_
  refine lv_lconst (v := 0) hx hb dX1_wholeTimes_1 (by decide) ?_
  refine W.lcmp hx hb dX1_wholeTimes_2 ?_
  refine lv_if_le (tgt := 12) hx hb dX1_wholeTimes_3 (by decide) (fun c3 => ?_) (fun c3 => ?_)
  · skip
    refine lv_lconst (v := 0) hx hb dX1_wholeTimes_12 (by decide) ?_
    refine lv_goto (tgt := 19) hx hb dX1_wholeTimes_13 (by decide) ?_
    exact sg_lret hx hb hr hlocks hP hD hS (Nat.le_of_ble_eq_true rfl) (Nat.le_of_ble_eq_true rfl) dX1_wholeTimes_19 (⟨by simp only [lg_cmp_le, lg_cmp_gt] at *; grind [kWhole, Int64.not_le, Int64.not_lt], rfl⟩)
  · skip
    refine lv_lload_n hx hb dX1_wholeTimes_6 rfl (lv_at hl 1 rfl) ?_
    refine lv_lconst (v := 0) hx hb dX1_wholeTimes_7 (by decide) ?_
    refine W.lcmp hx hb dX1_wholeTimes_8 ?_
    refine lv_if_gt (tgt := 16) hx hb dX1_wholeTimes_9 (by decide) (fun c9 => ?_) (fun c9 => ?_)
    · skip
      refine lv_lload_n hx hb dX1_wholeTimes_16 rfl (lv_at hl 0 rfl) ?_
      refine lv_lload_n hx hb dX1_wholeTimes_17 rfl (lv_at hl 1 rfl) ?_
      have c9 : ¬ y ≤ 0 := by simp only [lg_cmp_le, lg_cmp_gt] at *; grind [Int64.not_le, Int64.not_lt]
      refine lv_ldiv hx hb dX1_wholeTimes_18 (fun h9 => c9 (by rw [h9]; decide)) ?_
      exact sg_lret hx hb hr hlocks hP hD hS (Nat.le_of_ble_eq_true rfl) (Nat.le_of_ble_eq_true rfl) dX1_wholeTimes_19 (⟨by simp only [lg_cmp_le, lg_cmp_gt] at *; grind [kWhole, Int64.not_le, Int64.not_lt], rfl⟩)
    · skip
      refine lv_lconst (v := 0) hx hb dX1_wholeTimes_12 (by decide) ?_
      refine lv_goto (tgt := 19) hx hb dX1_wholeTimes_13 (by decide) ?_
      exact sg_lret hx hb hr hlocks hP hD hS (Nat.le_of_ble_eq_true rfl) (Nat.le_of_ble_eq_true rfl) dX1_wholeTimes_19 (⟨by simp only [lg_cmp_le, lg_cmp_gt] at *; grind [kWhole, Int64.not_le, Int64.not_lt], rfl⟩)

theorem wi_X1_countedIn_X1 : ∀ w ∈ wsX10, w ∈ wsX1_countedIn := by decide +kernel
set_option maxHeartbeats 4000000 in
set_option maxRecDepth 100000 in
theorem c_X1_countedIn (l : Launch) (D : va_G) (Y : Nat → ClassId) (σ : sg_W) (sz : Nat) (n aO aL aC : Nat) (c : CS) (y : Int32) (hC : KF Y n aO aL aC σ c σ) : Met l yX1_countedIn wsX1_countedIn ({ frames := 0, cells := 0, slots := 0, locals := 0 } : Room) (va_Pc [.ref aO, .int y] (sg_U D Y σ sz)) (va_Ql (fun r σ' => r = kCnt c y ∧ σ = σ') (sg_B D σ sz) (sg_A σ sz)) 0 0 (sg_A σ sz) := by
  refine sg_met (cc := cX1_countedIn) (maxL := 2) (ret := (some .long)) (by decide) rfl (Nat.le_of_ble_eq_true rfl) ?_
  intro p e s m below meth cd9 ls hx hb hml hr hown hts hlocks hnm hP hK hD hN hX hA hS hsz hl
  have hl : lv_has ls 2 [(0, .ref aO), (1, .int y)] := hl
  refine lv_iload_n hx hb dX1_countedIn_0 rfl (lv_at hl 1 rfl) ?_
  refine lv_if_lt (tgt := 13) hx hb dX1_countedIn_1 (by decide) (fun c1 => ?_) (fun c1 => ?_)
  · skip
    refine lv_lconst (v := 0) hx hb dX1_countedIn_13 (by decide) ?_
    refine lv_goto (tgt := 23) hx hb dX1_countedIn_14 (by decide) ?_
    exact sg_lret hx hb hr hlocks hP hD hS (Nat.le_of_ble_eq_true rfl) (Nat.le_of_ble_eq_true rfl) dX1_countedIn_23 (⟨by grind [kCnt, Int32.not_le, Int32.not_lt], rfl⟩)
  · skip
    refine lv_iload_n hx hb dX1_countedIn_4 rfl (lv_at hl 1 rfl) ?_
    refine lv_aload_n hx hb dX1_countedIn_5 rfl (lv_at hl 0 rfl) ?_
    refine va_get (ref := RX1) (v := .ref aC) hx hb hts wi_X1_countedIn_X1 hown hK (sg_one hP (hC.1)) 0 rfl rfl 1 (by decide) (hts (.fieldLink RX1 17 RX1 "countedByYear" "[J") (by decide +kernel)) (fun _ h => h) rfl dX1_countedIn_6 ?_
    refine va_alen (v := 5) hx hb hK (sg_one hP (hC.2.2.1)) 0 1 rfl rfl rfl dX1_countedIn_9 ?_
    refine lv_icmp_lt (tgt := 17) hx hb dX1_countedIn_10 (by decide) (fun c10 => ?_) (fun c10 => ?_)
    · skip
      refine lv_aload_n hx hb dX1_countedIn_17 rfl (lv_at hl 0 rfl) ?_
      refine va_get (ref := RX1) (v := .ref aC) hx hb hts wi_X1_countedIn_X1 hown hK (sg_one hP (hC.1)) 0 rfl rfl 1 (by decide) (hts (.fieldLink RX1 17 RX1 "countedByYear" "[J") (by decide +kernel)) (fun _ h => h) rfl dX1_countedIn_18 ?_
      refine lv_iload_n hx hb dX1_countedIn_21 rfl (lv_at hl 1 rfl) ?_
      refine va_lald hx hb hK (sg_one hP (hC.2.2.1)) 0 1 rfl rfl (vp_5 c1 c10) dX1_countedIn_22 ?_
      exact sg_lret hx hb hr hlocks hP hD hS (Nat.le_of_ble_eq_true rfl) (Nat.le_of_ble_eq_true rfl) dX1_countedIn_23 (⟨by grind [kCnt, Int32.not_le, Int32.not_lt], rfl⟩)
    · skip
      refine lv_lconst (v := 0) hx hb dX1_countedIn_13 (by decide) ?_
      refine lv_goto (tgt := 23) hx hb dX1_countedIn_14 (by decide) ?_
      exact sg_lret hx hb hr hlocks hP hD hS (Nat.le_of_ble_eq_true rfl) (Nat.le_of_ble_eq_true rfl) dX1_countedIn_23 (⟨by grind [kCnt, Int32.not_le, Int32.not_lt], rfl⟩)

theorem wi_X1_addCounted_X1 : ∀ w ∈ wsX10, w ∈ wsX1_addCounted := by decide +kernel
set_option maxHeartbeats 4000000 in
set_option maxRecDepth 100000 in
theorem c_X1_addCounted (l : Launch) (D : va_G) (Y : Nat → ClassId) (σ : sg_W) (sz : Nat) (n aO aL aC : Nat) (c : CS) (y : Int32) (x : Int64) (hC : KF Y n aO aL aC σ c σ) : Met l yX1_addCounted wsX1_addCounted ({ frames := 0, cells := 0, slots := 0, locals := 0 } : Room) (va_Pc [.ref aO, .int y, .long x] (sg_U D Y σ sz)) (va_Qv (fun σ' => KF Y n aO aL aC σ (kAdd c y x) σ') (sg_B D σ sz) (sg_A σ sz)) 0 0 (sg_A σ sz) := by
  refine sg_met (cc := cX1_addCounted) (maxL := 4) (ret := none) (by decide) rfl (Nat.le_of_ble_eq_true rfl) ?_
  intro p e s m below meth cd9 ls hx hb hml hr hown hts hlocks hnm hP hK hD hN hX hA hS hsz hl
  have hl : lv_has ls 4 [(0, .ref aO), (1, .int y), (2, .long x)] := hl
  refine lv_iload_n hx hb dX1_addCounted_0 rfl (lv_at hl 1 rfl) ?_
  refine lv_if_lt (tgt := 23) hx hb dX1_addCounted_1 (by decide) (fun c1 => ?_) (fun c1 => ?_)
  · skip
    exact sg_vret hx hb hr hlocks hP hD hS (Nat.le_of_ble_eq_true rfl) (Nat.le_of_ble_eq_true rfl) dX1_addCounted_23 (hC.to (by grind [kAdd, Int32.not_le, Int32.not_lt]))
  · skip
    refine lv_iload_n hx hb dX1_addCounted_4 rfl (lv_at hl 1 rfl) ?_
    refine lv_aload_n hx hb dX1_addCounted_5 rfl (lv_at hl 0 rfl) ?_
    refine va_get (ref := RX1) (v := .ref aC) hx hb hts wi_X1_addCounted_X1 hown hK (sg_one hP (hC.1)) 0 rfl rfl 1 (by decide) (hts (.fieldLink RX1 17 RX1 "countedByYear" "[J") (by decide +kernel)) (fun _ h => h) rfl dX1_addCounted_6 ?_
    refine va_alen (v := 5) hx hb hK (sg_one hP (hC.2.2.1)) 0 1 rfl rfl rfl dX1_addCounted_9 ?_
    refine lv_icmp_ge (tgt := 23) hx hb dX1_addCounted_10 (by decide) (fun c10 => ?_) (fun c10 => ?_)
    · skip
      exact sg_vret hx hb hr hlocks hP hD hS (Nat.le_of_ble_eq_true rfl) (Nat.le_of_ble_eq_true rfl) dX1_addCounted_23 (hC.to (by grind [kAdd, Int32.not_le, Int32.not_lt]))
    · skip
      refine lv_aload_n hx hb dX1_addCounted_13 rfl (lv_at hl 0 rfl) ?_
      refine va_get (ref := RX1) (v := .ref aC) hx hb hts wi_X1_addCounted_X1 hown hK (sg_one hP (hC.1)) 0 rfl rfl 1 (by decide) (hts (.fieldLink RX1 17 RX1 "countedByYear" "[J") (by decide +kernel)) (fun _ h => h) rfl dX1_addCounted_14 ?_
      refine lv_iload_n hx hb dX1_addCounted_17 rfl (lv_at hl 1 rfl) ?_
      refine lv_dup2_11 hx hb dX1_addCounted_18 rfl rfl ?_
      refine va_lald hx hb hK (sg_one hP (hC.2.2.1)) 0 1 rfl rfl (vp_5 c1 (Int32.not_le.mp c10)) dX1_addCounted_19 ?_
      refine lv_lload_n hx hb dX1_addCounted_20 rfl (lv_at hl 2 rfl) ?_
      refine lv_ladd hx hb dX1_addCounted_21 ?_
      refine sg_last hx hb hK hP hD hS (hC.2.2.1) (vp_5 c1 (Int32.not_le.mp c10)) dX1_addCounted_22 (fun H locs hP hD hS => ?_)
      have hC := hC.cnt (y := (y).toNatClampNeg) (v := ((kC c (y).toNatClampNeg) + x))
      exact sg_vret hx hb hr hlocks hP hD hS (Nat.le_of_ble_eq_true rfl) (Nat.le_of_ble_eq_true rfl) dX1_addCounted_23 (hC.to (by grind [kAdd, Int32.not_le, Int32.not_lt]))
end
section
def kLot (c : CS) (d : Int32) : Option Nat := if irem d 6 = 5 then (if d / 6 < 0 ∨ 10 ≤ d / 6 then none else kR c (tN (d / 6))) else none
theorem vp_10 {y : Int32} (h : ¬ y < 0) (h2 : y < 10) : vp_in y 10 := by
  obtain ⟨j, hj, rfl⟩ := nI_of h
  rw [show (10 : Int32) = nI 10 from rfl, nI_ltI hj (by omega)] at h2
  exact vp_in_nI h2 (by decide)
set_option maxHeartbeats 4000000 in
set_option maxRecDepth 100000 in
theorem c_X2_isPurchaseMonth (l : Launch) (D : va_G) (Y : Nat → ClassId) (σ : sg_W) (sz : Nat) (d : Int32) : Met l yX2_isPurchaseMonth wsX2_isPurchaseMonth ({ frames := 0, cells := 0, slots := 0, locals := 0 } : Room) (va_Pc [.int d] (sg_U D Y σ sz)) (va_Qi (fun r σ' => r = bI (irem d 6 = 5) ∧ σ = σ') (sg_B D σ sz) (sg_A σ sz)) 0 0 (sg_A σ sz) := by
  refine sg_met (cc := cX2_isPurchaseMonth) (maxL := 1) (ret := (some .boolean)) (by decide) rfl (Nat.le_of_ble_eq_true rfl) ?_
  intro p e s m below meth cd9 ls hx hb hml hr hown hts hlocks hnm hP hK hD hN hX hA hS hsz hl
  have hl : lv_has ls 1 [(0, .int d)] := hl
  refine lv_iload_n hx hb dX2_isPurchaseMonth_0 rfl (lv_at hl 0 rfl) ?_
  refine lv_bipush (v := 6) hx hb dX2_isPurchaseMonth_1 (by decide) ?_
  refine lv_irem hx hb dX2_isPurchaseMonth_3 (by decide) ?_
  refine lv_iconst (v := 5) hx hb dX2_isPurchaseMonth_4 (by decide) ?_
  refine lv_icmp_ne (tgt := 12) hx hb dX2_isPurchaseMonth_5 (by decide) (fun c5 => ?_) (fun c5 => ?_)
  · skip
    refine lv_iconst (v := 0) hx hb dX2_isPurchaseMonth_12 (by decide) ?_
    exact sg_iret hx hb hr rfl hlocks hP hD hS (Nat.le_of_ble_eq_true rfl) (Nat.le_of_ble_eq_true rfl) dX2_isPurchaseMonth_13 (⟨by grind [bI], rfl⟩)
  · skip
    refine lv_iconst (v := 1) hx hb dX2_isPurchaseMonth_8 (by decide) ?_
    refine lv_goto (tgt := 13) hx hb dX2_isPurchaseMonth_9 (by decide) ?_
    exact sg_iret hx hb hr rfl hlocks hP hD hS (Nat.le_of_ble_eq_true rfl) (Nat.le_of_ble_eq_true rfl) dX2_isPurchaseMonth_13 (⟨by grind [bI], rfl⟩)

theorem wi_X1_lotOf_X1 : ∀ w ∈ wsX10, w ∈ wsX1_lotOf := by decide +kernel
set_option maxHeartbeats 4000000 in
set_option maxRecDepth 100000 in
theorem c_X1_lotOf (l : Launch) (D : va_G) (Y : Nat → ClassId) (σ : sg_W) (sz : Nat) (n aO aL aC : Nat) (c : CS) (d : Int32) (hC : KF Y n aO aL aC σ c σ) : Met l yX1_lotOf wsX1_lotOf ({ frames := 1, cells := 0, slots := 0, locals := 20 } : Room) (va_Pc [.ref aO, .int d] (sg_U D Y σ sz)) (va_Qq (fun r σ' => r = kLot c d ∧ σ = σ') (sg_B D σ sz) (sg_A σ sz)) 0 0 (sg_A σ sz) := by
  refine sg_met (cc := cX1_lotOf) (maxL := 3) (ret := (some (.object "LookbackPlan$Lot"))) (by decide) rfl (Nat.le_of_ble_eq_true rfl) ?_
  intro p e s m below meth cd9 ls hx hb hml hr hown hts hlocks hnm hP hK hD hN hX hA hS hsz hl
  have hl : lv_has ls 3 [(0, .ref aO), (1, .int d)] := hl
  refine lv_iload_n hx hb dX1_lotOf_0 rfl (lv_at hl 1 rfl) ?_
  refine sg_calli hD hS hA (va_runSN (As := [.int d]) (rest := []) ⟨hx, hb, hml, hown, hts⟩ (c_X2_isPurchaseMonth l D Y _ _ d) ⟨(va_cnB 1 hts gX1_lotOf_X2_isPurchaseMonth_n89 rfl rfl rfl (hN.2.1 (.methodLinkNest RX1 89 yX2_isPurchaseMonth RX2) (List.mem_of_getElem? (i := 13) rfl)) (hts (.initialized RX2) (by decide +kernel)) (by decide +kernel) ⟨Nat.le_of_ble_eq_true rfl, Nat.le_of_ble_eq_true rfl⟩), (hts (.static yX2_isPurchaseMonth) (by decide +kernel)), trivial⟩ (sg_preS hK hP hD hN hX hS hA) rfl rfl hl.1 rfl (lv_room (Nat.le_of_ble_eq_true rfl)) dX1_lotOf_1 ⟨Nat.le_of_ble_eq_true rfl, Nat.le_of_ble_eq_true rfl⟩) (fun r1 σ' H locs hw hP hD hS => ?_)
  obtain ⟨rfl, rfl⟩ := hw
  refine lv_if_ne (tgt := 9) hx hb dX1_lotOf_4 (by decide) (fun c4 => ?_) (fun c4 => ?_)
  · skip
    refine lv_iload_n hx hb dX1_lotOf_9 rfl (lv_at hl 1 rfl) ?_
    refine lv_bipush (v := 6) hx hb dX1_lotOf_10 (by decide) ?_
    refine lv_idiv hx hb dX1_lotOf_12 (by decide) ?_
    refine lv_topi (fun v13 ev13 => ?_)
    obtain rfl : v13 = d / 6 := by exact ev13
    refine lv_istore_n (lv' := [(2, .int (d / 6)), (0, .ref aO), (1, .int d)]) hx hb dX1_lotOf_13 rfl hl (by decide) rfl (fun ls hl => ?_)
    refine lv_iload_n hx hb dX1_lotOf_14 rfl (lv_at hl 0 rfl) ?_
    refine lv_if_lt (tgt := 27) hx hb dX1_lotOf_15 (by decide) (fun c15 => ?_) (fun c15 => ?_)
    · skip
      refine lv_null hx hb dX1_lotOf_27 ?_
      refine lv_goto (tgt := 37) hx hb dX1_lotOf_28 (by decide) ?_
      exact sg_qret (v := none) hx hb hr hlocks hP hD hS (Nat.le_of_ble_eq_true rfl) (Nat.le_of_ble_eq_true rfl) dX1_lotOf_37 (⟨by grind [kLot, bI, Int32.not_le, Int32.not_lt], rfl⟩)
    · skip
      refine lv_iload_n hx hb dX1_lotOf_18 rfl (lv_at hl 0 rfl) ?_
      refine lv_aload_n hx hb dX1_lotOf_19 rfl (lv_at hl 1 rfl) ?_
      refine va_get (ref := RX1) (v := .ref aL) hx hb hts wi_X1_lotOf_X1 hown hK (sg_one hP (hC.1)) 0 rfl rfl 0 (by decide) (hts (.fieldLink RX1 11 RX1 "lots" "[LLookbackPlan$Lot;") (by decide +kernel)) (fun _ h => h) rfl dX1_lotOf_20 ?_
      refine va_alen (v := 10) hx hb hK (sg_one hP (hC.2.1)) 0 3 rfl rfl rfl dX1_lotOf_23 ?_
      refine lv_icmp_lt (tgt := 31) hx hb dX1_lotOf_24 (by decide) (fun c24 => ?_) (fun c24 => ?_)
      · skip
        refine lv_aload_n hx hb dX1_lotOf_31 rfl (lv_at hl 1 rfl) ?_
        refine va_get (ref := RX1) (v := .ref aL) hx hb hts wi_X1_lotOf_X1 hown hK (sg_one hP (hC.1)) 0 rfl rfl 0 (by decide) (hts (.fieldLink RX1 11 RX1 "lots" "[LLookbackPlan$Lot;") (by decide +kernel)) (fun _ h => h) rfl dX1_lotOf_32 ?_
        refine lv_iload_n hx hb dX1_lotOf_35 rfl (lv_at hl 0 rfl) ?_
        refine va_aldq hx hb hK (sg_one hP (hC.2.1)) 0 3 rfl rfl (vp_10 c15 c24) dX1_lotOf_36 ?_
        exact sg_qret (v := (kR c ((d / 6)).toNatClampNeg)) hx hb hr hlocks hP hD hS (Nat.le_of_ble_eq_true rfl) (Nat.le_of_ble_eq_true rfl) dX1_lotOf_37 (⟨by grind [kLot, bI, Int32.not_le, Int32.not_lt], rfl⟩)
      · skip
        refine lv_null hx hb dX1_lotOf_27 ?_
        refine lv_goto (tgt := 37) hx hb dX1_lotOf_28 (by decide) ?_
        exact sg_qret (v := none) hx hb hr hlocks hP hD hS (Nat.le_of_ble_eq_true rfl) (Nat.le_of_ble_eq_true rfl) dX1_lotOf_37 (⟨by grind [kLot, bI, Int32.not_le, Int32.not_lt], rfl⟩)
  · skip
    refine lv_null hx hb dX1_lotOf_7 ?_
    exact sg_qret (v := none) hx hb hr hlocks hP hD hS (Nat.le_of_ble_eq_true rfl) (Nat.le_of_ble_eq_true rfl) dX1_lotOf_8 (⟨by grind [kLot, bI, Int32.not_le, Int32.not_lt], rfl⟩)

theorem wi_X1_putLot_X0 : ∀ w ∈ wsX00, w ∈ wsX1_putLot := by decide +kernel
theorem wi_X1_putLot_X1 : ∀ w ∈ wsX10, w ∈ wsX1_putLot := by decide +kernel
set_option maxHeartbeats 4000000 in
set_option maxRecDepth 100000 in
theorem c_X1_putLot (l : Launch) (D : va_G) (Y : Nat → ClassId) (σ : sg_W) (sz : Nat) (n aO aL aC : Nat) (c : CS) (k q : Nat) (v : Nat → Int32) (hC : KF Y n aO aL aC σ c σ) (hv : σ (n + 3 + k) = some (q, .inr (0, lotF v))) (hk : k < 10) (hkv : v 0 / 6 = nI k) : Met l yX1_putLot wsX1_putLot ({ frames := 0, cells := 0, slots := 0, locals := 0 } : Room) (va_Pc [.ref aO, .ref q] (sg_U D Y σ sz)) (va_Qv (fun σ' => KF Y n aO aL aC σ (uKT c k q v) σ') (sg_B D σ sz) (sg_A σ sz)) 0 0 (sg_A σ sz) := by
  refine sg_met (cc := cX1_putLot) (maxL := 3) (ret := none) (by decide) rfl (Nat.le_of_ble_eq_true rfl) ?_
  intro p e s m below meth cd9 ls hx hb hml hr hown hts hlocks hnm hP hK hD hN hX hA hS hsz hl
  have hl : lv_has ls 3 [(0, .ref aO), (1, .ref q)] := hl
  have hck : (nI k).toNatClampNeg = k := nI_clamp (by omega)
  refine lv_aload_n hx hb dX1_putLot_0 rfl (lv_at hl 1 rfl) ?_
  refine va_getN (ref := RX0) (host := RX2) (v := .int (v 0)) hx hb hts wi_X1_putLot_X0 hown hK (sg_one hP (hv)) 0 rfl rfl 0 (by decide) (va_Nw.use rfl (hN.1 (.fieldLinkNest RX1 93 RX0 "month" "I" RX2) (List.mem_of_getElem? (i := 0) rfl))) (fun _ h => h) rfl dX1_putLot_1 ?_
  refine lv_bipush (v := 6) hx hb dX1_putLot_4 (by decide) ?_
  refine lv_idiv hx hb dX1_putLot_6 (by decide) ?_
  refine lv_topi (fun v7 ev7 => ?_)
  obtain rfl : v7 = nI k := by rw [ev7, hkv]
  refine lv_istore_n (lv' := [(2, .int (nI k)), (0, .ref aO), (1, .ref q)]) hx hb dX1_putLot_7 rfl hl (by decide) rfl (fun ls hl => ?_)
  refine lv_iload_n hx hb dX1_putLot_8 rfl (lv_at hl 0 rfl) ?_
  refine lv_if_lt (tgt := 28) hx hb dX1_putLot_9 (by decide) (fun c9 => ?_) (fun c9 => ?_)
  · exact absurd c9 (nI_pos (by omega))
  · skip
    refine lv_iload_n hx hb dX1_putLot_12 rfl (lv_at hl 0 rfl) ?_
    refine lv_aload_n hx hb dX1_putLot_13 rfl (lv_at hl 1 rfl) ?_
    refine va_get (ref := RX1) (v := .ref aL) hx hb hts wi_X1_putLot_X1 hown hK (sg_one hP (hC.1)) 0 rfl rfl 0 (by decide) (hts (.fieldLink RX1 11 RX1 "lots" "[LLookbackPlan$Lot;") (by decide +kernel)) (fun _ h => h) rfl dX1_putLot_14 ?_
    refine va_alen (v := 10) hx hb hK (sg_one hP (hC.2.1)) 0 3 rfl rfl rfl dX1_putLot_17 ?_
    refine lv_icmp_ge (tgt := 28) hx hb dX1_putLot_18 (by decide) (fun c18 => ?_) (fun c18 => ?_)
    · exact absurd c18 (nI_ge (a := k) (b := 10) hk (by omega))
    · skip
      refine lv_aload_n hx hb dX1_putLot_21 rfl (lv_at hl 1 rfl) ?_
      refine va_get (ref := RX1) (v := .ref aL) hx hb hts wi_X1_putLot_X1 hown hK (sg_one hP (hC.1)) 0 rfl rfl 0 (by decide) (hts (.fieldLink RX1 11 RX1 "lots" "[LLookbackPlan$Lot;") (by decide +kernel)) (fun _ h => h) rfl dX1_putLot_22 ?_
      refine lv_iload_n hx hb dX1_putLot_25 rfl (lv_at hl 0 rfl) ?_
      refine lv_aload_n hx hb dX1_putLot_26 rfl (lv_at hl 2 rfl) ?_
      refine sg_aast hx hb hK hP hD hS 3 0 (r := vwCl[0]) (hC.2.1) rfl (hv) rfl (vp_in_nI hk (by decide)) dX1_putLot_27 (fun H locs hP hD hS => ?_)
      have hC := hC.put (k := (nI k).toNatClampNeg) (by rw [hck]; exact hv)
      exact sg_vret hx hb hr hlocks hP hD hS (Nat.le_of_ble_eq_true rfl) (Nat.le_of_ble_eq_true rfl) dX1_putLot_28 (hC.to (by rw [hck]))

theorem wi_X1_sharesHeld_X0 : ∀ w ∈ wsX00, w ∈ wsX1_sharesHeld := by decide +kernel
theorem wi_X1_sharesHeld_X1 : ∀ w ∈ wsX10, w ∈ wsX1_sharesHeld := by decide +kernel
set_option maxHeartbeats 4000000 in
set_option maxRecDepth 100000 in
theorem c_X1_sharesHeld (l : Launch) (D : va_G) (Y : Nat → ClassId) (σ : sg_W) (sz : Nat) (n aO aL aC : Nat) (c : CS) (hC : KF Y n aO aL aC σ c σ) : Met l yX1_sharesHeld wsX1_sharesHeld ({ frames := 0, cells := 0, slots := 0, locals := 0 } : Room) (va_Pc [.ref aO] (sg_U D Y σ sz)) (va_Qi (fun r σ' => r = kSum c 10 ∧ σ = σ') (sg_B D σ sz) (sg_A σ sz)) 0 0 (sg_A σ sz) := by
  refine sg_met (cc := cX1_sharesHeld) (maxL := 4) (ret := (some .int)) (by decide) rfl (Nat.le_of_ble_eq_true rfl) ?_
  intro p e s m below meth cd9 ls hx hb hml hr hown hts hlocks hnm hP hK hD hN hX hA hS hsz hl
  have hl : lv_has ls 4 [(0, .ref aO)] := hl
  refine lv_iconst (v := 0) hx hb dX1_sharesHeld_0 (by decide) ?_
  refine lv_istore_n (lv' := [(1, .int 0), (0, .ref aO)]) hx hb dX1_sharesHeld_1 rfl hl (by decide) rfl (fun ls hl => ?_)
  refine lv_iconst (v := 0) hx hb dX1_sharesHeld_2 (by decide) ?_
  refine lv_istore_n (lv' := [(2, .int 0), (1, .int 0), (0, .ref aO)]) hx hb dX1_sharesHeld_3 rfl hl (by decide) rfl (fun ls hl => ?_)
  refine sg_loop (D := D) (H0 := s.heap) (T := Nat) 4 4 (fun n1 t σ' c' s' => n1 + t = 10 ∧ σ = σ' ∧ c' = 0 ∧ s' = 0) (fun t => [(2, .int (nI t)), (1, .int (kSum c t)), (0, .ref aO)]) ?_ (10) (0) _ _ _ _ _ _ ?_ hP hD hS (lv_sub hl [0, 1, 2] rfl)
  · intro n1 t σ' cells slots H locs ls ih hI hP hD hS hl
    obtain ⟨q, rfl⟩ : ∃ q, q = t := ⟨_, rfl⟩
    obtain ⟨hn, rfl, rfl, rfl⟩ := hI
    have hl : lv_has ls 4 [(2, .int (nI q)), (1, .int (kSum c q)), (0, .ref aO)] := hl
    refine lv_iload_n hx hb dX1_sharesHeld_4 rfl (lv_at hl 0 rfl) ?_
    refine lv_aload_n hx hb dX1_sharesHeld_5 rfl (lv_at hl 2 rfl) ?_
    refine va_get (ref := RX1) (v := .ref aL) hx hb hts wi_X1_sharesHeld_X1 hown hK (sg_one hP (hC.1)) 0 rfl rfl 0 (by decide) (hts (.fieldLink RX1 11 RX1 "lots" "[LLookbackPlan$Lot;") (by decide +kernel)) (fun _ h => h) rfl dX1_sharesHeld_6 ?_
    refine va_alen (v := 10) hx hb hK (sg_one hP (hC.2.1)) 0 3 rfl rfl rfl dX1_sharesHeld_9 ?_
    refine lv_icmp_ge (tgt := 37) hx hb dX1_sharesHeld_10 (by decide) (fun c10 => ?_) (fun c10 => ?_)
    · skip
      rw [show (10 : Int32) = nI 10 from rfl, nI_leI (by omega) (by omega)] at c10
      obtain rfl : q = 10 := by omega
      refine lv_iload_n hx hb dX1_sharesHeld_37 rfl (lv_at hl 1 rfl) ?_
      exact sg_iret hx hb hr rfl hlocks hP hD hS (Nat.le_of_ble_eq_true rfl) (Nat.le_of_ble_eq_true rfl) dX1_sharesHeld_38 (⟨rfl, rfl⟩)
    · skip
      have hq10 : q < 10 := by rw [show (10 : Int32) = nI 10 from rfl, nI_leI (by omega) (by omega)] at c10; omega
      have hcq : (nI q).toNatClampNeg = q := nI_clamp (by omega)
      refine lv_aload_n hx hb dX1_sharesHeld_13 rfl (lv_at hl 2 rfl) ?_
      refine va_get (ref := RX1) (v := .ref aL) hx hb hts wi_X1_sharesHeld_X1 hown hK (sg_one hP (hC.1)) 0 rfl rfl 0 (by decide) (hts (.fieldLink RX1 11 RX1 "lots" "[LLookbackPlan$Lot;") (by decide +kernel)) (fun _ h => h) rfl dX1_sharesHeld_14 ?_
      refine lv_iload_n hx hb dX1_sharesHeld_17 rfl (lv_at hl 0 rfl) ?_
      refine va_aldq hx hb hK (sg_one hP (hC.2.1)) 0 3 rfl rfl (vp_in_nI hq10 (by decide)) dX1_sharesHeld_18 ?_
      rw [hcq]
      rcases hla : kR c q with _ | la
      · skip
        refine lv_astore_nN (lv' := [(3, .null), (2, .int (nI q)), (1, .int (kSum c q)), (0, .ref aO)]) hx hb dX1_sharesHeld_19 rfl hl (by decide) rfl (fun ls hl => ?_)
        refine lv_aload_nN hx hb dX1_sharesHeld_20 rfl (lv_at hl 0 rfl) ?_
        refine lv_ifnullN (tgt := 31) hx hb dX1_sharesHeld_21 (by decide) ?_
        have hs9 : kSum c q = kSum c (q + 1) := by rw [kSum, hla, if_pos rfl]
        rw [hs9] at hl
        obtain ⟨v31, ev31⟩ : ∃ zz9 : Int32, zz9 = (nI q) + 1 := ⟨_, rfl⟩
        obtain rfl : v31 = nI (q + 1) := by rw [ev31]; exact nI_1 _
        refine lv_iinc (v := (nI (q + 1))) (lv' := [(2, .int (nI (q + 1))), (3, .null), (1, .int (kSum c (q + 1))), (0, .ref aO)]) hx hb dX1_sharesHeld_31 hl (k := 1) rfl (nI_1 _) (by decide) rfl (fun ls hl => ?_)
        refine lv_goto (tgt := 4) hx hb dX1_sharesHeld_34 (by decide) ?_
        exact ih (n1 - 1) (q + 1) _ _ _ _ _ _ (by omega) ⟨by omega, rfl, rfl, rfl⟩ hP hD hS (lv_sub hl [0, 2, 3] rfl)
      · skip
        refine lv_astore_n (lv' := [(3, .ref la), (2, .int (nI q)), (1, .int (kSum c q)), (0, .ref aO)]) hx hb dX1_sharesHeld_19 rfl hl (by decide) rfl (fun ls hl => ?_)
        refine lv_aload_n hx hb dX1_sharesHeld_20 rfl (lv_at hl 0 rfl) ?_
        refine lv_ifnull hx hb dX1_sharesHeld_21 ?_
        refine lv_iload_n hx hb dX1_sharesHeld_24 rfl (lv_at hl 2 rfl) ?_
        refine lv_aload_n hx hb dX1_sharesHeld_25 rfl (lv_at hl 0 rfl) ?_
        refine va_getN (ref := RX0) (host := RX2) (v := .int (kV c q 6)) hx hb hts wi_X1_sharesHeld_X0 hown hK (sg_one hP (hC.lot hq10 hla)) 0 rfl rfl 6 (by decide) (va_Nw.use rfl (hN.1 (.fieldLinkNest RX1 96 RX0 "left" "I" RX2) (List.mem_of_getElem? (i := 3) rfl))) (fun _ h => h) rfl dX1_sharesHeld_26 ?_
        refine lv_iadd hx hb dX1_sharesHeld_29 ?_
        refine lv_topi (fun v30 ev30 => ?_)
        obtain rfl : v30 = kSum c (q + 1) := by rw [ev30, kSum, hla, if_neg (by simp)]
        refine lv_istore_n (lv' := [(1, .int (kSum c (q + 1))), (3, .ref la), (2, .int (nI q)), (0, .ref aO)]) hx hb dX1_sharesHeld_30 rfl hl (by decide) rfl (fun ls hl => ?_)
        obtain ⟨v31, ev31⟩ : ∃ zz9 : Int32, zz9 = (nI q) + 1 := ⟨_, rfl⟩
        obtain rfl : v31 = nI (q + 1) := by rw [ev31]; exact nI_1 _
        refine lv_iinc (v := (nI (q + 1))) (lv' := [(2, .int (nI (q + 1))), (1, .int (kSum c (q + 1))), (3, .ref la), (0, .ref aO)]) hx hb dX1_sharesHeld_31 hl (k := 2) rfl (nI_1 _) (by decide) rfl (fun ls hl => ?_)
        refine lv_goto (tgt := 4) hx hb dX1_sharesHeld_34 (by decide) ?_
        exact ih (n1 - 1) (q + 1) _ _ _ _ _ _ (by omega) ⟨by omega, rfl, rfl, rfl⟩ hP hD hS (lv_sub hl [0, 1, 3] rfl)
  · exact ⟨rfl, rfl, rfl, rfl⟩

theorem wi_X1_gainIfAllSold_X0 : ∀ w ∈ wsX00, w ∈ wsX1_gainIfAllSold := by decide +kernel
theorem wi_X1_gainIfAllSold_X1 : ∀ w ∈ wsX10, w ∈ wsX1_gainIfAllSold := by decide +kernel
set_option maxHeartbeats 4000000 in
set_option maxRecDepth 100000 in
theorem c_X1_gainIfAllSold (l : Launch) (D : va_G) (Y : Nat → ClassId) (σ : sg_W) (sz : Nat) (n aO aL aC : Nat) (c : CS) (now price : Int32) (hC : KF Y n aO aL aC σ c σ) : Met l yX1_gainIfAllSold wsX1_gainIfAllSold ({ frames := 3, cells := 0, slots := 0, locals := 66 } : Room) (va_Pc [.ref aO, .int now, .int price] (sg_U D Y σ sz)) (va_Ql (fun r σ' => r = kGN c now price 10 ∧ σ = σ') (sg_B D σ sz) (sg_A σ sz)) 0 0 (sg_A σ sz) := by
  refine sg_met (cc := cX1_gainIfAllSold) (maxL := 7) (ret := (some .long)) (by decide) rfl (Nat.le_of_ble_eq_true rfl) ?_
  intro p e s m below meth cd9 ls hx hb hml hr hown hts hlocks hnm hP hK hD hN hX hA hS hsz hl
  have hl : lv_has ls 7 [(0, .ref aO), (1, .int now), (2, .int price)] := hl
  refine lv_lconst (v := 0) hx hb dX1_gainIfAllSold_0 (by decide) ?_
  refine lv_lstore_n (lv' := [(3, .long 0), (0, .ref aO), (1, .int now), (2, .int price)]) hx hb dX1_gainIfAllSold_1 rfl hl (by decide) rfl (fun ls hl => ?_)
  refine lv_iconst (v := 0) hx hb dX1_gainIfAllSold_2 (by decide) ?_
  refine lv_istore (lv' := [(5, .int 0), (3, .long 0), (0, .ref aO), (1, .int now), (2, .int price)]) hx hb dX1_gainIfAllSold_3 hl (by decide) rfl (fun ls hl => ?_)
  refine sg_loop (D := D) (H0 := s.heap) (T := Nat) 5 7 (fun n1 t σ' c' s' => n1 + t = 10 ∧ σ = σ' ∧ c' = 0 ∧ s' = 0) (fun t => [(5, .int (nI t)), (3, .long (kGN c now price t)), (0, .ref aO), (1, .int now), (2, .int price)]) ?_ (10) (0) _ _ _ _ _ _ ?_ hP hD hS (lv_sub hl [0, 1, 2, 3, 4] rfl)
  · intro n1 t σ' cells slots H locs ls ih hI hP hD hS hl
    obtain ⟨q, rfl⟩ : ∃ q, q = t := ⟨_, rfl⟩
    obtain ⟨hn, rfl, rfl, rfl⟩ := hI
    have hl : lv_has ls 7 [(5, .int (nI q)), (3, .long (kGN c now price q)), (0, .ref aO), (1, .int now), (2, .int price)] := hl
    refine lv_iload hx hb dX1_gainIfAllSold_5 (lv_at hl 0 rfl) ?_
    refine lv_aload_n hx hb dX1_gainIfAllSold_7 rfl (lv_at hl 2 rfl) ?_
    refine va_get (ref := RX1) (v := .ref aL) hx hb hts wi_X1_gainIfAllSold_X1 hown hK (sg_one hP (hC.1)) 0 rfl rfl 0 (by decide) (hts (.fieldLink RX1 11 RX1 "lots" "[LLookbackPlan$Lot;") (by decide +kernel)) (fun _ h => h) rfl dX1_gainIfAllSold_8 ?_
    refine va_alen (v := 10) hx hb hK (sg_one hP (hC.2.1)) 0 3 rfl rfl rfl dX1_gainIfAllSold_11 ?_
    refine lv_icmp_ge (tgt := 52) hx hb dX1_gainIfAllSold_12 (by decide) (fun c12 => ?_) (fun c12 => ?_)
    · skip
      rw [show (10 : Int32) = nI 10 from rfl, nI_leI (by omega) (by omega)] at c12
      obtain rfl : q = 10 := by omega
      refine lv_lload_n hx hb dX1_gainIfAllSold_52 rfl (lv_at hl 1 rfl) ?_
      exact sg_lret hx hb hr hlocks hP hD hS (Nat.le_of_ble_eq_true rfl) (Nat.le_of_ble_eq_true rfl) dX1_gainIfAllSold_53 (⟨rfl, rfl⟩)
    · skip
      have hq10 : q < 10 := by rw [show (10 : Int32) = nI 10 from rfl, nI_leI (by omega) (by omega)] at c12; omega
      have hcq : (nI q).toNatClampNeg = q := nI_clamp (by omega)
      refine lv_aload_n hx hb dX1_gainIfAllSold_15 rfl (lv_at hl 2 rfl) ?_
      refine va_get (ref := RX1) (v := .ref aL) hx hb hts wi_X1_gainIfAllSold_X1 hown hK (sg_one hP (hC.1)) 0 rfl rfl 0 (by decide) (hts (.fieldLink RX1 11 RX1 "lots" "[LLookbackPlan$Lot;") (by decide +kernel)) (fun _ h => h) rfl dX1_gainIfAllSold_16 ?_
      refine lv_iload hx hb dX1_gainIfAllSold_19 (lv_at hl 0 rfl) ?_
      refine va_aldq hx hb hK (sg_one hP (hC.2.1)) 0 3 rfl rfl (vp_in_nI hq10 (by decide)) dX1_gainIfAllSold_21 ?_
      rw [hcq]
      rcases hla : kR c q with _ | la
      · skip
        refine lv_astoreN (lv' := [(6, .null), (5, .int (nI q)), (3, .long (kGN c now price q)), (0, .ref aO), (1, .int now), (2, .int price)]) hx hb dX1_gainIfAllSold_22 hl (by decide) rfl (fun ls hl => ?_)
        refine lv_aloadN hx hb dX1_gainIfAllSold_24 (lv_at hl 0 rfl) ?_
        refine lv_ifnullN (tgt := 46) hx hb dX1_gainIfAllSold_26 (by decide) ?_
        have hs9 : kGN c now price q = kGN c now price (q + 1) := by rw [kGN, hla, if_pos rfl]
        rw [hs9] at hl
        obtain ⟨v46, ev46⟩ : ∃ zz9 : Int32, zz9 = (nI q) + 1 := ⟨_, rfl⟩
        obtain rfl : v46 = nI (q + 1) := by rw [ev46]; exact nI_1 _
        refine lv_iinc (v := (nI (q + 1))) (lv' := [(5, .int (nI (q + 1))), (6, .null), (3, .long (kGN c now price (q + 1))), (0, .ref aO), (1, .int now), (2, .int price)]) hx hb dX1_gainIfAllSold_46 hl (k := 1) rfl (nI_1 _) (by decide) rfl (fun ls hl => ?_)
        refine lv_goto (tgt := 5) hx hb dX1_gainIfAllSold_49 (by decide) ?_
        exact ih (n1 - 1) (q + 1) _ _ _ _ _ _ (by omega) ⟨by omega, rfl, rfl, rfl⟩ hP hD hS (lv_sub hl [0, 2, 3, 4, 5] rfl)
      · skip
        refine lv_astore (lv' := [(6, .ref la), (5, .int (nI q)), (3, .long (kGN c now price q)), (0, .ref aO), (1, .int now), (2, .int price)]) hx hb dX1_gainIfAllSold_22 hl (by decide) rfl (fun ls hl => ?_)
        refine lv_aload hx hb dX1_gainIfAllSold_24 (lv_at hl 0 rfl) ?_
        refine lv_ifnull hx hb dX1_gainIfAllSold_26 ?_
        refine lv_lload_n hx hb dX1_gainIfAllSold_29 rfl (lv_at hl 2 rfl) ?_
        refine lv_aload hx hb dX1_gainIfAllSold_30 (lv_at hl 0 rfl) ?_
        refine va_getN (ref := RX0) (host := RX2) (v := .int (kV c q 6)) hx hb hts wi_X1_gainIfAllSold_X0 hown hK (sg_one hP (hC.lot hq10 hla)) 0 rfl rfl 6 (by decide) (va_Nw.use rfl (hN.1 (.fieldLinkNest RX1 96 RX0 "left" "I" RX2) (List.mem_of_getElem? (i := 3) rfl))) (fun _ h => h) rfl dX1_gainIfAllSold_32 ?_
        refine lv_i2l hx hb dX1_gainIfAllSold_35 rfl ?_
        refine lv_aload hx hb dX1_gainIfAllSold_36 (lv_at hl 0 rfl) ?_
        refine lv_iload_n hx hb dX1_gainIfAllSold_38 rfl (lv_at hl 4 rfl) ?_
        refine lv_iload_n hx hb dX1_gainIfAllSold_39 rfl (lv_at hl 5 rfl) ?_
        refine sg_calll hD hS hA (va_runVN (As := [.int now, .int price]) (rest := [.long ((kV c q 6)).toInt64, .long (kGN c now price q)]) ⟨hx, hb, hml, hown, hts⟩ (c_X0_gainEach l D Y _ _ (n + 3 + q) la (kV c q) now price (hC.lot hq10 hla)) ⟨(va_cnB 2 hts gX1_gainIfAllSold_X0_gainEach_n109 rfl rfl rfl (hN.2.1 (.methodLinkNest RX1 109 yX0_gainEach RX2) (List.mem_of_getElem? (i := 10) rfl)) (hts (.initialized RX0) (by decide +kernel)) (by decide +kernel) ⟨Nat.le_of_ble_eq_true rfl, Nat.le_of_ble_eq_true rfl⟩), (hts (.instanceMethod yX0_gainEach) (by decide +kernel)), (hts (.selects RX0 yX0_gainEach yX0_gainEach) (by decide +kernel))⟩ (sg_preV (q := (RX0, TX0, 7)) (hC.lot hq10 hla) rfl hK hP hD hN hX hS hA) rfl rfl hl.1 rfl (lv_room (Nat.le_of_ble_eq_true rfl)) dX1_gainIfAllSold_40 ⟨Nat.le_of_ble_eq_true rfl, Nat.le_of_ble_eq_true rfl⟩) (fun r40 σ' H locs hw hP hD hS => ?_)
        obtain ⟨rfl, rfl⟩ := hw
        refine lv_lmul hx hb dX1_gainIfAllSold_43 ?_
        refine lv_ladd hx hb dX1_gainIfAllSold_44 ?_
        refine lv_topl (fun v45 ev45 => ?_)
        obtain rfl : v45 = kGN c now price (q + 1) := by rw [ev45, kGN, hla, if_neg (by simp)]
        refine lv_lstore_n (lv' := [(3, .long (kGN c now price (q + 1))), (6, .ref la), (5, .int (nI q)), (0, .ref aO), (1, .int now), (2, .int price)]) hx hb dX1_gainIfAllSold_45 rfl hl (by decide) rfl (fun ls hl => ?_)
        obtain ⟨v46, ev46⟩ : ∃ zz9 : Int32, zz9 = (nI q) + 1 := ⟨_, rfl⟩
        obtain rfl : v46 = nI (q + 1) := by rw [ev46]; exact nI_1 _
        refine lv_iinc (v := (nI (q + 1))) (lv' := [(5, .int (nI (q + 1))), (3, .long (kGN c now price (q + 1))), (6, .ref la), (0, .ref aO), (1, .int now), (2, .int price)]) hx hb dX1_gainIfAllSold_46 hl (k := 2) rfl (nI_1 _) (by decide) rfl (fun ls hl => ?_)
        refine lv_goto (tgt := 5) hx hb dX1_gainIfAllSold_49 (by decide) ?_
        exact ih (n1 - 1) (q + 1) _ _ _ _ _ _ (by omega) ⟨by omega, rfl, rfl, rfl⟩ hP hD hS (lv_sub hl [0, 1, 3, 4, 5] rfl)
  · exact ⟨rfl, rfl, rfl, rfl⟩

theorem wi_X1_sellOldest_X0 : ∀ w ∈ wsX00, w ∈ wsX1_sellOldest := by decide +kernel
theorem wi_X1_sellOldest_X1 : ∀ w ∈ wsX10, w ∈ wsX1_sellOldest := by decide +kernel
set_option maxHeartbeats 4000000 in
set_option maxRecDepth 100000 in
theorem c_X1_sellOldest (l : Launch) (D : va_G) (Y : Nat → ClassId) (σ : sg_W) (sz : Nat) (n aO aL aC : Nat) (c : CS) (cnt now price : Int32) (hC : KF Y n aO aL aC σ c σ) : Met l yX1_sellOldest wsX1_sellOldest ({ frames := 3, cells := 0, slots := 0, locals := 66 } : Room) (va_Pc [.ref aO, .int cnt, .int now, .int price] (sg_U D Y σ sz)) (va_Qi (fun r σ' => r = (kSellN now price 10 (c, cnt, 0)).2.2 ∧ KF Y n aO aL aC σ (kSellN now price 10 (c, cnt, 0)).1 σ') (sg_B D σ sz) (sg_A σ sz)) 0 0 (sg_A σ sz) := by
  refine sg_met (cc := cX1_sellOldest) (maxL := 9) (ret := (some .int)) (by decide) rfl (Nat.le_of_ble_eq_true rfl) ?_
  intro p e s m below meth cd9 ls hx hb hml hr hown hts hlocks hnm hP hK hD hN hX hA hS hsz hl
  have hl : lv_has ls 9 [(0, .ref aO), (1, .int cnt), (2, .int now), (3, .int price)] := hl
  refine lv_iconst (v := 0) hx hb dX1_sellOldest_0 (by decide) ?_
  refine lv_istore (lv' := [(4, .int 0), (0, .ref aO), (1, .int cnt), (2, .int now), (3, .int price)]) hx hb dX1_sellOldest_1 hl (by decide) rfl (fun ls hl => ?_)
  refine lv_iload_n hx hb dX1_sellOldest_3 rfl (lv_at hl 2 rfl) ?_
  refine lv_istore (lv' := [(5, .int cnt), (4, .int 0), (0, .ref aO), (1, .int cnt), (2, .int now), (3, .int price)]) hx hb dX1_sellOldest_4 hl (by decide) rfl (fun ls hl => ?_)
  refine lv_iconst (v := 0) hx hb dX1_sellOldest_6 (by decide) ?_
  refine lv_istore (lv' := [(6, .int 0), (5, .int cnt), (4, .int 0), (0, .ref aO), (1, .int cnt), (2, .int now), (3, .int price)]) hx hb dX1_sellOldest_7 hl (by decide) rfl (fun ls hl => ?_)
  refine sg_loop (D := D) (H0 := s.heap) (T := Nat) 9 9 (fun n1 t σ' c' s' => n1 + t = 10 ∧ KF Y n aO aL aC σ (kSellN now price t (c, cnt, 0)).1 σ' ∧ c' = 0 ∧ s' = 0) (fun t => [(6, .int (nI t)), (5, .int (kSellN now price t (c, cnt, 0)).2.1), (4, .int (kSellN now price t (c, cnt, 0)).2.2), (0, .ref aO), (1, .int cnt), (2, .int now), (3, .int price)]) ?_ (10) (0) _ _ _ _ _ _ ?_ hP hD hS (lv_sub hl [0, 1, 2, 3, 4, 5, 6] rfl)
  · intro n1 t σ' cells slots H locs ls ih hI hP hD hS hl
    obtain ⟨q, rfl⟩ : ∃ q, q = t := ⟨_, rfl⟩
    obtain ⟨hn, hC, rfl, rfl⟩ := hI
    obtain ⟨X, hXX⟩ : ∃ X, X = kSellN now price q (c, cnt, 0) := ⟨_, rfl⟩
    rw [← hXX] at hC
    have hl : lv_has ls 9 [(6, .int (nI q)), (5, .int (kSellN now price q (c, cnt, 0)).2.1), (4, .int (kSellN now price q (c, cnt, 0)).2.2), (0, .ref aO), (1, .int cnt), (2, .int now), (3, .int price)] := hl
    rw [← hXX] at hl
    have hl : lv_has ls 9 [(6, .int (nI q)), (5, .int X.2.1), (4, .int X.2.2), (0, .ref aO), (1, .int cnt), (2, .int now), (3, .int price)] := hl
    refine lv_iload hx hb dX1_sellOldest_9 (lv_at hl 0 rfl) ?_
    refine lv_aload_n hx hb dX1_sellOldest_11 rfl (lv_at hl 3 rfl) ?_
    refine va_get (ref := RX1) (v := .ref aL) hx hb hts wi_X1_sellOldest_X1 hown hK (sg_one hP (hC.1)) 0 rfl rfl 0 (by decide) (hts (.fieldLink RX1 11 RX1 "lots" "[LLookbackPlan$Lot;") (by decide +kernel)) (fun _ h => h) rfl dX1_sellOldest_12 ?_
    refine va_alen (v := 10) hx hb hK (sg_one hP (hC.2.1)) 0 3 rfl rfl rfl dX1_sellOldest_15 ?_
    refine lv_icmp_ge (tgt := 130) hx hb dX1_sellOldest_16 (by decide) (fun c16 => ?_) (fun c16 => ?_)
    · skip
      rw [show (10 : Int32) = nI 10 from rfl, nI_leI (by omega) (by omega)] at c16
      obtain rfl : q = 10 := by omega
      subst hXX
      refine lv_iload hx hb dX1_sellOldest_130 (lv_at hl 2 rfl) ?_
      exact sg_iret hx hb hr rfl hlocks hP hD hS (Nat.le_of_ble_eq_true rfl) (Nat.le_of_ble_eq_true rfl) dX1_sellOldest_132 (⟨rfl, hC⟩)
    · skip
      have hq10 : q < 10 := by rw [show (10 : Int32) = nI 10 from rfl, nI_leI (by omega) (by omega)] at c16; omega
      have hcq : (nI q).toNatClampNeg = q := nI_clamp (by omega)
      refine lv_aload_n hx hb dX1_sellOldest_19 rfl (lv_at hl 3 rfl) ?_
      refine va_get (ref := RX1) (v := .ref aL) hx hb hts wi_X1_sellOldest_X1 hown hK (sg_one hP (hC.1)) 0 rfl rfl 0 (by decide) (hts (.fieldLink RX1 11 RX1 "lots" "[LLookbackPlan$Lot;") (by decide +kernel)) (fun _ h => h) rfl dX1_sellOldest_20 ?_
      refine lv_iload hx hb dX1_sellOldest_23 (lv_at hl 0 rfl) ?_
      refine va_aldq hx hb hK (sg_one hP (hC.2.1)) 0 3 rfl rfl (vp_in_nI hq10 (by decide)) dX1_sellOldest_25 ?_
      rw [hcq]
      rcases hla : kR X.1 q with _ | la
      · skip
        refine lv_astoreN (lv' := [(7, .null), (6, .int (nI q)), (5, .int X.2.1), (4, .int X.2.2), (0, .ref aO), (1, .int cnt), (2, .int now), (3, .int price)]) hx hb dX1_sellOldest_26 hl (by decide) rfl (fun ls hl => ?_)
        refine lv_aloadN hx hb dX1_sellOldest_28 (lv_at hl 0 rfl) ?_
        refine lv_ifnullN (tgt := 124) hx hb dX1_sellOldest_30 (by decide) ?_
        have hs2 : kSellS now price q X = X := by rw [kSellS, if_pos hla]
        have hs1 : (kSellS now price q X).1 = X.1 := by rw [hs2]
        rw [← hs2] at hl
        obtain ⟨v124, ev124⟩ : ∃ zz9 : Int32, zz9 = (nI q) + 1 := ⟨_, rfl⟩
        obtain rfl : v124 = nI (q + 1) := by rw [ev124]; exact nI_1 _
        refine lv_iinc (v := (nI (q + 1))) (lv' := [(6, .int (nI (q + 1))), (7, .null), (5, .int (kSellS now price q X).2.1), (4, .int (kSellS now price q X).2.2), (0, .ref aO), (1, .int cnt), (2, .int now), (3, .int price)]) hx hb dX1_sellOldest_124 hl (k := 1) rfl (nI_1 _) (by decide) rfl (fun ls hl => ?_)
        refine lv_goto (tgt := 9) hx hb dX1_sellOldest_127 (by decide) ?_
        exact ih (n1 - 1) (q + 1) _ _ _ _ _ _ (by omega) ⟨by omega, by rw [kSellN, ← hXX]; exact hC.to hs1.symm, rfl, rfl⟩ hP hD hS (by have hz := lv_sub hl [0, 2, 3, 4, 5, 6, 7] rfl; rw [kSellN, ← hXX]; exact hz)
      · skip
        refine lv_astore (lv' := [(7, .ref la), (6, .int (nI q)), (5, .int X.2.1), (4, .int X.2.2), (0, .ref aO), (1, .int cnt), (2, .int now), (3, .int price)]) hx hb dX1_sellOldest_26 hl (by decide) rfl (fun ls hl => ?_)
        refine lv_aload hx hb dX1_sellOldest_28 (lv_at hl 0 rfl) ?_
        refine lv_ifnull hx hb dX1_sellOldest_30 ?_
        refine lv_iload hx hb dX1_sellOldest_33 (lv_at hl 2 rfl) ?_
        refine lv_aload hx hb dX1_sellOldest_35 (lv_at hl 0 rfl) ?_
        refine va_getN (ref := RX0) (host := RX2) (v := .int (kV X.1 q 6)) hx hb hts wi_X1_sellOldest_X0 hown hK (sg_one hP (hC.lot hq10 hla)) 0 rfl rfl 6 (by decide) (va_Nw.use rfl (hN.1 (.fieldLinkNest RX1 96 RX0 "left" "I" RX2) (List.mem_of_getElem? (i := 3) rfl))) (fun _ h => h) rfl dX1_sellOldest_37 ?_
        refine va_mmin hx hb (hml.trans hl.1.symm) hown (hts (.methodLink RX1 45 Lib.Math.min.name) (by decide +kernel)) (hts (.static Lib.Math.min.name) (by decide +kernel)) (hts (.initialized "java/lang/Math") (by decide +kernel)) (hts (.code Lib.Math.min.name Lib.Math.min.code 2 (some .int)) (by decide +kernel)) (Nat.le_of_ble_eq_true rfl) (Nat.le_of_ble_eq_true rfl) (Nat.le_of_ble_eq_true rfl) (Nat.le_of_ble_eq_true rfl) dX1_sellOldest_40 ?_
        refine lv_topi (fun v43 ev43 => ?_)
        obtain rfl : v43 = kSo X.1 q X.2.1 := by exact ev43
        refine lv_istore (lv' := [(8, .int (kSo X.1 q X.2.1)), (7, .ref la), (6, .int (nI q)), (5, .int X.2.1), (4, .int X.2.2), (0, .ref aO), (1, .int cnt), (2, .int now), (3, .int price)]) hx hb dX1_sellOldest_43 hl (by decide) rfl (fun ls hl => ?_)
        refine lv_aload_n hx hb dX1_sellOldest_45 rfl (lv_at hl 5 rfl) ?_
        refine lv_dup hx hb dX1_sellOldest_46 rfl ?_
        refine va_get (ref := RX1) (v := .long (kL X.1 12)) hx hb hts wi_X1_sellOldest_X1 hown hK (sg_one hP (hC.1)) 0 rfl rfl 12 (by decide) (hts (.fieldLink RX1 99 RX1 "payOfSales" "J") (by decide +kernel)) (fun _ h => h) rfl dX1_sellOldest_47 ?_
        refine lv_iload hx hb dX1_sellOldest_50 (lv_at hl 0 rfl) ?_
        refine lv_i2l hx hb dX1_sellOldest_52 rfl ?_
        refine lv_aload hx hb dX1_sellOldest_53 (lv_at hl 1 rfl) ?_
        refine lv_iload_n hx hb dX1_sellOldest_55 rfl (lv_at hl 7 rfl) ?_
        refine lv_iload_n hx hb dX1_sellOldest_56 rfl (lv_at hl 8 rfl) ?_
        refine sg_calll hD hS hA (va_runVN (As := [.int now, .int price]) (rest := [.long ((kSo X.1 q X.2.1)).toInt64, .long (kL X.1 12), .ref aO]) ⟨hx, hb, hml, hown, hts⟩ (c_X0_payEach l D Y _ _ (n + 3 + q) la (kV X.1 q) now price (hC.lot hq10 hla)) ⟨(va_cnB 2 hts gX1_sellOldest_X0_payEach_n102 rfl rfl rfl (hN.2.1 (.methodLinkNest RX1 102 yX0_payEach RX2) (List.mem_of_getElem? (i := 9) rfl)) (hts (.initialized RX0) (by decide +kernel)) (by decide +kernel) ⟨Nat.le_of_ble_eq_true rfl, Nat.le_of_ble_eq_true rfl⟩), (hts (.instanceMethod yX0_payEach) (by decide +kernel)), (hts (.selects RX0 yX0_payEach yX0_payEach) (by decide +kernel))⟩ (sg_preV (q := (RX0, TX0, 7)) (hC.lot hq10 hla) rfl hK hP hD hN hX hS hA) rfl rfl hl.1 rfl (lv_room (Nat.le_of_ble_eq_true rfl)) dX1_sellOldest_57 ⟨Nat.le_of_ble_eq_true rfl, Nat.le_of_ble_eq_true rfl⟩) (fun r57 σ' H locs hw hP hD hS => ?_)
        obtain ⟨rfl, rfl⟩ := hw
        refine lv_lmul hx hb dX1_sellOldest_60 ?_
        refine lv_ladd hx hb dX1_sellOldest_61 ?_
        refine sg_put (ref := RX1) (ty := .long) (v := .long ((kL X.1 12) + (((kSo X.1 q X.2.1)).toInt64 * (lP (kV X.1 q) now price)))) hx hb hts wi_X1_sellOldest_X1 tyX1 tyX1_ok nmX1 hown hK hP hD hS (hC.1) rfl 12 (by decide) (hts (.fieldLink RX1 99 RX1 "payOfSales" "J") (by decide +kernel)) (fun _ h => h) rfl (by decide +kernel) rfl rfl (Nat.le_of_ble_eq_true rfl) dX1_sellOldest_62 (fun H locs hP hD hS => ?_)
        have hC := hC.l12 (v := ((kL X.1 12) + (((kSo X.1 q X.2.1)).toInt64 * (lP (kV X.1 q) now price))))
        refine lv_aload_n hx hb dX1_sellOldest_65 rfl (lv_at hl 5 rfl) ?_
        refine lv_dup hx hb dX1_sellOldest_66 rfl ?_
        refine va_get (ref := RX1) (v := .long (kL (uKL X.1 12 (((kL X.1 12) + (((kSo X.1 q X.2.1)).toInt64 * (lP (kV X.1 q) now price))))) 13)) hx hb hts wi_X1_sellOldest_X1 hown hK (sg_one hP (hC.1)) 0 rfl rfl 13 (by decide) (hts (.fieldLink RX1 106 RX1 "gainOfSales" "J") (by decide +kernel)) (fun _ h => h) rfl dX1_sellOldest_67 ?_
        refine lv_iload hx hb dX1_sellOldest_70 (lv_at hl 0 rfl) ?_
        refine lv_i2l hx hb dX1_sellOldest_72 rfl ?_
        refine lv_aload hx hb dX1_sellOldest_73 (lv_at hl 1 rfl) ?_
        refine lv_iload_n hx hb dX1_sellOldest_75 rfl (lv_at hl 7 rfl) ?_
        refine lv_iload_n hx hb dX1_sellOldest_76 rfl (lv_at hl 8 rfl) ?_
        refine sg_calll hD hS hA (va_runVN (As := [.int now, .int price]) (rest := [.long ((kSo X.1 q X.2.1)).toInt64, .long (kL (uKL X.1 12 (((kL X.1 12) + (((kSo X.1 q X.2.1)).toInt64 * (lP (kV X.1 q) now price))))) 13), .ref aO]) ⟨hx, hb, hml, hown, hts⟩ (c_X0_gainEach l D Y _ _ (n + 3 + q) la (kV (uKL X.1 12 (((kL X.1 12) + (((kSo X.1 q X.2.1)).toInt64 * (lP (kV X.1 q) now price))))) q) now price (hC.lot hq10 hla)) ⟨(va_cnB 2 hts gX1_sellOldest_X0_gainEach_n109 rfl rfl rfl (hN.2.1 (.methodLinkNest RX1 109 yX0_gainEach RX2) (List.mem_of_getElem? (i := 10) rfl)) (hts (.initialized RX0) (by decide +kernel)) (by decide +kernel) ⟨Nat.le_of_ble_eq_true rfl, Nat.le_of_ble_eq_true rfl⟩), (hts (.instanceMethod yX0_gainEach) (by decide +kernel)), (hts (.selects RX0 yX0_gainEach yX0_gainEach) (by decide +kernel))⟩ (sg_preV (q := (RX0, TX0, 7)) (hC.lot hq10 hla) rfl hK hP hD hN hX hS hA) rfl rfl hl.1 rfl (lv_room (Nat.le_of_ble_eq_true rfl)) dX1_sellOldest_77 ⟨Nat.le_of_ble_eq_true rfl, Nat.le_of_ble_eq_true rfl⟩) (fun r77 σ' H locs hw hP hD hS => ?_)
        obtain ⟨rfl, rfl⟩ := hw
        refine lv_lmul hx hb dX1_sellOldest_80 ?_
        refine lv_ladd hx hb dX1_sellOldest_81 ?_
        refine sg_put (ref := RX1) (ty := .long) (v := .long ((kL (uKL X.1 12 (((kL X.1 12) + (((kSo X.1 q X.2.1)).toInt64 * (lP (kV X.1 q) now price))))) 13) + (((kSo X.1 q X.2.1)).toInt64 * (lG (kV (uKL X.1 12 (((kL X.1 12) + (((kSo X.1 q X.2.1)).toInt64 * (lP (kV X.1 q) now price))))) q) now price)))) hx hb hts wi_X1_sellOldest_X1 tyX1 tyX1_ok nmX1 hown hK hP hD hS (hC.1) rfl 13 (by decide) (hts (.fieldLink RX1 106 RX1 "gainOfSales" "J") (by decide +kernel)) (fun _ h => h) rfl (by decide +kernel) rfl rfl (Nat.le_of_ble_eq_true rfl) dX1_sellOldest_82 (fun H locs hP hD hS => ?_)
        have hC := hC.l13 (v := ((kL (uKL X.1 12 (((kL X.1 12) + (((kSo X.1 q X.2.1)).toInt64 * (lP (kV X.1 q) now price))))) 13) + (((kSo X.1 q X.2.1)).toInt64 * (lG (kV (uKL X.1 12 (((kL X.1 12) + (((kSo X.1 q X.2.1)).toInt64 * (lP (kV X.1 q) now price))))) q) now price))))
        refine lv_iload hx hb dX1_sellOldest_85 (lv_at hl 4 rfl) ?_
        refine lv_aload hx hb dX1_sellOldest_87 (lv_at hl 1 rfl) ?_
        refine lv_iload_n hx hb dX1_sellOldest_89 rfl (lv_at hl 7 rfl) ?_
        refine sg_calli hD hS hA (va_runVN (As := [.int now]) (rest := [.int X.2.2]) ⟨hx, hb, hml, hown, hts⟩ (c_X0_isEarly l D Y _ _ (n + 3 + q) la (kV (uKL (uKL X.1 12 (((kL X.1 12) + (((kSo X.1 q X.2.1)).toInt64 * (lP (kV X.1 q) now price))))) 13 (((kL (uKL X.1 12 (((kL X.1 12) + (((kSo X.1 q X.2.1)).toInt64 * (lP (kV X.1 q) now price))))) 13) + (((kSo X.1 q X.2.1)).toInt64 * (lG (kV (uKL X.1 12 (((kL X.1 12) + (((kSo X.1 q X.2.1)).toInt64 * (lP (kV X.1 q) now price))))) q) now price))))) q) now (hC.lot hq10 hla)) ⟨(va_cnB 1 hts gX1_sellOldest_X0_isEarly_n112 rfl rfl rfl (hN.2.1 (.methodLinkNest RX1 112 yX0_isEarly RX2) (List.mem_of_getElem? (i := 11) rfl)) (hts (.initialized RX0) (by decide +kernel)) (by decide +kernel) ⟨Nat.le_of_ble_eq_true rfl, Nat.le_of_ble_eq_true rfl⟩), (hts (.instanceMethod yX0_isEarly) (by decide +kernel)), (hts (.selects RX0 yX0_isEarly yX0_isEarly) (by decide +kernel))⟩ (sg_preV (q := (RX0, TX0, 7)) (hC.lot hq10 hla) rfl hK hP hD hN hX hS hA) rfl rfl hl.1 rfl (lv_room (Nat.le_of_ble_eq_true rfl)) dX1_sellOldest_90 ⟨Nat.le_of_ble_eq_true rfl, Nat.le_of_ble_eq_true rfl⟩) (fun r90 σ' H locs hw hP hD hS => ?_)
        obtain ⟨rfl, rfl⟩ := hw
        refine lv_if_eq (tgt := 101) hx hb dX1_sellOldest_93 (by decide) (fun c93 => ?_) (fun c93 => ?_)
        · skip
          refine lv_iconst (v := 0) hx hb dX1_sellOldest_101 (by decide) ?_
          refine lv_iadd hx hb dX1_sellOldest_102 ?_
          refine lv_topi (fun v103 ev103 => ?_)
          obtain rfl : v103 = (kSellS now price q X).2.2 := by rw [ev103, kSellS, if_neg (by rw [hla]; simp)]; show _ = X.2.2 + (if lE (kV X.1 q) now = 0 then 0 else kSo X.1 q X.2.1); first | rw [if_pos (show lE (kV X.1 q) now = 0 from c93)] | rw [if_neg (show ¬ lE (kV X.1 q) now = 0 from c93)]
          refine lv_istore (lv' := [(4, .int ((kSellS now price q X).2.2)), (8, .int (kSo X.1 q X.2.1)), (7, .ref la), (6, .int (nI q)), (5, .int X.2.1), (0, .ref aO), (1, .int cnt), (2, .int now), (3, .int price)]) hx hb dX1_sellOldest_103 hl (by decide) rfl (fun ls hl => ?_)
          refine lv_aload hx hb dX1_sellOldest_105 (lv_at hl 2 rfl) ?_
          refine lv_dup hx hb dX1_sellOldest_107 rfl ?_
          refine va_getN (ref := RX0) (host := RX2) (v := .int (kV (uKL (uKL X.1 12 (((kL X.1 12) + (((kSo X.1 q X.2.1)).toInt64 * (lP (kV X.1 q) now price))))) 13 (((kL (uKL X.1 12 (((kL X.1 12) + (((kSo X.1 q X.2.1)).toInt64 * (lP (kV X.1 q) now price))))) 13) + (((kSo X.1 q X.2.1)).toInt64 * (lG (kV (uKL X.1 12 (((kL X.1 12) + (((kSo X.1 q X.2.1)).toInt64 * (lP (kV X.1 q) now price))))) q) now price))))) q 6)) hx hb hts wi_X1_sellOldest_X0 hown hK (sg_one hP (hC.lot hq10 hla)) 0 rfl rfl 6 (by decide) (va_Nw.use rfl (hN.1 (.fieldLinkNest RX1 96 RX0 "left" "I" RX2) (List.mem_of_getElem? (i := 3) rfl))) (fun _ h => h) rfl dX1_sellOldest_108 ?_
          refine lv_iload hx hb dX1_sellOldest_111 (lv_at hl 1 rfl) ?_
          refine lv_isub hx hb dX1_sellOldest_113 ?_
          refine sg_putN (ref := RX0) (host := RX2) (ty := .int) (v := .int ((kV (uKL (uKL X.1 12 (((kL X.1 12) + (((kSo X.1 q X.2.1)).toInt64 * (lP (kV X.1 q) now price))))) 13 (((kL (uKL X.1 12 (((kL X.1 12) + (((kSo X.1 q X.2.1)).toInt64 * (lP (kV X.1 q) now price))))) 13) + (((kSo X.1 q X.2.1)).toInt64 * (lG (kV (uKL X.1 12 (((kL X.1 12) + (((kSo X.1 q X.2.1)).toInt64 * (lP (kV X.1 q) now price))))) q) now price))))) q 6) - (kSo X.1 q X.2.1))) hx hb hts wi_X1_sellOldest_X0 tyX0 tyX0_ok nmX0 hown hK hP hD hS (hC.lot hq10 hla) rfl 6 (by decide) (va_Nw.use rfl (hN.1 (.fieldLinkNest RX1 96 RX0 "left" "I" RX2) (List.mem_of_getElem? (i := 3) rfl))) (fun _ h => h) rfl (by decide +kernel) rfl rfl (Nat.le_of_ble_eq_true rfl) dX1_sellOldest_114 (fun H locs hP hD hS => ?_)
          have hC := hC.left hq10 hla (v := ((kV (uKL (uKL X.1 12 (((kL X.1 12) + (((kSo X.1 q X.2.1)).toInt64 * (lP (kV X.1 q) now price))))) 13 (((kL (uKL X.1 12 (((kL X.1 12) + (((kSo X.1 q X.2.1)).toInt64 * (lP (kV X.1 q) now price))))) 13) + (((kSo X.1 q X.2.1)).toInt64 * (lG (kV (uKL X.1 12 (((kL X.1 12) + (((kSo X.1 q X.2.1)).toInt64 * (lP (kV X.1 q) now price))))) q) now price))))) q 6) - (kSo X.1 q X.2.1)))
          have hs1 : (kSellS now price q X).1 = uK6 (uKL (uKL X.1 12 (((kL X.1 12) + (((kSo X.1 q X.2.1)).toInt64 * (lP (kV X.1 q) now price))))) 13 (((kL (uKL X.1 12 (((kL X.1 12) + (((kSo X.1 q X.2.1)).toInt64 * (lP (kV X.1 q) now price))))) 13) + (((kSo X.1 q X.2.1)).toInt64 * (lG (kV (uKL X.1 12 (((kL X.1 12) + (((kSo X.1 q X.2.1)).toInt64 * (lP (kV X.1 q) now price))))) q) now price))))) q (((kV (uKL (uKL X.1 12 (((kL X.1 12) + (((kSo X.1 q X.2.1)).toInt64 * (lP (kV X.1 q) now price))))) 13 (((kL (uKL X.1 12 (((kL X.1 12) + (((kSo X.1 q X.2.1)).toInt64 * (lP (kV X.1 q) now price))))) 13) + (((kSo X.1 q X.2.1)).toInt64 * (lG (kV (uKL X.1 12 (((kL X.1 12) + (((kSo X.1 q X.2.1)).toInt64 * (lP (kV X.1 q) now price))))) q) now price))))) q 6) - (kSo X.1 q X.2.1))) := by rw [kSellS, if_neg (by rw [hla]; simp)]; rfl
          refine lv_iload hx hb dX1_sellOldest_117 (lv_at hl 4 rfl) ?_
          refine lv_iload hx hb dX1_sellOldest_119 (lv_at hl 1 rfl) ?_
          refine lv_isub hx hb dX1_sellOldest_121 ?_
          refine lv_topi (fun v122 ev122 => ?_)
          obtain rfl : v122 = (kSellS now price q X).2.1 := by rw [ev122, kSellS, if_neg (by rw [hla]; simp)]
          refine lv_istore (lv' := [(5, .int ((kSellS now price q X).2.1)), (4, .int ((kSellS now price q X).2.2)), (8, .int (kSo X.1 q X.2.1)), (7, .ref la), (6, .int (nI q)), (0, .ref aO), (1, .int cnt), (2, .int now), (3, .int price)]) hx hb dX1_sellOldest_122 hl (by decide) rfl (fun ls hl => ?_)
          obtain ⟨v124, ev124⟩ : ∃ zz9 : Int32, zz9 = (nI q) + 1 := ⟨_, rfl⟩
          obtain rfl : v124 = nI (q + 1) := by rw [ev124]; exact nI_1 _
          refine lv_iinc (v := (nI (q + 1))) (lv' := [(6, .int (nI (q + 1))), (5, .int ((kSellS now price q X).2.1)), (4, .int ((kSellS now price q X).2.2)), (8, .int (kSo X.1 q X.2.1)), (7, .ref la), (0, .ref aO), (1, .int cnt), (2, .int now), (3, .int price)]) hx hb dX1_sellOldest_124 hl (k := 4) rfl (nI_1 _) (by decide) rfl (fun ls hl => ?_)
          refine lv_goto (tgt := 9) hx hb dX1_sellOldest_127 (by decide) ?_
          exact ih (n1 - 1) (q + 1) _ _ _ _ _ _ (by omega) ⟨by omega, by rw [kSellN, ← hXX]; exact hC.to hs1.symm, rfl, rfl⟩ hP hD hS (by have hz := lv_sub hl [0, 1, 2, 5, 6, 7, 8] rfl; rw [kSellN, ← hXX]; exact hz)
        · skip
          refine lv_iload hx hb dX1_sellOldest_96 (lv_at hl 0 rfl) ?_
          refine lv_goto (tgt := 102) hx hb dX1_sellOldest_98 (by decide) ?_
          refine lv_iadd hx hb dX1_sellOldest_102 ?_
          refine lv_topi (fun v103 ev103 => ?_)
          obtain rfl : v103 = (kSellS now price q X).2.2 := by rw [ev103, kSellS, if_neg (by rw [hla]; simp)]; show _ = X.2.2 + (if lE (kV X.1 q) now = 0 then 0 else kSo X.1 q X.2.1); first | rw [if_pos (show lE (kV X.1 q) now = 0 from c93)] | rw [if_neg (show ¬ lE (kV X.1 q) now = 0 from c93)]
          refine lv_istore (lv' := [(4, .int ((kSellS now price q X).2.2)), (8, .int (kSo X.1 q X.2.1)), (7, .ref la), (6, .int (nI q)), (5, .int X.2.1), (0, .ref aO), (1, .int cnt), (2, .int now), (3, .int price)]) hx hb dX1_sellOldest_103 hl (by decide) rfl (fun ls hl => ?_)
          refine lv_aload hx hb dX1_sellOldest_105 (lv_at hl 2 rfl) ?_
          refine lv_dup hx hb dX1_sellOldest_107 rfl ?_
          refine va_getN (ref := RX0) (host := RX2) (v := .int (kV (uKL (uKL X.1 12 (((kL X.1 12) + (((kSo X.1 q X.2.1)).toInt64 * (lP (kV X.1 q) now price))))) 13 (((kL (uKL X.1 12 (((kL X.1 12) + (((kSo X.1 q X.2.1)).toInt64 * (lP (kV X.1 q) now price))))) 13) + (((kSo X.1 q X.2.1)).toInt64 * (lG (kV (uKL X.1 12 (((kL X.1 12) + (((kSo X.1 q X.2.1)).toInt64 * (lP (kV X.1 q) now price))))) q) now price))))) q 6)) hx hb hts wi_X1_sellOldest_X0 hown hK (sg_one hP (hC.lot hq10 hla)) 0 rfl rfl 6 (by decide) (va_Nw.use rfl (hN.1 (.fieldLinkNest RX1 96 RX0 "left" "I" RX2) (List.mem_of_getElem? (i := 3) rfl))) (fun _ h => h) rfl dX1_sellOldest_108 ?_
          refine lv_iload hx hb dX1_sellOldest_111 (lv_at hl 1 rfl) ?_
          refine lv_isub hx hb dX1_sellOldest_113 ?_
          refine sg_putN (ref := RX0) (host := RX2) (ty := .int) (v := .int ((kV (uKL (uKL X.1 12 (((kL X.1 12) + (((kSo X.1 q X.2.1)).toInt64 * (lP (kV X.1 q) now price))))) 13 (((kL (uKL X.1 12 (((kL X.1 12) + (((kSo X.1 q X.2.1)).toInt64 * (lP (kV X.1 q) now price))))) 13) + (((kSo X.1 q X.2.1)).toInt64 * (lG (kV (uKL X.1 12 (((kL X.1 12) + (((kSo X.1 q X.2.1)).toInt64 * (lP (kV X.1 q) now price))))) q) now price))))) q 6) - (kSo X.1 q X.2.1))) hx hb hts wi_X1_sellOldest_X0 tyX0 tyX0_ok nmX0 hown hK hP hD hS (hC.lot hq10 hla) rfl 6 (by decide) (va_Nw.use rfl (hN.1 (.fieldLinkNest RX1 96 RX0 "left" "I" RX2) (List.mem_of_getElem? (i := 3) rfl))) (fun _ h => h) rfl (by decide +kernel) rfl rfl (Nat.le_of_ble_eq_true rfl) dX1_sellOldest_114 (fun H locs hP hD hS => ?_)
          have hC := hC.left hq10 hla (v := ((kV (uKL (uKL X.1 12 (((kL X.1 12) + (((kSo X.1 q X.2.1)).toInt64 * (lP (kV X.1 q) now price))))) 13 (((kL (uKL X.1 12 (((kL X.1 12) + (((kSo X.1 q X.2.1)).toInt64 * (lP (kV X.1 q) now price))))) 13) + (((kSo X.1 q X.2.1)).toInt64 * (lG (kV (uKL X.1 12 (((kL X.1 12) + (((kSo X.1 q X.2.1)).toInt64 * (lP (kV X.1 q) now price))))) q) now price))))) q 6) - (kSo X.1 q X.2.1)))
          have hs1 : (kSellS now price q X).1 = uK6 (uKL (uKL X.1 12 (((kL X.1 12) + (((kSo X.1 q X.2.1)).toInt64 * (lP (kV X.1 q) now price))))) 13 (((kL (uKL X.1 12 (((kL X.1 12) + (((kSo X.1 q X.2.1)).toInt64 * (lP (kV X.1 q) now price))))) 13) + (((kSo X.1 q X.2.1)).toInt64 * (lG (kV (uKL X.1 12 (((kL X.1 12) + (((kSo X.1 q X.2.1)).toInt64 * (lP (kV X.1 q) now price))))) q) now price))))) q (((kV (uKL (uKL X.1 12 (((kL X.1 12) + (((kSo X.1 q X.2.1)).toInt64 * (lP (kV X.1 q) now price))))) 13 (((kL (uKL X.1 12 (((kL X.1 12) + (((kSo X.1 q X.2.1)).toInt64 * (lP (kV X.1 q) now price))))) 13) + (((kSo X.1 q X.2.1)).toInt64 * (lG (kV (uKL X.1 12 (((kL X.1 12) + (((kSo X.1 q X.2.1)).toInt64 * (lP (kV X.1 q) now price))))) q) now price))))) q 6) - (kSo X.1 q X.2.1))) := by rw [kSellS, if_neg (by rw [hla]; simp)]; rfl
          refine lv_iload hx hb dX1_sellOldest_117 (lv_at hl 4 rfl) ?_
          refine lv_iload hx hb dX1_sellOldest_119 (lv_at hl 1 rfl) ?_
          refine lv_isub hx hb dX1_sellOldest_121 ?_
          refine lv_topi (fun v122 ev122 => ?_)
          obtain rfl : v122 = (kSellS now price q X).2.1 := by rw [ev122, kSellS, if_neg (by rw [hla]; simp)]
          refine lv_istore (lv' := [(5, .int ((kSellS now price q X).2.1)), (4, .int ((kSellS now price q X).2.2)), (8, .int (kSo X.1 q X.2.1)), (7, .ref la), (6, .int (nI q)), (0, .ref aO), (1, .int cnt), (2, .int now), (3, .int price)]) hx hb dX1_sellOldest_122 hl (by decide) rfl (fun ls hl => ?_)
          obtain ⟨v124, ev124⟩ : ∃ zz9 : Int32, zz9 = (nI q) + 1 := ⟨_, rfl⟩
          obtain rfl : v124 = nI (q + 1) := by rw [ev124]; exact nI_1 _
          refine lv_iinc (v := (nI (q + 1))) (lv' := [(6, .int (nI (q + 1))), (5, .int ((kSellS now price q X).2.1)), (4, .int ((kSellS now price q X).2.2)), (8, .int (kSo X.1 q X.2.1)), (7, .ref la), (0, .ref aO), (1, .int cnt), (2, .int now), (3, .int price)]) hx hb dX1_sellOldest_124 hl (k := 4) rfl (nI_1 _) (by decide) rfl (fun ls hl => ?_)
          refine lv_goto (tgt := 9) hx hb dX1_sellOldest_127 (by decide) ?_
          exact ih (n1 - 1) (q + 1) _ _ _ _ _ _ (by omega) ⟨by omega, by rw [kSellN, ← hXX]; exact hC.to hs1.symm, rfl, rfl⟩ hP hD hS (by have hz := lv_sub hl [0, 1, 2, 5, 6, 7, 8] rfl; rw [kSellN, ← hXX]; exact hz)
  · exact ⟨rfl, hC, rfl, rfl⟩
end
section
theorem kL_kAdd {c : CS} {y : Int32} {v : Int64} {i : Nat} : kL (kAdd c y v) i = kL c i := by unfold kAdd; split <;> rfl
theorem kI_kAdd {c : CS} {y : Int32} {v : Int64} {i : Nat} : kI (kAdd c y v) i = kI c i := by unfold kAdd; split <;> rfl
theorem KF.off {Y : Nat → ClassId} {n aO aL aC : Nat} {σ0 σ σ1 : sg_W} {c : CS} {k : Nat} (h : KF Y n aO aL aC σ0 c σ) (hk : k < 10) (hr : kR c k = none) (ho : ∀ j, j ≠ n + 3 + k → σ1 j = σ j) : KF Y n aO aL aC σ0 c σ1 := by
  obtain ⟨g1, g2, g3, g4, g5⟩ := h
  refine ⟨by rw [ho _ (by omega)]; exact g1, by rw [ho _ (by omega)]; exact g2, by rw [ho _ (by omega)]; exact g3, fun i hi b hb => ?_, fun j hj => ?_⟩
  · rw [ho _ (by rintro h; have : i = k := by omega
                 subst this; rw [hr] at hb; cases hb)]
    exact g4 i hi b hb
  · rw [ho _ (by omega)]
    exact g5 j hj
def mZero : List Value := [.null, .null, .int 0, .int 0, .long 0, .long 0, .long 0, .long 0, .int 0, .int 0, .int 0, .int 0, .long 0, .long 0]
def kNew (ra mo price : Int32) : CS := (fun k => if k = 2 then ra else if k = 8 then mo else if k = 9 then price else 0, fun _ => 0, fun _ => 0, fun _ => none, fun _ _ => 0)
theorem kNew_KF {Y : Nat → ClassId} {n aO q7 q8 : Nat} {σ : sg_W} {ra mo price : Int32} {e1 e2 : va_E} {z1 z2 z4 : va_E} (hz : z4 = .inr (1, k_f q7 q8 (kNew ra mo price)) := by rfl) : KF Y n aO q7 q8 σ (kNew ra mo price) (sg_u (sg_u (sg_u (sg_u (sg_u (sg_u (sg_u σ (n + 1) q7 (.inl (Y 3, 10, .inr (.inr (.inr (.inr (fun _ => none))))))) n aO e1) (n + 2) q8 (.inl (Y 1, 5, .inr (.inl (fun _ => 0))))) n aO e2) n aO z1) n aO z2) n aO z4) := by
  subst hz
  refine ⟨sg_ue, ?_, ?_, fun k hk a ha => (by cases ha), fun j hj => ?_⟩
  · rw [sg_un (by omega), sg_un (by omega), sg_un (by omega), sg_un (by omega), sg_un (by omega), sg_un (by omega), sg_ue]; rfl
  · rw [sg_un (by omega), sg_un (by omega), sg_un (by omega), sg_un (by omega), sg_ue]; rfl
  · rw [sg_un (by omega), sg_un (by omega), sg_un (by omega), sg_un (by omega), sg_un (by omega), sg_un (by omega), sg_un (by omega)]
theorem wi_X1_buyShares_X0 : ∀ w ∈ wsX00, w ∈ wsX1_buyShares := by decide +kernel
theorem wi_X1_buyShares_X1 : ∀ w ∈ wsX10, w ∈ wsX1_buyShares := by decide +kernel
set_option maxHeartbeats 4000000 in
set_option maxRecDepth 100000 in
theorem c_X1_buyShares (l : Launch) (D : va_G) (Y : Nat → ClassId) (σ : sg_W) (sz : Nat) (n aO aL aC : Nat) (c : CS) (k : Nat) (mo price ce : Int32) (hC : KF Y n aO aL aC σ c σ) (hk : k < 10) (hmo : mo / 6 = nI k) (hrn : kR c k = none) : Met l yX1_buyShares wsX1_buyShares ({ frames := 2, cells := 1, slots := 7, locals := 38 } : Room) (va_Pc [.ref aO, .int mo, .int price, .int ce] (sg_U D Y σ sz)) (va_Qv (fun σ' => ∃ q9, KF Y n aO aL aC σ (kBuyM c mo price ce q9) σ') (sg_B D σ sz) (sg_A σ sz)) 1 7 (sg_A σ sz) := by
  refine sg_met (cc := cX1_buyShares) (maxL := 11) (ret := none) (by decide) rfl (Nat.le_of_ble_eq_true rfl) ?_
  intro p e s m below meth cd9 ls hx hb hml hr hown hts hlocks hnm hP hK hD hN hX hA hS hsz hl
  have hl : lv_has ls 11 [(0, .ref aO), (1, .int mo), (2, .int price), (3, .int ce)] := hl
  have hmk : tN (mo / 6) = k := by rw [hmo, tN, nI_clamp (by omega)]
  refine lv_iload_n hx hb dX1_buyShares_0 rfl (lv_at hl 1 rfl) ?_
  refine lv_bipush (v := 12) hx hb dX1_buyShares_1 (by decide) ?_
  refine lv_idiv hx hb dX1_buyShares_3 (by decide) ?_
  refine lv_topi (fun v4 ev4 => ?_)
  obtain rfl : v4 = mo / 12 := by exact ev4
  refine lv_istore (lv' := [(4, .int (mo / 12)), (0, .ref aO), (1, .int mo), (2, .int price), (3, .int ce)]) hx hb dX1_buyShares_4 hl (by decide) rfl (fun ls hl => ?_)
  refine lv_aload_n hx hb dX1_buyShares_6 rfl (lv_at hl 1 rfl) ?_
  refine va_get (ref := RX1) (v := .int (kI c 9)) hx hb hts wi_X1_buyShares_X1 hown hK (sg_one hP (hC.1)) 0 rfl rfl 9 (by decide) (hts (.fieldLink RX1 28 RX1 "offerPrice" "I") (by decide +kernel)) (fun _ h => h) rfl dX1_buyShares_7 ?_
  refine lv_iload_n hx hb dX1_buyShares_10 rfl (lv_at hl 3 rfl) ?_
  refine va_mmin hx hb (hml.trans hl.1.symm) hown (hts (.methodLink RX1 45 Lib.Math.min.name) (by decide +kernel)) (hts (.static Lib.Math.min.name) (by decide +kernel)) (hts (.initialized "java/lang/Math") (by decide +kernel)) (hts (.code Lib.Math.min.name Lib.Math.min.code 2 (some .int)) (by decide +kernel)) (Nat.le_of_ble_eq_true rfl) (Nat.le_of_ble_eq_true rfl) (Nat.le_of_ble_eq_true rfl) (Nat.le_of_ble_eq_true rfl) dX1_buyShares_11 ?_
  refine sg_calli hD hS hA (va_runS (As := [.int (lMin ((kI c 9)) price)]) (rest := []) ⟨hx, hb, hml, hown, hts⟩ (c_X1_purchasePrice l D Y _ _ ((lMin ((kI c 9)) price))) (va_cwS 1 hts gX1_buyShares_X1_purchasePrice rfl rfl rfl (by decide +kernel) ⟨Nat.le_of_ble_eq_true rfl, Nat.le_of_ble_eq_true rfl⟩) (sg_preS hK hP hD hN hX hS hA) rfl rfl hl.1 rfl (lv_room (Nat.le_of_ble_eq_true rfl)) dX1_buyShares_14 ⟨Nat.le_of_ble_eq_true rfl, Nat.le_of_ble_eq_true rfl⟩) (fun r14 σ' H locs hw hP hD hS => ?_)
  obtain ⟨rfl, rfl⟩ := hw
  refine lv_topi (fun v17 ev17 => ?_)
  obtain rfl : v17 = kEach c price := by exact ev17
  refine lv_istore (lv' := [(5, .int (kEach c price)), (4, .int (mo / 12)), (0, .ref aO), (1, .int mo), (2, .int price), (3, .int ce)]) hx hb dX1_buyShares_17 hl (by decide) rfl (fun ls hl => ?_)
  refine lv_aload_n hx hb dX1_buyShares_19 rfl (lv_at hl 2 rfl) ?_
  refine va_get (ref := RX1) (v := .long (kL c 4)) hx hb hts wi_X1_buyShares_X1 hown hK (sg_one hP (hC.1)) 0 rfl rfl 4 (by decide) (hts (.fieldLink RX1 31 RX1 "money" "J") (by decide +kernel)) (fun _ h => h) rfl dX1_buyShares_20 ?_
  refine lv_iload hx hb dX1_buyShares_23 (lv_at hl 0 rfl) ?_
  refine lv_i2l hx hb dX1_buyShares_25 rfl ?_
  refine sg_calll hD hS hA (va_runS (As := [.long (kL c 4), .long ((kEach c price)).toInt64]) (rest := []) ⟨hx, hb, hml, hown, hts⟩ (c_X1_wholeTimes l D Y _ _ ((kL c 4)) (((kEach c price)).toInt64)) (va_cwS 2 hts gX1_buyShares_X1_wholeTimes rfl rfl rfl (by decide +kernel) ⟨Nat.le_of_ble_eq_true rfl, Nat.le_of_ble_eq_true rfl⟩) (sg_preS hK hP hD hN hX hS hA) rfl rfl hl.1 rfl (lv_room (Nat.le_of_ble_eq_true rfl)) dX1_buyShares_26 ⟨Nat.le_of_ble_eq_true rfl, Nat.le_of_ble_eq_true rfl⟩) (fun r26 σ' H locs hw hP hD hS => ?_)
  obtain ⟨rfl, rfl⟩ := hw
  refine lv_topl (fun v29 ev29 => ?_)
  obtain rfl : v29 = kWhole (kL c 4) (kEach c price).toInt64 := by exact ev29
  refine lv_lstore (lv' := [(6, .long (kWhole (kL c 4) (kEach c price).toInt64)), (5, .int (kEach c price)), (4, .int (mo / 12)), (0, .ref aO), (1, .int mo), (2, .int price), (3, .int ce)]) hx hb dX1_buyShares_29 hl (by decide) rfl (fun ls hl => ?_)
  refine lv_iload_n hx hb dX1_buyShares_31 rfl (lv_at hl 6 rfl) ?_
  refine lv_i2l hx hb dX1_buyShares_32 rfl ?_
  refine lv_aload_n hx hb dX1_buyShares_33 rfl (lv_at hl 3 rfl) ?_
  refine lv_iload hx hb dX1_buyShares_34 (lv_at hl 2 rfl) ?_
  refine sg_calll hD hS hA (va_runV (As := [.int (mo / 12)]) (rest := [.long ce.toInt64]) ⟨hx, hb, hml, hown, hts⟩ (c_X1_countedIn l D Y _ _ n aO aL aC c ((mo / 12)) hC.self) (cwV 1 hts gX1_buyShares_X1_countedIn rfl rfl rfl (by decide +kernel) ⟨Nat.le_of_ble_eq_true rfl, Nat.le_of_ble_eq_true rfl⟩) (sg_preV (q := (RX1, TX1, 14)) (hC.1) rfl hK hP hD hN hX hS hA) rfl rfl hl.1 rfl (lv_room (Nat.le_of_ble_eq_true rfl)) dX1_buyShares_36 ⟨Nat.le_of_ble_eq_true rfl, Nat.le_of_ble_eq_true rfl⟩) (fun r36 σ' H locs hw hP hD hS => ?_)
  obtain ⟨rfl, rfl⟩ := hw
  refine lv_lsub hx hb dX1_buyShares_39 ?_
  refine lv_aload_n hx hb dX1_buyShares_40 rfl (lv_at hl 3 rfl) ?_
  refine va_get (ref := RX1) (v := .int (kI c 9)) hx hb hts wi_X1_buyShares_X1 hown hK (sg_one hP (hC.1)) 0 rfl rfl 9 (by decide) (hts (.fieldLink RX1 28 RX1 "offerPrice" "I") (by decide +kernel)) (fun _ h => h) rfl dX1_buyShares_41 ?_
  refine lv_i2l hx hb dX1_buyShares_44 rfl ?_
  refine sg_calll hD hS hA (va_runS (As := [.long (ce.toInt64 - (kCnt c ((mo / 12)))), .long ((kI c 9)).toInt64]) (rest := []) ⟨hx, hb, hml, hown, hts⟩ (c_X1_wholeTimes l D Y _ _ ((ce.toInt64 - (kCnt c ((mo / 12))))) (((kI c 9)).toInt64)) (va_cwS 2 hts gX1_buyShares_X1_wholeTimes rfl rfl rfl (by decide +kernel) ⟨Nat.le_of_ble_eq_true rfl, Nat.le_of_ble_eq_true rfl⟩) (sg_preS hK hP hD hN hX hS hA) rfl rfl hl.1 rfl (lv_room (Nat.le_of_ble_eq_true rfl)) dX1_buyShares_45 ⟨Nat.le_of_ble_eq_true rfl, Nat.le_of_ble_eq_true rfl⟩) (fun r45 σ' H locs hw hP hD hS => ?_)
  obtain ⟨rfl, rfl⟩ := hw
  refine lv_topl (fun v48 ev48 => ?_)
  obtain rfl : v48 = kWhole (ce.toInt64 - kCnt c (mo / 12)) (kI c 9).toInt64 := by exact ev48
  refine lv_lstore (lv' := [(8, .long (kWhole (ce.toInt64 - kCnt c (mo / 12)) (kI c 9).toInt64)), (6, .long (kWhole (kL c 4) (kEach c price).toInt64)), (5, .int (kEach c price)), (4, .int (mo / 12)), (0, .ref aO), (1, .int mo), (2, .int price), (3, .int ce)]) hx hb dX1_buyShares_48 hl (by decide) rfl (fun ls hl => ?_)
  refine lv_lload hx hb dX1_buyShares_50 (lv_at hl 1 rfl) ?_
  refine lv_lload hx hb dX1_buyShares_52 (lv_at hl 0 rfl) ?_
  refine va_mmin_long hx hb (hml.trans hl.1.symm) hown (hts (.methodLink RX1 63 Lib.MathLoose.min_long.x) (by decide +kernel)) (hts (.static Lib.MathLoose.min_long.x) (by decide +kernel)) (hts (.initialized "java/lang/Math") (by decide +kernel)) (hts (.code Lib.MathLoose.min_long.x Lib.MathLoose.min_long.code 4 (some .long)) (by decide +kernel)) (Nat.le_of_ble_eq_true rfl) (Nat.le_of_ble_eq_true rfl) (Nat.le_of_ble_eq_true rfl) (Nat.le_of_ble_eq_true rfl) dX1_buyShares_54 ?_
  refine lv_l2i hx hb dX1_buyShares_57 rfl ?_
  refine lv_topi (fun v58 ev58 => ?_)
  obtain rfl : v58 = kNum c mo price ce := by exact ev58
  refine lv_istore (lv' := [(10, .int (kNum c mo price ce)), (8, .long (kWhole (ce.toInt64 - kCnt c (mo / 12)) (kI c 9).toInt64)), (6, .long (kWhole (kL c 4) (kEach c price).toInt64)), (5, .int (kEach c price)), (4, .int (mo / 12)), (0, .ref aO), (1, .int mo), (2, .int price), (3, .int ce)]) hx hb dX1_buyShares_58 hl (by decide) rfl (fun ls hl => ?_)
  refine sg_cutw (D := D) hS (j := 137) (ls := ls) (rest := []) 1 7 (fun σ' => ∃ q9, KF Y n aO aL aC σ (kBuy1 c mo price ce q9) σ') (fun σ' H locs hj9 hP hD hS => ?_) (fun k137 => ?_)
  · obtain ⟨q9, hC⟩ := hj9
    refine lv_aload_n hx hb dX1_buyShares_137 rfl (lv_at hl 5 rfl) ?_
    refine lv_dup hx hb dX1_buyShares_138 rfl ?_
    refine va_get (ref := RX1) (v := .int (kI (kBuy1 c mo price ce q9) 10)) hx hb hts wi_X1_buyShares_X1 hown hK (sg_one hP (hC.1)) 0 rfl rfl 10 (by decide) (hts (.fieldLink RX1 79 RX1 "offerPurchases" "I") (by decide +kernel)) (fun _ h => h) rfl dX1_buyShares_139 ?_
    refine lv_iconst (v := 1) hx hb dX1_buyShares_142 (by decide) ?_
    refine lv_iadd hx hb dX1_buyShares_143 ?_
    refine sg_put (ref := RX1) (ty := .int) (v := .int ((kI (kBuy1 c mo price ce q9) 10) + 1)) hx hb hts wi_X1_buyShares_X1 tyX1 tyX1_ok nmX1 hown hK hP hD hS (hC.1) rfl 10 (by decide) (hts (.fieldLink RX1 79 RX1 "offerPurchases" "I") (by decide +kernel)) (fun _ h => h) rfl (by decide +kernel) rfl rfl (Nat.le_of_ble_eq_true rfl) dX1_buyShares_144 (fun H locs hP hD hS => ?_)
    have hC := hC.i10 (v := ((kI (kBuy1 c mo price ce q9) 10) + 1))
    refine lv_aload_n hx hb dX1_buyShares_147 rfl (lv_at hl 5 rfl) ?_
    refine lv_iload_n hx hb dX1_buyShares_148 rfl (lv_at hl 6 rfl) ?_
    refine lv_iload_n hx hb dX1_buyShares_149 rfl (lv_at hl 7 rfl) ?_
    refine sg_callv hD hS hA (va_runV (As := [.int mo, .int price]) (rest := []) ⟨hx, hb, hml, hown, hts⟩ (c_X1_renewOffer l D Y _ _ n aO aL aC (uKI (kBuy1 c mo price ce q9) 10 (((kI (kBuy1 c mo price ce q9) 10) + 1))) mo price hC.self) (cwV 2 hts gX1_buyShares_X1_renewOffer rfl rfl rfl (by decide +kernel) ⟨Nat.le_of_ble_eq_true rfl, Nat.le_of_ble_eq_true rfl⟩) (sg_preV (q := (RX1, TX1, 14)) (hC.1) rfl hK hP hD hN hX hS hA) rfl rfl hl.1 rfl (lv_room (Nat.le_of_ble_eq_true rfl)) dX1_buyShares_150 ⟨Nat.le_of_ble_eq_true rfl, Nat.le_of_ble_eq_true rfl⟩) (fun σ' H locs hw hP hD hS => ?_)
    have hC := hC.trans hw
    exact sg_vret hx hb hr hlocks hP hD hS (Nat.le_of_ble_eq_true rfl) (Nat.le_of_ble_eq_true rfl) dX1_buyShares_153 (⟨q9, hC⟩)
  · skip
    refine lv_iload hx hb dX1_buyShares_60 (lv_at hl 0 rfl) ?_
    refine lv_if_le (tgt := 137) hx hb dX1_buyShares_62 (by decide) (fun c62 => ?_) (fun c62 => ?_)
    · skip
      exact W.widen (Nat.le_of_ble_eq_true rfl) (Nat.le_of_ble_eq_true rfl) (k137 _ _ _ ⟨0, hC.to (by rw [kBuy1, if_neg (Int32.not_lt.mpr c62)])⟩ hP hD hS)
    · skip
      refine lv_aload_n hx hb dX1_buyShares_65 rfl (lv_at hl 5 rfl) ?_
      refine sg_new (n + 3 + k) (ci := 0) (fs := lotF (fun _ => 0)) (C := RX0) (T := TX0) (N := 7) hx hb hts wi_X1_buyShares_X0 tyX0 tyX0_ok hown (hts (.classLink RX1 9 RX0) (by decide +kernel)) (hts (.instantiable RX0 7) (by decide +kernel)) (hts (.initialized RX0) (by decide +kernel)) hK hP hD hS hA rfl (fun j hj => by rcases (show j = 0 ∨ j = 1 ∨ j = 2 ∨ j = 3 ∨ j = 4 ∨ j = 5 ∨ j = 6 by omega) with rfl | rfl | rfl | rfl | rfl | rfl | rfl <;> rfl) (Nat.le_of_ble_eq_true rfl) (Nat.le_of_ble_eq_true rfl) dX1_buyShares_66 (fun q9 H hP hD hS => ?_)
      have hC := hC.fresh hk hrn (q := q9) (e := .inr (0, lotF (fun _ => 0)))
      refine lv_dup hx hb dX1_buyShares_69 rfl ?_
      refine lv_iload_n hx hb dX1_buyShares_70 rfl (lv_at hl 6 rfl) ?_
      refine lv_iload_n hx hb dX1_buyShares_71 rfl (lv_at hl 7 rfl) ?_
      refine lv_iload hx hb dX1_buyShares_72 (lv_at hl 3 rfl) ?_
      refine lv_aload_n hx hb dX1_buyShares_74 rfl (lv_at hl 5 rfl) ?_
      refine va_get (ref := RX1) (v := .int (kI c 8)) hx hb hts wi_X1_buyShares_X1 hown hK (sg_one hP (hC.1)) 0 rfl rfl 8 (by decide) (hts (.fieldLink RX1 25 RX1 "offerMonth" "I") (by decide +kernel)) (fun _ h => h) rfl dX1_buyShares_75 ?_
      refine lv_aload_n hx hb dX1_buyShares_78 rfl (lv_at hl 5 rfl) ?_
      refine va_get (ref := RX1) (v := .int (kI c 9)) hx hb hts wi_X1_buyShares_X1 hown hK (sg_one hP (hC.1)) 0 rfl rfl 9 (by decide) (hts (.fieldLink RX1 28 RX1 "offerPrice" "I") (by decide +kernel)) (fun _ h => h) rfl dX1_buyShares_79 ?_
      refine lv_iload hx hb dX1_buyShares_82 (lv_at hl 0 rfl) ?_
      refine sg_callv hD hS hA (va_runIN (As := [.int mo, .int price, .int (kEach c price), .int (kI c 8), .int (kI c 9), .int (kNum c mo price ce)]) (rest := [.ref q9, .ref aO]) (b := q9) ⟨hx, hb, hml, hown, hts⟩ (c_X0_init l D Y _ _ (n + 3 + k) q9 mo price ((kEach c price)) ((kI c 8)) ((kI c 9)) ((kNum c mo price ce)) sg_ue) ⟨(va_cnB 6 hts gX1_buyShares_X0_init_n65 rfl rfl rfl (hN.2.1 (.methodLinkNest RX1 65 yX0_init RX2) (List.mem_of_getElem? (i := 12) rfl)) (hts (.initialized RX0) (by decide +kernel)) (by decide +kernel) ⟨Nat.le_of_ble_eq_true rfl, Nat.le_of_ble_eq_true rfl⟩), rfl, (hts (.instanceMethod yX0_init) (by decide +kernel))⟩ (sg_preS hK hP hD hN hX hS hA) rfl rfl hl.1 rfl (lv_room (Nat.le_of_ble_eq_true rfl)) dX1_buyShares_84 ⟨Nat.le_of_ble_eq_true rfl, Nat.le_of_ble_eq_true rfl⟩) (fun σ' H locs hw hP hD hS => ?_)
      have hC := hC.off hk hrn hw.2
      have hv9 : σ' (n + 3 + k) = some (q9, .inr (0, lotF (kLotV c mo price (kNum c mo price ce)))) := hw.1
      refine sg_callv hD hS hA (va_runV (As := [.ref q9]) (rest := []) ⟨hx, hb, hml, hown, hts⟩ (c_X1_putLot l D Y _ _ n aO aL aC c k q9 (kLotV c mo price (kNum c mo price ce)) hC.self hv9 hk hmo) (cwV 1 hts gX1_buyShares_X1_putLot rfl rfl rfl (by decide +kernel) ⟨Nat.le_of_ble_eq_true rfl, Nat.le_of_ble_eq_true rfl⟩) (sg_preV (q := (RX1, TX1, 14)) (hC.1) rfl hK hP hD hN hX hS hA) rfl rfl hl.1 rfl (lv_room (Nat.le_of_ble_eq_true rfl)) dX1_buyShares_87 ⟨Nat.le_of_ble_eq_true rfl, Nat.le_of_ble_eq_true rfl⟩) (fun σ' H locs hw hP hD hS => ?_)
      have hC := hC.trans hw
      refine lv_aload_n hx hb dX1_buyShares_90 rfl (lv_at hl 5 rfl) ?_
      refine lv_iload hx hb dX1_buyShares_91 (lv_at hl 4 rfl) ?_
      refine lv_iload hx hb dX1_buyShares_93 (lv_at hl 0 rfl) ?_
      refine lv_i2l hx hb dX1_buyShares_95 rfl ?_
      refine lv_aload_n hx hb dX1_buyShares_96 rfl (lv_at hl 5 rfl) ?_
      refine va_get (ref := RX1) (v := .int (kI (uKT c k q9 (kLotV c mo price (kNum c mo price ce))) 9)) hx hb hts wi_X1_buyShares_X1 hown hK (sg_one hP (hC.1)) 0 rfl rfl 9 (by decide) (hts (.fieldLink RX1 28 RX1 "offerPrice" "I") (by decide +kernel)) (fun _ h => h) rfl dX1_buyShares_97 ?_
      refine lv_i2l hx hb dX1_buyShares_100 rfl ?_
      refine lv_lmul hx hb dX1_buyShares_101 ?_
      refine sg_callv hD hS hA (va_runV (As := [.int (mo / 12), .long (((kNum c mo price ce)).toInt64 * ((kI (uKT c k q9 (kLotV c mo price (kNum c mo price ce))) 9)).toInt64)]) (rest := []) ⟨hx, hb, hml, hown, hts⟩ (c_X1_addCounted l D Y _ _ n aO aL aC (uKT c k q9 (kLotV c mo price (kNum c mo price ce))) ((mo / 12)) ((((kNum c mo price ce)).toInt64 * ((kI (uKT c k q9 (kLotV c mo price (kNum c mo price ce))) 9)).toInt64)) hC.self) (cwV 2 hts gX1_buyShares_X1_addCounted rfl rfl rfl (by decide +kernel) ⟨Nat.le_of_ble_eq_true rfl, Nat.le_of_ble_eq_true rfl⟩) (sg_preV (q := (RX1, TX1, 14)) (hC.1) rfl hK hP hD hN hX hS hA) rfl rfl hl.1 rfl (lv_room (Nat.le_of_ble_eq_true rfl)) dX1_buyShares_102 ⟨Nat.le_of_ble_eq_true rfl, Nat.le_of_ble_eq_true rfl⟩) (fun σ' H locs hw hP hD hS => ?_)
      have hC := hC.trans hw
      refine lv_aload_n hx hb dX1_buyShares_105 rfl (lv_at hl 5 rfl) ?_
      refine lv_dup hx hb dX1_buyShares_106 rfl ?_
      refine va_get (ref := RX1) (v := .long (kL (kAdd (uKT c k q9 (kLotV c mo price (kNum c mo price ce))) (mo / 12) ((((kNum c mo price ce)).toInt64 * ((kI (uKT c k q9 (kLotV c mo price (kNum c mo price ce))) 9)).toInt64))) 4)) hx hb hts wi_X1_buyShares_X1 hown hK (sg_one hP (hC.1)) 0 rfl rfl 4 (by decide) (hts (.fieldLink RX1 31 RX1 "money" "J") (by decide +kernel)) (fun _ h => h) rfl dX1_buyShares_107 ?_
      refine lv_iload hx hb dX1_buyShares_110 (lv_at hl 0 rfl) ?_
      refine lv_i2l hx hb dX1_buyShares_112 rfl ?_
      refine lv_iload hx hb dX1_buyShares_113 (lv_at hl 3 rfl) ?_
      refine lv_i2l hx hb dX1_buyShares_115 rfl ?_
      refine lv_lmul hx hb dX1_buyShares_116 ?_
      refine lv_lsub hx hb dX1_buyShares_117 ?_
      refine sg_put (ref := RX1) (ty := .long) (v := .long ((kL (kAdd (uKT c k q9 (kLotV c mo price (kNum c mo price ce))) (mo / 12) ((((kNum c mo price ce)).toInt64 * ((kI (uKT c k q9 (kLotV c mo price (kNum c mo price ce))) 9)).toInt64))) 4) - (((kNum c mo price ce)).toInt64 * ((kEach c price)).toInt64))) hx hb hts wi_X1_buyShares_X1 tyX1 tyX1_ok nmX1 hown hK hP hD hS (hC.1) rfl 4 (by decide) (hts (.fieldLink RX1 31 RX1 "money" "J") (by decide +kernel)) (fun _ h => h) rfl (by decide +kernel) rfl rfl (Nat.le_of_ble_eq_true rfl) dX1_buyShares_118 (fun H locs hP hD hS => ?_)
      have hC := hC.l4 (v := ((kL (kAdd (uKT c k q9 (kLotV c mo price (kNum c mo price ce))) (mo / 12) ((((kNum c mo price ce)).toInt64 * ((kI (uKT c k q9 (kLotV c mo price (kNum c mo price ce))) 9)).toInt64))) 4) - (((kNum c mo price ce)).toInt64 * ((kEach c price)).toInt64)))
      refine lv_aload_n hx hb dX1_buyShares_121 rfl (lv_at hl 5 rfl) ?_
      refine lv_dup hx hb dX1_buyShares_122 rfl ?_
      refine va_get (ref := RX1) (v := .long (kL (uKL (kAdd (uKT c k q9 (kLotV c mo price (kNum c mo price ce))) (mo / 12) ((((kNum c mo price ce)).toInt64 * ((kI (uKT c k q9 (kLotV c mo price (kNum c mo price ce))) 9)).toInt64))) 4 (((kL (kAdd (uKT c k q9 (kLotV c mo price (kNum c mo price ce))) (mo / 12) ((((kNum c mo price ce)).toInt64 * ((kI (uKT c k q9 (kLotV c mo price (kNum c mo price ce))) 9)).toInt64))) 4) - (((kNum c mo price ce)).toInt64 * ((kEach c price)).toInt64)))) 5)) hx hb hts wi_X1_buyShares_X1 hown hK (sg_one hP (hC.1)) 0 rfl rfl 5 (by decide) (hts (.fieldLink RX1 76 RX1 "spent" "J") (by decide +kernel)) (fun _ h => h) rfl dX1_buyShares_123 ?_
      refine lv_iload hx hb dX1_buyShares_126 (lv_at hl 0 rfl) ?_
      refine lv_i2l hx hb dX1_buyShares_128 rfl ?_
      refine lv_iload hx hb dX1_buyShares_129 (lv_at hl 3 rfl) ?_
      refine lv_i2l hx hb dX1_buyShares_131 rfl ?_
      refine lv_lmul hx hb dX1_buyShares_132 ?_
      refine lv_ladd hx hb dX1_buyShares_133 ?_
      refine sg_put (ref := RX1) (ty := .long) (v := .long ((kL (uKL (kAdd (uKT c k q9 (kLotV c mo price (kNum c mo price ce))) (mo / 12) ((((kNum c mo price ce)).toInt64 * ((kI (uKT c k q9 (kLotV c mo price (kNum c mo price ce))) 9)).toInt64))) 4 (((kL (kAdd (uKT c k q9 (kLotV c mo price (kNum c mo price ce))) (mo / 12) ((((kNum c mo price ce)).toInt64 * ((kI (uKT c k q9 (kLotV c mo price (kNum c mo price ce))) 9)).toInt64))) 4) - (((kNum c mo price ce)).toInt64 * ((kEach c price)).toInt64)))) 5) + (((kNum c mo price ce)).toInt64 * ((kEach c price)).toInt64))) hx hb hts wi_X1_buyShares_X1 tyX1 tyX1_ok nmX1 hown hK hP hD hS (hC.1) rfl 5 (by decide) (hts (.fieldLink RX1 76 RX1 "spent" "J") (by decide +kernel)) (fun _ h => h) rfl (by decide +kernel) rfl rfl (Nat.le_of_ble_eq_true rfl) dX1_buyShares_134 (fun H locs hP hD hS => ?_)
      have hC := hC.l5 (v := ((kL (uKL (kAdd (uKT c k q9 (kLotV c mo price (kNum c mo price ce))) (mo / 12) ((((kNum c mo price ce)).toInt64 * ((kI (uKT c k q9 (kLotV c mo price (kNum c mo price ce))) 9)).toInt64))) 4 (((kL (kAdd (uKT c k q9 (kLotV c mo price (kNum c mo price ce))) (mo / 12) ((((kNum c mo price ce)).toInt64 * ((kI (uKT c k q9 (kLotV c mo price (kNum c mo price ce))) 9)).toInt64))) 4) - (((kNum c mo price ce)).toInt64 * ((kEach c price)).toInt64)))) 5) + (((kNum c mo price ce)).toInt64 * ((kEach c price)).toInt64)))
      exact k137 _ _ _ ⟨q9, hC.to (by rw [kBuy1, if_pos (Int32.not_le.mp c62), hmk, kL_uKL, if_neg (by decide), kL_kAdd, kL_kAdd, kL_uKT, kL_uKT, kI_uKT])⟩ hP hD hS

theorem wi_X1_init_X1 : ∀ w ∈ wsX10, w ∈ wsX1_init := by decide +kernel
set_option maxHeartbeats 4000000 in
set_option maxRecDepth 100000 in
theorem c_X1_init (l : Launch) (D : va_G) (Y : Nat → ClassId) (σ : sg_W) (sz : Nat) (n aO : Nat) (ra mo price : Int32) (h0 : σ n = some (aO, .inr (1, mZero))) : Met l yX1_init wsX1_init ({ frames := 1, cells := 2, slots := 15, locals := 12 } : Room) (va_Pc [.ref aO, .int ra, .int mo, .int price] (sg_U D Y σ sz)) (va_Qv (fun σ' => ∃ aL aC, KF Y n aO aL aC σ (kNew ra mo price) σ') (sg_B D σ sz) (sg_A σ sz)) 2 15 (sg_A σ sz) := by
  refine sg_met (cc := cX1_init) (maxL := 4) (ret := none) (by decide) rfl (Nat.le_of_ble_eq_true rfl) ?_
  intro p e s m below meth cd9 ls hx hb hml hr hown hts hlocks hnm hP hK hD hN hX hA hS hsz hl
  have hl : lv_has ls 4 [(0, .ref aO), (1, .int ra), (2, .int mo), (3, .int price)] := hl
  refine lv_aload_n hx hb dX1_init_0 rfl (lv_at hl 0 rfl) ?_
  refine W.objInit hx hb hown (hts (.methodLink RX1 3 objectInit) (by decide +kernel)) (hts (.instanceMethod objectInit) (by decide +kernel)) (hts (.code objectInit ⟨#[0xb1]⟩ 1 none) (by decide +kernel)) rfl (by rw [hml]; exact hl.1) rfl dX1_init_1 (Nat.le_of_ble_eq_true rfl) (Nat.le_of_ble_eq_true rfl) ?_
  refine W.eq (g2 := F0 m 4 ls []) rfl ?_
  refine lv_aload_n hx hb dX1_init_4 rfl (lv_at hl 0 rfl) ?_
  refine lv_bipush (v := 10) hx hb dX1_init_5 (by decide) ?_
  refine sg_newq (n + 1) 3 hx hb hown (hts (.classLink RX1 9 RX0) (by decide +kernel)) hN.2.2.2.1.1 rfl hK hP hD hS hA (by decide) rfl (Nat.le_of_ble_eq_true rfl) (Nat.le_of_ble_eq_true rfl) (Nat.le_of_ble_eq_true rfl) dX1_init_7 (fun q7 H hP hD hS => ?_)
  refine sg_putF (ref := RX1) (ty := .array (.object "LookbackPlan$Lot")) (v := .ref q7) hx hb hts wi_X1_init_X1 tyX1 tyX1_ok nmX1 hown hK hP hD hS ((sg_un (by omega)).trans (h0)) rfl 0 (by decide) (hts (.fieldLink RX1 11 RX1 "lots" "[LLookbackPlan$Lot;") (by decide +kernel)) (fun _ h => h) rfl hnm rfl (by decide +kernel) rfl rfl (Nat.le_of_ble_eq_true rfl) dX1_init_10 (fun H locs hP hD hS => ?_)
  refine lv_aload_n hx hb dX1_init_13 rfl (lv_at hl 0 rfl) ?_
  refine lv_iconst (v := 5) hx hb dX1_init_14 (by decide) ?_
  refine sg_newa (n + 2) 1 (atype := .long) hx hb (hts (.arrayClass .long) (by decide +kernel)) rfl hK hP hD hS hA (a0 := (5, .inr (.inl (fun _ => 0)))) (fun cA => rfl) (by decide) rfl (Nat.le_of_ble_eq_true rfl) (Nat.le_of_ble_eq_true rfl) (Nat.le_of_ble_eq_true rfl) dX1_init_15 (fun q8 H hP hD hS => ?_)
  refine sg_putF (ref := RX1) (ty := .array .long) (v := .ref q8) hx hb hts wi_X1_init_X1 tyX1 tyX1_ok nmX1 hown hK hP hD hS ((sg_un (by omega)).trans (sg_ue)) rfl 1 (by decide) (hts (.fieldLink RX1 17 RX1 "countedByYear" "[J") (by decide +kernel)) (fun _ h => h) rfl hnm rfl (by decide +kernel) rfl rfl (Nat.le_of_ble_eq_true rfl) dX1_init_17 (fun H locs hP hD hS => ?_)
  refine lv_aload_n hx hb dX1_init_20 rfl (lv_at hl 0 rfl) ?_
  refine lv_iload_n hx hb dX1_init_21 rfl (lv_at hl 1 rfl) ?_
  refine sg_put (ref := RX1) (ty := .int) (v := .int ra) hx hb hts wi_X1_init_X1 tyX1 tyX1_ok nmX1 hown hK hP hD hS (sg_ue) rfl 2 (by decide) (hts (.fieldLink RX1 21 RX1 "rate" "I") (by decide +kernel)) (fun _ h => h) rfl (by decide +kernel) rfl rfl (Nat.le_of_ble_eq_true rfl) dX1_init_22 (fun H locs hP hD hS => ?_)
  refine lv_aload_n hx hb dX1_init_25 rfl (lv_at hl 0 rfl) ?_
  refine lv_iload_n hx hb dX1_init_26 rfl (lv_at hl 2 rfl) ?_
  refine sg_put (ref := RX1) (ty := .int) (v := .int mo) hx hb hts wi_X1_init_X1 tyX1 tyX1_ok nmX1 hown hK hP hD hS (sg_ue) rfl 8 (by decide) (hts (.fieldLink RX1 25 RX1 "offerMonth" "I") (by decide +kernel)) (fun _ h => h) rfl (by decide +kernel) rfl rfl (Nat.le_of_ble_eq_true rfl) dX1_init_27 (fun H locs hP hD hS => ?_)
  refine lv_aload_n hx hb dX1_init_30 rfl (lv_at hl 0 rfl) ?_
  refine lv_iload_n hx hb dX1_init_31 rfl (lv_at hl 3 rfl) ?_
  refine sg_put (ref := RX1) (ty := .int) (v := .int price) hx hb hts wi_X1_init_X1 tyX1 tyX1_ok nmX1 hown hK hP hD hS (sg_ue) rfl 9 (by decide) (hts (.fieldLink RX1 28 RX1 "offerPrice" "I") (by decide +kernel)) (fun _ h => h) rfl (by decide +kernel) rfl rfl (Nat.le_of_ble_eq_true rfl) dX1_init_32 (fun H locs hP hD hS => ?_)
  exact sg_vret hx hb hr hlocks hP hD hS (Nat.le_of_ble_eq_true rfl) (Nat.le_of_ble_eq_true rfl) dX1_init_35 (⟨q7, q8, kNew_KF⟩)
end
section
section
variable {p : Program} {l : Launch} {e : Env} {R : Room} {s : State} {m : MethodId} {args : Array Value} {below : List Frame} {meth : Method} {c : Code} {H : Heap} {locs : List Loc} {cells slots : Nat} {Q : State → Prop}
variable {mc ms : Nat} {free : Addr → Prop} {A0 A1 : Nat → Prop} {H0 : Heap} {a : Array Value} {pc : Nat} {ls : Array Slot} {st0 rest : List Value}
theorem vx_callq {S SX : Type} {post : Option Nat → S → Prop} {px : SX → Prop} {B : S → State → Prop} {BX : String → SX → State → Prop} {AX : Nat → Prop} (hr : vx_Run p l e R s m args below meth c H locs cells slots mc ms (F0 m pc ls st0) rest (va_Qq post B A1 a) (vx_X px BX AX) free) (hS : va_S A0 H0 H locs) (hA : ∀ q, q < H.size → A1 q → A0 q) (hf : ∀ q, free q → A0 q) (hAX : ∀ q, q < H.size → AX q → A0 q)
    (kx : ∀ (E : String) (ce : Cell) (q9 : Addr) (u : SX) (t : State) (H1 : Heap) (locs1 : List Loc), t.heap = H1 → s.vm.Alike t.vm → px u → BX E u t → H.size ≤ H1.size → (∀ q : Nat, q < H.size → ¬ AX q → H1[q]? = H[q]?) → va_S A0 H0 H1 locs1 → H1[q9]? = some ce → ce.vm = .none → s.vm.findClass E = some ce.cls → vx_W p l e R s m args below meth c H1 locs1 (cells + mc) (slots + ms) Q (F0 m pc ls rest) q9)
    (kk : ∀ (r : Option Nat) (u : S) (t : State) (H1 : Heap) (locs1 : List Loc), t.heap = H1 → s.vm.Alike t.vm → post r u → B u t → H.size ≤ H1.size → (∀ q : Nat, q < H.size → ¬ A1 q → H1[q]? = H[q]?) → va_S A0 H0 H1 locs1 → W p l e R s m args below meth c H1 locs1 (cells + mc) (slots + ms) Q (F0 m (pc + 3) ls (va_rf r :: rest))) : W p l e R s m args below meth c H locs cells slots Q (F0 m pc ls st0) := by
  intro T hT X
  rcases hr T hT X with ⟨v, st₀, t, T', L, h0, X', hL, e1, e2, ⟨⟨r, u, hv, hp, hb⟩, hF⟩, st⟩ | ⟨q, st₀, t, T', L, E, ce, h0, X', hL, e1, e2, ⟨u, hp, hb, hF⟩, hce, hcv, hcl, st⟩
  · cases hv
    obtain ⟨k1, k2, k3⟩ := vx_keep h0 e1 hS hA hf hL hF
    obtain ⟨t2, a1, b1⟩ := kk r u t T'.heap (locs ++ L) e1.symm (by rw [← e2]; exact X'.warmed.alike) hp hb k1 k2 k3 T' rfl X'
    exact ⟨t2, st t2 a1, b1⟩
  · obtain ⟨k1, k2, k3⟩ := vx_keep h0 e1 hS hAX hf hL hF
    obtain ⟨t2, a1, b1⟩ := kx E ce q u t T'.heap (locs ++ L) e1.symm (by rw [← e2]; exact X'.warmed.alike) hp hb k1 k2 k3 (by rw [e1]; exact hce) hcv hcl T' rfl X'
    exact ⟨t2, st.trans a1, b1⟩
end
/-! throwing, over worlds by names: a throw leaves the world as it is -/
def sg_T9 (D : va_G) (σ : sg_W) (sz : Nat) (px : String → Prop) : String → State → State → Prop := vx_X (fun _ : Unit => True) (fun E _ t => px E ∧ sg_P D σ t.heap) (sg_A σ sz)
section SX
variable {p : Program} {l : Launch} {e : Env} {R : Room} {s : State} {m : MethodId} {args : Array Value} {below : List Frame} {meth : Method} {c : Code} {H : Heap} {locs : List Loc} {cells slots : Nat} {Q : State → Prop}
variable {cc : ByteArray} {pc : Nat} {ls : Array Slot} {rest : List Value} {D : va_G} {Y : Nat → ClassId} {A : Nat → Prop} {σ : sg_W} {H0 : Heap} {mc ms : Nat} {st0 : List Value} {a : Array Value} {px : String → Prop}
theorem sg_throw {Qc : Array Value → State → Outcome → State → Prop} {own cls text : String} {names : List String} {ik is ic sz : Nat} {B : List Cond} (hexec : p.tables.exec = Jvm.exec) (hb : c.code = cc) (hfl : l.stackTraces = false) (hown : s.vm.findClass own = some m.cls) (hcls : Bundle.fit cls = true) (hnames : ∀ n ∈ names, Bundle.fit n = true)
    (hk : (Cond.classLink own ik cls).before args s = true) (hini : (Cond.initialized cls).before args s = true) (hstr : ∃ sa, vk_R own is text sa s) (h1 : ∀ w ∈ (vx_atS own ic cls names).filter goodWord, w.before args s = true) (h2 : ∀ w ∈ (vx_atS own ic cls names).filter (fun w => !goodWord w), w ∈ B) (h3 : ∀ w ∈ B, w.before args s = true)
    (hgood : ∀ w ∈ Cond.classLink own ik cls :: Cond.initialized cls :: vx_atS own ic cls names, vx_ot w = true) (hX : sg_X (sg_A σ sz) s s.heap) (hP : sg_P D σ H) (hS : va_S (sg_A σ sz) s.heap H locs) (hsize : ls.size = c.maxLocals)
    (d0 : decode cc pc = .ok (.new ik, 3)) (d3 : decode cc (pc + 3) = .ok (.dup, 1)) (d4 : decode cc (pc + 4) = .ok (.ldc is, 2)) (d6 : decode cc (pc + 6) = .ok (.invokespecial ic, 3)) (d9 : decode cc (pc + 9) = .ok (.athrow, 1)) (hex : ∀ x ∈ c.exceptionTable.toList, False)
    (hRframes : names.length + 3 < R.frames) (hRlocals : (rest.map fun v => v.category).sum + (13 * (names.length + 1) + 43) ≤ R.locals) (hRcells : cells + 1 ≤ R.cells) (hRslots : slots + 6 ≤ R.slots) (hlocks : meth.locks = false) (hc : cells + 1 ≤ mc) (hs : slots + 6 ≤ ms) (hpx : px cls) :
    W p l e R s m args below meth c H locs cells slots (vx_MQ below Qc (sg_T9 D σ sz px) args s mc ms (sg_A σ sz)) (F0 m pc ls rest) := by
  obtain ⟨sa, hsa⟩ := hstr
  refine vx_throwS hexec hb hfl hown hcls hnames hk hini hsa (vx_hat h1 h2 h3) hgood hX.1 hX.2 hS hsize d0 d3 d4 d6 d9 (fun x hx => (hex x hx).elim) hRframes hRlocals hRcells hRslots hlocks (fun t hvm hsz hq => ?_) hS.2.2 hc hs
  refine ⟨(), trivial, ⟨hpx, fun n q h => (hP n q h).kept (hq q.1 (hP n q h).lt)⟩, ⟨Nat.le_trans hS.1 hsz, fun q h4 h5 => (hq q (Nat.lt_of_lt_of_le h4 hS.1)).trans (hS.2.1 q h4 h5)⟩⟩
theorem sg_xout {Qc : Array Value → State → Outcome → State → Prop} {sz : Nat} {E : String} {ce : Cell} {q : Addr} (hex : ∀ x ∈ c.exceptionTable.toList, False) (hlocks : meth.locks = false) (hcell : H[q]? = some ce) (hv : ce.vm = .none) (hcl : s.vm.findClass E = some ce.cls) (hP : sg_P D σ H) (hS : va_S (sg_A σ sz) s.heap H locs) (hc : cells ≤ mc) (hs : slots ≤ ms) (hpx : px E) :
    vx_W p l e R s m args below meth c H locs cells slots (vx_MQ below Qc (sg_T9 D σ sz px) args s mc ms (sg_A σ sz)) (F0 m pc ls rest) q :=
  vx_out (fun x hx => (hex x hx).elim) hlocks hcell hv hcl (fun t ht _ => ⟨(), trivial, ⟨hpx, by rw [ht]; exact hP⟩, hS.F ht⟩) hS.2.2 hc hs
theorem sg_xcalli {Post : Int32 → sg_W → Prop} (hD : sg_D A σ) (hS : va_S A H0 H locs) (hA : ∀ q, H0.size ≤ q → A q) (hr : vx_Run p l e R s m args below meth c H locs cells slots mc ms (F0 m pc ls st0) rest (va_Qi Post (sg_B D σ H.size) (sg_A σ H.size) a) (sg_T9 D σ H.size px) (sg_A σ H.size))
    (kx : ∀ (E : String) (ce : Cell) (q9 : Addr) (H1 : Heap) (locs1 : List Loc), px E → sg_P D σ H1 → sg_D A σ → va_S A H0 H1 locs1 → H1[q9]? = some ce → ce.vm = .none → s.vm.findClass E = some ce.cls → vx_W p l e R s m args below meth c H1 locs1 (cells + mc) (slots + ms) Q (F0 m pc ls rest) q9)
    (kk : ∀ (r : Int32) (σ' : sg_W) (H1 : Heap) (locs1 : List Loc), Post r σ' → sg_P D σ' H1 → sg_D A σ' → va_S A H0 H1 locs1 → W p l e R s m args below meth c H1 locs1 (cells + mc) (slots + ms) Q (F0 m (pc + 3) ls (.int r :: rest))) : W p l e R s m args below meth c H locs cells slots Q (F0 m pc ls st0) := by
  have hsub := sg_A.sub hD (fun q h => hA q (Nat.le_trans hS.1 h))
  refine vx_calli hr hS (fun q _ h => hsub q h) hsub (fun q _ h => hsub q h) (fun E ce q9 u t H1 locs1 ht hvm hw hB hz hk hS1 hce hcv hcl => ?_) (fun r σ' t H1 locs1 ht hvm hw hB hz hk hS1 => ?_)
  · exact kx E ce q9 H1 locs1 hB.1 (by rw [← ht]; exact hB.2) hD hS1 hce hcv hcl
  · obtain ⟨h1, h2⟩ := sg_behind hD hS hA ht hB
    exact kk r σ' H1 locs1 hw h1 h2 hS1
theorem sg_xcalll {Post : Int64 → sg_W → Prop} (hD : sg_D A σ) (hS : va_S A H0 H locs) (hA : ∀ q, H0.size ≤ q → A q) (hr : vx_Run p l e R s m args below meth c H locs cells slots mc ms (F0 m pc ls st0) rest (va_Ql Post (sg_B D σ H.size) (sg_A σ H.size) a) (sg_T9 D σ H.size px) (sg_A σ H.size))
    (kx : ∀ (E : String) (ce : Cell) (q9 : Addr) (H1 : Heap) (locs1 : List Loc), px E → sg_P D σ H1 → sg_D A σ → va_S A H0 H1 locs1 → H1[q9]? = some ce → ce.vm = .none → s.vm.findClass E = some ce.cls → vx_W p l e R s m args below meth c H1 locs1 (cells + mc) (slots + ms) Q (F0 m pc ls rest) q9)
    (kk : ∀ (r : Int64) (σ' : sg_W) (H1 : Heap) (locs1 : List Loc), Post r σ' → sg_P D σ' H1 → sg_D A σ' → va_S A H0 H1 locs1 → W p l e R s m args below meth c H1 locs1 (cells + mc) (slots + ms) Q (F0 m (pc + 3) ls (.long r :: rest))) : W p l e R s m args below meth c H locs cells slots Q (F0 m pc ls st0) := by
  have hsub := sg_A.sub hD (fun q h => hA q (Nat.le_trans hS.1 h))
  refine vx_calll hr hS (fun q _ h => hsub q h) hsub (fun q _ h => hsub q h) (fun E ce q9 u t H1 locs1 ht hvm hw hB hz hk hS1 hce hcv hcl => ?_) (fun r σ' t H1 locs1 ht hvm hw hB hz hk hS1 => ?_)
  · exact kx E ce q9 H1 locs1 hB.1 (by rw [← ht]; exact hB.2) hD hS1 hce hcv hcl
  · obtain ⟨h1, h2⟩ := sg_behind hD hS hA ht hB
    exact kk r σ' H1 locs1 hw h1 h2 hS1
theorem sg_xcallv {Post : sg_W → Prop} (hD : sg_D A σ) (hS : va_S A H0 H locs) (hA : ∀ q, H0.size ≤ q → A q) (hr : vx_Run p l e R s m args below meth c H locs cells slots mc ms (F0 m pc ls st0) rest (va_Qv Post (sg_B D σ H.size) (sg_A σ H.size) a) (sg_T9 D σ H.size px) (sg_A σ H.size))
    (kx : ∀ (E : String) (ce : Cell) (q9 : Addr) (H1 : Heap) (locs1 : List Loc), px E → sg_P D σ H1 → sg_D A σ → va_S A H0 H1 locs1 → H1[q9]? = some ce → ce.vm = .none → s.vm.findClass E = some ce.cls → vx_W p l e R s m args below meth c H1 locs1 (cells + mc) (slots + ms) Q (F0 m pc ls rest) q9)
    (kk : ∀ (σ' : sg_W) (H1 : Heap) (locs1 : List Loc), Post σ' → sg_P D σ' H1 → sg_D A σ' → va_S A H0 H1 locs1 → W p l e R s m args below meth c H1 locs1 (cells + mc) (slots + ms) Q (F0 m (pc + 3) ls rest)) : W p l e R s m args below meth c H locs cells slots Q (F0 m pc ls st0) := by
  have hsub := sg_A.sub hD (fun q h => hA q (Nat.le_trans hS.1 h))
  refine vx_callv hr hS (fun q _ h => hsub q h) hsub (fun q _ h => hsub q h) (fun E ce q9 u t H1 locs1 ht hvm hw hB hz hk hS1 hce hcv hcl => ?_) (fun σ' t H1 locs1 ht hvm hw hB hz hk hS1 => ?_)
  · exact kx E ce q9 H1 locs1 hB.1 (by rw [← ht]; exact hB.2) hD hS1 hce hcv hcl
  · obtain ⟨h1, h2⟩ := sg_behind hD hS hA ht hB
    exact kk σ' H1 locs1 hw h1 h2 hS1
theorem sg_xcallq {Post : Option Nat → sg_W → Prop} (hD : sg_D A σ) (hS : va_S A H0 H locs) (hA : ∀ q, H0.size ≤ q → A q) (hr : vx_Run p l e R s m args below meth c H locs cells slots mc ms (F0 m pc ls st0) rest (va_Qq Post (sg_B D σ H.size) (sg_A σ H.size) a) (sg_T9 D σ H.size px) (sg_A σ H.size))
    (kx : ∀ (E : String) (ce : Cell) (q9 : Addr) (H1 : Heap) (locs1 : List Loc), px E → sg_P D σ H1 → sg_D A σ → va_S A H0 H1 locs1 → H1[q9]? = some ce → ce.vm = .none → s.vm.findClass E = some ce.cls → vx_W p l e R s m args below meth c H1 locs1 (cells + mc) (slots + ms) Q (F0 m pc ls rest) q9)
    (kk : ∀ (r : Option Nat) (σ' : sg_W) (H1 : Heap) (locs1 : List Loc), Post r σ' → sg_P D σ' H1 → sg_D A σ' → va_S A H0 H1 locs1 → W p l e R s m args below meth c H1 locs1 (cells + mc) (slots + ms) Q (F0 m (pc + 3) ls (va_rf r :: rest))) : W p l e R s m args below meth c H locs cells slots Q (F0 m pc ls st0) := by
  have hsub := sg_A.sub hD (fun q h => hA q (Nat.le_trans hS.1 h))
  refine vx_callq hr hS (fun q _ h => hsub q h) hsub (fun q _ h => hsub q h) (fun E ce q9 u t H1 locs1 ht hvm hw hB hz hk hS1 hce hcv hcl => ?_) (fun r σ' t H1 locs1 ht hvm hw hB hz hk hS1 => ?_)
  · exact kx E ce q9 H1 locs1 hB.1 (by rw [← ht]; exact hB.2) hD hS1 hce hcv hcl
  · obtain ⟨h1, h2⟩ := sg_behind hD hS hA ht hB
    exact kk r σ' H1 locs1 hw h1 h2 hS1
end SX
end
section
theorem m59 {x : Int32} (h : x < 0 ∨ 60 ≤ x) : ¬ qIn x 0 59 := by
  rintro ⟨h1, h2⟩
  simp only [Int32.lt_iff_toInt_lt, Int32.le_iff_toInt_le] at *
  have a1 : (0 : Int32).toInt = 0 := rfl
  have a2 : (60 : Int32).toInt = 60 := rfl
  have a3 : (59 : Int32).toInt = 59 := rfl
  omega
theorem m59b {x : Int32} (h1 : 0 ≤ x) (h2 : x < 60) : qIn x 0 59 := by
  refine ⟨h1, ?_⟩
  simp only [Int32.lt_iff_toInt_lt, Int32.le_iff_toInt_le] at *
  have a2 : (60 : Int32).toInt = 60 := rfl
  have a3 : (59 : Int32).toInt = 59 := rfl
  omega
set_option maxHeartbeats 4000000 in
set_option maxRecDepth 100000 in
theorem c_X2_refuseBadRate (l : Launch) (hfl : l.stackTraces = false) (D : va_G) (Y : Nat → ClassId) (σ : sg_W) (sz : Nat) (x : Int32) : vx_Met l yX2_refuseBadRate wsX2_refuseBadRate ({ frames := 6, cells := 1, slots := 6, locals := 90 } : Room) (va_Pc [.int x] (sg_U D Y σ sz)) (va_Qv (fun σ' => qIn x 1 15 ∧ σ = σ') (sg_B D σ sz) (sg_A σ sz)) (sg_T9 D σ sz (fun E => E = "java/lang/IllegalArgumentException" ∧ ¬ qIn x 1 15)) 1 6 (sg_A σ sz) := by
  refine sg_metX (cc := cX2_refuseBadRate) (maxL := 1) (ret := none) (by decide) rfl (Nat.le_of_ble_eq_true rfl) ?_
  intro p e s m below meth cd9 ls hx hb hml hex hr hown hts hlocks hnm hP hK hD hN hX hA hS hsz hl
  have hl : lv_has ls 1 [(0, .int x)] := hl
  refine lv_iload_n hx hb dX2_refuseBadRate_0 rfl (lv_at hl 0 rfl) ?_
  refine lv_iconst (v := 1) hx hb dX2_refuseBadRate_1 (by decide) ?_
  refine lv_icmp_lt (tgt := 11) hx hb dX2_refuseBadRate_2 (by decide) (fun c2 => ?_) (fun c2 => ?_)
  · skip
    exact sg_throw (cls := "java/lang/IllegalArgumentException") (names := ["java/lang/RuntimeException", "java/lang/Exception"]) (B := [.castable "java/lang/IllegalArgumentException" "java/lang/IllegalArgumentException", .declares (Bundle.initS "java/lang/RuntimeException"), .declares (Bundle.initS "java/lang/Exception"), .declares (Bundle.initS "java/lang/Throwable")]) hx hb hfl hown (by decide +kernel) (by decide +kernel) (hts (.classLink RX2 30 "java/lang/IllegalArgumentException") (by decide +kernel)) (hts (.initialized "java/lang/IllegalArgumentException") (by decide +kernel)) (hN.2.2.2.2 (156, "the rate is out of its range") (List.mem_of_getElem? (i := 4) rfl)) (fun w h => hts w (List.mem_cons_of_mem _ (List.mem_append_right _ h))) (by decide +kernel) (vx_c (va_Nw.use rfl (hN.2.2.1 _ (List.mem_of_getElem? (i := 1) rfl))) (vx_c (va_Nw.use rfl (hN.2.2.1 _ (List.mem_of_getElem? (i := 3) rfl))) (vx_c (va_Nw.use rfl (hN.2.2.1 _ (List.mem_of_getElem? (i := 4) rfl))) (vx_c (va_Nw.use rfl (hN.2.2.1 _ (List.mem_of_getElem? (i := 5) rfl))) vx_n)))) (by decide +kernel) hX hP hS (hl.1.trans hml.symm) dX2_refuseBadRate_11 dX2_refuseBadRate_14 dX2_refuseBadRate_15 dX2_refuseBadRate_17 dX2_refuseBadRate_20 hex (Nat.le_of_ble_eq_true rfl) (Nat.le_of_ble_eq_true rfl) (Nat.le_of_ble_eq_true rfl) (Nat.le_of_ble_eq_true rfl) hlocks (Nat.le_of_ble_eq_true rfl) (Nat.le_of_ble_eq_true rfl) (⟨rfl, by grind [Int32.not_le, Int32.not_lt]⟩)
  · skip
    refine lv_iload_n hx hb dX2_refuseBadRate_5 rfl (lv_at hl 0 rfl) ?_
    refine lv_bipush (v := 15) hx hb dX2_refuseBadRate_6 (by decide) ?_
    refine lv_icmp_le (tgt := 21) hx hb dX2_refuseBadRate_8 (by decide) (fun c8 => ?_) (fun c8 => ?_)
    · skip
      exact vx_ret (sg_vret hx hb hr hlocks hP hD hS (Nat.le_of_ble_eq_true rfl) (Nat.le_of_ble_eq_true rfl) dX2_refuseBadRate_21 (⟨by grind [Int32.not_le, Int32.not_lt], rfl⟩))
    · skip
      exact sg_throw (cls := "java/lang/IllegalArgumentException") (names := ["java/lang/RuntimeException", "java/lang/Exception"]) (B := [.castable "java/lang/IllegalArgumentException" "java/lang/IllegalArgumentException", .declares (Bundle.initS "java/lang/RuntimeException"), .declares (Bundle.initS "java/lang/Exception"), .declares (Bundle.initS "java/lang/Throwable")]) hx hb hfl hown (by decide +kernel) (by decide +kernel) (hts (.classLink RX2 30 "java/lang/IllegalArgumentException") (by decide +kernel)) (hts (.initialized "java/lang/IllegalArgumentException") (by decide +kernel)) (hN.2.2.2.2 (156, "the rate is out of its range") (List.mem_of_getElem? (i := 4) rfl)) (fun w h => hts w (List.mem_cons_of_mem _ (List.mem_append_right _ h))) (by decide +kernel) (vx_c (va_Nw.use rfl (hN.2.2.1 _ (List.mem_of_getElem? (i := 1) rfl))) (vx_c (va_Nw.use rfl (hN.2.2.1 _ (List.mem_of_getElem? (i := 3) rfl))) (vx_c (va_Nw.use rfl (hN.2.2.1 _ (List.mem_of_getElem? (i := 4) rfl))) (vx_c (va_Nw.use rfl (hN.2.2.1 _ (List.mem_of_getElem? (i := 5) rfl))) vx_n)))) (by decide +kernel) hX hP hS (hl.1.trans hml.symm) dX2_refuseBadRate_11 dX2_refuseBadRate_14 dX2_refuseBadRate_15 dX2_refuseBadRate_17 dX2_refuseBadRate_20 hex (Nat.le_of_ble_eq_true rfl) (Nat.le_of_ble_eq_true rfl) (Nat.le_of_ble_eq_true rfl) (Nat.le_of_ble_eq_true rfl) hlocks (Nat.le_of_ble_eq_true rfl) (Nat.le_of_ble_eq_true rfl) (⟨rfl, by grind [Int32.not_le, Int32.not_lt]⟩)

set_option maxHeartbeats 4000000 in
set_option maxRecDepth 100000 in
theorem c_X2_refuseBadMonth (l : Launch) (hfl : l.stackTraces = false) (D : va_G) (Y : Nat → ClassId) (σ : sg_W) (sz : Nat) (x : Int32) : vx_Met l yX2_refuseBadMonth wsX2_refuseBadMonth ({ frames := 6, cells := 1, slots := 6, locals := 90 } : Room) (va_Pc [.int x] (sg_U D Y σ sz)) (va_Qv (fun σ' => qIn x 0 59 ∧ σ = σ') (sg_B D σ sz) (sg_A σ sz)) (sg_T9 D σ sz (fun E => E = "java/lang/IndexOutOfBoundsException" ∧ ¬ qIn x 0 59)) 1 6 (sg_A σ sz) := by
  refine sg_metX (cc := cX2_refuseBadMonth) (maxL := 1) (ret := none) (by decide) rfl (Nat.le_of_ble_eq_true rfl) ?_
  intro p e s m below meth cd9 ls hx hb hml hex hr hown hts hlocks hnm hP hK hD hN hX hA hS hsz hl
  have hl : lv_has ls 1 [(0, .int x)] := hl
  refine lv_iload_n hx hb dX2_refuseBadMonth_0 rfl (lv_at hl 0 rfl) ?_
  refine lv_if_lt (tgt := 10) hx hb dX2_refuseBadMonth_1 (by decide) (fun c1 => ?_) (fun c1 => ?_)
  · skip
    exact sg_throw (cls := "java/lang/IndexOutOfBoundsException") (names := ["java/lang/RuntimeException", "java/lang/Exception"]) (B := [.castable "java/lang/IndexOutOfBoundsException" "java/lang/IndexOutOfBoundsException", .declares (Bundle.initS "java/lang/RuntimeException"), .declares (Bundle.initS "java/lang/Exception"), .declares (Bundle.initS "java/lang/Throwable")]) hx hb hfl hown (by decide +kernel) (by decide +kernel) (hts (.classLink RX2 117 "java/lang/IndexOutOfBoundsException") (by decide +kernel)) (hts (.initialized "java/lang/IndexOutOfBoundsException") (by decide +kernel)) (hN.2.2.2.2 (158, "there is no such month") (List.mem_of_getElem? (i := 5) rfl)) (fun w h => hts w (List.mem_cons_of_mem _ (List.mem_append_right _ h))) (by decide +kernel) (vx_c (va_Nw.use rfl (hN.2.2.1 _ (List.mem_of_getElem? (i := 0) rfl))) (vx_c (va_Nw.use rfl (hN.2.2.1 _ (List.mem_of_getElem? (i := 3) rfl))) (vx_c (va_Nw.use rfl (hN.2.2.1 _ (List.mem_of_getElem? (i := 4) rfl))) (vx_c (va_Nw.use rfl (hN.2.2.1 _ (List.mem_of_getElem? (i := 5) rfl))) vx_n)))) (by decide +kernel) hX hP hS (hl.1.trans hml.symm) dX2_refuseBadMonth_10 dX2_refuseBadMonth_13 dX2_refuseBadMonth_14 dX2_refuseBadMonth_16 dX2_refuseBadMonth_19 hex (Nat.le_of_ble_eq_true rfl) (Nat.le_of_ble_eq_true rfl) (Nat.le_of_ble_eq_true rfl) (Nat.le_of_ble_eq_true rfl) hlocks (Nat.le_of_ble_eq_true rfl) (Nat.le_of_ble_eq_true rfl) (⟨rfl, m59 (by grind [Int32.not_le, Int32.not_lt])⟩)
  · skip
    refine lv_iload_n hx hb dX2_refuseBadMonth_4 rfl (lv_at hl 0 rfl) ?_
    refine lv_bipush (v := 60) hx hb dX2_refuseBadMonth_5 (by decide) ?_
    refine lv_icmp_lt (tgt := 20) hx hb dX2_refuseBadMonth_7 (by decide) (fun c7 => ?_) (fun c7 => ?_)
    · skip
      exact vx_ret (sg_vret hx hb hr hlocks hP hD hS (Nat.le_of_ble_eq_true rfl) (Nat.le_of_ble_eq_true rfl) dX2_refuseBadMonth_20 (⟨m59b (Int32.not_lt.mp c1) c7, rfl⟩))
    · skip
      exact sg_throw (cls := "java/lang/IndexOutOfBoundsException") (names := ["java/lang/RuntimeException", "java/lang/Exception"]) (B := [.castable "java/lang/IndexOutOfBoundsException" "java/lang/IndexOutOfBoundsException", .declares (Bundle.initS "java/lang/RuntimeException"), .declares (Bundle.initS "java/lang/Exception"), .declares (Bundle.initS "java/lang/Throwable")]) hx hb hfl hown (by decide +kernel) (by decide +kernel) (hts (.classLink RX2 117 "java/lang/IndexOutOfBoundsException") (by decide +kernel)) (hts (.initialized "java/lang/IndexOutOfBoundsException") (by decide +kernel)) (hN.2.2.2.2 (158, "there is no such month") (List.mem_of_getElem? (i := 5) rfl)) (fun w h => hts w (List.mem_cons_of_mem _ (List.mem_append_right _ h))) (by decide +kernel) (vx_c (va_Nw.use rfl (hN.2.2.1 _ (List.mem_of_getElem? (i := 0) rfl))) (vx_c (va_Nw.use rfl (hN.2.2.1 _ (List.mem_of_getElem? (i := 3) rfl))) (vx_c (va_Nw.use rfl (hN.2.2.1 _ (List.mem_of_getElem? (i := 4) rfl))) (vx_c (va_Nw.use rfl (hN.2.2.1 _ (List.mem_of_getElem? (i := 5) rfl))) vx_n)))) (by decide +kernel) hX hP hS (hl.1.trans hml.symm) dX2_refuseBadMonth_10 dX2_refuseBadMonth_13 dX2_refuseBadMonth_14 dX2_refuseBadMonth_16 dX2_refuseBadMonth_19 hex (Nat.le_of_ble_eq_true rfl) (Nat.le_of_ble_eq_true rfl) (Nat.le_of_ble_eq_true rfl) (Nat.le_of_ble_eq_true rfl) hlocks (Nat.le_of_ble_eq_true rfl) (Nat.le_of_ble_eq_true rfl) (⟨rfl, m59 (by grind [Int32.not_le, Int32.not_lt])⟩)

theorem wi_X2_refuseLeft_X1 : ∀ w ∈ wsX10, w ∈ wsX2_refuseLeft := by decide +kernel
set_option maxHeartbeats 4000000 in
set_option maxRecDepth 100000 in
theorem c_X2_refuseLeft (l : Launch) (hfl : l.stackTraces = false) (D : va_G) (Y : Nat → ClassId) (σ : sg_W) (sz : Nat) (n aO aL aC : Nat) (c : CS) (hC : KF Y n aO aL aC σ c σ) : vx_Met l yX2_refuseLeft wsX2_refuseLeft ({ frames := 6, cells := 1, slots := 6, locals := 90 } : Room) (va_Pc [.ref aO] (sg_U D Y σ sz)) (va_Qv (fun σ' => kI c 3 = 0 ∧ σ = σ') (sg_B D σ sz) (sg_A σ sz)) (sg_T9 D σ sz (fun E => E = "java/lang/IllegalStateException" ∧ ¬ kI c 3 = 0)) 1 6 (sg_A σ sz) := by
  refine sg_metX (cc := cX2_refuseLeft) (maxL := 1) (ret := none) (by decide) rfl (Nat.le_of_ble_eq_true rfl) ?_
  intro p e s m below meth cd9 ls hx hb hml hex hr hown hts hlocks hnm hP hK hD hN hX hA hS hsz hl
  have hl : lv_has ls 1 [(0, .ref aO)] := hl
  refine lv_aload_n hx hb dX2_refuseLeft_0 rfl (lv_at hl 0 rfl) ?_
  refine va_getN (ref := RX1) (host := RX2) (v := .int (kI c 3)) hx hb hts wi_X2_refuseLeft_X1 hown hK (sg_one hP (hC.1)) 0 rfl rfl 3 (by decide) (va_Nw.use rfl (hN.1 (.fieldLinkNest RX2 160 RX1 "hasLeft" "Z" RX2) (List.mem_of_getElem? (i := 5) rfl))) (fun _ h => h) rfl dX2_refuseLeft_1 ?_
  refine lv_if_eq (tgt := 17) hx hb dX2_refuseLeft_4 (by decide) (fun c4 => ?_) (fun c4 => ?_)
  · skip
    exact vx_ret (sg_vret hx hb hr hlocks hP hD hS (Nat.le_of_ble_eq_true rfl) (Nat.le_of_ble_eq_true rfl) dX2_refuseLeft_17 (⟨c4, rfl⟩))
  · skip
    exact sg_throw (cls := "java/lang/IllegalStateException") (names := ["java/lang/RuntimeException", "java/lang/Exception"]) (B := [.castable "java/lang/IllegalStateException" "java/lang/IllegalStateException", .declares (Bundle.initS "java/lang/RuntimeException"), .declares (Bundle.initS "java/lang/Exception"), .declares (Bundle.initS "java/lang/Throwable")]) hx hb hfl hown (by decide +kernel) (by decide +kernel) (hts (.classLink RX2 37 "java/lang/IllegalStateException") (by decide +kernel)) (hts (.initialized "java/lang/IllegalStateException") (by decide +kernel)) (hN.2.2.2.2 (164, "the member has left") (List.mem_of_getElem? (i := 6) rfl)) (fun w h => hts w (List.mem_cons_of_mem _ (List.mem_append_right _ h))) (by decide +kernel) (vx_c (va_Nw.use rfl (hN.2.2.1 _ (List.mem_of_getElem? (i := 2) rfl))) (vx_c (va_Nw.use rfl (hN.2.2.1 _ (List.mem_of_getElem? (i := 3) rfl))) (vx_c (va_Nw.use rfl (hN.2.2.1 _ (List.mem_of_getElem? (i := 4) rfl))) (vx_c (va_Nw.use rfl (hN.2.2.1 _ (List.mem_of_getElem? (i := 5) rfl))) vx_n)))) (by decide +kernel) hX hP hS (hl.1.trans hml.symm) dX2_refuseLeft_7 dX2_refuseLeft_10 dX2_refuseLeft_11 dX2_refuseLeft_13 dX2_refuseLeft_16 hex (Nat.le_of_ble_eq_true rfl) (Nat.le_of_ble_eq_true rfl) (Nat.le_of_ble_eq_true rfl) (Nat.le_of_ble_eq_true rfl) hlocks (Nat.le_of_ble_eq_true rfl) (Nat.le_of_ble_eq_true rfl) (⟨rfl, c4⟩)
end
section
/-! THE PLAN: its scalars by their fields' places (1 memberCount, 2 month, 3 priceNow, 4 ceiling) and its members -/
abbrev PS : Type := (Nat → Int32) × (Nat → CS)
def pS (P : PS) (k : Nat) : Int32 := P.1 k
def pC (P : PS) (i : Nat) : CS := P.2 i
def uPS (P : PS) (k : Nat) (v : Int32) : PS := (fun i => if i = k then v else P.1 i, P.2)
def uPC (P : PS) (i : Nat) (c : CS) : PS := (P.1, fun j => if j = i then c else P.2 j)
theorem pS_uPS {P : PS} {k i : Nat} {v : Int32} : pS (uPS P k v) i = if i = k then v else pS P i := rfl
theorem pC_uPS {P : PS} {k i : Nat} {v : Int32} : pC (uPS P k v) i = pC P i := rfl
theorem pS_uPC {P : PS} {k i : Nat} {v : CS} : pS (uPC P k v) i = pS P i := rfl
theorem pC_uPC {P : PS} {k i : Nat} {v : CS} : pC (uPC P k v) i = if i = k then v else pC P i := rfl
def p_f (aM : Nat) (P : PS) : List Value := [.ref aM, .int (pS P 1), .int (pS P 2), .int (pS P 3), .int (pS P 4)]
def pR (N : Nat) (aO : Nat → Nat) : Nat → Option Nat := fun i => if i < N then some (aO i) else none
/-- σ holds the plan x with N members: 0 the object, 1 the members' row, 1000 + 20 i the member i; at 100 .. 999 it is σ0 -/
def PF (Y : Nat → ClassId) (x aM N : Nat) (aO aL aC : Nat → Nat) (σ0 : sg_W) (P : PS) (σ : sg_W) : Prop := σ 0 = some (x, .inr (2, p_f aM P)) ∧ σ 1 = some (aM, .inl (Y 4, 6, .inr (.inr (.inr (.inr (pR N aO)))))) ∧ (∀ i, i < N → KF Y (1000 + 20 * i) (aO i) (aL i) (aC i) σ (pC P i) σ) ∧ (∀ j, 100 ≤ j ∧ j < 1000 → σ j = σ0 j) ∧ N ≤ 6
theorem KF.agree {Y : Nat → ClassId} {n aO aL aC : Nat} {σ σ' : sg_W} {c : CS} (h : KF Y n aO aL aC σ c σ) (ho : ∀ j, n ≤ j ∧ j < n + 20 → σ' j = σ j) : KF Y n aO aL aC σ' c σ' := by
  obtain ⟨g1, g2, g3, g4, g5⟩ := h
  exact ⟨by rw [ho _ (by omega)]; exact g1, by rw [ho _ (by omega)]; exact g2, by rw [ho _ (by omega)]; exact g3, fun k hk a ha => by rw [ho _ (by omega)]; exact g4 k hk a ha, fun _ _ => rfl⟩
section
variable {Y : Nat → ClassId} {x aM N : Nat} {aO aL aC : Nat → Nat} {σ0 σ σ' : sg_W} {P P' : PS}
theorem PF.self (h : PF Y x aM N aO aL aC σ0 P σ) : PF Y x aM N aO aL aC σ P σ := ⟨h.1, h.2.1, h.2.2.1, fun _ _ => rfl, h.2.2.2.2⟩
theorem PF.trans {σ1 : sg_W} (h0 : PF Y x aM N aO aL aC σ0 P σ1) {N' : Nat} {aO' aL' aC' : Nat → Nat} (h : PF Y x aM N' aO' aL' aC' σ1 P' σ) : PF Y x aM N' aO' aL' aC' σ0 P' σ := ⟨h.1, h.2.1, h.2.2.1, fun j hj => (h.2.2.2.1 j hj).trans (h0.2.2.2.1 j hj), h.2.2.2.2⟩
theorem PF.to (h : PF Y x aM N aO aL aC σ0 P σ) (e : P = P') : PF Y x aM N aO aL aC σ0 P' σ := e ▸ h
theorem PF.obj {fs : List Value} (h : PF Y x aM N aO aL aC σ0 P σ) (e : p_f aM P' = fs) (hc : ∀ i, pC P' i = pC P i) : PF Y x aM N aO aL aC σ0 P' (sg_u σ 0 x (.inr (2, fs))) := by
  obtain ⟨g1, g2, g3, g4, g5⟩ := h
  refine ⟨by rw [sg_ue, e], by rw [sg_un (by omega)]; exact g2, fun i hi => ?_, fun j hj => ?_, g5⟩
  · rw [hc]
    exact (g3 i hi).agree (fun j hj => sg_un (by omega))
  · rw [sg_un (by omega)]
    exact g4 j hj
theorem PF.mem {i : Nat} {c : CS} (h : PF Y x aM N aO aL aC σ0 P σ) (hi : i < N) (hk : KF Y (1000 + 20 * i) (aO i) (aL i) (aC i) σ c σ') : PF Y x aM N aO aL aC σ0 (uPC P i c) σ' := by
  obtain ⟨g1, g2, g3, g4, g5⟩ := h
  have ho := hk.2.2.2.2
  refine ⟨by rw [ho _ (by omega)]; exact g1, by rw [ho _ (by omega)]; exact g2, fun j hj => ?_, fun j hj => ?_, g5⟩
  · rw [pC_uPC]
    by_cases hji : j = i
    · subst hji
      rw [if_pos rfl]
      exact hk.self
    · rw [if_neg hji]
      exact (g3 j hj).agree (fun z hz => ho z (by omega))
  · rw [ho _ (by omega)]
    exact g4 j hj
theorem PF.off (h : PF Y x aM N aO aL aC σ0 P σ) (ho : ∀ j, j < 1000 + 20 * N → σ' j = σ j) : PF Y x aM N aO aL aC σ0 P σ' := by
  obtain ⟨g1, g2, g3, g4, g5⟩ := h
  refine ⟨by rw [ho _ (by omega)]; exact g1, by rw [ho _ (by omega)]; exact g2, fun j hj => ?_, fun j hj => ?_, g5⟩
  · exact (g3 j hj).agree (fun z hz => ho z (by omega))
  · rw [ho _ (by omega)]
    exact g4 j hj
theorem PF.join {q a b : Nat} {c : CS} {σ1 : sg_W} (h : PF Y x aM N aO aL aC σ0 P σ) (hN : N < 6) (hk : KF Y (1000 + 20 * N) q a b σ1 c σ) : PF Y x aM (N + 1) (va_up aO N q) (va_up aL N a) (va_up aC N b) σ0 (uPC P N c) (sg_u σ 1 aM (.inl (Y 4, 6, .inr (.inr (.inr (.inr (va_up (pR N aO) N (some q)))))))) := by
  obtain ⟨g1, g2, g3, g4, g5⟩ := h
  refine ⟨by rw [sg_un (by omega)]; exact g1, ?_, fun j hj => ?_, fun j hj => ?_, by omega⟩
  · rw [sg_ue]
    have e : va_up (pR N aO) N (some q) = pR (N + 1) (va_up aO N q) := by
      funext i
      by_cases hi : i = N
      · subst hi; simp [pR, va_up]
      · simp only [pR, va_up, if_neg hi]
        by_cases h2 : i < N
        · rw [if_pos h2, if_pos (by omega)]
        · rw [if_neg h2, if_neg (by omega)]
    rw [e]
  · rw [pC_uPC]
    by_cases hjn : j = N
    · subst hjn
      rw [if_pos rfl, va_up_self, va_up_self, va_up_self]
      exact hk.self.agree (fun z hz => sg_un (by omega))
    · rw [if_neg hjn, va_up_ne _ _ hjn, va_up_ne _ _ hjn, va_up_ne _ _ hjn]
      exact (g3 j (by omega)).agree (fun z hz => sg_un (by omega))
  · rw [sg_un (by omega)]
    exact g4 j hj
theorem PF.s1 {v : Int32} (h : PF Y x aM N aO aL aC σ0 P σ) : PF Y x aM N aO aL aC σ0 (uPS P 1 v) (sg_u σ 0 x (.inr (2, (p_f aM P).set 1 (.int v)))) := h.obj (by simp [p_f, pS_uPS]) (fun _ => rfl)
theorem PF.s2 {v : Int32} (h : PF Y x aM N aO aL aC σ0 P σ) : PF Y x aM N aO aL aC σ0 (uPS P 2 v) (sg_u σ 0 x (.inr (2, (p_f aM P).set 2 (.int v)))) := h.obj (by simp [p_f, pS_uPS]) (fun _ => rfl)
theorem PF.s3 {v : Int32} (h : PF Y x aM N aO aL aC σ0 P σ) : PF Y x aM N aO aL aC σ0 (uPS P 3 v) (sg_u σ 0 x (.inr (2, (p_f aM P).set 3 (.int v)))) := h.obj (by simp [p_f, pS_uPS]) (fun _ => rfl)
theorem PF.s4 {v : Int32} (h : PF Y x aM N aO aL aC σ0 P σ) : PF Y x aM N aO aL aC σ0 (uPS P 4 v) (sg_u σ 0 x (.inr (2, (p_f aM P).set 4 (.int v)))) := h.obj (by simp [p_f, pS_uPS]) (fun _ => rfl)
end
def pAll (q : Nat → Nat) (N : Nat) (P : PS) : Nat → PS
  | 0 => P
  | k + 1 => if k < N ∧ kI (pC (pAll q N P k) k) 3 = 0 then uPC (pAll q N P k) k (kBuyM (pC (pAll q N P k) k) (pS P 2) (pS P 3) (pS P 4) (q k)) else pAll q N P k
theorem pAll_S {q : Nat → Nat} {N : Nat} {P : PS} {a : Nat} : ∀ k, pS (pAll q N P k) a = pS P a
  | 0 => rfl
  | k + 1 => by
    rw [pAll]
    split
    · rw [pS_uPC, pAll_S k]
    · rw [pAll_S k]
theorem pAll_C {q : Nat → Nat} {N : Nat} {P : PS} {i : Nat} : ∀ k, k ≤ i → pC (pAll q N P k) i = pC P i
  | 0, _ => rfl
  | k + 1, h => by
    rw [pAll]
    split
    · rw [pC_uPC, if_neg (by omega), pAll_C k (by omega)]
    · rw [pAll_C k (by omega)]
theorem pAll_q {q q' : Nat → Nat} {N : Nat} {P : PS} : ∀ k, (∀ j, j < k → q j = q' j) → pAll q N P k = pAll q' N P k
  | 0, _ => rfl
  | k + 1, h => by
    rw [pAll, pAll, pAll_q k (fun j hj => h j (by omega)), h k (by omega)]
end
section
theorem vp_out {i : Int32} (h : i < 0 ∨ 6 ≤ i) : ¬ vp_in i 6 := by
  rw [vp_in_iff]
  simp only [Int32.lt_iff_toInt_lt, Int32.le_iff_toInt_le] at h
  have a1 : (0 : Int32).toInt = 0 := rfl
  have a2 : (6 : Int32).toInt = 6 := rfl
  omega
theorem vp_mono {i : Int32} {n m : Nat} (h : vp_in i n) (hm : n ≤ m) : vp_in i m := by
  rw [vp_in_iff] at *
  omega
theorem vp_6 {y : Int32} (h : ¬ y < 0) (h2 : y < 6) : vp_in y 6 := by
  obtain ⟨j, hj, rfl⟩ := nI_of h
  rw [show (6 : Int32) = nI 6 from rfl, nI_ltI hj (by omega)] at h2
  exact vp_in_nI h2 (by decide)
theorem vp_n {y : Int32} {N : Nat} (h : ¬ y < 0) (h2 : tN y < N) (hN : N ≤ 6) : vp_in y N := by
  obtain ⟨j, hj, rfl⟩ := nI_of h
  rw [tN, nI_clamp hj] at h2
  exact vp_in_nI h2 (by omega)
theorem pR_none {N : Nat} {aO : Nat → Nat} {i : Nat} (h : pR N aO i = none) : ¬ i < N := by
  intro h2
  rw [pR, if_pos h2] at h
  cases h
theorem pR_some {N : Nat} {aO : Nat → Nat} {i la : Nat} (h : pR N aO i = some la) : some la = some (aO i) ∧ i < N := by
  by_cases h2 : i < N
  · rw [pR, if_pos h2] at h
    exact ⟨h.symm, h2⟩
  · rw [pR, if_neg h2] at h
    cases h
theorem wi_X2_memberOrThrow_X2 : ∀ w ∈ wsX20, w ∈ wsX2_memberOrThrow := by decide +kernel
set_option maxHeartbeats 4000000 in
set_option maxRecDepth 100000 in
theorem c_X2_memberOrThrow (l : Launch) (hfl : l.stackTraces = false) (D : va_G) (Y : Nat → ClassId) (σ : sg_W) (sz : Nat) (x aM N : Nat) (aO aL aC : Nat → Nat) (P : PS) (i : Int32) (hQ : PF Y x aM N aO aL aC σ P σ) : vx_Met l yX2_memberOrThrow wsX2_memberOrThrow ({ frames := 6, cells := 1, slots := 6, locals := 90 } : Room) (va_Pc [.ref x, .int i] (sg_U D Y σ sz)) (va_Qq (fun r σ' => r = some (aO (tN i)) ∧ vp_in i N ∧ σ = σ') (sg_B D σ sz) (sg_A σ sz)) (sg_T9 D σ sz (fun E => E = "java/lang/IndexOutOfBoundsException" ∧ ¬ vp_in i N)) 1 6 (sg_A σ sz) := by
  refine sg_metX (cc := cX2_memberOrThrow) (maxL := 3) (ret := (some (.object "LookbackPlan$Member"))) (by decide) rfl (Nat.le_of_ble_eq_true rfl) ?_
  intro p e s m below meth cd9 ls hx hb hml hex hr hown hts hlocks hnm hP hK hD hN hX hA hS hsz hl
  have hl : lv_has ls 3 [(0, .ref x), (1, .int i)] := hl
  refine lv_iload_n hx hb dX2_memberOrThrow_0 rfl (lv_at hl 1 rfl) ?_
  refine lv_if_lt (tgt := 13) hx hb dX2_memberOrThrow_1 (by decide) (fun c1 => ?_) (fun c1 => ?_)
  · skip
    exact sg_throw (cls := "java/lang/IndexOutOfBoundsException") (names := ["java/lang/RuntimeException", "java/lang/Exception"]) (B := [.castable "java/lang/IndexOutOfBoundsException" "java/lang/IndexOutOfBoundsException", .declares (Bundle.initS "java/lang/RuntimeException"), .declares (Bundle.initS "java/lang/Exception"), .declares (Bundle.initS "java/lang/Throwable")]) hx hb hfl hown (by decide +kernel) (by decide +kernel) (hts (.classLink RX2 117 "java/lang/IndexOutOfBoundsException") (by decide +kernel)) (hts (.initialized "java/lang/IndexOutOfBoundsException") (by decide +kernel)) (hN.2.2.2.2 (154, "there is no such member") (List.mem_of_getElem? (i := 3) rfl)) (fun w h => hts w (List.mem_cons_of_mem _ (List.mem_append_right _ h))) (by decide +kernel) (vx_c (va_Nw.use rfl (hN.2.2.1 _ (List.mem_of_getElem? (i := 0) rfl))) (vx_c (va_Nw.use rfl (hN.2.2.1 _ (List.mem_of_getElem? (i := 3) rfl))) (vx_c (va_Nw.use rfl (hN.2.2.1 _ (List.mem_of_getElem? (i := 4) rfl))) (vx_c (va_Nw.use rfl (hN.2.2.1 _ (List.mem_of_getElem? (i := 5) rfl))) vx_n)))) (by decide +kernel) hX hP hS (hl.1.trans hml.symm) dX2_memberOrThrow_13 dX2_memberOrThrow_16 dX2_memberOrThrow_17 dX2_memberOrThrow_19 dX2_memberOrThrow_22 hex (Nat.le_of_ble_eq_true rfl) (Nat.le_of_ble_eq_true rfl) (Nat.le_of_ble_eq_true rfl) (Nat.le_of_ble_eq_true rfl) hlocks (Nat.le_of_ble_eq_true rfl) (Nat.le_of_ble_eq_true rfl) (⟨rfl, fun h => vp_out (by grind [Int32.not_le, Int32.not_lt]) (vp_mono h hQ.2.2.2.2)⟩)
  · skip
    refine lv_iload_n hx hb dX2_memberOrThrow_4 rfl (lv_at hl 1 rfl) ?_
    refine lv_aload_n hx hb dX2_memberOrThrow_5 rfl (lv_at hl 0 rfl) ?_
    refine va_get (ref := RX2) (v := .ref aM) hx hb hts wi_X2_memberOrThrow_X2 hown hK (sg_one hP (hQ.1)) 0 rfl rfl 0 (by decide) (hts (.fieldLink RX2 11 RX2 "members" "[LLookbackPlan$Member;") (by decide +kernel)) (fun _ h => h) rfl dX2_memberOrThrow_6 ?_
    refine va_alen (v := 6) hx hb hK (sg_one hP (hQ.2.1)) 0 4 rfl rfl rfl dX2_memberOrThrow_9 ?_
    refine lv_icmp_lt (tgt := 23) hx hb dX2_memberOrThrow_10 (by decide) (fun c10 => ?_) (fun c10 => ?_)
    · skip
      refine lv_aload_n hx hb dX2_memberOrThrow_23 rfl (lv_at hl 0 rfl) ?_
      refine va_get (ref := RX2) (v := .ref aM) hx hb hts wi_X2_memberOrThrow_X2 hown hK (sg_one hP (hQ.1)) 0 rfl rfl 0 (by decide) (hts (.fieldLink RX2 11 RX2 "members" "[LLookbackPlan$Member;") (by decide +kernel)) (fun _ h => h) rfl dX2_memberOrThrow_24 ?_
      refine lv_iload_n hx hb dX2_memberOrThrow_27 rfl (lv_at hl 1 rfl) ?_
      refine va_aldq hx hb hK (sg_one hP (hQ.2.1)) 0 4 rfl rfl (vp_6 c1 c10) dX2_memberOrThrow_28 ?_
      rcases hla : pR N aO (i).toNatClampNeg with _ | la
      · skip
        refine lv_astore_nN (lv' := [(2, .null), (0, .ref x), (1, .int i)]) hx hb dX2_memberOrThrow_29 rfl hl (by decide) rfl (fun ls hl => ?_)
        refine lv_aload_nN hx hb dX2_memberOrThrow_30 rfl (lv_at hl 0 rfl) ?_
        refine lv_ifnonnullN hx hb dX2_memberOrThrow_31 ?_
        exact sg_throw (cls := "java/lang/IndexOutOfBoundsException") (names := ["java/lang/RuntimeException", "java/lang/Exception"]) (B := [.castable "java/lang/IndexOutOfBoundsException" "java/lang/IndexOutOfBoundsException", .declares (Bundle.initS "java/lang/RuntimeException"), .declares (Bundle.initS "java/lang/Exception"), .declares (Bundle.initS "java/lang/Throwable")]) hx hb hfl hown (by decide +kernel) (by decide +kernel) (hts (.classLink RX2 117 "java/lang/IndexOutOfBoundsException") (by decide +kernel)) (hts (.initialized "java/lang/IndexOutOfBoundsException") (by decide +kernel)) (hN.2.2.2.2 (154, "there is no such member") (List.mem_of_getElem? (i := 3) rfl)) (fun w h => hts w (List.mem_cons_of_mem _ (List.mem_append_right _ h))) (by decide +kernel) (vx_c (va_Nw.use rfl (hN.2.2.1 _ (List.mem_of_getElem? (i := 0) rfl))) (vx_c (va_Nw.use rfl (hN.2.2.1 _ (List.mem_of_getElem? (i := 3) rfl))) (vx_c (va_Nw.use rfl (hN.2.2.1 _ (List.mem_of_getElem? (i := 4) rfl))) (vx_c (va_Nw.use rfl (hN.2.2.1 _ (List.mem_of_getElem? (i := 5) rfl))) vx_n)))) (by decide +kernel) hX hP hS (hl.1.trans hml.symm) dX2_memberOrThrow_34 dX2_memberOrThrow_37 dX2_memberOrThrow_38 dX2_memberOrThrow_40 dX2_memberOrThrow_43 hex (Nat.le_of_ble_eq_true rfl) (Nat.le_of_ble_eq_true rfl) (Nat.le_of_ble_eq_true rfl) (Nat.le_of_ble_eq_true rfl) hlocks (Nat.le_of_ble_eq_true rfl) (Nat.le_of_ble_eq_true rfl) (⟨rfl, fun h => pR_none hla (vp_lt h)⟩)
      · skip
        refine lv_astore_n (lv' := [(2, .ref la), (0, .ref x), (1, .int i)]) hx hb dX2_memberOrThrow_29 rfl hl (by decide) rfl (fun ls hl => ?_)
        refine lv_aload_n hx hb dX2_memberOrThrow_30 rfl (lv_at hl 0 rfl) ?_
        refine lv_ifnonnull (tgt := 44) hx hb dX2_memberOrThrow_31 (by decide) ?_
        refine lv_aload_n hx hb dX2_memberOrThrow_44 rfl (lv_at hl 0 rfl) ?_
        exact vx_ret (sg_qret (v := some la) hx hb hr hlocks hP hD hS (Nat.le_of_ble_eq_true rfl) (Nat.le_of_ble_eq_true rfl) dX2_memberOrThrow_45 (⟨(pR_some hla).1, vp_n c1 (pR_some hla).2 hQ.2.2.2.2, rfl⟩))
    · skip
      exact sg_throw (cls := "java/lang/IndexOutOfBoundsException") (names := ["java/lang/RuntimeException", "java/lang/Exception"]) (B := [.castable "java/lang/IndexOutOfBoundsException" "java/lang/IndexOutOfBoundsException", .declares (Bundle.initS "java/lang/RuntimeException"), .declares (Bundle.initS "java/lang/Exception"), .declares (Bundle.initS "java/lang/Throwable")]) hx hb hfl hown (by decide +kernel) (by decide +kernel) (hts (.classLink RX2 117 "java/lang/IndexOutOfBoundsException") (by decide +kernel)) (hts (.initialized "java/lang/IndexOutOfBoundsException") (by decide +kernel)) (hN.2.2.2.2 (154, "there is no such member") (List.mem_of_getElem? (i := 3) rfl)) (fun w h => hts w (List.mem_cons_of_mem _ (List.mem_append_right _ h))) (by decide +kernel) (vx_c (va_Nw.use rfl (hN.2.2.1 _ (List.mem_of_getElem? (i := 0) rfl))) (vx_c (va_Nw.use rfl (hN.2.2.1 _ (List.mem_of_getElem? (i := 3) rfl))) (vx_c (va_Nw.use rfl (hN.2.2.1 _ (List.mem_of_getElem? (i := 4) rfl))) (vx_c (va_Nw.use rfl (hN.2.2.1 _ (List.mem_of_getElem? (i := 5) rfl))) vx_n)))) (by decide +kernel) hX hP hS (hl.1.trans hml.symm) dX2_memberOrThrow_13 dX2_memberOrThrow_16 dX2_memberOrThrow_17 dX2_memberOrThrow_19 dX2_memberOrThrow_22 hex (Nat.le_of_ble_eq_true rfl) (Nat.le_of_ble_eq_true rfl) (Nat.le_of_ble_eq_true rfl) (Nat.le_of_ble_eq_true rfl) hlocks (Nat.le_of_ble_eq_true rfl) (Nat.le_of_ble_eq_true rfl) (⟨rfl, fun h => vp_out (by grind [Int32.not_le, Int32.not_lt]) (vp_mono h hQ.2.2.2.2)⟩)

theorem wi_X2_money_X1 : ∀ w ∈ wsX10, w ∈ wsX2_money := by decide +kernel
set_option maxHeartbeats 4000000 in
set_option maxRecDepth 100000 in
theorem c_X2_money (l : Launch) (hfl : l.stackTraces = false) (D : va_G) (Y : Nat → ClassId) (σ : sg_W) (sz : Nat) (x aM N : Nat) (aO aL aC : Nat → Nat) (P : PS) (i : Int32) (hQ : PF Y x aM N aO aL aC σ P σ) : vx_Met l yX2_money wsX2_money ({ frames := 7, cells := 1, slots := 6, locals := 112 } : Room) (va_Pc [.ref x, .int i] (sg_U D Y σ sz)) (va_Qi (fun r σ' => r = (kL (pC P (tN i)) 4).toInt32 ∧ vp_in i N ∧ σ = σ') (sg_B D σ sz) (sg_A σ sz)) (sg_T9 D σ sz (fun E => E = "java/lang/IndexOutOfBoundsException" ∧ ¬ vp_in i N)) 1 6 (sg_A σ sz) := by
  refine sg_metX (cc := cX2_money) (maxL := 2) (ret := (some .int)) (by decide) rfl (Nat.le_of_ble_eq_true rfl) ?_
  intro p e s m below meth cd9 ls hx hb hml hex hr hown hts hlocks hnm hP hK hD hN hX hA hS hsz hl
  have hl : lv_has ls 2 [(0, .ref x), (1, .int i)] := hl
  refine lv_aload_n hx hb dX2_money_0 rfl (lv_at hl 0 rfl) ?_
  refine lv_iload_n hx hb dX2_money_1 rfl (lv_at hl 1 rfl) ?_
  refine sg_xcallq hD hS hA (vx_runV (As := [.int i]) (rest := []) ⟨hx, hb, hml, hown, hts⟩ (c_X2_memberOrThrow l hfl D Y _ _ x aM N aO aL aC P i hQ.self) (cwV 1 hts gX2_money_X2_memberOrThrow rfl rfl rfl (by decide +kernel) ⟨Nat.le_of_ble_eq_true rfl, Nat.le_of_ble_eq_true rfl⟩) (sg_preV (q := (RX2, TX2, 5)) (hQ.1) rfl hK hP hD hN hX hS hA) rfl rfl hl.1 rfl (lv_room (Nat.le_of_ble_eq_true rfl)) dX2_money_2 ⟨Nat.le_of_ble_eq_true rfl, Nat.le_of_ble_eq_true rfl⟩) (fun E ce q9 H locs hpx hP hD hS hce hcv hcl => ?_) (fun r2 σ' H locs hw hP hD hS => ?_)
  · exact sg_xout hex hlocks hce hcv hcl hP hS (Nat.le_of_ble_eq_true rfl) (Nat.le_of_ble_eq_true rfl) (⟨hpx.1, hpx.2⟩)
  obtain ⟨rfl, hvi, rfl⟩ := hw
  have hi9 := vp_lt hvi
  refine W.eq (g2 := F0 m 5 ls [.ref (aO (tN i))]) rfl ?_
  refine va_getN (ref := RX1) (host := RX2) (v := .long (kL (pC P (tN i)) 4)) hx hb hts wi_X2_money_X1 hown hK (sg_one hP ((hQ.2.2.1 _ hi9).1)) 0 rfl rfl 4 (by decide) (va_Nw.use rfl (hN.1 (.fieldLinkNest RX2 85 RX1 "money" "J" RX2) (List.mem_of_getElem? (i := 6) rfl))) (fun _ h => h) rfl dX2_money_5 ?_
  refine lv_l2i hx hb dX2_money_8 rfl ?_
  exact vx_ret (sg_iret hx hb hr rfl hlocks hP hD hS (Nat.le_of_ble_eq_true rfl) (Nat.le_of_ble_eq_true rfl) dX2_money_9 (⟨rfl, hvi, rfl⟩))

theorem wi_X2_offerMonth_X1 : ∀ w ∈ wsX10, w ∈ wsX2_offerMonth := by decide +kernel
set_option maxHeartbeats 4000000 in
set_option maxRecDepth 100000 in
theorem c_X2_offerMonth (l : Launch) (hfl : l.stackTraces = false) (D : va_G) (Y : Nat → ClassId) (σ : sg_W) (sz : Nat) (x aM N : Nat) (aO aL aC : Nat → Nat) (P : PS) (i : Int32) (hQ : PF Y x aM N aO aL aC σ P σ) : vx_Met l yX2_offerMonth wsX2_offerMonth ({ frames := 7, cells := 1, slots := 6, locals := 112 } : Room) (va_Pc [.ref x, .int i] (sg_U D Y σ sz)) (va_Qi (fun r σ' => r = kI (pC P (tN i)) 8 ∧ vp_in i N ∧ σ = σ') (sg_B D σ sz) (sg_A σ sz)) (sg_T9 D σ sz (fun E => E = "java/lang/IndexOutOfBoundsException" ∧ ¬ vp_in i N)) 1 6 (sg_A σ sz) := by
  refine sg_metX (cc := cX2_offerMonth) (maxL := 2) (ret := (some .int)) (by decide) rfl (Nat.le_of_ble_eq_true rfl) ?_
  intro p e s m below meth cd9 ls hx hb hml hex hr hown hts hlocks hnm hP hK hD hN hX hA hS hsz hl
  have hl : lv_has ls 2 [(0, .ref x), (1, .int i)] := hl
  refine lv_aload_n hx hb dX2_offerMonth_0 rfl (lv_at hl 0 rfl) ?_
  refine lv_iload_n hx hb dX2_offerMonth_1 rfl (lv_at hl 1 rfl) ?_
  refine sg_xcallq hD hS hA (vx_runV (As := [.int i]) (rest := []) ⟨hx, hb, hml, hown, hts⟩ (c_X2_memberOrThrow l hfl D Y _ _ x aM N aO aL aC P i hQ.self) (cwV 1 hts gX2_offerMonth_X2_memberOrThrow rfl rfl rfl (by decide +kernel) ⟨Nat.le_of_ble_eq_true rfl, Nat.le_of_ble_eq_true rfl⟩) (sg_preV (q := (RX2, TX2, 5)) (hQ.1) rfl hK hP hD hN hX hS hA) rfl rfl hl.1 rfl (lv_room (Nat.le_of_ble_eq_true rfl)) dX2_offerMonth_2 ⟨Nat.le_of_ble_eq_true rfl, Nat.le_of_ble_eq_true rfl⟩) (fun E ce q9 H locs hpx hP hD hS hce hcv hcl => ?_) (fun r2 σ' H locs hw hP hD hS => ?_)
  · exact sg_xout hex hlocks hce hcv hcl hP hS (Nat.le_of_ble_eq_true rfl) (Nat.le_of_ble_eq_true rfl) (⟨hpx.1, hpx.2⟩)
  obtain ⟨rfl, hvi, rfl⟩ := hw
  have hi9 := vp_lt hvi
  refine W.eq (g2 := F0 m 5 ls [.ref (aO (tN i))]) rfl ?_
  refine va_getN (ref := RX1) (host := RX2) (v := .int (kI (pC P (tN i)) 8)) hx hb hts wi_X2_offerMonth_X1 hown hK (sg_one hP ((hQ.2.2.1 _ hi9).1)) 0 rfl rfl 8 (by decide) (va_Nw.use rfl (hN.1 (.fieldLinkNest RX2 89 RX1 "offerMonth" "I" RX2) (List.mem_of_getElem? (i := 10) rfl))) (fun _ h => h) rfl dX2_offerMonth_5 ?_
  exact vx_ret (sg_iret hx hb hr rfl hlocks hP hD hS (Nat.le_of_ble_eq_true rfl) (Nat.le_of_ble_eq_true rfl) dX2_offerMonth_8 (⟨rfl, hvi, rfl⟩))

theorem wi_X2_offerPrice_X1 : ∀ w ∈ wsX10, w ∈ wsX2_offerPrice := by decide +kernel
set_option maxHeartbeats 4000000 in
set_option maxRecDepth 100000 in
theorem c_X2_offerPrice (l : Launch) (hfl : l.stackTraces = false) (D : va_G) (Y : Nat → ClassId) (σ : sg_W) (sz : Nat) (x aM N : Nat) (aO aL aC : Nat → Nat) (P : PS) (i : Int32) (hQ : PF Y x aM N aO aL aC σ P σ) : vx_Met l yX2_offerPrice wsX2_offerPrice ({ frames := 7, cells := 1, slots := 6, locals := 112 } : Room) (va_Pc [.ref x, .int i] (sg_U D Y σ sz)) (va_Qi (fun r σ' => r = kI (pC P (tN i)) 9 ∧ vp_in i N ∧ σ = σ') (sg_B D σ sz) (sg_A σ sz)) (sg_T9 D σ sz (fun E => E = "java/lang/IndexOutOfBoundsException" ∧ ¬ vp_in i N)) 1 6 (sg_A σ sz) := by
  refine sg_metX (cc := cX2_offerPrice) (maxL := 2) (ret := (some .int)) (by decide) rfl (Nat.le_of_ble_eq_true rfl) ?_
  intro p e s m below meth cd9 ls hx hb hml hex hr hown hts hlocks hnm hP hK hD hN hX hA hS hsz hl
  have hl : lv_has ls 2 [(0, .ref x), (1, .int i)] := hl
  refine lv_aload_n hx hb dX2_offerPrice_0 rfl (lv_at hl 0 rfl) ?_
  refine lv_iload_n hx hb dX2_offerPrice_1 rfl (lv_at hl 1 rfl) ?_
  refine sg_xcallq hD hS hA (vx_runV (As := [.int i]) (rest := []) ⟨hx, hb, hml, hown, hts⟩ (c_X2_memberOrThrow l hfl D Y _ _ x aM N aO aL aC P i hQ.self) (cwV 1 hts gX2_offerPrice_X2_memberOrThrow rfl rfl rfl (by decide +kernel) ⟨Nat.le_of_ble_eq_true rfl, Nat.le_of_ble_eq_true rfl⟩) (sg_preV (q := (RX2, TX2, 5)) (hQ.1) rfl hK hP hD hN hX hS hA) rfl rfl hl.1 rfl (lv_room (Nat.le_of_ble_eq_true rfl)) dX2_offerPrice_2 ⟨Nat.le_of_ble_eq_true rfl, Nat.le_of_ble_eq_true rfl⟩) (fun E ce q9 H locs hpx hP hD hS hce hcv hcl => ?_) (fun r2 σ' H locs hw hP hD hS => ?_)
  · exact sg_xout hex hlocks hce hcv hcl hP hS (Nat.le_of_ble_eq_true rfl) (Nat.le_of_ble_eq_true rfl) (⟨hpx.1, hpx.2⟩)
  obtain ⟨rfl, hvi, rfl⟩ := hw
  have hi9 := vp_lt hvi
  refine W.eq (g2 := F0 m 5 ls [.ref (aO (tN i))]) rfl ?_
  refine va_getN (ref := RX1) (host := RX2) (v := .int (kI (pC P (tN i)) 9)) hx hb hts wi_X2_offerPrice_X1 hown hK (sg_one hP ((hQ.2.2.1 _ hi9).1)) 0 rfl rfl 9 (by decide) (va_Nw.use rfl (hN.1 (.fieldLinkNest RX2 92 RX1 "offerPrice" "I" RX2) (List.mem_of_getElem? (i := 11) rfl))) (fun _ h => h) rfl dX2_offerPrice_5 ?_
  exact vx_ret (sg_iret hx hb hr rfl hlocks hP hD hS (Nat.le_of_ble_eq_true rfl) (Nat.le_of_ble_eq_true rfl) dX2_offerPrice_8 (⟨rfl, hvi, rfl⟩))

theorem wi_X2_resets_X1 : ∀ w ∈ wsX10, w ∈ wsX2_resets := by decide +kernel
set_option maxHeartbeats 4000000 in
set_option maxRecDepth 100000 in
theorem c_X2_resets (l : Launch) (hfl : l.stackTraces = false) (D : va_G) (Y : Nat → ClassId) (σ : sg_W) (sz : Nat) (x aM N : Nat) (aO aL aC : Nat → Nat) (P : PS) (i : Int32) (hQ : PF Y x aM N aO aL aC σ P σ) : vx_Met l yX2_resets wsX2_resets ({ frames := 7, cells := 1, slots := 6, locals := 112 } : Room) (va_Pc [.ref x, .int i] (sg_U D Y σ sz)) (va_Qi (fun r σ' => r = kI (pC P (tN i)) 11 ∧ vp_in i N ∧ σ = σ') (sg_B D σ sz) (sg_A σ sz)) (sg_T9 D σ sz (fun E => E = "java/lang/IndexOutOfBoundsException" ∧ ¬ vp_in i N)) 1 6 (sg_A σ sz) := by
  refine sg_metX (cc := cX2_resets) (maxL := 2) (ret := (some .int)) (by decide) rfl (Nat.le_of_ble_eq_true rfl) ?_
  intro p e s m below meth cd9 ls hx hb hml hex hr hown hts hlocks hnm hP hK hD hN hX hA hS hsz hl
  have hl : lv_has ls 2 [(0, .ref x), (1, .int i)] := hl
  refine lv_aload_n hx hb dX2_resets_0 rfl (lv_at hl 0 rfl) ?_
  refine lv_iload_n hx hb dX2_resets_1 rfl (lv_at hl 1 rfl) ?_
  refine sg_xcallq hD hS hA (vx_runV (As := [.int i]) (rest := []) ⟨hx, hb, hml, hown, hts⟩ (c_X2_memberOrThrow l hfl D Y _ _ x aM N aO aL aC P i hQ.self) (cwV 1 hts gX2_resets_X2_memberOrThrow rfl rfl rfl (by decide +kernel) ⟨Nat.le_of_ble_eq_true rfl, Nat.le_of_ble_eq_true rfl⟩) (sg_preV (q := (RX2, TX2, 5)) (hQ.1) rfl hK hP hD hN hX hS hA) rfl rfl hl.1 rfl (lv_room (Nat.le_of_ble_eq_true rfl)) dX2_resets_2 ⟨Nat.le_of_ble_eq_true rfl, Nat.le_of_ble_eq_true rfl⟩) (fun E ce q9 H locs hpx hP hD hS hce hcv hcl => ?_) (fun r2 σ' H locs hw hP hD hS => ?_)
  · exact sg_xout hex hlocks hce hcv hcl hP hS (Nat.le_of_ble_eq_true rfl) (Nat.le_of_ble_eq_true rfl) (⟨hpx.1, hpx.2⟩)
  obtain ⟨rfl, hvi, rfl⟩ := hw
  have hi9 := vp_lt hvi
  refine W.eq (g2 := F0 m 5 ls [.ref (aO (tN i))]) rfl ?_
  refine va_getN (ref := RX1) (host := RX2) (v := .int (kI (pC P (tN i)) 11)) hx hb hts wi_X2_resets_X1 hown hK (sg_one hP ((hQ.2.2.1 _ hi9).1)) 0 rfl rfl 11 (by decide) (va_Nw.use rfl (hN.1 (.fieldLinkNest RX2 95 RX1 "resets" "I" RX2) (List.mem_of_getElem? (i := 12) rfl))) (fun _ h => h) rfl dX2_resets_5 ?_
  exact vx_ret (sg_iret hx hb hr rfl hlocks hP hD hS (Nat.le_of_ble_eq_true rfl) (Nat.le_of_ble_eq_true rfl) dX2_resets_8 (⟨rfl, hvi, rfl⟩))

theorem wi_X2_kept_X1 : ∀ w ∈ wsX10, w ∈ wsX2_kept := by decide +kernel
set_option maxHeartbeats 4000000 in
set_option maxRecDepth 100000 in
theorem c_X2_kept (l : Launch) (hfl : l.stackTraces = false) (D : va_G) (Y : Nat → ClassId) (σ : sg_W) (sz : Nat) (x aM N : Nat) (aO aL aC : Nat → Nat) (P : PS) (i : Int32) (hQ : PF Y x aM N aO aL aC σ P σ) : vx_Met l yX2_kept wsX2_kept ({ frames := 7, cells := 1, slots := 6, locals := 112 } : Room) (va_Pc [.ref x, .int i] (sg_U D Y σ sz)) (va_Ql (fun r σ' => r = kL (pC P (tN i)) 7 ∧ vp_in i N ∧ σ = σ') (sg_B D σ sz) (sg_A σ sz)) (sg_T9 D σ sz (fun E => E = "java/lang/IndexOutOfBoundsException" ∧ ¬ vp_in i N)) 1 6 (sg_A σ sz) := by
  refine sg_metX (cc := cX2_kept) (maxL := 2) (ret := (some .long)) (by decide) rfl (Nat.le_of_ble_eq_true rfl) ?_
  intro p e s m below meth cd9 ls hx hb hml hex hr hown hts hlocks hnm hP hK hD hN hX hA hS hsz hl
  have hl : lv_has ls 2 [(0, .ref x), (1, .int i)] := hl
  refine lv_aload_n hx hb dX2_kept_0 rfl (lv_at hl 0 rfl) ?_
  refine lv_iload_n hx hb dX2_kept_1 rfl (lv_at hl 1 rfl) ?_
  refine sg_xcallq hD hS hA (vx_runV (As := [.int i]) (rest := []) ⟨hx, hb, hml, hown, hts⟩ (c_X2_memberOrThrow l hfl D Y _ _ x aM N aO aL aC P i hQ.self) (cwV 1 hts gX2_kept_X2_memberOrThrow rfl rfl rfl (by decide +kernel) ⟨Nat.le_of_ble_eq_true rfl, Nat.le_of_ble_eq_true rfl⟩) (sg_preV (q := (RX2, TX2, 5)) (hQ.1) rfl hK hP hD hN hX hS hA) rfl rfl hl.1 rfl (lv_room (Nat.le_of_ble_eq_true rfl)) dX2_kept_2 ⟨Nat.le_of_ble_eq_true rfl, Nat.le_of_ble_eq_true rfl⟩) (fun E ce q9 H locs hpx hP hD hS hce hcv hcl => ?_) (fun r2 σ' H locs hw hP hD hS => ?_)
  · exact sg_xout hex hlocks hce hcv hcl hP hS (Nat.le_of_ble_eq_true rfl) (Nat.le_of_ble_eq_true rfl) (⟨hpx.1, hpx.2⟩)
  obtain ⟨rfl, hvi, rfl⟩ := hw
  have hi9 := vp_lt hvi
  refine W.eq (g2 := F0 m 5 ls [.ref (aO (tN i))]) rfl ?_
  refine va_getN (ref := RX1) (host := RX2) (v := .long (kL (pC P (tN i)) 7)) hx hb hts wi_X2_kept_X1 hown hK (sg_one hP ((hQ.2.2.1 _ hi9).1)) 0 rfl rfl 7 (by decide) (va_Nw.use rfl (hN.1 (.fieldLinkNest RX2 132 RX1 "keptOfSlips" "J" RX2) (List.mem_of_getElem? (i := 9) rfl))) (fun _ h => h) rfl dX2_kept_5 ?_
  exact vx_ret (sg_lret hx hb hr hlocks hP hD hS (Nat.le_of_ble_eq_true rfl) (Nat.le_of_ble_eq_true rfl) dX2_kept_8 (⟨rfl, hvi, rfl⟩))

theorem wi_X2_pay_X1 : ∀ w ∈ wsX10, w ∈ wsX2_pay := by decide +kernel
set_option maxHeartbeats 4000000 in
set_option maxRecDepth 100000 in
theorem c_X2_pay (l : Launch) (hfl : l.stackTraces = false) (D : va_G) (Y : Nat → ClassId) (σ : sg_W) (sz : Nat) (x aM N : Nat) (aO aL aC : Nat → Nat) (P : PS) (i : Int32) (hQ : PF Y x aM N aO aL aC σ P σ) : vx_Met l yX2_pay wsX2_pay ({ frames := 7, cells := 1, slots := 6, locals := 112 } : Room) (va_Pc [.ref x, .int i] (sg_U D Y σ sz)) (va_Ql (fun r σ' => r = kL (pC P (tN i)) 12 ∧ vp_in i N ∧ σ = σ') (sg_B D σ sz) (sg_A σ sz)) (sg_T9 D σ sz (fun E => E = "java/lang/IndexOutOfBoundsException" ∧ ¬ vp_in i N)) 1 6 (sg_A σ sz) := by
  refine sg_metX (cc := cX2_pay) (maxL := 2) (ret := (some .long)) (by decide) rfl (Nat.le_of_ble_eq_true rfl) ?_
  intro p e s m below meth cd9 ls hx hb hml hex hr hown hts hlocks hnm hP hK hD hN hX hA hS hsz hl
  have hl : lv_has ls 2 [(0, .ref x), (1, .int i)] := hl
  refine lv_aload_n hx hb dX2_pay_0 rfl (lv_at hl 0 rfl) ?_
  refine lv_iload_n hx hb dX2_pay_1 rfl (lv_at hl 1 rfl) ?_
  refine sg_xcallq hD hS hA (vx_runV (As := [.int i]) (rest := []) ⟨hx, hb, hml, hown, hts⟩ (c_X2_memberOrThrow l hfl D Y _ _ x aM N aO aL aC P i hQ.self) (cwV 1 hts gX2_pay_X2_memberOrThrow rfl rfl rfl (by decide +kernel) ⟨Nat.le_of_ble_eq_true rfl, Nat.le_of_ble_eq_true rfl⟩) (sg_preV (q := (RX2, TX2, 5)) (hQ.1) rfl hK hP hD hN hX hS hA) rfl rfl hl.1 rfl (lv_room (Nat.le_of_ble_eq_true rfl)) dX2_pay_2 ⟨Nat.le_of_ble_eq_true rfl, Nat.le_of_ble_eq_true rfl⟩) (fun E ce q9 H locs hpx hP hD hS hce hcv hcl => ?_) (fun r2 σ' H locs hw hP hD hS => ?_)
  · exact sg_xout hex hlocks hce hcv hcl hP hS (Nat.le_of_ble_eq_true rfl) (Nat.le_of_ble_eq_true rfl) (⟨hpx.1, hpx.2⟩)
  obtain ⟨rfl, hvi, rfl⟩ := hw
  have hi9 := vp_lt hvi
  refine W.eq (g2 := F0 m 5 ls [.ref (aO (tN i))]) rfl ?_
  refine va_getN (ref := RX1) (host := RX2) (v := .long (kL (pC P (tN i)) 12)) hx hb hts wi_X2_pay_X1 hown hK (sg_one hP ((hQ.2.2.1 _ hi9).1)) 0 rfl rfl 12 (by decide) (va_Nw.use rfl (hN.1 (.fieldLinkNest RX2 144 RX1 "payOfSales" "J" RX2) (List.mem_of_getElem? (i := 13) rfl))) (fun _ h => h) rfl dX2_pay_5 ?_
  exact vx_ret (sg_lret hx hb hr hlocks hP hD hS (Nat.le_of_ble_eq_true rfl) (Nat.le_of_ble_eq_true rfl) dX2_pay_8 (⟨rfl, hvi, rfl⟩))

theorem wi_X2_gain_X1 : ∀ w ∈ wsX10, w ∈ wsX2_gain := by decide +kernel
set_option maxHeartbeats 4000000 in
set_option maxRecDepth 100000 in
theorem c_X2_gain (l : Launch) (hfl : l.stackTraces = false) (D : va_G) (Y : Nat → ClassId) (σ : sg_W) (sz : Nat) (x aM N : Nat) (aO aL aC : Nat → Nat) (P : PS) (i : Int32) (hQ : PF Y x aM N aO aL aC σ P σ) : vx_Met l yX2_gain wsX2_gain ({ frames := 7, cells := 1, slots := 6, locals := 112 } : Room) (va_Pc [.ref x, .int i] (sg_U D Y σ sz)) (va_Ql (fun r σ' => r = kL (pC P (tN i)) 13 ∧ vp_in i N ∧ σ = σ') (sg_B D σ sz) (sg_A σ sz)) (sg_T9 D σ sz (fun E => E = "java/lang/IndexOutOfBoundsException" ∧ ¬ vp_in i N)) 1 6 (sg_A σ sz) := by
  refine sg_metX (cc := cX2_gain) (maxL := 2) (ret := (some .long)) (by decide) rfl (Nat.le_of_ble_eq_true rfl) ?_
  intro p e s m below meth cd9 ls hx hb hml hex hr hown hts hlocks hnm hP hK hD hN hX hA hS hsz hl
  have hl : lv_has ls 2 [(0, .ref x), (1, .int i)] := hl
  refine lv_aload_n hx hb dX2_gain_0 rfl (lv_at hl 0 rfl) ?_
  refine lv_iload_n hx hb dX2_gain_1 rfl (lv_at hl 1 rfl) ?_
  refine sg_xcallq hD hS hA (vx_runV (As := [.int i]) (rest := []) ⟨hx, hb, hml, hown, hts⟩ (c_X2_memberOrThrow l hfl D Y _ _ x aM N aO aL aC P i hQ.self) (cwV 1 hts gX2_gain_X2_memberOrThrow rfl rfl rfl (by decide +kernel) ⟨Nat.le_of_ble_eq_true rfl, Nat.le_of_ble_eq_true rfl⟩) (sg_preV (q := (RX2, TX2, 5)) (hQ.1) rfl hK hP hD hN hX hS hA) rfl rfl hl.1 rfl (lv_room (Nat.le_of_ble_eq_true rfl)) dX2_gain_2 ⟨Nat.le_of_ble_eq_true rfl, Nat.le_of_ble_eq_true rfl⟩) (fun E ce q9 H locs hpx hP hD hS hce hcv hcl => ?_) (fun r2 σ' H locs hw hP hD hS => ?_)
  · exact sg_xout hex hlocks hce hcv hcl hP hS (Nat.le_of_ble_eq_true rfl) (Nat.le_of_ble_eq_true rfl) (⟨hpx.1, hpx.2⟩)
  obtain ⟨rfl, hvi, rfl⟩ := hw
  have hi9 := vp_lt hvi
  refine W.eq (g2 := F0 m 5 ls [.ref (aO (tN i))]) rfl ?_
  refine va_getN (ref := RX1) (host := RX2) (v := .long (kL (pC P (tN i)) 13)) hx hb hts wi_X2_gain_X1 hown hK (sg_one hP ((hQ.2.2.1 _ hi9).1)) 0 rfl rfl 13 (by decide) (va_Nw.use rfl (hN.1 (.fieldLinkNest RX2 147 RX1 "gainOfSales" "J" RX2) (List.mem_of_getElem? (i := 14) rfl))) (fun _ h => h) rfl dX2_gain_5 ?_
  exact vx_ret (sg_lret hx hb hr hlocks hP hD hS (Nat.le_of_ble_eq_true rfl) (Nat.le_of_ble_eq_true rfl) dX2_gain_8 (⟨rfl, hvi, rfl⟩))

theorem wi_X2_traced_X1 : ∀ w ∈ wsX10, w ∈ wsX2_traced := by decide +kernel
set_option maxHeartbeats 4000000 in
set_option maxRecDepth 100000 in
theorem c_X2_traced (l : Launch) (hfl : l.stackTraces = false) (D : va_G) (Y : Nat → ClassId) (σ : sg_W) (sz : Nat) (x aM N : Nat) (aO aL aC : Nat → Nat) (P : PS) (i : Int32) (hQ : PF Y x aM N aO aL aC σ P σ) : vx_Met l yX2_traced wsX2_traced ({ frames := 7, cells := 1, slots := 6, locals := 112 } : Room) (va_Pc [.ref x, .int i] (sg_U D Y σ sz)) (va_Ql (fun r σ' => r = kL (pC P (tN i)) 5 + kL (pC P (tN i)) 4 + kL (pC P (tN i)) 6 ∧ vp_in i N ∧ σ = σ') (sg_B D σ sz) (sg_A σ sz)) (sg_T9 D σ sz (fun E => E = "java/lang/IndexOutOfBoundsException" ∧ ¬ vp_in i N)) 1 6 (sg_A σ sz) := by
  refine sg_metX (cc := cX2_traced) (maxL := 3) (ret := (some .long)) (by decide) rfl (Nat.le_of_ble_eq_true rfl) ?_
  intro p e s m below meth cd9 ls hx hb hml hex hr hown hts hlocks hnm hP hK hD hN hX hA hS hsz hl
  have hl : lv_has ls 3 [(0, .ref x), (1, .int i)] := hl
  refine lv_aload_n hx hb dX2_traced_0 rfl (lv_at hl 0 rfl) ?_
  refine lv_iload_n hx hb dX2_traced_1 rfl (lv_at hl 1 rfl) ?_
  refine sg_xcallq hD hS hA (vx_runV (As := [.int i]) (rest := []) ⟨hx, hb, hml, hown, hts⟩ (c_X2_memberOrThrow l hfl D Y _ _ x aM N aO aL aC P i hQ.self) (cwV 1 hts gX2_traced_X2_memberOrThrow rfl rfl rfl (by decide +kernel) ⟨Nat.le_of_ble_eq_true rfl, Nat.le_of_ble_eq_true rfl⟩) (sg_preV (q := (RX2, TX2, 5)) (hQ.1) rfl hK hP hD hN hX hS hA) rfl rfl hl.1 rfl (lv_room (Nat.le_of_ble_eq_true rfl)) dX2_traced_2 ⟨Nat.le_of_ble_eq_true rfl, Nat.le_of_ble_eq_true rfl⟩) (fun E ce q9 H locs hpx hP hD hS hce hcv hcl => ?_) (fun r2 σ' H locs hw hP hD hS => ?_)
  · exact sg_xout hex hlocks hce hcv hcl hP hS (Nat.le_of_ble_eq_true rfl) (Nat.le_of_ble_eq_true rfl) (⟨hpx.1, hpx.2⟩)
  obtain ⟨rfl, hvi, rfl⟩ := hw
  have hi9 := vp_lt hvi
  refine W.eq (g2 := F0 m 5 ls [.ref (aO (tN i))]) rfl ?_
  refine lv_astore_n (lv' := [(2, .ref (aO (tN i))), (0, .ref x), (1, .int i)]) hx hb dX2_traced_5 rfl hl (by decide) rfl (fun ls hl => ?_)
  refine lv_aload_n hx hb dX2_traced_6 rfl (lv_at hl 0 rfl) ?_
  refine va_getN (ref := RX1) (host := RX2) (v := .long (kL (pC P (tN i)) 5)) hx hb hts wi_X2_traced_X1 hown hK (sg_one hP ((hQ.2.2.1 _ hi9).1)) 0 rfl rfl 5 (by decide) (va_Nw.use rfl (hN.1 (.fieldLinkNest RX2 126 RX1 "spent" "J" RX2) (List.mem_of_getElem? (i := 7) rfl))) (fun _ h => h) rfl dX2_traced_7 ?_
  refine lv_aload_n hx hb dX2_traced_10 rfl (lv_at hl 0 rfl) ?_
  refine va_getN (ref := RX1) (host := RX2) (v := .long (kL (pC P (tN i)) 4)) hx hb hts wi_X2_traced_X1 hown hK (sg_one hP ((hQ.2.2.1 _ hi9).1)) 0 rfl rfl 4 (by decide) (va_Nw.use rfl (hN.1 (.fieldLinkNest RX2 85 RX1 "money" "J" RX2) (List.mem_of_getElem? (i := 6) rfl))) (fun _ h => h) rfl dX2_traced_11 ?_
  refine lv_ladd hx hb dX2_traced_14 ?_
  refine lv_aload_n hx hb dX2_traced_15 rfl (lv_at hl 0 rfl) ?_
  refine va_getN (ref := RX1) (host := RX2) (v := .long (kL (pC P (tN i)) 6)) hx hb hts wi_X2_traced_X1 hown hK (sg_one hP ((hQ.2.2.1 _ hi9).1)) 0 rfl rfl 6 (by decide) (va_Nw.use rfl (hN.1 (.fieldLinkNest RX2 129 RX1 "givenBack" "J" RX2) (List.mem_of_getElem? (i := 8) rfl))) (fun _ h => h) rfl dX2_traced_16 ?_
  refine lv_ladd hx hb dX2_traced_19 ?_
  exact vx_ret (sg_lret hx hb hr hlocks hP hD hS (Nat.le_of_ble_eq_true rfl) (Nat.le_of_ble_eq_true rfl) dX2_traced_20 (⟨rfl, hvi, rfl⟩))

set_option maxHeartbeats 4000000 in
set_option maxRecDepth 100000 in
theorem c_X2_shares (l : Launch) (hfl : l.stackTraces = false) (D : va_G) (Y : Nat → ClassId) (σ : sg_W) (sz : Nat) (x aM N : Nat) (aO aL aC : Nat → Nat) (P : PS) (i : Int32) (hQ : PF Y x aM N aO aL aC σ P σ) : vx_Met l yX2_shares wsX2_shares ({ frames := 7, cells := 1, slots := 6, locals := 112 } : Room) (va_Pc [.ref x, .int i] (sg_U D Y σ sz)) (va_Qi (fun r σ' => r = kSum (pC P (tN i)) 10 ∧ vp_in i N ∧ σ = σ') (sg_B D σ sz) (sg_A σ sz)) (sg_T9 D σ sz (fun E => E = "java/lang/IndexOutOfBoundsException" ∧ ¬ vp_in i N)) 1 6 (sg_A σ sz) := by
  refine sg_metX (cc := cX2_shares) (maxL := 2) (ret := (some .int)) (by decide) rfl (Nat.le_of_ble_eq_true rfl) ?_
  intro p e s m below meth cd9 ls hx hb hml hex hr hown hts hlocks hnm hP hK hD hN hX hA hS hsz hl
  have hl : lv_has ls 2 [(0, .ref x), (1, .int i)] := hl
  refine lv_aload_n hx hb dX2_shares_0 rfl (lv_at hl 0 rfl) ?_
  refine lv_iload_n hx hb dX2_shares_1 rfl (lv_at hl 1 rfl) ?_
  refine sg_xcallq hD hS hA (vx_runV (As := [.int i]) (rest := []) ⟨hx, hb, hml, hown, hts⟩ (c_X2_memberOrThrow l hfl D Y _ _ x aM N aO aL aC P i hQ.self) (cwV 1 hts gX2_shares_X2_memberOrThrow rfl rfl rfl (by decide +kernel) ⟨Nat.le_of_ble_eq_true rfl, Nat.le_of_ble_eq_true rfl⟩) (sg_preV (q := (RX2, TX2, 5)) (hQ.1) rfl hK hP hD hN hX hS hA) rfl rfl hl.1 rfl (lv_room (Nat.le_of_ble_eq_true rfl)) dX2_shares_2 ⟨Nat.le_of_ble_eq_true rfl, Nat.le_of_ble_eq_true rfl⟩) (fun E ce q9 H locs hpx hP hD hS hce hcv hcl => ?_) (fun r2 σ' H locs hw hP hD hS => ?_)
  · exact sg_xout hex hlocks hce hcv hcl hP hS (Nat.le_of_ble_eq_true rfl) (Nat.le_of_ble_eq_true rfl) (⟨hpx.1, hpx.2⟩)
  obtain ⟨rfl, hvi, rfl⟩ := hw
  have hi9 := vp_lt hvi
  refine W.eq (g2 := F0 m 5 ls [.ref (aO (tN i))]) rfl ?_
  refine sg_calli hD hS hA (va_runVN (As := []) (rest := []) ⟨hx, hb, hml, hown, hts⟩ (c_X1_sharesHeld l D Y _ _ (1000 + 20 * tN i) (aO (tN i)) (aL (tN i)) (aC (tN i)) (pC P (tN i)) (hQ.2.2.1 _ hi9)) ⟨(va_cnB 0 hts gX2_shares_X1_sharesHeld_n98 rfl rfl rfl (hN.2.1 (.methodLinkNest RX2 98 yX1_sharesHeld RX2) (List.mem_of_getElem? (i := 8) rfl)) (hts (.initialized RX1) (by decide +kernel)) (by decide +kernel) ⟨Nat.le_of_ble_eq_true rfl, Nat.le_of_ble_eq_true rfl⟩), (hts (.instanceMethod yX1_sharesHeld) (by decide +kernel)), (hts (.selects RX1 yX1_sharesHeld yX1_sharesHeld) (by decide +kernel))⟩ (sg_preV (q := (RX1, TX1, 14)) ((hQ.2.2.1 _ hi9).1) rfl hK hP hD hN hX hS hA) rfl rfl hl.1 rfl (lv_room (Nat.le_of_ble_eq_true rfl)) dX2_shares_5 ⟨Nat.le_of_ble_eq_true rfl, Nat.le_of_ble_eq_true rfl⟩) (fun r5 σ' H locs hw hP hD hS => ?_)
  obtain ⟨rfl, rfl⟩ := hw
  exact vx_ret (sg_iret hx hb hr rfl hlocks hP hD hS (Nat.le_of_ble_eq_true rfl) (Nat.le_of_ble_eq_true rfl) dX2_shares_8 (⟨rfl, hvi, rfl⟩))

theorem wi_X2_gainNow_X2 : ∀ w ∈ wsX20, w ∈ wsX2_gainNow := by decide +kernel
set_option maxHeartbeats 4000000 in
set_option maxRecDepth 100000 in
theorem c_X2_gainNow (l : Launch) (hfl : l.stackTraces = false) (D : va_G) (Y : Nat → ClassId) (σ : sg_W) (sz : Nat) (x aM N : Nat) (aO aL aC : Nat → Nat) (P : PS) (i : Int32) (hQ : PF Y x aM N aO aL aC σ P σ) : vx_Met l yX2_gainNow wsX2_gainNow ({ frames := 7, cells := 1, slots := 6, locals := 112 } : Room) (va_Pc [.ref x, .int i] (sg_U D Y σ sz)) (va_Ql (fun r σ' => r = kGN (pC P (tN i)) (pS P 2) (pS P 3) 10 ∧ vp_in i N ∧ σ = σ') (sg_B D σ sz) (sg_A σ sz)) (sg_T9 D σ sz (fun E => E = "java/lang/IndexOutOfBoundsException" ∧ ¬ vp_in i N)) 1 6 (sg_A σ sz) := by
  refine sg_metX (cc := cX2_gainNow) (maxL := 2) (ret := (some .long)) (by decide) rfl (Nat.le_of_ble_eq_true rfl) ?_
  intro p e s m below meth cd9 ls hx hb hml hex hr hown hts hlocks hnm hP hK hD hN hX hA hS hsz hl
  have hl : lv_has ls 2 [(0, .ref x), (1, .int i)] := hl
  refine lv_aload_n hx hb dX2_gainNow_0 rfl (lv_at hl 0 rfl) ?_
  refine lv_iload_n hx hb dX2_gainNow_1 rfl (lv_at hl 1 rfl) ?_
  refine sg_xcallq hD hS hA (vx_runV (As := [.int i]) (rest := []) ⟨hx, hb, hml, hown, hts⟩ (c_X2_memberOrThrow l hfl D Y _ _ x aM N aO aL aC P i hQ.self) (cwV 1 hts gX2_gainNow_X2_memberOrThrow rfl rfl rfl (by decide +kernel) ⟨Nat.le_of_ble_eq_true rfl, Nat.le_of_ble_eq_true rfl⟩) (sg_preV (q := (RX2, TX2, 5)) (hQ.1) rfl hK hP hD hN hX hS hA) rfl rfl hl.1 rfl (lv_room (Nat.le_of_ble_eq_true rfl)) dX2_gainNow_2 ⟨Nat.le_of_ble_eq_true rfl, Nat.le_of_ble_eq_true rfl⟩) (fun E ce q9 H locs hpx hP hD hS hce hcv hcl => ?_) (fun r2 σ' H locs hw hP hD hS => ?_)
  · exact sg_xout hex hlocks hce hcv hcl hP hS (Nat.le_of_ble_eq_true rfl) (Nat.le_of_ble_eq_true rfl) (⟨hpx.1, hpx.2⟩)
  obtain ⟨rfl, hvi, rfl⟩ := hw
  have hi9 := vp_lt hvi
  refine W.eq (g2 := F0 m 5 ls [.ref (aO (tN i))]) rfl ?_
  refine lv_aload_n hx hb dX2_gainNow_5 rfl (lv_at hl 0 rfl) ?_
  refine va_get (ref := RX2) (v := .int (pS P 2)) hx hb hts wi_X2_gainNow_X2 hown hK (sg_one hP (hQ.1)) 0 rfl rfl 2 (by decide) (hts (.fieldLink RX2 19 RX2 "month" "I") (by decide +kernel)) (fun _ h => h) rfl dX2_gainNow_6 ?_
  refine lv_aload_n hx hb dX2_gainNow_9 rfl (lv_at hl 0 rfl) ?_
  refine va_get (ref := RX2) (v := .int (pS P 3)) hx hb hts wi_X2_gainNow_X2 hown hK (sg_one hP (hQ.1)) 0 rfl rfl 3 (by decide) (hts (.fieldLink RX2 22 RX2 "priceNow" "I") (by decide +kernel)) (fun _ h => h) rfl dX2_gainNow_10 ?_
  refine sg_calll hD hS hA (va_runVN (As := [.int (pS P 2), .int (pS P 3)]) (rest := []) ⟨hx, hb, hml, hown, hts⟩ (c_X1_gainIfAllSold l D Y _ _ (1000 + 20 * tN i) (aO (tN i)) (aL (tN i)) (aC (tN i)) (pC P (tN i)) (pS P 2) (pS P 3) (hQ.2.2.1 _ hi9)) ⟨(va_cnB 2 hts gX2_gainNow_X1_gainIfAllSold_n150 rfl rfl rfl (hN.2.1 (.methodLinkNest RX2 150 yX1_gainIfAllSold RX2) (List.mem_of_getElem? (i := 3) rfl)) (hts (.initialized RX1) (by decide +kernel)) (by decide +kernel) ⟨Nat.le_of_ble_eq_true rfl, Nat.le_of_ble_eq_true rfl⟩), (hts (.instanceMethod yX1_gainIfAllSold) (by decide +kernel)), (hts (.selects RX1 yX1_gainIfAllSold yX1_gainIfAllSold) (by decide +kernel))⟩ (sg_preV (q := (RX1, TX1, 14)) ((hQ.2.2.1 _ hi9).1) rfl hK hP hD hN hX hS hA) rfl rfl hl.1 rfl (lv_room (Nat.le_of_ble_eq_true rfl)) dX2_gainNow_13 ⟨Nat.le_of_ble_eq_true rfl, Nat.le_of_ble_eq_true rfl⟩) (fun r13 σ' H locs hw hP hD hS => ?_)
  obtain ⟨rfl, rfl⟩ := hw
  exact vx_ret (sg_lret hx hb hr hlocks hP hD hS (Nat.le_of_ble_eq_true rfl) (Nat.le_of_ble_eq_true rfl) dX2_gainNow_16 (⟨rfl, hvi, rfl⟩))
end
section
theorem kLot_some {c : CS} {d : Int32} {la : Nat} (h : kLot c d = some la) : tN (d / 6) < 10 ∧ kR c (tN (d / 6)) = some la := by
  unfold kLot at h
  split at h
  · split at h
    · cases h
    · rename_i h1 h2
      refine ⟨?_, h⟩
      have h3 : ¬ d / 6 < 0 := fun q => h2 (Or.inl q)
      have h4 : ¬ 10 ≤ d / 6 := fun q => h2 (Or.inr q)
      exact vp_lt (vp_10 h3 (Int32.not_le.mp h4))
  · cases h
def pLot (c : CS) (d : Int32) (f : Nat) (v : Int32) : Int32 := if kLot c d = none then v else kV c (tN (d / 6)) f
theorem y4 {x : Int32} (h : x < 0 ∨ 5 ≤ x) : ¬ qIn x 0 4 := by
  rintro ⟨h1, h2⟩
  simp only [Int32.lt_iff_toInt_lt, Int32.le_iff_toInt_le] at *
  have a1 : (0 : Int32).toInt = 0 := rfl
  have a2 : (5 : Int32).toInt = 5 := rfl
  have a3 : (4 : Int32).toInt = 4 := rfl
  omega
theorem y4b {x : Int32} (h1 : 0 ≤ x) (h2 : x < 5) : qIn x 0 4 := by
  refine ⟨h1, ?_⟩
  simp only [Int32.lt_iff_toInt_lt, Int32.le_iff_toInt_le] at *
  have a2 : (5 : Int32).toInt = 5 := rfl
  have a3 : (4 : Int32).toInt = 4 := rfl
  omega
theorem wi_X2_rate_X1 : ∀ w ∈ wsX10, w ∈ wsX2_rate := by decide +kernel
set_option maxHeartbeats 4000000 in
set_option maxRecDepth 100000 in
theorem c_X2_rate (l : Launch) (hfl : l.stackTraces = false) (D : va_G) (Y : Nat → ClassId) (σ : sg_W) (sz : Nat) (x aM N : Nat) (aO aL aC : Nat → Nat) (P : PS) (i y : Int32) (hQ : PF Y x aM N aO aL aC σ P σ) : vx_Met l yX2_rate wsX2_rate ({ frames := 7, cells := 3, slots := 18, locals := 112 } : Room) (va_Pc [.ref x, .int i, .int y] (sg_U D Y σ sz)) (va_Qi (fun r σ' => r = kI (pC P (tN i)) 2 ∧ vp_in i N ∧ qIn y 1 15 ∧ kI (pC P (tN i)) 3 = 0 ∧ PF Y x aM N aO aL aC σ (uPC P (tN i) (uKI (pC P (tN i)) 2 y)) σ') (sg_B D σ sz) (sg_A σ sz)) (sg_T9 D σ sz (fun E => (E = "java/lang/IndexOutOfBoundsException" ∧ ¬ vp_in i N) ∨ (vp_in i N ∧ E = "java/lang/IllegalArgumentException" ∧ ¬ qIn y 1 15) ∨ (vp_in i N ∧ qIn y 1 15 ∧ E = "java/lang/IllegalStateException" ∧ ¬ kI (pC P (tN i)) 3 = 0))) 3 18 (sg_A σ sz) := by
  refine sg_metX (cc := cX2_rate) (maxL := 5) (ret := (some .int)) (by decide) rfl (Nat.le_of_ble_eq_true rfl) ?_
  intro p e s m below meth cd9 ls hx hb hml hex hr hown hts hlocks hnm hP hK hD hN hX hA hS hsz hl
  have hl : lv_has ls 5 [(0, .ref x), (1, .int i), (2, .int y)] := hl
  refine lv_aload_n hx hb dX2_rate_0 rfl (lv_at hl 0 rfl) ?_
  refine lv_iload_n hx hb dX2_rate_1 rfl (lv_at hl 1 rfl) ?_
  refine sg_xcallq hD hS hA (vx_runV (As := [.int i]) (rest := []) ⟨hx, hb, hml, hown, hts⟩ (c_X2_memberOrThrow l hfl D Y _ _ x aM N aO aL aC P i hQ.self) (cwV 1 hts gX2_rate_X2_memberOrThrow rfl rfl rfl (by decide +kernel) ⟨Nat.le_of_ble_eq_true rfl, Nat.le_of_ble_eq_true rfl⟩) (sg_preV (q := (RX2, TX2, 5)) (hQ.1) rfl hK hP hD hN hX hS hA) rfl rfl hl.1 rfl (lv_room (Nat.le_of_ble_eq_true rfl)) dX2_rate_2 ⟨Nat.le_of_ble_eq_true rfl, Nat.le_of_ble_eq_true rfl⟩) (fun E ce q9 H locs hpx hP hD hS hce hcv hcl => ?_) (fun r2 σ' H locs hw hP hD hS => ?_)
  · exact sg_xout hex hlocks hce hcv hcl hP hS (Nat.le_of_ble_eq_true rfl) (Nat.le_of_ble_eq_true rfl) (Or.inl hpx)
  obtain ⟨rfl, hvi, rfl⟩ := hw
  have hi9 := vp_lt hvi
  refine W.eq (g2 := F0 m 5 ls [.ref (aO (tN i))]) rfl ?_
  refine lv_astore_n (lv' := [(3, .ref (aO (tN i))), (0, .ref x), (1, .int i), (2, .int y)]) hx hb dX2_rate_5 rfl hl (by decide) rfl (fun ls hl => ?_)
  refine lv_iload_n hx hb dX2_rate_6 rfl (lv_at hl 3 rfl) ?_
  refine sg_xcallv hD hS hA (vx_runS (As := [.int y]) (rest := []) ⟨hx, hb, hml, hown, hts⟩ (c_X2_refuseBadRate l hfl D Y _ _ y) (va_cwS 1 hts gX2_rate_X2_refuseBadRate rfl rfl rfl (by decide +kernel) ⟨Nat.le_of_ble_eq_true rfl, Nat.le_of_ble_eq_true rfl⟩) (sg_preS hK hP hD hN hX hS hA) rfl rfl hl.1 rfl (lv_room (Nat.le_of_ble_eq_true rfl)) dX2_rate_7 ⟨Nat.le_of_ble_eq_true rfl, Nat.le_of_ble_eq_true rfl⟩) (fun E ce q9 H locs hpx hP hD hS hce hcv hcl => ?_) (fun σ' H locs hw hP hD hS => ?_)
  · exact sg_xout hex hlocks hce hcv hcl hP hS (Nat.le_of_ble_eq_true rfl) (Nat.le_of_ble_eq_true rfl) (Or.inr (Or.inl ⟨hvi, hpx⟩))
  obtain ⟨hqr, rfl⟩ := hw
  refine lv_aload_n hx hb dX2_rate_10 rfl (lv_at hl 0 rfl) ?_
  refine sg_xcallv hD hS hA (vx_runS (As := [.ref (aO (tN i))]) (rest := []) ⟨hx, hb, hml, hown, hts⟩ (c_X2_refuseLeft l hfl D Y _ _ (1000 + 20 * tN i) (aO (tN i)) (aL (tN i)) (aC (tN i)) (pC P (tN i)) (hQ.2.2.1 _ hi9)) (va_cwS 1 hts gX2_rate_X2_refuseLeft rfl rfl rfl (by decide +kernel) ⟨Nat.le_of_ble_eq_true rfl, Nat.le_of_ble_eq_true rfl⟩) (sg_preS hK hP hD hN hX hS hA) rfl rfl hl.1 rfl (lv_room (Nat.le_of_ble_eq_true rfl)) dX2_rate_11 ⟨Nat.le_of_ble_eq_true rfl, Nat.le_of_ble_eq_true rfl⟩) (fun E ce q9 H locs hpx hP hD hS hce hcv hcl => ?_) (fun σ' H locs hw hP hD hS => ?_)
  · exact sg_xout hex hlocks hce hcv hcl hP hS (Nat.le_of_ble_eq_true rfl) (Nat.le_of_ble_eq_true rfl) (Or.inr (Or.inr ⟨hvi, hqr, hpx⟩))
  obtain ⟨hlf, rfl⟩ := hw
  refine lv_aload_n hx hb dX2_rate_14 rfl (lv_at hl 0 rfl) ?_
  refine va_getN (ref := RX1) (host := RX2) (v := .int (kI (pC P (tN i)) 2)) hx hb hts wi_X2_rate_X1 hown hK (sg_one hP ((hQ.2.2.1 _ hi9).1)) 0 rfl rfl 2 (by decide) (va_Nw.use rfl (hN.1 (.fieldLinkNest RX2 71 RX1 "rate" "I" RX2) (List.mem_of_getElem? (i := 4) rfl))) (fun _ h => h) rfl dX2_rate_15 ?_
  refine lv_topi (fun v18 ev18 => ?_)
  obtain rfl : v18 = kI (pC P (tN i)) 2 := by exact ev18
  refine lv_istore (lv' := [(4, .int (kI (pC P (tN i)) 2)), (3, .ref (aO (tN i))), (0, .ref x), (1, .int i), (2, .int y)]) hx hb dX2_rate_18 hl (by decide) rfl (fun ls hl => ?_)
  refine lv_aload_n hx hb dX2_rate_20 rfl (lv_at hl 1 rfl) ?_
  refine lv_iload_n hx hb dX2_rate_21 rfl (lv_at hl 4 rfl) ?_
  refine sg_putN (ref := RX1) (host := RX2) (ty := .int) (v := .int y) hx hb hts wi_X2_rate_X1 tyX1 tyX1_ok nmX1 hown hK hP hD hS ((hQ.2.2.1 _ hi9).1) rfl 2 (by decide) (va_Nw.use rfl (hN.1 (.fieldLinkNest RX2 71 RX1 "rate" "I" RX2) (List.mem_of_getElem? (i := 4) rfl))) (fun _ h => h) rfl (by decide +kernel) rfl rfl (Nat.le_of_ble_eq_true rfl) dX2_rate_22 (fun H locs hP hD hS => ?_)
  have hQ := hQ.mem hi9 ((hQ.2.2.1 _ hi9).i2 (v := y))
  refine lv_iload hx hb dX2_rate_25 (lv_at hl 0 rfl) ?_
  exact vx_ret (sg_iret hx hb hr rfl hlocks hP hD hS (Nat.le_of_ble_eq_true rfl) (Nat.le_of_ble_eq_true rfl) dX2_rate_27 (⟨rfl, hvi, hqr, hlf, hQ⟩))

set_option maxHeartbeats 4000000 in
set_option maxRecDepth 100000 in
theorem c_X2_slip (l : Launch) (hfl : l.stackTraces = false) (D : va_G) (Y : Nat → ClassId) (σ : sg_W) (sz : Nat) (x aM N : Nat) (aO aL aC : Nat → Nat) (P : PS) (i y : Int32) (hQ : PF Y x aM N aO aL aC σ P σ) : vx_Met l yX2_slip wsX2_slip ({ frames := 7, cells := 3, slots := 18, locals := 112 } : Room) (va_Pc [.ref x, .int i, .int y] (sg_U D Y σ sz)) (va_Qi (fun r σ' => r = y * kI (pC P (tN i)) 2 / 100 ∧ vp_in i N ∧ qIn y 0 5000000 ∧ kI (pC P (tN i)) 3 = 0 ∧ PF Y x aM N aO aL aC σ (uPC P (tN i) (uKL (uKL (pC P (tN i)) 4 (kL (pC P (tN i)) 4 + (y * kI (pC P (tN i)) 2 / 100).toInt64)) 7 (kL (pC P (tN i)) 7 + (y * kI (pC P (tN i)) 2 / 100).toInt64))) σ') (sg_B D σ sz) (sg_A σ sz)) (sg_T9 D σ sz (fun E => (E = "java/lang/IndexOutOfBoundsException" ∧ ¬ vp_in i N) ∨ (vp_in i N ∧ E = "java/lang/IllegalArgumentException" ∧ ¬ qIn y 0 5000000) ∨ (vp_in i N ∧ qIn y 0 5000000 ∧ E = "java/lang/IllegalStateException" ∧ ¬ kI (pC P (tN i)) 3 = 0))) 3 18 (sg_A σ sz) := by
  refine sg_metX (cc := cX2_slip) (maxL := 4) (ret := (some .int)) (by decide) rfl (Nat.le_of_ble_eq_true rfl) ?_
  intro p e s m below meth cd9 ls hx hb hml hex hr hown hts hlocks hnm hP hK hD hN hX hA hS hsz hl
  have hl : lv_has ls 4 [(0, .ref x), (1, .int i), (2, .int y)] := hl
  refine lv_aload_n hx hb dX2_slip_0 rfl (lv_at hl 0 rfl) ?_
  refine lv_iload_n hx hb dX2_slip_1 rfl (lv_at hl 1 rfl) ?_
  refine sg_xcallq hD hS hA (vx_runV (As := [.int i]) (rest := []) ⟨hx, hb, hml, hown, hts⟩ (c_X2_memberOrThrow l hfl D Y _ _ x aM N aO aL aC P i hQ.self) (cwV 1 hts gX2_slip_X2_memberOrThrow rfl rfl rfl (by decide +kernel) ⟨Nat.le_of_ble_eq_true rfl, Nat.le_of_ble_eq_true rfl⟩) (sg_preV (q := (RX2, TX2, 5)) (hQ.1) rfl hK hP hD hN hX hS hA) rfl rfl hl.1 rfl (lv_room (Nat.le_of_ble_eq_true rfl)) dX2_slip_2 ⟨Nat.le_of_ble_eq_true rfl, Nat.le_of_ble_eq_true rfl⟩) (fun E ce q9 H locs hpx hP hD hS hce hcv hcl => ?_) (fun r2 σ' H locs hw hP hD hS => ?_)
  · exact sg_xout hex hlocks hce hcv hcl hP hS (Nat.le_of_ble_eq_true rfl) (Nat.le_of_ble_eq_true rfl) (Or.inl hpx)
  obtain ⟨rfl, hvi, rfl⟩ := hw
  have hi9 := vp_lt hvi
  refine W.eq (g2 := F0 m 5 ls [.ref (aO (tN i))]) rfl ?_
  refine lv_astore_n (lv' := [(3, .ref (aO (tN i))), (0, .ref x), (1, .int i), (2, .int y)]) hx hb dX2_slip_5 rfl hl (by decide) rfl (fun ls hl => ?_)
  refine lv_iload_n hx hb dX2_slip_6 rfl (lv_at hl 3 rfl) ?_
  refine lv_if_lt (tgt := 16) hx hb dX2_slip_7 (by decide) (fun c7 => ?_) (fun c7 => ?_)
  · skip
    exact sg_throw (cls := "java/lang/IllegalArgumentException") (names := ["java/lang/RuntimeException", "java/lang/Exception"]) (B := [.castable "java/lang/IllegalArgumentException" "java/lang/IllegalArgumentException", .declares (Bundle.initS "java/lang/RuntimeException"), .declares (Bundle.initS "java/lang/Exception"), .declares (Bundle.initS "java/lang/Throwable")]) hx hb hfl hown (by decide +kernel) (by decide +kernel) (hts (.classLink RX2 30 "java/lang/IllegalArgumentException") (by decide +kernel)) (hts (.initialized "java/lang/IllegalArgumentException") (by decide +kernel)) (hN.2.2.2.2 (75, "the gross is out of its range") (List.mem_of_getElem? (i := 12) rfl)) (fun w h => hts w (List.mem_cons_of_mem _ (List.mem_append_left _ (List.mem_append_left _ (List.mem_append_right _ h))))) (by decide +kernel) (vx_c (va_Nw.use rfl (hN.2.2.1 _ (List.mem_of_getElem? (i := 1) rfl))) (vx_c (va_Nw.use rfl (hN.2.2.1 _ (List.mem_of_getElem? (i := 3) rfl))) (vx_c (va_Nw.use rfl (hN.2.2.1 _ (List.mem_of_getElem? (i := 4) rfl))) (vx_c (va_Nw.use rfl (hN.2.2.1 _ (List.mem_of_getElem? (i := 5) rfl))) vx_n)))) (by decide +kernel) hX hP hS (hl.1.trans hml.symm) dX2_slip_16 dX2_slip_19 dX2_slip_20 dX2_slip_22 dX2_slip_25 hex (Nat.le_of_ble_eq_true rfl) (Nat.le_of_ble_eq_true rfl) (Nat.le_of_ble_eq_true rfl) (Nat.le_of_ble_eq_true rfl) hlocks (Nat.le_of_ble_eq_true rfl) (Nat.le_of_ble_eq_true rfl) (Or.inr (Or.inl ⟨hvi, rfl, by grind [Int32.not_le, Int32.not_lt]⟩))
  · skip
    refine lv_iload_n hx hb dX2_slip_10 rfl (lv_at hl 3 rfl) ?_
    refine lv_ldc (v := 5000000) hx hb hown (hts (.constant RX2 74 5000000) (by decide +kernel)) dX2_slip_11 ?_
    refine lv_icmp_le (tgt := 26) hx hb dX2_slip_13 (by decide) (fun c13 => ?_) (fun c13 => ?_)
    · skip
      have hqs : qIn y 0 5000000 := by grind [Int32.not_le, Int32.not_lt]
      refine lv_aload_n hx hb dX2_slip_26 rfl (lv_at hl 0 rfl) ?_
      refine sg_xcallv hD hS hA (vx_runS (As := [.ref (aO (tN i))]) (rest := []) ⟨hx, hb, hml, hown, hts⟩ (c_X2_refuseLeft l hfl D Y _ _ (1000 + 20 * tN i) (aO (tN i)) (aL (tN i)) (aC (tN i)) (pC P (tN i)) (hQ.2.2.1 _ hi9)) (va_cwS 1 hts gX2_slip_X2_refuseLeft rfl rfl rfl (by decide +kernel) ⟨Nat.le_of_ble_eq_true rfl, Nat.le_of_ble_eq_true rfl⟩) (sg_preS hK hP hD hN hX hS hA) rfl rfl hl.1 rfl (lv_room (Nat.le_of_ble_eq_true rfl)) dX2_slip_27 ⟨Nat.le_of_ble_eq_true rfl, Nat.le_of_ble_eq_true rfl⟩) (fun E ce q9 H locs hpx hP hD hS hce hcv hcl => ?_) (fun σ' H locs hw hP hD hS => ?_)
      · exact sg_xout hex hlocks hce hcv hcl hP hS (Nat.le_of_ble_eq_true rfl) (Nat.le_of_ble_eq_true rfl) (Or.inr (Or.inr ⟨hvi, hqs, hpx⟩))
      obtain ⟨hlf, rfl⟩ := hw
      refine lv_aload_n hx hb dX2_slip_30 rfl (lv_at hl 0 rfl) ?_
      refine lv_iload_n hx hb dX2_slip_31 rfl (lv_at hl 3 rfl) ?_
      refine sg_calli hD hS hA (va_runVN (As := [.int y]) (rest := []) ⟨hx, hb, hml, hown, hts⟩ (c_X1_takeSlip l D Y _ _ (1000 + 20 * tN i) (aO (tN i)) (aL (tN i)) (aC (tN i)) (pC P (tN i)) y (hQ.2.2.1 _ hi9)) ⟨(va_cnB 1 hts gX2_slip_X1_takeSlip_n77 rfl rfl rfl (hN.2.1 (.methodLinkNest RX2 77 yX1_takeSlip RX2) (List.mem_of_getElem? (i := 6) rfl)) (hts (.initialized RX1) (by decide +kernel)) (by decide +kernel) ⟨Nat.le_of_ble_eq_true rfl, Nat.le_of_ble_eq_true rfl⟩), (hts (.instanceMethod yX1_takeSlip) (by decide +kernel)), (hts (.selects RX1 yX1_takeSlip yX1_takeSlip) (by decide +kernel))⟩ (sg_preV (q := (RX1, TX1, 14)) ((hQ.2.2.1 _ hi9).1) rfl hK hP hD hN hX hS hA) rfl rfl hl.1 rfl (lv_room (Nat.le_of_ble_eq_true rfl)) dX2_slip_32 ⟨Nat.le_of_ble_eq_true rfl, Nat.le_of_ble_eq_true rfl⟩) (fun r32 σ' H locs hw hP hD hS => ?_)
      obtain ⟨rfl, hw⟩ := hw
      have hQ := hQ.mem hi9 hw
      exact vx_ret (sg_iret hx hb hr rfl hlocks hP hD hS (Nat.le_of_ble_eq_true rfl) (Nat.le_of_ble_eq_true rfl) dX2_slip_35 (⟨rfl, hvi, hqs, hlf, hQ⟩))
    · skip
      exact sg_throw (cls := "java/lang/IllegalArgumentException") (names := ["java/lang/RuntimeException", "java/lang/Exception"]) (B := [.castable "java/lang/IllegalArgumentException" "java/lang/IllegalArgumentException", .declares (Bundle.initS "java/lang/RuntimeException"), .declares (Bundle.initS "java/lang/Exception"), .declares (Bundle.initS "java/lang/Throwable")]) hx hb hfl hown (by decide +kernel) (by decide +kernel) (hts (.classLink RX2 30 "java/lang/IllegalArgumentException") (by decide +kernel)) (hts (.initialized "java/lang/IllegalArgumentException") (by decide +kernel)) (hN.2.2.2.2 (75, "the gross is out of its range") (List.mem_of_getElem? (i := 12) rfl)) (fun w h => hts w (List.mem_cons_of_mem _ (List.mem_append_left _ (List.mem_append_left _ (List.mem_append_right _ h))))) (by decide +kernel) (vx_c (va_Nw.use rfl (hN.2.2.1 _ (List.mem_of_getElem? (i := 1) rfl))) (vx_c (va_Nw.use rfl (hN.2.2.1 _ (List.mem_of_getElem? (i := 3) rfl))) (vx_c (va_Nw.use rfl (hN.2.2.1 _ (List.mem_of_getElem? (i := 4) rfl))) (vx_c (va_Nw.use rfl (hN.2.2.1 _ (List.mem_of_getElem? (i := 5) rfl))) vx_n)))) (by decide +kernel) hX hP hS (hl.1.trans hml.symm) dX2_slip_16 dX2_slip_19 dX2_slip_20 dX2_slip_22 dX2_slip_25 hex (Nat.le_of_ble_eq_true rfl) (Nat.le_of_ble_eq_true rfl) (Nat.le_of_ble_eq_true rfl) (Nat.le_of_ble_eq_true rfl) hlocks (Nat.le_of_ble_eq_true rfl) (Nat.le_of_ble_eq_true rfl) (Or.inr (Or.inl ⟨hvi, rfl, by grind [Int32.not_le, Int32.not_lt]⟩))

set_option maxHeartbeats 4000000 in
set_option maxRecDepth 100000 in
theorem c_X2_leave (l : Launch) (hfl : l.stackTraces = false) (D : va_G) (Y : Nat → ClassId) (σ : sg_W) (sz : Nat) (x aM N : Nat) (aO aL aC : Nat → Nat) (P : PS) (i : Int32) (hQ : PF Y x aM N aO aL aC σ P σ) : vx_Met l yX2_leave wsX2_leave ({ frames := 7, cells := 3, slots := 18, locals := 112 } : Room) (va_Pc [.ref x, .int i] (sg_U D Y σ sz)) (va_Qi (fun r σ' => r = (kL (pC P (tN i)) 4).toInt32 ∧ vp_in i N ∧ kI (pC P (tN i)) 3 = 0 ∧ PF Y x aM N aO aL aC σ (uPC P (tN i) (uKI (uKL (uKL (pC P (tN i)) 6 (kL (pC P (tN i)) 6 + kL (pC P (tN i)) 4)) 4 0) 3 1)) σ') (sg_B D σ sz) (sg_A σ sz)) (sg_T9 D σ sz (fun E => (E = "java/lang/IndexOutOfBoundsException" ∧ ¬ vp_in i N) ∨ (vp_in i N ∧ E = "java/lang/IllegalStateException" ∧ ¬ kI (pC P (tN i)) 3 = 0))) 3 18 (sg_A σ sz) := by
  refine sg_metX (cc := cX2_leave) (maxL := 3) (ret := (some .int)) (by decide) rfl (Nat.le_of_ble_eq_true rfl) ?_
  intro p e s m below meth cd9 ls hx hb hml hex hr hown hts hlocks hnm hP hK hD hN hX hA hS hsz hl
  have hl : lv_has ls 3 [(0, .ref x), (1, .int i)] := hl
  refine lv_aload_n hx hb dX2_leave_0 rfl (lv_at hl 0 rfl) ?_
  refine lv_iload_n hx hb dX2_leave_1 rfl (lv_at hl 1 rfl) ?_
  refine sg_xcallq hD hS hA (vx_runV (As := [.int i]) (rest := []) ⟨hx, hb, hml, hown, hts⟩ (c_X2_memberOrThrow l hfl D Y _ _ x aM N aO aL aC P i hQ.self) (cwV 1 hts gX2_leave_X2_memberOrThrow rfl rfl rfl (by decide +kernel) ⟨Nat.le_of_ble_eq_true rfl, Nat.le_of_ble_eq_true rfl⟩) (sg_preV (q := (RX2, TX2, 5)) (hQ.1) rfl hK hP hD hN hX hS hA) rfl rfl hl.1 rfl (lv_room (Nat.le_of_ble_eq_true rfl)) dX2_leave_2 ⟨Nat.le_of_ble_eq_true rfl, Nat.le_of_ble_eq_true rfl⟩) (fun E ce q9 H locs hpx hP hD hS hce hcv hcl => ?_) (fun r2 σ' H locs hw hP hD hS => ?_)
  · exact sg_xout hex hlocks hce hcv hcl hP hS (Nat.le_of_ble_eq_true rfl) (Nat.le_of_ble_eq_true rfl) (Or.inl hpx)
  obtain ⟨rfl, hvi, rfl⟩ := hw
  have hi9 := vp_lt hvi
  refine W.eq (g2 := F0 m 5 ls [.ref (aO (tN i))]) rfl ?_
  refine lv_astore_n (lv' := [(2, .ref (aO (tN i))), (0, .ref x), (1, .int i)]) hx hb dX2_leave_5 rfl hl (by decide) rfl (fun ls hl => ?_)
  refine lv_aload_n hx hb dX2_leave_6 rfl (lv_at hl 0 rfl) ?_
  refine sg_xcallv hD hS hA (vx_runS (As := [.ref (aO (tN i))]) (rest := []) ⟨hx, hb, hml, hown, hts⟩ (c_X2_refuseLeft l hfl D Y _ _ (1000 + 20 * tN i) (aO (tN i)) (aL (tN i)) (aC (tN i)) (pC P (tN i)) (hQ.2.2.1 _ hi9)) (va_cwS 1 hts gX2_leave_X2_refuseLeft rfl rfl rfl (by decide +kernel) ⟨Nat.le_of_ble_eq_true rfl, Nat.le_of_ble_eq_true rfl⟩) (sg_preS hK hP hD hN hX hS hA) rfl rfl hl.1 rfl (lv_room (Nat.le_of_ble_eq_true rfl)) dX2_leave_7 ⟨Nat.le_of_ble_eq_true rfl, Nat.le_of_ble_eq_true rfl⟩) (fun E ce q9 H locs hpx hP hD hS hce hcv hcl => ?_) (fun σ' H locs hw hP hD hS => ?_)
  · exact sg_xout hex hlocks hce hcv hcl hP hS (Nat.le_of_ble_eq_true rfl) (Nat.le_of_ble_eq_true rfl) (Or.inr ⟨hvi, hpx⟩)
  obtain ⟨hlf, rfl⟩ := hw
  refine lv_aload_n hx hb dX2_leave_10 rfl (lv_at hl 0 rfl) ?_
  refine sg_calll hD hS hA (va_runVN (As := []) (rest := []) ⟨hx, hb, hml, hown, hts⟩ (c_X1_giveBack l D Y _ _ (1000 + 20 * tN i) (aO (tN i)) (aL (tN i)) (aC (tN i)) (pC P (tN i)) (hQ.2.2.1 _ hi9)) ⟨(va_cnB 0 hts gX2_leave_X1_giveBack_n81 rfl rfl rfl (hN.2.1 (.methodLinkNest RX2 81 yX1_giveBack RX2) (List.mem_of_getElem? (i := 7) rfl)) (hts (.initialized RX1) (by decide +kernel)) (by decide +kernel) ⟨Nat.le_of_ble_eq_true rfl, Nat.le_of_ble_eq_true rfl⟩), (hts (.instanceMethod yX1_giveBack) (by decide +kernel)), (hts (.selects RX1 yX1_giveBack yX1_giveBack) (by decide +kernel))⟩ (sg_preV (q := (RX1, TX1, 14)) ((hQ.2.2.1 _ hi9).1) rfl hK hP hD hN hX hS hA) rfl rfl hl.1 rfl (lv_room (Nat.le_of_ble_eq_true rfl)) dX2_leave_11 ⟨Nat.le_of_ble_eq_true rfl, Nat.le_of_ble_eq_true rfl⟩) (fun r11 σ' H locs hw hP hD hS => ?_)
  obtain ⟨rfl, hw⟩ := hw
  have hQ := hQ.mem hi9 hw
  refine lv_l2i hx hb dX2_leave_14 rfl ?_
  exact vx_ret (sg_iret hx hb hr rfl hlocks hP hD hS (Nat.le_of_ble_eq_true rfl) (Nat.le_of_ble_eq_true rfl) dX2_leave_15 (⟨rfl, hvi, hlf, hQ⟩))

theorem wi_X2_bought_X0 : ∀ w ∈ wsX00, w ∈ wsX2_bought := by decide +kernel
set_option maxHeartbeats 4000000 in
set_option maxRecDepth 100000 in
theorem c_X2_bought (l : Launch) (hfl : l.stackTraces = false) (D : va_G) (Y : Nat → ClassId) (σ : sg_W) (sz : Nat) (x aM N : Nat) (aO aL aC : Nat → Nat) (P : PS) (i d : Int32) (hQ : PF Y x aM N aO aL aC σ P σ) : vx_Met l yX2_bought wsX2_bought ({ frames := 7, cells := 3, slots := 18, locals := 112 } : Room) (va_Pc [.ref x, .int i, .int d] (sg_U D Y σ sz)) (va_Qi (fun r σ' => r = pLot (pC P (tN i)) d 5 (0) ∧ (vp_in i N ∧ qIn d 0 59) ∧ σ = σ') (sg_B D σ sz) (sg_A σ sz)) (sg_T9 D σ sz (fun E => E = "java/lang/IndexOutOfBoundsException" ∧ ¬ (vp_in i N ∧ qIn d 0 59))) 3 18 (sg_A σ sz) := by
  refine sg_metX (cc := cX2_bought) (maxL := 5) (ret := (some .int)) (by decide) rfl (Nat.le_of_ble_eq_true rfl) ?_
  intro p e s m below meth cd9 ls hx hb hml hex hr hown hts hlocks hnm hP hK hD hN hX hA hS hsz hl
  have hl : lv_has ls 5 [(0, .ref x), (1, .int i), (2, .int d)] := hl
  refine lv_aload_n hx hb dX2_bought_0 rfl (lv_at hl 0 rfl) ?_
  refine lv_iload_n hx hb dX2_bought_1 rfl (lv_at hl 1 rfl) ?_
  refine sg_xcallq hD hS hA (vx_runV (As := [.int i]) (rest := []) ⟨hx, hb, hml, hown, hts⟩ (c_X2_memberOrThrow l hfl D Y _ _ x aM N aO aL aC P i hQ.self) (cwV 1 hts gX2_bought_X2_memberOrThrow rfl rfl rfl (by decide +kernel) ⟨Nat.le_of_ble_eq_true rfl, Nat.le_of_ble_eq_true rfl⟩) (sg_preV (q := (RX2, TX2, 5)) (hQ.1) rfl hK hP hD hN hX hS hA) rfl rfl hl.1 rfl (lv_room (Nat.le_of_ble_eq_true rfl)) dX2_bought_2 ⟨Nat.le_of_ble_eq_true rfl, Nat.le_of_ble_eq_true rfl⟩) (fun E ce q9 H locs hpx hP hD hS hce hcv hcl => ?_) (fun r2 σ' H locs hw hP hD hS => ?_)
  · exact sg_xout hex hlocks hce hcv hcl hP hS (Nat.le_of_ble_eq_true rfl) (Nat.le_of_ble_eq_true rfl) (⟨hpx.1, fun h => hpx.2 h.1⟩)
  obtain ⟨rfl, hvi, rfl⟩ := hw
  have hi9 := vp_lt hvi
  refine W.eq (g2 := F0 m 5 ls [.ref (aO (tN i))]) rfl ?_
  refine lv_astore_n (lv' := [(3, .ref (aO (tN i))), (0, .ref x), (1, .int i), (2, .int d)]) hx hb dX2_bought_5 rfl hl (by decide) rfl (fun ls hl => ?_)
  refine lv_iload_n hx hb dX2_bought_6 rfl (lv_at hl 3 rfl) ?_
  refine sg_xcallv hD hS hA (vx_runS (As := [.int d]) (rest := []) ⟨hx, hb, hml, hown, hts⟩ (c_X2_refuseBadMonth l hfl D Y _ _ d) (va_cwS 1 hts gX2_bought_X2_refuseBadMonth rfl rfl rfl (by decide +kernel) ⟨Nat.le_of_ble_eq_true rfl, Nat.le_of_ble_eq_true rfl⟩) (sg_preS hK hP hD hN hX hS hA) rfl rfl hl.1 rfl (lv_room (Nat.le_of_ble_eq_true rfl)) dX2_bought_7 ⟨Nat.le_of_ble_eq_true rfl, Nat.le_of_ble_eq_true rfl⟩) (fun E ce q9 H locs hpx hP hD hS hce hcv hcl => ?_) (fun σ' H locs hw hP hD hS => ?_)
  · exact sg_xout hex hlocks hce hcv hcl hP hS (Nat.le_of_ble_eq_true rfl) (Nat.le_of_ble_eq_true rfl) (⟨hpx.1, fun h => hpx.2 h.2⟩)
  obtain ⟨hqd, rfl⟩ := hw
  refine lv_aload_n hx hb dX2_bought_10 rfl (lv_at hl 0 rfl) ?_
  refine lv_iload_n hx hb dX2_bought_11 rfl (lv_at hl 3 rfl) ?_
  refine sg_callq hD hS hA (va_runVN (As := [.int d]) (rest := []) ⟨hx, hb, hml, hown, hts⟩ (c_X1_lotOf l D Y _ _ (1000 + 20 * tN i) (aO (tN i)) (aL (tN i)) (aC (tN i)) (pC P (tN i)) d (hQ.2.2.1 _ hi9)) ⟨(va_cnB 1 hts gX2_bought_X1_lotOf_n105 rfl rfl rfl (hN.2.1 (.methodLinkNest RX2 105 yX1_lotOf RX2) (List.mem_of_getElem? (i := 0) rfl)) (hts (.initialized RX1) (by decide +kernel)) (by decide +kernel) ⟨Nat.le_of_ble_eq_true rfl, Nat.le_of_ble_eq_true rfl⟩), (hts (.instanceMethod yX1_lotOf) (by decide +kernel)), (hts (.selects RX1 yX1_lotOf yX1_lotOf) (by decide +kernel))⟩ (sg_preV (q := (RX1, TX1, 14)) ((hQ.2.2.1 _ hi9).1) rfl hK hP hD hN hX hS hA) rfl rfl hl.1 rfl (lv_room (Nat.le_of_ble_eq_true rfl)) dX2_bought_12 ⟨Nat.le_of_ble_eq_true rfl, Nat.le_of_ble_eq_true rfl⟩) (fun r12 σ' H locs hw hP hD hS => ?_)
  obtain ⟨rfl, rfl⟩ := hw
  rcases hlx : kLot (pC P (tN i)) d with _ | la
  · skip
    refine lv_astoreN (lv' := [(4, .null), (3, .ref (aO (tN i))), (0, .ref x), (1, .int i), (2, .int d)]) hx hb dX2_bought_15 hl (by decide) rfl (fun ls hl => ?_)
    refine lv_aloadN hx hb dX2_bought_17 (lv_at hl 0 rfl) ?_
    refine lv_ifnonnullN hx hb dX2_bought_19 ?_
    refine lv_iconst (v := 0) hx hb dX2_bought_22 (by decide) ?_
    refine lv_goto (tgt := 31) hx hb dX2_bought_23 (by decide) ?_
    exact vx_ret (sg_iret hx hb hr rfl hlocks hP hD hS (Nat.le_of_ble_eq_true rfl) (Nat.le_of_ble_eq_true rfl) dX2_bought_31 (⟨by rw [pLot, hlx]; first | rw [if_pos rfl] | rw [if_neg (by simp)], ⟨hvi, hqd⟩, rfl⟩))
  · obtain ⟨hk9, hla⟩ := kLot_some hlx
    refine lv_astore (lv' := [(4, .ref la), (3, .ref (aO (tN i))), (0, .ref x), (1, .int i), (2, .int d)]) hx hb dX2_bought_15 hl (by decide) rfl (fun ls hl => ?_)
    refine lv_aload hx hb dX2_bought_17 (lv_at hl 0 rfl) ?_
    refine lv_ifnonnull (tgt := 26) hx hb dX2_bought_19 (by decide) ?_
    refine lv_aload hx hb dX2_bought_26 (lv_at hl 0 rfl) ?_
    refine va_getN (ref := RX0) (host := RX2) (v := .int (kV (pC P (tN i)) (tN (d / 6)) 5)) hx hb hts wi_X2_bought_X0 hown hK (sg_one hP ((hQ.2.2.1 _ hi9).lot hk9 hla)) 0 rfl rfl 5 (by decide) (va_Nw.use rfl (hN.1 (.fieldLinkNest RX2 109 RX0 "bought" "I" RX2) (List.mem_of_getElem? (i := 2) rfl))) (fun _ h => h) rfl dX2_bought_28 ?_
    exact vx_ret (sg_iret hx hb hr rfl hlocks hP hD hS (Nat.le_of_ble_eq_true rfl) (Nat.le_of_ble_eq_true rfl) dX2_bought_31 (⟨by rw [pLot, hlx]; first | rw [if_pos rfl] | rw [if_neg (by simp)], ⟨hvi, hqd⟩, rfl⟩))

theorem wi_X2_paidEach_X0 : ∀ w ∈ wsX00, w ∈ wsX2_paidEach := by decide +kernel
set_option maxHeartbeats 4000000 in
set_option maxRecDepth 100000 in
theorem c_X2_paidEach (l : Launch) (hfl : l.stackTraces = false) (D : va_G) (Y : Nat → ClassId) (σ : sg_W) (sz : Nat) (x aM N : Nat) (aO aL aC : Nat → Nat) (P : PS) (i d : Int32) (hQ : PF Y x aM N aO aL aC σ P σ) : vx_Met l yX2_paidEach wsX2_paidEach ({ frames := 7, cells := 3, slots := 18, locals := 112 } : Room) (va_Pc [.ref x, .int i, .int d] (sg_U D Y σ sz)) (va_Qi (fun r σ' => r = pLot (pC P (tN i)) d 2 (-1) ∧ (vp_in i N ∧ qIn d 0 59) ∧ σ = σ') (sg_B D σ sz) (sg_A σ sz)) (sg_T9 D σ sz (fun E => E = "java/lang/IndexOutOfBoundsException" ∧ ¬ (vp_in i N ∧ qIn d 0 59))) 3 18 (sg_A σ sz) := by
  refine sg_metX (cc := cX2_paidEach) (maxL := 5) (ret := (some .int)) (by decide) rfl (Nat.le_of_ble_eq_true rfl) ?_
  intro p e s m below meth cd9 ls hx hb hml hex hr hown hts hlocks hnm hP hK hD hN hX hA hS hsz hl
  have hl : lv_has ls 5 [(0, .ref x), (1, .int i), (2, .int d)] := hl
  refine lv_aload_n hx hb dX2_paidEach_0 rfl (lv_at hl 0 rfl) ?_
  refine lv_iload_n hx hb dX2_paidEach_1 rfl (lv_at hl 1 rfl) ?_
  refine sg_xcallq hD hS hA (vx_runV (As := [.int i]) (rest := []) ⟨hx, hb, hml, hown, hts⟩ (c_X2_memberOrThrow l hfl D Y _ _ x aM N aO aL aC P i hQ.self) (cwV 1 hts gX2_paidEach_X2_memberOrThrow rfl rfl rfl (by decide +kernel) ⟨Nat.le_of_ble_eq_true rfl, Nat.le_of_ble_eq_true rfl⟩) (sg_preV (q := (RX2, TX2, 5)) (hQ.1) rfl hK hP hD hN hX hS hA) rfl rfl hl.1 rfl (lv_room (Nat.le_of_ble_eq_true rfl)) dX2_paidEach_2 ⟨Nat.le_of_ble_eq_true rfl, Nat.le_of_ble_eq_true rfl⟩) (fun E ce q9 H locs hpx hP hD hS hce hcv hcl => ?_) (fun r2 σ' H locs hw hP hD hS => ?_)
  · exact sg_xout hex hlocks hce hcv hcl hP hS (Nat.le_of_ble_eq_true rfl) (Nat.le_of_ble_eq_true rfl) (⟨hpx.1, fun h => hpx.2 h.1⟩)
  obtain ⟨rfl, hvi, rfl⟩ := hw
  have hi9 := vp_lt hvi
  refine W.eq (g2 := F0 m 5 ls [.ref (aO (tN i))]) rfl ?_
  refine lv_astore_n (lv' := [(3, .ref (aO (tN i))), (0, .ref x), (1, .int i), (2, .int d)]) hx hb dX2_paidEach_5 rfl hl (by decide) rfl (fun ls hl => ?_)
  refine lv_iload_n hx hb dX2_paidEach_6 rfl (lv_at hl 3 rfl) ?_
  refine sg_xcallv hD hS hA (vx_runS (As := [.int d]) (rest := []) ⟨hx, hb, hml, hown, hts⟩ (c_X2_refuseBadMonth l hfl D Y _ _ d) (va_cwS 1 hts gX2_paidEach_X2_refuseBadMonth rfl rfl rfl (by decide +kernel) ⟨Nat.le_of_ble_eq_true rfl, Nat.le_of_ble_eq_true rfl⟩) (sg_preS hK hP hD hN hX hS hA) rfl rfl hl.1 rfl (lv_room (Nat.le_of_ble_eq_true rfl)) dX2_paidEach_7 ⟨Nat.le_of_ble_eq_true rfl, Nat.le_of_ble_eq_true rfl⟩) (fun E ce q9 H locs hpx hP hD hS hce hcv hcl => ?_) (fun σ' H locs hw hP hD hS => ?_)
  · exact sg_xout hex hlocks hce hcv hcl hP hS (Nat.le_of_ble_eq_true rfl) (Nat.le_of_ble_eq_true rfl) (⟨hpx.1, fun h => hpx.2 h.2⟩)
  obtain ⟨hqd, rfl⟩ := hw
  refine lv_aload_n hx hb dX2_paidEach_10 rfl (lv_at hl 0 rfl) ?_
  refine lv_iload_n hx hb dX2_paidEach_11 rfl (lv_at hl 3 rfl) ?_
  refine sg_callq hD hS hA (va_runVN (As := [.int d]) (rest := []) ⟨hx, hb, hml, hown, hts⟩ (c_X1_lotOf l D Y _ _ (1000 + 20 * tN i) (aO (tN i)) (aL (tN i)) (aC (tN i)) (pC P (tN i)) d (hQ.2.2.1 _ hi9)) ⟨(va_cnB 1 hts gX2_paidEach_X1_lotOf_n105 rfl rfl rfl (hN.2.1 (.methodLinkNest RX2 105 yX1_lotOf RX2) (List.mem_of_getElem? (i := 0) rfl)) (hts (.initialized RX1) (by decide +kernel)) (by decide +kernel) ⟨Nat.le_of_ble_eq_true rfl, Nat.le_of_ble_eq_true rfl⟩), (hts (.instanceMethod yX1_lotOf) (by decide +kernel)), (hts (.selects RX1 yX1_lotOf yX1_lotOf) (by decide +kernel))⟩ (sg_preV (q := (RX1, TX1, 14)) ((hQ.2.2.1 _ hi9).1) rfl hK hP hD hN hX hS hA) rfl rfl hl.1 rfl (lv_room (Nat.le_of_ble_eq_true rfl)) dX2_paidEach_12 ⟨Nat.le_of_ble_eq_true rfl, Nat.le_of_ble_eq_true rfl⟩) (fun r12 σ' H locs hw hP hD hS => ?_)
  obtain ⟨rfl, rfl⟩ := hw
  rcases hlx : kLot (pC P (tN i)) d with _ | la
  · skip
    refine lv_astoreN (lv' := [(4, .null), (3, .ref (aO (tN i))), (0, .ref x), (1, .int i), (2, .int d)]) hx hb dX2_paidEach_15 hl (by decide) rfl (fun ls hl => ?_)
    refine lv_aloadN hx hb dX2_paidEach_17 (lv_at hl 0 rfl) ?_
    refine lv_ifnonnullN hx hb dX2_paidEach_19 ?_
    refine lv_iconst (v := (-1)) hx hb dX2_paidEach_22 (by decide) ?_
    refine lv_goto (tgt := 31) hx hb dX2_paidEach_23 (by decide) ?_
    exact vx_ret (sg_iret hx hb hr rfl hlocks hP hD hS (Nat.le_of_ble_eq_true rfl) (Nat.le_of_ble_eq_true rfl) dX2_paidEach_31 (⟨by rw [pLot, hlx]; first | rw [if_pos rfl] | rw [if_neg (by simp)], ⟨hvi, hqd⟩, rfl⟩))
  · obtain ⟨hk9, hla⟩ := kLot_some hlx
    refine lv_astore (lv' := [(4, .ref la), (3, .ref (aO (tN i))), (0, .ref x), (1, .int i), (2, .int d)]) hx hb dX2_paidEach_15 hl (by decide) rfl (fun ls hl => ?_)
    refine lv_aload hx hb dX2_paidEach_17 (lv_at hl 0 rfl) ?_
    refine lv_ifnonnull (tgt := 26) hx hb dX2_paidEach_19 (by decide) ?_
    refine lv_aload hx hb dX2_paidEach_26 (lv_at hl 0 rfl) ?_
    refine va_getN (ref := RX0) (host := RX2) (v := .int (kV (pC P (tN i)) (tN (d / 6)) 2)) hx hb hts wi_X2_paidEach_X0 hown hK (sg_one hP ((hQ.2.2.1 _ hi9).lot hk9 hla)) 0 rfl rfl 2 (by decide) (va_Nw.use rfl (hN.1 (.fieldLinkNest RX2 114 RX0 "paidEach" "I" RX2) (List.mem_of_getElem? (i := 1) rfl))) (fun _ h => h) rfl dX2_paidEach_28 ?_
    exact vx_ret (sg_iret hx hb hr rfl hlocks hP hD hS (Nat.le_of_ble_eq_true rfl) (Nat.le_of_ble_eq_true rfl) dX2_paidEach_31 (⟨by rw [pLot, hlx]; first | rw [if_pos rfl] | rw [if_neg (by simp)], ⟨hvi, hqd⟩, rfl⟩))

set_option maxHeartbeats 4000000 in
set_option maxRecDepth 100000 in
theorem c_X2_counted (l : Launch) (hfl : l.stackTraces = false) (D : va_G) (Y : Nat → ClassId) (σ : sg_W) (sz : Nat) (x aM N : Nat) (aO aL aC : Nat → Nat) (P : PS) (i d : Int32) (hQ : PF Y x aM N aO aL aC σ P σ) : vx_Met l yX2_counted wsX2_counted ({ frames := 7, cells := 3, slots := 18, locals := 112 } : Room) (va_Pc [.ref x, .int i, .int d] (sg_U D Y σ sz)) (va_Ql (fun r σ' => r = kCnt (pC P (tN i)) d ∧ (vp_in i N ∧ qIn d 0 4) ∧ σ = σ') (sg_B D σ sz) (sg_A σ sz)) (sg_T9 D σ sz (fun E => E = "java/lang/IndexOutOfBoundsException" ∧ ¬ (vp_in i N ∧ qIn d 0 4))) 3 18 (sg_A σ sz) := by
  refine sg_metX (cc := cX2_counted) (maxL := 4) (ret := (some .long)) (by decide) rfl (Nat.le_of_ble_eq_true rfl) ?_
  intro p e s m below meth cd9 ls hx hb hml hex hr hown hts hlocks hnm hP hK hD hN hX hA hS hsz hl
  have hl : lv_has ls 4 [(0, .ref x), (1, .int i), (2, .int d)] := hl
  refine lv_aload_n hx hb dX2_counted_0 rfl (lv_at hl 0 rfl) ?_
  refine lv_iload_n hx hb dX2_counted_1 rfl (lv_at hl 1 rfl) ?_
  refine sg_xcallq hD hS hA (vx_runV (As := [.int i]) (rest := []) ⟨hx, hb, hml, hown, hts⟩ (c_X2_memberOrThrow l hfl D Y _ _ x aM N aO aL aC P i hQ.self) (cwV 1 hts gX2_counted_X2_memberOrThrow rfl rfl rfl (by decide +kernel) ⟨Nat.le_of_ble_eq_true rfl, Nat.le_of_ble_eq_true rfl⟩) (sg_preV (q := (RX2, TX2, 5)) (hQ.1) rfl hK hP hD hN hX hS hA) rfl rfl hl.1 rfl (lv_room (Nat.le_of_ble_eq_true rfl)) dX2_counted_2 ⟨Nat.le_of_ble_eq_true rfl, Nat.le_of_ble_eq_true rfl⟩) (fun E ce q9 H locs hpx hP hD hS hce hcv hcl => ?_) (fun r2 σ' H locs hw hP hD hS => ?_)
  · exact sg_xout hex hlocks hce hcv hcl hP hS (Nat.le_of_ble_eq_true rfl) (Nat.le_of_ble_eq_true rfl) (⟨hpx.1, fun h => hpx.2 h.1⟩)
  obtain ⟨rfl, hvi, rfl⟩ := hw
  have hi9 := vp_lt hvi
  refine W.eq (g2 := F0 m 5 ls [.ref (aO (tN i))]) rfl ?_
  refine lv_astore_n (lv' := [(3, .ref (aO (tN i))), (0, .ref x), (1, .int i), (2, .int d)]) hx hb dX2_counted_5 rfl hl (by decide) rfl (fun ls hl => ?_)
  refine lv_iload_n hx hb dX2_counted_6 rfl (lv_at hl 3 rfl) ?_
  refine lv_if_lt (tgt := 15) hx hb dX2_counted_7 (by decide) (fun c7 => ?_) (fun c7 => ?_)
  · skip
    exact sg_throw (cls := "java/lang/IndexOutOfBoundsException") (names := ["java/lang/RuntimeException", "java/lang/Exception"]) (B := [.castable "java/lang/IndexOutOfBoundsException" "java/lang/IndexOutOfBoundsException", .declares (Bundle.initS "java/lang/RuntimeException"), .declares (Bundle.initS "java/lang/Exception"), .declares (Bundle.initS "java/lang/Throwable")]) hx hb hfl hown (by decide +kernel) (by decide +kernel) (hts (.classLink RX2 117 "java/lang/IndexOutOfBoundsException") (by decide +kernel)) (hts (.initialized "java/lang/IndexOutOfBoundsException") (by decide +kernel)) (hN.2.2.2.2 (119, "there is no such year") (List.mem_of_getElem? (i := 0) rfl)) (fun w h => hts w (List.mem_cons_of_mem _ (List.mem_append_right _ h))) (by decide +kernel) (vx_c (va_Nw.use rfl (hN.2.2.1 _ (List.mem_of_getElem? (i := 0) rfl))) (vx_c (va_Nw.use rfl (hN.2.2.1 _ (List.mem_of_getElem? (i := 3) rfl))) (vx_c (va_Nw.use rfl (hN.2.2.1 _ (List.mem_of_getElem? (i := 4) rfl))) (vx_c (va_Nw.use rfl (hN.2.2.1 _ (List.mem_of_getElem? (i := 5) rfl))) vx_n)))) (by decide +kernel) hX hP hS (hl.1.trans hml.symm) dX2_counted_15 dX2_counted_18 dX2_counted_19 dX2_counted_21 dX2_counted_24 hex (Nat.le_of_ble_eq_true rfl) (Nat.le_of_ble_eq_true rfl) (Nat.le_of_ble_eq_true rfl) (Nat.le_of_ble_eq_true rfl) hlocks (Nat.le_of_ble_eq_true rfl) (Nat.le_of_ble_eq_true rfl) (⟨rfl, fun h => y4 (by grind [Int32.not_le, Int32.not_lt]) h.2⟩)
  · skip
    refine lv_iload_n hx hb dX2_counted_10 rfl (lv_at hl 3 rfl) ?_
    refine lv_iconst (v := 5) hx hb dX2_counted_11 (by decide) ?_
    refine lv_icmp_lt (tgt := 25) hx hb dX2_counted_12 (by decide) (fun c12 => ?_) (fun c12 => ?_)
    · skip
      refine lv_aload_n hx hb dX2_counted_25 rfl (lv_at hl 0 rfl) ?_
      refine lv_iload_n hx hb dX2_counted_26 rfl (lv_at hl 3 rfl) ?_
      refine sg_calll hD hS hA (va_runVN (As := [.int d]) (rest := []) ⟨hx, hb, hml, hown, hts⟩ (c_X1_countedIn l D Y _ _ (1000 + 20 * tN i) (aO (tN i)) (aL (tN i)) (aC (tN i)) (pC P (tN i)) d (hQ.2.2.1 _ hi9)) ⟨(va_cnB 1 hts gX2_counted_X1_countedIn_n122 rfl rfl rfl (hN.2.1 (.methodLinkNest RX2 122 yX1_countedIn RX2) (List.mem_of_getElem? (i := 1) rfl)) (hts (.initialized RX1) (by decide +kernel)) (by decide +kernel) ⟨Nat.le_of_ble_eq_true rfl, Nat.le_of_ble_eq_true rfl⟩), (hts (.instanceMethod yX1_countedIn) (by decide +kernel)), (hts (.selects RX1 yX1_countedIn yX1_countedIn) (by decide +kernel))⟩ (sg_preV (q := (RX1, TX1, 14)) ((hQ.2.2.1 _ hi9).1) rfl hK hP hD hN hX hS hA) rfl rfl hl.1 rfl (lv_room (Nat.le_of_ble_eq_true rfl)) dX2_counted_27 ⟨Nat.le_of_ble_eq_true rfl, Nat.le_of_ble_eq_true rfl⟩) (fun r27 σ' H locs hw hP hD hS => ?_)
      obtain ⟨rfl, rfl⟩ := hw
      exact vx_ret (sg_lret hx hb hr hlocks hP hD hS (Nat.le_of_ble_eq_true rfl) (Nat.le_of_ble_eq_true rfl) dX2_counted_30 (⟨rfl, ⟨hvi, y4b (Int32.not_lt.mp c7) c12⟩, rfl⟩))
    · skip
      exact sg_throw (cls := "java/lang/IndexOutOfBoundsException") (names := ["java/lang/RuntimeException", "java/lang/Exception"]) (B := [.castable "java/lang/IndexOutOfBoundsException" "java/lang/IndexOutOfBoundsException", .declares (Bundle.initS "java/lang/RuntimeException"), .declares (Bundle.initS "java/lang/Exception"), .declares (Bundle.initS "java/lang/Throwable")]) hx hb hfl hown (by decide +kernel) (by decide +kernel) (hts (.classLink RX2 117 "java/lang/IndexOutOfBoundsException") (by decide +kernel)) (hts (.initialized "java/lang/IndexOutOfBoundsException") (by decide +kernel)) (hN.2.2.2.2 (119, "there is no such year") (List.mem_of_getElem? (i := 0) rfl)) (fun w h => hts w (List.mem_cons_of_mem _ (List.mem_append_right _ h))) (by decide +kernel) (vx_c (va_Nw.use rfl (hN.2.2.1 _ (List.mem_of_getElem? (i := 0) rfl))) (vx_c (va_Nw.use rfl (hN.2.2.1 _ (List.mem_of_getElem? (i := 3) rfl))) (vx_c (va_Nw.use rfl (hN.2.2.1 _ (List.mem_of_getElem? (i := 4) rfl))) (vx_c (va_Nw.use rfl (hN.2.2.1 _ (List.mem_of_getElem? (i := 5) rfl))) vx_n)))) (by decide +kernel) hX hP hS (hl.1.trans hml.symm) dX2_counted_15 dX2_counted_18 dX2_counted_19 dX2_counted_21 dX2_counted_24 hex (Nat.le_of_ble_eq_true rfl) (Nat.le_of_ble_eq_true rfl) (Nat.le_of_ble_eq_true rfl) (Nat.le_of_ble_eq_true rfl) hlocks (Nat.le_of_ble_eq_true rfl) (Nat.le_of_ble_eq_true rfl) (⟨rfl, fun h => y4 (by grind [Int32.not_le, Int32.not_lt]) h.2⟩)

theorem wi_X2_sell_X2 : ∀ w ∈ wsX20, w ∈ wsX2_sell := by decide +kernel
set_option maxHeartbeats 4000000 in
set_option maxRecDepth 100000 in
theorem c_X2_sell (l : Launch) (hfl : l.stackTraces = false) (D : va_G) (Y : Nat → ClassId) (σ : sg_W) (sz : Nat) (x aM N : Nat) (aO aL aC : Nat → Nat) (P : PS) (i y : Int32) (hQ : PF Y x aM N aO aL aC σ P σ) : vx_Met l yX2_sell wsX2_sell ({ frames := 7, cells := 3, slots := 18, locals := 112 } : Room) (va_Pc [.ref x, .int i, .int y] (sg_U D Y σ sz)) (va_Qi (fun r σ' => r = (kSellN (pS P 2) (pS P 3) 10 ((pC P (tN i)), y, 0)).2.2 ∧ vp_in i N ∧ qIn y 1 1000000 ∧ y ≤ kSum (pC P (tN i)) 10 ∧ PF Y x aM N aO aL aC σ (uPC P (tN i) (kSellN (pS P 2) (pS P 3) 10 ((pC P (tN i)), y, 0)).1) σ') (sg_B D σ sz) (sg_A σ sz)) (sg_T9 D σ sz (fun E => (E = "java/lang/IndexOutOfBoundsException" ∧ ¬ vp_in i N) ∨ (vp_in i N ∧ E = "java/lang/IllegalArgumentException" ∧ ¬ qIn y 1 1000000) ∨ (vp_in i N ∧ qIn y 1 1000000 ∧ E = "java/lang/IllegalStateException" ∧ ¬ y ≤ kSum (pC P (tN i)) 10))) 3 18 (sg_A σ sz) := by
  refine sg_metX (cc := cX2_sell) (maxL := 4) (ret := (some .int)) (by decide) rfl (Nat.le_of_ble_eq_true rfl) ?_
  intro p e s m below meth cd9 ls hx hb hml hex hr hown hts hlocks hnm hP hK hD hN hX hA hS hsz hl
  have hl : lv_has ls 4 [(0, .ref x), (1, .int i), (2, .int y)] := hl
  refine lv_aload_n hx hb dX2_sell_0 rfl (lv_at hl 0 rfl) ?_
  refine lv_iload_n hx hb dX2_sell_1 rfl (lv_at hl 1 rfl) ?_
  refine sg_xcallq hD hS hA (vx_runV (As := [.int i]) (rest := []) ⟨hx, hb, hml, hown, hts⟩ (c_X2_memberOrThrow l hfl D Y _ _ x aM N aO aL aC P i hQ.self) (cwV 1 hts gX2_sell_X2_memberOrThrow rfl rfl rfl (by decide +kernel) ⟨Nat.le_of_ble_eq_true rfl, Nat.le_of_ble_eq_true rfl⟩) (sg_preV (q := (RX2, TX2, 5)) (hQ.1) rfl hK hP hD hN hX hS hA) rfl rfl hl.1 rfl (lv_room (Nat.le_of_ble_eq_true rfl)) dX2_sell_2 ⟨Nat.le_of_ble_eq_true rfl, Nat.le_of_ble_eq_true rfl⟩) (fun E ce q9 H locs hpx hP hD hS hce hcv hcl => ?_) (fun r2 σ' H locs hw hP hD hS => ?_)
  · exact sg_xout hex hlocks hce hcv hcl hP hS (Nat.le_of_ble_eq_true rfl) (Nat.le_of_ble_eq_true rfl) (Or.inl hpx)
  obtain ⟨rfl, hvi, rfl⟩ := hw
  have hi9 := vp_lt hvi
  refine W.eq (g2 := F0 m 5 ls [.ref (aO (tN i))]) rfl ?_
  refine lv_astore_n (lv' := [(3, .ref (aO (tN i))), (0, .ref x), (1, .int i), (2, .int y)]) hx hb dX2_sell_5 rfl hl (by decide) rfl (fun ls hl => ?_)
  refine lv_iload_n hx hb dX2_sell_6 rfl (lv_at hl 3 rfl) ?_
  refine lv_iconst (v := 1) hx hb dX2_sell_7 (by decide) ?_
  refine lv_icmp_lt (tgt := 17) hx hb dX2_sell_8 (by decide) (fun c8 => ?_) (fun c8 => ?_)
  · skip
    exact sg_throw (cls := "java/lang/IllegalArgumentException") (names := ["java/lang/RuntimeException", "java/lang/Exception"]) (B := [.castable "java/lang/IllegalArgumentException" "java/lang/IllegalArgumentException", .declares (Bundle.initS "java/lang/RuntimeException"), .declares (Bundle.initS "java/lang/Exception"), .declares (Bundle.initS "java/lang/Throwable")]) hx hb hfl hown (by decide +kernel) (by decide +kernel) (hts (.classLink RX2 30 "java/lang/IllegalArgumentException") (by decide +kernel)) (hts (.initialized "java/lang/IllegalArgumentException") (by decide +kernel)) (hN.2.2.2.2 (136, "the number of shares is out of its range") (List.mem_of_getElem? (i := 1) rfl)) (fun w h => hts w (List.mem_cons_of_mem _ (List.mem_append_left _ (List.mem_append_left _ (List.mem_append_right _ h))))) (by decide +kernel) (vx_c (va_Nw.use rfl (hN.2.2.1 _ (List.mem_of_getElem? (i := 1) rfl))) (vx_c (va_Nw.use rfl (hN.2.2.1 _ (List.mem_of_getElem? (i := 3) rfl))) (vx_c (va_Nw.use rfl (hN.2.2.1 _ (List.mem_of_getElem? (i := 4) rfl))) (vx_c (va_Nw.use rfl (hN.2.2.1 _ (List.mem_of_getElem? (i := 5) rfl))) vx_n)))) (by decide +kernel) hX hP hS (hl.1.trans hml.symm) dX2_sell_17 dX2_sell_20 dX2_sell_21 dX2_sell_23 dX2_sell_26 hex (Nat.le_of_ble_eq_true rfl) (Nat.le_of_ble_eq_true rfl) (Nat.le_of_ble_eq_true rfl) (Nat.le_of_ble_eq_true rfl) hlocks (Nat.le_of_ble_eq_true rfl) (Nat.le_of_ble_eq_true rfl) (Or.inr (Or.inl ⟨hvi, rfl, by grind [Int32.not_le, Int32.not_lt]⟩))
  · skip
    refine lv_iload_n hx hb dX2_sell_11 rfl (lv_at hl 3 rfl) ?_
    refine lv_ldc (v := 1000000) hx hb hown (hts (.constant RX2 135 1000000) (by decide +kernel)) dX2_sell_12 ?_
    refine lv_icmp_le (tgt := 27) hx hb dX2_sell_14 (by decide) (fun c14 => ?_) (fun c14 => ?_)
    · skip
      have hqs : qIn y 1 1000000 := by grind [Int32.not_le, Int32.not_lt]
      refine lv_aload_n hx hb dX2_sell_27 rfl (lv_at hl 0 rfl) ?_
      refine sg_calli hD hS hA (va_runVN (As := []) (rest := []) ⟨hx, hb, hml, hown, hts⟩ (c_X1_sharesHeld l D Y _ _ (1000 + 20 * tN i) (aO (tN i)) (aL (tN i)) (aC (tN i)) (pC P (tN i)) (hQ.2.2.1 _ hi9)) ⟨(va_cnB 0 hts gX2_sell_X1_sharesHeld_n98 rfl rfl rfl (hN.2.1 (.methodLinkNest RX2 98 yX1_sharesHeld RX2) (List.mem_of_getElem? (i := 8) rfl)) (hts (.initialized RX1) (by decide +kernel)) (by decide +kernel) ⟨Nat.le_of_ble_eq_true rfl, Nat.le_of_ble_eq_true rfl⟩), (hts (.instanceMethod yX1_sharesHeld) (by decide +kernel)), (hts (.selects RX1 yX1_sharesHeld yX1_sharesHeld) (by decide +kernel))⟩ (sg_preV (q := (RX1, TX1, 14)) ((hQ.2.2.1 _ hi9).1) rfl hK hP hD hN hX hS hA) rfl rfl hl.1 rfl (lv_room (Nat.le_of_ble_eq_true rfl)) dX2_sell_28 ⟨Nat.le_of_ble_eq_true rfl, Nat.le_of_ble_eq_true rfl⟩) (fun r28 σ' H locs hw hP hD hS => ?_)
      obtain ⟨rfl, rfl⟩ := hw
      refine lv_iload_n hx hb dX2_sell_31 rfl (lv_at hl 3 rfl) ?_
      refine lv_icmp_ge (tgt := 45) hx hb dX2_sell_32 (by decide) (fun c32 => ?_) (fun c32 => ?_)
      · skip
        refine lv_aload_n hx hb dX2_sell_45 rfl (lv_at hl 0 rfl) ?_
        refine lv_iload_n hx hb dX2_sell_46 rfl (lv_at hl 3 rfl) ?_
        refine lv_aload_n hx hb dX2_sell_47 rfl (lv_at hl 1 rfl) ?_
        refine va_get (ref := RX2) (v := .int (pS P 2)) hx hb hts wi_X2_sell_X2 hown hK (sg_one hP (hQ.1)) 0 rfl rfl 2 (by decide) (hts (.fieldLink RX2 19 RX2 "month" "I") (by decide +kernel)) (fun _ h => h) rfl dX2_sell_48 ?_
        refine lv_aload_n hx hb dX2_sell_51 rfl (lv_at hl 1 rfl) ?_
        refine va_get (ref := RX2) (v := .int (pS P 3)) hx hb hts wi_X2_sell_X2 hown hK (sg_one hP (hQ.1)) 0 rfl rfl 3 (by decide) (hts (.fieldLink RX2 22 RX2 "priceNow" "I") (by decide +kernel)) (fun _ h => h) rfl dX2_sell_52 ?_
        refine sg_calli hD hS hA (va_runVN (As := [.int y, .int (pS P 2), .int (pS P 3)]) (rest := []) ⟨hx, hb, hml, hown, hts⟩ (c_X1_sellOldest l D Y _ _ (1000 + 20 * tN i) (aO (tN i)) (aL (tN i)) (aC (tN i)) (pC P (tN i)) y (pS P 2) (pS P 3) (hQ.2.2.1 _ hi9)) ⟨(va_cnB 3 hts gX2_sell_X1_sellOldest_n140 rfl rfl rfl (hN.2.1 (.methodLinkNest RX2 140 yX1_sellOldest RX2) (List.mem_of_getElem? (i := 2) rfl)) (hts (.initialized RX1) (by decide +kernel)) (by decide +kernel) ⟨Nat.le_of_ble_eq_true rfl, Nat.le_of_ble_eq_true rfl⟩), (hts (.instanceMethod yX1_sellOldest) (by decide +kernel)), (hts (.selects RX1 yX1_sellOldest yX1_sellOldest) (by decide +kernel))⟩ (sg_preV (q := (RX1, TX1, 14)) ((hQ.2.2.1 _ hi9).1) rfl hK hP hD hN hX hS hA) rfl rfl hl.1 rfl (lv_room (Nat.le_of_ble_eq_true rfl)) dX2_sell_55 ⟨Nat.le_of_ble_eq_true rfl, Nat.le_of_ble_eq_true rfl⟩) (fun r55 σ' H locs hw hP hD hS => ?_)
        obtain ⟨rfl, hw⟩ := hw
        have hQ := hQ.mem hi9 hw
        exact vx_ret (sg_iret hx hb hr rfl hlocks hP hD hS (Nat.le_of_ble_eq_true rfl) (Nat.le_of_ble_eq_true rfl) dX2_sell_58 (⟨rfl, hvi, hqs, c32, hQ⟩))
      · skip
        exact sg_throw (cls := "java/lang/IllegalStateException") (names := ["java/lang/RuntimeException", "java/lang/Exception"]) (B := [.castable "java/lang/IllegalStateException" "java/lang/IllegalStateException", .declares (Bundle.initS "java/lang/RuntimeException"), .declares (Bundle.initS "java/lang/Exception"), .declares (Bundle.initS "java/lang/Throwable")]) hx hb hfl hown (by decide +kernel) (by decide +kernel) (hts (.classLink RX2 37 "java/lang/IllegalStateException") (by decide +kernel)) (hts (.initialized "java/lang/IllegalStateException") (by decide +kernel)) (hN.2.2.2.2 (138, "the member has fewer shares") (List.mem_of_getElem? (i := 2) rfl)) (fun w h => hts w (List.mem_cons_of_mem _ (List.mem_append_left _ (List.mem_append_right _ h)))) (by decide +kernel) (vx_c (va_Nw.use rfl (hN.2.2.1 _ (List.mem_of_getElem? (i := 2) rfl))) (vx_c (va_Nw.use rfl (hN.2.2.1 _ (List.mem_of_getElem? (i := 3) rfl))) (vx_c (va_Nw.use rfl (hN.2.2.1 _ (List.mem_of_getElem? (i := 4) rfl))) (vx_c (va_Nw.use rfl (hN.2.2.1 _ (List.mem_of_getElem? (i := 5) rfl))) vx_n)))) (by decide +kernel) hX hP hS (hl.1.trans hml.symm) dX2_sell_35 dX2_sell_38 dX2_sell_39 dX2_sell_41 dX2_sell_44 hex (Nat.le_of_ble_eq_true rfl) (Nat.le_of_ble_eq_true rfl) (Nat.le_of_ble_eq_true rfl) (Nat.le_of_ble_eq_true rfl) hlocks (Nat.le_of_ble_eq_true rfl) (Nat.le_of_ble_eq_true rfl) (Or.inr (Or.inr ⟨hvi, hqs, rfl, c32⟩))
    · skip
      exact sg_throw (cls := "java/lang/IllegalArgumentException") (names := ["java/lang/RuntimeException", "java/lang/Exception"]) (B := [.castable "java/lang/IllegalArgumentException" "java/lang/IllegalArgumentException", .declares (Bundle.initS "java/lang/RuntimeException"), .declares (Bundle.initS "java/lang/Exception"), .declares (Bundle.initS "java/lang/Throwable")]) hx hb hfl hown (by decide +kernel) (by decide +kernel) (hts (.classLink RX2 30 "java/lang/IllegalArgumentException") (by decide +kernel)) (hts (.initialized "java/lang/IllegalArgumentException") (by decide +kernel)) (hN.2.2.2.2 (136, "the number of shares is out of its range") (List.mem_of_getElem? (i := 1) rfl)) (fun w h => hts w (List.mem_cons_of_mem _ (List.mem_append_left _ (List.mem_append_left _ (List.mem_append_right _ h))))) (by decide +kernel) (vx_c (va_Nw.use rfl (hN.2.2.1 _ (List.mem_of_getElem? (i := 1) rfl))) (vx_c (va_Nw.use rfl (hN.2.2.1 _ (List.mem_of_getElem? (i := 3) rfl))) (vx_c (va_Nw.use rfl (hN.2.2.1 _ (List.mem_of_getElem? (i := 4) rfl))) (vx_c (va_Nw.use rfl (hN.2.2.1 _ (List.mem_of_getElem? (i := 5) rfl))) vx_n)))) (by decide +kernel) hX hP hS (hl.1.trans hml.symm) dX2_sell_17 dX2_sell_20 dX2_sell_21 dX2_sell_23 dX2_sell_26 hex (Nat.le_of_ble_eq_true rfl) (Nat.le_of_ble_eq_true rfl) (Nat.le_of_ble_eq_true rfl) (Nat.le_of_ble_eq_true rfl) hlocks (Nat.le_of_ble_eq_true rfl) (Nat.le_of_ble_eq_true rfl) (Or.inr (Or.inl ⟨hvi, rfl, by grind [Int32.not_le, Int32.not_lt]⟩))

theorem wi_X2_month_X2 : ∀ w ∈ wsX20, w ∈ wsX2_month := by decide +kernel
set_option maxHeartbeats 4000000 in
set_option maxRecDepth 100000 in
theorem c_X2_month (l : Launch) (D : va_G) (Y : Nat → ClassId) (σ : sg_W) (sz : Nat) (x aM N : Nat) (aO aL aC : Nat → Nat) (P : PS) (hQ : PF Y x aM N aO aL aC σ P σ) : Met l yX2_month wsX2_month ({ frames := 0, cells := 0, slots := 0, locals := 0 } : Room) (va_Pc [.ref x] (sg_U D Y σ sz)) (va_Qi (fun r σ' => r = pS P 2 ∧ σ = σ') (sg_B D σ sz) (sg_A σ sz)) 0 0 (sg_A σ sz) := by
  refine sg_met (cc := cX2_month) (maxL := 1) (ret := (some .int)) (by decide) rfl (Nat.le_of_ble_eq_true rfl) ?_
  intro p e s m below meth cd9 ls hx hb hml hr hown hts hlocks hnm hP hK hD hN hX hA hS hsz hl
  have hl : lv_has ls 1 [(0, .ref x)] := hl
  refine lv_aload_n hx hb dX2_month_0 rfl (lv_at hl 0 rfl) ?_
  refine va_get (ref := RX2) (v := .int (pS P 2)) hx hb hts wi_X2_month_X2 hown hK (sg_one hP (hQ.1)) 0 rfl rfl 2 (by decide) (hts (.fieldLink RX2 19 RX2 "month" "I") (by decide +kernel)) (fun _ h => h) rfl dX2_month_1 ?_
  exact sg_iret hx hb hr rfl hlocks hP hD hS (Nat.le_of_ble_eq_true rfl) (Nat.le_of_ble_eq_true rfl) dX2_month_4 (⟨rfl, rfl⟩)

theorem wi_X2_ceiling_X2 : ∀ w ∈ wsX20, w ∈ wsX2_ceiling := by decide +kernel
set_option maxHeartbeats 4000000 in
set_option maxRecDepth 100000 in
theorem c_X2_ceiling (l : Launch) (hfl : l.stackTraces = false) (D : va_G) (Y : Nat → ClassId) (σ : sg_W) (sz : Nat) (x aM N : Nat) (aO aL aC : Nat → Nat) (P : PS) (y : Int32) (hQ : PF Y x aM N aO aL aC σ P σ) : vx_Met l yX2_ceiling wsX2_ceiling ({ frames := 6, cells := 1, slots := 6, locals := 90 } : Room) (va_Pc [.ref x, .int y] (sg_U D Y σ sz)) (va_Qi (fun r σ' => r = pS P 4 ∧ qIn y 0 10000000 ∧ PF Y x aM N aO aL aC σ (uPS P 4 y) σ') (sg_B D σ sz) (sg_A σ sz)) (sg_T9 D σ sz (fun E => E = "java/lang/IllegalArgumentException" ∧ ¬ qIn y 0 10000000)) 1 6 (sg_A σ sz) := by
  refine sg_metX (cc := cX2_ceiling) (maxL := 3) (ret := (some .int)) (by decide) rfl (Nat.le_of_ble_eq_true rfl) ?_
  intro p e s m below meth cd9 ls hx hb hml hex hr hown hts hlocks hnm hP hK hD hN hX hA hS hsz hl
  have hl : lv_has ls 3 [(0, .ref x), (1, .int y)] := hl
  refine lv_iload_n hx hb dX2_ceiling_0 rfl (lv_at hl 1 rfl) ?_
  refine lv_if_lt (tgt := 10) hx hb dX2_ceiling_1 (by decide) (fun c1 => ?_) (fun c1 => ?_)
  · skip
    exact sg_throw (cls := "java/lang/IllegalArgumentException") (names := ["java/lang/RuntimeException", "java/lang/Exception"]) (B := [.castable "java/lang/IllegalArgumentException" "java/lang/IllegalArgumentException", .declares (Bundle.initS "java/lang/RuntimeException"), .declares (Bundle.initS "java/lang/Exception"), .declares (Bundle.initS "java/lang/Throwable")]) hx hb hfl hown (by decide +kernel) (by decide +kernel) (hts (.classLink RX2 30 "java/lang/IllegalArgumentException") (by decide +kernel)) (hts (.initialized "java/lang/IllegalArgumentException") (by decide +kernel)) (hN.2.2.2.2 (50, "the ceiling is out of its range") (List.mem_of_getElem? (i := 9) rfl)) (fun w h => hts w (List.mem_cons_of_mem _ (List.mem_append_right _ h))) (by decide +kernel) (vx_c (va_Nw.use rfl (hN.2.2.1 _ (List.mem_of_getElem? (i := 1) rfl))) (vx_c (va_Nw.use rfl (hN.2.2.1 _ (List.mem_of_getElem? (i := 3) rfl))) (vx_c (va_Nw.use rfl (hN.2.2.1 _ (List.mem_of_getElem? (i := 4) rfl))) (vx_c (va_Nw.use rfl (hN.2.2.1 _ (List.mem_of_getElem? (i := 5) rfl))) vx_n)))) (by decide +kernel) hX hP hS (hl.1.trans hml.symm) dX2_ceiling_10 dX2_ceiling_13 dX2_ceiling_14 dX2_ceiling_16 dX2_ceiling_19 hex (Nat.le_of_ble_eq_true rfl) (Nat.le_of_ble_eq_true rfl) (Nat.le_of_ble_eq_true rfl) (Nat.le_of_ble_eq_true rfl) hlocks (Nat.le_of_ble_eq_true rfl) (Nat.le_of_ble_eq_true rfl) (⟨rfl, by grind [Int32.not_le, Int32.not_lt]⟩)
  · skip
    refine lv_iload_n hx hb dX2_ceiling_4 rfl (lv_at hl 1 rfl) ?_
    refine lv_ldc (v := 10000000) hx hb hown (hts (.constant RX2 49 10000000) (by decide +kernel)) dX2_ceiling_5 ?_
    refine lv_icmp_le (tgt := 20) hx hb dX2_ceiling_7 (by decide) (fun c7 => ?_) (fun c7 => ?_)
    · skip
      have hqs : qIn y 0 10000000 := by grind [Int32.not_le, Int32.not_lt]
      refine lv_aload_n hx hb dX2_ceiling_20 rfl (lv_at hl 0 rfl) ?_
      refine va_get (ref := RX2) (v := .int (pS P 4)) hx hb hts wi_X2_ceiling_X2 hown hK (sg_one hP (hQ.1)) 0 rfl rfl 4 (by decide) (hts (.fieldLink RX2 26 RX2 "ceiling" "I") (by decide +kernel)) (fun _ h => h) rfl dX2_ceiling_21 ?_
      refine lv_topi (fun v24 ev24 => ?_)
      obtain rfl : v24 = pS P 4 := by exact ev24
      refine lv_istore_n (lv' := [(2, .int (pS P 4)), (0, .ref x), (1, .int y)]) hx hb dX2_ceiling_24 rfl hl (by decide) rfl (fun ls hl => ?_)
      refine lv_aload_n hx hb dX2_ceiling_25 rfl (lv_at hl 1 rfl) ?_
      refine lv_iload_n hx hb dX2_ceiling_26 rfl (lv_at hl 2 rfl) ?_
      refine sg_put (ref := RX2) (ty := .int) (v := .int y) hx hb hts wi_X2_ceiling_X2 tyX2 tyX2_ok nmX2 hown hK hP hD hS (hQ.1) rfl 4 (by decide) (hts (.fieldLink RX2 26 RX2 "ceiling" "I") (by decide +kernel)) (fun _ h => h) rfl (by decide +kernel) rfl rfl (Nat.le_of_ble_eq_true rfl) dX2_ceiling_27 (fun H locs hP hD hS => ?_)
      have hQ := hQ.s4 (v := y)
      refine lv_iload_n hx hb dX2_ceiling_30 rfl (lv_at hl 0 rfl) ?_
      exact vx_ret (sg_iret hx hb hr rfl hlocks hP hD hS (Nat.le_of_ble_eq_true rfl) (Nat.le_of_ble_eq_true rfl) dX2_ceiling_31 (⟨rfl, hqs, hQ⟩))
    · skip
      exact sg_throw (cls := "java/lang/IllegalArgumentException") (names := ["java/lang/RuntimeException", "java/lang/Exception"]) (B := [.castable "java/lang/IllegalArgumentException" "java/lang/IllegalArgumentException", .declares (Bundle.initS "java/lang/RuntimeException"), .declares (Bundle.initS "java/lang/Exception"), .declares (Bundle.initS "java/lang/Throwable")]) hx hb hfl hown (by decide +kernel) (by decide +kernel) (hts (.classLink RX2 30 "java/lang/IllegalArgumentException") (by decide +kernel)) (hts (.initialized "java/lang/IllegalArgumentException") (by decide +kernel)) (hN.2.2.2.2 (50, "the ceiling is out of its range") (List.mem_of_getElem? (i := 9) rfl)) (fun w h => hts w (List.mem_cons_of_mem _ (List.mem_append_right _ h))) (by decide +kernel) (vx_c (va_Nw.use rfl (hN.2.2.1 _ (List.mem_of_getElem? (i := 1) rfl))) (vx_c (va_Nw.use rfl (hN.2.2.1 _ (List.mem_of_getElem? (i := 3) rfl))) (vx_c (va_Nw.use rfl (hN.2.2.1 _ (List.mem_of_getElem? (i := 4) rfl))) (vx_c (va_Nw.use rfl (hN.2.2.1 _ (List.mem_of_getElem? (i := 5) rfl))) vx_n)))) (by decide +kernel) hX hP hS (hl.1.trans hml.symm) dX2_ceiling_10 dX2_ceiling_13 dX2_ceiling_14 dX2_ceiling_16 dX2_ceiling_19 hex (Nat.le_of_ble_eq_true rfl) (Nat.le_of_ble_eq_true rfl) (Nat.le_of_ble_eq_true rfl) (Nat.le_of_ble_eq_true rfl) hlocks (Nat.le_of_ble_eq_true rfl) (Nat.le_of_ble_eq_true rfl) (⟨rfl, by grind [Int32.not_le, Int32.not_lt]⟩)
end
section
def pNew : PS := (fun k => if k = 2 then -1 else if k = 4 then 2500000 else 0, fun _ => kNew 0 0 0)
theorem pNew_PF {Y : Nat → ClassId} {x q7 : Nat} {σ : sg_W} {z1 z2 z3 z4 z5 : va_E} (hz : z5 = .inr (2, p_f q7 pNew) := by rfl) : PF Y x q7 0 (fun _ => 0) (fun _ => 0) (fun _ => 0) σ pNew (sg_u (sg_u (sg_u (sg_u (sg_u (sg_u σ 1 q7 (.inl (Y 4, 6, .inr (.inr (.inr (.inr (fun _ => none))))))) 0 x z1) 0 x z2) 0 x z3) 0 x z4) 0 x z5) := by
  subst hz
  refine ⟨sg_ue, ?_, fun i hi => absurd hi (Nat.not_lt_zero i), fun j hj => ?_, by omega⟩
  · rw [sg_un (by omega), sg_un (by omega), sg_un (by omega), sg_un (by omega), sg_un (by omega), sg_ue]
    have e : (fun _ => none : Nat → Option Nat) = pR 0 (fun _ => 0) := by funext i; simp [pR]
    rw [e]
  · rw [sg_un (by omega), sg_un (by omega), sg_un (by omega), sg_un (by omega), sg_un (by omega), sg_un (by omega)]
theorem wi_X2_buyForAll_X1 : ∀ w ∈ wsX10, w ∈ wsX2_buyForAll := by decide +kernel
theorem wi_X2_buyForAll_X2 : ∀ w ∈ wsX20, w ∈ wsX2_buyForAll := by decide +kernel
set_option maxHeartbeats 4000000 in
set_option maxRecDepth 100000 in
theorem c_X2_buyForAll (l : Launch) (D : va_G) (Y : Nat → ClassId) (σ : sg_W) (sz : Nat) (x aM N : Nat) (aO aL aC : Nat → Nat) (P : PS) (k : Nat) (hQ : PF Y x aM N aO aL aC σ P σ) (hk : k < 10) (hmo : pS P 2 / 6 = nI k) (hfr : ∀ i, i < N → kR (pC P i) k = none) : Met l yX2_buyForAll wsX2_buyForAll ({ frames := 3, cells := 6, slots := 42, locals := 68 } : Room) (va_Pc [.ref x] (sg_U D Y σ sz)) (va_Qv (fun σ' => ∃ qs : Nat → Nat, PF Y x aM N aO aL aC σ (pAll qs N P 6) σ') (sg_B D σ sz) (sg_A σ sz)) 6 42 (sg_A σ sz) := by
  refine sg_met (cc := cX2_buyForAll) (maxL := 3) (ret := none) (by decide) rfl (Nat.le_of_ble_eq_true rfl) ?_
  intro p e s m below meth cd9 ls hx hb hml hr hown hts hlocks hnm hP hK hD hN hX hA hS hsz hl
  have hl : lv_has ls 3 [(0, .ref x)] := hl
  refine lv_iconst (v := 0) hx hb dX2_buyForAll_0 (by decide) ?_
  refine lv_istore_n (lv' := [(1, .int 0), (0, .ref x)]) hx hb dX2_buyForAll_1 rfl hl (by decide) rfl (fun ls hl => ?_)
  refine sg_loop (D := D) (H0 := s.heap) (T := Nat) 2 3 (fun n1 t σ' c' s' => n1 + t = 6 ∧ (∃ qs : Nat → Nat, PF Y x aM N aO aL aC σ (pAll qs N P t) σ') ∧ c' ≤ t ∧ s' ≤ 7 * t) (fun t => [(1, .int (nI t)), (0, .ref x)]) ?_ (6) (0) _ _ _ _ _ _ ?_ hP hD hS (lv_sub hl [0, 1] rfl)
  · intro n1 t σ' cells slots H locs ls ih hI hP hD hS hl
    obtain ⟨q, rfl⟩ : ∃ q, q = t := ⟨_, rfl⟩
    obtain ⟨hn, ⟨qs, hQ⟩, hc9, hs9⟩ := hI
    have hl : lv_has ls 3 [(1, .int (nI q)), (0, .ref x)] := hl
    refine lv_iload_n hx hb dX2_buyForAll_2 rfl (lv_at hl 0 rfl) ?_
    refine lv_aload_n hx hb dX2_buyForAll_3 rfl (lv_at hl 1 rfl) ?_
    refine va_get (ref := RX2) (v := .ref aM) hx hb hts wi_X2_buyForAll_X2 hown hK (sg_one hP (hQ.1)) 0 rfl rfl 0 (by decide) (hts (.fieldLink RX2 11 RX2 "members" "[LLookbackPlan$Member;") (by decide +kernel)) (fun _ h => h) rfl dX2_buyForAll_4 ?_
    refine va_alen (v := 6) hx hb hK (sg_one hP (hQ.2.1)) 0 4 rfl rfl rfl dX2_buyForAll_7 ?_
    refine lv_icmp_ge (tgt := 51) hx hb dX2_buyForAll_8 (by decide) (fun c8 => ?_) (fun c8 => ?_)
    · skip
      rw [show (6 : Int32) = nI 6 from rfl, nI_leI (by omega) (by omega)] at c8
      obtain rfl : q = 6 := by omega
      exact sg_vret hx hb hr hlocks hP hD hS (by omega) (by omega) dX2_buyForAll_51 (⟨qs, hQ⟩)
    · skip
      have hq10 : q < 6 := by rw [show (6 : Int32) = nI 6 from rfl, nI_leI (by omega) (by omega)] at c8; omega
      have hcq : (nI q).toNatClampNeg = q := nI_clamp (by omega)
      refine lv_aload_n hx hb dX2_buyForAll_11 rfl (lv_at hl 1 rfl) ?_
      refine va_get (ref := RX2) (v := .ref aM) hx hb hts wi_X2_buyForAll_X2 hown hK (sg_one hP (hQ.1)) 0 rfl rfl 0 (by decide) (hts (.fieldLink RX2 11 RX2 "members" "[LLookbackPlan$Member;") (by decide +kernel)) (fun _ h => h) rfl dX2_buyForAll_12 ?_
      refine lv_iload_n hx hb dX2_buyForAll_15 rfl (lv_at hl 0 rfl) ?_
      refine va_aldq hx hb hK (sg_one hP (hQ.2.1)) 0 4 rfl rfl (vp_in_nI hq10 (by decide)) dX2_buyForAll_16 ?_
      rw [hcq]
      rcases hla : pR N aO q with _ | la
      · skip
        refine lv_astore_nN (lv' := [(2, .null), (1, .int (nI q)), (0, .ref x)]) hx hb dX2_buyForAll_17 rfl hl (by decide) rfl (fun ls hl => ?_)
        refine lv_aload_nN hx hb dX2_buyForAll_18 rfl (lv_at hl 0 rfl) ?_
        refine lv_ifnullN (tgt := 45) hx hb dX2_buyForAll_19 (by decide) ?_
        have hQ9 : ∃ qs : Nat → Nat, PF Y x aM N aO aL aC σ (pAll qs N P (q + 1)) _ := ⟨qs, hQ.to (by rw [pAll, if_neg (fun h => pR_none hla h.1)])⟩
        obtain ⟨v45, ev45⟩ : ∃ zz9 : Int32, zz9 = (nI q) + 1 := ⟨_, rfl⟩
        obtain rfl : v45 = nI (q + 1) := by rw [ev45]; exact nI_1 _
        refine lv_iinc (v := (nI (q + 1))) (lv' := [(1, .int (nI (q + 1))), (2, .null), (0, .ref x)]) hx hb dX2_buyForAll_45 hl (k := 1) rfl (nI_1 _) (by decide) rfl (fun ls hl => ?_)
        refine lv_goto (tgt := 2) hx hb dX2_buyForAll_48 (by decide) ?_
        exact ih (n1 - 1) (q + 1) _ _ _ _ _ _ (by omega) ⟨by omega, hQ9, by omega, by omega⟩ hP hD hS (lv_sub hl [0, 2] rfl)
      · obtain ⟨e9, hi9⟩ := pR_some hla
        cases e9
        refine lv_astore_n (lv' := [(2, .ref (aO q)), (1, .int (nI q)), (0, .ref x)]) hx hb dX2_buyForAll_17 rfl hl (by decide) rfl (fun ls hl => ?_)
        refine lv_aload_n hx hb dX2_buyForAll_18 rfl (lv_at hl 0 rfl) ?_
        refine lv_ifnull hx hb dX2_buyForAll_19 ?_
        refine lv_aload_n hx hb dX2_buyForAll_22 rfl (lv_at hl 0 rfl) ?_
        refine va_getN (ref := RX1) (host := RX2) (v := .int (kI (pC (pAll qs N P q) q) 3)) hx hb hts wi_X2_buyForAll_X1 hown hK (sg_one hP ((hQ.2.2.1 _ hi9).1)) 0 rfl rfl 3 (by decide) (va_Nw.use rfl (hN.1 (.fieldLinkNest RX2 160 RX1 "hasLeft" "Z" RX2) (List.mem_of_getElem? (i := 5) rfl))) (fun _ h => h) rfl dX2_buyForAll_23 ?_
        refine lv_if_ne (tgt := 45) hx hb dX2_buyForAll_26 (by decide) (fun c26 => ?_) (fun c26 => ?_)
        · skip
          have hQ9 : ∃ qs : Nat → Nat, PF Y x aM N aO aL aC σ (pAll qs N P (q + 1)) _ := ⟨qs, hQ.to (by rw [pAll, if_neg (fun h => c26 h.2)])⟩
          obtain ⟨v45, ev45⟩ : ∃ zz9 : Int32, zz9 = (nI q) + 1 := ⟨_, rfl⟩
          obtain rfl : v45 = nI (q + 1) := by rw [ev45]; exact nI_1 _
          refine lv_iinc (v := (nI (q + 1))) (lv' := [(1, .int (nI (q + 1))), (2, .ref (aO q)), (0, .ref x)]) hx hb dX2_buyForAll_45 hl (k := 1) rfl (nI_1 _) (by decide) rfl (fun ls hl => ?_)
          refine lv_goto (tgt := 2) hx hb dX2_buyForAll_48 (by decide) ?_
          exact ih (n1 - 1) (q + 1) _ _ _ _ _ _ (by omega) ⟨by omega, hQ9, by omega, by omega⟩ hP hD hS (lv_sub hl [0, 2] rfl)
        · skip
          refine lv_aload_n hx hb dX2_buyForAll_29 rfl (lv_at hl 0 rfl) ?_
          refine lv_aload_n hx hb dX2_buyForAll_30 rfl (lv_at hl 2 rfl) ?_
          refine va_get (ref := RX2) (v := .int (pS (pAll qs N P q) 2)) hx hb hts wi_X2_buyForAll_X2 hown hK (sg_one hP (hQ.1)) 0 rfl rfl 2 (by decide) (hts (.fieldLink RX2 19 RX2 "month" "I") (by decide +kernel)) (fun _ h => h) rfl dX2_buyForAll_31 ?_
          refine lv_aload_n hx hb dX2_buyForAll_34 rfl (lv_at hl 2 rfl) ?_
          refine va_get (ref := RX2) (v := .int (pS (pAll qs N P q) 3)) hx hb hts wi_X2_buyForAll_X2 hown hK (sg_one hP (hQ.1)) 0 rfl rfl 3 (by decide) (hts (.fieldLink RX2 22 RX2 "priceNow" "I") (by decide +kernel)) (fun _ h => h) rfl dX2_buyForAll_35 ?_
          refine lv_aload_n hx hb dX2_buyForAll_38 rfl (lv_at hl 2 rfl) ?_
          refine va_get (ref := RX2) (v := .int (pS (pAll qs N P q) 4)) hx hb hts wi_X2_buyForAll_X2 hown hK (sg_one hP (hQ.1)) 0 rfl rfl 4 (by decide) (hts (.fieldLink RX2 26 RX2 "ceiling" "I") (by decide +kernel)) (fun _ h => h) rfl dX2_buyForAll_39 ?_
          refine sg_callv hD hS hA (va_runVN (As := [.int (pS (pAll qs N P q) 2), .int (pS (pAll qs N P q) 3), .int (pS (pAll qs N P q) 4)]) (rest := []) ⟨hx, hb, hml, hown, hts⟩ (c_X1_buyShares l D Y _ _ (1000 + 20 * q) (aO q) (aL q) (aC q) (pC (pAll qs N P q) q) k (pS (pAll qs N P q) 2) (pS (pAll qs N P q) 3) (pS (pAll qs N P q) 4) (hQ.2.2.1 _ hi9) hk (by rw [pAll_S]; exact hmo) (by rw [pAll_C _ (Nat.le_refl _)]; exact hfr q hi9)) ⟨(va_cnB 3 hts gX2_buyForAll_X1_buyShares_n166 rfl rfl rfl (hN.2.1 (.methodLinkNest RX2 166 yX1_buyShares RX2) (List.mem_of_getElem? (i := 4) rfl)) (hts (.initialized RX1) (by decide +kernel)) (by decide +kernel) ⟨Nat.le_of_ble_eq_true rfl, Nat.le_of_ble_eq_true rfl⟩), (hts (.instanceMethod yX1_buyShares) (by decide +kernel)), (hts (.selects RX1 yX1_buyShares yX1_buyShares) (by decide +kernel))⟩ (sg_preV (q := (RX1, TX1, 14)) ((hQ.2.2.1 _ hi9).1) rfl hK hP hD hN hX hS hA) rfl rfl hl.1 rfl (lv_room (Nat.le_of_ble_eq_true rfl)) dX2_buyForAll_42 ⟨by show cells + 1 ≤ 6; omega, by show slots + 7 ≤ 42; omega⟩) (fun σ' H locs hw hP hD hS => ?_)
          obtain ⟨q9, hw⟩ := hw
          have hQ := hQ.mem hi9 hw
          have hQ9 : ∃ qs : Nat → Nat, PF Y x aM N aO aL aC σ (pAll qs N P (q + 1)) _ := ⟨va_up qs q q9, hQ.to (by rw [pAll, ← pAll_q (q := qs) (q' := va_up qs q q9) q (fun j hj => (va_up_ne _ _ (by omega)).symm), va_up_self, if_pos ⟨hi9, c26⟩, pAll_S, pAll_S, pAll_S])⟩
          obtain ⟨v45, ev45⟩ : ∃ zz9 : Int32, zz9 = (nI q) + 1 := ⟨_, rfl⟩
          obtain rfl : v45 = nI (q + 1) := by rw [ev45]; exact nI_1 _
          refine lv_iinc (v := (nI (q + 1))) (lv' := [(1, .int (nI (q + 1))), (2, .ref (aO q)), (0, .ref x)]) hx hb dX2_buyForAll_45 hl (k := 1) rfl (nI_1 _) (by decide) rfl (fun ls hl => ?_)
          refine lv_goto (tgt := 2) hx hb dX2_buyForAll_48 (by decide) ?_
          exact ih (n1 - 1) (q + 1) _ _ _ _ _ _ (by omega) ⟨by omega, hQ9, by omega, by omega⟩ hP hD hS (lv_sub hl [0, 2] rfl)
  · exact ⟨rfl, ⟨fun _ => 0, hQ⟩, Nat.le_refl _, Nat.le_refl _⟩

theorem wi_X2_next_X2 : ∀ w ∈ wsX20, w ∈ wsX2_next := by decide +kernel
set_option maxHeartbeats 4000000 in
set_option maxRecDepth 100000 in
theorem c_X2_next (l : Launch) (hfl : l.stackTraces = false) (D : va_G) (Y : Nat → ClassId) (σ : sg_W) (sz : Nat) (x aM N : Nat) (aO aL aC : Nat → Nat) (P : PS) (y : Int32) (hQ : PF Y x aM N aO aL aC σ P σ) (hB : irem (pS P 2) 6 = 5 → ∃ k, k < 10 ∧ pS P 2 / 6 = nI k ∧ ∀ i, i < N → kR (pC P i) k = none) : vx_Met l yX2_next wsX2_next ({ frames := 6, cells := 6, slots := 42, locals := 90 } : Room) (va_Pc [.ref x, .int y] (sg_U D Y σ sz)) (va_Qi (fun r σ' => r = pS P 2 + 1 ∧ qIn y 1 100000 ∧ pS P 2 < 59 ∧ ∃ qs : Nat → Nat, PF Y x aM N aO aL aC σ (uPS (uPS (if irem (pS P 2) 6 = 5 then pAll qs N P 6 else P) 2 (pS P 2 + 1)) 3 y) σ') (sg_B D σ sz) (sg_A σ sz)) (sg_T9 D σ sz (fun E => (E = "java/lang/IllegalArgumentException" ∧ ¬ qIn y 1 100000) ∨ (qIn y 1 100000 ∧ E = "java/lang/IllegalStateException" ∧ ¬ pS P 2 < 59))) 6 42 (sg_A σ sz) := by
  refine sg_metX (cc := cX2_next) (maxL := 2) (ret := (some .int)) (by decide) rfl (Nat.le_of_ble_eq_true rfl) ?_
  intro p e s m below meth cd9 ls hx hb hml hex hr hown hts hlocks hnm hP hK hD hN hX hA hS hsz hl
  have hl : lv_has ls 2 [(0, .ref x), (1, .int y)] := hl
  refine lv_iload_n hx hb dX2_next_0 rfl (lv_at hl 1 rfl) ?_
  refine lv_iconst (v := 1) hx hb dX2_next_1 (by decide) ?_
  refine lv_icmp_lt (tgt := 11) hx hb dX2_next_2 (by decide) (fun c2 => ?_) (fun c2 => ?_)
  · skip
    exact sg_throw (cls := "java/lang/IllegalArgumentException") (names := ["java/lang/RuntimeException", "java/lang/Exception"]) (B := [.castable "java/lang/IllegalArgumentException" "java/lang/IllegalArgumentException", .declares (Bundle.initS "java/lang/RuntimeException"), .declares (Bundle.initS "java/lang/Exception"), .declares (Bundle.initS "java/lang/Throwable")]) hx hb hfl hown (by decide +kernel) (by decide +kernel) (hts (.classLink RX2 30 "java/lang/IllegalArgumentException") (by decide +kernel)) (hts (.initialized "java/lang/IllegalArgumentException") (by decide +kernel)) (hN.2.2.2.2 (32, "the price is out of its range") (List.mem_of_getElem? (i := 7) rfl)) (fun w h => hts w (List.mem_cons_of_mem _ (List.mem_append_left _ (List.mem_append_right _ h)))) (by decide +kernel) (vx_c (va_Nw.use rfl (hN.2.2.1 _ (List.mem_of_getElem? (i := 1) rfl))) (vx_c (va_Nw.use rfl (hN.2.2.1 _ (List.mem_of_getElem? (i := 3) rfl))) (vx_c (va_Nw.use rfl (hN.2.2.1 _ (List.mem_of_getElem? (i := 4) rfl))) (vx_c (va_Nw.use rfl (hN.2.2.1 _ (List.mem_of_getElem? (i := 5) rfl))) vx_n)))) (by decide +kernel) hX hP hS (hl.1.trans hml.symm) dX2_next_11 dX2_next_14 dX2_next_15 dX2_next_17 dX2_next_20 hex (Nat.le_of_ble_eq_true rfl) (Nat.le_of_ble_eq_true rfl) (Nat.le_of_ble_eq_true rfl) (Nat.le_of_ble_eq_true rfl) hlocks (Nat.le_of_ble_eq_true rfl) (Nat.le_of_ble_eq_true rfl) (Or.inl ⟨rfl, by grind [Int32.not_le, Int32.not_lt]⟩)
  · skip
    refine lv_iload_n hx hb dX2_next_5 rfl (lv_at hl 1 rfl) ?_
    refine lv_ldc (v := 100000) hx hb hown (hts (.constant RX2 29 100000) (by decide +kernel)) dX2_next_6 ?_
    refine lv_icmp_le (tgt := 21) hx hb dX2_next_8 (by decide) (fun c8 => ?_) (fun c8 => ?_)
    · skip
      have hqs : qIn y 1 100000 := by grind [Int32.not_le, Int32.not_lt]
      refine lv_aload_n hx hb dX2_next_21 rfl (lv_at hl 0 rfl) ?_
      refine va_get (ref := RX2) (v := .int (pS P 2)) hx hb hts wi_X2_next_X2 hown hK (sg_one hP (hQ.1)) 0 rfl rfl 2 (by decide) (hts (.fieldLink RX2 19 RX2 "month" "I") (by decide +kernel)) (fun _ h => h) rfl dX2_next_22 ?_
      refine lv_bipush (v := 59) hx hb dX2_next_25 (by decide) ?_
      refine lv_icmp_lt (tgt := 40) hx hb dX2_next_27 (by decide) (fun c27 => ?_) (fun c27 => ?_)
      · skip
        refine lv_aload_n hx hb dX2_next_40 rfl (lv_at hl 0 rfl) ?_
        refine va_get (ref := RX2) (v := .int (pS P 2)) hx hb hts wi_X2_next_X2 hown hK (sg_one hP (hQ.1)) 0 rfl rfl 2 (by decide) (hts (.fieldLink RX2 19 RX2 "month" "I") (by decide +kernel)) (fun _ h => h) rfl dX2_next_41 ?_
        refine sg_calli hD hS hA (va_runS (As := [.int (pS P 2)]) (rest := []) ⟨hx, hb, hml, hown, hts⟩ (c_X2_isPurchaseMonth l D Y _ _ ((pS P 2))) (va_cwS 1 hts gX2_next_X2_isPurchaseMonth rfl rfl rfl (by decide +kernel) ⟨Nat.le_of_ble_eq_true rfl, Nat.le_of_ble_eq_true rfl⟩) (sg_preS hK hP hD hN hX hS hA) rfl rfl hl.1 rfl (lv_room (Nat.le_of_ble_eq_true rfl)) dX2_next_44 ⟨Nat.le_of_ble_eq_true rfl, Nat.le_of_ble_eq_true rfl⟩) (fun r44 σ' H locs hw hP hD hS => ?_)
        obtain ⟨rfl, rfl⟩ := hw
        refine lv_if_eq (tgt := 54) hx hb dX2_next_47 (by decide) (fun c47 => ?_) (fun c47 => ?_)
        · skip
          have hp5 : ¬ irem (pS P 2) 6 = 5 := bI_0.mp c47
          refine lv_aload_n hx hb dX2_next_54 rfl (lv_at hl 0 rfl) ?_
          refine lv_dup hx hb dX2_next_55 rfl ?_
          refine va_get (ref := RX2) (v := .int (pS P 2)) hx hb hts wi_X2_next_X2 hown hK (sg_one hP (hQ.1)) 0 rfl rfl 2 (by decide) (hts (.fieldLink RX2 19 RX2 "month" "I") (by decide +kernel)) (fun _ h => h) rfl dX2_next_56 ?_
          refine lv_iconst (v := 1) hx hb dX2_next_59 (by decide) ?_
          refine lv_iadd hx hb dX2_next_60 ?_
          refine sg_put (ref := RX2) (ty := .int) (v := .int ((pS P 2) + 1)) hx hb hts wi_X2_next_X2 tyX2 tyX2_ok nmX2 hown hK hP hD hS (hQ.1) rfl 2 (by decide) (hts (.fieldLink RX2 19 RX2 "month" "I") (by decide +kernel)) (fun _ h => h) rfl (by decide +kernel) rfl rfl (Nat.le_of_ble_eq_true rfl) dX2_next_61 (fun H locs hP hD hS => ?_)
          have hQ := hQ.s2 (v := ((pS P 2) + 1))
          refine lv_aload_n hx hb dX2_next_64 rfl (lv_at hl 0 rfl) ?_
          refine lv_iload_n hx hb dX2_next_65 rfl (lv_at hl 1 rfl) ?_
          refine sg_put (ref := RX2) (ty := .int) (v := .int y) hx hb hts wi_X2_next_X2 tyX2 tyX2_ok nmX2 hown hK hP hD hS (hQ.1) rfl 3 (by decide) (hts (.fieldLink RX2 22 RX2 "priceNow" "I") (by decide +kernel)) (fun _ h => h) rfl (by decide +kernel) rfl rfl (Nat.le_of_ble_eq_true rfl) dX2_next_66 (fun H locs hP hD hS => ?_)
          have hQ := hQ.s3 (v := y)
          refine lv_aload_n hx hb dX2_next_69 rfl (lv_at hl 0 rfl) ?_
          refine va_get (ref := RX2) (v := .int (pS (uPS (uPS P 2 (((pS P 2) + 1))) 3 y) 2)) hx hb hts wi_X2_next_X2 hown hK (sg_one hP (hQ.1)) 0 rfl rfl 2 (by decide) (hts (.fieldLink RX2 19 RX2 "month" "I") (by decide +kernel)) (fun _ h => h) rfl dX2_next_70 ?_
          exact vx_ret (sg_iret hx hb hr rfl hlocks hP hD hS (Nat.le_of_ble_eq_true rfl) (Nat.le_of_ble_eq_true rfl) dX2_next_73 (⟨by simp only [pS_uPS, ite_true]; rfl, hqs, c27, ⟨fun _ => 0, hQ.to (by rw [if_neg hp5])⟩⟩))
        · skip
          have hp5 : irem (pS P 2) 6 = 5 := by rw [bI_0] at c47; exact Classical.not_not.mp c47
          obtain ⟨k9, hk9, hmo9, hfr9⟩ := hB hp5
          refine lv_aload_n hx hb dX2_next_50 rfl (lv_at hl 0 rfl) ?_
          refine sg_callv hD hS hA (va_runV (As := []) (rest := []) ⟨hx, hb, hml, hown, hts⟩ (c_X2_buyForAll l D Y _ _ x aM N aO aL aC P k9 hQ.self hk9 hmo9 hfr9) (cwV 0 hts gX2_next_X2_buyForAll rfl rfl rfl (by decide +kernel) ⟨Nat.le_of_ble_eq_true rfl, Nat.le_of_ble_eq_true rfl⟩) (sg_preV (q := (RX2, TX2, 5)) (hQ.1) rfl hK hP hD hN hX hS hA) rfl rfl hl.1 rfl (lv_room (Nat.le_of_ble_eq_true rfl)) dX2_next_51 ⟨Nat.le_of_ble_eq_true rfl, Nat.le_of_ble_eq_true rfl⟩) (fun σ' H locs hw hP hD hS => ?_)
          obtain ⟨qs, hw⟩ := hw
          have hQ := hQ.trans hw
          refine lv_aload_n hx hb dX2_next_54 rfl (lv_at hl 0 rfl) ?_
          refine lv_dup hx hb dX2_next_55 rfl ?_
          refine va_get (ref := RX2) (v := .int (pS (pAll qs N P 6) 2)) hx hb hts wi_X2_next_X2 hown hK (sg_one hP (hQ.1)) 0 rfl rfl 2 (by decide) (hts (.fieldLink RX2 19 RX2 "month" "I") (by decide +kernel)) (fun _ h => h) rfl dX2_next_56 ?_
          refine lv_iconst (v := 1) hx hb dX2_next_59 (by decide) ?_
          refine lv_iadd hx hb dX2_next_60 ?_
          refine sg_put (ref := RX2) (ty := .int) (v := .int ((pS (pAll qs N P 6) 2) + 1)) hx hb hts wi_X2_next_X2 tyX2 tyX2_ok nmX2 hown hK hP hD hS (hQ.1) rfl 2 (by decide) (hts (.fieldLink RX2 19 RX2 "month" "I") (by decide +kernel)) (fun _ h => h) rfl (by decide +kernel) rfl rfl (Nat.le_of_ble_eq_true rfl) dX2_next_61 (fun H locs hP hD hS => ?_)
          have hQ := hQ.s2 (v := ((pS (pAll qs N P 6) 2) + 1))
          refine lv_aload_n hx hb dX2_next_64 rfl (lv_at hl 0 rfl) ?_
          refine lv_iload_n hx hb dX2_next_65 rfl (lv_at hl 1 rfl) ?_
          refine sg_put (ref := RX2) (ty := .int) (v := .int y) hx hb hts wi_X2_next_X2 tyX2 tyX2_ok nmX2 hown hK hP hD hS (hQ.1) rfl 3 (by decide) (hts (.fieldLink RX2 22 RX2 "priceNow" "I") (by decide +kernel)) (fun _ h => h) rfl (by decide +kernel) rfl rfl (Nat.le_of_ble_eq_true rfl) dX2_next_66 (fun H locs hP hD hS => ?_)
          have hQ := hQ.s3 (v := y)
          refine lv_aload_n hx hb dX2_next_69 rfl (lv_at hl 0 rfl) ?_
          refine va_get (ref := RX2) (v := .int (pS (uPS (uPS (pAll qs N P 6) 2 (((pS (pAll qs N P 6) 2) + 1))) 3 y) 2)) hx hb hts wi_X2_next_X2 hown hK (sg_one hP (hQ.1)) 0 rfl rfl 2 (by decide) (hts (.fieldLink RX2 19 RX2 "month" "I") (by decide +kernel)) (fun _ h => h) rfl dX2_next_70 ?_
          exact vx_ret (sg_iret hx hb hr rfl hlocks hP hD hS (Nat.le_of_ble_eq_true rfl) (Nat.le_of_ble_eq_true rfl) dX2_next_73 (⟨by simp only [pS_uPS, ite_true, pAll_S]; rfl, hqs, c27, ⟨qs, hQ.to (by rw [if_pos hp5, pAll_S])⟩⟩))
      · skip
        exact sg_throw (cls := "java/lang/IllegalStateException") (names := ["java/lang/RuntimeException", "java/lang/Exception"]) (B := [.castable "java/lang/IllegalStateException" "java/lang/IllegalStateException", .declares (Bundle.initS "java/lang/RuntimeException"), .declares (Bundle.initS "java/lang/Exception"), .declares (Bundle.initS "java/lang/Throwable")]) hx hb hfl hown (by decide +kernel) (by decide +kernel) (hts (.classLink RX2 37 "java/lang/IllegalStateException") (by decide +kernel)) (hts (.initialized "java/lang/IllegalStateException") (by decide +kernel)) (hN.2.2.2.2 (39, "the last month has begun already") (List.mem_of_getElem? (i := 8) rfl)) (fun w h => hts w (List.mem_cons_of_mem _ (List.mem_append_right _ h))) (by decide +kernel) (vx_c (va_Nw.use rfl (hN.2.2.1 _ (List.mem_of_getElem? (i := 2) rfl))) (vx_c (va_Nw.use rfl (hN.2.2.1 _ (List.mem_of_getElem? (i := 3) rfl))) (vx_c (va_Nw.use rfl (hN.2.2.1 _ (List.mem_of_getElem? (i := 4) rfl))) (vx_c (va_Nw.use rfl (hN.2.2.1 _ (List.mem_of_getElem? (i := 5) rfl))) vx_n)))) (by decide +kernel) hX hP hS (hl.1.trans hml.symm) dX2_next_30 dX2_next_33 dX2_next_34 dX2_next_36 dX2_next_39 hex (Nat.le_of_ble_eq_true rfl) (Nat.le_of_ble_eq_true rfl) (Nat.le_of_ble_eq_true rfl) (Nat.le_of_ble_eq_true rfl) hlocks (Nat.le_of_ble_eq_true rfl) (Nat.le_of_ble_eq_true rfl) (Or.inr ⟨hqs, rfl, c27⟩)
    · skip
      exact sg_throw (cls := "java/lang/IllegalArgumentException") (names := ["java/lang/RuntimeException", "java/lang/Exception"]) (B := [.castable "java/lang/IllegalArgumentException" "java/lang/IllegalArgumentException", .declares (Bundle.initS "java/lang/RuntimeException"), .declares (Bundle.initS "java/lang/Exception"), .declares (Bundle.initS "java/lang/Throwable")]) hx hb hfl hown (by decide +kernel) (by decide +kernel) (hts (.classLink RX2 30 "java/lang/IllegalArgumentException") (by decide +kernel)) (hts (.initialized "java/lang/IllegalArgumentException") (by decide +kernel)) (hN.2.2.2.2 (32, "the price is out of its range") (List.mem_of_getElem? (i := 7) rfl)) (fun w h => hts w (List.mem_cons_of_mem _ (List.mem_append_left _ (List.mem_append_right _ h)))) (by decide +kernel) (vx_c (va_Nw.use rfl (hN.2.2.1 _ (List.mem_of_getElem? (i := 1) rfl))) (vx_c (va_Nw.use rfl (hN.2.2.1 _ (List.mem_of_getElem? (i := 3) rfl))) (vx_c (va_Nw.use rfl (hN.2.2.1 _ (List.mem_of_getElem? (i := 4) rfl))) (vx_c (va_Nw.use rfl (hN.2.2.1 _ (List.mem_of_getElem? (i := 5) rfl))) vx_n)))) (by decide +kernel) hX hP hS (hl.1.trans hml.symm) dX2_next_11 dX2_next_14 dX2_next_15 dX2_next_17 dX2_next_20 hex (Nat.le_of_ble_eq_true rfl) (Nat.le_of_ble_eq_true rfl) (Nat.le_of_ble_eq_true rfl) (Nat.le_of_ble_eq_true rfl) hlocks (Nat.le_of_ble_eq_true rfl) (Nat.le_of_ble_eq_true rfl) (Or.inl ⟨rfl, by grind [Int32.not_le, Int32.not_lt]⟩)

theorem wi_X2_join_X1 : ∀ w ∈ wsX10, w ∈ wsX2_join := by decide +kernel
theorem wi_X2_join_X2 : ∀ w ∈ wsX20, w ∈ wsX2_join := by decide +kernel
set_option maxHeartbeats 4000000 in
set_option maxRecDepth 100000 in
theorem c_X2_join (l : Launch) (hfl : l.stackTraces = false) (D : va_G) (Y : Nat → ClassId) (σ : sg_W) (sz : Nat) (x aM N : Nat) (aO aL aC : Nat → Nat) (P : PS) (y : Int32) (hQ : PF Y x aM N aO aL aC σ P σ) (hN1 : pS P 1 = nI N) : vx_Met l yX2_join wsX2_join ({ frames := 7, cells := 5, slots := 50, locals := 110 } : Room) (va_Pc [.ref x, .int y] (sg_U D Y σ sz)) (va_Qi (fun r σ' => r = nI N ∧ qIn y 1 15 ∧ (¬ pS P 2 = -1 ∧ N < 6) ∧ ∃ aO' aL' aC' : Nat → Nat, PF Y x aM (N + 1) aO' aL' aC' σ (uPS (uPC P N (kNew y (pS P 2) (pS P 3))) 1 (nI N + 1)) σ') (sg_B D σ sz) (sg_A σ sz)) (sg_T9 D σ sz (fun E => (E = "java/lang/IllegalArgumentException" ∧ ¬ qIn y 1 15) ∨ (qIn y 1 15 ∧ E = "java/lang/IllegalStateException" ∧ ¬ (¬ pS P 2 = -1 ∧ N < 6)))) 5 50 (sg_A σ sz) := by
  refine sg_metX (cc := cX2_join) (maxL := 3) (ret := (some .int)) (by decide) rfl (Nat.le_of_ble_eq_true rfl) ?_
  intro p e s m below meth cd9 ls hx hb hml hex hr hown hts hlocks hnm hP hK hD hN hX hA hS hsz hl
  have hl : lv_has ls 3 [(0, .ref x), (1, .int y)] := hl
  have hN9 := hQ.2.2.2.2
  have hcN : (nI N).toNatClampNeg = N := nI_clamp (by omega)
  refine lv_iload_n hx hb dX2_join_0 rfl (lv_at hl 1 rfl) ?_
  refine sg_xcallv hD hS hA (vx_runS (As := [.int y]) (rest := []) ⟨hx, hb, hml, hown, hts⟩ (c_X2_refuseBadRate l hfl D Y _ _ y) (va_cwS 1 hts gX2_join_X2_refuseBadRate rfl rfl rfl (by decide +kernel) ⟨Nat.le_of_ble_eq_true rfl, Nat.le_of_ble_eq_true rfl⟩) (sg_preS hK hP hD hN hX hS hA) rfl rfl hl.1 rfl (lv_room (Nat.le_of_ble_eq_true rfl)) dX2_join_1 ⟨Nat.le_of_ble_eq_true rfl, Nat.le_of_ble_eq_true rfl⟩) (fun E ce q9 H locs hpx hP hD hS hce hcv hcl => ?_) (fun σ' H locs hw hP hD hS => ?_)
  · exact sg_xout hex hlocks hce hcv hcl hP hS (Nat.le_of_ble_eq_true rfl) (Nat.le_of_ble_eq_true rfl) (Or.inl hpx)
  obtain ⟨hqr, rfl⟩ := hw
  refine lv_aload_n hx hb dX2_join_4 rfl (lv_at hl 0 rfl) ?_
  refine va_get (ref := RX2) (v := .int (pS P 2)) hx hb hts wi_X2_join_X2 hown hK (sg_one hP (hQ.1)) 0 rfl rfl 2 (by decide) (hts (.fieldLink RX2 19 RX2 "month" "I") (by decide +kernel)) (fun _ h => h) rfl dX2_join_5 ?_
  refine lv_iconst (v := (-1)) hx hb dX2_join_8 (by decide) ?_
  refine lv_icmp_ne (tgt := 22) hx hb dX2_join_9 (by decide) (fun c9 => ?_) (fun c9 => ?_)
  · skip
    refine lv_aload_n hx hb dX2_join_22 rfl (lv_at hl 0 rfl) ?_
    refine va_get (ref := RX2) (v := .int (pS P 1)) hx hb hts wi_X2_join_X2 hown hK (sg_one hP (hQ.1)) 0 rfl rfl 1 (by decide) (hts (.fieldLink RX2 15 RX2 "memberCount" "I") (by decide +kernel)) (fun _ h => h) rfl dX2_join_23 ?_
    refine lv_topi (fun v26 ev26 => ?_)
    obtain rfl : v26 = nI N := by rw [ev26, hN1]
    refine lv_istore_n (lv' := [(2, .int (nI N)), (0, .ref x), (1, .int y)]) hx hb dX2_join_26 rfl hl (by decide) rfl (fun ls hl => ?_)
    refine lv_iload_n hx hb dX2_join_27 rfl (lv_at hl 0 rfl) ?_
    refine lv_if_lt (tgt := 40) hx hb dX2_join_28 (by decide) (fun c28 => ?_) (fun c28 => ?_)
    · exact absurd c28 (nI_pos (by omega))
    · skip
      refine lv_iload_n hx hb dX2_join_31 rfl (lv_at hl 0 rfl) ?_
      refine lv_aload_n hx hb dX2_join_32 rfl (lv_at hl 1 rfl) ?_
      refine va_get (ref := RX2) (v := .ref aM) hx hb hts wi_X2_join_X2 hown hK (sg_one hP (hQ.1)) 0 rfl rfl 0 (by decide) (hts (.fieldLink RX2 11 RX2 "members" "[LLookbackPlan$Member;") (by decide +kernel)) (fun _ h => h) rfl dX2_join_33 ?_
      refine va_alen (v := 6) hx hb hK (sg_one hP (hQ.2.1)) 0 4 rfl rfl rfl dX2_join_36 ?_
      refine lv_icmp_lt (tgt := 50) hx hb dX2_join_37 (by decide) (fun c37 => ?_) (fun c37 => ?_)
      · skip
        have hN6 : N < 6 := (nI_ltI (a := N) (b := 6) (by omega) (by omega)).mp c37
        refine lv_aload_n hx hb dX2_join_50 rfl (lv_at hl 1 rfl) ?_
        refine va_get (ref := RX2) (v := .ref aM) hx hb hts wi_X2_join_X2 hown hK (sg_one hP (hQ.1)) 0 rfl rfl 0 (by decide) (hts (.fieldLink RX2 11 RX2 "members" "[LLookbackPlan$Member;") (by decide +kernel)) (fun _ h => h) rfl dX2_join_51 ?_
        refine lv_iload_n hx hb dX2_join_54 rfl (lv_at hl 0 rfl) ?_
        refine sg_new (1000 + 20 * N) (ci := 1) (fs := mZero) (C := RX1) (T := TX1) (N := 14) hx hb hts wi_X2_join_X1 tyX1 tyX1_ok hown (hts (.classLink RX2 9 RX1) (by decide +kernel)) (hts (.instantiable RX1 14) (by decide +kernel)) (hts (.initialized RX1) (by decide +kernel)) hK hP hD hS hA rfl (fun j hj => by rcases (show j = 0 ∨ j = 1 ∨ j = 2 ∨ j = 3 ∨ j = 4 ∨ j = 5 ∨ j = 6 ∨ j = 7 ∨ j = 8 ∨ j = 9 ∨ j = 10 ∨ j = 11 ∨ j = 12 ∨ j = 13 by omega) with rfl | rfl | rfl | rfl | rfl | rfl | rfl | rfl | rfl | rfl | rfl | rfl | rfl | rfl <;> rfl) (Nat.le_of_ble_eq_true rfl) (Nat.le_of_ble_eq_true rfl) dX2_join_55 (fun q9 H hP hD hS => ?_)
        have hQ := hQ.off (σ' := sg_u σ (1000 + 20 * N) q9 (.inr (1, mZero))) (fun j hj => sg_un (by omega))
        refine lv_dup hx hb dX2_join_58 rfl ?_
        refine lv_iload_n hx hb dX2_join_59 rfl (lv_at hl 2 rfl) ?_
        refine lv_aload_n hx hb dX2_join_60 rfl (lv_at hl 1 rfl) ?_
        refine va_get (ref := RX2) (v := .int (pS P 2)) hx hb hts wi_X2_join_X2 hown hK (sg_one hP (hQ.1)) 0 rfl rfl 2 (by decide) (hts (.fieldLink RX2 19 RX2 "month" "I") (by decide +kernel)) (fun _ h => h) rfl dX2_join_61 ?_
        refine lv_aload_n hx hb dX2_join_64 rfl (lv_at hl 1 rfl) ?_
        refine va_get (ref := RX2) (v := .int (pS P 3)) hx hb hts wi_X2_join_X2 hown hK (sg_one hP (hQ.1)) 0 rfl rfl 3 (by decide) (hts (.fieldLink RX2 22 RX2 "priceNow" "I") (by decide +kernel)) (fun _ h => h) rfl dX2_join_65 ?_
        refine sg_callv hD hS hA (va_runIN (As := [.int y, .int (pS P 2), .int (pS P 3)]) (rest := [.ref q9, .int (nI N), .ref aM]) (b := q9) ⟨hx, hb, hml, hown, hts⟩ (c_X1_init l D Y _ _ (1000 + 20 * N) q9 y (pS P 2) (pS P 3) sg_ue) ⟨(va_cnB 3 hts gX2_join_X1_init_n60 rfl rfl rfl (hN.2.1 (.methodLinkNest RX2 60 yX1_init RX2) (List.mem_of_getElem? (i := 5) rfl)) (hts (.initialized RX1) (by decide +kernel)) (by decide +kernel) ⟨Nat.le_of_ble_eq_true rfl, Nat.le_of_ble_eq_true rfl⟩), rfl, (hts (.instanceMethod yX1_init) (by decide +kernel))⟩ (sg_preS hK hP hD hN hX hS hA) rfl rfl hl.1 rfl (lv_room (Nat.le_of_ble_eq_true rfl)) dX2_join_68 ⟨Nat.le_of_ble_eq_true rfl, Nat.le_of_ble_eq_true rfl⟩) (fun σ' H locs hw hP hD hS => ?_)
        obtain ⟨a9, b9, hw⟩ := hw
        have hQ := hQ.off (fun j hj => hw.2.2.2.2 j (by omega))
        refine sg_aast hx hb hK hP hD hS 4 1 (r := vwCl[1]) (hQ.2.1) rfl (hw.1) rfl (by rw [vp_in_iff, nI_toInt (by omega)]; omega) dX2_join_71 (fun H locs hP hD hS => ?_)
        rw [hcN] at hP hD
        have hQ := hQ.join hN6 hw
        refine lv_aload_n hx hb dX2_join_72 rfl (lv_at hl 1 rfl) ?_
        refine lv_dup hx hb dX2_join_73 rfl ?_
        refine va_get (ref := RX2) (v := .int (pS (uPC P N (kNew y (pS P 2) (pS P 3))) 1)) hx hb hts wi_X2_join_X2 hown hK (sg_one hP (hQ.1)) 0 rfl rfl 1 (by decide) (hts (.fieldLink RX2 15 RX2 "memberCount" "I") (by decide +kernel)) (fun _ h => h) rfl dX2_join_74 ?_
        rw [show pS (uPC P N (kNew y (pS P 2) (pS P 3))) 1 = nI N from hN1]
        refine lv_iconst (v := 1) hx hb dX2_join_77 (by decide) ?_
        refine lv_iadd hx hb dX2_join_78 ?_
        refine sg_put (ref := RX2) (ty := .int) (v := .int ((nI N) + 1)) hx hb hts wi_X2_join_X2 tyX2 tyX2_ok nmX2 hown hK hP hD hS (hQ.1) rfl 1 (by decide) (hts (.fieldLink RX2 15 RX2 "memberCount" "I") (by decide +kernel)) (fun _ h => h) rfl (by decide +kernel) rfl rfl (Nat.le_of_ble_eq_true rfl) dX2_join_79 (fun H locs hP hD hS => ?_)
        have hQ := hQ.s1 (v := ((nI N) + 1))
        refine lv_iload_n hx hb dX2_join_82 rfl (lv_at hl 0 rfl) ?_
        exact vx_ret (sg_iret hx hb hr rfl hlocks hP hD hS (Nat.le_of_ble_eq_true rfl) (Nat.le_of_ble_eq_true rfl) dX2_join_83 (⟨rfl, hqr, ⟨c9, hN6⟩, _, _, _, hQ⟩))
      · skip
        exact sg_throw (cls := "java/lang/IllegalStateException") (names := ["java/lang/RuntimeException", "java/lang/Exception"]) (B := [.castable "java/lang/IllegalStateException" "java/lang/IllegalStateException", .declares (Bundle.initS "java/lang/RuntimeException"), .declares (Bundle.initS "java/lang/Exception"), .declares (Bundle.initS "java/lang/Throwable")]) hx hb hfl hown (by decide +kernel) (by decide +kernel) (hts (.classLink RX2 37 "java/lang/IllegalStateException") (by decide +kernel)) (hts (.initialized "java/lang/IllegalStateException") (by decide +kernel)) (hN.2.2.2.2 (58, "the plan is full") (List.mem_of_getElem? (i := 11) rfl)) (fun w h => hts w (List.mem_cons_of_mem _ (List.mem_append_left _ (List.mem_append_right _ h)))) (by decide +kernel) (vx_c (va_Nw.use rfl (hN.2.2.1 _ (List.mem_of_getElem? (i := 2) rfl))) (vx_c (va_Nw.use rfl (hN.2.2.1 _ (List.mem_of_getElem? (i := 3) rfl))) (vx_c (va_Nw.use rfl (hN.2.2.1 _ (List.mem_of_getElem? (i := 4) rfl))) (vx_c (va_Nw.use rfl (hN.2.2.1 _ (List.mem_of_getElem? (i := 5) rfl))) vx_n)))) (by decide +kernel) hX hP hS (hl.1.trans hml.symm) dX2_join_40 dX2_join_43 dX2_join_44 dX2_join_46 dX2_join_49 hex (Nat.le_of_ble_eq_true rfl) (Nat.le_of_ble_eq_true rfl) (Nat.le_of_ble_eq_true rfl) (Nat.le_of_ble_eq_true rfl) hlocks (Nat.le_of_ble_eq_true rfl) (Nat.le_of_ble_eq_true rfl) (Or.inr ⟨hqr, rfl, fun h => c37 ((nI_ltI (a := N) (b := 6) (by omega) (by omega)).mpr h.2)⟩)
  · skip
    exact sg_throw (cls := "java/lang/IllegalStateException") (names := ["java/lang/RuntimeException", "java/lang/Exception"]) (B := [.castable "java/lang/IllegalStateException" "java/lang/IllegalStateException", .declares (Bundle.initS "java/lang/RuntimeException"), .declares (Bundle.initS "java/lang/Exception"), .declares (Bundle.initS "java/lang/Throwable")]) hx hb hfl hown (by decide +kernel) (by decide +kernel) (hts (.classLink RX2 37 "java/lang/IllegalStateException") (by decide +kernel)) (hts (.initialized "java/lang/IllegalStateException") (by decide +kernel)) (hN.2.2.2.2 (56, "no month has begun") (List.mem_of_getElem? (i := 10) rfl)) (fun w h => hts w (List.mem_cons_of_mem _ (List.mem_append_left _ (List.mem_append_right _ h)))) (by decide +kernel) (vx_c (va_Nw.use rfl (hN.2.2.1 _ (List.mem_of_getElem? (i := 2) rfl))) (vx_c (va_Nw.use rfl (hN.2.2.1 _ (List.mem_of_getElem? (i := 3) rfl))) (vx_c (va_Nw.use rfl (hN.2.2.1 _ (List.mem_of_getElem? (i := 4) rfl))) (vx_c (va_Nw.use rfl (hN.2.2.1 _ (List.mem_of_getElem? (i := 5) rfl))) vx_n)))) (by decide +kernel) hX hP hS (hl.1.trans hml.symm) dX2_join_12 dX2_join_15 dX2_join_16 dX2_join_18 dX2_join_21 hex (Nat.le_of_ble_eq_true rfl) (Nat.le_of_ble_eq_true rfl) (Nat.le_of_ble_eq_true rfl) (Nat.le_of_ble_eq_true rfl) hlocks (Nat.le_of_ble_eq_true rfl) (Nat.le_of_ble_eq_true rfl) (Or.inr ⟨hqr, rfl, fun h => h.1 c9⟩)

theorem wi_X2_init_X2 : ∀ w ∈ wsX20, w ∈ wsX2_init := by decide +kernel
set_option maxHeartbeats 4000000 in
set_option maxRecDepth 100000 in
theorem c_X2_init (l : Launch) (D : va_G) (Y : Nat → ClassId) (σ : sg_W) (sz : Nat) (x : Nat) (h0 : σ 0 = some (x, .inr (2, [.null, .int 0, .int 0, .int 0, .int 0]))) : Met l yX2_init wsX2_init ({ frames := 1, cells := 1, slots := 6, locals := 12 } : Room) (va_Pc [.ref x] (sg_U D Y σ sz)) (va_Qv (fun σ' => ∃ aM, PF Y x aM 0 (fun _ => 0) (fun _ => 0) (fun _ => 0) σ pNew σ') (sg_B D σ sz) (sg_A σ sz)) 1 6 (sg_A σ sz) := by
  refine sg_met (cc := cX2_init) (maxL := 1) (ret := none) (by decide) rfl (Nat.le_of_ble_eq_true rfl) ?_
  intro p e s m below meth cd9 ls hx hb hml hr hown hts hlocks hnm hP hK hD hN hX hA hS hsz hl
  have hl : lv_has ls 1 [(0, .ref x)] := hl
  refine lv_aload_n hx hb dX2_init_0 rfl (lv_at hl 0 rfl) ?_
  refine W.objInit hx hb hown (hts (.methodLink RX2 3 objectInit) (by decide +kernel)) (hts (.instanceMethod objectInit) (by decide +kernel)) (hts (.code objectInit ⟨#[0xb1]⟩ 1 none) (by decide +kernel)) rfl (by rw [hml]; exact hl.1) rfl dX2_init_1 (Nat.le_of_ble_eq_true rfl) (Nat.le_of_ble_eq_true rfl) ?_
  refine W.eq (g2 := F0 m 4 ls []) rfl ?_
  refine lv_aload_n hx hb dX2_init_4 rfl (lv_at hl 0 rfl) ?_
  refine lv_bipush (v := 6) hx hb dX2_init_5 (by decide) ?_
  refine sg_newq 1 4 hx hb hown (hts (.classLink RX2 9 RX1) (by decide +kernel)) hN.2.2.2.1.2 rfl hK hP hD hS hA (by decide) rfl (Nat.le_of_ble_eq_true rfl) (Nat.le_of_ble_eq_true rfl) (Nat.le_of_ble_eq_true rfl) dX2_init_7 (fun q7 H hP hD hS => ?_)
  refine sg_putF (ref := RX2) (ty := .array (.object "LookbackPlan$Member")) (v := .ref q7) hx hb hts wi_X2_init_X2 tyX2 tyX2_ok nmX2 hown hK hP hD hS ((sg_un (by omega)).trans (h0)) rfl 0 (by decide) (hts (.fieldLink RX2 11 RX2 "members" "[LLookbackPlan$Member;") (by decide +kernel)) (fun _ h => h) rfl hnm rfl (by decide +kernel) rfl rfl (Nat.le_of_ble_eq_true rfl) dX2_init_10 (fun H locs hP hD hS => ?_)
  refine lv_aload_n hx hb dX2_init_13 rfl (lv_at hl 0 rfl) ?_
  refine lv_iconst (v := 0) hx hb dX2_init_14 (by decide) ?_
  refine sg_put (ref := RX2) (ty := .int) (v := .int 0) hx hb hts wi_X2_init_X2 tyX2 tyX2_ok nmX2 hown hK hP hD hS (sg_ue) rfl 1 (by decide) (hts (.fieldLink RX2 15 RX2 "memberCount" "I") (by decide +kernel)) (fun _ h => h) rfl (by decide +kernel) rfl rfl (Nat.le_of_ble_eq_true rfl) dX2_init_15 (fun H locs hP hD hS => ?_)
  refine lv_aload_n hx hb dX2_init_18 rfl (lv_at hl 0 rfl) ?_
  refine lv_iconst (v := (-1)) hx hb dX2_init_19 (by decide) ?_
  refine sg_put (ref := RX2) (ty := .int) (v := .int (-1)) hx hb hts wi_X2_init_X2 tyX2 tyX2_ok nmX2 hown hK hP hD hS (sg_ue) rfl 2 (by decide) (hts (.fieldLink RX2 19 RX2 "month" "I") (by decide +kernel)) (fun _ h => h) rfl (by decide +kernel) rfl rfl (Nat.le_of_ble_eq_true rfl) dX2_init_20 (fun H locs hP hD hS => ?_)
  refine lv_aload_n hx hb dX2_init_23 rfl (lv_at hl 0 rfl) ?_
  refine lv_iconst (v := 0) hx hb dX2_init_24 (by decide) ?_
  refine sg_put (ref := RX2) (ty := .int) (v := .int 0) hx hb hts wi_X2_init_X2 tyX2 tyX2_ok nmX2 hown hK hP hD hS (sg_ue) rfl 3 (by decide) (hts (.fieldLink RX2 22 RX2 "priceNow" "I") (by decide +kernel)) (fun _ h => h) rfl (by decide +kernel) rfl rfl (Nat.le_of_ble_eq_true rfl) dX2_init_25 (fun H locs hP hD hS => ?_)
  refine lv_aload_n hx hb dX2_init_28 rfl (lv_at hl 0 rfl) ?_
  refine lv_ldc (v := 2500000) hx hb hown (hts (.constant RX2 25 2500000) (by decide +kernel)) dX2_init_29 ?_
  refine sg_put (ref := RX2) (ty := .int) (v := .int 2500000) hx hb hts wi_X2_init_X2 tyX2 tyX2_ok nmX2 hown hK hP hD hS (sg_ue) rfl 4 (by decide) (hts (.fieldLink RX2 26 RX2 "ceiling" "I") (by decide +kernel)) (fun _ h => h) rfl (by decide +kernel) rfl rfl (Nat.le_of_ble_eq_true rfl) dX2_init_31 (fun H locs hP hD hS => ?_)
  exact sg_vret hx hb hr hlocks hP hD hS (Nat.le_of_ble_eq_true rfl) (Nat.le_of_ble_eq_true rfl) dX2_init_34 (⟨q7, pNew_PF⟩)
end
section
/-! MATH, of numbers -/
theorem i32_sub {x y : Int32} (h1 : -2147483648 ≤ x.toInt - y.toInt) (h2 : x.toInt - y.toInt < 2147483648) : (x - y).toInt = x.toInt - y.toInt := by
  rw [Int32.toInt_sub]; exact Int.bmod_eq_of_le (by omega) (by omega)
theorem toI_sub {x y : Int32} (h1 : -2147483648 ≤ x.toInt - y.toInt) (h2 : x.toInt - y.toInt < 2147483648) : (x - y).toInt64 = x.toInt64 - y.toInt64 := by
  refine Int64.toInt_inj.mp ?_
  rw [Int32.toInt_toInt64, i32_sub h1 h2, Int64.toInt_sub, Int32.toInt_toInt64, Int32.toInt_toInt64]
  exact (Int.bmod_eq_of_le (by omega) (by omega)).symm
theorem l32_back (x : Int32) : x.toInt64.toInt32 = x := Int32.toInt32_toInt64 x
theorem mm_eq (a b : Int32) : lMax 0 (lMin a b) = if (if a < b then a else b) < 0 then 0 else (if a < b then a else b) := by
  have e : lMin a b = if a < b then a else b := by
    unfold lMin
    by_cases h1 : b < a <;> by_cases h2 : a < b <;> simp only [h1, h2, if_true, if_false] <;>
      (apply Int32.toInt_inj.mp; simp only [Int32.lt_iff_toInt_lt] at h1 h2; omega)
  rw [e]
  generalize (if a < b then a else b) = w
  unfold lMax
  have a1 : (0 : Int32).toInt = 0 := rfl
  by_cases h1 : 0 < w <;> by_cases h2 : w < 0 <;> simp only [h1, h2, if_true, if_false] <;>
    (apply Int32.toInt_inj.mp; simp only [Int32.lt_iff_toInt_lt] at h1 h2; omega)
theorem lMin_sold (M : MS) (q : Nat) (op : Int32) : lMin op (sI M 16 q) = soldN M q op := by
  unfold lMin soldN
  generalize sI M 16 q = b
  by_cases h1 : b < op <;> by_cases h2 : op < b <;> simp only [h1, h2, if_true, if_false] <;>
    (apply Int32.toInt_inj.mp; simp only [Int32.lt_iff_toInt_lt] at h1 h2; omega)
/-! a lot of the class and a lot of the reference -/
def KT (M : MS) (q : Nat) (c : CS) (k : Nat) : Prop := (sI M 15 q = 0 ∧ sI M 16 q = 0 ∧ kR c k = none) ∨ (sI M 15 q ≠ 0 ∧ kR c k ≠ none ∧ kV c k 0 = nI (6 * k + 5) ∧ kV c k 1 = sI M 1 (6 * k + 5) ∧ kV c k 2 = sI M 17 q ∧ kV c k 3 = sI M 18 q ∧ kV c k 4 = sI M 1 (tN (sI M 18 q)) ∧ kV c k 5 = sI M 15 q ∧ kV c k 6 = sI M 16 q)
def KI (M : MS) (j : Nat) (c : CS) : Prop := kI c 2 = sI M 4 j ∧ kI c 3 = sI M 5 j ∧ kL c 4 = (sI M 6 j).toInt64 ∧ kL c 5 = sL M 8 j ∧ kL c 6 = (sI M 7 j).toInt64 ∧ kL c 7 = sL M 9 j ∧ kI c 8 = sI M 10 j ∧ kI c 9 = sI M 1 (tN (sI M 10 j)) ∧ kI c 10 = sI M 11 j ∧ kI c 11 = sI M 12 j ∧ kL c 12 = sL M 13 j ∧ kL c 13 = sL M 14 j
def KM (M : MS) (j : Nat) (c : CS) : Prop := KI M j c ∧ (∀ y, y < 5 → kC c y = cN M j y) ∧ ∀ k, k < 10 → KT M (10 * j + k) c k
/-- prices -/
def prc (x : Int32) : Prop := ∃ w : Nat, 1 ≤ w ∧ w ≤ 100000 ∧ x = nI w
/-- what a lot that stands needs: its prices are prices, it was paid for -/
def lotB (M : MS) (q : Nat) : Prop := prc (sI M 1 (6 * (q % 10) + 5)) ∧ prc (sI M 1 (tN (sI M 18 q))) ∧ prc (sI M 1 (tN (sS M 0))) ∧ ∃ w : Nat, w ≤ 100000 ∧ sI M 17 q = nI w
theorem pq_bound {M : MS} {q : Nat} (h : lotB M q) : -100000 ≤ (pq M q).toInt ∧ (pq M q).toInt ≤ 100000 := by
  obtain ⟨⟨w1, -, h1, e1⟩, ⟨w3, -, h3, e3⟩, ⟨w4, -, h4, e4⟩, ⟨w2, h2, e2⟩⟩ := h
  have a1 : (nI w1 - nI w2).toInt = (w1 : Int) - w2 := pk_sub_toInt (by omega) (by omega)
  have a2 : (nI w4 - nI w2).toInt = (w4 : Int) - w2 := pk_sub_toInt (by omega) (by omega)
  have a3 : 15 * nI w3 / 100 = nI (15 * w3 / 100) := by
    rw [show (15 : Int32) = nI 15 from rfl, pk_mul, show (100 : Int32) = nI 100 from rfl, pk_div (by omega) (by omega) (by omega)]
  have a4 : (nI (15 * w3 / 100)).toInt = ((15 * w3 / 100 : Nat) : Int) := nI_toInt (by omega)
  have a0 : (0 : Int32).toInt = 0 := rfl
  unfold pq
  rw [e1, e2, e3, e4, a3]
  split
  · rw [a1]; omega
  · split <;> split <;> first | (rw [a0]; omega) | (rw [a4]; omega) | (rw [a2]; omega)
theorem gq_split {M : MS} {q : Nat} (h : lotB M q) : (sI M 1 (tN (sS M 0)) - sI M 17 q - pq M q).toInt64 = (sI M 1 (tN (sS M 0)) - sI M 17 q).toInt64 - (pq M q).toInt64 := by
  have hb := pq_bound h
  obtain ⟨-, -, ⟨w4, -, h4, e4⟩, ⟨w2, h2, e2⟩⟩ := h
  have a2 : (nI w4 - nI w2).toInt = (w4 : Int) - w2 := pk_sub_toInt (by omega) (by omega)
  rw [e4, e2]
  exact toI_sub (by rw [a2]; omega) (by rw [a2]; omega)
theorem lE_eQ {M : MS} {q k : Nat} {v : Nat → Int32} (hk : q % 10 = k) (h0 : v 0 = nI (6 * k + 5)) (h3 : v 3 = sI M 18 q) : lE v (sS M 0) = eQ M q := by
  unfold lE eQ
  rw [h0, h3, hk]
theorem lP_pq {M : MS} {q k : Nat} {v : Nat → Int32} (hk : q % 10 = k) (h0 : v 0 = nI (6 * k + 5)) (h1 : v 1 = sI M 1 (6 * k + 5)) (h2 : v 2 = sI M 17 q) (h3 : v 3 = sI M 18 q) (h4 : v 4 = sI M 1 (tN (sI M 18 q))) : lP v (sS M 0) (sI M 1 (tN (sS M 0))) = (pq M q).toInt64 := by
  unfold lP pq
  rw [lE_eQ hk h0 h3, h1, h2, h4, hk]
  rcases eQ_01 (M := M) (q := q) with h | h
  · rw [if_pos h, if_neg (by rw [h]; decide), Int32.mul_comm, mm_eq]
  · rw [if_neg (by rw [h]; decide), if_pos h]
theorem lG_gq {M : MS} {q k : Nat} {v : Nat → Int32} (hB : lotB M q) (hk : q % 10 = k) (h0 : v 0 = nI (6 * k + 5)) (h1 : v 1 = sI M 1 (6 * k + 5)) (h2 : v 2 = sI M 17 q) (h3 : v 3 = sI M 18 q) (h4 : v 4 = sI M 1 (tN (sI M 18 q))) : lG v (sS M 0) (sI M 1 (tN (sS M 0))) = (sI M 1 (tN (sS M 0)) - sI M 17 q - pq M q).toInt64 := by
  unfold lG
  rw [lP_pq hk h0 h1 h2 h3 h4, gq_split hB, h2]
theorem kSum_sH {M : MS} {j : Nat} {c : CS} (h : ∀ k, k < 10 → KT M (10 * j + k) c k) : ∀ k, k ≤ 10 → kSum c k = sH M j k
  | 0, _ => rfl
  | k + 1, hk => by
    have ih := kSum_sH h k (by omega)
    rw [kSum, sH, ih]
    rcases h k (by omega) with ⟨-, h2, h3⟩ | ⟨-, h3, -, -, -, -, -, -, h6⟩
    · rw [if_pos h3, h2, Int32.add_zero]
    · rw [if_neg h3, h6]
/-- had is never below 0 -/
def hadN (M : MS) (q : Nat) : Prop := ∃ w : Nat, w < 2 ^ 31 ∧ sI M 16 q = nI w
theorem kGN_gN {M : MS} {j : Nat} {c : CS} (h : ∀ k, k < 10 → KT M (10 * j + k) c k) (hB : ∀ k, k < 10 → sI M 15 (10 * j + k) ≠ 0 → lotB M (10 * j + k)) (hh : ∀ k, k < 10 → hadN M (10 * j + k)) : ∀ k, k ≤ 10 → kGN c (sS M 0) (sI M 1 (tN (sS M 0))) k = gN M j k
  | 0, _ => rfl
  | k + 1, hk => by
    have ih := kGN_gN h hB hh k (by omega)
    rw [kGN, gN, ih]
    rcases h k (by omega) with ⟨-, h2, h3⟩ | ⟨hb, h3, v0, v1, v2, v3, v4, -, v6⟩
    · rw [if_pos h3, h2, if_neg (by decide), Int64.add_zero]
    · rw [if_neg h3, v6, lG_gq (hB k (by omega) hb) (by omega) v0 v1 v2 v3 v4]
      obtain ⟨w, hw, e⟩ := hh k (by omega)
      by_cases h0 : w = 0
      · rw [e, h0, if_neg (by decide), show (nI 0).toInt64 = 0 from rfl, Int64.zero_mul]
      · rw [if_pos (by rw [e]; exact nI_lt (a := 0) (by omega) hw)]
        rfl
end
section
/-! MATH, of sales: the class's and the reference's go hand in hand -/
theorem KI_uL {M : MS} {j : Nat} {c : CS} {a b : Int64} (h : KI M j c) : KI (uL (uL M 13 j a) 14 j b) j (uKL (uKL c 12 a) 13 b) := by
  obtain ⟨g1, g2, g3, g4, g5, g6, g7, g8, g9, g10, -, -⟩ := h
  refine ⟨g1, g2, g3, ?_, g5, ?_, g7, g8, g9, g10, ?_, ?_⟩
  · rw [xL_uL, xL_uL]; simpa [kL_uKL] using g4
  · rw [xL_uL, xL_uL]; simpa [kL_uKL] using g6
  · rw [xL_uL, xL_uL]; simp [kL_uKL]
  · rw [xL_uL]; simp [kL_uKL]
/-- what a sale needs of the lots of the member j -/
def sellB (M : MS) (j : Nat) : Prop := (∀ k, k < 10 → sI M 15 (10 * j + k) ≠ 0 → lotB M (10 * j + k)) ∧ ∀ k, k < 10 → hadN M (10 * j + k)
/-- the class's and the reference's sale, k lots on -/
def selR (j : Nat) (X : kSell) (Z : mSell) : Prop := X.2 = Z.2 ∧ KM Z.1 j X.1 ∧ (∃ w : Nat, w < 2 ^ 31 ∧ Z.2.1 = nI w) ∧ sellB Z.1 j
theorem KI_u16 {M : MS} {j q : Nat} {c : CS} {a : Int32} (h : KI M j c) : KI (uI M 16 q a) j c := h
theorem KI_uK6 {M : MS} {j k : Nat} {c : CS} {a : Int32} (h : KI M j c) : KI M j (uK6 c k a) := h
theorem KC_sell {M : MS} {j q y : Nat} {a b : Int64} {v : Int32} : cN (uI (uL (uL M 13 j a) 14 j b) 16 q v) j y = cN M j y := rfl
theorem KC_sell2 {c : CS} {k y : Nat} {a b : Int64} {v : Int32} : kC (uK6 (uKL (uKL c 12 a) 13 b) k v) y = kC c y := rfl
theorem KT_sell {M : MS} {j q k i : Nat} {c : CS} {a b : Int64} {v : Int32} : KT (uI (uL (uL M 13 j a) 14 j b) 16 q v) i (uK6 (uKL (uKL c 12 a) 13 b) k v) k ↔ KT (uI M 16 q v) i (uK6 c k v) k := Iff.rfl
theorem KT_sellO {M : MS} {j q k i : Nat} {c : CS} {a b : Int64} {v : Int32} (h1 : i ≠ q) {k' : Nat} (h2 : k' ≠ k) (h : KT M i c k') : KT (uI (uL (uL M 13 j a) 14 j b) 16 q v) i (uK6 (uKL (uKL c 12 a) 13 b) k v) k' := by
  unfold KT at h ⊢
  rw [kV_uK6, if_neg h2, xI_uI, xI_uI, if_neg (fun e => absurd e.1 (by decide)), if_neg (fun e => h1 e.2)]
  exact h
theorem KT_sellS {M : MS} {j k i : Nat} {c : CS} {a b : Int64} {v : Int32} (h0 : sI M 15 i ≠ 0) (h : KT M i c k) : KT (uI (uL (uL M 13 j a) 14 j b) 16 i v) i (uK6 (uKL (uKL c 12 a) 13 b) k v) k := by
  rcases h with ⟨t1, -, -⟩ | ⟨t1, t3, v0, v1, v2, v3, v4, v5, v6⟩
  · exact absurd t1 h0
  · refine Or.inr ⟨?_, t3, ?_, ?_, ?_, ?_, ?_, ?_, ?_⟩
    · rw [xI_uI, if_neg (fun e => absurd e.1 (by decide))]; exact t1
    · rw [kV_uK6, if_pos rfl]; exact v0
    · rw [kV_uK6, if_pos rfl]; exact v1
    · rw [kV_uK6, if_pos rfl]; exact v2
    · rw [kV_uK6, if_pos rfl]; exact v3
    · rw [kV_uK6, if_pos rfl]; exact v4
    · rw [kV_uK6, if_pos rfl]; exact v5
    · rw [kV_uK6, if_pos rfl, xI_uI, if_pos ⟨rfl, rfl⟩]; rfl
theorem sold_nat {M : MS} {q w b : Nat} (hw : w < 2 ^ 31) (hb : b < 2 ^ 31) (eb : sI M 16 q = nI b) : soldN M q (nI w) = nI (if w < b then w else b) := by
  unfold soldN
  rw [eb]
  by_cases h1 : w < b
  · rw [if_pos (nI_lt h1 hb), if_pos h1]
  · rw [if_neg (nI_nlt (by omega) hw), if_neg h1]
theorem sellB_u {M : MS} {j k z : Nat} {a b : Int64} (hz : z < 2 ^ 31) (h : sellB M j) : sellB (uI (uL (uL M 13 j a) 14 j b) 16 (10 * j + k) (nI z)) j := by
  refine ⟨fun i hi hn => ?_, fun i hi => ?_⟩
  · rw [xI_uI, if_neg (fun e => absurd e.1 (by decide))] at hn
    exact h.1 i hi hn
  · by_cases hik : i = k
    · subst hik
      exact ⟨z, hz, by rw [xI_uI, if_pos ⟨rfl, rfl⟩]⟩
    · obtain ⟨y, hy, ey⟩ := h.2 i hi
      refine ⟨y, hy, ?_⟩
      rw [xI_uI, if_neg (fun e => hik (by omega))]
      exact ey
/-- the class's step, in the reference's words -/
theorem selK_eq {M : MS} {c : CS} {j k : Nat} {op ea : Int32} (hk : k < 10) (hI : KI M j c) (hT : KT M (10 * j + k) c k) (hb : sI M 15 (10 * j + k) ≠ 0) (hB : lotB M (10 * j + k)) :
    kSellS (sS M 0) (sI M 1 (tN (sS M 0))) k (c, op, ea) = (uK6 (uKL (uKL c 12 (sL M 13 j + (soldN M (10 * j + k) op).toInt64 * (pq M (10 * j + k)).toInt64)) 13 (sL M 14 j + gq M (10 * j + k) (soldN M (10 * j + k) op))) k (sI M 16 (10 * j + k) - soldN M (10 * j + k) op), op - soldN M (10 * j + k) op, ea + (if eQ M (10 * j + k) = 0 then 0 else soldN M (10 * j + k) op)) := by
  have hq : (10 * j + k) % 10 = k := by omega
  rcases hT with ⟨t1, t2, t3⟩ | ⟨t1, t3, v0, v1, v2, v3, v4, v5, v6⟩
  · exact absurd t1 hb
  · have eP := lP_pq (M := M) hq v0 v1 v2 v3 v4
    have eG := lG_gq hB hq v0 v1 v2 v3 v4
    have eE := lE_eQ (M := M) hq v0 v3
    have eS : kSo c k op = soldN M (10 * j + k) op := by
      unfold kSo
      rw [v6, lMin_sold]
    obtain ⟨-, -, -, -, -, -, -, -, -, -, g12, g13⟩ := hI
    refine (if_neg t3).trans ?_
    simp only [eS, eP, eG, eE, v6, g12, g13, gq]
theorem selR_hit {M : MS} {c : CS} {j k w : Nat} {ea : Int32} (hj : j < 6) (hk : k < 10) (hw : w < 2 ^ 31) (hM : KM M j c) (hB : sellB M j) (hb : sI M 15 (10 * j + k) ≠ 0) (h0 : 0 < soldN M (10 * j + k) (nI w)) :
    selR j (kSellS (sS M 0) (sI M 1 (tN (sS M 0))) k (c, nI w, ea)) (sellS j k (M, nI w, ea)) := by
  obtain ⟨hI, hC, hT⟩ := hM
  obtain ⟨b, hbb, eb⟩ := hB.2 k hk
  have hsold := sold_nat hw hbb eb
  have hle1 : (if w < b then w else b) ≤ w := by split <;> omega
  have hle2 : (if w < b then w else b) ≤ b := by split <;> omega
  rw [selK_eq hk hI (hT k hk) hb (hB.1 k hk hb)]
  have e2 : sellS j k (M, nI w, ea) = (uI (uL (uL M 13 j (sL M 13 j + (soldN M (10 * j + k) (nI w)).toInt64 * (pq M (10 * j + k)).toInt64)) 14 j (sL M 14 j + gq M (10 * j + k) (soldN M (10 * j + k) (nI w)))) 16 (10 * j + k) (sI M 16 (10 * j + k) - soldN M (10 * j + k) (nI w)), nI w - soldN M (10 * j + k) (nI w), ea + (if eQ M (10 * j + k) = 0 then 0 else soldN M (10 * j + k) (nI w))) := if_pos h0
  rw [e2]
  generalize hgo : (if w < b then w else b) = s at hsold hle1 hle2
  have d1 : nI w - soldN M (10 * j + k) (nI w) = nI (w - s) := by rw [hsold]; exact pk_sub hle1
  have d2 : sI M 16 (10 * j + k) - soldN M (10 * j + k) (nI w) = nI (b - s) := by rw [hsold, eb]; exact pk_sub hle2
  refine ⟨rfl, ⟨?_, ?_, ?_⟩, ⟨w - s, by omega, d1⟩, ?_⟩
  · exact KI_u16 (KI_uK6 (KI_uL hI))
  · intro y hy
    rw [KC_sell2, KC_sell]
    exact hC y hy
  · intro i hi
    by_cases hik : i = k
    · subst hik
      exact KT_sellS hb (hT i hi)
    · exact KT_sellO (by omega) hik (hT i hi)
  · show sellB (uI _ 16 _ (sI M 16 (10 * j + k) - soldN M (10 * j + k) (nI w))) j
    rw [d2]
    exact sellB_u (by omega) hB
theorem selK_0 {M : MS} {c : CS} {j k : Nat} (hI : KI M j c) (hT : KT M (10 * j + k) c k) (hb : sI M 15 (10 * j + k) ≠ 0) : kL (uK6 (uKL (uKL c 12 (sL M 13 j)) 13 (sL M 14 j)) k (sI M 16 (10 * j + k))) = kL c ∧ kV (uK6 (uKL (uKL c 12 (sL M 13 j)) 13 (sL M 14 j)) k (sI M 16 (10 * j + k))) = kV c := by
  rcases hT with ⟨t1, t2, t3⟩ | ⟨t1, t3, v0, v1, v2, v3, v4, v5, v6⟩
  · exact absurd t1 hb
  · obtain ⟨-, -, -, -, -, -, -, -, -, -, g12, g13⟩ := hI
    constructor
    · funext i
      rw [kL_uK6, kL_uKL, kL_uKL]
      by_cases h1 : i = 13
      · rw [if_pos h1, h1, g13]
      · rw [if_neg h1]
        by_cases h2 : i = 12
        · rw [if_pos h2, h2, g12]
        · rw [if_neg h2]
    · funext x
      rw [kV_uK6]
      by_cases h1 : x = k
      · rw [if_pos h1, h1]
        funext i
        by_cases h2 : i = 6
        · rw [h2, upd_at, if_pos rfl, v6]
        · rw [upd_at, if_neg h2]; rfl
      · rw [if_neg h1]; rfl
theorem KM_eq {M : MS} {j : Nat} {c c' : CS} (h1 : kI c' = kI c) (h2 : kL c' = kL c) (h3 : kC c' = kC c) (h4 : kR c' = kR c) (h5 : kV c' = kV c) (h : KM M j c) : KM M j c' := by
  unfold KM KI KT at h ⊢
  rw [h1, h2, h3, h4, h5]
  exact h
theorem selR_zero {M : MS} {c : CS} {j k w : Nat} {ea : Int32} (hk : k < 10) (hw : w < 2 ^ 31) (hM : KM M j c) (hB : sellB M j) (hb : sI M 15 (10 * j + k) ≠ 0) (h0 : soldN M (10 * j + k) (nI w) = 0) :
    selR j (kSellS (sS M 0) (sI M 1 (tN (sS M 0))) k (c, nI w, ea)) (sellS j k (M, nI w, ea)) := by
  obtain ⟨h1, h2⟩ := selK_0 hM.1 (hM.2.2 k hk) hb
  rw [selK_eq hk hM.1 (hM.2.2 k hk) hb (hB.1 k hk hb)]
  have e2 : sellS j k (M, nI w, ea) = (M, nI w, ea) := if_neg (by show ¬ 0 < soldN M (10 * j + k) (nI w); rw [h0]; decide)
  rw [e2, h0]
  have z1 : (0 : Int32).toInt64 = 0 := rfl
  have z2 : gq M (10 * j + k) 0 = 0 := by unfold gq; rw [z1, Int64.zero_mul]
  have z3 : ea + (if eQ M (10 * j + k) = 0 then 0 else 0) = ea := by rw [ite_self, Int32.add_zero]
  rw [z1, z2, Int64.zero_mul, Int64.add_zero, Int64.add_zero, Int32.sub_zero, Int32.sub_zero, z3]
  exact ⟨rfl, KM_eq (c := c) (c' := uK6 (uKL (uKL c 12 (sL M 13 j)) 13 (sL M 14 j)) k (sI M 16 (10 * j + k))) rfl h1 rfl rfl h2 hM, ⟨w, hw, rfl⟩, hB⟩
theorem selR_step {j k : Nat} {X : kSell} {Z : mSell} (hj : j < 6) (hk : k < 10) (h : selR j X Z) : selR j (kSellS (sS Z.1 0) (sI Z.1 1 (tN (sS Z.1 0))) k X) (sellS j k Z) := by
  obtain ⟨M, op, ea⟩ := Z
  obtain ⟨c, op', ea'⟩ := X
  obtain ⟨e, hM, ⟨w, hw, ew⟩, hB⟩ := h
  cases e
  dsimp only at hM ew hB
  subst ew
  obtain ⟨b, hb, eb⟩ := hB.2 k hk
  have hsold := sold_nat hw hb eb
  rcases hM.2.2 k hk with ⟨t1, t2, t3⟩ | ⟨t1, -⟩
  · have h0 : soldN M (10 * j + k) (nI w) = 0 := by
      have hb0 : b = 0 := by
        rw [t2] at eb
        have := (nI_eq (a := 0) (b := b) (by omega) hb).mp eb
        omega
      rw [hsold, hb0, if_neg (Nat.not_lt_zero w)]
      rfl
    have e1 : kSellS (sS M 0) (sI M 1 (tN (sS M 0))) k (c, nI w, ea) = (c, nI w, ea) := if_pos t3
    have e2 : sellS j k (M, nI w, ea) = (M, nI w, ea) := if_neg (by show ¬ 0 < soldN M (10 * j + k) (nI w); rw [h0]; decide)
    show selR j (kSellS (sS M 0) (sI M 1 (tN (sS M 0))) k (c, nI w, ea)) (sellS j k (M, nI w, ea))
    rw [e1, e2]
    exact ⟨rfl, hM, ⟨w, hw, rfl⟩, hB⟩
  · by_cases h0 : 0 < soldN M (10 * j + k) (nI w)
    · exact selR_hit hj hk hw hM hB t1 h0
    · refine selR_zero hk hw hM hB t1 ?_
      rw [hsold] at h0 ⊢
      generalize hgo : (if w < b then w else b) = s at h0
      have hs : s < 2 ^ 31 := by rw [← hgo]; split <;> omega
      rcases Nat.eq_zero_or_pos s with hz | hz
      · rw [hz]; rfl
      · exact absurd (nI_lt (a := 0) hz hs) h0
theorem selR_all {j : Nat} {M : MS} {c : CS} {op : Int32} (hj : j < 6) (h : selR j (c, op, 0) (M, op, 0)) : ∀ k, k ≤ 10 → selR j (kSellN (sS M 0) (sI M 1 (tN (sS M 0))) k (c, op, 0)) (sellN j k (M, op, 0))
  | 0, _ => h
  | k + 1, hk => by
    have ih := selR_all hj h k (by omega)
    have := selR_step hj (show k < 10 by omega) ih
    rw [sellN_S, sellN_I (by decide)] at this
    exact this
end
section
/-! MATH, the invariant of the law's walk: N members, t prices, c calls, s = 7 between the calls and 6 within a purchase -/
def mbr (M : MS) (t c i : Nat) : Prop := (∃ f : Nat, f < t ∧ sI M 10 i = nI f) ∧ (∃ w : Nat, w ≤ 3 ∧ sI M 11 i = nI w) ∧ (∃ w : Nat, w ≤ 750000 * c ∧ sI M 6 i = nI w) ∧ (∃ w : Nat, w ≤ 15 ∧ sI M 4 i = nI w) ∧ (sI M 5 i = 0 → sI M 7 i = 0)
def nmb (M : MS) (i : Nat) : Prop := (sI M 5 i = 0 ∧ sI M 6 i = 0 ∧ sI M 7 i = 0 ∧ sI M 10 i = 0 ∧ sI M 11 i = 0 ∧ sI M 12 i = 0) ∧ (sL M 8 i = 0 ∧ sL M 9 i = 0 ∧ sL M 13 i = 0 ∧ sL M 14 i = 0) ∧ ∀ k, k < 10 → sI M 15 (10 * i + k) = 0 ∧ sI M 16 (10 * i + k) = 0
def ltq (M : MS) (t s q : Nat) : Prop := (∃ o : Nat, o < 60 ∧ sI M 18 q = nI o ∧ (sI M 15 q ≠ 0 → o < t)) ∧ (∃ w : Nat, w ≤ 100000 ∧ sI M 17 q = nI w) ∧ hadN M q ∧ (sI M 15 q ≠ 0 → 6 * (q % 10) + s ≤ t) ∧ ∃ w : Nat, w < 2 ^ 31 ∧ sI M 15 q = nI w
def IV (M : MS) (N t c s : Nat) : Prop := (N ≤ 6 ∧ t ≤ 60 ∧ (0 < N → 0 < t) ∧ sS M 3 = nI N ∧ sS M 0 = nI t - 1) ∧ (∀ j, j < t → prc (sI M 1 j)) ∧ (∀ i, i < N → mbr M t c i) ∧ (∀ i, N ≤ i → i < 6 → nmb M i) ∧ ∀ q, q < 60 → ltq M t s q
def RW (M : MS) (N : Nat) (P : PS) : Prop := pS P 1 = nI N ∧ pS P 2 = sS M 0 ∧ pS P 4 = sS M 2 ∧ (0 ≤ sS M 0 → pS P 3 = sI M 1 (tN (sS M 0))) ∧ ∀ i, i < N → KM M i (pC P i)
theorem IV.u19 {M : MS} {N t c s : Nat} {v : Int32} (h : IV M N t c s) : IV (uS M 19 v) N t c s := h
theorem RW.u19 {M : MS} {N : Nat} {P : PS} {v : Int32} (h : RW M N P) : RW (uS M 19 v) N P := h
/-- M' is M at the member i -/
def agr (M M' : MS) (i : Nat) : Prop := (∀ a, 1 < a → a < 15 → sI M' a i = sI M a i) ∧ (∀ a, sL M' a i = sL M a i) ∧ ∀ a k, 15 ≤ a → k < 10 → sI M' a (10 * i + k) = sI M a (10 * i + k)
theorem mbr.agr {M M' : MS} {t c c' i : Nat} (h : mbr M t c i) (a : agr M M' i) (hc : c ≤ c') : mbr M' t c' i := by
  obtain ⟨a1, -, -⟩ := a
  obtain ⟨h1, h2, ⟨w, hw, e⟩, h4, h5⟩ := h
  refine ⟨?_, ?_, ?_, ?_, ?_⟩
  · rw [a1 10 (by omega) (by omega)]; exact h1
  · rw [a1 11 (by omega) (by omega)]; exact h2
  · rw [a1 6 (by omega) (by omega)]; exact ⟨w, by omega, e⟩
  · rw [a1 4 (by omega) (by omega)]; exact h4
  · rw [a1 5 (by omega) (by omega), a1 7 (by omega) (by omega)]; exact h5
theorem nmb.agr {M M' : MS} {i : Nat} (h : nmb M i) (a : agr M M' i) : nmb M' i := by
  obtain ⟨a1, a2, a3⟩ := a
  obtain ⟨⟨b1, b2, b3, b4, b5, b6⟩, ⟨d1, d2, d3, d4⟩, e⟩ := h
  refine ⟨⟨?_, ?_, ?_, ?_, ?_, ?_⟩, ⟨?_, ?_, ?_, ?_⟩, fun k hk => ?_⟩
  · rw [a1 _ (by omega) (by omega)]; exact b1
  · rw [a1 _ (by omega) (by omega)]; exact b2
  · rw [a1 _ (by omega) (by omega)]; exact b3
  · rw [a1 _ (by omega) (by omega)]; exact b4
  · rw [a1 _ (by omega) (by omega)]; exact b5
  · rw [a1 _ (by omega) (by omega)]; exact b6
  · rw [a2]; exact d1
  · rw [a2]; exact d2
  · rw [a2]; exact d3
  · rw [a2]; exact d4
  · rw [a3 _ k (by omega) hk, a3 _ k (by omega) hk]; exact e k hk
theorem ltq.agr {M M' : MS} {t s i k : Nat} (h : ltq M t s (10 * i + k)) (hk : k < 10) (a : agr M M' i) : ltq M' t s (10 * i + k) := by
  obtain ⟨-, -, a3⟩ := a
  unfold ltq hadN at h ⊢
  rw [a3 18 k (by omega) hk, a3 15 k (by omega) hk, a3 17 k (by omega) hk, a3 16 k (by omega) hk]
  exact h
theorem KM.agr {M M' : MS} {i : Nat} {c : CS} (h : KM M i c) (e1 : sI M' 1 = sI M 1) (a : agr M M' i) : KM M' i c := by
  obtain ⟨a1, a2, a3⟩ := a
  obtain ⟨hI, hC, hT⟩ := h
  refine ⟨?_, fun y hy => ?_, fun k hk => ?_⟩
  · unfold KI at hI ⊢
    rw [e1, a1 4 (by omega) (by omega), a1 5 (by omega) (by omega), a1 6 (by omega) (by omega), a1 7 (by omega) (by omega), a1 10 (by omega) (by omega), a1 11 (by omega) (by omega), a1 12 (by omega) (by omega), a2, a2, a2, a2]
    exact hI
  · unfold cN tm
    rw [e1, a3 15 (2 * y) (by omega) (by omega), a3 18 (2 * y) (by omega) (by omega), a3 15 (2 * y + 1) (by omega) (by omega), a3 18 (2 * y + 1) (by omega) (by omega)]
    exact hC y hy
  · have hT' := hT k hk
    unfold KT at hT' ⊢
    rw [e1, a3 15 k (by omega) hk, a3 16 k (by omega) hk, a3 17 k (by omega) hk, a3 18 k (by omega) hk]
    exact hT'
theorem IV.upd {M M' : MS} {N t c c' s j : Nat} (h : IV M N t c s) (hc : c ≤ c') (hj : j < N) (e0 : sS M' 0 = sS M 0) (e3 : sS M' 3 = sS M 3) (e1 : sI M' 1 = sI M 1) (ha : ∀ i, i ≠ j → agr M M' i) (hm : mbr M' t c' j) (hl : ∀ k, k < 10 → ltq M' t s (10 * j + k)) : IV M' N t c' s := by
  obtain ⟨⟨h1, h2, h3, h4, h5⟩, hp, hb, hn, hq⟩ := h
  refine ⟨⟨h1, h2, h3, e3.trans h4, e0.trans h5⟩, fun i hi => ?_, fun i hi => ?_, fun i hi h6 => ?_, fun q hq6 => ?_⟩
  · rw [e1]; exact hp i hi
  · by_cases hij : i = j
    · rw [hij]; exact hm
    · exact (hb i hi).agr (ha i hij) hc
  · exact (hn i hi h6).agr (ha i (by omega))
  · have e : q = 10 * (q / 10) + q % 10 := by omega
    by_cases hij : q / 10 = j
    · rw [e, hij]; exact hl _ (by omega)
    · have hq' := hq q hq6
      rw [e] at hq' ⊢
      exact hq'.agr (by omega) (ha _ hij)
theorem RW.upd {M M' : MS} {N j : Nat} {P : PS} {c : CS} (h : RW M N P) (e0 : sS M' 0 = sS M 0) (e2 : sS M' 2 = sS M 2) (e1 : sI M' 1 = sI M 1) (ha : ∀ i, i ≠ j → agr M M' i) (hm : KM M' j c) : RW M' N (uPC P j c) := by
  obtain ⟨h1, h2, h3, h4, h5⟩ := h
  refine ⟨h1, h2.trans e0.symm, h3.trans e2.symm, fun h0 => ?_, fun i hi => ?_⟩
  · rw [e1, e0]
    exact h4 (e0 ▸ h0)
  · rw [pC_uPC]
    by_cases hij : i = j
    · rw [if_pos hij, hij]; exact hm
    · rw [if_neg hij]
      exact (h5 i hi).agr e1 (ha i hij)
section
variable {M : MS} {N t c s : Nat} {P : PS}
theorem IV.six (h : IV M N t c s) : mem6 M := ⟨N, h.1.1, h.1.2.2.2.1⟩
theorem IV.mon {c' : Nat} (h : IV M N t c s) (hc : c ≤ c') : IV M N t c' s := by
  obtain ⟨h1, hp, hb, hn, hq⟩ := h
  exact ⟨h1, hp, fun i hi => (hb i hi).agr ⟨fun _ _ _ => rfl, fun _ => rfl, fun _ _ _ _ => rfl⟩ hc, hn, hq⟩
theorem IV.now (h : IV M N t c s) (h0 : 0 < t) : sS M 0 = nI (t - 1) := by
  rw [h.1.2.2.2.2, show (nI t - 1 : Int32) = nI t - nI 1 from rfl, pk_sub h0]
theorem IV.tn (h : IV M N t c s) (h0 : 0 < t) : tN (sS M 0) = t - 1 := by
  rw [h.now h0, tN, nI_clamp (by have := h.1.2.1; omega)]
theorem IV.mem (h : IV M N t c s) (i : Int32) : qM M i ↔ vp_in i N := by
  constructor
  · intro hq
    obtain ⟨h1, h2⟩ := qM_lt h.1.2.2.2.1 h.1.1 hq
    rw [h2]
    exact vp_in_nI h1 (by have := h.1.1; omega)
  · intro hv
    obtain ⟨j, hj, rfl⟩ := vp_in_of hv (by have := h.1.1; omega)
    have h6 := h.1.1
    refine ⟨nI_pos' (by omega), ?_⟩
    rw [h.1.2.2.2.1, show (nI N - 1 : Int32) = nI N - nI 1 from rfl, pk_sub (by omega)]
    exact nI_le (by omega) (by omega)
theorem IV.some (h : IV M N t c s) (h0 : 0 ≤ sS M 3 - 1) : 0 < N := by
  rcases Nat.eq_zero_or_pos N with hz | hz
  · rw [h.1.2.2.2.1, hz] at h0
    exact absurd h0 (by decide)
  · exact hz
theorem IV.hm (h : IV M N t c s) (h0 : 0 ≤ sS M 3 - 1) : vp_in (sS M 0) 60 := by
  have ht := h.1.2.2.1 (h.some h0)
  have h6 := h.1.2.1
  rw [h.now ht]
  exact vp_in_nI (by omega) (by decide)
theorem IV.ho (h : IV M N t c s) : ∀ k, k < 60 → vp_in (sI M 18 k) 60 := fun k hk => by
  obtain ⟨⟨o, ho, e, -⟩, -⟩ := h.2.2.2.2 k hk
  rw [e]
  exact vp_in_nI ho (by decide)
theorem IV.hf (h : IV M N t c s) : ∀ k, k < 6 → vp_in (sI M 10 k) 60 := fun k hk => by
  by_cases hN : k < N
  · obtain ⟨⟨f, hf, e⟩, -⟩ := h.2.2.1 k hN
    rw [e]
    exact vp_in_nI (by have := h.1.2.1; omega) (by decide)
  · rw [(h.2.2.2.1 k (by omega) hk).1.2.2.2.1]
    exact vp_in_nI (n := 0) (by decide) (by decide)
theorem IV.lot (h : IV M N t c s) (hs : 6 ≤ s) {q : Nat} (hq : q < 60) (hb : sI M 15 q ≠ 0) : lotB M q := by
  obtain ⟨⟨o, ho, eo, ho2⟩, hw, -, hk, -⟩ := h.2.2.2.2 q hq
  have hk := hk hb
  have hp := h.2.1
  refine ⟨hp _ (by omega), ?_, ?_, hw⟩
  · rw [eo, tN, nI_clamp (by omega)]
    exact hp _ (ho2 hb)
  · rw [h.tn (by omega)]
    exact hp _ (by omega)
theorem IV.sell (h : IV M N t c s) (hs : 6 ≤ s) {j : Nat} (hj : j < 6) : sellB M j := ⟨fun _ _ hb => h.lot hs (by omega) hb, fun k hk => (h.2.2.2.2 (10 * j + k) (by omega)).2.2.1⟩
end
end
section
/-! MATH, the calls that change one member -/
section
variable {M : MS} {N t c : Nat} {P : PS} {i : Int32}
theorem agr_rate {v : Int32} {z : Nat} (h : z ≠ tN i) : agr M (nRate M i v) z := by
  refine ⟨fun a h1 h2 => ?_, fun a => rfl, fun a k h1 h2 => ?_⟩
  · rw [nRate, xI_uI, if_neg (by omega)]
  · rw [nRate, xI_uI, if_neg (by omega)]
theorem qIn_nat {x : Int32} {a b : Nat} (hb : b < 2 ^ 31) (h : qIn x (nI a) (nI b)) (ha : a < 2 ^ 31) : ∃ w : Nat, a ≤ w ∧ w ≤ b ∧ x = nI w := by
  obtain ⟨h1, h2⟩ := h
  obtain ⟨w, hw, rfl⟩ := nI_of (x := x) (fun h => by
    rw [Int32.lt_iff_toInt_lt] at h
    rw [Int32.le_iff_toInt_le, nI_toInt ha] at h1
    have : (0 : Int32).toInt = 0 := rfl
    omega)
  rw [nI_leI ha hw] at h1
  rw [nI_leI hw hb] at h2
  exact ⟨w, h1, h2, rfl⟩
theorem rate_S {v : Int32} (h : IV M N t c 7) (hR : RW M N P) (hi : vp_in i N) (hv : qIn v 1 15) : IV (nRate M i v) N t (c + 1) 7 ∧ RW (nRate M i v) N (uPC P (tN i) (uKI (pC P (tN i)) 2 v)) := by
  have hj := vp_lt hi
  have h6 := h.1.1
  have hbj := h.2.2.1 _ hj
  constructor
  · refine h.upd (by omega) hj rfl rfl ?_ (fun z hz => agr_rate hz) ?_ (fun k hk => ?_)
    · rw [nRate, sI_uI, if_neg (by decide)]
    · obtain ⟨g1, g2, ⟨w, hw, g3⟩, -, g5⟩ := hbj
      obtain ⟨x, -, hx, rfl⟩ := qIn_nat (a := 1) (b := 15) (by decide) hv (by decide)
      refine ⟨?_, ?_, ?_, ?_, ?_⟩
      · rw [nRate, xI_uI, if_neg (by omega)]; exact g1
      · rw [nRate, xI_uI, if_neg (by omega)]; exact g2
      · rw [nRate, xI_uI, if_neg (by omega)]; exact ⟨w, by omega, g3⟩
      · rw [nRate, xI_uI, if_pos ⟨rfl, rfl⟩]; exact ⟨x, hx, rfl⟩
      · rw [nRate, xI_uI, xI_uI, if_neg (by omega), if_neg (by omega)]; exact g5
    · exact h.2.2.2.2 _ (by omega)
  · refine hR.upd rfl rfl ?_ (fun z hz => agr_rate hz) ?_
    · rw [nRate, sI_uI, if_neg (by decide)]
    · obtain ⟨⟨g1, g2, g3, g4, g5, g6, g7, g8, g9, g10, g11, g12⟩, hC, hT⟩ := hR.2.2.2.2 _ hj
      refine ⟨⟨?_, g2, g3, g4, g5, g6, g7, g8, g9, g10, g11, g12⟩, hC, hT⟩
      rw [nRate, xI_uI, if_pos ⟨rfl, rfl⟩]
      rfl
theorem agr_slip {v : Int32} {z : Nat} (h : z ≠ tN i) : agr M (nSlip M i v) z := by
  refine ⟨fun a h1 h2 => ?_, fun a => ?_, fun a k h1 h2 => ?_⟩
  · rw [nSlip, sI_uL, xI_uI, if_neg (by omega)]
  · rw [nSlip, xL_uL, sL_uI, if_neg (by omega)]
  · rw [nSlip, sI_uL, xI_uI, if_neg (by omega)]
theorem slip_S {v : Int32} (h : IV M N t c 7) (hc : c < 512) (hR : RW M N P) (hi : vp_in i N) (hv : qIn v 0 5000000) : IV (nSlip M i v) N t (c + 1) 7 ∧ RW (nSlip M i v) N (uPC P (tN i) (uKL (uKL (pC P (tN i)) 4 (kL (pC P (tN i)) 4 + (v * kI (pC P (tN i)) 2 / 100).toInt64)) 7 (kL (pC P (tN i)) 7 + (v * kI (pC P (tN i)) 2 / 100).toInt64))) ∧ v * kI (pC P (tN i)) 2 / 100 = rSlip M i v := by
  have hj := vp_lt hi
  have h6 := h.1.1
  obtain ⟨f1, f2, ⟨w, hw, f3⟩, ⟨r, hr, f4⟩, f5⟩ := h.2.2.1 _ hj
  obtain ⟨⟨g1, g2, g3, g4, g5, g6, g7, g8, g9, g10, g11, g12⟩, hC, hT⟩ := hR.2.2.2.2 _ hj
  obtain ⟨x, -, hx, rfl⟩ := qIn_nat (a := 0) (b := 5000000) (by decide) hv (by decide)
  have hxr : x * r ≤ 75000000 := Nat.mul_le_mul hx hr
  have e1 : nI x * nI r / 100 = nI (x * r / 100) := by
    rw [pk_mul, show (100 : Int32) = nI 100 from rfl, pk_div (by omega) (by omega) (by omega)]
  have e2 : rSlip M i (nI x) = nI (x * r / 100) := by rw [rSlip, f4, e1]
  have e3 : nI x * kI (pC P (tN i)) 2 / 100 = nI (x * r / 100) := by rw [g1, f4, e1]
  have e4 : (nI w + nI (x * r / 100)).toInt64 = (nI w).toInt64 + (nI (x * r / 100)).toInt64 := by
    rw [nI_add, nI_l (by omega), nI_l (by omega), nI_l (by omega), lN_add]
  refine ⟨?_, ?_, e3.trans e2.symm⟩
  · refine h.upd (by omega) hj rfl rfl ?_ (fun z hz => agr_slip hz) ?_ (fun k hk => ?_)
    · rw [nSlip, sI_uL, sI_uI, if_neg (by decide)]
    · refine ⟨?_, ?_, ?_, ?_, ?_⟩
      · rw [nSlip, sI_uL, xI_uI, if_neg (by omega)]; exact f1
      · rw [nSlip, sI_uL, xI_uI, if_neg (by omega)]; exact f2
      · rw [nSlip, sI_uL, xI_uI, if_pos ⟨rfl, rfl⟩, f3, e2, nI_add]
        exact ⟨_, by omega, rfl⟩
      · rw [nSlip, sI_uL, xI_uI, if_neg (by omega)]; exact ⟨r, hr, f4⟩
      · rw [nSlip, sI_uL, sI_uL, xI_uI, xI_uI, if_neg (by omega), if_neg (by omega)]; exact f5
    · exact h.2.2.2.2 _ (by omega)
  · refine hR.upd rfl rfl ?_ (fun z hz => agr_slip hz) ?_
    · rw [nSlip, sI_uL, sI_uI, if_neg (by decide)]
    · rw [e3]
      refine ⟨⟨g1, g2, ?_, g4, g5, ?_, g7, g8, g9, g10, g11, g12⟩, hC, hT⟩
      · rw [nSlip, sI_uL, xI_uI, if_pos ⟨rfl, rfl⟩, e2, f3, e4, ← f3, ← g3]
        rfl
      · rw [nSlip, xL_uL, if_pos ⟨rfl, rfl⟩, e2, ← g6]
        rfl
theorem agr_leave {z : Nat} (h : z ≠ tN i) : agr M (nLeave M i) z := by
  refine ⟨fun a h1 h2 => ?_, fun a => rfl, fun a k h1 h2 => ?_⟩
  · rw [nLeave, xI_uI, xI_uI, xI_uI, if_neg (by omega), if_neg (by omega), if_neg (by omega)]
  · rw [nLeave, xI_uI, xI_uI, xI_uI, if_neg (by omega), if_neg (by omega), if_neg (by omega)]
theorem leave_S (h : IV M N t c 7) (hR : RW M N P) (hi : vp_in i N) (h5 : sI M 5 (tN i) = 0) : IV (nLeave M i) N t (c + 1) 7 ∧ RW (nLeave M i) N (uPC P (tN i) (uKI (uKL (uKL (pC P (tN i)) 6 (kL (pC P (tN i)) 6 + kL (pC P (tN i)) 4)) 4 0) 3 1)) ∧ (kL (pC P (tN i)) 4).toInt32 = sI M 6 (tN i) := by
  have hj := vp_lt hi
  have h6 := h.1.1
  obtain ⟨f1, f2, ⟨w, hw, f3⟩, f4, f5⟩ := h.2.2.1 _ hj
  obtain ⟨⟨g1, g2, g3, g4, g5, g6, g7, g8, g9, g10, g11, g12⟩, hC, hT⟩ := hR.2.2.2.2 _ hj
  refine ⟨?_, ?_, by rw [g3, l32_back]⟩
  · refine h.upd (by omega) hj rfl rfl ?_ (fun z hz => agr_leave hz) ?_ (fun k hk => ?_)
    · rw [nLeave, sI_uI, if_neg (by decide), sI_uI, if_neg (by decide), sI_uI, if_neg (by decide)]
    · refine ⟨?_, ?_, ?_, ?_, ?_⟩
      · rw [nLeave, xI_uI, xI_uI, xI_uI, if_neg (by omega), if_neg (by omega), if_neg (by omega)]; exact f1
      · rw [nLeave, xI_uI, xI_uI, xI_uI, if_neg (by omega), if_neg (by omega), if_neg (by omega)]; exact f2
      · rw [nLeave, xI_uI, if_pos ⟨rfl, rfl⟩]; exact ⟨0, by omega, rfl⟩
      · rw [nLeave, xI_uI, xI_uI, xI_uI, if_neg (by omega), if_neg (by omega), if_neg (by omega)]; exact f4
      · rw [nLeave, xI_uI, xI_uI, xI_uI, if_neg (by omega), if_neg (by omega), if_pos ⟨rfl, rfl⟩]
        exact fun h => absurd h (by decide)
    · exact h.2.2.2.2 _ (by omega)
  · refine hR.upd rfl rfl ?_ (fun z hz => agr_leave hz) ?_
    · rw [nLeave, sI_uI, if_neg (by decide), sI_uI, if_neg (by decide), sI_uI, if_neg (by decide)]
    · refine ⟨⟨g1, ?_, ?_, g4, ?_, g6, g7, g8, g9, g10, g11, g12⟩, hC, hT⟩
      · rw [nLeave, xI_uI, xI_uI, xI_uI, if_neg (by omega), if_neg (by omega), if_pos ⟨rfl, rfl⟩]; rfl
      · rw [nLeave, xI_uI, if_pos ⟨rfl, rfl⟩]; rfl
      · rw [nLeave, xI_uI, xI_uI, if_neg (by omega), if_pos ⟨rfl, rfl⟩]
        show kL (pC P (tN i)) 6 + kL (pC P (tN i)) 4 = _
        rw [g5, g3, f5 h5]
        exact Int64.zero_add _
/-- sales -/
theorem sellN_L {j : Nat} {x : mSell} {a b : Nat} (h : (a ≠ 13 ∧ a ≠ 14) ∨ b ≠ j) : ∀ k, sL (sellN j k x).1 a b = sL x.1 a b
  | 0 => rfl
  | k + 1 => by
    rw [sellN]
    unfold sellS
    split
    · rw [sL_uI, xL_uL, xL_uL, if_neg (by omega), if_neg (by omega), sellN_L h k]
    · exact sellN_L h k
theorem sellN_16 {j : Nat} {x : mSell} {q : Nat} : ∀ k, k ≤ 10 → (q < 10 * j ∨ 10 * j + 10 ≤ q) → sI (sellN j k x).1 16 q = sI x.1 16 q
  | 0, _, _ => rfl
  | k + 1, hk, hq => by
    rw [sellN]
    unfold sellS
    split
    · rw [xI_uI, if_neg (by omega), sI_uL, sI_uL, sellN_16 k (by omega) hq]
    · exact sellN_16 k (by omega) hq
theorem agr_sell {v : Int32} {z : Nat} (h : z ≠ tN i) : agr M (xSell M i v).1 z := by
  refine ⟨fun a h1 h2 => ?_, fun a => ?_, fun a k h1 h2 => ?_⟩
  · rw [xSell, sellN_I (by omega)]
  · rw [xSell, sellN_L (Or.inr h)]
  · by_cases h16 : a = 16
    · rw [xSell, h16, sellN_16 _ (by omega) (by omega)]
    · rw [xSell, sellN_I h16]
theorem sell_S {v : Int32} (h : IV M N t c 7) (hR : RW M N P) (hi : vp_in i N) (hv : qIn v 1 1000000) : IV (xSell M i v).1 N t (c + 1) 7 ∧ RW (xSell M i v).1 N (uPC P (tN i) (kSellN (pS P 2) (pS P 3) 10 (pC P (tN i), v, 0)).1) ∧ (kSellN (pS P 2) (pS P 3) 10 (pC P (tN i), v, 0)).2.2 = (xSell M i v).2.2 := by
  have hj := vp_lt hi
  have h6 := h.1.1
  obtain ⟨w, hw1, hw, rfl⟩ := qIn_nat (a := 1) (b := 1000000) (by decide) hv (by decide)
  have h0 : 0 ≤ sS M 0 := by
    rw [h.now (h.1.2.2.1 (by omega))]
    have := h.1.2.1
    exact nI_pos' (by omega)
  have hs := selR_all (M := M) (c := pC P (tN i)) (op := nI w) (show tN i < 6 by omega) ⟨rfl, hR.2.2.2.2 _ hj, ⟨w, by omega, rfl⟩, h.sell (by omega) (by omega)⟩ 10 (by omega)
  rw [← hR.2.2.2.1 h0, ← hR.2.1] at hs
  obtain ⟨s1, s2, -, s4⟩ := hs
  refine ⟨?_, ?_, by rw [xSell]; exact congrArg Prod.snd s1⟩
  · obtain ⟨f1, f2, ⟨x, hx, f3⟩, f4, f5⟩ := h.2.2.1 _ hj
    refine h.upd (by omega) hj ?_ ?_ ?_ (fun z hz => agr_sell hz) ?_ (fun k hk => ?_)
    · rw [xSell, sellN_S]
    · rw [xSell, sellN_S]
    · rw [xSell, sellN_I (by decide)]
    · refine ⟨?_, ?_, ?_, ?_, ?_⟩
      · rw [xSell, sellN_I (by decide)]; exact f1
      · rw [xSell, sellN_I (by decide)]; exact f2
      · rw [xSell, sellN_I (by decide)]; exact ⟨x, by omega, f3⟩
      · rw [xSell, sellN_I (by decide)]; exact f4
      · rw [xSell, sellN_I (by decide), sellN_I (by decide)]; exact f5
    · obtain ⟨o1, o2, o3, o4, o5⟩ := h.2.2.2.2 (10 * tN i + k) (by omega)
      refine ⟨?_, ?_, s4.2 k hk, ?_, ?_⟩
      · rw [xSell, sellN_I (by decide), sellN_I (by decide)]; exact o1
      · rw [xSell, sellN_I (by decide)]; exact o2
      · rw [xSell, sellN_I (by decide)]; exact o4
      · rw [xSell, sellN_I (by decide)]; exact o5
  · refine hR.upd ?_ ?_ ?_ (fun z hz => agr_sell hz) s2
    · rw [xSell, sellN_S]
    · rw [xSell, sellN_S]
    · rw [xSell, sellN_I (by decide)]
end
end
section
/-! MATH, the calls that only answer, ceiling and join -/
section
variable {M : MS} {N t c : Nat} {P : PS} {i : Int32}
theorem ceil_S {v : Int32} (h : IV M N t c 7) (hR : RW M N P) : IV (uS M 2 v) N t (c + 1) 7 ∧ RW (uS M 2 v) N (uPS P 4 v) := ⟨h.mon (by omega), hR.1, hR.2.1, rfl, hR.2.2.2.1, hR.2.2.2.2⟩
theorem q_S (h : IV M N t c 7) (hR : RW M N P) (v : Int32) : IV (uS M 19 v) N t (c + 1) 7 ∧ RW (uS M 19 v) N P := ⟨h.mon (by omega), hR⟩
theorem memK (hR : RW M N P) (hi : vp_in i N) : KM M (tN i) (pC P (tN i)) := hR.2.2.2.2 _ (vp_lt hi)
theorem money_A (hR : RW M N P) (hi : vp_in i N) : (kL (pC P (tN i)) 4).toInt32 = sI M 6 (tN i) := by
  rw [(memK hR hi).1.2.2.1, l32_back]
theorem offerMonth_A (hR : RW M N P) (hi : vp_in i N) : kI (pC P (tN i)) 8 = sI M 10 (tN i) := (memK hR hi).1.2.2.2.2.2.2.1
theorem offerPrice_A (hR : RW M N P) (hi : vp_in i N) : kI (pC P (tN i)) 9 = sI M 1 (tN (sI M 10 (tN i))) := (memK hR hi).1.2.2.2.2.2.2.2.1
theorem resets_A (hR : RW M N P) (hi : vp_in i N) : kI (pC P (tN i)) 11 = sI M 12 (tN i) := (memK hR hi).1.2.2.2.2.2.2.2.2.2.1
theorem kept_A (hR : RW M N P) (hi : vp_in i N) : kL (pC P (tN i)) 7 = sL M 9 (tN i) := (memK hR hi).1.2.2.2.2.2.1
theorem pay_A (hR : RW M N P) (hi : vp_in i N) : kL (pC P (tN i)) 12 = sL M 13 (tN i) := (memK hR hi).1.2.2.2.2.2.2.2.2.2.2.1
theorem gain_A (hR : RW M N P) (hi : vp_in i N) : kL (pC P (tN i)) 13 = sL M 14 (tN i) := (memK hR hi).1.2.2.2.2.2.2.2.2.2.2.2
theorem traced_A (hR : RW M N P) (hi : vp_in i N) : kL (pC P (tN i)) 5 + kL (pC P (tN i)) 4 + kL (pC P (tN i)) 6 = sL M 8 (tN i) + (sI M 6 (tN i)).toInt64 + (sI M 7 (tN i)).toInt64 := by
  obtain ⟨g1, g2, g3, g4, g5, -⟩ := (memK hR hi).1
  rw [g3, g4, g5]
theorem shares_A (hR : RW M N P) (hi : vp_in i N) : kSum (pC P (tN i)) 10 = sH M (tN i) 10 := kSum_sH (memK hR hi).2.2 10 (by omega)
theorem now_0 (h : IV M N t c 7) (hi : vp_in i N) : 0 ≤ sS M 0 := by
  have := vp_lt hi
  rw [h.now (h.1.2.2.1 (by omega))]
  have := h.1.2.1
  exact nI_pos' (by omega)
theorem gainNow_A (h : IV M N t c 7) (hR : RW M N P) (hi : vp_in i N) : kGN (pC P (tN i)) (pS P 2) (pS P 3) 10 = gN M (tN i) 10 := by
  have hj := vp_lt hi
  have h6 := h.1.1
  rw [hR.2.1, hR.2.2.2.1 (now_0 h hi)]
  have hs := h.sell (by omega) (show tN i < 6 by omega)
  exact kGN_gN (memK hR hi).2.2 hs.1 hs.2 10 (by omega)
theorem counted_A (hR : RW M N P) (hi : vp_in i N) {y : Int32} (hy : qIn y 0 4) : kCnt (pC P (tN i)) y = cN M (tN i) (tN y) := by
  obtain ⟨w, -, hw, rfl⟩ := qIn_nat (a := 0) (b := 4) (by decide) hy (by decide)
  have e : tN (nI w) = w := nI_clamp (by omega)
  unfold kCnt
  rw [e, if_neg]
  · exact (memK hR hi).2.1 w (by omega)
  · rintro (h | h)
    · exact nI_pos (by omega) h
    · exact nI_ge (a := w) (b := 5) (by omega) (by decide) h
theorem lot_k {d : Int32} (hi : vp_in i 6) (hd : qIn d 0 59) : tN (d / 6) < 10 ∧ tN (10 * i + d / 6) = 10 * tN i + tN (d / 6) ∧ ¬ (d / 6 < 0 ∨ 10 ≤ d / 6) := by
  obtain ⟨w, -, hw, rfl⟩ := qIn_nat (a := 0) (b := 59) (by decide) hd (by decide)
  obtain ⟨j, hj, rfl⟩ := vp_in_of hi (by decide)
  have e : nI w / 6 = nI (w / 6) := by rw [show (6 : Int32) = nI 6 from rfl, pk_div (by omega) (by omega) (by omega)]
  rw [e, nI_10, tN, tN, tN, nI_clamp (by omega), nI_clamp (by omega), nI_clamp (by omega)]
  refine ⟨by omega, rfl, ?_⟩
  rintro (h | h)
  · exact nI_pos (by omega) h
  · exact nI_ge (a := w / 6) (b := 10) (by omega) (by decide) h
theorem bought_A (h : IV M N t c 7) (hR : RW M N P) (hi : vp_in i N) {d : Int32} (hd : qIn d 0 59) : pLot (pC P (tN i)) d 5 0 = rBought M i d := by
  have hj := vp_lt hi
  have h6 := h.1.1
  obtain ⟨k1, k2, k3⟩ := lot_k (qM_in h.six ((h.mem i).mpr hi)) hd
  unfold pLot rBought kLot
  rw [k2]
  by_cases h5 : irem d 6 = 5
  · rw [if_pos h5, if_neg k3, if_pos h5]
    rcases (memK hR hi).2.2 _ k1 with ⟨t1, -, t3⟩ | ⟨-, t3, -, -, -, -, -, t5, -⟩
    · rw [if_pos t3, t1]
    · rw [if_neg t3, t5]
  · rw [if_neg h5, if_neg h5, if_pos rfl]
theorem paidEach_A (h : IV M N t c 7) (hR : RW M N P) (hi : vp_in i N) {d : Int32} (hd : qIn d 0 59) : pLot (pC P (tN i)) d 2 (-1) = rPaid M i d := by
  have hj := vp_lt hi
  have h6 := h.1.1
  obtain ⟨k1, k2, k3⟩ := lot_k (qM_in h.six ((h.mem i).mpr hi)) hd
  unfold pLot rPaid kLot
  rw [k2]
  by_cases h5 : irem d 6 = 5
  · rw [if_pos h5, if_neg k3]
    rcases (memK hR hi).2.2 _ k1 with ⟨t1, -, t3⟩ | ⟨t1, t3, -, -, t2, -⟩
    · rw [if_pos t3, t1, if_neg (fun q => absurd q.2 (by decide))]
    · obtain ⟨-, -, -, -, w, hw, ew⟩ := h.2.2.2.2 (10 * tN i + tN (d / 6)) (by omega)
      have hpos : 0 < sI M 15 (10 * tN i + tN (d / 6)) := by
        rcases Nat.eq_zero_or_pos w with hz | hz
        · rw [ew, hz] at t1
          exact absurd rfl t1
        · rw [ew]
          exact nI_lt (a := 0) hz hw
      rw [if_neg t3, t2, if_pos ⟨h5, hpos⟩]
  · rw [if_neg h5, if_pos rfl, if_neg (fun q => h5 q.1)]
/-- a new member -/
theorem kSum_new {j : Nat} (h : nmb M j) : ∀ k, k ≤ 10 → sH M j k = 0
  | 0, _ => rfl
  | k + 1, hk => by rw [sH, kSum_new h k (by omega), (h.2.2 k (by omega)).2]; rfl
theorem agr_join {v : Int32} {z : Nat} (h : z ≠ tN (sS M 3)) : agr M (nJoin M v) z := by
  refine ⟨fun a h1 h2 => ?_, fun a => rfl, fun a k h1 h2 => ?_⟩
  · rw [nJoin, sI_uS, xI_uI, xI_uI, if_neg (by omega), if_neg (by omega)]
  · rw [nJoin, sI_uS, xI_uI, xI_uI, if_neg (by omega), if_neg (by omega)]
theorem join_S {v : Int32} (h : IV M N t c 7) (hR : RW M N P) (hv : qIn v 1 15) (h0 : 0 ≤ sS M 0) (hN : N < 6) : IV (nJoin M v) (N + 1) t (c + 1) 7 ∧ RW (nJoin M v) (N + 1) (uPS (uPC P N (kNew v (pS P 2) (pS P 3))) 1 (nI N + 1)) := by
  obtain ⟨⟨h6, h60, -, h3, h1⟩, hp, hb, hn, hq⟩ := h
  have hz : tN (sS M 3) = N := by rw [h3, tN, nI_clamp (by omega)]
  have ht : 0 < t := by
    rcases Nat.eq_zero_or_pos t with hz | hz
    · rw [h1, hz] at h0
      exact absurd h0 (by decide)
    · exact hz
  have hnow : sS M 0 = nI (t - 1) := by rw [h1, show (nI t - 1 : Int32) = nI t - nI 1 from rfl, pk_sub ht]
  have e0 : sS (nJoin M v) 0 = sS M 0 := rfl
  have e3 : sS (nJoin M v) 3 = nI (N + 1) := by
    show sS M 3 + 1 = _
    rw [h3, nI_1]
  have e1 : sI (nJoin M v) 1 = sI M 1 := by rw [nJoin, sI_uS, sI_uI, if_neg (by decide), sI_uI, if_neg (by decide)]
  obtain ⟨x, -, hx, rfl⟩ := qIn_nat (a := 1) (b := 15) (by decide) hv (by decide)
  have hnN := hn N (by omega) hN
  obtain ⟨⟨b1, b2, b3, b4, b5, b6⟩, ⟨d1, d2, d3, d4⟩, e⟩ := hnN
  have f4 : sI (nJoin M (nI x)) 4 N = nI x := by rw [nJoin, sI_uS, xI_uI, xI_uI, if_neg (by omega), if_pos ⟨rfl, hz.symm⟩]
  have f10 : sI (nJoin M (nI x)) 10 N = sS M 0 := by rw [nJoin, sI_uS, xI_uI, if_pos ⟨rfl, hz.symm⟩]
  have fo : ∀ a z, a ≠ 4 → a ≠ 10 → sI (nJoin M (nI x)) a z = sI M a z := fun a z q1 q2 => by rw [nJoin, sI_uS, xI_uI, xI_uI, if_neg (by omega), if_neg (by omega)]
  constructor
  · refine ⟨⟨by omega, h60, fun _ => ht, e3, e0.trans h1⟩, fun z hz => ?_, fun z hz1 => ?_, fun z hz1 hz6 => ?_, fun q hq6 => ?_⟩
    · rw [e1]; exact hp z hz
    · by_cases hzN : z = N
      · rw [hzN]
        refine ⟨⟨t - 1, by omega, by rw [f10, hnow]⟩, ⟨0, by omega, ?_⟩, ⟨0, by omega, ?_⟩, ⟨x, hx, f4⟩, fun _ => ?_⟩
        · rw [fo _ _ (by decide) (by decide), b5]; rfl
        · rw [fo _ _ (by decide) (by decide), b2]; rfl
        · rw [fo _ _ (by decide) (by decide), b3]
      · exact (hb z (by omega)).agr (agr_join (by omega)) (by omega)
    · exact (hn z (by omega) hz6).agr (agr_join (by omega))
    · have hq' := hq q hq6
      unfold ltq hadN at hq' ⊢
      rw [fo _ _ (by decide) (by decide), fo _ _ (by decide) (by decide), fo _ _ (by decide) (by decide), fo _ _ (by decide) (by decide)]
      exact hq'
  · obtain ⟨r1, r2, r3, r4, r5⟩ := hR
    refine ⟨?_, r2, r3, fun q => ?_, fun z hz1 => ?_⟩
    · show nI N + 1 = _
      rw [nI_1]
    · rw [e1]
      exact r4 q
    · rw [pC_uPS, pC_uPC]
      by_cases hzN : z = N
      · rw [if_pos hzN, hzN]
        refine ⟨⟨?_, ?_, ?_, ?_, ?_, ?_, ?_, ?_, ?_, ?_, ?_, ?_⟩, fun y hy => ?_, fun k hk => ?_⟩
        · rw [f4]; rfl
        · rw [fo _ _ (by decide) (by decide), b1]; rfl
        · rw [fo _ _ (by decide) (by decide), b2]; rfl
        · exact d1.symm
        · rw [fo _ _ (by decide) (by decide), b3]; rfl
        · exact d2.symm
        · rw [f10, ← r2]; rfl
        · rw [f10, e1, ← r4 h0]; rfl
        · rw [fo _ _ (by decide) (by decide), b5]; rfl
        · rw [fo _ _ (by decide) (by decide), b6]; rfl
        · exact d3.symm
        · exact d4.symm
        · unfold cN tm
          rw [fo 15 (10 * N + 2 * y) (by decide) (by decide), fo 15 (10 * N + (2 * y + 1)) (by decide) (by decide), (e (2 * y) (by omega)).1, (e (2 * y + 1) (by omega)).1, show (0 : Int32).toInt64 = 0 from rfl, Int64.zero_mul, Int64.zero_mul]
          rfl
        · refine Or.inl ⟨?_, ?_, rfl⟩
          · rw [fo _ _ (by decide) (by decide)]; exact (e k hk).1
          · rw [fo _ _ (by decide) (by decide)]; exact (e k hk).2
      · rw [if_neg hzN]
        exact (r5 z (by omega)).agr e1 (agr_join (by omega))
end
end
section
/-! MATH, a purchase: how many -/
theorem each_nat {a b : Nat} (ha : 1 ≤ a) (ha2 : a ≤ 100000) (hb : 1 ≤ b) (hb2 : b ≤ 100000) : ∃ e : Nat, 1 ≤ e ∧ e ≤ 100000 ∧ (85 * (if nI a < nI b then nI a else nI b) + 99) / 100 = nI e ∧ (lMin (nI a) (nI b) * 85 + 100 - 1) / 100 = nI e := by
  refine ⟨(85 * (if a < b then a else b) + 99) / 100, by split <;> omega, by split <;> omega, ?_, ?_⟩
  · have e1 : (if nI a < nI b then nI a else nI b) = nI (if a < b then a else b) := by
      by_cases h : a < b
      · rw [if_pos h, if_pos (nI_lt h (by omega))]
      · rw [if_neg h, if_neg (nI_nlt (by omega) (by omega))]
    rw [e1]
    generalize hm : (if a < b then a else b) = m
    have hm2 : m ≤ 100000 := by rw [← hm]; split <;> omega
    rw [show (85 : Int32) = nI 85 from rfl, pk_mul, show (99 : Int32) = nI 99 from rfl, nI_add, show (100 : Int32) = nI 100 from rfl, pk_div (by omega) (by omega) (by omega)]
  · have e1 : lMin (nI a) (nI b) = nI (if a < b then a else b) := by
      unfold lMin
      by_cases h : b < a
      · rw [if_pos (nI_lt h (by omega)), if_neg (by omega)]
      · rw [if_neg (nI_nlt (by omega) (by omega))]
        by_cases h2 : a < b
        · rw [if_pos h2]
        · rw [if_neg h2, show a = b by omega]
    rw [e1]
    generalize hm : (if a < b then a else b) = m
    have hm2 : m ≤ 100000 := by rw [← hm]; split <;> omega
    rw [show (85 : Int32) = nI 85 from rfl, pk_mul, show (100 : Int32) = nI 100 from rfl, nI_add, show (1 : Int32) = nI 1 from rfl, pk_sub (by omega), show m * 85 + 100 - 1 = 85 * m + 99 by omega, pk_div (by omega) (by omega) (by omega)]
theorem l_of {x : Int64} (h : 0 < x.toInt) : ∃ n : Nat, n < 2 ^ 63 ∧ 0 < n ∧ x = lN n := by
  refine ⟨x.toInt.toNat, ?_, by omega, ?_⟩
  · have := Int64.toInt_lt x
    omega
  · have h1 := Int64.toInt_lt x
    refine Int64.toInt_inj.mp ?_
    rw [show (lN x.toInt.toNat).toInt = (x.toInt.toNat : Int) from lg_ofNat_toInt (by omega)]
    omega
theorem room_neg {A : Int64} {a : Nat} (h : A.toInt ≤ 0) (h0 : 1 ≤ a) (ha : a < 2 ^ 31) : (A / lN a).toInt ≤ 0 := by
  have e : (A / lN a).toInt = (A.toInt.tdiv (lN a).toInt) := by
    rw [Int64.toInt_div_of_ne_right]
    intro e
    have := congrArg Int64.toInt e
    rw [lN_toInt ha] at this
    have h1 : ((-1 : Int64)).toInt = -1 := rfl
    omega
  rw [e, lN_toInt ha]
  have : 0 ≤ (-A.toInt).tdiv (a : Int) := Int.tdiv_nonneg (by omega) (by omega)
  rw [Int.neg_tdiv] at this
  omega
/-- the numbers of shares agree -/
theorem num_nat {A : Int64} {w e a : Nat} (he : 1 ≤ e) (ha : 1 ≤ a) (hw : w < 2 ^ 31) (he2 : e < 2 ^ 31) (ha2 : a < 2 ^ 31) : ∃ x : Nat, x ≤ w / e ∧
    (lMinL (kWhole (nI w).toInt64 (nI e).toInt64) (kWhole A (nI a).toInt64)).toInt32 = nI x ∧
    (if A / (nI a).toInt64 < 0 then 0 else if A / (nI a).toInt64 < (nI w / nI e).toInt64 then (A / (nI a).toInt64).toInt32 else nI w / nI e) = nI x := by
  have hq : w / e ≤ w := Nat.div_le_self w e
  have e1 : kWhole (nI w).toInt64 (nI e).toInt64 = lN (w / e) := by
    unfold kWhole
    rw [nI_l hw, nI_l he2]
    by_cases h0 : w = 0
    · rw [h0, Nat.zero_div, if_pos (Or.inl (by decide))]; rfl
    · rw [if_neg, pk_lDiv (by omega) (by omega) (by omega)]
      rintro (h | h)
      · have := (pk_lLE (a := w) (b := 0) (by omega) (by omega)).mp h
        omega
      · have := (pk_lLE (a := e) (b := 0) (by omega) (by omega)).mp h
        omega
  have e2 : nI w / nI e = nI (w / e) := pk_div hw (by omega) he2
  rw [e1, e2, nI_l (n := w / e) (by omega), nI_l ha2]
  have hq0 : 0 ≤ w / e := Nat.zero_le _
  generalize hd : w / e = d at hq e1 e2 hq0 ⊢
  have z : ∀ x : Int64, x < 0 ↔ x.toInt < 0 := fun x => Int64.lt_iff_toInt_lt
  by_cases hA : A.toInt ≤ 0
  · have k1 : kWhole A (lN a) = lN 0 := by
      unfold kWhole
      rw [if_pos (Or.inl (Int64.le_iff_toInt_le.mpr hA))]; rfl
    have k2 := room_neg hA ha ha2
    refine ⟨0, Nat.zero_le _, ?_, ?_⟩
    · rw [k1]
      unfold lMinL
      by_cases h : 0 < d
      · rw [if_pos ((pk_lLT (by omega) (by omega)).mpr h), lN_i]
      · rw [if_neg (fun q => h ((pk_lLT (by omega) (by omega)).mp q)), lN_i, show d = 0 by omega]
    · by_cases h1 : A / lN a < 0
      · rw [if_pos h1]; rfl
      · have h2 : A / lN a = lN 0 := by
          refine Int64.toInt_inj.mp ?_
          rw [z] at h1
          show _ = (0 : Int)
          omega
        rw [if_neg h1, h2]
        by_cases h : 0 < d
        · rw [if_pos ((pk_lLT (by omega) (by omega)).mpr h), lN_i]
        · rw [if_neg (fun q => h ((pk_lLT (by omega) (by omega)).mp q)), show d = 0 by omega]
  · obtain ⟨n, hn, hn0, rfl⟩ := l_of (x := A) (by omega)
    have hna : n / a ≤ n := Nat.div_le_self n a
    have hna0 : 0 ≤ n / a := Nat.zero_le _
    have k1 : lN n / lN a = lN (n / a) := pk_lDiv hn (by omega) (by omega)
    have k2 : kWhole (lN n) (lN a) = lN (n / a) := by
      unfold kWhole
      rw [if_neg, k1]
      rintro (h | h)
      · have := (pk_lLE (a := n) (b := 0) (by omega) (by omega)).mp h
        omega
      · have := (pk_lLE (a := a) (b := 0) (by omega) (by omega)).mp h
        omega
    have k3 : ¬ lN (n / a) < 0 := fun q => by
      have := (pk_lLT (a := n / a) (b := 0) (by omega) (by omega)).mp q
      exact Nat.not_lt_zero _ this
    generalize hz : n / a = r at hna hna0 k1 k2 k3 ⊢
    refine ⟨if r < d then r else d, by split <;> omega, ?_, ?_⟩
    · rw [k2]
      unfold lMinL
      by_cases h : r < d
      · rw [if_pos ((pk_lLT (by omega) (by omega)).mpr h), if_pos h, lN_i]
      · rw [if_neg (fun q => h ((pk_lLT (by omega) (by omega)).mp q)), if_neg h, lN_i]
    · rw [k1, if_neg k3]
      by_cases h : r < d
      · rw [if_pos ((pk_lLT (by omega) (by omega)).mpr h), if_pos h, lN_i]
      · rw [if_neg (fun q => h ((pk_lLT (by omega) (by omega)).mp q)), if_neg h]
end
section
/-! MATH, a purchase: the state behind it -/
def renM (X : MS) (j : Nat) : MS := if sI X 1 (tN (sS X 0)) < sI X 1 (tN (sI X 10 j)) ∨ sI X 11 j + 1 = 4 then
    uI (uI (uI (uI X 11 j (sI X 11 j + 1)) 12 j (sI X 12 j + (if sI X 1 (tN (sS X 0)) < sI X 1 (tN (sI X 10 j)) then 1 else 0))) 10 j (sS X 0)) 11 j 0
  else uI X 11 j (sI X 11 j + 1)
theorem buyM_ren {M : MS} {j : Nat} : buyM M j = renM (buy1 M j) j := by
  unfold buyM renM buy2
  rw [buy1_S, buy1_I (by decide), buy1_I (by decide), buy1_I (by decide), buy1_I (by decide)]
theorem agr_ren {X : MS} {j z : Nat} (h : z ≠ j) : agr X (renM X j) z := by
  refine ⟨fun a h1 h2 => ?_, fun a => ?_, fun a k h1 h2 => ?_⟩
  · unfold renM; split
    · rw [xI_uI, xI_uI, xI_uI, xI_uI, if_neg (by omega), if_neg (by omega), if_neg (by omega), if_neg (by omega)]
    · rw [xI_uI, if_neg (by omega)]
  · unfold renM; split <;> rfl
  · unfold renM; split
    · rw [xI_uI, xI_uI, xI_uI, xI_uI, if_neg (by omega), if_neg (by omega), if_neg (by omega), if_neg (by omega)]
    · rw [xI_uI, if_neg (by omega)]
theorem ren_I {X : MS} {j a : Nat} (h : a ≠ 10 ∧ a ≠ 11 ∧ a ≠ 12) : sI (renM X j) a = sI X a := by
  unfold renM; split
  · rw [sI_uI, if_neg h.2.1, sI_uI, if_neg h.1, sI_uI, if_neg h.2.2, sI_uI, if_neg h.2.1]
  · rw [sI_uI, if_neg h.2.1]
theorem ren_S {X : MS} {j a : Nat} : sS (renM X j) a = sS X a := by unfold renM; split <;> rfl
theorem ren_L {X : MS} {j a : Nat} : sL (renM X j) a = sL X a := by unfold renM; split <;> rfl
theorem four_nat {w : Nat} (h : w ≤ 3) : (4 ≤ nI w + 1) ↔ (nI w + 1 = 4) := by
  rcases (show w = 0 ∨ w = 1 ∨ w = 2 ∨ w = 3 by omega) with rfl | rfl | rfl | rfl <;> decide
theorem kRen_C {c : CS} {mo price : Int32} : kC (kRenew c mo price) = kC c := by
  unfold kRenew
  split
  · rfl
  · split <;> rfl
theorem kRen_R {c : CS} {mo price : Int32} : kR (kRenew c mo price) = kR c := by
  unfold kRenew
  split
  · rfl
  · split <;> rfl
theorem kRen_V {c : CS} {mo price : Int32} : kV (kRenew c mo price) = kV c := by
  unfold kRenew
  split
  · rfl
  · split <;> rfl
theorem KM_ren {X : MS} {j w : Nat} {c : CS} (hK : KM X j c) (hw : w ≤ 3) (ew : sI X 11 j = nI w) : KM (renM X j) j (kRenew (uKI c 10 (kI c 10 + 1)) (sS X 0) (sI X 1 (tN (sS X 0)))) := by
  obtain ⟨⟨g1, g2, g3, g4, g5, g6, g7, g8, g9, g10, g11, g12⟩, hC, hT⟩ := hK
  have hf := four_nat hw
  have hcC : ∀ y, y < 5 → kC (kRenew (uKI c 10 (kI c 10 + 1)) (sS X 0) (sI X 1 (tN (sS X 0)))) y = cN (renM X j) j y := fun y hy => by
    have e : kC (kRenew (uKI c 10 (kI c 10 + 1)) (sS X 0) (sI X 1 (tN (sS X 0)))) = kC c := kRen_C
    unfold cN tm
    rw [e, ren_I (by decide), ren_I (by decide), ren_I (by decide)]
    exact hC y hy
  have hcT : ∀ k, k < 10 → KT (renM X j) (10 * j + k) (kRenew (uKI c 10 (kI c 10 + 1)) (sS X 0) (sI X 1 (tN (sS X 0)))) k := fun k hk => by
    have e : kR (kRenew (uKI c 10 (kI c 10 + 1)) (sS X 0) (sI X 1 (tN (sS X 0)))) = kR c := kRen_R
    have e2 : kV (kRenew (uKI c 10 (kI c 10 + 1)) (sS X 0) (sI X 1 (tN (sS X 0)))) = kV c := kRen_V
    have hT' := hT k hk
    unfold KT at hT' ⊢
    rw [e, e2, ren_I (by decide), ren_I (by decide), ren_I (by decide), ren_I (by decide), ren_I (by decide)]
    exact hT'
  refine ⟨?_, hcC, hcT⟩
  have q9 : kI (uKI c 10 (kI c 10 + 1)) 9 = sI X 1 (tN (sI X 10 j)) := g8
  have q10 : kI (uKI c 10 (kI c 10 + 1)) 10 = sI X 11 j + 1 := by rw [kI_uKI, if_pos rfl, g9]
  rw [ew] at q10
  unfold KI
  rw [ren_I (a := 4) (by decide), ren_I (a := 5) (by decide), ren_I (a := 6) (by decide), ren_I (a := 7) (by decide), ren_I (a := 1) (by decide), ren_L, ren_L, ren_L, ren_L]
  unfold kRenew renM
  rw [q9, q10, ew]
  by_cases hlt : sI X 1 (tN (sS X 0)) < sI X 1 (tN (sI X 10 j))
  · rw [if_pos hlt, if_pos (Or.inl hlt), if_pos hlt]
    refine ⟨g1, g2, g3, g4, g5, g6, ?_, ?_, ?_, ?_, g11, g12⟩
    · rw [xI_uI, xI_uI, if_neg (by omega), if_pos ⟨rfl, rfl⟩]; rfl
    · rw [xI_uI, xI_uI, if_neg (by omega), if_pos ⟨rfl, rfl⟩]; rfl
    · rw [xI_uI, if_pos ⟨rfl, rfl⟩]; rfl
    · rw [xI_uI, xI_uI, xI_uI, if_neg (by omega), if_neg (by omega), if_pos ⟨rfl, rfl⟩]
      show kI c 11 + 1 = _
      rw [g10]
  · rw [if_neg hlt, if_neg hlt]
    by_cases h4 : nI w + 1 = 4
    · rw [if_pos (hf.mpr h4), if_pos (Or.inr h4)]
      refine ⟨g1, g2, g3, g4, g5, g6, ?_, ?_, ?_, ?_, g11, g12⟩
      · rw [xI_uI, xI_uI, if_neg (by omega), if_pos ⟨rfl, rfl⟩]; rfl
      · rw [xI_uI, xI_uI, if_neg (by omega), if_pos ⟨rfl, rfl⟩]; rfl
      · rw [xI_uI, if_pos ⟨rfl, rfl⟩]; rfl
      · rw [xI_uI, xI_uI, xI_uI, if_neg (by omega), if_neg (by omega), if_pos ⟨rfl, rfl⟩]
        show kI c 11 = _
        rw [g10, Int32.add_zero]
    · rw [if_neg (fun q => h4 (hf.mp q)), if_neg (by rintro (q | q) <;> contradiction)]
      refine ⟨g1, g2, g3, g4, g5, g6, ?_, ?_, ?_, ?_, g11, g12⟩
      · rw [xI_uI, if_neg (by omega)]; exact g7
      · rw [xI_uI, if_neg (by omega)]; exact g8
      · rw [xI_uI, if_pos ⟨rfl, rfl⟩]; exact q10
      · rw [xI_uI, if_neg (by omega)]; exact g10
theorem mbr_ren {X : MS} {j t c : Nat} (h : mbr X t c j) (ht : 0 < t) (hn : sS X 0 = nI (t - 1)) : mbr (renM X j) t c j := by
  obtain ⟨f1, ⟨w, hw, f2⟩, f3, f4, f5⟩ := h
  unfold mbr
  rw [ren_I (a := 6) (by decide), ren_I (a := 4) (by decide), ren_I (a := 5) (by decide), ren_I (a := 7) (by decide)]
  refine ⟨?_, ?_, f3, f4, f5⟩
  · unfold renM
    split
    · rw [xI_uI, xI_uI, if_neg (by omega), if_pos ⟨rfl, rfl⟩, hn]
      exact ⟨t - 1, by omega, rfl⟩
    · rw [xI_uI, if_neg (by omega)]; exact f1
  · unfold renM
    split
    · rw [xI_uI, if_pos ⟨rfl, rfl⟩]
      exact ⟨0, by omega, rfl⟩
    · rename_i h
      rw [xI_uI, if_pos ⟨rfl, rfl⟩, f2, nI_1]
      refine ⟨w + 1, ?_, rfl⟩
      have : w ≠ 3 := by
        rintro rfl
        exact h (Or.inr (by rw [f2]; rfl))
      omega
/-- the bought lot -/
def lotM (M : MS) (j k : Nat) (n each : Int32) : MS := uL (uI (uI (uI (uI (uI M 15 (10 * j + k) n) 16 (10 * j + k) n) 17 (10 * j + k) each) 18 (10 * j + k) (sI M 10 j)) 6 j (sI M 6 j - n * each)) 8 j (sL M 8 j + (n * each).toInt64)
section
variable {M : MS} {j k : Nat} {n each : Int32}
theorem lotM_I {a x : Nat} (h : (a ≠ 15 ∧ a ≠ 16 ∧ a ≠ 17 ∧ a ≠ 18) ∨ x ≠ 10 * j + k) (h6 : a ≠ 6 ∨ x ≠ j) : sI (lotM M j k n each) a x = sI M a x := by
  unfold lotM
  rw [sI_uL, xI_uI, xI_uI, xI_uI, xI_uI, xI_uI, if_neg (by omega), if_neg (by omega), if_neg (by omega), if_neg (by omega), if_neg (by omega)]
theorem lotM_15 : sI (lotM M j k n each) 15 (10 * j + k) = n := by
  unfold lotM
  rw [sI_uL, xI_uI, xI_uI, xI_uI, xI_uI, xI_uI, if_neg (by omega), if_neg (by omega), if_neg (by omega), if_neg (by omega), if_pos ⟨rfl, rfl⟩]
theorem lotM_16 : sI (lotM M j k n each) 16 (10 * j + k) = n := by
  unfold lotM
  rw [sI_uL, xI_uI, xI_uI, xI_uI, xI_uI, if_neg (by omega), if_neg (by omega), if_neg (by omega), if_pos ⟨rfl, rfl⟩]
theorem lotM_17 : sI (lotM M j k n each) 17 (10 * j + k) = each := by
  unfold lotM
  rw [sI_uL, xI_uI, xI_uI, xI_uI, if_neg (by omega), if_neg (by omega), if_pos ⟨rfl, rfl⟩]
theorem lotM_18 : sI (lotM M j k n each) 18 (10 * j + k) = sI M 10 j := by
  unfold lotM
  rw [sI_uL, xI_uI, xI_uI, if_neg (by omega), if_pos ⟨rfl, rfl⟩]
theorem lotM_6 : sI (lotM M j k n each) 6 j = sI M 6 j - n * each := by
  unfold lotM
  rw [sI_uL, xI_uI, if_pos ⟨rfl, rfl⟩]
theorem lotM_8 : sL (lotM M j k n each) 8 j = sL M 8 j + (n * each).toInt64 := by
  unfold lotM
  rw [xL_uL, if_pos ⟨rfl, rfl⟩]
theorem lotM_L {a x : Nat} (h : a ≠ 8 ∨ x ≠ j) : sL (lotM M j k n each) a x = sL M a x := by
  unfold lotM
  rw [xL_uL, if_neg (by omega)]
  rfl
theorem lotM_1 : sI (lotM M j k n each) 1 = sI M 1 := funext fun x => lotM_I (Or.inl (by decide)) (Or.inl (by decide))
theorem lotM_S {a : Nat} : sS (lotM M j k n each) a = sS M a := rfl
theorem agr_lot {z : Nat} (hk : k < 10) (h : z ≠ j) : agr M (lotM M j k n each) z := ⟨fun a h1 h2 => lotM_I (Or.inl (by omega)) (Or.inr h), fun a => lotM_L (Or.inr h), fun a x h1 h2 => lotM_I (Or.inr (by omega)) (Or.inl (by omega))⟩
theorem tm_lot {q : Nat} (h : q ≠ 10 * j + k) (hq : 10 ≤ q ∨ True) : tm (lotM M j k n each) q = tm M q := by
  unfold tm
  rw [lotM_I (Or.inr h) (Or.inl (by decide)), lotM_I (Or.inr h) (Or.inl (by decide)), lotM_1]
theorem tm_new : tm (lotM M j k n each) (10 * j + k) = n.toInt64 * (sI M 1 (tN (sI M 10 j))).toInt64 := by
  unfold tm
  rw [lotM_15, lotM_18, lotM_1]
theorem cN_lot {y : Nat} (h : y ≠ k / 2) : cN (lotM M j k n each) j y = cN M j y := by
  unfold cN
  rw [tm_lot (by omega) (Or.inr trivial), tm_lot (by omega) (Or.inr trivial)]
theorem cN_new (h0 : sI M 15 (10 * j + k) = 0) : cN (lotM M j k n each) j (k / 2) = cN M j (k / 2) + n.toInt64 * (sI M 1 (tN (sI M 10 j))).toInt64 := by
  have ht : tm M (10 * j + k) = 0 := by
    unfold tm
    rw [h0, show (0 : Int32).toInt64 = 0 from rfl, Int64.zero_mul]
  unfold cN
  by_cases he : k = 2 * (k / 2)
  · have e : 10 * j + 2 * (k / 2) = 10 * j + k := by omega
    rw [e, tm_new, ht, tm_lot (by omega) (Or.inr trivial), Int64.zero_add, Int64.add_zero, Int64.zero_add, Int64.add_comm]
  · have e : 10 * j + (2 * (k / 2) + 1) = 10 * j + k := by omega
    rw [e, tm_new, ht, tm_lot (by omega) (Or.inr trivial), Int64.add_zero]
end
end
section
/-! MATH, a purchase hand in hand -/
theorem IV.s6 {M : MS} {N t c s : Nat} (h : IV M N t c s) (hs : 6 ≤ s) : IV M N t c 6 := by
  obtain ⟨h1, hp, hb, hn, hq⟩ := h
  refine ⟨h1, hp, hb, hn, fun q hq6 => ?_⟩
  obtain ⟨o1, o2, o3, o4, o5⟩ := hq q hq6
  exact ⟨o1, o2, o3, fun hb => by have := o4 hb; omega, o5⟩
/-- what is bought -/
theorem bought_nat {M : MS} {N t c j k : Nat} {cc : CS} (h : IV M N t c 6) (ht : t = 6 * k + 6) (hk : k < 10) (hj : j < N) (hc : c ≤ 512) (hK : KM M j cc) : ∃ x e a w : Nat, sI M 6 j = nI w ∧ w ≤ 750000 * c ∧ sI M 1 (tN (sI M 10 j)) = nI a ∧ 1 ≤ a ∧ a ≤ 100000 ∧ 1 ≤ e ∧ e ≤ 100000 ∧ x * e ≤ w ∧ bEach M j = nI e ∧ kEach cc (sI M 1 (tN (sS M 0))) = nI e ∧ bN M j = nI x ∧ kNum cc (sS M 0) (sI M 1 (tN (sS M 0))) (sS M 2) = nI x ∧ tN (sS M 0) / 6 = k ∧ sS M 0 / 12 = nI (k / 2) ∧ sS M 0 / 6 = nI k := by
  have h6 := h.1.1
  obtain ⟨⟨f, hf, ef⟩, -, ⟨w, hw, ew⟩, -, -⟩ := h.2.2.1 j hj
  have hm : sS M 0 = nI (6 * k + 5) := by rw [h.now (by omega), show t - 1 = 6 * k + 5 by omega]
  have hmt : tN (sS M 0) = 6 * k + 5 := by rw [hm, tN, nI_clamp (by omega)]
  obtain ⟨a, ha, ha2, ea⟩ := h.2.1 (tN (sI M 10 j)) (by rw [ef, tN, nI_clamp (by omega)]; exact hf)
  obtain ⟨b, hb, hb2, eb⟩ := h.2.1 (tN (sS M 0)) (by omega)
  obtain ⟨e, he, he2, e1, e2⟩ := each_nat ha ha2 hb hb2
  obtain ⟨⟨g1, g2, g3, g4, g5, g6, g7, g8, g9, g10, g11, g12⟩, hC, hT⟩ := hK
  have d12 : sS M 0 / 12 = nI (k / 2) := by rw [hm, show (12 : Int32) = nI 12 from rfl, pk_div (by omega) (by omega) (by omega), show (6 * k + 5) / 12 = k / 2 by omega]
  have d6 : sS M 0 / 6 = nI k := by rw [hm, show (6 : Int32) = nI 6 from rfl, pk_div (by omega) (by omega) (by omega), show (6 * k + 5) / 6 = k by omega]
  have d12' : tN (sS M 0) / 12 = k / 2 := by rw [hmt]; omega
  obtain ⟨x, hx, x1, x2⟩ := num_nat (A := (sS M 2).toInt64 - cN M j (k / 2)) (w := w) he ha (by omega) (by omega) (by omega)
  have hE : bEach M j = nI e := by rw [bEach, ea, eb]; exact e1
  have hE2 : kEach cc (sI M 1 (tN (sS M 0))) = nI e := by rw [kEach, g8, ea, eb]; exact e2
  have hcnt : kCnt cc (sS M 0 / 12) = cN M j (k / 2) := by
    unfold kCnt
    rw [d12, tN, nI_clamp (by omega), if_neg]
    · exact hC _ (by omega)
    · rintro (q | q)
      · exact nI_pos (by omega) q
      · exact nI_ge (a := k / 2) (b := 5) (by omega) (by decide) q
  refine ⟨x, e, a, w, ew, hw, ea, ha, ha2, he, he2, ?_, hE, hE2, ?_, ?_, by omega, d12, d6⟩
  · have := Nat.div_mul_le_self w e
    exact Nat.le_trans (Nat.mul_le_mul_right e hx) this
  · rw [bN, bRoom, bCan, hE, ew, ea, d12']
    exact x2
  · rw [kNum, hE2, hcnt, g3, g8, ea, ew]
    exact x1
theorem l64_mul {x e : Nat} (h : x * e < 2 ^ 31) (hx : x < 2 ^ 31) (he : e < 2 ^ 31) : (nI x).toInt64 * (nI e).toInt64 = (nI x * nI e).toInt64 := by
  rw [pk_mul, nI_l h, nI_l hx, nI_l he, lN_mul]
theorem KT_buyO {M : MS} {cc c2 : CS} {j k i q : Nat} {V : Nat → Int32} {n each : Int32} (hi : i ≠ k) (eR : kR c2 = va_up (kR cc) k (some q)) (eV : ∀ i, kV c2 i = if i = k then V else kV cc i) (h : KT M (10 * j + i) cc i) : KT (lotM M j k n each) (10 * j + i) c2 i := by
  unfold KT at h ⊢
  rw [eR, eV, if_neg hi, va_up_ne _ _ hi, lotM_1, lotM_I (a := 15) (Or.inr (by omega)) (Or.inl (by decide)), lotM_I (a := 16) (Or.inr (by omega)) (Or.inl (by decide)), lotM_I (a := 17) (Or.inr (by omega)) (Or.inl (by decide)), lotM_I (a := 18) (Or.inr (by omega)) (Or.inl (by decide))]
  exact h
theorem KT_buyN {M : MS} {cc c2 : CS} {j k q : Nat} {V : Nat → Int32} {n each : Int32} (eR : kR c2 = va_up (kR cc) k (some q)) (eV : ∀ i, kV c2 i = if i = k then V else kV cc i) (hn : n ≠ 0) (v0 : V 0 = nI (6 * k + 5)) (v1 : V 1 = sI M 1 (6 * k + 5)) (v2 : V 2 = each) (v3 : V 3 = sI M 10 j) (v4 : V 4 = sI M 1 (tN (sI M 10 j))) (v5 : V 5 = n) (v6 : V 6 = n) : KT (lotM M j k n each) (10 * j + k) c2 k := by
  refine Or.inr ?_
  rw [eR, eV, if_pos rfl, va_up_self, lotM_1, lotM_15, lotM_16, lotM_17, lotM_18]
  exact ⟨hn, Option.some_ne_none q, v0, v1, v2, v3, v4, v5, v6⟩
theorem buy1_K {M : MS} {N t c j k q : Nat} {cc : CS} (h : IV M N t c 6) (ht : t = 6 * k + 6) (hk : k < 10) (hj : j < N) (hc : c ≤ 512) (hK : KM M j cc) (h15 : sI M 15 (10 * j + k) = 0) :
    KM (buy1 M j) j (kBuy1 cc (sS M 0) (sI M 1 (tN (sS M 0))) (sS M 2) q) ∧ mbr (buy1 M j) t c j ∧ (∀ i, i < 10 → ltq (buy1 M j) t 6 (10 * j + i)) ∧ (∀ z, z ≠ j → agr M (buy1 M j) z) ∧ sI (buy1 M j) 1 = sI M 1 := by
  have h6 := h.1.1
  obtain ⟨x, e, a, w, ew, hw, ea, ha, ha2, he, he2, hxe, hE, hE2, hN, hN2, d6', d12, d6⟩ := bought_nat h ht hk hj hc hK
  have hxw : x ≤ w := Nat.le_trans (Nat.le_mul_of_pos_right x he) hxe
  have hm : sS M 0 = nI (6 * k + 5) := by rw [h.now (by omega), show t - 1 = 6 * k + 5 by omega]
  have hmt : tN (sS M 0) = 6 * k + 5 := by rw [hm, tN, nI_clamp (by omega)]
  unfold buy1 kBuy1
  rw [hN, hN2, d6']
  by_cases h0 : 0 < nI x
  · rw [if_pos h0, if_pos h0, hE, hE2]
    have hx0 : 0 < x := by
      rcases Nat.eq_zero_or_pos x with hz | hz
      · rw [hz] at h0
        exact absurd h0 (by decide)
      · exact hz
    show KM (lotM M j k (nI x) (nI e)) j _ ∧ mbr (lotM M j k (nI x) (nI e)) t c j ∧ (∀ i, i < 10 → ltq (lotM M j k (nI x) (nI e)) t 6 (10 * j + i)) ∧ (∀ z, z ≠ j → agr M (lotM M j k (nI x) (nI e)) z) ∧ sI (lotM M j k (nI x) (nI e)) 1 = sI M 1
    obtain ⟨⟨g1, g2, g3, g4, g5, g6, g7, g8, g9, g10, g11, g12⟩, hC, hT⟩ := hK
    obtain ⟨⟨f, hf, ef⟩, f2, -, f4, f5⟩ := h.2.2.1 j hj
    have hAdd : kAdd (uKT cc (tN (sS M 0 / 6)) q (kLotV cc (sS M 0) (sI M 1 (tN (sS M 0))) (nI x))) (sS M 0 / 12) ((nI x).toInt64 * (kI cc 9).toInt64) = uKC (uKT cc k q (kLotV cc (sS M 0) (sI M 1 (tN (sS M 0))) (nI x))) (k / 2) (kC cc (k / 2) + (nI x).toInt64 * (kI cc 9).toInt64) := by
      unfold kAdd
      have ek : tN (nI k) = k := nI_clamp (by omega)
      have ek2 : tN (nI (k / 2)) = k / 2 := nI_clamp (by omega)
      rw [d12, d6, ek, ek2, if_neg]
      · rfl
      · rintro (q | q)
        · exact nI_pos (by omega) q
        · exact nI_ge (a := k / 2) (b := 5) (by omega) (by decide) q
    rw [hAdd]
    have hmul := l64_mul (x := x) (e := e) (by omega) (by omega) (by omega)
    refine ⟨⟨⟨?_, ?_, ?_, ?_, ?_, ?_, ?_, ?_, ?_, ?_, ?_, ?_⟩, fun y hy => ?_, fun i hi => ?_⟩, ⟨?_, ?_, ?_, ?_, ?_⟩, fun i hi => ?_, fun z hz => agr_lot hk hz, lotM_1⟩
    · rw [lotM_I (Or.inl (by decide)) (Or.inl (by decide))]; exact g1
    · rw [lotM_I (Or.inl (by decide)) (Or.inl (by decide))]; exact g2
    · rw [kL_uKL, if_neg (by decide), kL_uKL, if_pos rfl, hmul, lotM_6, g3, ew, pk_mul, pk_sub hxe, nI_l (n := w) (by omega), nI_l (n := x * e) (by omega), nI_l (n := w - x * e) (by omega), lN_sub hxe]
    · rw [lotM_8, kL_uKL, if_pos rfl, hmul, g4]
    · rw [lotM_I (Or.inl (by decide)) (Or.inl (by decide))]; exact g5
    · rw [lotM_L (Or.inl (by decide))]; exact g6
    · rw [lotM_I (Or.inl (by decide)) (Or.inl (by decide))]; exact g7
    · rw [lotM_I (a := 10) (Or.inl (by decide)) (Or.inl (by decide)), lotM_1]; exact g8
    · rw [lotM_I (Or.inl (by decide)) (Or.inl (by decide))]; exact g9
    · rw [lotM_I (Or.inl (by decide)) (Or.inl (by decide))]; exact g10
    · rw [lotM_L (Or.inl (by decide))]; exact g11
    · rw [lotM_L (Or.inl (by decide))]; exact g12
    · rw [kC_uKL, kC_uKL, kC_uKC, updL_at]
      by_cases hyk : y = k / 2
      · rw [if_pos hyk, hyk, cN_new h15, hC _ (by omega), g8]
      · rw [if_neg hyk, cN_lot hyk]
        exact hC y hy
    · by_cases hik : i = k
      · subst hik
        exact KT_buyN (V := kLotV cc (sS M 0) (sI M 1 (tN (sS M 0))) (nI x)) rfl (fun _ => rfl) (nI_ne0 hx0 (by omega)) (by rw [← hm]; rfl) (by rw [← hmt]; rfl) hE2 g7 g8 rfl rfl
      · exact KT_buyO (V := kLotV cc (sS M 0) (sI M 1 (tN (sS M 0))) (nI x)) hik rfl (fun _ => rfl) (hT i hi)
    · rw [lotM_I (Or.inl (by decide)) (Or.inl (by decide))]; exact ⟨f, hf, ef⟩
    · rw [lotM_I (Or.inl (by decide)) (Or.inl (by decide))]; exact f2
    · rw [lotM_6, ew, pk_mul, pk_sub hxe]; exact ⟨w - x * e, by omega, rfl⟩
    · rw [lotM_I (Or.inl (by decide)) (Or.inl (by decide))]; exact f4
    · rw [lotM_I (Or.inl (by decide)) (Or.inl (by decide)), lotM_I (Or.inl (by decide)) (Or.inl (by decide))]; exact f5
    · by_cases hik : i = k
      · subst hik
        unfold ltq hadN
        rw [lotM_15, lotM_16, lotM_17, lotM_18]
        exact ⟨⟨f, by omega, ef, fun _ => hf⟩, ⟨e, he2, rfl⟩, ⟨x, by omega, rfl⟩, fun _ => by omega, ⟨x, by omega, rfl⟩⟩
      · have hq := h.2.2.2.2 (10 * j + i) (by omega)
        unfold ltq hadN at hq ⊢
        rw [lotM_I (Or.inr (by omega)) (Or.inl (by decide)), lotM_I (Or.inr (by omega)) (Or.inl (by decide)), lotM_I (Or.inr (by omega)) (Or.inl (by decide)), lotM_I (Or.inr (by omega)) (Or.inl (by decide))]
        exact hq
  · rw [if_neg h0, if_neg h0]
    exact ⟨hK, h.2.2.1 j hj, fun i hi => h.2.2.2.2 (10 * j + i) (by omega), fun z _ => ⟨fun _ _ _ => rfl, fun _ => rfl, fun _ _ _ _ => rfl⟩, rfl⟩
theorem buyM_K {M : MS} {N t c j k q : Nat} {cc : CS} (h : IV M N t c 6) (ht : t = 6 * k + 6) (hk : k < 10) (hj : j < N) (hc : c ≤ 512) (hK : KM M j cc) (h15 : sI M 15 (10 * j + k) = 0) :
    KM (buyM M j) j (kBuyM cc (sS M 0) (sI M 1 (tN (sS M 0))) (sS M 2) q) ∧ mbr (buyM M j) t c j ∧ (∀ i, i < 10 → ltq (buyM M j) t 6 (10 * j + i)) ∧ (∀ z, z ≠ j → agr M (buyM M j) z) ∧ sI (buyM M j) 1 = sI M 1 := by
  obtain ⟨k1, k2, k3, k4, k5⟩ := buy1_K (q := q) h ht hk hj hc hK h15
  rw [buyM_ren]
  obtain ⟨w, hw, ew⟩ := k2.2.1
  have hr := KM_ren k1 hw ew
  rw [buy1_S, k5] at hr
  refine ⟨hr, mbr_ren k2 (by omega) (by rw [buy1_S]; exact h.now (by omega)), fun i hi => ?_, fun z hz => ?_, ?_⟩
  · have := k3 i hi
    unfold ltq hadN at this ⊢
    rw [ren_I (a := 18) (by decide), ren_I (a := 15) (by decide), ren_I (a := 17) (by decide), ren_I (a := 16) (by decide)]
    exact this
  · obtain ⟨a1, a2, a3⟩ := k4 z hz
    obtain ⟨b1, b2, b3⟩ := agr_ren (X := buy1 M j) hz
    exact ⟨fun a h1 h2 => (b1 a h1 h2).trans (a1 a h1 h2), fun a => (b2 a).trans (a2 a), fun a x h1 h2 => (b3 a x h1 h2).trans (a3 a x h1 h2)⟩
  · rw [ren_I (by decide)]; exact k5
theorem ok_K {M : MS} {N t c j k : Nat} {cc : CS} (h : IV M N t c 6) (ht : t = 6 * k + 6) (hk : k < 10) (hj : j < N) (hc : c ≤ 512) (hK : KM M j cc) : okBuy M j := by
  obtain ⟨x, e, a, w, ew, hw, ea, ha, ha2, he, he2, hxe, hE, -, -, -, -, -, -⟩ := bought_nat h ht hk hj hc hK
  have h6 := h.1.1
  refine ⟨?_, h.hf j (by omega), h.ho, ?_, ?_⟩
  · rw [h.now (by omega)]
    exact vp_in_nI (by omega) (by decide)
  · rw [ea, nI_l (by omega)]
    intro q
    have := (lN_eq (a := a) (b := 0) (by omega) (by omega)).mp q
    omega
  · rw [hE]
    exact nI_ne0 (by omega) (by omega)
/-- the purchases of all, k2 members on -/
theorem all_K {M : MS} {P : PS} {N t c k : Nat} {qs : Nat → Nat} (h : IV M N t c 6) (hR : RW M N P) (ht : t = 6 * k + 6) (hk : k < 10) (hc : c ≤ 512) (h15 : ∀ j, j < N → sI M 15 (10 * j + k) = 0) : ∀ z, z ≤ N → IV (bAll M z) N t c 6 ∧ RW (bAll M z) N (pAll qs N P z) ∧ ∀ j, z ≤ j → j < N → sI (bAll M z) 15 (10 * j + k) = 0
  | 0, _ => ⟨h, hR, fun j _ hj => h15 j hj⟩
  | z + 1, hz => by
    obtain ⟨i1, i2, i3⟩ := all_K (qs := qs) h hR ht hk hc h15 z (by omega)
    have hKz := i2.2.2.2.2 z (by omega)
    have h5 : kI (pC (pAll qs N P z) z) 3 = sI (bAll M z) 5 z := hKz.1.2.1
    rw [bAll, pAll, h5]
    by_cases hs : sI (bAll M z) 5 z = 0
    · rw [if_pos hs, if_pos ⟨by omega, hs⟩]
      obtain ⟨k1, k2, k3, k4, k5⟩ := buyM_K (q := qs z) i1 ht hk (show z < N by omega) hc hKz (i3 z (Nat.le_refl z) (by omega))
      have hp2 : pS P 2 = sS (bAll M z) 0 := by rw [← i2.2.1, pAll_S]
      have hp4 : pS P 4 = sS (bAll M z) 2 := by rw [← i2.2.2.1, pAll_S]
      have h0 : 0 ≤ sS (bAll M z) 0 := by
        rw [i1.now (by omega)]
        exact nI_pos' (by have := i1.1.2.1; omega)
      have hp3 : pS P 3 = sI (bAll M z) 1 (tN (sS (bAll M z) 0)) := by rw [← i2.2.2.2.1 h0, pAll_S]
      rw [hp2, hp3, hp4]
      refine ⟨i1.upd (Nat.le_refl c) (show z < N by omega) (buyM_S) (buyM_S) k5 k4 k2 k3, i2.upd buyM_S buyM_S k5 k4 k1, fun j hj hjN => ?_⟩
      rw [(k4 j (by omega)).2.2 15 k (by omega) hk]
      exact i3 j (by omega) hjN
    · rw [if_neg hs, if_neg (fun q => hs q.2)]
      exact ⟨i1, i2, fun j hj hjN => i3 j (by omega) hjN⟩
theorem pAll_end {q : Nat → Nat} {N : Nat} {P : PS} : ∀ d, pAll q N P (N + d) = pAll q N P N
  | 0 => rfl
  | d + 1 => by
    rw [show N + (d + 1) = (N + d) + 1 by omega, pAll, if_neg (fun h => by omega)]
    exact pAll_end d
theorem irem_nat {M : MS} {N t c s : Nat} (h : IV M N t c s) (h5 : irem (sS M 0) 6 = 5) : ∃ k, k < 10 ∧ t = 6 * k + 6 ∧ sS M 0 / 6 = nI k := by
  have h60 := h.1.2.1
  rcases Nat.eq_zero_or_pos t with hz | hz
  · rw [h.1.2.2.2.2, hz] at h5
    exact absurd h5 (by decide)
  · have hn := h.now hz
    have h6 : irem (sS M 0) 6 = nI ((t - 1) % 6) := by
      rw [hn]
      exact nI_rem (d := 6) (by omega) (by omega) (by omega)
    rw [h6] at h5
    have h7 := (nI_eq (a := (t - 1) % 6) (b := 5) (by omega) (by omega)).mp h5
    refine ⟨(t - 1) / 6, by omega, by omega, ?_⟩
    rw [hn, show (6 : Int32) = nI 6 from rfl, pk_div (by omega) (by omega) (by omega)]
theorem free_K {M : MS} {P : PS} {N t c k : Nat} (h : IV M N t c 7) (hR : RW M N P) (ht : t = 6 * k + 6) (hk : k < 10) : ∀ j, j < N → sI M 15 (10 * j + k) = 0 ∧ kR (pC P j) k = none := fun j hj => by
  have h6 := h.1.1
  have h15 : sI M 15 (10 * j + k) = 0 := Classical.byContradiction fun hn => by
    have := (h.2.2.2.2 (10 * j + k) (by omega)).2.2.2.1 hn
    omega
  refine ⟨h15, ?_⟩
  rcases (hR.2.2.2.2 j hj).2.2 k hk with ⟨-, -, t3⟩ | ⟨t1, -⟩
  · exact t3
  · exact absurd h15 t1
end
section
/-! MATH, a month's step -/
section
variable {M : MS} {N t c : Nat} {P : PS}
theorem step_0 (h : IV M N t c 6) : sS M 0 + 1 = nI t := by rw [h.1.2.2.2.2, Int32.sub_add_cancel]
theorem tick_S {p : Int32} (h : IV M N t c 6) (hR : RW M N P) (h60 : t < 60) (hp : qIn p 1 100000) : IV (uI (uS M 0 (sS M 0 + 1)) 1 (tN (sS M 0 + 1)) p) N (t + 1) (c + 1) 7 ∧ RW (uI (uS M 0 (sS M 0 + 1)) 1 (tN (sS M 0 + 1)) p) N (uPS (uPS P 2 (sS M 0 + 1)) 3 p) := by
  have e0 := step_0 h
  have et : tN (sS M 0 + 1) = t := by rw [e0, tN, nI_clamp (by omega)]
  have hlot := fun q hq hb => (h.2.2.2.2 q hq).2.2.2.1 hb
  obtain ⟨⟨h1, h2, h3, h4, h5⟩, hpr, hb, hn, hq⟩ := h
  obtain ⟨w, hw1, hw2, ew⟩ := qIn_nat (a := 1) (b := 100000) (by decide) hp (by decide)
  rw [et, e0]
  generalize hM : uI (uS M 0 (nI t)) 1 t p = M'
  have fo : ∀ a z, a ≠ 1 ∨ z ≠ t → sI M' a z = sI M a z := fun a z q => by rw [← hM, xI_uI, if_neg (by omega)]; rfl
  have f1 : sI M' 1 t = p := by rw [← hM, xI_uI, if_pos ⟨rfl, rfl⟩]
  have fL : sL M' = sL M := by rw [← hM]; rfl
  have f0 : sS M' 0 = nI t := by rw [← hM]; rfl
  have fS : ∀ a, a ≠ 0 → sS M' a = sS M a := fun a q => by rw [← hM, sS_uI, sS_uS, if_neg q]
  have ft : tN (sS M' 0) = t := by rw [f0, tN, nI_clamp (by omega)]
  have ha : ∀ i, agr M M' i := fun i => ⟨fun a q1 q2 => fo a i (Or.inl (by omega)), fun a => by rw [fL], fun a k q1 q2 => fo a _ (Or.inl (by omega))⟩
  constructor
  · refine ⟨⟨h1, by omega, fun _ => by omega, ?_, ?_⟩, fun j hj => ?_, fun i hi => ?_, fun i hi h6 => (hn i hi h6).agr (ha i), fun q hq6 => ?_⟩
    · rw [fS 3 (by decide)]; exact h4
    · rw [f0, nI_pred]
    · by_cases hjt : j = t
      · rw [hjt, f1]; exact ⟨w, hw1, hw2, ew⟩
      · rw [fo 1 j (Or.inr hjt)]; exact hpr j (by omega)
    · obtain ⟨⟨f, hf, ef⟩, g2, ⟨y, hy, ey⟩, g4, g5⟩ := hb i hi
      refine ⟨⟨f, by omega, ?_⟩, ?_, ⟨y, by omega, ?_⟩, ?_, ?_⟩
      · rw [fo _ _ (Or.inl (by decide))]; exact ef
      · rw [fo _ _ (Or.inl (by decide))]; exact g2
      · rw [fo _ _ (Or.inl (by decide))]; exact ey
      · rw [fo _ _ (Or.inl (by decide))]; exact g4
      · rw [fo _ _ (Or.inl (by decide)), fo _ _ (Or.inl (by decide))]; exact g5
    · obtain ⟨⟨o, ho, eo, ho2⟩, o2, o3, o4, o5⟩ := hq q hq6
      unfold ltq hadN
      rw [fo 18 q (Or.inl (by decide)), fo 15 q (Or.inl (by decide)), fo 17 q (Or.inl (by decide)), fo 16 q (Or.inl (by decide))]
      exact ⟨⟨o, ho, eo, fun hb => by have := ho2 hb; omega⟩, o2, o3, fun hb => by have := o4 hb; omega, o5⟩
  · obtain ⟨r1, r2, r3, r4, r5⟩ := hR
    refine ⟨r1, f0.symm, r3.trans (fS 2 (by decide)).symm, fun _ => ?_, fun i hi => ?_⟩
    · rw [ft, f1]; rfl
    · obtain ⟨hI, hC, hT⟩ := r5 i hi
      obtain ⟨⟨f, hf, ef⟩, -⟩ := hb i hi
      have hbt : ∀ k, k < 10 → sI M 15 (10 * i + k) ≠ 0 → 6 * k + 5 < t ∧ tN (sI M 18 (10 * i + k)) < t := fun k hk hne => by
        obtain ⟨⟨o, ho, eo, ho2⟩, -, -, o4, -⟩ := hq (10 * i + k) (by omega)
        have o4 := o4 hne
        have ho2 := ho2 hne
        rw [eo, tN, nI_clamp (by omega)]
        omega
      have htm : ∀ k, k < 10 → tm M' (10 * i + k) = tm M (10 * i + k) := fun k hk => by
        unfold tm
        rw [fo 15 _ (Or.inl (by decide)), fo 18 _ (Or.inl (by decide))]
        by_cases hne : sI M 15 (10 * i + k) = 0
        · rw [hne, show (0 : Int32).toInt64 = 0 from rfl, Int64.zero_mul, Int64.zero_mul]
        · rw [fo 1 _ (Or.inr (by have := (hbt k hk hne).2; omega))]
      refine ⟨?_, fun y hy => ?_, fun k hk => ?_⟩
      · unfold KI at hI ⊢
        rw [fo 4 _ (Or.inl (by decide)), fo 5 _ (Or.inl (by decide)), fo 6 _ (Or.inl (by decide)), fo 7 _ (Or.inl (by decide)), fo 10 _ (Or.inl (by decide)), fo 11 _ (Or.inl (by decide)), fo 12 _ (Or.inl (by decide)), fL, fo 1 _ (Or.inr (by rw [ef, tN, nI_clamp (by omega)]; omega))]
        exact hI
      · unfold cN
        rw [htm _ (by omega), htm _ (by omega)]
        exact hC y hy
      · have hT' := hT k hk
        unfold KT at hT' ⊢
        rw [fo 15 _ (Or.inl (by decide)), fo 16 _ (Or.inl (by decide)), fo 17 _ (Or.inl (by decide)), fo 18 _ (Or.inl (by decide))]
        rcases hT' with ⟨q1, q2, q3⟩ | ⟨q1, q2, q3, q4, q5, q6, q7, q8, q9⟩
        · exact Or.inl ⟨q1, q2, q3⟩
        · have hh := hbt k hk q1
          refine Or.inr ⟨q1, q2, q3, ?_, q5, q6, ?_, q8, q9⟩
          · rw [fo 1 _ (Or.inr (by omega))]; exact q4
          · rw [fo 1 _ (Or.inr (by omega))]; exact q7
theorem next_S {p : Int32} {qs : Nat → Nat} (h : IV M N t c 7) (hR : RW M N P) (hc : c < 512) (hp : qIn p 1 100000) (h59 : sS M 0 < 59) : IV (nNext M p) N (t + 1) (c + 1) 7 ∧ RW (nNext M p) N (uPS (uPS (if irem (pS P 2) 6 = 5 then pAll qs N P 6 else P) 2 (pS P 2 + 1)) 3 p) := by
  have h60 : t < 60 := by
    have := h.1.2.1
    refine Nat.lt_of_le_of_ne this (fun e => ?_)
    rw [h.1.2.2.2.2, e] at h59
    exact absurd h59 (by decide)
  have h6 := h.1.1
  have h3 : tN (sS M 3) = N := by rw [h.1.2.2.2.1, tN, nI_clamp (by omega)]
  unfold nNext
  rw [hR.2.1, h3]
  by_cases h5 : irem (sS M 0) 6 = 5
  · rw [if_pos h5, if_pos h5]
    obtain ⟨k, hk, ht, -⟩ := irem_nat h h5
    obtain ⟨i1, i2, -⟩ := all_K (qs := qs) (h.s6 (by omega)) hR ht hk (by omega) (fun j hj => (free_K h hR ht hk j hj).1) N (Nat.le_refl N)
    have e6 : pAll qs N P 6 = pAll qs N P N := by
      rw [show 6 = N + (6 - N) by omega]
      exact pAll_end _
    have := tick_S i1 i2 h60 hp
    rw [bAll_S] at this
    rw [e6]
    exact this
  · rw [if_neg h5, if_neg h5]
    exact tick_S (h.s6 (by omega)) hR h60 hp
/-- what the two calls of a month's step ask -/
theorem next_B (h : IV M N t c 7) (hR : RW M N P) (h5 : irem (pS P 2) 6 = 5) : ∃ k, k < 10 ∧ pS P 2 / 6 = nI k ∧ ∀ i, i < N → kR (pC P i) k = none := by
  rw [hR.2.1] at h5 ⊢
  obtain ⟨k, hk, ht, hd⟩ := irem_nat h h5
  exact ⟨k, hk, hd, fun i hi => (free_K h hR ht hk i hi).2⟩
theorem next_M (h : IV M N t c 7) (hR : RW M N P) (hc : c < 512) (h5 : irem (sS M 0) 6 = 5) : ∀ q, q < tN (sS M 3) → okBuy (bAll (uS M 19 0) q) q := fun q hq => by
  have h6 := h.1.1
  have h3 : tN (sS M 3) = N := by rw [h.1.2.2.2.1, tN, nI_clamp (by omega)]
  obtain ⟨k, hk, ht, -⟩ := irem_nat h h5
  obtain ⟨i1, i2, i3⟩ := all_K (M := uS M 19 0) (qs := fun _ => 0) (h.u19.s6 (by omega)) hR.u19 ht hk (by omega) (fun j hj => (free_K h hR ht hk j hj).1) q (by omega)
  exact ok_K i1 ht hk (by omega) (by omega) (i2.2.2.2.2 q (by omega))
theorem next_m1 (h : IV M N t c 7) : -1 ≤ sS M 0 := by
  rcases Nat.eq_zero_or_pos t with hz | hz
  · rw [h.1.2.2.2.2, hz]; decide
  · have h60 := h.1.2.1
    rw [h.now hz, Int32.le_iff_toInt_le, nI_toInt (by omega)]
    have : ((-1 : Int32)).toInt = -1 := rfl
    omega
end
theorem new_S : IV mNew 0 0 0 7 ∧ RW mNew 0 pNew := by
  refine ⟨⟨⟨by omega, by omega, fun h => h, rfl, rfl⟩, fun j hj => absurd hj (Nat.not_lt_zero j), fun i hi => absurd hi (Nat.not_lt_zero i), fun i _ _ => ⟨⟨rfl, rfl, rfl, rfl, rfl, rfl⟩, ⟨rfl, rfl, rfl, rfl⟩, fun k _ => ⟨rfl, rfl⟩⟩, fun q hq => ⟨⟨0, by omega, rfl, fun h => absurd rfl h⟩, ⟨0, by omega, rfl⟩, ⟨0, by omega, rfl⟩, fun h => absurd rfl h, ⟨0, by omega, rfl⟩⟩⟩, rfl, rfl, rfl, fun h => absurd h (by decide), fun i hi => absurd hi (Nat.not_lt_zero i)⟩
end
section
/-! THE LAW'S HELPERS: they catch what the class throws -/
def lh_N (U : State) : Prop := va_Nc "java/lang/IllegalArgumentException" "java/lang/IndexOutOfBoundsException" U ∧ va_Nc "java/lang/IllegalStateException" "java/lang/IndexOutOfBoundsException" U ∧ va_Nc "java/lang/IllegalStateException" "java/lang/IllegalArgumentException" U
theorem lh_N.moved {u U : State} (hvm : u.vm.Alike U.vm) (h : lh_N u) : lh_N U := ⟨va_Nc.moved hvm h.1, va_Nc.moved hvm h.2.1, va_Nc.moved hvm h.2.2⟩
def lh_U (D : va_G) (Y : Nat → ClassId) (σ : sg_W) (sz : Nat) (U : State) : Prop := sg_U D Y σ sz U ∧ lh_N U
theorem lh_blind {D : va_G} {Y : Nat → ClassId} {σ : sg_W} {sz : Nat} {av : List Value} : FrameBlind (va_Pc av (lh_U D Y σ sz)) := fun a U g mk q => by
  obtain ⟨q0, q1, q2⟩ := q
  have h := sg_blind (D := D) (Y := Y) (σ := σ) (sz := sz) (av := av) a U g mk ⟨q0, q1⟩
  exact ⟨h.1, h.2, lh_N.moved (u := U) (U := U.calling g mk a) (Vm.Alike.refl U.vm) q2⟩
section
variable {p : Program} {l : Launch} {e : Env} {R : Room} {s : State} {m : MethodId} {args : Array Value} {below : List Frame} {meth : Method} {c : Code} {H : Heap} {locs : List Loc} {cells slots : Nat} {Q : State → Prop}
variable {D : va_G} {Y : Nat → ClassId} {A : Nat → Prop} {σ : sg_W}
theorem lh_preS {av : List Value} (hK : sg_K D Y s) (hP : sg_P D σ H) (hD : sg_D A σ) (hN : sg_N s) (hC : lh_N s) (hX : sg_X A s s.heap) (hS : va_S A s.heap H locs) (hA : ∀ q, s.heap.size ≤ q → A q) : PreS s H (va_Pc av (lh_U D Y σ H.size)) av :=
  ⟨lh_blind, fun U hU hW => ⟨(sg_pre (av := av) hK hP hD hN hX hS hA U hU hW).1, (sg_pre (av := av) hK hP hD hN hX hS hA U hU hW).2, hC.moved hW.alike⟩⟩
end
theorem lh_met {l : Launch} {y : MethodName} {ws ws' : List Cond} {rm : Room} {av : List Value} {Qc : Array Value → State → Outcome → State → Prop} {XC : String → State → State → Prop} {mc ms : Nat} {cc : ByteArray} {maxL : Nat} {ret : Option FieldType} {hh : List (Nat × Nat × Nat × Nat)} {D : va_G} {Y : Nat → ClassId} {σ : sg_W} {sz : Nat} (hy : plainName y.cls = true) (hw : ws = Cond.codeWith y cc maxL ret hh :: ws') (hlen : (lg_sl av).length ≤ maxL)
    (body : ∀ (p : Program) (e : Env) (s : State) (m : MethodId) (below : List Frame) (meth : Method) (c : Code) (ls : Array Slot), p.tables.exec = Jvm.exec → c.code = cc → c.maxLocals = maxL → c.exceptionTable.toList = tableOf hh → meth.sig.returnType = ret → s.vm.findClass y.cls = some m.cls → (∀ w ∈ ws, w.before av.toArray s = true) → meth.locks = false → meth.name = y.name →
      sg_P D σ s.heap → sg_K D Y s → sg_D (sg_A σ sz) σ → sg_N s → lh_N s → sg_X (sg_A σ sz) s s.heap → (∀ q, s.heap.size ≤ q → sg_A σ sz q) → va_S (sg_A σ sz) s.heap s.heap [] → s.heap.size = sz → lv_has ls maxL (lv_args 0 av) →
      W p l e rm s m av.toArray below meth c s.heap [] 0 0 (vx_MQ below Qc XC av.toArray s mc ms (sg_A σ sz)) (F0 m 0 ls [])) : vx_Met l y ws rm (va_Pc av (lh_U D Y σ sz)) Qc XC mc ms (sg_A σ sz) := by
  refine vx_ofWH (cc := cc) (maxL := maxL) (ret := ret) (hh := hh) hy hw ?_
  intro p e s m args below meth c s₁ B hml hv
  obtain ⟨rfl, ⟨hsz, hP, hK, hD0, hN, hX⟩, hC⟩ := hv
  rw [lg_entry_eq]
  have hts := atoms_spec (ws := ws) B.pre
  exact body p e s m below meth c _ B.exec B.bytes hml (vx_table (x := y) B (hts _ (by rw [hw]; exact List.mem_cons_self))) B.returns (findClass_of_methodNamed B.named) hts B.notSynchronized (name_of_methodNamed B.named B.method).1 hP hK hD0.self hN hC hX (fun q h => Or.inr (by rw [← hsz]; exact h)) va_S.rf hsz (lv_entry av hlen)
end
section
/-! THE LAW'S ROWS: 0 the counts c, 1 the prices p, 2 the members m, 3 bought b, 4 had h, 5 paid q, 6 offer's month f; x the sums -/
abbrev ZG : Type := (Nat → Nat → Int32) × (Nat → Int64)
def gI (G : ZG) (a : Nat) : Nat → Int32 := G.1 a
def gX (G : ZG) : Nat → Int64 := G.2
def vI (G : ZG) (a k : Nat) (v : Int32) : ZG := (fun i => if i = a then upd (G.1 a) k v else G.1 i, G.2)
def vX (G : ZG) (k : Nat) (v : Int64) : ZG := (G.1, vp_updL G.2 k v)
theorem gI_vI {G : ZG} {a k i x : Nat} {v : Int32} : gI (vI G a k v) i x = if i = a ∧ x = k then v else gI G i x := by
  by_cases h : i = a
  · subst h; simp [gI, vI, upd_at]
  · simp [gI, vI, h]
theorem gI_vX {G : ZG} {k i : Nat} {v : Int64} : gI (vX G k v) i = gI G i := rfl
theorem gX_vI {G : ZG} {a k : Nat} {v : Int32} : gX (vI G a k v) = gX G := rfl
theorem gX_vX {G : ZG} {k x : Nat} {v : Int64} : gX (vX G k v) x = if x = k then v else gX G x := rfl
theorem ZG_ext {G K : ZG} (h1 : ∀ a k, gI G a k = gI K a k) (h2 : ∀ k, gX G k = gX K k) : G = K := by
  obtain ⟨a, b⟩ := G
  obtain ⟨a', b'⟩ := K
  have e1 : a = a' := funext fun j => funext (h1 j)
  have e2 : b = b' := funext h2
  subst e1; subst e2; rfl
def lnG (a : Nat) : Nat := if a = 0 then 3 else if a = 1 then 60 else if a = 2 then 28 else 40
/-- σ holds the law's rows at the names 100 .. 107; off them it is σ0 -/
def ZF (Y : Nat → ClassId) (ad : Nat → Nat) (σ0 : sg_W) (G : ZG) (σ : sg_W) : Prop := (∀ a, a < 7 → σ (100 + a) = some (ad a, .inl (Y 0, lnG a, .inl (gI G a)))) ∧ σ (100 + 7) = some (ad 7, .inl (Y 1, 16, .inr (.inl (gX G)))) ∧ ∀ n, ¬ (100 ≤ n ∧ n ≤ 107) → σ n = σ0 n
section
variable {Y : Nat → ClassId} {ad : Nat → Nat} {σ0 σ σ1 : sg_W} {G G' : ZG} {k : Nat} {v : Int32} {w : Int64}
theorem ZF.self (h : ZF Y ad σ0 G σ) : ZF Y ad σ G σ := ⟨h.1, h.2.1, fun _ _ => rfl⟩
theorem ZF.trans (h0 : ZF Y ad σ0 G σ1) (h : ZF Y ad σ1 G' σ) : ZF Y ad σ0 G' σ := ⟨h.1, h.2.1, fun n hn => (h.2.2 n hn).trans (h0.2.2 n hn)⟩
theorem ZF.to (h : ZF Y ad σ0 G σ) (e : G = G') : ZF Y ad σ0 G' σ := e ▸ h
theorem ZF.by (h : ZF Y ad σ0 G σ) (ho : ∀ j, 100 ≤ j ∧ j < 1000 → σ1 j = σ j) : ZF Y ad σ1 G σ1 := ⟨fun a ha => by rw [ho _ (by omega)]; exact h.1 a ha, by rw [ho _ (by omega)]; exact h.2.1, fun _ _ => rfl⟩
theorem ZF.a0 (h : ZF Y ad σ0 G σ) : σ (100 + 0) = some (ad 0, .inl (Y 0, 3, .inl (gI G 0))) := h.1 0 (by decide)
theorem ZF.a1 (h : ZF Y ad σ0 G σ) : σ (100 + 1) = some (ad 1, .inl (Y 0, 60, .inl (gI G 1))) := h.1 1 (by decide)
theorem ZF.a2 (h : ZF Y ad σ0 G σ) : σ (100 + 2) = some (ad 2, .inl (Y 0, 28, .inl (gI G 2))) := h.1 2 (by decide)
theorem ZF.a3 (h : ZF Y ad σ0 G σ) : σ (100 + 3) = some (ad 3, .inl (Y 0, 40, .inl (gI G 3))) := h.1 3 (by decide)
theorem ZF.a4 (h : ZF Y ad σ0 G σ) : σ (100 + 4) = some (ad 4, .inl (Y 0, 40, .inl (gI G 4))) := h.1 4 (by decide)
theorem ZF.a5 (h : ZF Y ad σ0 G σ) : σ (100 + 5) = some (ad 5, .inl (Y 0, 40, .inl (gI G 5))) := h.1 5 (by decide)
theorem ZF.a6 (h : ZF Y ad σ0 G σ) : σ (100 + 6) = some (ad 6, .inl (Y 0, 40, .inl (gI G 6))) := h.1 6 (by decide)
theorem ZF.a7 (h : ZF Y ad σ0 G σ) : σ (100 + 7) = some (ad 7, .inl (Y 1, 16, .inr (.inl (gX G)))) := h.2.1
theorem ZF.of {a : Nat} (h : ZF Y ad σ0 G σ) (ha : a < 7) : ZF Y ad σ0 (vI G a k v) (sg_u σ (100 + a) (ad a) (.inl (Y 0, lnG a, .inl (upd (gI G a) k v)))) := by
  refine ⟨fun b hb => ?_, ?_, fun n hn => ?_⟩
  · by_cases hba : b = a
    · subst hba
      rw [sg_ue]
      simp [gI, vI]
    · rw [sg_un (by omega), h.1 b hb]
      simp [gI, vI, hba]
  · rw [sg_un (by omega)]
    exact h.2.1
  · rw [sg_un (by omega)]
    exact h.2.2 n hn
theorem ZF.u0 (h : ZF Y ad σ0 G σ) : ZF Y ad σ0 (vI G 0 k v) (sg_u σ (100 + 0) (ad 0) (.inl (Y 0, 3, .inl (upd (gI G 0) k v)))) := h.of (a := 0) (by decide)
theorem ZF.u1 (h : ZF Y ad σ0 G σ) : ZF Y ad σ0 (vI G 1 k v) (sg_u σ (100 + 1) (ad 1) (.inl (Y 0, 60, .inl (upd (gI G 1) k v)))) := h.of (a := 1) (by decide)
theorem ZF.u2 (h : ZF Y ad σ0 G σ) : ZF Y ad σ0 (vI G 2 k v) (sg_u σ (100 + 2) (ad 2) (.inl (Y 0, 28, .inl (upd (gI G 2) k v)))) := h.of (a := 2) (by decide)
theorem ZF.u3 (h : ZF Y ad σ0 G σ) : ZF Y ad σ0 (vI G 3 k v) (sg_u σ (100 + 3) (ad 3) (.inl (Y 0, 40, .inl (upd (gI G 3) k v)))) := h.of (a := 3) (by decide)
theorem ZF.u4 (h : ZF Y ad σ0 G σ) : ZF Y ad σ0 (vI G 4 k v) (sg_u σ (100 + 4) (ad 4) (.inl (Y 0, 40, .inl (upd (gI G 4) k v)))) := h.of (a := 4) (by decide)
theorem ZF.u5 (h : ZF Y ad σ0 G σ) : ZF Y ad σ0 (vI G 5 k v) (sg_u σ (100 + 5) (ad 5) (.inl (Y 0, 40, .inl (upd (gI G 5) k v)))) := h.of (a := 5) (by decide)
theorem ZF.u6 (h : ZF Y ad σ0 G σ) : ZF Y ad σ0 (vI G 6 k v) (sg_u σ (100 + 6) (ad 6) (.inl (Y 0, 40, .inl (upd (gI G 6) k v)))) := h.of (a := 6) (by decide)
theorem ZF.u7 (h : ZF Y ad σ0 G σ) : ZF Y ad σ0 (vX G k w) (sg_u σ (100 + 7) (ad 7) (.inl (Y 1, 16, .inr (.inl (vp_updL (gX G) k w))))) := by
  refine ⟨fun b hb => ?_, ?_, fun n hn => ?_⟩
  · rw [sg_un (by omega), h.1 b hb]; rfl
  · rw [sg_ue]; rfl
  · rw [sg_un (by omega)]
    exact h.2.2 n hn
end
/-! rows over numbers that are known as natural ones -/
section LWR
variable {p : Program} {l : Launch} {e : Env} {R : Room} {s : State} {m : MethodId} {args : Array Value} {below : List Frame} {meth : Method} {c : Code} {H : Heap} {locs : List Loc} {cells slots : Nat} {Q : State → Prop}
variable {cc : ByteArray} {pc : Nat} {ls : Array Slot} {rest : List Value} {D : va_G} {Y : Nat → ClassId} {A : Nat → Prop} {σ : sg_W} {H0 : Heap} {a b : Nat} {off : Int} {tgt : Nat}
theorem lw_iadd (hexec : p.tables.exec = Jvm.exec) (hb : c.code = cc) (hdg : decode cc pc = .ok (.iadd, 1)) (k : W p l e R s m args below meth c H locs cells slots Q (F0 m (pc + 1) ls (.int (nI (a + b)) :: rest))) : W p l e R s m args below meth c H locs cells slots Q (F0 m pc ls (.int (nI b) :: .int (nI a) :: rest)) := lv_iadd hexec hb hdg (by rw [nI_add]; exact k)
theorem lw_imul (hexec : p.tables.exec = Jvm.exec) (hb : c.code = cc) (hdg : decode cc pc = .ok (.imul, 1)) (k : W p l e R s m args below meth c H locs cells slots Q (F0 m (pc + 1) ls (.int (nI (a * b)) :: rest))) : W p l e R s m args below meth c H locs cells slots Q (F0 m pc ls (.int (nI b) :: .int (nI a) :: rest)) := lv_imul hexec hb hdg (by rw [pk_mul]; exact k)
theorem lw_isub (hexec : p.tables.exec = Jvm.exec) (hb : c.code = cc) (hdg : decode cc pc = .ok (.isub, 1)) (h : b ≤ a) (k : W p l e R s m args below meth c H locs cells slots Q (F0 m (pc + 1) ls (.int (nI (a - b)) :: rest))) : W p l e R s m args below meth c H locs cells slots Q (F0 m pc ls (.int (nI b) :: .int (nI a) :: rest)) := lv_isub hexec hb hdg (by rw [pk_sub h]; exact k)
theorem lw_idiv (hexec : p.tables.exec = Jvm.exec) (hb : c.code = cc) (hdg : decode cc pc = .ok (.idiv, 1)) (ha : a < 2 ^ 31) (h0 : 0 < b) (hb2 : b < 2 ^ 31) (k : W p l e R s m args below meth c H locs cells slots Q (F0 m (pc + 1) ls (.int (nI (a / b)) :: rest))) : W p l e R s m args below meth c H locs cells slots Q (F0 m pc ls (.int (nI b) :: .int (nI a) :: rest)) := lv_idiv hexec hb hdg (nI_ne0 h0 hb2) (by rw [pk_div ha h0 hb2]; exact k)
theorem lw_irem (hexec : p.tables.exec = Jvm.exec) (hb : c.code = cc) (hdg : decode cc pc = .ok (.irem, 1)) (ha : a < 2 ^ 31) (h0 : 0 < b) (hb2 : b < 2 ^ 31) (k : W p l e R s m args below meth c H locs cells slots Q (F0 m (pc + 1) ls (.int (nI (a % b)) :: rest))) : W p l e R s m args below meth c H locs cells slots Q (F0 m pc ls (.int (nI b) :: .int (nI a) :: rest)) := lv_irem hexec hb hdg (nI_ne0 h0 hb2) (by rw [pk_rem ha h0 hb2]; exact k)
theorem lw_icmp_lt (hexec : p.tables.exec = Jvm.exec) (hb : c.code = cc) (hdg : decode cc pc = .ok (.if_icmp .lt off, 3)) (ht : (pc : Int) + off = (tgt : Int)) (ha : a < 2 ^ 31) (hb2 : b < 2 ^ 31) (kt : a < b → W p l e R s m args below meth c H locs cells slots Q (F0 m tgt ls rest)) (kf : ¬ a < b → W p l e R s m args below meth c H locs cells slots Q (F0 m (pc + 3) ls rest)) : W p l e R s m args below meth c H locs cells slots Q (F0 m pc ls (.int (nI b) :: .int (nI a) :: rest)) := lv_icmp_lt hexec hb hdg ht (fun h => kt ((nI_ltI ha hb2).mp h)) (fun h => kf (fun q => h ((nI_ltI ha hb2).mpr q)))
theorem lw_icmp_ge (hexec : p.tables.exec = Jvm.exec) (hb : c.code = cc) (hdg : decode cc pc = .ok (.if_icmp .ge off, 3)) (ht : (pc : Int) + off = (tgt : Int)) (ha : a < 2 ^ 31) (hb2 : b < 2 ^ 31) (kt : b ≤ a → W p l e R s m args below meth c H locs cells slots Q (F0 m tgt ls rest)) (kf : ¬ b ≤ a → W p l e R s m args below meth c H locs cells slots Q (F0 m (pc + 3) ls rest)) : W p l e R s m args below meth c H locs cells slots Q (F0 m pc ls (.int (nI b) :: .int (nI a) :: rest)) := lv_icmp_ge hexec hb hdg ht (fun h => kt ((nI_leI hb2 ha).mp h)) (fun h => kf (fun q => h ((nI_leI hb2 ha).mpr q)))
theorem lw_icmp_gt (hexec : p.tables.exec = Jvm.exec) (hb : c.code = cc) (hdg : decode cc pc = .ok (.if_icmp .gt off, 3)) (ht : (pc : Int) + off = (tgt : Int)) (ha : a < 2 ^ 31) (hb2 : b < 2 ^ 31) (kt : b < a → W p l e R s m args below meth c H locs cells slots Q (F0 m tgt ls rest)) (kf : ¬ b < a → W p l e R s m args below meth c H locs cells slots Q (F0 m (pc + 3) ls rest)) : W p l e R s m args below meth c H locs cells slots Q (F0 m pc ls (.int (nI b) :: .int (nI a) :: rest)) := lv_icmp_gt hexec hb hdg ht (fun h => kt ((nI_ltI hb2 ha).mp h)) (fun h => kf (fun q => h ((nI_ltI hb2 ha).mpr q)))
theorem lw_icmp_le (hexec : p.tables.exec = Jvm.exec) (hb : c.code = cc) (hdg : decode cc pc = .ok (.if_icmp .le off, 3)) (ht : (pc : Int) + off = (tgt : Int)) (ha : a < 2 ^ 31) (hb2 : b < 2 ^ 31) (kt : a ≤ b → W p l e R s m args below meth c H locs cells slots Q (F0 m tgt ls rest)) (kf : ¬ a ≤ b → W p l e R s m args below meth c H locs cells slots Q (F0 m (pc + 3) ls rest)) : W p l e R s m args below meth c H locs cells slots Q (F0 m pc ls (.int (nI b) :: .int (nI a) :: rest)) := lv_icmp_le hexec hb hdg ht (fun h => kt ((nI_leI ha hb2).mp h)) (fun h => kf (fun q => h ((nI_leI ha hb2).mpr q)))
theorem lw_icmp_eq (hexec : p.tables.exec = Jvm.exec) (hb : c.code = cc) (hdg : decode cc pc = .ok (.if_icmp .eq off, 3)) (ht : (pc : Int) + off = (tgt : Int)) (ha : a < 2 ^ 31) (hb2 : b < 2 ^ 31) (kt : a = b → W p l e R s m args below meth c H locs cells slots Q (F0 m tgt ls rest)) (kf : ¬ a = b → W p l e R s m args below meth c H locs cells slots Q (F0 m (pc + 3) ls rest)) : W p l e R s m args below meth c H locs cells slots Q (F0 m pc ls (.int (nI b) :: .int (nI a) :: rest)) := lv_icmp_eq hexec hb hdg ht (fun h => kt ((nI_eq ha hb2).mp h)) (fun h => kf (fun q => h ((nI_eq ha hb2).mpr q)))
theorem lw_icmp_ne (hexec : p.tables.exec = Jvm.exec) (hb : c.code = cc) (hdg : decode cc pc = .ok (.if_icmp .ne off, 3)) (ht : (pc : Int) + off = (tgt : Int)) (ha : a < 2 ^ 31) (hb2 : b < 2 ^ 31) (kt : ¬ a = b → W p l e R s m args below meth c H locs cells slots Q (F0 m tgt ls rest)) (kf : a = b → W p l e R s m args below meth c H locs cells slots Q (F0 m (pc + 3) ls rest)) : W p l e R s m args below meth c H locs cells slots Q (F0 m pc ls (.int (nI b) :: .int (nI a) :: rest)) := lv_icmp_ne hexec hb hdg ht (fun h => kt (fun q => h ((nI_eq ha hb2).mpr q))) (fun h => kf ((nI_eq ha hb2).mp h))
theorem lw_if_eq (hexec : p.tables.exec = Jvm.exec) (hb : c.code = cc) (hdg : decode cc pc = .ok (.ifCond .eq off, 3)) (ht : (pc : Int) + off = (tgt : Int)) (ha : a < 2 ^ 31) (kt : a = 0 → W p l e R s m args below meth c H locs cells slots Q (F0 m tgt ls rest)) (kf : ¬ a = 0 → W p l e R s m args below meth c H locs cells slots Q (F0 m (pc + 3) ls rest)) : W p l e R s m args below meth c H locs cells slots Q (F0 m pc ls (.int (nI a) :: rest)) := lv_if_eq hexec hb hdg ht (fun h => kt ((nI_eq (b := 0) ha (by decide)).mp h)) (fun h => kf (fun q => h ((nI_eq (b := 0) ha (by decide)).mpr q)))
theorem lw_if_ne (hexec : p.tables.exec = Jvm.exec) (hb : c.code = cc) (hdg : decode cc pc = .ok (.ifCond .ne off, 3)) (ht : (pc : Int) + off = (tgt : Int)) (ha : a < 2 ^ 31) (kt : ¬ a = 0 → W p l e R s m args below meth c H locs cells slots Q (F0 m tgt ls rest)) (kf : a = 0 → W p l e R s m args below meth c H locs cells slots Q (F0 m (pc + 3) ls rest)) : W p l e R s m args below meth c H locs cells slots Q (F0 m pc ls (.int (nI a) :: rest)) := lv_if_ne hexec hb hdg ht (fun h => kt (fun q => h ((nI_eq (b := 0) ha (by decide)).mpr q))) (fun h => kf ((nI_eq (b := 0) ha (by decide)).mp h))
theorem lw_if_le (hexec : p.tables.exec = Jvm.exec) (hb : c.code = cc) (hdg : decode cc pc = .ok (.ifCond .le off, 3)) (ht : (pc : Int) + off = (tgt : Int)) (ha : a < 2 ^ 31) (kt : a = 0 → W p l e R s m args below meth c H locs cells slots Q (F0 m tgt ls rest)) (kf : ¬ a = 0 → W p l e R s m args below meth c H locs cells slots Q (F0 m (pc + 3) ls rest)) : W p l e R s m args below meth c H locs cells slots Q (F0 m pc ls (.int (nI a) :: rest)) := lv_if_le hexec hb hdg ht (fun h => kt (by have := (nI_leI (b := 0) ha (by decide)).mp h; omega)) (fun h => kf (fun q => h ((nI_leI (b := 0) ha (by decide)).mpr (by omega))))
theorem lw_if_gt (hexec : p.tables.exec = Jvm.exec) (hb : c.code = cc) (hdg : decode cc pc = .ok (.ifCond .gt off, 3)) (ht : (pc : Int) + off = (tgt : Int)) (ha : a < 2 ^ 31) (kt : 0 < a → W p l e R s m args below meth c H locs cells slots Q (F0 m tgt ls rest)) (kf : ¬ 0 < a → W p l e R s m args below meth c H locs cells slots Q (F0 m (pc + 3) ls rest)) : W p l e R s m args below meth c H locs cells slots Q (F0 m pc ls (.int (nI a) :: rest)) := lv_if_gt hexec hb hdg ht (fun h => kt ((nI_ltI (a := 0) (by decide) ha).mp h)) (fun h => kf (fun q => h ((nI_ltI (a := 0) (by decide) ha).mpr q)))
/-- 'if less than 0' of a natural number goes on -/
theorem lw_if_lt (hexec : p.tables.exec = Jvm.exec) (hb : c.code = cc) (hdg : decode cc pc = .ok (.ifCond .lt off, 3)) (ht : (pc : Int) + off = (tgt : Int)) (ha : a < 2 ^ 31) (kf : W p l e R s m args below meth c H locs cells slots Q (F0 m (pc + 3) ls rest)) : W p l e R s m args below meth c H locs cells slots Q (F0 m pc ls (.int (nI a) :: rest)) := lv_if_lt hexec hb hdg ht (fun h => absurd h (nI_pos ha)) (fun _ => kf)
theorem lw_iald (hexec : p.tables.exec = Jvm.exec) (hb : c.code = cc) (hK : sg_K D Y s) (hP : sg_P D σ H) {n N q : Nat} {f : Nat → Int32} (h : σ n = some (q, .inl (Y 0, N, .inl f))) {k : Nat} (hk : k < N) {v : Int32} (hv : f k = v) (hdg : decode cc pc = .ok (.iaload, 1)) (kk : W p l e R s m args below meth c H locs cells slots Q (F0 m (pc + 1) ls (.int v :: rest))) (hN : N < 2 ^ 31 := by decide) : W p l e R s m args below meth c H locs cells slots Q (F0 m pc ls (.int (nI k) :: .ref q :: rest)) := by
  refine va_iald hexec hb hK (sg_one hP h) 0 0 rfl rfl (vp_in_nI hk hN) hdg ?_
  rw [nI_clamp (by omega), hv]
  exact kk
theorem lw_lald (hexec : p.tables.exec = Jvm.exec) (hb : c.code = cc) (hK : sg_K D Y s) (hP : sg_P D σ H) {n N q : Nat} {f : Nat → Int64} (h : σ n = some (q, .inl (Y 1, N, .inr (.inl f)))) {k : Nat} (hk : k < N) {v : Int64} (hv : f k = v) (hdg : decode cc pc = .ok (.laload, 1)) (kk : W p l e R s m args below meth c H locs cells slots Q (F0 m (pc + 1) ls (.long v :: rest))) (hN : N < 2 ^ 31 := by decide) : W p l e R s m args below meth c H locs cells slots Q (F0 m pc ls (.int (nI k) :: .ref q :: rest)) := by
  refine va_lald hexec hb hK (sg_one hP h) 0 1 rfl rfl (vp_in_nI hk hN) hdg ?_
  rw [nI_clamp (by omega), hv]
  exact kk
theorem lw_iast (hexec : p.tables.exec = Jvm.exec) (hb : c.code = cc) (hK : sg_K D Y s) (hP : sg_P D σ H) (hD : sg_D A σ) (hS : va_S A H0 H locs) {n N q : Nat} {f : Nat → Int32} (h : σ n = some (q, .inl (Y 0, N, .inl f))) {k : Nat} {x : Int32} (hk : k < N) (hdg : decode cc pc = .ok (.iastore, 1))
    (kk : ∀ (H1 : Heap) (locs1 : List Loc), sg_P D (sg_u σ n q (.inl (Y 0, N, .inl (upd f k x)))) H1 → sg_D A (sg_u σ n q (.inl (Y 0, N, .inl (upd f k x)))) → va_S A H0 H1 locs1 → W p l e R s m args below meth c H1 locs1 cells slots Q (F0 m (pc + 1) ls rest)) (hN : N < 2 ^ 31 := by decide) : W p l e R s m args below meth c H locs cells slots Q (F0 m pc ls (.int x :: .int (nI k) :: .ref q :: rest)) := by
  refine sg_iast hexec hb hK hP hD hS h (vp_in_nI hk hN) hdg (fun H1 locs1 h1 h2 h3 => ?_)
  rw [nI_clamp (by omega)] at h1 h2
  exact kk H1 locs1 h1 h2 h3
theorem lw_last (hexec : p.tables.exec = Jvm.exec) (hb : c.code = cc) (hK : sg_K D Y s) (hP : sg_P D σ H) (hD : sg_D A σ) (hS : va_S A H0 H locs) {n N q : Nat} {f : Nat → Int64} (h : σ n = some (q, .inl (Y 1, N, .inr (.inl f)))) {k : Nat} {x : Int64} (hk : k < N) (hdg : decode cc pc = .ok (.lastore, 1))
    (kk : ∀ (H1 : Heap) (locs1 : List Loc), sg_P D (sg_u σ n q (.inl (Y 1, N, .inr (.inl (vp_updL f k x))))) H1 → sg_D A (sg_u σ n q (.inl (Y 1, N, .inr (.inl (vp_updL f k x))))) → va_S A H0 H1 locs1 → W p l e R s m args below meth c H1 locs1 cells slots Q (F0 m (pc + 1) ls rest)) (hN : N < 2 ^ 31 := by decide) : W p l e R s m args below meth c H locs cells slots Q (F0 m pc ls (.long x :: .int (nI k) :: .ref q :: rest)) := by
  refine sg_last hexec hb hK hP hD hS h (vp_in_nI hk hN) hdg (fun H1 locs1 h1 h2 h3 => ?_)
  rw [nI_clamp (by omega)] at h1 h2
  exact kk H1 locs1 h1 h2 h3
theorem lw_i2l (hexec : p.tables.exec = Jvm.exec) (hb : c.code = cc) (hdg : decode cc pc = .ok (.i2l, 1)) (ha : a < 2 ^ 31) (k : W p l e R s m args below meth c H locs cells slots Q (F0 m (pc + 1) ls (.long (lN a) :: rest))) : W p l e R s m args below meth c H locs cells slots Q (F0 m pc ls (.int (nI a) :: rest)) := lv_i2l hexec hb hdg rfl (by rw [nI_l ha]; exact k)
theorem lw_lmul (hexec : p.tables.exec = Jvm.exec) (hb : c.code = cc) (hdg : decode cc pc = .ok (.lmul, 1)) (k : W p l e R s m args below meth c H locs cells slots Q (F0 m (pc + 1) ls (.long (lN (a * b)) :: rest))) : W p l e R s m args below meth c H locs cells slots Q (F0 m pc ls (.long (lN b) :: .long (lN a) :: rest)) := lv_lmul hexec hb hdg (by rw [lN_mul]; exact k)
theorem lw_ladd (hexec : p.tables.exec = Jvm.exec) (hb : c.code = cc) (hdg : decode cc pc = .ok (.ladd, 1)) (k : W p l e R s m args below meth c H locs cells slots Q (F0 m (pc + 1) ls (.long (lN (a + b)) :: rest))) : W p l e R s m args below meth c H locs cells slots Q (F0 m pc ls (.long (lN b) :: .long (lN a) :: rest)) := lv_ladd hexec hb hdg (by rw [lN_add]; exact k)
/-- a natural int on top gets another name -/
theorem lw_nat {x : Int32} (hx : x = nI a) (k : W p l e R s m args below meth c H locs cells slots Q (F0 m pc ls (.int (nI a) :: rest))) : W p l e R s m args below meth c H locs cells slots Q (F0 m pc ls (.int x :: rest)) := hx ▸ k
theorem lw_int {x y : Int32} (hx : x = y) (k : W p l e R s m args below meth c H locs cells slots Q (F0 m pc ls (.int y :: rest))) : W p l e R s m args below meth c H locs cells slots Q (F0 m pc ls (.int x :: rest)) := hx ▸ k
theorem lw_long {x y : Int64} (hx : x = y) (k : W p l e R s m args below meth c H locs cells slots Q (F0 m pc ls (.long y :: rest))) : W p l e R s m args below meth c H locs cells slots Q (F0 m pc ls (.long x :: rest)) := hx ▸ k
end LWR
/-! 'some': a number below n -/
theorem ushr2 (x : Int32) : ∃ w : Nat, w < 2 ^ 31 ∧ (x.toUInt32 >>> ((2 : Int32).toUInt32 &&& Int32.toUInt32 31)).toInt32 = nI w := by
  refine ⟨x.toBitVec.toNat / 2 ^ 2, ?_, ?_⟩
  · have := x.toBitVec.isLt
    omega
  · have h := pk_ushr x 2 2 (by decide)
    have h2 : (nI (x.toBitVec.toNat / 2 ^ 2)).toBitVec.toNat = x.toBitVec.toNat / 2 ^ 2 := pk_tn (by have := x.toBitVec.isLt; omega)
    exact Int32.toBitVec_inj.mp (BitVec.eq_of_toNat_eq (h.trans h2.symm))
theorem c_L_some (l : Launch) (D : va_G) (Y : Nat → ClassId) (σ : sg_W) (sz : Nat) (v : Int32) (n : Nat) (hn : 0 < n) (hn2 : n < 2 ^ 31) : Met l yL_some wsL_some ({ frames := 0, cells := 0, slots := 0, locals := 0 } : Room) (va_Pc [.int v, .int (nI n)] (sg_U D Y σ sz)) (va_Qi (fun r σ' => ∃ w : Nat, w < n ∧ r = nI w ∧ σ = σ') (sg_B D σ sz) (sg_A σ sz)) 0 0 (sg_A σ sz) := by
  refine sg_met (cc := cL_some) (maxL := 2) (ret := (some .int)) (by decide) rfl (Nat.le_of_ble_eq_true rfl) ?_
  intro p e s m below meth c ls hx hb hml hr hown hts hlocks hnm hP hK hD hN hX hA hS hsz hl
  have hl : lv_has ls 2 [(0, .int v), (1, .int (nI n))] := hl
  obtain ⟨w, hw, ew⟩ := ushr2 v
  refine lv_iload_n hx hb dL_some_0 rfl (lv_at hl 0 rfl) ?_
  refine lv_iconst (v := 2) hx hb dL_some_1 (by decide) ?_
  refine lv_iushr (v := nI w) hx hb dL_some_2 ew ?_
  refine lv_iload_n hx hb dL_some_3 rfl (lv_at hl 1 rfl) ?_
  refine lw_irem hx hb dL_some_4 hw hn hn2 ?_
  exact sg_iret hx hb hr rfl hlocks hP hD hS (Nat.le_of_ble_eq_true rfl) (Nat.le_of_ble_eq_true rfl) dL_some_5 ⟨w % n, Nat.mod_lt _ hn, rfl, rfl⟩
end
section
/-! THE LAW'S READERS: what counts in a year, what is early, what is pay of a share -/
def tmL (G : ZG) (q : Nat) : Int64 := (gI G 3 q).toInt64 * (gI G 1 (tN (gI G 6 q))).toInt64
def cntL (G : ZG) (j y : Nat) : Nat → Int64
  | 0 => 0
  | k + 1 => cntL G j y k + (if (6 * k + 5) / 12 = y then tmL G (10 * j + k) else 0)
def frng (G : ZG) : Prop := ∀ q, q < 40 → ∃ o : Nat, o < 60 ∧ gI G 6 q = nI o
def eLb (t o q : Nat) : Int32 := if t - 1 < o + 24 ∨ t - 1 < 6 * (q % 10) + 5 + 12 then nI 1 else nI 0
def pqL (t o q w1 w2 w3 w4 : Nat) : Int32 := if t - 1 < o + 24 ∨ t - 1 < 6 * (q % 10) + 5 + 12 then nI w1 - nI w2 else if nI w4 - nI w2 ≤ 0 then nI 0 else if nI (15 * w3 / 100) ≤ nI w4 - nI w2 then nI (15 * w3 / 100) else nI w4 - nI w2
set_option maxHeartbeats 4000000 in
set_option maxRecDepth 100000 in
theorem c_L_counted (l : Launch) (D : va_G) (Y : Nat → ClassId) (σ : sg_W) (sz : Nat) (ad : Nat → Nat) (G : ZG) (j y : Nat) (hj : j < 4) (hy : y < 2 ^ 31) (hG : ZF Y ad σ G σ) (hf : frng G) : Met l yL_counted wsL_counted ({ frames := 0, cells := 0, slots := 0, locals := 0 } : Room) (va_Pc [.ref (ad 1), .ref (ad 3), .ref (ad 6), .int (nI j), .int (nI y)] (sg_U D Y σ sz)) (va_Ql (fun r σ' => r = cntL G j y 10 ∧ σ = σ') (sg_B D σ sz) (sg_A σ sz)) 0 0 (sg_A σ sz) := by
  refine sg_met (cc := cL_counted) (maxL := 8) (ret := (some .long)) (by decide) rfl (Nat.le_of_ble_eq_true rfl) ?_
  intro p e s m below meth cd9 ls hx hb hml hr hown hts hlocks hnm hP hK hD hN hX hA hS hsz hl
  have hl : lv_has ls 8 [(0, .ref (ad 1)), (1, .ref (ad 3)), (2, .ref (ad 6)), (3, .int (nI j)), (4, .int (nI y))] := hl
  refine lv_lconst (v := 0) hx hb dL_counted_0 (by decide) ?_
  refine lv_lstore (lv' := [(5, .long 0), (0, .ref (ad 1)), (1, .ref (ad 3)), (2, .ref (ad 6)), (3, .int (nI j)), (4, .int (nI y))]) hx hb dL_counted_1 hl (by decide) rfl (fun ls hl => ?_)
  refine lv_iconst (v := nI 0) hx hb dL_counted_3 (by decide) ?_
  refine lv_istore (lv' := [(7, .int (nI 0)), (5, .long 0), (0, .ref (ad 1)), (1, .ref (ad 3)), (2, .ref (ad 6)), (3, .int (nI j)), (4, .int (nI y))]) hx hb dL_counted_4 hl (by decide) rfl (fun ls hl => ?_)
  refine sg_loop (D := D) (H0 := s.heap) (T := Nat) 6 8 (fun n1 q σ' c' s' => n1 + q = 10 ∧ σ = σ' ∧ c' = 0 ∧ s' = 0) (fun q => [(7, .int (nI q)), (5, .long (cntL G j y q)), (0, .ref (ad 1)), (1, .ref (ad 3)), (2, .ref (ad 6)), (3, .int (nI j)), (4, .int (nI y))]) ?_ (10) (0) _ _ _ _ _ _ (⟨rfl, rfl, rfl, rfl⟩) hP hD hS (lv_sub hl [0, 1, 2, 3, 4, 5, 6] rfl)
  intro n1 q σ' cells slots H locs ls ih hI hP hD hS hl
  obtain ⟨hn, rfl, rfl, rfl⟩ := hI
  have hl : lv_has ls 8 [(7, .int (nI q)), (5, .long (cntL G j y q)), (0, .ref (ad 1)), (1, .ref (ad 3)), (2, .ref (ad 6)), (3, .int (nI j)), (4, .int (nI y))] := hl
  refine lv_iload hx hb dL_counted_6 (lv_at hl 0 rfl) ?_
  refine lv_bipush (v := nI 10) hx hb dL_counted_8 (by decide) ?_
  refine lw_icmp_ge (tgt := 66) (a := q) (b := 10) hx hb dL_counted_10 (by decide) (by omega) (by omega) (fun c10 => ?_) (fun c10 => ?_)
  · obtain rfl : q = 10 := by omega
    refine lv_lload hx hb dL_counted_66 (lv_at hl 1 rfl) ?_
    exact sg_lret hx hb hr hlocks hP hD hS (Nat.le_of_ble_eq_true rfl) (Nat.le_of_ble_eq_true rfl) dL_counted_68 ⟨rfl, rfl⟩
  · obtain ⟨o, ho, eo⟩ := hf (10 * j + q) (by omega)
    refine lv_lload hx hb dL_counted_13 (lv_at hl 1 rfl) ?_
    refine lv_bipush (v := nI 6) hx hb dL_counted_15 (by decide) ?_
    refine lv_iload hx hb dL_counted_17 (lv_at hl 0 rfl) ?_
    refine lw_imul (a := 6) (b := q) hx hb dL_counted_19 ?_
    refine lv_iconst (v := nI 5) hx hb dL_counted_20 (by decide) ?_
    refine lw_iadd (a := 6 * q) (b := 5) hx hb dL_counted_21 ?_
    refine lv_bipush (v := nI 12) hx hb dL_counted_22 (by decide) ?_
    refine lw_idiv (a := (6 * q) + 5) (b := 12) hx hb dL_counted_24 (by omega) (by decide) (by decide) ?_
    refine lv_iload hx hb dL_counted_25 (lv_at hl 6 rfl) ?_
    refine lw_icmp_ne (tgt := 56) (a := ((6 * q) + 5) / 12) (b := y) hx hb dL_counted_27 (by decide) (by omega) (by omega) (fun c27 => ?_) (fun c27 => ?_)
    · skip
      refine lv_lconst (v := 0) hx hb dL_counted_56 (by decide) ?_
      refine lv_ladd hx hb dL_counted_57 ?_
      refine lw_long (y := cntL G j y (q + 1)) (by rw [cntL, if_neg c27]) ?_
      refine lv_lstore (lv' := [(5, .long (cntL G j y (q + 1))), (7, .int (nI q)), (0, .ref (ad 1)), (1, .ref (ad 3)), (2, .ref (ad 6)), (3, .int (nI j)), (4, .int (nI y))]) hx hb dL_counted_58 hl (by decide) rfl (fun ls hl => ?_)
      refine lv_iinc (v := nI (q + 1)) (lv' := [(7, .int (nI (q + 1))), (5, .long (cntL G j y (q + 1))), (0, .ref (ad 1)), (1, .ref (ad 3)), (2, .ref (ad 6)), (3, .int (nI j)), (4, .int (nI y))]) hx hb dL_counted_60 hl (k := 1) rfl (nI_1 _) (by decide) rfl (fun ls hl => ?_)
      refine lv_goto (tgt := 6) hx hb dL_counted_63 (by decide) ?_
      exact ih (n1 - 1) (q + 1) _ _ _ _ _ _ (by omega) ⟨by omega, rfl, rfl, rfl⟩ hP hD hS (lv_sub hl [0, 1, 2, 3, 4, 5, 6] rfl)
    · skip
      refine lv_aload_n hx hb dL_counted_30 rfl (lv_at hl 3 rfl) ?_
      refine lv_bipush (v := nI 10) hx hb dL_counted_31 (by decide) ?_
      refine lv_iload_n hx hb dL_counted_33 rfl (lv_at hl 5 rfl) ?_
      refine lw_imul (a := 10) (b := j) hx hb dL_counted_34 ?_
      refine lv_iload hx hb dL_counted_35 (lv_at hl 0 rfl) ?_
      refine lw_iadd (a := 10 * j) (b := q) hx hb dL_counted_37 ?_
      refine lw_iald hx hb hK hP hG.a3 (k := (10 * j) + q) (by omega) (v := gI G 3 ((10 * j) + q)) (rfl) dL_counted_38 ?_
      refine lv_i2l hx hb dL_counted_39 rfl ?_
      refine lv_aload_n hx hb dL_counted_40 rfl (lv_at hl 2 rfl) ?_
      refine lv_aload_n hx hb dL_counted_41 rfl (lv_at hl 4 rfl) ?_
      refine lv_bipush (v := nI 10) hx hb dL_counted_42 (by decide) ?_
      refine lv_iload_n hx hb dL_counted_44 rfl (lv_at hl 5 rfl) ?_
      refine lw_imul (a := 10) (b := j) hx hb dL_counted_45 ?_
      refine lv_iload hx hb dL_counted_46 (lv_at hl 0 rfl) ?_
      refine lw_iadd (a := 10 * j) (b := q) hx hb dL_counted_48 ?_
      refine lw_iald hx hb hK hP hG.a6 (k := (10 * j) + q) (by omega) (v := nI o) (eo) dL_counted_49 ?_
      refine lw_iald hx hb hK hP hG.a1 (k := o) (by omega) (v := gI G 1 o) (rfl) dL_counted_50 ?_
      refine lv_i2l hx hb dL_counted_51 rfl ?_
      refine lv_lmul hx hb dL_counted_52 ?_
      refine lv_goto (tgt := 57) hx hb dL_counted_53 (by decide) ?_
      refine lv_ladd hx hb dL_counted_57 ?_
      refine lw_long (y := cntL G j y (q + 1)) (by rw [cntL, if_pos c27, tmL, eo, tN, nI_clamp (by omega)]) ?_
      refine lv_lstore (lv' := [(5, .long (cntL G j y (q + 1))), (7, .int (nI q)), (0, .ref (ad 1)), (1, .ref (ad 3)), (2, .ref (ad 6)), (3, .int (nI j)), (4, .int (nI y))]) hx hb dL_counted_58 hl (by decide) rfl (fun ls hl => ?_)
      refine lv_iinc (v := nI (q + 1)) (lv' := [(7, .int (nI (q + 1))), (5, .long (cntL G j y (q + 1))), (0, .ref (ad 1)), (1, .ref (ad 3)), (2, .ref (ad 6)), (3, .int (nI j)), (4, .int (nI y))]) hx hb dL_counted_60 hl (k := 1) rfl (nI_1 _) (by decide) rfl (fun ls hl => ?_)
      refine lv_goto (tgt := 6) hx hb dL_counted_63 (by decide) ?_
      exact ih (n1 - 1) (q + 1) _ _ _ _ _ _ (by omega) ⟨by omega, rfl, rfl, rfl⟩ hP hD hS (lv_sub hl [0, 1, 2, 3, 4, 5, 6] rfl)

set_option maxHeartbeats 4000000 in
set_option maxRecDepth 100000 in
theorem c_L_isEarly (l : Launch) (D : va_G) (Y : Nat → ClassId) (σ : sg_W) (sz : Nat) (ad : Nat → Nat) (G : ZG) (t o q : Nat) (h0 : 0 < t) (ht : t ≤ 60) (ho : o < 60) (hq : q < 40) (e0 : gI G 0 0 = nI t) (eo : gI G 6 q = nI o) (hG : ZF Y ad σ G σ) : Met l yL_isEarly wsL_isEarly ({ frames := 0, cells := 0, slots := 0, locals := 0 } : Room) (va_Pc [.ref (ad 0), .ref (ad 6), .int (nI q)] (sg_U D Y σ sz)) (va_Qi (fun r σ' => r = eLb t o q ∧ σ = σ') (sg_B D σ sz) (sg_A σ sz)) 0 0 (sg_A σ sz) := by
  refine sg_met (cc := cL_isEarly) (maxL := 4) (ret := (some .boolean)) (by decide) rfl (Nat.le_of_ble_eq_true rfl) ?_
  intro p e s m below meth cd9 ls hx hb hml hr hown hts hlocks hnm hP hK hD hN hX hA hS hsz hl
  have hl : lv_has ls 4 [(0, .ref (ad 0)), (1, .ref (ad 6)), (2, .int (nI q))] := hl
  refine lv_aload_n hx hb dL_isEarly_0 rfl (lv_at hl 0 rfl) ?_
  refine lv_iconst (v := nI 0) hx hb dL_isEarly_1 (by decide) ?_
  refine lw_iald hx hb hK hP hG.a0 (k := 0) (by omega) (v := nI t) (e0) dL_isEarly_2 ?_
  refine lv_iconst (v := nI 1) hx hb dL_isEarly_3 (by decide) ?_
  refine lw_isub (a := t) (b := 1) hx hb dL_isEarly_4 (by omega) ?_
  refine lv_istore_n (lv' := [(3, .int (nI (t - 1))), (0, .ref (ad 0)), (1, .ref (ad 6)), (2, .int (nI q))]) hx hb dL_isEarly_5 rfl hl (by decide) rfl (fun ls hl => ?_)
  refine lv_iload_n hx hb dL_isEarly_6 rfl (lv_at hl 0 rfl) ?_
  refine lv_aload_n hx hb dL_isEarly_7 rfl (lv_at hl 2 rfl) ?_
  refine lv_iload_n hx hb dL_isEarly_8 rfl (lv_at hl 3 rfl) ?_
  refine lw_iald hx hb hK hP hG.a6 (k := q) (by omega) (v := nI o) (eo) dL_isEarly_9 ?_
  refine lv_bipush (v := nI 24) hx hb dL_isEarly_10 (by decide) ?_
  refine lw_iadd (a := o) (b := 24) hx hb dL_isEarly_12 ?_
  refine lw_icmp_lt (tgt := 32) (a := t - 1) (b := o + 24) hx hb dL_isEarly_13 (by decide) (by omega) (by omega) (fun c13 => ?_) (fun c13 => ?_)
  · have hE : eLb t o q = nI 1 := if_pos (Or.inl c13)
    refine lv_iconst (v := nI 1) hx hb dL_isEarly_32 (by decide) ?_
    refine lv_goto (tgt := 37) hx hb dL_isEarly_33 (by decide) ?_
    exact sg_iret hx hb hr rfl hlocks hP hD hS (Nat.le_of_ble_eq_true rfl) (Nat.le_of_ble_eq_true rfl) dL_isEarly_37 (⟨hE.symm, rfl⟩)
  · skip
    refine lv_iload_n hx hb dL_isEarly_16 rfl (lv_at hl 0 rfl) ?_
    refine lv_bipush (v := nI 6) hx hb dL_isEarly_17 (by decide) ?_
    refine lv_iload_n hx hb dL_isEarly_19 rfl (lv_at hl 3 rfl) ?_
    refine lv_bipush (v := nI 10) hx hb dL_isEarly_20 (by decide) ?_
    refine lw_irem (a := q) (b := 10) hx hb dL_isEarly_22 (by omega) (by decide) (by decide) ?_
    refine lw_imul (a := 6) (b := q % 10) hx hb dL_isEarly_23 ?_
    refine lv_iconst (v := nI 5) hx hb dL_isEarly_24 (by decide) ?_
    refine lw_iadd (a := 6 * (q % 10)) (b := 5) hx hb dL_isEarly_25 ?_
    refine lv_bipush (v := nI 12) hx hb dL_isEarly_26 (by decide) ?_
    refine lw_iadd (a := (6 * (q % 10)) + 5) (b := 12) hx hb dL_isEarly_28 ?_
    refine lw_icmp_ge (tgt := 36) (a := t - 1) (b := ((6 * (q % 10)) + 5) + 12) hx hb dL_isEarly_29 (by decide) (by omega) (by omega) (fun c29 => ?_) (fun c29 => ?_)
    · have hE : eLb t o q = nI 0 := if_neg (by omega)
      refine lv_iconst (v := nI 0) hx hb dL_isEarly_36 (by decide) ?_
      exact sg_iret hx hb hr rfl hlocks hP hD hS (Nat.le_of_ble_eq_true rfl) (Nat.le_of_ble_eq_true rfl) dL_isEarly_37 (⟨hE.symm, rfl⟩)
    · have hE : eLb t o q = nI 1 := if_pos (Or.inr (by omega))
      refine lv_iconst (v := nI 1) hx hb dL_isEarly_32 (by decide) ?_
      refine lv_goto (tgt := 37) hx hb dL_isEarly_33 (by decide) ?_
      exact sg_iret hx hb hr rfl hlocks hP hD hS (Nat.le_of_ble_eq_true rfl) (Nat.le_of_ble_eq_true rfl) dL_isEarly_37 (⟨hE.symm, rfl⟩)

set_option maxHeartbeats 4000000 in
set_option maxRecDepth 100000 in
theorem c_L_payEach (l : Launch) (D : va_G) (Y : Nat → ClassId) (σ : sg_W) (sz : Nat) (ad : Nat → Nat) (G : ZG) (t o q w1 w2 w3 w4 : Nat) (h0 : 0 < t) (ht : t ≤ 60) (ho : o < 60) (hq : q < 40) (e0 : gI G 0 0 = nI t) (eo : gI G 6 q = nI o) (hw : w1 ≤ 100000 ∧ w2 ≤ 100000 ∧ w3 ≤ 100000 ∧ w4 ≤ 100000) (e1 : gI G 1 (6 * (q % 10) + 5) = nI w1) (e2 : gI G 5 q = nI w2) (e3 : gI G 1 o = nI w3) (e4 : gI G 1 (t - 1) = nI w4) (hG : ZF Y ad σ G σ) : Met l yL_payEach wsL_payEach ({ frames := 1, cells := 0, slots := 0, locals := 23 } : Room) (va_Pc [.ref (ad 0), .ref (ad 1), .ref (ad 5), .ref (ad 6), .int (nI q)] (sg_U D Y σ sz)) (va_Qi (fun r σ' => r = pqL t o q w1 w2 w3 w4 ∧ σ = σ') (sg_B D σ sz) (sg_A σ sz)) 0 0 (sg_A σ sz) := by
  refine sg_met (cc := cL_payEach) (maxL := 7) (ret := (some .int)) (by decide) rfl (Nat.le_of_ble_eq_true rfl) ?_
  intro p e s m below meth cd9 ls hx hb hml hr hown hts hlocks hnm hP hK hD hN hX hA hS hsz hl
  have hl : lv_has ls 7 [(0, .ref (ad 0)), (1, .ref (ad 1)), (2, .ref (ad 5)), (3, .ref (ad 6)), (4, .int (nI q))] := hl
  refine lv_aload_n hx hb dL_payEach_0 rfl (lv_at hl 1 rfl) ?_
  refine lv_aload_n hx hb dL_payEach_1 rfl (lv_at hl 0 rfl) ?_
  refine lv_iconst (v := nI 0) hx hb dL_payEach_2 (by decide) ?_
  refine lw_iald hx hb hK hP hG.a0 (k := 0) (by omega) (v := nI t) (e0) dL_payEach_3 ?_
  refine lv_iconst (v := nI 1) hx hb dL_payEach_4 (by decide) ?_
  refine lw_isub (a := t) (b := 1) hx hb dL_payEach_5 (by omega) ?_
  refine lw_iald hx hb hK hP hG.a1 (k := t - 1) (by omega) (v := nI w4) (e4) dL_payEach_6 ?_
  refine lv_aload_n hx hb dL_payEach_7 rfl (lv_at hl 2 rfl) ?_
  refine lv_iload hx hb dL_payEach_8 (lv_at hl 4 rfl) ?_
  refine lw_iald hx hb hK hP hG.a5 (k := q) (by omega) (v := nI w2) (e2) dL_payEach_10 ?_
  refine lv_isub hx hb dL_payEach_11 ?_
  refine lv_istore (lv' := [(5, .int ((nI w4) - (nI w2))), (0, .ref (ad 0)), (1, .ref (ad 1)), (2, .ref (ad 5)), (3, .ref (ad 6)), (4, .int (nI q))]) hx hb dL_payEach_12 hl (by decide) rfl (fun ls hl => ?_)
  refine lv_aload_n hx hb dL_payEach_14 rfl (lv_at hl 1 rfl) ?_
  refine lv_aload_n hx hb dL_payEach_15 rfl (lv_at hl 4 rfl) ?_
  refine lv_iload hx hb dL_payEach_16 (lv_at hl 5 rfl) ?_
  refine sg_calli hD hS hA (va_runS (As := [.ref (ad 0), .ref (ad 6), .int (nI q)]) (rest := []) ⟨hx, hb, hml, hown, hts⟩ (c_L_isEarly l D Y _ _ ad G t o q h0 ht ho hq e0 eo hG) (va_cwS 3 hts gL_payEach_L_isEarly rfl rfl rfl (by decide +kernel) ⟨(Nat.le_of_ble_eq_true rfl), (Nat.le_of_ble_eq_true rfl)⟩) (sg_preS hK hP hD hN hX hS hA) rfl rfl hl.1 rfl (lv_room (Nat.le_of_ble_eq_true rfl)) dL_payEach_18 ⟨(Nat.le_of_ble_eq_true rfl), (Nat.le_of_ble_eq_true rfl)⟩) (fun r9 σ' H locs hw9 hP hD hS => ?_)
  obtain ⟨rfl, rfl⟩ := hw9
  refine lv_if_eq (tgt := 42) hx hb dL_payEach_21 (by decide) (fun c21 => ?_) (fun c21 => ?_)
  · have hE : ¬ (t - 1 < o + 24 ∨ t - 1 < 6 * (q % 10) + 5 + 12) := fun z => absurd ((if_pos z).symm.trans c21) (by decide)
    refine lv_bipush (v := nI 15) hx hb dL_payEach_42 (by decide) ?_
    refine lv_aload_n hx hb dL_payEach_44 rfl (lv_at hl 2 rfl) ?_
    refine lv_aload_n hx hb dL_payEach_45 rfl (lv_at hl 4 rfl) ?_
    refine lv_iload hx hb dL_payEach_46 (lv_at hl 5 rfl) ?_
    refine lw_iald hx hb hK hP hG.a6 (k := q) (by omega) (v := nI o) (eo) dL_payEach_48 ?_
    refine lw_iald hx hb hK hP hG.a1 (k := o) (by omega) (v := nI w3) (e3) dL_payEach_49 ?_
    refine lw_imul (a := 15) (b := w3) hx hb dL_payEach_50 ?_
    refine lv_bipush (v := nI 100) hx hb dL_payEach_51 (by decide) ?_
    refine lw_idiv (a := 15 * w3) (b := 100) hx hb dL_payEach_53 (by omega) (by decide) (by decide) ?_
    refine lv_istore (lv' := [(6, .int (nI ((15 * w3) / 100))), (5, .int ((nI w4) - (nI w2))), (0, .ref (ad 0)), (1, .ref (ad 1)), (2, .ref (ad 5)), (3, .ref (ad 6)), (4, .int (nI q))]) hx hb dL_payEach_54 hl (by decide) rfl (fun ls hl => ?_)
    refine lv_iload hx hb dL_payEach_56 (lv_at hl 1 rfl) ?_
    refine lv_if_gt (tgt := 65) hx hb dL_payEach_58 (by decide) (fun c58 => ?_) (fun c58 => ?_)
    · have hF : ¬ nI w4 - nI w2 ≤ 0 := by rw [Int32.le_iff_toInt_le]; rw [Int32.lt_iff_toInt_lt] at c58; omega
      refine lv_iload hx hb dL_payEach_65 (lv_at hl 1 rfl) ?_
      refine lv_iload hx hb dL_payEach_67 (lv_at hl 0 rfl) ?_
      refine lv_icmp_ge (tgt := 77) hx hb dL_payEach_69 (by decide) (fun c69 => ?_) (fun c69 => ?_)
      · skip
        refine lv_iload hx hb dL_payEach_77 (lv_at hl 0 rfl) ?_
        exact sg_iret hx hb hr rfl hlocks hP hD hS (Nat.le_of_ble_eq_true rfl) (Nat.le_of_ble_eq_true rfl) dL_payEach_79 (⟨by rw [pqL, if_neg hE, if_neg hF, if_pos c69], rfl⟩)
      · skip
        refine lv_iload hx hb dL_payEach_72 (lv_at hl 1 rfl) ?_
        refine lv_goto (tgt := 79) hx hb dL_payEach_74 (by decide) ?_
        exact sg_iret hx hb hr rfl hlocks hP hD hS (Nat.le_of_ble_eq_true rfl) (Nat.le_of_ble_eq_true rfl) dL_payEach_79 (⟨by rw [pqL, if_neg hE, if_neg hF, if_neg c69], rfl⟩)
    · have hF : nI w4 - nI w2 ≤ 0 := by rw [Int32.le_iff_toInt_le]; rw [Int32.lt_iff_toInt_lt] at c58; omega
      refine lv_iconst (v := nI 0) hx hb dL_payEach_61 (by decide) ?_
      refine lv_goto (tgt := 79) hx hb dL_payEach_62 (by decide) ?_
      exact sg_iret hx hb hr rfl hlocks hP hD hS (Nat.le_of_ble_eq_true rfl) (Nat.le_of_ble_eq_true rfl) dL_payEach_79 (⟨by rw [pqL, if_neg hE, if_pos hF], rfl⟩)
  · have hE : t - 1 < o + 24 ∨ t - 1 < 6 * (q % 10) + 5 + 12 := Decidable.byContradiction (fun z => c21 (if_neg z))
    refine lv_aload_n hx hb dL_payEach_24 rfl (lv_at hl 2 rfl) ?_
    refine lv_bipush (v := nI 6) hx hb dL_payEach_25 (by decide) ?_
    refine lv_iload hx hb dL_payEach_27 (lv_at hl 5 rfl) ?_
    refine lv_bipush (v := nI 10) hx hb dL_payEach_29 (by decide) ?_
    refine lw_irem (a := q) (b := 10) hx hb dL_payEach_31 (by omega) (by decide) (by decide) ?_
    refine lw_imul (a := 6) (b := q % 10) hx hb dL_payEach_32 ?_
    refine lv_iconst (v := nI 5) hx hb dL_payEach_33 (by decide) ?_
    refine lw_iadd (a := 6 * (q % 10)) (b := 5) hx hb dL_payEach_34 ?_
    refine lw_iald hx hb hK hP hG.a1 (k := (6 * (q % 10)) + 5) (by omega) (v := nI w1) (e1) dL_payEach_35 ?_
    refine lv_aload_n hx hb dL_payEach_36 rfl (lv_at hl 3 rfl) ?_
    refine lv_iload hx hb dL_payEach_37 (lv_at hl 5 rfl) ?_
    refine lw_iald hx hb hK hP hG.a5 (k := q) (by omega) (v := nI w2) (e2) dL_payEach_39 ?_
    refine lv_isub hx hb dL_payEach_40 ?_
    exact sg_iret hx hb hr rfl hlocks hP hD hS (Nat.le_of_ble_eq_true rfl) (Nat.le_of_ble_eq_true rfl) dL_payEach_41 (⟨by rw [pqL, if_pos hE], rfl⟩)
end
