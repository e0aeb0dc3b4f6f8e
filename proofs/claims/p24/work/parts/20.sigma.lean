/-! WORLDS BY NAMES. A cell has a name (a number), an address and a content; a world is a function from names. Every method's contract takes the whole world and tells the whole world behind it: nothing is cut out before a call, nothing joined behind it. -/
abbrev sg_W : Type := Nat → Option (Nat × va_E)
def sg_P (D : va_G) (σ : sg_W) (H : Heap) : Prop := ∀ (n : Nat) (q : Nat × va_E), σ n = some q → va_at D vwCl q H
def sg_D (A : Nat → Prop) (σ : sg_W) : Prop := (∀ (i j : Nat) (p q : Nat × va_E), σ i = some p → σ j = some q → p.1 = q.1 → i = j) ∧ ∀ (k : Nat) (q : Nat × va_E), σ k = some q → A q.1
def sg_A (σ : sg_W) (sz : Nat) : Nat → Prop := fun a => (∃ (n : Nat) (e : va_E), σ n = some (a, e)) ∨ sz ≤ a
def sg_u (σ : sg_W) (n a : Nat) (e : va_E) : sg_W := fun j => if j = n then some (a, e) else σ j
theorem sg_ue {σ : sg_W} {n a : Nat} {e : va_E} : sg_u σ n a e n = some (a, e) := if_pos rfl
theorem sg_un {σ : sg_W} {n a j : Nat} {e : va_E} (h : j ≠ n) : sg_u σ n a e j = σ j := if_neg h
theorem sg_one {D : va_G} {σ : sg_W} {H : Heap} {n : Nat} {q : Nat × va_E} (hP : sg_P D σ H) (h : σ n = some q) : va_P D vwCl [q] H := by
  intro k x hx
  have hz : k < 1 := (List.getElem?_eq_some_iff.mp hx).1
  rw [show k = 0 by omega] at hx
  cases hx
  exact hP n q h
theorem sg_lt {D : va_G} {σ : sg_W} {H : Heap} {n : Nat} {q : Nat × va_E} (hP : sg_P D σ H) (h : σ n = some q) : q.1 < H.size := (hP n q h).lt
theorem sg_P.set {D : va_G} {σ : sg_W} {A : Nat → Prop} {H H1 : Heap} {n a : Nat} {e0 e : va_E} (hP : sg_P D σ H) (hD : sg_D A σ) (h : σ n = some (a, e0)) (he : va_at D vwCl (a, e) H1) (oq : ∀ q : Nat, q ≠ a → H1[q]? = H[q]?) : sg_P D (sg_u σ n a e) H1 := by
  intro k q hk
  by_cases hkn : k = n
  · subst hkn
    rw [sg_ue] at hk
    cases hk
    exact he
  · rw [sg_un hkn] at hk
    exact (hP k q hk).kept (oq q.1 (fun z => hkn (hD.1 k n q (a, e0) hk h z)))
theorem sg_D.set {A : Nat → Prop} {σ : sg_W} {n a : Nat} {e0 e : va_E} (hD : sg_D A σ) (h : σ n = some (a, e0)) : sg_D A (sg_u σ n a e) := by
  have key : ∀ (k : Nat) (q : Nat × va_E), sg_u σ n a e k = some q → ∃ q0, σ k = some q0 ∧ q0.1 = q.1 := by
    intro k q hk
    by_cases hkn : k = n
    · subst hkn
      rw [sg_ue] at hk
      cases hk
      exact ⟨_, h, rfl⟩
    · rw [sg_un hkn] at hk
      exact ⟨q, hk, rfl⟩
  refine ⟨fun i j x y hi hj hxy => ?_, fun k q hk => ?_⟩
  · obtain ⟨x0, h1, h2⟩ := key i x hi
    obtain ⟨y0, h3, h4⟩ := key j y hj
    exact hD.1 i j x0 y0 h1 h3 (h2.trans (hxy.trans h4.symm))
  · obtain ⟨q0, h1, h2⟩ := key k q hk
    rw [← h2]
    exact hD.2 k q0 h1
theorem sg_P.new {D : va_G} {σ : sg_W} {H H1 : Heap} {n : Nat} {e : va_E} (hP : sg_P D σ H) (he : va_at D vwCl (H.size, e) H1) (oq : ∀ q : Nat, q < H.size → H1[q]? = H[q]?) : sg_P D (sg_u σ n H.size e) H1 := by
  intro k q hk
  by_cases hkn : k = n
  · subst hkn
    rw [sg_ue] at hk
    cases hk
    exact he
  · rw [sg_un hkn] at hk
    exact (hP k q hk).kept (oq q.1 (hP k q hk).lt)
theorem sg_D.new {D : va_G} {A : Nat → Prop} {σ : sg_W} {H : Heap} {n : Nat} {e : va_E} (hD : sg_D A σ) (hP : sg_P D σ H) (hA : A H.size) : sg_D A (sg_u σ n H.size e) := by
  have key : ∀ (k : Nat) (q : Nat × va_E), sg_u σ n H.size e k = some q → (k = n ∧ q.1 = H.size) ∨ (σ k = some q ∧ q.1 < H.size) := by
    intro k q hk
    by_cases hkn : k = n
    · subst hkn
      rw [sg_ue] at hk
      cases hk
      exact Or.inl ⟨rfl, rfl⟩
    · rw [sg_un hkn] at hk
      exact Or.inr ⟨hk, (hP k q hk).lt⟩
  refine ⟨fun i j x y hi hj hxy => ?_, fun k q hk => ?_⟩
  · rcases key i x hi with ⟨h1, l1⟩ | ⟨h1, l1⟩ <;> rcases key j y hj with ⟨h2, l2⟩ | ⟨h2, l2⟩
    · rw [h1, h2]
    · omega
    · omega
    · exact hD.1 i j x y h1 h2 hxy
  · rcases key k q hk with ⟨-, l1⟩ | ⟨h1, -⟩
    · rw [l1]; exact hA
    · exact hD.2 k q h1
theorem sg_D.weaken {A B : Nat → Prop} {σ : sg_W} (h : sg_D A σ) (hAB : ∀ q, A q → B q) : sg_D B σ := ⟨h.1, fun k q hk => hAB _ (h.2 k q hk)⟩
theorem sg_D.self {A : Nat → Prop} {σ : sg_W} {sz : Nat} (h : sg_D A σ) : sg_D (sg_A σ sz) σ := ⟨h.1, fun k q hk => Or.inl ⟨k, q.2, hk⟩⟩
theorem sg_A.sub {A : Nat → Prop} {σ : sg_W} {sz : Nat} (h : sg_D A σ) (hA : ∀ q, sz ≤ q → A q) : ∀ q, sg_A σ sz q → A q := fun q hq => hq.elim (fun ⟨n, e, h1⟩ => h.2 n (q, e) h1) (hA q)
/-- the classes and array classes: Y 0 int[], 1 long[], 2 byte[] (none in use), 3 Lot[], 4 Member[] -/
abbrev sg_T (Y : Nat → ClassId) : List (ClassId × FieldType) := [(Y 0, .int), (Y 1, .long), (Y 2, .byte), (Y 3, .object RX0), (Y 4, .object RX1)]
abbrev sg_K (D : va_G) (Y : Nat → ClassId) (U : State) : Prop := va_K D vwCl (sg_T Y) U
/-- words of the tables that no list of words holds: nest mates' links, castables, arrays of references -/
abbrev sg_nf : List Cond := [.fieldLinkNest RX1 93 RX0 "month" "I" RX2, .fieldLinkNest RX2 114 RX0 "paidEach" "I" RX2, .fieldLinkNest RX2 109 RX0 "bought" "I" RX2, .fieldLinkNest RX1 96 RX0 "left" "I" RX2, .fieldLinkNest RX2 71 RX1 "rate" "I" RX2, .fieldLinkNest RX2 160 RX1 "hasLeft" "Z" RX2, .fieldLinkNest RX2 85 RX1 "money" "J" RX2, .fieldLinkNest RX2 126 RX1 "spent" "J" RX2, .fieldLinkNest RX2 129 RX1 "givenBack" "J" RX2, .fieldLinkNest RX2 132 RX1 "keptOfSlips" "J" RX2, .fieldLinkNest RX2 89 RX1 "offerMonth" "I" RX2, .fieldLinkNest RX2 92 RX1 "offerPrice" "I" RX2, .fieldLinkNest RX2 95 RX1 "resets" "I" RX2, .fieldLinkNest RX2 144 RX1 "payOfSales" "J" RX2, .fieldLinkNest RX2 147 RX1 "gainOfSales" "J" RX2]
abbrev sg_nm : List Cond := [.methodLinkNest RX2 105 yX1_lotOf RX2, .methodLinkNest RX2 122 yX1_countedIn RX2, .methodLinkNest RX2 140 yX1_sellOldest RX2, .methodLinkNest RX2 150 yX1_gainIfAllSold RX2, .methodLinkNest RX2 166 yX1_buyShares RX2, .methodLinkNest RX2 60 yX1_init RX2, .methodLinkNest RX2 77 yX1_takeSlip RX2, .methodLinkNest RX2 81 yX1_giveBack RX2, .methodLinkNest RX2 98 yX1_sharesHeld RX2, .methodLinkNest RX1 102 yX0_payEach RX2, .methodLinkNest RX1 109 yX0_gainEach RX2, .methodLinkNest RX1 112 yX0_isEarly RX2, .methodLinkNest RX1 65 yX0_init RX2, .methodLinkNest RX1 89 yX2_isPurchaseMonth RX2]
abbrev sg_nc : List Cond := [.castable "java/lang/IndexOutOfBoundsException" "java/lang/IndexOutOfBoundsException", .castable "java/lang/IllegalArgumentException" "java/lang/IllegalArgumentException", .castable "java/lang/IllegalStateException" "java/lang/IllegalStateException", .declares (Bundle.initS "java/lang/RuntimeException"), .declares (Bundle.initS "java/lang/Exception"), .declares (Bundle.initS "java/lang/Throwable")]
abbrev sg_ns : List (Nat × String) := [(119, "there is no such year"), (136, "the number of shares is out of its range"), (138, "the member has fewer shares"), (154, "there is no such member"), (156, "the rate is out of its range"), (158, "there is no such month"), (164, "the member has left"), (32, "the price is out of its range"), (39, "the last month has begun already"), (50, "the ceiling is out of its range"), (56, "no month has begun"), (58, "the plan is full"), (75, "the gross is out of its range")]
def sg_N (U : State) : Prop := (∀ w ∈ sg_nf, va_Nw w U) ∧ (∀ w ∈ sg_nm, va_Nw w U) ∧ (∀ w ∈ sg_nc, va_Nw w U) ∧ (va_AO RX0 U ∧ va_AO RX1 U) ∧ ∀ q ∈ sg_ns, ∃ a, vk_R RX2 q.1 q.2 a U
theorem sg_N.warm {s U : State} (hW : s.WarmedH U.vm) (h : sg_N s) : sg_N U := by
  obtain ⟨h1, h2, h3, h4, h5⟩ := h
  refine ⟨fun w hw => ?_, fun w hw => ?_, fun w hw => ?_, ⟨h4.1.moved hW.alike, h4.2.moved hW.alike⟩, fun q hq => ?_⟩
  · have h9 := h1 w hw
    simp only [sg_nf, List.mem_cons, List.not_mem_nil, or_false] at hw
    rcases hw with rfl | rfl | rfl | rfl | rfl | rfl | rfl | rfl | rfl | rfl | rfl | rfl | rfl | rfl | rfl <;> exact va_Nw.warmF hW h9
  · have h9 := h2 w hw
    simp only [sg_nm, List.mem_cons, List.not_mem_nil, or_false] at hw
    rcases hw with rfl | rfl | rfl | rfl | rfl | rfl | rfl | rfl | rfl | rfl | rfl | rfl | rfl | rfl <;> exact va_Nw.warmM hW h9
  · have h9 := h3 w hw
    simp only [sg_nc, List.mem_cons, List.not_mem_nil, or_false] at hw
    rcases hw with rfl | rfl | rfl | rfl | rfl | rfl <;> first | exact va_Nw.warmC hW h9 | exact va_Nw.warmD hW h9
  · obtain ⟨a, ha⟩ := h5 q hq
    exact ⟨a, ha.warm hW⟩
def sg_X (A : Nat → Prop) (U : State) (H : Heap) : Prop := vx_Zq Bundle.tN "UNASSIGNED_STACK" Bundle.steD A U H ∧ vx_Zq Bundle.tN "SUPPRESSED_SENTINEL" Bundle.listD A U H
theorem sg_X.at {A B : Nat → Prop} {s U : State} {H : Heap} {locs : List Loc} (hvm : s.vm.Alike U.vm) (h : sg_X A s s.heap) (hS : va_S A s.heap H locs) (hB : ∀ q, B q → A q) : sg_X B U H :=
  ⟨((h.1.kept hS.2.1).narrow hB).moved hvm, ((h.2.kept hS.2.1).narrow hB).moved hvm⟩
/-- a contract's start: the heap's size, the world, the tables -/
def sg_U (D : va_G) (Y : Nat → ClassId) (σ : sg_W) (sz : Nat) (U : State) : Prop := U.heap.size = sz ∧ sg_P D σ U.heap ∧ sg_K D Y U ∧ sg_D (fun _ => True) σ ∧ sg_N U ∧ sg_X (sg_A σ sz) U U.heap
/-- a contract's end: the world behind it -/
def sg_B (D : va_G) (σ : sg_W) (sz : Nat) (σ' : sg_W) (t : State) : Prop := sg_P D σ' t.heap ∧ sg_D (sg_A σ sz) σ'
theorem sg_blind {D : va_G} {Y : Nat → ClassId} {σ : sg_W} {sz : Nat} {av : List Value} : FrameBlind (va_Pc av (sg_U D Y σ sz)) := fun a U g mk q => by
  obtain ⟨q0, q1, q2, q3, q4, q5, q6⟩ := q
  exact ⟨q0, q1, q2, va_K.moved (u := U) (U := U.calling g mk a) (Vm.Alike.refl U.vm) q3, q4, sg_N.warm (s := U) (U := U.calling g mk a) (State.WarmedH.refl U) q5, ⟨vx_Zq.moved (u := U) (U := U.calling g mk a) (Vm.Alike.refl U.vm) q6.1, vx_Zq.moved (u := U) (U := U.calling g mk a) (Vm.Alike.refl U.vm) q6.2⟩⟩
