/-! THE LAW: its world, and what every case stands on -/
theorem PF.mf {Y : Nat → ClassId} {x aM N : Nat} {aO aL aC : Nat → Nat} {P : PS} {σ σ' : sg_W} (h : PF Y x aM N aO aL aC σ P σ) (ho : ∀ n, ¬ (100 ≤ n ∧ n ≤ 118) → σ' n = σ n) : PF Y x aM N aO aL aC σ' P σ' := by
  obtain ⟨g1, g2, g3, g4, g5⟩ := h
  exact ⟨by rw [ho _ (by omega)]; exact g1, by rw [ho _ (by omega)]; exact g2, fun i hi => (g3 i hi).agree (fun j hj => ho j (by omega)), fun j hj => rfl, g5⟩
theorem MF.by {Y : Nat → ClassId} {ad : Nat → Nat} {σ σ' : sg_W} {M : MS} (h : MW Y ad M σ) (ho : ∀ j, 100 ≤ j ∧ j < 1000 → j ≠ 120 → σ' j = σ j) : MW Y ad M σ' := by
  refine ⟨fun j hj => ?_, fun _ _ => rfl⟩
  have h18 : j ≤ 18 := by
    simp only [mw_in, decide_eq_true_eq] at hj
    omega
  rw [ho _ (by omega) (by omega)]
  exact h.1 j hj
theorem HQ.mw {Y : Nat → ClassId} {x b : Nat} {ad : Nat → Nat} {σ σ' : sg_W} {T r : Int32} {M M' : MS} {c : Nat} {v : Int64} (h : HQ Y x b σ T M' c v r σ') (hM : MW Y ad M σ) : MW Y ad M σ' := by
  obtain ⟨-, g0, gn⟩ := h
  by_cases hT : T = 0
  · obtain ⟨aM, N, aO, aL, aC, P, t, f, -, -, -, -, -, hf⟩ := g0 hT
    exact hM.by hf
  · rw [← gn hT]
    exact hM
/-- between the calls -/
def LW (Y : Nat → ClassId) (x ou : Nat) (ad : Nat → Nat) (M : MS) (c : Nat) (σ : sg_W) : Prop := ∃ (aM N : Nat) (aO aL aC : Nat → Nat) (P : PS) (t : Nat) (f : Nat → Int64), PF Y x aM N aO aL aC σ P σ ∧ RW M N P ∧ IV M N t c 7 ∧ σ 120 = some (ou, .inl (Y 1, 1, .inr (.inl f))) ∧ MW Y ad M σ
theorem s19_if {T : Int32} {A M : MS} (hA : sS A 19 = 0) : sS (if T = 0 then A else uS M 19 T) 19 = T := by
  by_cases hT : T = 0
  · rw [if_pos hT, hA, hT]
  · rw [if_neg hT]; rfl
theorem s19_next {M : MS} {p : Int32} : sS (nNext (uS M 19 0) p) 19 = 0 := by
  unfold nNext
  rw [sS_uI, sS_uS, if_neg (by decide)]
  split
  · rw [bAll_S]; rfl
  · rfl
theorem s19_sell {M : MS} {i s : Int32} : sS (xSell (uS M 19 0) i s).1 19 = 0 := by rw [xSell, sellN_S]; rfl
def lwE (p : Program) (l : Launch) (s : State) (m : MethodId) (cd : Code) (D : va_G) (Y : Nat → ClassId) (b L : Nat) (xs : Nat → Int32) : Prop := p.tables.exec = Jvm.exec ∧ cd.code = cL_law ∧ cd.maxLocals = 8 ∧ s.vm.findClass RL = some m.cls ∧ (∀ w ∈ wsL_law, w.before #[Value.ref b] s = true) ∧ va_X b L xs s s.heap ∧ b < s.heap.size ∧ sg_K D Y s ∧ sg_N s ∧ lh_N s ∧ sg_X (fun q : Nat => s.heap.size ≤ q) s s.heap ∧ l.stackTraces = false
abbrev lw5 (b x ou : Nat) (ad : Nat → Nat) (iv : Int32) : List (Nat × Value) := [(0, .ref b), (1, .ref x), (2, .ref (ad 0)), (3, .ref ou), (4, .int iv)]
/-- what the law needs behind a call -/
def lwK (p : Program) (l : Launch) (e : Env) (s : State) (m : MethodId) (below : List Frame) (meth : Method) (cd : Code) (D : va_G) (Y : Nat → ClassId) (b x ou : Nat) (ad : Nat → Nat) (c : Nat) (iv : Int32) (cells slots : Nat) (Q : State → Prop) : Prop := ∀ (M' : MS) (σ' : sg_W) (H' : Heap) (locs' : List Loc) (ls' : Array Slot), LW Y x ou ad M' (c + 1) σ' → sg_P D σ' H' → sg_D (fun q : Nat => s.heap.size ≤ q) σ' → va_S (fun q : Nat => s.heap.size ≤ q) s.heap H' locs' → lv_has ls' 8 (lw5 b x ou ad iv) → W p l e room_1 s m #[Value.ref b] below meth cd H' locs' (cells + 6) (slots + 50) Q (F0 m 1335 ls' [])
