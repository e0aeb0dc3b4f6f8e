/-! THE PLAN: its scalars by their fields' places (1 memberCount, 2 month, 3 priceNow, 4 ceiling) and its members -/
abbrev PS : Type := (Nat → Int32) × (Nat → CS)
def pS (P : PS) (k : Nat) : Int32 := P.1 k
def pC (P : PS) (i : Nat) : CS := P.2 i
def uPS (P : PS) (k : Nat) (v : Int32) : PS := (fun i => if i = k then v else P.1 i, P.2)
def uPC (P : PS) (i : Nat) (c : CS) : PS := (P.1, fun j => if j = i then c else P.2 j)
theorem pS_uPS {P : PS} {k i : Nat} {v : Int32} : pS (uPS P k v) i = if i = k then v else pS P i := rfl
theorem pC_uPS {P : PS} {k i : Nat} {v : Int32} : pC (uPS P k v) i = pC P i := rfl
theorem pS_uPC {P : PS} {k i : Nat} {v : CS} : pS (uPC P k v) i = pS P i := rfl
theorem pC_uPC {P : PS} {k i : Nat} {v : CS} : pC (uPC P k v) i = if i = k then v else pC P i := rfl
def p_f (aM : Nat) (P : PS) : List Value := [.ref aM, .int (pS P 1), .int (pS P 2), .int (pS P 3), .int (pS P 4)]
def pR (N : Nat) (aO : Nat → Nat) : Nat → Option Nat := fun i => if i < N then some (aO i) else none
/-- σ holds the plan x with N members: 0 the object, 1 the members' row, 1000 + 20 i the member i; at 100 .. 999 it is σ0 -/
def PF (Y : Nat → ClassId) (x aM N : Nat) (aO aL aC : Nat → Nat) (σ0 : sg_W) (P : PS) (σ : sg_W) : Prop := σ 0 = some (x, .inr (2, p_f aM P)) ∧ σ 1 = some (aM, .inl (Y 4, 6, .inr (.inr (.inr (.inr (pR N aO)))))) ∧ (∀ i, i < N → KF Y (1000 + 20 * i) (aO i) (aL i) (aC i) σ (pC P i) σ) ∧ (∀ j, 100 ≤ j ∧ j < 1000 → σ j = σ0 j) ∧ N ≤ 6
theorem KF.agree {Y : Nat → ClassId} {n aO aL aC : Nat} {σ σ' : sg_W} {c : CS} (h : KF Y n aO aL aC σ c σ) (ho : ∀ j, n ≤ j ∧ j < n + 20 → σ' j = σ j) : KF Y n aO aL aC σ' c σ' := by
  obtain ⟨g1, g2, g3, g4, g5⟩ := h
  exact ⟨by rw [ho _ (by omega)]; exact g1, by rw [ho _ (by omega)]; exact g2, by rw [ho _ (by omega)]; exact g3, fun k hk a ha => by rw [ho _ (by omega)]; exact g4 k hk a ha, fun _ _ => rfl⟩
section
variable {Y : Nat → ClassId} {x aM N : Nat} {aO aL aC : Nat → Nat} {σ0 σ σ' : sg_W} {P P' : PS}
theorem PF.self (h : PF Y x aM N aO aL aC σ0 P σ) : PF Y x aM N aO aL aC σ P σ := ⟨h.1, h.2.1, h.2.2.1, fun _ _ => rfl, h.2.2.2.2⟩
theorem PF.trans {σ1 : sg_W} (h0 : PF Y x aM N aO aL aC σ0 P σ1) {N' : Nat} {aO' aL' aC' : Nat → Nat} (h : PF Y x aM N' aO' aL' aC' σ1 P' σ) : PF Y x aM N' aO' aL' aC' σ0 P' σ := ⟨h.1, h.2.1, h.2.2.1, fun j hj => (h.2.2.2.1 j hj).trans (h0.2.2.2.1 j hj), h.2.2.2.2⟩
theorem PF.to (h : PF Y x aM N aO aL aC σ0 P σ) (e : P = P') : PF Y x aM N aO aL aC σ0 P' σ := e ▸ h
theorem PF.obj {fs : List Value} (h : PF Y x aM N aO aL aC σ0 P σ) (e : p_f aM P' = fs) (hc : ∀ i, pC P' i = pC P i) : PF Y x aM N aO aL aC σ0 P' (sg_u σ 0 x (.inr (2, fs))) := by
  obtain ⟨g1, g2, g3, g4, g5⟩ := h
  refine ⟨by rw [sg_ue, e], by rw [sg_un (by omega)]; exact g2, fun i hi => ?_, fun j hj => ?_, g5⟩
  · rw [hc]
    exact (g3 i hi).agree (fun j hj => sg_un (by omega))
  · rw [sg_un (by omega)]
    exact g4 j hj
theorem PF.mem {i : Nat} {c : CS} (h : PF Y x aM N aO aL aC σ0 P σ) (hi : i < N) (hk : KF Y (1000 + 20 * i) (aO i) (aL i) (aC i) σ c σ') : PF Y x aM N aO aL aC σ0 (uPC P i c) σ' := by
  obtain ⟨g1, g2, g3, g4, g5⟩ := h
  have ho := hk.2.2.2.2
  refine ⟨by rw [ho _ (by omega)]; exact g1, by rw [ho _ (by omega)]; exact g2, fun j hj => ?_, fun j hj => ?_, g5⟩
  · rw [pC_uPC]
    by_cases hji : j = i
    · subst hji
      rw [if_pos rfl]
      exact hk.self
    · rw [if_neg hji]
      exact (g3 j hj).agree (fun z hz => ho z (by omega))
  · rw [ho _ (by omega)]
    exact g4 j hj
theorem PF.off (h : PF Y x aM N aO aL aC σ0 P σ) (ho : ∀ j, j < 1000 + 20 * N → σ' j = σ j) : PF Y x aM N aO aL aC σ0 P σ' := by
  obtain ⟨g1, g2, g3, g4, g5⟩ := h
  refine ⟨by rw [ho _ (by omega)]; exact g1, by rw [ho _ (by omega)]; exact g2, fun j hj => ?_, fun j hj => ?_, g5⟩
  · exact (g3 j hj).agree (fun z hz => ho z (by omega))
  · rw [ho _ (by omega)]
    exact g4 j hj
theorem PF.join {q a b : Nat} {c : CS} {σ1 : sg_W} (h : PF Y x aM N aO aL aC σ0 P σ) (hN : N < 6) (hk : KF Y (1000 + 20 * N) q a b σ1 c σ) : PF Y x aM (N + 1) (va_up aO N q) (va_up aL N a) (va_up aC N b) σ0 (uPC P N c) (sg_u σ 1 aM (.inl (Y 4, 6, .inr (.inr (.inr (.inr (va_up (pR N aO) N (some q)))))))) := by
  obtain ⟨g1, g2, g3, g4, g5⟩ := h
  refine ⟨by rw [sg_un (by omega)]; exact g1, ?_, fun j hj => ?_, fun j hj => ?_, by omega⟩
  · rw [sg_ue]
    have e : va_up (pR N aO) N (some q) = pR (N + 1) (va_up aO N q) := by
      funext i
      by_cases hi : i = N
      · subst hi; simp [pR, va_up]
      · simp only [pR, va_up, if_neg hi]
        by_cases h2 : i < N
        · rw [if_pos h2, if_pos (by omega)]
        · rw [if_neg h2, if_neg (by omega)]
    rw [e]
  · rw [pC_uPC]
    by_cases hjn : j = N
    · subst hjn
      rw [if_pos rfl, va_up_self, va_up_self, va_up_self]
      exact hk.self.agree (fun z hz => sg_un (by omega))
    · rw [if_neg hjn, va_up_ne _ _ hjn, va_up_ne _ _ hjn, va_up_ne _ _ hjn]
      exact (g3 j (by omega)).agree (fun z hz => sg_un (by omega))
  · rw [sg_un (by omega)]
    exact g4 j hj
theorem PF.s1 {v : Int32} (h : PF Y x aM N aO aL aC σ0 P σ) : PF Y x aM N aO aL aC σ0 (uPS P 1 v) (sg_u σ 0 x (.inr (2, (p_f aM P).set 1 (.int v)))) := h.obj (by simp [p_f, pS_uPS]) (fun _ => rfl)
theorem PF.s2 {v : Int32} (h : PF Y x aM N aO aL aC σ0 P σ) : PF Y x aM N aO aL aC σ0 (uPS P 2 v) (sg_u σ 0 x (.inr (2, (p_f aM P).set 2 (.int v)))) := h.obj (by simp [p_f, pS_uPS]) (fun _ => rfl)
theorem PF.s3 {v : Int32} (h : PF Y x aM N aO aL aC σ0 P σ) : PF Y x aM N aO aL aC σ0 (uPS P 3 v) (sg_u σ 0 x (.inr (2, (p_f aM P).set 3 (.int v)))) := h.obj (by simp [p_f, pS_uPS]) (fun _ => rfl)
theorem PF.s4 {v : Int32} (h : PF Y x aM N aO aL aC σ0 P σ) : PF Y x aM N aO aL aC σ0 (uPS P 4 v) (sg_u σ 0 x (.inr (2, (p_f aM P).set 4 (.int v)))) := h.obj (by simp [p_f, pS_uPS]) (fun _ => rfl)
end
def pAll (q : Nat → Nat) (N : Nat) (P : PS) : Nat → PS
  | 0 => P
  | k + 1 => if k < N ∧ kI (pC (pAll q N P k) k) 3 = 0 then uPC (pAll q N P k) k (kBuyM (pC (pAll q N P k) k) (pS P 2) (pS P 3) (pS P 4) (q k)) else pAll q N P k
theorem pAll_S {q : Nat → Nat} {N : Nat} {P : PS} {a : Nat} : ∀ k, pS (pAll q N P k) a = pS P a
  | 0 => rfl
  | k + 1 => by
    rw [pAll]
    split
    · rw [pS_uPC, pAll_S k]
    · rw [pAll_S k]
theorem pAll_C {q : Nat → Nat} {N : Nat} {P : PS} {i : Nat} : ∀ k, k ≤ i → pC (pAll q N P k) i = pC P i
  | 0, _ => rfl
  | k + 1, h => by
    rw [pAll]
    split
    · rw [pC_uPC, if_neg (by omega), pAll_C k (by omega)]
    · rw [pAll_C k (by omega)]
theorem pAll_q {q q' : Nat → Nat} {N : Nat} {P : PS} : ∀ k, (∀ j, j < k → q j = q' j) → pAll q N P k = pAll q' N P k
  | 0, _ => rfl
  | k + 1, h => by
    rw [pAll, pAll, pAll_q k (fun j hj => h j (by omega)), h k (by omega)]
