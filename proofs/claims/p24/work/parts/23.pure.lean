/-! PURE: what each call answers and does, after the reference's words -/
def bI (c : Prop) [Decidable c] : Int32 := if c then 1 else 0
theorem bI_t {c : Prop} [Decidable c] (h : c) : bI c = 1 := if_pos h
theorem bI_f {c : Prop} [Decidable c] (h : ¬ c) : bI c = 0 := if_neg h
theorem bI_0 {c : Prop} [Decidable c] : bI c = 0 ↔ ¬ c := by unfold bI; split <;> simp [*]
theorem bI_1 {c : Prop} [Decidable c] : bI c = 1 ↔ c := by unfold bI; split <;> simp [*]
theorem bI_01 {c : Prop} [Decidable c] : bI c = 0 ∨ bI c = 1 := by unfold bI; split <;> simp
def nar01 (x : Int32) : Prop := x = 0 ∨ x = 1
theorem nar_z {x : Int32} (h : x = 0 ∨ x = 1) : narrow FieldType.boolean (Value.int x) = .int x := by
  rcases h with rfl | rfl <;> rfl
abbrev tN (i : Int32) : Nat := i.toNatClampNeg
/-- irem -/
def rm (x y : Int32) : Int32 := x - x / y * y
/-- is a member -/
abbrev qM (M : MS) (i : Int32) : Prop := 0 ≤ i ∧ i ≤ sS M 3 - 1
abbrev qIn (v a b : Int32) : Prop := a ≤ v ∧ v ≤ b
/-- stays -/
abbrev qT (M : MS) (i : Int32) : Prop := qM M i ∧ sI M 5 (tN i) = 0
def t1 (a : Int32) : Int32 := if a = 0 then 1 else 0
def t2 (a b : Int32) : Int32 := if a = 0 then 1 else if b = 0 then 2 else 0
def t3 (a b c : Int32) : Int32 := if a = 0 then 1 else if b = 0 then 2 else if c = 0 then 3 else 0
def mem6 (M : MS) : Prop := ∃ n : Nat, n ≤ 6 ∧ sS M 3 = nI n
theorem qM_in {M : MS} {i : Int32} (h6 : mem6 M) (h : qM M i) : vp_in i 6 := by
  obtain ⟨n, hn, e⟩ := h6
  obtain ⟨h1, h2⟩ := h
  rw [e] at h2
  rw [vp_in_iff]
  rw [Int32.le_iff_toInt_le] at h1 h2
  have h3 : (nI n - 1).toInt ≤ 5 := by
    rcases (show n = 0 ∨ n = 1 ∨ n = 2 ∨ n = 3 ∨ n = 4 ∨ n = 5 ∨ n = 6 by omega) with rfl | rfl | rfl | rfl | rfl | rfl | rfl <;> decide
  have h0 : (0 : Int32).toInt = 0 := rfl
  omega
theorem qM_lt {M : MS} {i : Int32} {n : Nat} (e : sS M 3 = nI n) (hn : n ≤ 6) (h : qM M i) : tN i < n ∧ i = nI (tN i) := by
  obtain ⟨h1, h2⟩ := h
  rw [e] at h2
  have h4 : (nI n - 1).toInt = (n : Int) - 1 := by
    rcases (show n = 0 ∨ n = 1 ∨ n = 2 ∨ n = 3 ∨ n = 4 ∨ n = 5 ∨ n = 6 by omega) with rfl | rfl | rfl | rfl | rfl | rfl | rfl <;> rfl
  obtain ⟨j, hj, rfl⟩ := nI_of (x := i) (fun h => by
    rw [Int32.lt_iff_toInt_lt] at h
    rw [Int32.le_iff_toInt_le] at h1
    omega)
  rw [Int32.le_iff_toInt_le, h4, nI_toInt hj] at h2
  rw [tN, nI_clamp hj]
  exact ⟨by omega, rfl⟩
