/-! THE STATE: a state of the plan is the reference's: its scalars, its int rows, its long rows, each by the place of its field (0 month, 1 price, 2 ceiling, 3 members, 4 rate, 5 left, 6 money, 7 back, 8 spent, 9 kept, 10 first, 11 times, 12 resets, 13 pay, 14 gain, 15 bought, 16 had, 17 paid, 18 offer, 19 thrown) -/
abbrev MS : Type := (Nat → Int32) × (Nat → Nat → Int32) × (Nat → Nat → Int64)
def sS (M : MS) (j : Nat) : Int32 := M.1 j
def sI (M : MS) (j : Nat) : Nat → Int32 := M.2.1 j
def sL (M : MS) (j : Nat) : Nat → Int64 := M.2.2 j
def uS (M : MS) (j : Nat) (v : Int32) : MS := (fun i => if i = j then v else M.1 i, M.2)
def uI (M : MS) (j k : Nat) (v : Int32) : MS := (M.1, fun i => if i = j then upd (M.2.1 j) k v else M.2.1 i, M.2.2)
def uL (M : MS) (j k : Nat) (v : Int64) : MS := (M.1, M.2.1, fun i => if i = j then vp_updL (M.2.2 j) k v else M.2.2 i)
theorem sS_uS {M : MS} {j i : Nat} {v : Int32} : sS (uS M j v) i = if i = j then v else sS M i := rfl
theorem sI_uS {M : MS} {j i : Nat} {v : Int32} : sI (uS M j v) i = sI M i := rfl
theorem sL_uS {M : MS} {j i : Nat} {v : Int32} : sL (uS M j v) i = sL M i := rfl
theorem sS_uI {M : MS} {j k i : Nat} {v : Int32} : sS (uI M j k v) i = sS M i := rfl
theorem sL_uI {M : MS} {j k i : Nat} {v : Int32} : sL (uI M j k v) i = sL M i := rfl
theorem sS_uL {M : MS} {j k i : Nat} {v : Int64} : sS (uL M j k v) i = sS M i := rfl
theorem sI_uL {M : MS} {j k i : Nat} {v : Int64} : sI (uL M j k v) i = sI M i := rfl
theorem sI_uI {M : MS} {j k i : Nat} {v : Int32} : sI (uI M j k v) i = if i = j then upd (sI M j) k v else sI M i := rfl
theorem sL_uL {M : MS} {j k i : Nat} {v : Int64} : sL (uL M j k v) i = if i = j then vp_updL (sL M j) k v else sL M i := rfl
theorem upd_at {f : Nat → Int32} {k x : Nat} {v : Int32} : upd f k v x = if x = k then v else f x := rfl
theorem updL_at {f : Nat → Int64} {k x : Nat} {v : Int64} : vp_updL f k v x = if x = k then v else f x := rfl
theorem MS_ext {M N : MS} (h1 : ∀ j, sS M j = sS N j) (h2 : ∀ j k, sI M j k = sI N j k) (h3 : ∀ j k, sL M j k = sL N j k) : M = N := by
  obtain ⟨a, b, c⟩ := M
  obtain ⟨a', b', c'⟩ := N
  have e1 : a = a' := funext h1
  have e2 : b = b' := funext fun j => funext (h2 j)
  have e3 : c = c' := funext fun j => funext (h3 j)
  subst e1; subst e2; subst e3; rfl
/-- the reference's cells: 100 the object, 100 + j the row of field j -/
def mw_f (ad : Nat → Nat) (M : MS) : List Value := [.int (sS M 0), .ref (ad 1), .int (sS M 2), .int (sS M 3), .ref (ad 4), .ref (ad 5), .ref (ad 6), .ref (ad 7), .ref (ad 8), .ref (ad 9), .ref (ad 10), .ref (ad 11), .ref (ad 12), .ref (ad 13), .ref (ad 14), .ref (ad 15), .ref (ad 16), .ref (ad 17), .ref (ad 18), .int (sS M 19)]
def mw_c (Y : Nat → ClassId) (ad : Nat → Nat) (M : MS) (j : Nat) : va_E := match j with
  | 0 => .inr (3, mw_f ad M)
  | 1 => .inl (Y 0, 60, .inl (sI M 1))
  | 4 => .inl (Y 0, 6, .inl (sI M 4))
  | 5 => .inl (Y 2, 6, .inl (sI M 5))
  | 6 => .inl (Y 0, 6, .inl (sI M 6))
  | 7 => .inl (Y 0, 6, .inl (sI M 7))
  | 8 => .inl (Y 1, 6, .inr (.inl (sL M 8)))
  | 9 => .inl (Y 1, 6, .inr (.inl (sL M 9)))
  | 10 => .inl (Y 0, 6, .inl (sI M 10))
  | 11 => .inl (Y 0, 6, .inl (sI M 11))
  | 12 => .inl (Y 0, 6, .inl (sI M 12))
  | 13 => .inl (Y 1, 6, .inr (.inl (sL M 13)))
  | 14 => .inl (Y 1, 6, .inr (.inl (sL M 14)))
  | 15 => .inl (Y 0, 60, .inl (sI M 15))
  | 16 => .inl (Y 0, 60, .inl (sI M 16))
  | 17 => .inl (Y 0, 60, .inl (sI M 17))
  | 18 => .inl (Y 0, 60, .inl (sI M 18))
  | _ => .inr (0, [])
def mw_in (j : Nat) : Bool := decide (j = 0 ∨ j = 1 ∨ (4 ≤ j ∧ j ≤ 18))
theorem mw_cases {j : Nat} (h : mw_in j = true) : j = 0 ∨ j = 1 ∨ j = 4 ∨ j = 5 ∨ j = 6 ∨ j = 7 ∨ j = 8 ∨ j = 9 ∨ j = 10 ∨ j = 11 ∨ j = 12 ∨ j = 13 ∨ j = 14 ∨ j = 15 ∨ j = 16 ∨ j = 17 ∨ j = 18 := by
  simp only [mw_in, decide_eq_true_eq] at h
  omega
/-- σ holds the reference in the state M; off the reference it is σ0 -/
def MF (Y : Nat → ClassId) (ad : Nat → Nat) (σ0 : sg_W) (M : MS) (σ : sg_W) : Prop := (∀ j, mw_in j = true → σ (100 + j) = some (ad j, mw_c Y ad M j)) ∧ ∀ n, ¬ (100 ≤ n ∧ n ≤ 118) → σ n = σ0 n
abbrev MW (Y : Nat → ClassId) (ad : Nat → Nat) (M : MS) (σ : sg_W) : Prop := MF Y ad σ M σ
theorem MF.self {Y : Nat → ClassId} {ad : Nat → Nat} {σ0 σ : sg_W} {M : MS} (h : MF Y ad σ0 M σ) : MW Y ad M σ := ⟨h.1, fun _ _ => rfl⟩
theorem MF.trans {Y : Nat → ClassId} {ad : Nat → Nat} {σ0 σ1 σ : sg_W} {M M' : MS} (h0 : MF Y ad σ0 M σ1) (h : MF Y ad σ1 M' σ) : MF Y ad σ0 M' σ := ⟨h.1, fun n hn => (h.2 n hn).trans (h0.2 n hn)⟩
theorem MF.of {Y : Nat → ClassId} {ad : Nat → Nat} {σ0 σ : sg_W} {M M' : MS} {j : Nat} {e : va_E} (h : MF Y ad σ0 M σ) (hj : mw_in j = true) (he : mw_c Y ad M' j = e) (ho : ∀ i, i ≠ j → mw_in i = true → mw_c Y ad M' i = mw_c Y ad M i) : MF Y ad σ0 M' (sg_u σ (100 + j) (ad j) e) := by
  refine ⟨fun i hi => ?_, fun n hn => ?_⟩
  · by_cases hij : i = j
    · subst hij
      rw [sg_ue, he]
    · rw [sg_un (by omega), h.1 i hi, ho i hij hi]
  · rw [sg_un (fun q => hn (by subst q; have := mw_cases hj; omega))]
    exact h.2 n hn
theorem MF.a1 {Y : Nat → ClassId} {ad : Nat → Nat} {σ0 σ : sg_W} {M : MS} {k : Nat} {v : Int32} (h : MF Y ad σ0 M σ) : MF Y ad σ0 (uI M 1 k v) (sg_u σ (100 + 1) (ad 1) (.inl (Y 0, 60, .inl (upd (sI M 1) k v)))) := by
  refine h.of (j := 1) rfl (by simp [mw_c, sI_uI]) (fun i hij hi => ?_)
  rcases mw_cases hi with rfl | rfl | rfl | rfl | rfl | rfl | rfl | rfl | rfl | rfl | rfl | rfl | rfl | rfl | rfl | rfl | rfl <;> first | exact absurd rfl hij | rfl
theorem MF.a4 {Y : Nat → ClassId} {ad : Nat → Nat} {σ0 σ : sg_W} {M : MS} {k : Nat} {v : Int32} (h : MF Y ad σ0 M σ) : MF Y ad σ0 (uI M 4 k v) (sg_u σ (100 + 4) (ad 4) (.inl (Y 0, 6, .inl (upd (sI M 4) k v)))) := by
  refine h.of (j := 4) rfl (by simp [mw_c, sI_uI]) (fun i hij hi => ?_)
  rcases mw_cases hi with rfl | rfl | rfl | rfl | rfl | rfl | rfl | rfl | rfl | rfl | rfl | rfl | rfl | rfl | rfl | rfl | rfl <;> first | exact absurd rfl hij | rfl
theorem MF.a5 {Y : Nat → ClassId} {ad : Nat → Nat} {σ0 σ : sg_W} {M : MS} {k : Nat} {v : Int32} (h : MF Y ad σ0 M σ) : MF Y ad σ0 (uI M 5 k v) (sg_u σ (100 + 5) (ad 5) (.inl (Y 2, 6, .inl (upd (sI M 5) k v)))) := by
  refine h.of (j := 5) rfl (by simp [mw_c, sI_uI]) (fun i hij hi => ?_)
  rcases mw_cases hi with rfl | rfl | rfl | rfl | rfl | rfl | rfl | rfl | rfl | rfl | rfl | rfl | rfl | rfl | rfl | rfl | rfl <;> first | exact absurd rfl hij | rfl
theorem MF.a6 {Y : Nat → ClassId} {ad : Nat → Nat} {σ0 σ : sg_W} {M : MS} {k : Nat} {v : Int32} (h : MF Y ad σ0 M σ) : MF Y ad σ0 (uI M 6 k v) (sg_u σ (100 + 6) (ad 6) (.inl (Y 0, 6, .inl (upd (sI M 6) k v)))) := by
  refine h.of (j := 6) rfl (by simp [mw_c, sI_uI]) (fun i hij hi => ?_)
  rcases mw_cases hi with rfl | rfl | rfl | rfl | rfl | rfl | rfl | rfl | rfl | rfl | rfl | rfl | rfl | rfl | rfl | rfl | rfl <;> first | exact absurd rfl hij | rfl
theorem MF.a7 {Y : Nat → ClassId} {ad : Nat → Nat} {σ0 σ : sg_W} {M : MS} {k : Nat} {v : Int32} (h : MF Y ad σ0 M σ) : MF Y ad σ0 (uI M 7 k v) (sg_u σ (100 + 7) (ad 7) (.inl (Y 0, 6, .inl (upd (sI M 7) k v)))) := by
  refine h.of (j := 7) rfl (by simp [mw_c, sI_uI]) (fun i hij hi => ?_)
  rcases mw_cases hi with rfl | rfl | rfl | rfl | rfl | rfl | rfl | rfl | rfl | rfl | rfl | rfl | rfl | rfl | rfl | rfl | rfl <;> first | exact absurd rfl hij | rfl
theorem MF.a8 {Y : Nat → ClassId} {ad : Nat → Nat} {σ0 σ : sg_W} {M : MS} {k : Nat} {v : Int64} (h : MF Y ad σ0 M σ) : MF Y ad σ0 (uL M 8 k v) (sg_u σ (100 + 8) (ad 8) (.inl (Y 1, 6, .inr (.inl (vp_updL (sL M 8) k v))))) := by
  refine h.of (j := 8) rfl (by simp [mw_c, sL_uL]) (fun i hij hi => ?_)
  rcases mw_cases hi with rfl | rfl | rfl | rfl | rfl | rfl | rfl | rfl | rfl | rfl | rfl | rfl | rfl | rfl | rfl | rfl | rfl <;> first | exact absurd rfl hij | rfl
theorem MF.a9 {Y : Nat → ClassId} {ad : Nat → Nat} {σ0 σ : sg_W} {M : MS} {k : Nat} {v : Int64} (h : MF Y ad σ0 M σ) : MF Y ad σ0 (uL M 9 k v) (sg_u σ (100 + 9) (ad 9) (.inl (Y 1, 6, .inr (.inl (vp_updL (sL M 9) k v))))) := by
  refine h.of (j := 9) rfl (by simp [mw_c, sL_uL]) (fun i hij hi => ?_)
  rcases mw_cases hi with rfl | rfl | rfl | rfl | rfl | rfl | rfl | rfl | rfl | rfl | rfl | rfl | rfl | rfl | rfl | rfl | rfl <;> first | exact absurd rfl hij | rfl
theorem MF.a10 {Y : Nat → ClassId} {ad : Nat → Nat} {σ0 σ : sg_W} {M : MS} {k : Nat} {v : Int32} (h : MF Y ad σ0 M σ) : MF Y ad σ0 (uI M 10 k v) (sg_u σ (100 + 10) (ad 10) (.inl (Y 0, 6, .inl (upd (sI M 10) k v)))) := by
  refine h.of (j := 10) rfl (by simp [mw_c, sI_uI]) (fun i hij hi => ?_)
  rcases mw_cases hi with rfl | rfl | rfl | rfl | rfl | rfl | rfl | rfl | rfl | rfl | rfl | rfl | rfl | rfl | rfl | rfl | rfl <;> first | exact absurd rfl hij | rfl
theorem MF.a11 {Y : Nat → ClassId} {ad : Nat → Nat} {σ0 σ : sg_W} {M : MS} {k : Nat} {v : Int32} (h : MF Y ad σ0 M σ) : MF Y ad σ0 (uI M 11 k v) (sg_u σ (100 + 11) (ad 11) (.inl (Y 0, 6, .inl (upd (sI M 11) k v)))) := by
  refine h.of (j := 11) rfl (by simp [mw_c, sI_uI]) (fun i hij hi => ?_)
  rcases mw_cases hi with rfl | rfl | rfl | rfl | rfl | rfl | rfl | rfl | rfl | rfl | rfl | rfl | rfl | rfl | rfl | rfl | rfl <;> first | exact absurd rfl hij | rfl
theorem MF.a12 {Y : Nat → ClassId} {ad : Nat → Nat} {σ0 σ : sg_W} {M : MS} {k : Nat} {v : Int32} (h : MF Y ad σ0 M σ) : MF Y ad σ0 (uI M 12 k v) (sg_u σ (100 + 12) (ad 12) (.inl (Y 0, 6, .inl (upd (sI M 12) k v)))) := by
  refine h.of (j := 12) rfl (by simp [mw_c, sI_uI]) (fun i hij hi => ?_)
  rcases mw_cases hi with rfl | rfl | rfl | rfl | rfl | rfl | rfl | rfl | rfl | rfl | rfl | rfl | rfl | rfl | rfl | rfl | rfl <;> first | exact absurd rfl hij | rfl
theorem MF.a13 {Y : Nat → ClassId} {ad : Nat → Nat} {σ0 σ : sg_W} {M : MS} {k : Nat} {v : Int64} (h : MF Y ad σ0 M σ) : MF Y ad σ0 (uL M 13 k v) (sg_u σ (100 + 13) (ad 13) (.inl (Y 1, 6, .inr (.inl (vp_updL (sL M 13) k v))))) := by
  refine h.of (j := 13) rfl (by simp [mw_c, sL_uL]) (fun i hij hi => ?_)
  rcases mw_cases hi with rfl | rfl | rfl | rfl | rfl | rfl | rfl | rfl | rfl | rfl | rfl | rfl | rfl | rfl | rfl | rfl | rfl <;> first | exact absurd rfl hij | rfl
theorem MF.a14 {Y : Nat → ClassId} {ad : Nat → Nat} {σ0 σ : sg_W} {M : MS} {k : Nat} {v : Int64} (h : MF Y ad σ0 M σ) : MF Y ad σ0 (uL M 14 k v) (sg_u σ (100 + 14) (ad 14) (.inl (Y 1, 6, .inr (.inl (vp_updL (sL M 14) k v))))) := by
  refine h.of (j := 14) rfl (by simp [mw_c, sL_uL]) (fun i hij hi => ?_)
  rcases mw_cases hi with rfl | rfl | rfl | rfl | rfl | rfl | rfl | rfl | rfl | rfl | rfl | rfl | rfl | rfl | rfl | rfl | rfl <;> first | exact absurd rfl hij | rfl
theorem MF.a15 {Y : Nat → ClassId} {ad : Nat → Nat} {σ0 σ : sg_W} {M : MS} {k : Nat} {v : Int32} (h : MF Y ad σ0 M σ) : MF Y ad σ0 (uI M 15 k v) (sg_u σ (100 + 15) (ad 15) (.inl (Y 0, 60, .inl (upd (sI M 15) k v)))) := by
  refine h.of (j := 15) rfl (by simp [mw_c, sI_uI]) (fun i hij hi => ?_)
  rcases mw_cases hi with rfl | rfl | rfl | rfl | rfl | rfl | rfl | rfl | rfl | rfl | rfl | rfl | rfl | rfl | rfl | rfl | rfl <;> first | exact absurd rfl hij | rfl
theorem MF.a16 {Y : Nat → ClassId} {ad : Nat → Nat} {σ0 σ : sg_W} {M : MS} {k : Nat} {v : Int32} (h : MF Y ad σ0 M σ) : MF Y ad σ0 (uI M 16 k v) (sg_u σ (100 + 16) (ad 16) (.inl (Y 0, 60, .inl (upd (sI M 16) k v)))) := by
  refine h.of (j := 16) rfl (by simp [mw_c, sI_uI]) (fun i hij hi => ?_)
  rcases mw_cases hi with rfl | rfl | rfl | rfl | rfl | rfl | rfl | rfl | rfl | rfl | rfl | rfl | rfl | rfl | rfl | rfl | rfl <;> first | exact absurd rfl hij | rfl
theorem MF.a17 {Y : Nat → ClassId} {ad : Nat → Nat} {σ0 σ : sg_W} {M : MS} {k : Nat} {v : Int32} (h : MF Y ad σ0 M σ) : MF Y ad σ0 (uI M 17 k v) (sg_u σ (100 + 17) (ad 17) (.inl (Y 0, 60, .inl (upd (sI M 17) k v)))) := by
  refine h.of (j := 17) rfl (by simp [mw_c, sI_uI]) (fun i hij hi => ?_)
  rcases mw_cases hi with rfl | rfl | rfl | rfl | rfl | rfl | rfl | rfl | rfl | rfl | rfl | rfl | rfl | rfl | rfl | rfl | rfl <;> first | exact absurd rfl hij | rfl
theorem MF.a18 {Y : Nat → ClassId} {ad : Nat → Nat} {σ0 σ : sg_W} {M : MS} {k : Nat} {v : Int32} (h : MF Y ad σ0 M σ) : MF Y ad σ0 (uI M 18 k v) (sg_u σ (100 + 18) (ad 18) (.inl (Y 0, 60, .inl (upd (sI M 18) k v)))) := by
  refine h.of (j := 18) rfl (by simp [mw_c, sI_uI]) (fun i hij hi => ?_)
  rcases mw_cases hi with rfl | rfl | rfl | rfl | rfl | rfl | rfl | rfl | rfl | rfl | rfl | rfl | rfl | rfl | rfl | rfl | rfl <;> first | exact absurd rfl hij | rfl
theorem MF.s0 {Y : Nat → ClassId} {ad : Nat → Nat} {σ0 σ : sg_W} {M : MS} {v : Int32} (h : MF Y ad σ0 M σ) : MF Y ad σ0 (uS M 0 v) (sg_u σ (100 + 0) (ad 0) (.inr (3, (mw_f ad M).set 0 (.int v)))) := by
  refine h.of (j := 0) rfl (by simp [mw_c, mw_f, sS_uS]) (fun i hij hi => ?_)
  rcases mw_cases hi with rfl | rfl | rfl | rfl | rfl | rfl | rfl | rfl | rfl | rfl | rfl | rfl | rfl | rfl | rfl | rfl | rfl <;> first | exact absurd rfl hij | rfl
theorem MF.s2 {Y : Nat → ClassId} {ad : Nat → Nat} {σ0 σ : sg_W} {M : MS} {v : Int32} (h : MF Y ad σ0 M σ) : MF Y ad σ0 (uS M 2 v) (sg_u σ (100 + 0) (ad 0) (.inr (3, (mw_f ad M).set 2 (.int v)))) := by
  refine h.of (j := 0) rfl (by simp [mw_c, mw_f, sS_uS]) (fun i hij hi => ?_)
  rcases mw_cases hi with rfl | rfl | rfl | rfl | rfl | rfl | rfl | rfl | rfl | rfl | rfl | rfl | rfl | rfl | rfl | rfl | rfl <;> first | exact absurd rfl hij | rfl
theorem MF.s3 {Y : Nat → ClassId} {ad : Nat → Nat} {σ0 σ : sg_W} {M : MS} {v : Int32} (h : MF Y ad σ0 M σ) : MF Y ad σ0 (uS M 3 v) (sg_u σ (100 + 0) (ad 0) (.inr (3, (mw_f ad M).set 3 (.int v)))) := by
  refine h.of (j := 0) rfl (by simp [mw_c, mw_f, sS_uS]) (fun i hij hi => ?_)
  rcases mw_cases hi with rfl | rfl | rfl | rfl | rfl | rfl | rfl | rfl | rfl | rfl | rfl | rfl | rfl | rfl | rfl | rfl | rfl <;> first | exact absurd rfl hij | rfl
theorem MF.s19 {Y : Nat → ClassId} {ad : Nat → Nat} {σ0 σ : sg_W} {M : MS} {v : Int32} (h : MF Y ad σ0 M σ) : MF Y ad σ0 (uS M 19 v) (sg_u σ (100 + 0) (ad 0) (.inr (3, (mw_f ad M).set 19 (.int v)))) := by
  refine h.of (j := 0) rfl (by simp [mw_c, mw_f, sS_uS]) (fun i hij hi => ?_)
  rcases mw_cases hi with rfl | rfl | rfl | rfl | rfl | rfl | rfl | rfl | rfl | rfl | rfl | rfl | rfl | rfl | rfl | rfl | rfl <;> first | exact absurd rfl hij | rfl
section CUT
variable {p : Program} {l : Launch} {e : Env} {R : Room} {s : State} {m : MethodId} {args : Array Value} {below : List Frame} {meth : Method} {c : Code} {H : Heap} {locs : List Loc} {cells slots : Nat} {Q : State → Prop}
/-- two roads that meet: the value on top at the meeting point -/
theorem sg_cuti {j : Nat} {ls : Array Slot} {rest : List Value} {g : JFrame} (Pj : Int32 → Prop) (k : ∀ x : Int32, Pj x → W p l e R s m args below meth c H locs cells slots Q (F0 m j ls (.int x :: rest)))
    (b : (∀ x : Int32, Pj x → W p l e R s m args below meth c H locs cells slots Q (F0 m j ls (.int x :: rest))) → W p l e R s m args below meth c H locs cells slots Q g) : W p l e R s m args below meth c H locs cells slots Q g := b k
theorem sg_cutl {j : Nat} {ls : Array Slot} {rest : List Value} {g : JFrame} (Pj : Int64 → Prop) (k : ∀ x : Int64, Pj x → W p l e R s m args below meth c H locs cells slots Q (F0 m j ls (.long x :: rest)))
    (b : (∀ x : Int64, Pj x → W p l e R s m args below meth c H locs cells slots Q (F0 m j ls (.long x :: rest))) → W p l e R s m args below meth c H locs cells slots Q g) : W p l e R s m args below meth c H locs cells slots Q g := b k
/-- two roads that meet, with worlds of their own -/
theorem sg_cutw {D : va_G} {A : Nat → Prop} {H0 : Heap} (_ : va_S A H0 H locs) {j : Nat} {ls : Array Slot} {rest : List Value} {g : JFrame} (cells' slots' : Nat) (Pj : sg_W → Prop) (k : ∀ (σ : sg_W) (H1 : Heap) (locs1 : List Loc), Pj σ → sg_P D σ H1 → sg_D A σ → va_S A H0 H1 locs1 → W p l e R s m args below meth c H1 locs1 cells' slots' Q (F0 m j ls rest))
    (b : (∀ (σ : sg_W) (H1 : Heap) (locs1 : List Loc), Pj σ → sg_P D σ H1 → sg_D A σ → va_S A H0 H1 locs1 → W p l e R s m args below meth c H1 locs1 cells' slots' Q (F0 m j ls rest)) → W p l e R s m args below meth c H locs cells slots Q g) : W p l e R s m args below meth c H locs cells slots Q g := b k
theorem sg_cutwi {D : va_G} {A : Nat → Prop} {H0 : Heap} (_ : va_S A H0 H locs) {j : Nat} {ls : Array Slot} {rest : List Value} {g : JFrame} (cells' slots' : Nat) (Pj : Int32 → sg_W → Prop) (k : ∀ (x : Int32) (σ : sg_W) (H1 : Heap) (locs1 : List Loc), Pj x σ → sg_P D σ H1 → sg_D A σ → va_S A H0 H1 locs1 → W p l e R s m args below meth c H1 locs1 cells' slots' Q (F0 m j ls (.int x :: rest)))
    (b : (∀ (x : Int32) (σ : sg_W) (H1 : Heap) (locs1 : List Loc), Pj x σ → sg_P D σ H1 → sg_D A σ → va_S A H0 H1 locs1 → W p l e R s m args below meth c H1 locs1 cells' slots' Q (F0 m j ls (.int x :: rest))) → W p l e R s m args below meth c H locs cells slots Q g) : W p l e R s m args below meth c H locs cells slots Q g := b k
theorem sg_cutwl {D : va_G} {A : Nat → Prop} {H0 : Heap} (_ : va_S A H0 H locs) {j : Nat} {ls : Array Slot} {rest : List Value} {g : JFrame} (cells' slots' : Nat) (Pj : Int64 → sg_W → Prop) (k : ∀ (x : Int64) (σ : sg_W) (H1 : Heap) (locs1 : List Loc), Pj x σ → sg_P D σ H1 → sg_D A σ → va_S A H0 H1 locs1 → W p l e R s m args below meth c H1 locs1 cells' slots' Q (F0 m j ls (.long x :: rest)))
    (b : (∀ (x : Int64) (σ : sg_W) (H1 : Heap) (locs1 : List Loc), Pj x σ → sg_P D σ H1 → sg_D A σ → va_S A H0 H1 locs1 → W p l e R s m args below meth c H1 locs1 cells' slots' Q (F0 m j ls (.long x :: rest))) → W p l e R s m args below meth c H locs cells slots Q g) : W p l e R s m args below meth c H locs cells slots Q g := b k
/-- a loop: n falls -/
theorem sg_loop {D : va_G} {A : Nat → Prop} {H0 : Heap} {T : Type} (j nL : Nat) (Inv : Nat → T → sg_W → Nat → Nat → Prop) (lv : T → List (Nat × Value))
    (step : ∀ (n : Nat) (t : T) (σ : sg_W) (cells slots : Nat) (H : Heap) (locs : List Loc) (ls : Array Slot), (∀ (n' : Nat) (t' : T) (σ' : sg_W) (cells' slots' : Nat) (H' : Heap) (locs' : List Loc) (ls' : Array Slot), n' < n → Inv n' t' σ' cells' slots' → sg_P D σ' H' → sg_D A σ' → va_S A H0 H' locs' → lv_has ls' nL (lv t') → W p l e R s m args below meth c H' locs' cells' slots' Q (F0 m j ls' [])) →
      Inv n t σ cells slots → sg_P D σ H → sg_D A σ → va_S A H0 H locs → lv_has ls nL (lv t) → W p l e R s m args below meth c H locs cells slots Q (F0 m j ls [])) :
    ∀ (n : Nat) (t : T) (σ : sg_W) (cells slots : Nat) (H : Heap) (locs : List Loc) (ls : Array Slot), Inv n t σ cells slots → sg_P D σ H → sg_D A σ → va_S A H0 H locs → lv_has ls nL (lv t) → W p l e R s m args below meth c H locs cells slots Q (F0 m j ls []) := by
  intro n
  induction n using Nat.strongRecOn with
  | _ n ih => exact fun t σ cells slots H locs ls h1 h2 h3 h4 h5 => step n t σ cells slots H locs ls (fun n' t' σ' c' s' H' l' ls' hn => ih n' hn t' σ' c' s' H' l' ls') h1 h2 h3 h4 h5
end CUT
