/-! THE STATE: a state of the plan is the reference's: its scalars, its int rows, its long rows, each by the place of its field (0 month, 1 price, 2 ceiling, 3 members, 4 rate, 5 left, 6 money, 7 back, 8 spent, 9 kept, 10 first, 11 times, 12 resets, 13 pay, 14 gain, 15 bought, 16 had, 17 paid, 18 offer, 19 thrown) -/
abbrev MS : Type := (Nat → Int32) × (Nat → Nat → Int32) × (Nat → Nat → Int64)
def sS (M : MS) (j : Nat) : Int32 := M.1 j
def sI (M : MS) (j : Nat) : Nat → Int32 := M.2.1 j
def sL (M : MS) (j : Nat) : Nat → Int64 := M.2.2 j
def uS (M : MS) (j : Nat) (v : Int32) : MS := (fun i => if i = j then v else M.1 i, M.2)
def uI (M : MS) (j k : Nat) (v : Int32) : MS := (M.1, fun i => if i = j then upd (M.2.1 j) k v else M.2.1 i, M.2.2)
def uL (M : MS) (j k : Nat) (v : Int64) : MS := (M.1, M.2.1, fun i => if i = j then vp_updL (M.2.2 j) k v else M.2.2 i)
theorem sS_uS {M : MS} {j i : Nat} {v : Int32} : sS (uS M j v) i = if i = j then v else sS M i := rfl
theorem sI_uS {M : MS} {j i : Nat} {v : Int32} : sI (uS M j v) i = sI M i := rfl
theorem sL_uS {M : MS} {j i : Nat} {v : Int32} : sL (uS M j v) i = sL M i := rfl
theorem sS_uI {M : MS} {j k i : Nat} {v : Int32} : sS (uI M j k v) i = sS M i := rfl
theorem sL_uI {M : MS} {j k i : Nat} {v : Int32} : sL (uI M j k v) i = sL M i := rfl
theorem sS_uL {M : MS} {j k i : Nat} {v : Int64} : sS (uL M j k v) i = sS M i := rfl
theorem sI_uL {M : MS} {j k i : Nat} {v : Int64} : sI (uL M j k v) i = sI M i := rfl
theorem sI_uI {M : MS} {j k i : Nat} {v : Int32} : sI (uI M j k v) i = if i = j then upd (sI M j) k v else sI M i := rfl
theorem sL_uL {M : MS} {j k i : Nat} {v : Int64} : sL (uL M j k v) i = if i = j then vp_updL (sL M j) k v else sL M i := rfl
theorem upd_at {f : Nat → Int32} {k x : Nat} {v : Int32} : upd f k v x = if x = k then v else f x := rfl
theorem updL_at {f : Nat → Int64} {k x : Nat} {v : Int64} : vp_updL f k v x = if x = k then v else f x := rfl
theorem MS_ext {M N : MS} (h1 : ∀ j, sS M j = sS N j) (h2 : ∀ j k, sI M j k = sI N j k) (h3 : ∀ j k, sL M j k = sL N j k) : M = N := by
  obtain ⟨a, b, c⟩ := M
  obtain ⟨a', b', c'⟩ := N
  have e1 : a = a' := funext h1
  have e2 : b = b' := funext fun j => funext (h2 j)
  have e3 : c = c' := funext fun j => funext (h3 j)
  subst e1; subst e2; subst e3; rfl
section CUT
variable {p : Program} {l : Launch} {e : Env} {R : Room} {s : State} {m : MethodId} {args : Array Value} {below : List Frame} {meth : Method} {c : Code} {H : Heap} {locs : List Loc} {cells slots : Nat} {Q : State → Prop}
/-- two roads that meet: the value on top at the meeting point -/
theorem sg_cuti {j : Nat} {ls : Array Slot} {rest : List Value} {g : JFrame} (Pj : Int32 → Prop) (k : ∀ x : Int32, Pj x → W p l e R s m args below meth c H locs cells slots Q (F0 m j ls (.int x :: rest)))
    (b : (∀ x : Int32, Pj x → W p l e R s m args below meth c H locs cells slots Q (F0 m j ls (.int x :: rest))) → W p l e R s m args below meth c H locs cells slots Q g) : W p l e R s m args below meth c H locs cells slots Q g := b k
theorem sg_cutl {j : Nat} {ls : Array Slot} {rest : List Value} {g : JFrame} (Pj : Int64 → Prop) (k : ∀ x : Int64, Pj x → W p l e R s m args below meth c H locs cells slots Q (F0 m j ls (.long x :: rest)))
    (b : (∀ x : Int64, Pj x → W p l e R s m args below meth c H locs cells slots Q (F0 m j ls (.long x :: rest))) → W p l e R s m args below meth c H locs cells slots Q g) : W p l e R s m args below meth c H locs cells slots Q g := b k
/-- two roads that meet, with worlds of their own -/
theorem sg_cutw {D : va_G} {A : Nat → Prop} {H0 : Heap} (_ : va_S A H0 H locs) {j : Nat} {ls : Array Slot} {rest : List Value} {g : JFrame} (cells' slots' : Nat) (Pj : sg_W → Prop) (k : ∀ (σ : sg_W) (H1 : Heap) (locs1 : List Loc), Pj σ → sg_P D σ H1 → sg_D A σ → va_S A H0 H1 locs1 → W p l e R s m args below meth c H1 locs1 cells' slots' Q (F0 m j ls rest))
    (b : (∀ (σ : sg_W) (H1 : Heap) (locs1 : List Loc), Pj σ → sg_P D σ H1 → sg_D A σ → va_S A H0 H1 locs1 → W p l e R s m args below meth c H1 locs1 cells' slots' Q (F0 m j ls rest)) → W p l e R s m args below meth c H locs cells slots Q g) : W p l e R s m args below meth c H locs cells slots Q g := b k
theorem sg_cutwi {D : va_G} {A : Nat → Prop} {H0 : Heap} (_ : va_S A H0 H locs) {j : Nat} {ls : Array Slot} {rest : List Value} {g : JFrame} (cells' slots' : Nat) (Pj : Int32 → sg_W → Prop) (k : ∀ (x : Int32) (σ : sg_W) (H1 : Heap) (locs1 : List Loc), Pj x σ → sg_P D σ H1 → sg_D A σ → va_S A H0 H1 locs1 → W p l e R s m args below meth c H1 locs1 cells' slots' Q (F0 m j ls (.int x :: rest)))
    (b : (∀ (x : Int32) (σ : sg_W) (H1 : Heap) (locs1 : List Loc), Pj x σ → sg_P D σ H1 → sg_D A σ → va_S A H0 H1 locs1 → W p l e R s m args below meth c H1 locs1 cells' slots' Q (F0 m j ls (.int x :: rest))) → W p l e R s m args below meth c H locs cells slots Q g) : W p l e R s m args below meth c H locs cells slots Q g := b k
theorem sg_cutwl {D : va_G} {A : Nat → Prop} {H0 : Heap} (_ : va_S A H0 H locs) {j : Nat} {ls : Array Slot} {rest : List Value} {g : JFrame} (cells' slots' : Nat) (Pj : Int64 → sg_W → Prop) (k : ∀ (x : Int64) (σ : sg_W) (H1 : Heap) (locs1 : List Loc), Pj x σ → sg_P D σ H1 → sg_D A σ → va_S A H0 H1 locs1 → W p l e R s m args below meth c H1 locs1 cells' slots' Q (F0 m j ls (.long x :: rest)))
    (b : (∀ (x : Int64) (σ : sg_W) (H1 : Heap) (locs1 : List Loc), Pj x σ → sg_P D σ H1 → sg_D A σ → va_S A H0 H1 locs1 → W p l e R s m args below meth c H1 locs1 cells' slots' Q (F0 m j ls (.long x :: rest))) → W p l e R s m args below meth c H locs cells slots Q g) : W p l e R s m args below meth c H locs cells slots Q g := b k
/-- a loop: n falls -/
theorem sg_loop {D : va_G} {A : Nat → Prop} {H0 : Heap} {T : Type} (j nL : Nat) (Inv : Nat → T → sg_W → Nat → Nat → Prop) (lv : T → List (Nat × Value))
    (step : ∀ (n : Nat) (t : T) (σ : sg_W) (cells slots : Nat) (H : Heap) (locs : List Loc) (ls : Array Slot), (∀ (n' : Nat) (t' : T) (σ' : sg_W) (cells' slots' : Nat) (H' : Heap) (locs' : List Loc) (ls' : Array Slot), n' < n → Inv n' t' σ' cells' slots' → sg_P D σ' H' → sg_D A σ' → va_S A H0 H' locs' → lv_has ls' nL (lv t') → W p l e R s m args below meth c H' locs' cells' slots' Q (F0 m j ls' [])) →
      Inv n t σ cells slots → sg_P D σ H → sg_D A σ → va_S A H0 H locs → lv_has ls nL (lv t) → W p l e R s m args below meth c H locs cells slots Q (F0 m j ls [])) :
    ∀ (n : Nat) (t : T) (σ : sg_W) (cells slots : Nat) (H : Heap) (locs : List Loc) (ls : Array Slot), Inv n t σ cells slots → sg_P D σ H → sg_D A σ → va_S A H0 H locs → lv_has ls nL (lv t) → W p l e R s m args below meth c H locs cells slots Q (F0 m j ls []) := by
  intro n
  induction n using Nat.strongRecOn with
  | _ n ih => exact fun t σ cells slots H locs ls h1 h2 h3 h4 h5 => step n t σ cells slots H locs ls (fun n' t' σ' c' s' H' l' ls' hn => ih n' hn t' σ' c' s' H' l' ls') h1 h2 h3 h4 h5
end CUT
