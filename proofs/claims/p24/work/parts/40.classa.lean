/-! THE CLASS: a member's state by its fields' places: ints kI, longs kL, the counted row kC, the lots' references kR, the lots' fields kV -/
abbrev CS : Type := (Nat → Int32) × (Nat → Int64) × (Nat → Int64) × (Nat → Option Nat) × (Nat → Nat → Int32)
def kI (c : CS) (k : Nat) : Int32 := c.1 k
def kL (c : CS) (k : Nat) : Int64 := c.2.1 k
def kC (c : CS) : Nat → Int64 := c.2.2.1
def kR (c : CS) : Nat → Option Nat := c.2.2.2.1
def kV (c : CS) (k : Nat) : Nat → Int32 := c.2.2.2.2 k
def uKI (c : CS) (k : Nat) (v : Int32) : CS := (fun i => if i = k then v else c.1 i, c.2)
def uKL (c : CS) (k : Nat) (v : Int64) : CS := (c.1, fun i => if i = k then v else c.2.1 i, c.2.2)
def uKC (c : CS) (y : Nat) (v : Int64) : CS := (c.1, c.2.1, vp_updL c.2.2.1 y v, c.2.2.2)
def uKT (c : CS) (k q : Nat) (v : Nat → Int32) : CS := (c.1, c.2.1, c.2.2.1, va_up c.2.2.2.1 k (some q), fun i => if i = k then v else c.2.2.2.2 i)
def uK6 (c : CS) (k : Nat) (v : Int32) : CS := (c.1, c.2.1, c.2.2.1, c.2.2.2.1, fun i => if i = k then upd (c.2.2.2.2 k) 6 v else c.2.2.2.2 i)

theorem kI_uKI {c : CS} {j : Nat} {v : Int32} {i : Nat} : kI (uKI c j v) i = if i = j then v else kI c i := rfl
theorem kL_uKI {c : CS} {j : Nat} {v : Int32} {i : Nat} : kL (uKI c j v) i = kL c i := rfl
theorem kC_uKI {c : CS} {j : Nat} {v : Int32} : kC (uKI c j v) = kC c := rfl
theorem kR_uKI {c : CS} {j : Nat} {v : Int32} : kR (uKI c j v) = kR c := rfl
theorem kV_uKI {c : CS} {j : Nat} {v : Int32} {i : Nat} : kV (uKI c j v) i = kV c i := rfl
theorem kI_uKL {c : CS} {j : Nat} {v : Int64} {i : Nat} : kI (uKL c j v) i = kI c i := rfl
theorem kL_uKL {c : CS} {j : Nat} {v : Int64} {i : Nat} : kL (uKL c j v) i = if i = j then v else kL c i := rfl
theorem kC_uKL {c : CS} {j : Nat} {v : Int64} : kC (uKL c j v) = kC c := rfl
theorem kR_uKL {c : CS} {j : Nat} {v : Int64} : kR (uKL c j v) = kR c := rfl
theorem kV_uKL {c : CS} {j : Nat} {v : Int64} {i : Nat} : kV (uKL c j v) i = kV c i := rfl
theorem kI_uKC {c : CS} {j : Nat} {v : Int64} {i : Nat} : kI (uKC c j v) i = kI c i := rfl
theorem kL_uKC {c : CS} {j : Nat} {v : Int64} {i : Nat} : kL (uKC c j v) i = kL c i := rfl
theorem kC_uKC {c : CS} {j : Nat} {v : Int64} : kC (uKC c j v) = vp_updL (kC c) j v := rfl
theorem kR_uKC {c : CS} {j : Nat} {v : Int64} : kR (uKC c j v) = kR c := rfl
theorem kV_uKC {c : CS} {j : Nat} {v : Int64} {i : Nat} : kV (uKC c j v) i = kV c i := rfl
theorem kI_uKT {c : CS} {j q : Nat} {v : Nat → Int32} {i : Nat} : kI (uKT c j q v) i = kI c i := rfl
theorem kL_uKT {c : CS} {j q : Nat} {v : Nat → Int32} {i : Nat} : kL (uKT c j q v) i = kL c i := rfl
theorem kC_uKT {c : CS} {j q : Nat} {v : Nat → Int32} : kC (uKT c j q v) = kC c := rfl
theorem kR_uKT {c : CS} {j q : Nat} {v : Nat → Int32} : kR (uKT c j q v) = va_up (kR c) j (some q) := rfl
theorem kV_uKT {c : CS} {j q : Nat} {v : Nat → Int32} {i : Nat} : kV (uKT c j q v) i = if i = j then v else kV c i := rfl
theorem kI_uK6 {c : CS} {j : Nat} {v : Int32} {i : Nat} : kI (uK6 c j v) i = kI c i := rfl
theorem kL_uK6 {c : CS} {j : Nat} {v : Int32} {i : Nat} : kL (uK6 c j v) i = kL c i := rfl
theorem kC_uK6 {c : CS} {j : Nat} {v : Int32} : kC (uK6 c j v) = kC c := rfl
theorem kR_uK6 {c : CS} {j : Nat} {v : Int32} : kR (uK6 c j v) = kR c := rfl
theorem kV_uK6 {c : CS} {j : Nat} {v : Int32} {i : Nat} : kV (uK6 c j v) i = if i = j then upd (kV c j) 6 v else kV c i := rfl
def lotF (v : Nat → Int32) : List Value := [.int (v 0), .int (v 1), .int (v 2), .int (v 3), .int (v 4), .int (v 5), .int (v 6)]
def k_f (aL aC : Nat) (c : CS) : List Value := [.ref aL, .ref aC, .int (kI c 2), .int (kI c 3), .long (kL c 4), .long (kL c 5), .long (kL c 6), .long (kL c 7), .int (kI c 8), .int (kI c 9), .int (kI c 10), .int (kI c 11), .long (kL c 12), .long (kL c 13)]
/-- σ holds a member at the names n .. n + 12: n the object, n + 1 the lots' row, n + 2 the counted row, n + 3 + k the k-th lot; off n .. n + 19 it is σ0 -/
def KF (Y : Nat → ClassId) (n aO aL aC : Nat) (σ0 : sg_W) (c : CS) (σ : sg_W) : Prop := σ n = some (aO, .inr (1, k_f aL aC c)) ∧ σ (n + 1) = some (aL, .inl (Y 3, 10, .inr (.inr (.inr (.inr (kR c)))))) ∧ σ (n + 2) = some (aC, .inl (Y 1, 5, .inr (.inl (kC c)))) ∧ (∀ k, k < 10 → ∀ a, kR c k = some a → σ (n + 3 + k) = some (a, .inr (0, lotF (kV c k)))) ∧ ∀ j, ¬ (n ≤ j ∧ j < n + 20) → σ j = σ0 j
section
variable {Y : Nat → ClassId} {n aO aL aC : Nat} {σ0 σ σ1 : sg_W} {c c' : CS}
theorem KF.self (h : KF Y n aO aL aC σ0 c σ) : KF Y n aO aL aC σ c σ := ⟨h.1, h.2.1, h.2.2.1, h.2.2.2.1, fun _ _ => rfl⟩
theorem KF.trans (h0 : KF Y n aO aL aC σ0 c σ1) (h : KF Y n aO aL aC σ1 c' σ) : KF Y n aO aL aC σ0 c' σ := ⟨h.1, h.2.1, h.2.2.1, h.2.2.2.1, fun j hj => (h.2.2.2.2 j hj).trans (h0.2.2.2.2 j hj)⟩
theorem KF.to (h : KF Y n aO aL aC σ0 c σ) (e : c = c') : KF Y n aO aL aC σ0 c' σ := e ▸ h
theorem KF.obj (h : KF Y n aO aL aC σ0 c σ) {fs : List Value} (e : k_f aL aC c' = fs) (h1 : kC c' = kC c) (h2 : kR c' = kR c) (h3 : ∀ k, kV c' k = kV c k) : KF Y n aO aL aC σ0 c' (sg_u σ n aO (.inr (1, fs))) := by
  obtain ⟨g1, g2, g3, g4, g5⟩ := h
  refine ⟨by rw [sg_ue, e], by rw [sg_un (by omega), g2, h2], by rw [sg_un (by omega), g3, h1], fun k hk a ha => ?_, fun j hj => ?_⟩
  · rw [sg_un (by omega), h3]
    rw [h2] at ha
    exact g4 k hk a ha
  · rw [sg_un (by omega)]
    exact g5 j hj
theorem KF.i2 {v : Int32} (h : KF Y n aO aL aC σ0 c σ) : KF Y n aO aL aC σ0 (uKI c 2 v) (sg_u σ n aO (.inr (1, (k_f aL aC c).set 2 (.int v)))) := h.obj (by simp [k_f, kI_uKI, kL_uKI]) rfl rfl (fun _ => rfl)
theorem KF.i3 {v : Int32} (h : KF Y n aO aL aC σ0 c σ) : KF Y n aO aL aC σ0 (uKI c 3 v) (sg_u σ n aO (.inr (1, (k_f aL aC c).set 3 (.int v)))) := h.obj (by simp [k_f, kI_uKI, kL_uKI]) rfl rfl (fun _ => rfl)
theorem KF.i8 {v : Int32} (h : KF Y n aO aL aC σ0 c σ) : KF Y n aO aL aC σ0 (uKI c 8 v) (sg_u σ n aO (.inr (1, (k_f aL aC c).set 8 (.int v)))) := h.obj (by simp [k_f, kI_uKI, kL_uKI]) rfl rfl (fun _ => rfl)
theorem KF.i9 {v : Int32} (h : KF Y n aO aL aC σ0 c σ) : KF Y n aO aL aC σ0 (uKI c 9 v) (sg_u σ n aO (.inr (1, (k_f aL aC c).set 9 (.int v)))) := h.obj (by simp [k_f, kI_uKI, kL_uKI]) rfl rfl (fun _ => rfl)
theorem KF.i10 {v : Int32} (h : KF Y n aO aL aC σ0 c σ) : KF Y n aO aL aC σ0 (uKI c 10 v) (sg_u σ n aO (.inr (1, (k_f aL aC c).set 10 (.int v)))) := h.obj (by simp [k_f, kI_uKI, kL_uKI]) rfl rfl (fun _ => rfl)
theorem KF.i11 {v : Int32} (h : KF Y n aO aL aC σ0 c σ) : KF Y n aO aL aC σ0 (uKI c 11 v) (sg_u σ n aO (.inr (1, (k_f aL aC c).set 11 (.int v)))) := h.obj (by simp [k_f, kI_uKI, kL_uKI]) rfl rfl (fun _ => rfl)
theorem KF.l4 {v : Int64} (h : KF Y n aO aL aC σ0 c σ) : KF Y n aO aL aC σ0 (uKL c 4 v) (sg_u σ n aO (.inr (1, (k_f aL aC c).set 4 (.long v)))) := h.obj (by simp [k_f, kI_uKL, kL_uKL]) rfl rfl (fun _ => rfl)
theorem KF.l5 {v : Int64} (h : KF Y n aO aL aC σ0 c σ) : KF Y n aO aL aC σ0 (uKL c 5 v) (sg_u σ n aO (.inr (1, (k_f aL aC c).set 5 (.long v)))) := h.obj (by simp [k_f, kI_uKL, kL_uKL]) rfl rfl (fun _ => rfl)
theorem KF.l6 {v : Int64} (h : KF Y n aO aL aC σ0 c σ) : KF Y n aO aL aC σ0 (uKL c 6 v) (sg_u σ n aO (.inr (1, (k_f aL aC c).set 6 (.long v)))) := h.obj (by simp [k_f, kI_uKL, kL_uKL]) rfl rfl (fun _ => rfl)
theorem KF.l7 {v : Int64} (h : KF Y n aO aL aC σ0 c σ) : KF Y n aO aL aC σ0 (uKL c 7 v) (sg_u σ n aO (.inr (1, (k_f aL aC c).set 7 (.long v)))) := h.obj (by simp [k_f, kI_uKL, kL_uKL]) rfl rfl (fun _ => rfl)
theorem KF.l12 {v : Int64} (h : KF Y n aO aL aC σ0 c σ) : KF Y n aO aL aC σ0 (uKL c 12 v) (sg_u σ n aO (.inr (1, (k_f aL aC c).set 12 (.long v)))) := h.obj (by simp [k_f, kI_uKL, kL_uKL]) rfl rfl (fun _ => rfl)
theorem KF.l13 {v : Int64} (h : KF Y n aO aL aC σ0 c σ) : KF Y n aO aL aC σ0 (uKL c 13 v) (sg_u σ n aO (.inr (1, (k_f aL aC c).set 13 (.long v)))) := h.obj (by simp [k_f, kI_uKL, kL_uKL]) rfl rfl (fun _ => rfl)
theorem KF.cnt {y : Nat} {v : Int64} (h : KF Y n aO aL aC σ0 c σ) : KF Y n aO aL aC σ0 (uKC c y v) (sg_u σ (n + 2) aC (.inl (Y 1, 5, .inr (.inl (vp_updL (kC c) y v))))) := by
  obtain ⟨g1, g2, g3, g4, g5⟩ := h
  refine ⟨by rw [sg_un (by omega)]; exact g1, by rw [sg_un (by omega)]; exact g2, by rw [sg_ue]; rfl, fun k hk a ha => ?_, fun j hj => ?_⟩
  · rw [sg_un (by omega)]
    exact g4 k hk a ha
  · rw [sg_un (by omega)]
    exact g5 j hj
theorem KF.put {k q : Nat} {v : Nat → Int32} (h : KF Y n aO aL aC σ0 c σ) (hv : σ (n + 3 + k) = some (q, .inr (0, lotF v))) : KF Y n aO aL aC σ0 (uKT c k q v) (sg_u σ (n + 1) aL (.inl (Y 3, 10, .inr (.inr (.inr (.inr (va_up (kR c) k (some q)))))))) := by
  obtain ⟨g1, g2, g3, g4, g5⟩ := h
  refine ⟨by rw [sg_un (by omega)]; exact g1, by rw [sg_ue]; rfl, by rw [sg_un (by omega)]; exact g3, fun i hi a ha => ?_, fun j hj => ?_⟩
  · rw [sg_un (by omega)]
    rw [kR_uKT] at ha
    rw [kV_uKT]
    by_cases hik : i = k
    · subst hik
      rw [va_up_self] at ha
      cases ha
      rw [if_pos rfl]
      exact hv
    · rw [va_up_ne _ _ hik] at ha
      rw [if_neg hik]
      exact g4 i hi a ha
  · rw [sg_un (by omega)]
    exact g5 j hj
theorem KF.lot {k a : Nat} (h : KF Y n aO aL aC σ0 c σ) (hk : k < 10) (ha : kR c k = some a) : σ (n + 3 + k) = some (a, .inr (0, lotF (kV c k))) := h.2.2.2.1 k hk a ha
theorem KF.left {k a : Nat} {v : Int32} (h : KF Y n aO aL aC σ0 c σ) (hk : k < 10) (hr : kR c k = some a) : KF Y n aO aL aC σ0 (uK6 c k v) (sg_u σ (n + 3 + k) a (.inr (0, (lotF (kV c k)).set 6 (.int v)))) := by
  obtain ⟨g1, g2, g3, g4, g5⟩ := h
  refine ⟨by rw [sg_un (by omega)]; exact g1, by rw [sg_un (by omega)]; exact g2, by rw [sg_un (by omega)]; exact g3, fun i hi b hb => ?_, fun j hj => ?_⟩
  · rw [kR_uK6] at hb
    rw [kV_uK6]
    by_cases hik : i = k
    · subst hik
      rw [hr] at hb
      cases hb
      rw [if_pos rfl, sg_ue]
      rfl
    · rw [sg_un (by omega), if_neg hik]
      exact g4 i hi b hb
  · rw [sg_un (by omega)]
    exact g5 j hj
theorem KF.fresh {k q : Nat} {e : va_E} (h : KF Y n aO aL aC σ0 c σ) (hk : k < 10) (hr : kR c k = none) : KF Y n aO aL aC σ0 c (sg_u σ (n + 3 + k) q e) := by
  obtain ⟨g1, g2, g3, g4, g5⟩ := h
  refine ⟨by rw [sg_un (by omega)]; exact g1, by rw [sg_un (by omega)]; exact g2, by rw [sg_un (by omega)]; exact g3, fun i hi b hb => ?_, fun j hj => ?_⟩
  · rw [sg_un (by rintro h; have : i = k := by omega
                  subst this; rw [hr] at hb; cases hb)]
    exact g4 i hi b hb
  · rw [sg_un (by omega)]
    exact g5 j hj
end
/-! a lot's words -/
def lE (v : Nat → Int32) (now : Int32) : Int32 := bI (now - v 3 < 24 ∨ now - v 0 < 12)
def lMin (x y : Int32) : Int32 := if y < x then y else x
def lMax (x y : Int32) : Int32 := if x < y then y else x
def lP (v : Nat → Int32) (now price : Int32) : Int64 := if lE v now = 0 then (lMax 0 (lMin (v 4 * 15 / 100) (price - v 2))).toInt64 else (v 1 - v 2).toInt64
def lG (v : Nat → Int32) (now price : Int32) : Int64 := (price - v 2).toInt64 - lP v now price
/-! a member's words -/
def kWhole (a b : Int64) : Int64 := if a ≤ 0 ∨ b ≤ 0 then 0 else a / b
def kCnt (c : CS) (y : Int32) : Int64 := if y < 0 ∨ 5 ≤ y then 0 else kC c (tN y)
def kAdd (c : CS) (y : Int32) (v : Int64) : CS := if y < 0 ∨ 5 ≤ y then c else uKC c (tN y) (kC c (tN y) + v)
def kSum (c : CS) : Nat → Int32
  | 0 => 0
  | k + 1 => if kR c k = none then kSum c k else kSum c k + kV c k 6
def kGN (c : CS) (now price : Int32) : Nat → Int64
  | 0 => 0
  | k + 1 => if kR c k = none then kGN c now price k else kGN c now price k + (kV c k 6).toInt64 * lG (kV c k) now price
abbrev kSell : Type := CS × Int32 × Int32
def kSo (c : CS) (k : Nat) (op : Int32) : Int32 := lMin op (kV c k 6)
def kSellS (now price : Int32) (k : Nat) (x : kSell) : kSell := if kR x.1 k = none then x else
  (uK6 (uKL (uKL x.1 12 (kL x.1 12 + (kSo x.1 k x.2.1).toInt64 * lP (kV x.1 k) now price)) 13 (kL x.1 13 + (kSo x.1 k x.2.1).toInt64 * lG (kV x.1 k) now price)) k (kV x.1 k 6 - kSo x.1 k x.2.1),
    x.2.1 - kSo x.1 k x.2.1, x.2.2 + (if lE (kV x.1 k) now = 0 then 0 else kSo x.1 k x.2.1))
def kSellN (now price : Int32) : Nat → kSell → kSell
  | 0, x => x
  | k + 1, x => kSellS now price k (kSellN now price k x)
def kEach (c : CS) (price : Int32) : Int32 := (lMin (kI c 9) price * 85 + 100 - 1) / 100
def lMinL (x y : Int64) : Int64 := if y < x then y else x
def kNum (c : CS) (mo price ce : Int32) : Int32 := (lMinL (kWhole (kL c 4) (kEach c price).toInt64) (kWhole (ce.toInt64 - kCnt c (mo / 12)) (kI c 9).toInt64)).toInt32
def kLotV (c : CS) (mo price n : Int32) : Nat → Int32 := fun i => match i with
  | 0 => mo
  | 1 => price
  | 2 => kEach c price
  | 3 => kI c 8
  | 4 => kI c 9
  | _ => n
def kBuy1 (c : CS) (mo price ce : Int32) (q : Nat) : CS := if 0 < kNum c mo price ce then
    uKL (uKL (kAdd (uKT c (tN (mo / 6)) q (kLotV c mo price (kNum c mo price ce))) (mo / 12) ((kNum c mo price ce).toInt64 * (kI c 9).toInt64)) 4 (kL c 4 - (kNum c mo price ce).toInt64 * (kEach c price).toInt64)) 5 (kL c 5 + (kNum c mo price ce).toInt64 * (kEach c price).toInt64)
  else c
def kRenew (c : CS) (mo price : Int32) : CS := if price < kI c 9 then uKI (uKI (uKI (uKI c 11 (kI c 11 + 1)) 8 mo) 9 price) 10 0 else if 4 ≤ kI c 10 then uKI (uKI (uKI c 8 mo) 9 price) 10 0 else c
def kBuyM (c : CS) (mo price ce : Int32) (q : Nat) : CS := kRenew (uKI (kBuy1 c mo price ce q) 10 (kI (kBuy1 c mo price ce q) 10 + 1)) mo price
