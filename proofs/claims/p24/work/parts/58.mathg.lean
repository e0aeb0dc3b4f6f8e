/-! MATH, a purchase: the state behind it -/
def renM (X : MS) (j : Nat) : MS := if sI X 1 (tN (sS X 0)) < sI X 1 (tN (sI X 10 j)) ∨ sI X 11 j + 1 = 4 then
    uI (uI (uI (uI X 11 j (sI X 11 j + 1)) 12 j (sI X 12 j + (if sI X 1 (tN (sS X 0)) < sI X 1 (tN (sI X 10 j)) then 1 else 0))) 10 j (sS X 0)) 11 j 0
  else uI X 11 j (sI X 11 j + 1)
theorem buyM_ren {M : MS} {j : Nat} : buyM M j = renM (buy1 M j) j := by
  unfold buyM renM buy2
  rw [buy1_S, buy1_I (by decide), buy1_I (by decide), buy1_I (by decide), buy1_I (by decide)]
theorem agr_ren {X : MS} {j z : Nat} (h : z ≠ j) : agr X (renM X j) z := by
  refine ⟨fun a h1 h2 => ?_, fun a => ?_, fun a k h1 h2 => ?_⟩
  · unfold renM; split
    · rw [xI_uI, xI_uI, xI_uI, xI_uI, if_neg (by omega), if_neg (by omega), if_neg (by omega), if_neg (by omega)]
    · rw [xI_uI, if_neg (by omega)]
  · unfold renM; split <;> rfl
  · unfold renM; split
    · rw [xI_uI, xI_uI, xI_uI, xI_uI, if_neg (by omega), if_neg (by omega), if_neg (by omega), if_neg (by omega)]
    · rw [xI_uI, if_neg (by omega)]
theorem ren_I {X : MS} {j a : Nat} (h : a ≠ 10 ∧ a ≠ 11 ∧ a ≠ 12) : sI (renM X j) a = sI X a := by
  unfold renM; split
  · rw [sI_uI, if_neg h.2.1, sI_uI, if_neg h.1, sI_uI, if_neg h.2.2, sI_uI, if_neg h.2.1]
  · rw [sI_uI, if_neg h.2.1]
theorem ren_S {X : MS} {j a : Nat} : sS (renM X j) a = sS X a := by unfold renM; split <;> rfl
theorem ren_L {X : MS} {j a : Nat} : sL (renM X j) a = sL X a := by unfold renM; split <;> rfl
theorem four_nat {w : Nat} (h : w ≤ 3) : (4 ≤ nI w + 1) ↔ (nI w + 1 = 4) := by
  rcases (show w = 0 ∨ w = 1 ∨ w = 2 ∨ w = 3 by omega) with rfl | rfl | rfl | rfl <;> decide
theorem kRen_C {c : CS} {mo price : Int32} : kC (kRenew c mo price) = kC c := by
  unfold kRenew
  split
  · rfl
  · split <;> rfl
theorem kRen_R {c : CS} {mo price : Int32} : kR (kRenew c mo price) = kR c := by
  unfold kRenew
  split
  · rfl
  · split <;> rfl
theorem kRen_V {c : CS} {mo price : Int32} : kV (kRenew c mo price) = kV c := by
  unfold kRenew
  split
  · rfl
  · split <;> rfl
theorem KM_ren {X : MS} {j w : Nat} {c : CS} (hK : KM X j c) (hw : w ≤ 3) (ew : sI X 11 j = nI w) : KM (renM X j) j (kRenew (uKI c 10 (kI c 10 + 1)) (sS X 0) (sI X 1 (tN (sS X 0)))) := by
  obtain ⟨⟨g1, g2, g3, g4, g5, g6, g7, g8, g9, g10, g11, g12⟩, hC, hT⟩ := hK
  have hf := four_nat hw
  have hcC : ∀ y, y < 5 → kC (kRenew (uKI c 10 (kI c 10 + 1)) (sS X 0) (sI X 1 (tN (sS X 0)))) y = cN (renM X j) j y := fun y hy => by
    have e : kC (kRenew (uKI c 10 (kI c 10 + 1)) (sS X 0) (sI X 1 (tN (sS X 0)))) = kC c := kRen_C
    unfold cN tm
    rw [e, ren_I (by decide), ren_I (by decide), ren_I (by decide)]
    exact hC y hy
  have hcT : ∀ k, k < 10 → KT (renM X j) (10 * j + k) (kRenew (uKI c 10 (kI c 10 + 1)) (sS X 0) (sI X 1 (tN (sS X 0)))) k := fun k hk => by
    have e : kR (kRenew (uKI c 10 (kI c 10 + 1)) (sS X 0) (sI X 1 (tN (sS X 0)))) = kR c := kRen_R
    have e2 : kV (kRenew (uKI c 10 (kI c 10 + 1)) (sS X 0) (sI X 1 (tN (sS X 0)))) = kV c := kRen_V
    have hT' := hT k hk
    unfold KT at hT' ⊢
    rw [e, e2, ren_I (by decide), ren_I (by decide), ren_I (by decide), ren_I (by decide), ren_I (by decide)]
    exact hT'
  refine ⟨?_, hcC, hcT⟩
  have q9 : kI (uKI c 10 (kI c 10 + 1)) 9 = sI X 1 (tN (sI X 10 j)) := g8
  have q10 : kI (uKI c 10 (kI c 10 + 1)) 10 = sI X 11 j + 1 := by rw [kI_uKI, if_pos rfl, g9]
  rw [ew] at q10
  unfold KI
  rw [ren_I (a := 4) (by decide), ren_I (a := 5) (by decide), ren_I (a := 6) (by decide), ren_I (a := 7) (by decide), ren_I (a := 1) (by decide), ren_L, ren_L, ren_L, ren_L]
  unfold kRenew renM
  rw [q9, q10, ew]
  by_cases hlt : sI X 1 (tN (sS X 0)) < sI X 1 (tN (sI X 10 j))
  · rw [if_pos hlt, if_pos (Or.inl hlt), if_pos hlt]
    refine ⟨g1, g2, g3, g4, g5, g6, ?_, ?_, ?_, ?_, g11, g12⟩
    · rw [xI_uI, xI_uI, if_neg (by omega), if_pos ⟨rfl, rfl⟩]; rfl
    · rw [xI_uI, xI_uI, if_neg (by omega), if_pos ⟨rfl, rfl⟩]; rfl
    · rw [xI_uI, if_pos ⟨rfl, rfl⟩]; rfl
    · rw [xI_uI, xI_uI, xI_uI, if_neg (by omega), if_neg (by omega), if_pos ⟨rfl, rfl⟩]
      show kI c 11 + 1 = _
      rw [g10]
  · rw [if_neg hlt, if_neg hlt]
    by_cases h4 : nI w + 1 = 4
    · rw [if_pos (hf.mpr h4), if_pos (Or.inr h4)]
      refine ⟨g1, g2, g3, g4, g5, g6, ?_, ?_, ?_, ?_, g11, g12⟩
      · rw [xI_uI, xI_uI, if_neg (by omega), if_pos ⟨rfl, rfl⟩]; rfl
      · rw [xI_uI, xI_uI, if_neg (by omega), if_pos ⟨rfl, rfl⟩]; rfl
      · rw [xI_uI, if_pos ⟨rfl, rfl⟩]; rfl
      · rw [xI_uI, xI_uI, xI_uI, if_neg (by omega), if_neg (by omega), if_pos ⟨rfl, rfl⟩]
        show kI c 11 = _
        rw [g10, Int32.add_zero]
    · rw [if_neg (fun q => h4 (hf.mp q)), if_neg (by rintro (q | q) <;> contradiction)]
      refine ⟨g1, g2, g3, g4, g5, g6, ?_, ?_, ?_, ?_, g11, g12⟩
      · rw [xI_uI, if_neg (by omega)]; exact g7
      · rw [xI_uI, if_neg (by omega)]; exact g8
      · rw [xI_uI, if_pos ⟨rfl, rfl⟩]; exact q10
      · rw [xI_uI, if_neg (by omega)]; exact g10
theorem mbr_ren {X : MS} {j t c : Nat} (h : mbr X t c j) (ht : 0 < t) (hn : sS X 0 = nI (t - 1)) : mbr (renM X j) t c j := by
  obtain ⟨f1, ⟨w, hw, f2⟩, f3, f4, f5⟩ := h
  unfold mbr
  rw [ren_I (a := 6) (by decide), ren_I (a := 4) (by decide), ren_I (a := 5) (by decide), ren_I (a := 7) (by decide)]
  refine ⟨?_, ?_, f3, f4, f5⟩
  · unfold renM
    split
    · rw [xI_uI, xI_uI, if_neg (by omega), if_pos ⟨rfl, rfl⟩, hn]
      exact ⟨t - 1, by omega, rfl⟩
    · rw [xI_uI, if_neg (by omega)]; exact f1
  · unfold renM
    split
    · rw [xI_uI, if_pos ⟨rfl, rfl⟩]
      exact ⟨0, by omega, rfl⟩
    · rename_i h
      rw [xI_uI, if_pos ⟨rfl, rfl⟩, f2, nI_1]
      refine ⟨w + 1, ?_, rfl⟩
      have : w ≠ 3 := by
        rintro rfl
        exact h (Or.inr (by rw [f2]; rfl))
      omega
/-- the bought lot -/
def lotM (M : MS) (j k : Nat) (n each : Int32) : MS := uL (uI (uI (uI (uI (uI M 15 (10 * j + k) n) 16 (10 * j + k) n) 17 (10 * j + k) each) 18 (10 * j + k) (sI M 10 j)) 6 j (sI M 6 j - n * each)) 8 j (sL M 8 j + (n * each).toInt64)
section
variable {M : MS} {j k : Nat} {n each : Int32}
theorem lotM_I {a x : Nat} (h : (a ≠ 15 ∧ a ≠ 16 ∧ a ≠ 17 ∧ a ≠ 18) ∨ x ≠ 10 * j + k) (h6 : a ≠ 6 ∨ x ≠ j) : sI (lotM M j k n each) a x = sI M a x := by
  unfold lotM
  rw [sI_uL, xI_uI, xI_uI, xI_uI, xI_uI, xI_uI, if_neg (by omega), if_neg (by omega), if_neg (by omega), if_neg (by omega), if_neg (by omega)]
theorem lotM_15 : sI (lotM M j k n each) 15 (10 * j + k) = n := by
  unfold lotM
  rw [sI_uL, xI_uI, xI_uI, xI_uI, xI_uI, xI_uI, if_neg (by omega), if_neg (by omega), if_neg (by omega), if_neg (by omega), if_pos ⟨rfl, rfl⟩]
theorem lotM_16 : sI (lotM M j k n each) 16 (10 * j + k) = n := by
  unfold lotM
  rw [sI_uL, xI_uI, xI_uI, xI_uI, xI_uI, if_neg (by omega), if_neg (by omega), if_neg (by omega), if_pos ⟨rfl, rfl⟩]
theorem lotM_17 : sI (lotM M j k n each) 17 (10 * j + k) = each := by
  unfold lotM
  rw [sI_uL, xI_uI, xI_uI, xI_uI, if_neg (by omega), if_neg (by omega), if_pos ⟨rfl, rfl⟩]
theorem lotM_18 : sI (lotM M j k n each) 18 (10 * j + k) = sI M 10 j := by
  unfold lotM
  rw [sI_uL, xI_uI, xI_uI, if_neg (by omega), if_pos ⟨rfl, rfl⟩]
theorem lotM_6 : sI (lotM M j k n each) 6 j = sI M 6 j - n * each := by
  unfold lotM
  rw [sI_uL, xI_uI, if_pos ⟨rfl, rfl⟩]
theorem lotM_8 : sL (lotM M j k n each) 8 j = sL M 8 j + (n * each).toInt64 := by
  unfold lotM
  rw [xL_uL, if_pos ⟨rfl, rfl⟩]
theorem lotM_L {a x : Nat} (h : a ≠ 8 ∨ x ≠ j) : sL (lotM M j k n each) a x = sL M a x := by
  unfold lotM
  rw [xL_uL, if_neg (by omega)]
  rfl
theorem lotM_1 : sI (lotM M j k n each) 1 = sI M 1 := funext fun x => lotM_I (Or.inl (by decide)) (Or.inl (by decide))
theorem lotM_S {a : Nat} : sS (lotM M j k n each) a = sS M a := rfl
theorem agr_lot {z : Nat} (hk : k < 10) (h : z ≠ j) : agr M (lotM M j k n each) z := ⟨fun a h1 h2 => lotM_I (Or.inl (by omega)) (Or.inr h), fun a => lotM_L (Or.inr h), fun a x h1 h2 => lotM_I (Or.inr (by omega)) (Or.inl (by omega))⟩
theorem tm_lot {q : Nat} (h : q ≠ 10 * j + k) (hq : 10 ≤ q ∨ True) : tm (lotM M j k n each) q = tm M q := by
  unfold tm
  rw [lotM_I (Or.inr h) (Or.inl (by decide)), lotM_I (Or.inr h) (Or.inl (by decide)), lotM_1]
theorem tm_new : tm (lotM M j k n each) (10 * j + k) = n.toInt64 * (sI M 1 (tN (sI M 10 j))).toInt64 := by
  unfold tm
  rw [lotM_15, lotM_18, lotM_1]
theorem cN_lot {y : Nat} (h : y ≠ k / 2) : cN (lotM M j k n each) j y = cN M j y := by
  unfold cN
  rw [tm_lot (by omega) (Or.inr trivial), tm_lot (by omega) (Or.inr trivial)]
theorem cN_new (h0 : sI M 15 (10 * j + k) = 0) : cN (lotM M j k n each) j (k / 2) = cN M j (k / 2) + n.toInt64 * (sI M 1 (tN (sI M 10 j))).toInt64 := by
  have ht : tm M (10 * j + k) = 0 := by
    unfold tm
    rw [h0, show (0 : Int32).toInt64 = 0 from rfl, Int64.zero_mul]
  unfold cN
  by_cases he : k = 2 * (k / 2)
  · have e : 10 * j + 2 * (k / 2) = 10 * j + k := by omega
    rw [e, tm_new, ht, tm_lot (by omega) (Or.inr trivial), Int64.zero_add, Int64.add_zero, Int64.zero_add, Int64.add_comm]
  · have e : 10 * j + (2 * (k / 2) + 1) = 10 * j + k := by omega
    rw [e, tm_new, ht, tm_lot (by omega) (Or.inr trivial), Int64.add_zero]
end
