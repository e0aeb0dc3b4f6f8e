/-! MATH, of numbers -/
theorem i32_sub {x y : Int32} (h1 : -2147483648 ≤ x.toInt - y.toInt) (h2 : x.toInt - y.toInt < 2147483648) : (x - y).toInt = x.toInt - y.toInt := by
  rw [Int32.toInt_sub]; exact Int.bmod_eq_of_le (by omega) (by omega)
theorem toI_sub {x y : Int32} (h1 : -2147483648 ≤ x.toInt - y.toInt) (h2 : x.toInt - y.toInt < 2147483648) : (x - y).toInt64 = x.toInt64 - y.toInt64 := by
  refine Int64.toInt_inj.mp ?_
  rw [Int32.toInt_toInt64, i32_sub h1 h2, Int64.toInt_sub, Int32.toInt_toInt64, Int32.toInt_toInt64]
  exact (Int.bmod_eq_of_le (by omega) (by omega)).symm
theorem l32_back (x : Int32) : x.toInt64.toInt32 = x := Int32.toInt32_toInt64 x
theorem mm_eq (a b : Int32) : lMax 0 (lMin a b) = if (if a < b then a else b) < 0 then 0 else (if a < b then a else b) := by
  have e : lMin a b = if a < b then a else b := by
    unfold lMin
    by_cases h1 : b < a <;> by_cases h2 : a < b <;> simp only [h1, h2, if_true, if_false] <;>
      (apply Int32.toInt_inj.mp; simp only [Int32.lt_iff_toInt_lt] at h1 h2; omega)
  rw [e]
  generalize (if a < b then a else b) = w
  unfold lMax
  have a1 : (0 : Int32).toInt = 0 := rfl
  by_cases h1 : 0 < w <;> by_cases h2 : w < 0 <;> simp only [h1, h2, if_true, if_false] <;>
    (apply Int32.toInt_inj.mp; simp only [Int32.lt_iff_toInt_lt] at h1 h2; omega)
theorem lMin_sold (M : MS) (q : Nat) (op : Int32) : lMin op (sI M 16 q) = soldN M q op := by
  unfold lMin soldN
  generalize sI M 16 q = b
  by_cases h1 : b < op <;> by_cases h2 : op < b <;> simp only [h1, h2, if_true, if_false] <;>
    (apply Int32.toInt_inj.mp; simp only [Int32.lt_iff_toInt_lt] at h1 h2; omega)
/-! a lot of the class and a lot of the reference -/
def KT (M : MS) (q : Nat) (c : CS) (k : Nat) : Prop := (sI M 15 q = 0 ∧ sI M 16 q = 0 ∧ kR c k = none) ∨ (sI M 15 q ≠ 0 ∧ kR c k ≠ none ∧ kV c k 0 = nI (6 * k + 5) ∧ kV c k 1 = sI M 1 (6 * k + 5) ∧ kV c k 2 = sI M 17 q ∧ kV c k 3 = sI M 18 q ∧ kV c k 4 = sI M 1 (tN (sI M 18 q)) ∧ kV c k 5 = sI M 15 q ∧ kV c k 6 = sI M 16 q)
def KI (M : MS) (j : Nat) (c : CS) : Prop := kI c 2 = sI M 4 j ∧ kI c 3 = sI M 5 j ∧ kL c 4 = (sI M 6 j).toInt64 ∧ kL c 5 = sL M 8 j ∧ kL c 6 = (sI M 7 j).toInt64 ∧ kL c 7 = sL M 9 j ∧ kI c 8 = sI M 10 j ∧ kI c 9 = sI M 1 (tN (sI M 10 j)) ∧ kI c 10 = sI M 11 j ∧ kI c 11 = sI M 12 j ∧ kL c 12 = sL M 13 j ∧ kL c 13 = sL M 14 j
def KM (M : MS) (j : Nat) (c : CS) : Prop := KI M j c ∧ (∀ y, y < 5 → kC c y = cN M j y) ∧ ∀ k, k < 10 → KT M (10 * j + k) c k
/-- prices -/
def prc (x : Int32) : Prop := ∃ w : Nat, 1 ≤ w ∧ w ≤ 100000 ∧ x = nI w
/-- what a lot that stands needs: its prices are prices, it was paid for -/
def lotB (M : MS) (q : Nat) : Prop := prc (sI M 1 (6 * (q % 10) + 5)) ∧ prc (sI M 1 (tN (sI M 18 q))) ∧ prc (sI M 1 (tN (sS M 0))) ∧ ∃ w : Nat, w ≤ 100000 ∧ sI M 17 q = nI w
theorem pq_bound {M : MS} {q : Nat} (h : lotB M q) : -100000 ≤ (pq M q).toInt ∧ (pq M q).toInt ≤ 100000 := by
  obtain ⟨⟨w1, -, h1, e1⟩, ⟨w3, -, h3, e3⟩, ⟨w4, -, h4, e4⟩, ⟨w2, h2, e2⟩⟩ := h
  have a1 : (nI w1 - nI w2).toInt = (w1 : Int) - w2 := pk_sub_toInt (by omega) (by omega)
  have a2 : (nI w4 - nI w2).toInt = (w4 : Int) - w2 := pk_sub_toInt (by omega) (by omega)
  have a3 : 15 * nI w3 / 100 = nI (15 * w3 / 100) := by
    rw [show (15 : Int32) = nI 15 from rfl, pk_mul, show (100 : Int32) = nI 100 from rfl, pk_div (by omega) (by omega) (by omega)]
  have a4 : (nI (15 * w3 / 100)).toInt = ((15 * w3 / 100 : Nat) : Int) := nI_toInt (by omega)
  have a0 : (0 : Int32).toInt = 0 := rfl
  unfold pq
  rw [e1, e2, e3, e4, a3]
  split
  · rw [a1]; omega
  · split <;> split <;> first | (rw [a0]; omega) | (rw [a4]; omega) | (rw [a2]; omega)
theorem gq_split {M : MS} {q : Nat} (h : lotB M q) : (sI M 1 (tN (sS M 0)) - sI M 17 q - pq M q).toInt64 = (sI M 1 (tN (sS M 0)) - sI M 17 q).toInt64 - (pq M q).toInt64 := by
  have hb := pq_bound h
  obtain ⟨-, -, ⟨w4, -, h4, e4⟩, ⟨w2, h2, e2⟩⟩ := h
  have a2 : (nI w4 - nI w2).toInt = (w4 : Int) - w2 := pk_sub_toInt (by omega) (by omega)
  rw [e4, e2]
  exact toI_sub (by rw [a2]; omega) (by rw [a2]; omega)
theorem lE_eQ {M : MS} {q k : Nat} {v : Nat → Int32} (hk : q % 10 = k) (h0 : v 0 = nI (6 * k + 5)) (h3 : v 3 = sI M 18 q) : lE v (sS M 0) = eQ M q := by
  unfold lE eQ
  rw [h0, h3, hk]
theorem lP_pq {M : MS} {q k : Nat} {v : Nat → Int32} (hk : q % 10 = k) (h0 : v 0 = nI (6 * k + 5)) (h1 : v 1 = sI M 1 (6 * k + 5)) (h2 : v 2 = sI M 17 q) (h3 : v 3 = sI M 18 q) (h4 : v 4 = sI M 1 (tN (sI M 18 q))) : lP v (sS M 0) (sI M 1 (tN (sS M 0))) = (pq M q).toInt64 := by
  unfold lP pq
  rw [lE_eQ hk h0 h3, h1, h2, h4, hk]
  rcases eQ_01 (M := M) (q := q) with h | h
  · rw [if_pos h, if_neg (by rw [h]; decide), Int32.mul_comm, mm_eq]
  · rw [if_neg (by rw [h]; decide), if_pos h]
theorem lG_gq {M : MS} {q k : Nat} {v : Nat → Int32} (hB : lotB M q) (hk : q % 10 = k) (h0 : v 0 = nI (6 * k + 5)) (h1 : v 1 = sI M 1 (6 * k + 5)) (h2 : v 2 = sI M 17 q) (h3 : v 3 = sI M 18 q) (h4 : v 4 = sI M 1 (tN (sI M 18 q))) : lG v (sS M 0) (sI M 1 (tN (sS M 0))) = (sI M 1 (tN (sS M 0)) - sI M 17 q - pq M q).toInt64 := by
  unfold lG
  rw [lP_pq hk h0 h1 h2 h3 h4, gq_split hB, h2]
theorem kSum_sH {M : MS} {j : Nat} {c : CS} (h : ∀ k, k < 10 → KT M (10 * j + k) c k) : ∀ k, k ≤ 10 → kSum c k = sH M j k
  | 0, _ => rfl
  | k + 1, hk => by
    have ih := kSum_sH h k (by omega)
    rw [kSum, sH, ih]
    rcases h k (by omega) with ⟨-, h2, h3⟩ | ⟨-, h3, -, -, -, -, -, -, h6⟩
    · rw [if_pos h3, h2, Int32.add_zero]
    · rw [if_neg h3, h6]
/-- had is never below 0 -/
def hadN (M : MS) (q : Nat) : Prop := ∃ w : Nat, w < 2 ^ 31 ∧ sI M 16 q = nI w
theorem kGN_gN {M : MS} {j : Nat} {c : CS} (h : ∀ k, k < 10 → KT M (10 * j + k) c k) (hB : ∀ k, k < 10 → sI M 15 (10 * j + k) ≠ 0 → lotB M (10 * j + k)) (hh : ∀ k, k < 10 → hadN M (10 * j + k)) : ∀ k, k ≤ 10 → kGN c (sS M 0) (sI M 1 (tN (sS M 0))) k = gN M j k
  | 0, _ => rfl
  | k + 1, hk => by
    have ih := kGN_gN h hB hh k (by omega)
    rw [kGN, gN, ih]
    rcases h k (by omega) with ⟨-, h2, h3⟩ | ⟨hb, h3, v0, v1, v2, v3, v4, -, v6⟩
    · rw [if_pos h3, h2, if_neg (by decide), Int64.add_zero]
    · rw [if_neg h3, v6, lG_gq (hB k (by omega) hb) (by omega) v0 v1 v2 v3 v4]
      obtain ⟨w, hw, e⟩ := hh k (by omega)
      by_cases h0 : w = 0
      · rw [e, h0, if_neg (by decide), show (nI 0).toInt64 = 0 from rfl, Int64.zero_mul]
      · rw [if_pos (by rw [e]; exact nI_lt (a := 0) (by omega) hw)]
        rfl
