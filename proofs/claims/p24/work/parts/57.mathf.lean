/-! MATH, a purchase: how many -/
theorem each_nat {a b : Nat} (ha : 1 ≤ a) (ha2 : a ≤ 100000) (hb : 1 ≤ b) (hb2 : b ≤ 100000) : ∃ e : Nat, 1 ≤ e ∧ e ≤ 100000 ∧ (85 * (if nI a < nI b then nI a else nI b) + 99) / 100 = nI e ∧ (lMin (nI a) (nI b) * 85 + 100 - 1) / 100 = nI e := by
  refine ⟨(85 * (if a < b then a else b) + 99) / 100, by split <;> omega, by split <;> omega, ?_, ?_⟩
  · have e1 : (if nI a < nI b then nI a else nI b) = nI (if a < b then a else b) := by
      by_cases h : a < b
      · rw [if_pos h, if_pos (nI_lt h (by omega))]
      · rw [if_neg h, if_neg (nI_nlt (by omega) (by omega))]
    rw [e1]
    generalize hm : (if a < b then a else b) = m
    have hm2 : m ≤ 100000 := by rw [← hm]; split <;> omega
    rw [show (85 : Int32) = nI 85 from rfl, pk_mul, show (99 : Int32) = nI 99 from rfl, nI_add, show (100 : Int32) = nI 100 from rfl, pk_div (by omega) (by omega) (by omega)]
  · have e1 : lMin (nI a) (nI b) = nI (if a < b then a else b) := by
      unfold lMin
      by_cases h : b < a
      · rw [if_pos (nI_lt h (by omega)), if_neg (by omega)]
      · rw [if_neg (nI_nlt (by omega) (by omega))]
        by_cases h2 : a < b
        · rw [if_pos h2]
        · rw [if_neg h2, show a = b by omega]
    rw [e1]
    generalize hm : (if a < b then a else b) = m
    have hm2 : m ≤ 100000 := by rw [← hm]; split <;> omega
    rw [show (85 : Int32) = nI 85 from rfl, pk_mul, show (100 : Int32) = nI 100 from rfl, nI_add, show (1 : Int32) = nI 1 from rfl, pk_sub (by omega), show m * 85 + 100 - 1 = 85 * m + 99 by omega, pk_div (by omega) (by omega) (by omega)]
theorem l_of {x : Int64} (h : 0 < x.toInt) : ∃ n : Nat, n < 2 ^ 63 ∧ 0 < n ∧ x = lN n := by
  refine ⟨x.toInt.toNat, ?_, by omega, ?_⟩
  · have := Int64.toInt_lt x
    omega
  · have h1 := Int64.toInt_lt x
    refine Int64.toInt_inj.mp ?_
    rw [show (lN x.toInt.toNat).toInt = (x.toInt.toNat : Int) from lg_ofNat_toInt (by omega)]
    omega
theorem room_neg {A : Int64} {a : Nat} (h : A.toInt ≤ 0) (h0 : 1 ≤ a) (ha : a < 2 ^ 31) : (A / lN a).toInt ≤ 0 := by
  have e : (A / lN a).toInt = (A.toInt.tdiv (lN a).toInt) := by
    rw [Int64.toInt_div_of_ne_right]
    intro e
    have := congrArg Int64.toInt e
    rw [lN_toInt ha] at this
    have h1 : ((-1 : Int64)).toInt = -1 := rfl
    omega
  rw [e, lN_toInt ha]
  have : 0 ≤ (-A.toInt).tdiv (a : Int) := Int.tdiv_nonneg (by omega) (by omega)
  rw [Int.neg_tdiv] at this
  omega
/-- the numbers of shares agree -/
theorem num_nat {A : Int64} {w e a : Nat} (he : 1 ≤ e) (ha : 1 ≤ a) (hw : w < 2 ^ 31) (he2 : e < 2 ^ 31) (ha2 : a < 2 ^ 31) : ∃ x : Nat, x ≤ w / e ∧
    (lMinL (kWhole (nI w).toInt64 (nI e).toInt64) (kWhole A (nI a).toInt64)).toInt32 = nI x ∧
    (if A / (nI a).toInt64 < 0 then 0 else if A / (nI a).toInt64 < (nI w / nI e).toInt64 then (A / (nI a).toInt64).toInt32 else nI w / nI e) = nI x := by
  have hq : w / e ≤ w := Nat.div_le_self w e
  have e1 : kWhole (nI w).toInt64 (nI e).toInt64 = lN (w / e) := by
    unfold kWhole
    rw [nI_l hw, nI_l he2]
    by_cases h0 : w = 0
    · rw [h0, Nat.zero_div, if_pos (Or.inl (by decide))]; rfl
    · rw [if_neg, pk_lDiv (by omega) (by omega) (by omega)]
      rintro (h | h)
      · have := (pk_lLE (a := w) (b := 0) (by omega) (by omega)).mp h
        omega
      · have := (pk_lLE (a := e) (b := 0) (by omega) (by omega)).mp h
        omega
  have e2 : nI w / nI e = nI (w / e) := pk_div hw (by omega) he2
  rw [e1, e2, nI_l (n := w / e) (by omega), nI_l ha2]
  have hq0 : 0 ≤ w / e := Nat.zero_le _
  generalize hd : w / e = d at hq e1 e2 hq0 ⊢
  have z : ∀ x : Int64, x < 0 ↔ x.toInt < 0 := fun x => Int64.lt_iff_toInt_lt
  by_cases hA : A.toInt ≤ 0
  · have k1 : kWhole A (lN a) = lN 0 := by
      unfold kWhole
      rw [if_pos (Or.inl (Int64.le_iff_toInt_le.mpr hA))]; rfl
    have k2 := room_neg hA ha ha2
    refine ⟨0, Nat.zero_le _, ?_, ?_⟩
    · rw [k1]
      unfold lMinL
      by_cases h : 0 < d
      · rw [if_pos ((pk_lLT (by omega) (by omega)).mpr h), lN_i]
      · rw [if_neg (fun q => h ((pk_lLT (by omega) (by omega)).mp q)), lN_i, show d = 0 by omega]
    · by_cases h1 : A / lN a < 0
      · rw [if_pos h1]; rfl
      · have h2 : A / lN a = lN 0 := by
          refine Int64.toInt_inj.mp ?_
          rw [z] at h1
          show _ = (0 : Int)
          omega
        rw [if_neg h1, h2]
        by_cases h : 0 < d
        · rw [if_pos ((pk_lLT (by omega) (by omega)).mpr h), lN_i]
        · rw [if_neg (fun q => h ((pk_lLT (by omega) (by omega)).mp q)), show d = 0 by omega]
  · obtain ⟨n, hn, hn0, rfl⟩ := l_of (x := A) (by omega)
    have hna : n / a ≤ n := Nat.div_le_self n a
    have hna0 : 0 ≤ n / a := Nat.zero_le _
    have k1 : lN n / lN a = lN (n / a) := pk_lDiv hn (by omega) (by omega)
    have k2 : kWhole (lN n) (lN a) = lN (n / a) := by
      unfold kWhole
      rw [if_neg, k1]
      rintro (h | h)
      · have := (pk_lLE (a := n) (b := 0) (by omega) (by omega)).mp h
        omega
      · have := (pk_lLE (a := a) (b := 0) (by omega) (by omega)).mp h
        omega
    have k3 : ¬ lN (n / a) < 0 := fun q => by
      have := (pk_lLT (a := n / a) (b := 0) (by omega) (by omega)).mp q
      exact Nat.not_lt_zero _ this
    generalize hz : n / a = r at hna hna0 k1 k2 k3 ⊢
    refine ⟨if r < d then r else d, by split <;> omega, ?_, ?_⟩
    · rw [k2]
      unfold lMinL
      by_cases h : r < d
      · rw [if_pos ((pk_lLT (by omega) (by omega)).mpr h), if_pos h, lN_i]
      · rw [if_neg (fun q => h ((pk_lLT (by omega) (by omega)).mp q)), if_neg h, lN_i]
    · rw [k1, if_neg k3]
      by_cases h : r < d
      · rw [if_pos ((pk_lLT (by omega) (by omega)).mpr h), if_pos h, lN_i]
      · rw [if_neg (fun q => h ((pk_lLT (by omega) (by omega)).mp q)), if_neg h]
