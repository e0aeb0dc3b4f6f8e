theorem xI_uS {M : MS} {j i x : Nat} {v : Int32} : sI (uS M j v) i x = sI M i x := rfl
theorem xL_uS {M : MS} {j i x : Nat} {v : Int32} : sL (uS M j v) i x = sL M i x := rfl
theorem xL_uI {M : MS} {j k i x : Nat} {v : Int32} : sL (uI M j k v) i x = sL M i x := rfl
theorem xI_uL {M : MS} {j k i x : Nat} {v : Int64} : sI (uL M j k v) i x = sI M i x := rfl
theorem xI_uI {M : MS} {j k i x : Nat} {v : Int32} : sI (uI M j k v) i x = if i = j ∧ x = k then v else sI M i x := by
  by_cases h : i = j
  · subst h; simp [sI_uI, upd_at]
  · simp [sI_uI, h]
theorem xL_uL {M : MS} {j k i x : Nat} {v : Int64} : sL (uL M j k v) i x = if i = j ∧ x = k then v else sL M i x := by
  by_cases h : i = j
  · subst h; simp [sL_uL, updL_at]
  · simp [sL_uL, h]
theorem sH_uS {M : MS} {j n k : Nat} {v : Int32} : sH (uS M n v) j k = sH M j k := by
  induction k with
  | zero => rfl
  | succ k ih => simp only [sH, ih, sI_uS]
theorem vp_q {i d : Int32} (hi : vp_in i 6) (hd : qIn d 0 59) : vp_in (10 * i + d / 6) 60 := by
  obtain ⟨j, hj, rfl⟩ := vp_in_of hi (by decide)
  obtain ⟨t, ht, rfl⟩ := nI_of2 (M := 59) (n := 59) rfl (x := d) (by have := hd.1; exact Int32.not_lt.mpr this) hd.2
  rw [show (6 : Int32) = nI 6 from rfl, pk_div (by omega) (by omega) (by omega), nI_10]
  exact vp_in_nI (by omega) (by decide)
theorem vp_y {d : Int32} (hd : qIn d 0 4) : vp_in d 5 := by
  obtain ⟨t, ht, rfl⟩ := nI_of2 (M := 4) (n := 4) rfl (x := d) (by have := hd.1; exact Int32.not_lt.mpr this) hd.2
  exact vp_in_nI (by omega) (by decide)
theorem mem_in {M : MS} (h6 : mem6 M) (h : 0 ≤ sS M 0 ∧ sS M 3 < 6) : vp_in (sS M 3) 6 := by
  obtain ⟨n, hn, e⟩ := h6
  rw [e] at h ⊢
  have h2 := (nI_ltI (a := n) (b := 6) (by omega) (by omega)).mp h.2
  exact vp_in_nI h2 (by decide)
theorem i_cancel (x : Int32) : x + 1 - 1 = x := by rw [Int32.add_sub_cancel]
theorem cN_uS {M : MS} {n j y : Nat} {v : Int32} : cN (uS M n v) j y = cN M j y := rfl
theorem qM_pos {M : MS} {i : Int32} (h : qM M i) : 0 ≤ sS M 3 - 1 := by
  obtain ⟨h1, h2⟩ := h
  simp only [Int32.le_iff_toInt_le] at *
  omega
theorem sellN_S {j : Nat} {x : mSell} {a : Nat} : ∀ k, sS (sellN j k x).1 a = sS x.1 a
  | 0 => rfl
  | k + 1 => by
    have ih := sellN_S (j := j) (x := x) (a := a) k
    rw [sellN, sellS]
    split
    · simp only [sS_uI, sS_uL]; exact ih
    · exact ih
theorem sellN_I {j : Nat} {x : mSell} {a : Nat} (h : a ≠ 16) : ∀ k, sI (sellN j k x).1 a = sI x.1 a
  | 0 => rfl
  | k + 1 => by
    have ih := sellN_I (j := j) (x := x) (a := a) h k
    rw [sellN, sellS]
    split
    · simp only [sI_uI, sI_uL, if_neg h]; exact ih
    · exact ih
theorem soldN_0 {M : MS} {q : Nat} {op : Int32} (h : op ≤ 0) : ¬ 0 < soldN M q op := by
  unfold soldN
  split <;> (simp only [Int32.lt_iff_toInt_lt, Int32.le_iff_toInt_le] at *; omega)
theorem sellN_stop {j : Nat} {x : mSell} {k : Nat} (h : (sellN j k x).2.1 ≤ 0) : ∀ d, sellN j (k + d) x = sellN j k x
  | 0 => rfl
  | d + 1 => by
    have ih := sellN_stop h d
    show sellS j (k + d) (sellN j (k + d) x) = _
    rw [ih, sellS, if_neg (soldN_0 h)]
def okBuy (M : MS) (j : Nat) : Prop := vp_in (sS M 0) 60 ∧ vp_in (sI M 10 j) 60 ∧ (∀ k, k < 60 → vp_in (sI M 18 k) 60) ∧ ¬ (sI M 1 (tN (sI M 10 j))).toInt64 = 0 ∧ ¬ bEach M j = 0
theorem buy1_S {M : MS} {j a : Nat} : sS (buy1 M j) a = sS M a := by unfold buy1; split <;> rfl
theorem buy2_S {M : MS} {j a : Nat} : sS (buy2 M j) a = sS M a := by rw [buy2, sS_uI, buy1_S]
theorem buyM_S {M : MS} {j a : Nat} : sS (buyM M j) a = sS M a := by unfold buyM; split <;> (simp only [sS_uI, buy2_S])
theorem bAll_S {M : MS} {a : Nat} : ∀ k, sS (bAll M k) a = sS M a
  | 0 => rfl
  | k + 1 => by
    rw [bAll]
    split
    · rw [buyM_S, bAll_S k]
    · rw [bAll_S k]
theorem buy1_I {M : MS} {j a : Nat} (h : a ≠ 15 ∧ a ≠ 16 ∧ a ≠ 17 ∧ a ≠ 18 ∧ a ≠ 6) : sI (buy1 M j) a = sI M a := by
  unfold buy1
  split
  · simp only [sI_uI, sI_uL, if_neg h.1, if_neg h.2.1, if_neg h.2.2.1, if_neg h.2.2.2.1, if_neg h.2.2.2.2]
  · rfl
theorem buy2_I {M : MS} {j a : Nat} (h : a ≠ 15 ∧ a ≠ 16 ∧ a ≠ 17 ∧ a ≠ 18 ∧ a ≠ 6) (h2 : a ≠ 11) : sI (buy2 M j) a = sI M a := by rw [buy2, sI_uI, if_neg h2, buy1_I h]
theorem buy2_11 {M : MS} {j : Nat} : sI (buy2 M j) 11 j = sI M 11 j + 1 := by rw [buy2, sI_uI, if_pos rfl, upd_at, if_pos rfl]
theorem mo_in {x : Int32} (h : -1 ≤ x) (h2 : x < 59) : vp_in (x + 1) 60 := by
  rw [vp_in_iff]
  rw [Int32.le_iff_toInt_le] at h
  rw [Int32.lt_iff_toInt_lt] at h2
  have h3 : (-1 : Int32).toInt = -1 := rfl
  have h4 : (59 : Int32).toInt = 59 := rfl
  have h5 : (x + 1).toInt = x.toInt + 1 := by
    rw [Int32.toInt_add]
    have : (1 : Int32).toInt = 1 := rfl
    rw [this]
    exact Int.bmod_eq_of_le (by omega) (by omega)
  omega
def mNew : MS := (fun j => if j = 0 then -1 else if j = 2 then 2500000 else 0, fun _ _ => 0, fun _ _ => 0)
