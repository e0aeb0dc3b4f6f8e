/-! MATH, of sales: the class's and the reference's go hand in hand -/
theorem KI_uL {M : MS} {j : Nat} {c : CS} {a b : Int64} (h : KI M j c) : KI (uL (uL M 13 j a) 14 j b) j (uKL (uKL c 12 a) 13 b) := by
  obtain ⟨g1, g2, g3, g4, g5, g6, g7, g8, g9, g10, -, -⟩ := h
  refine ⟨g1, g2, g3, ?_, g5, ?_, g7, g8, g9, g10, ?_, ?_⟩
  · rw [xL_uL, xL_uL]; simpa [kL_uKL] using g4
  · rw [xL_uL, xL_uL]; simpa [kL_uKL] using g6
  · rw [xL_uL, xL_uL]; simp [kL_uKL]
  · rw [xL_uL]; simp [kL_uKL]
/-- what a sale needs of the lots of the member j -/
def sellB (M : MS) (j : Nat) : Prop := (∀ k, k < 10 → sI M 15 (10 * j + k) ≠ 0 → lotB M (10 * j + k)) ∧ ∀ k, k < 10 → hadN M (10 * j + k)
/-- the class's and the reference's sale, k lots on -/
def selR (j : Nat) (X : kSell) (Z : mSell) : Prop := X.2 = Z.2 ∧ KM Z.1 j X.1 ∧ (∃ w : Nat, w < 2 ^ 31 ∧ Z.2.1 = nI w) ∧ sellB Z.1 j
theorem selR_step {j k : Nat} {X : kSell} {Z : mSell} (hj : j < 6) (hk : k < 10) (h : selR j X Z) : selR j (kSellS (sS Z.1 0) (sI Z.1 1 (tN (sS Z.1 0))) k X) (sellS j k Z) := by
  obtain ⟨M, op, ea⟩ := Z
  obtain ⟨c, op', ea'⟩ := X
  obtain ⟨e, ⟨hI, hC, hT⟩, ⟨w, hw, ew⟩, hB, hH⟩ := h
  cases e
  dsimp only at hI hC hT ew hB hH
  subst ew
  have hq : (10 * j + k) % 10 = k := by omega
  obtain ⟨b, hb, eb⟩ := hH k hk
  have hsold : soldN M (10 * j + k) (nI w) = nI (if w < b then w else b) := by
    unfold soldN
    rw [eb]
    by_cases h1 : w < b
    · rw [if_pos (nI_lt h1 hb), if_pos h1]
    · rw [if_neg (nI_nlt (by omega) hw), if_neg h1]
  have hdiff : nI w - nI (if w < b then w else b) = nI (w - (if w < b then w else b)) := pk_sub (by split <;> omega)
  have hdiff2 : nI b - nI (if w < b then w else b) = nI (b - (if w < b then w else b)) := pk_sub (by split <;> omega)
  rcases hT k hk with ⟨t1, t2, t3⟩ | ⟨t1, t3, v0, v1, v2, v3, v4, v5, v6⟩
  · have h0 : ¬ 0 < soldN M (10 * j + k) (nI w) := by
      rw [hsold]
      have hb0 : b = 0 := by
        rw [t2] at eb
        have := (nI_eq (a := 0) (b := b) (by omega) hb).mp eb
        omega
      rw [hb0]
      simp only [Nat.not_lt_zero, if_false]
      decide
    have e1 : kSellS (sS M 0) (sI M 1 (tN (sS M 0))) k (c, nI w, ea) = (c, nI w, ea) := if_pos t3
    have e2 : sellS j k (M, nI w, ea) = (M, nI w, ea) := if_neg h0
    rw [e1, e2]
    exact ⟨rfl, ⟨hI, hC, hT⟩, ⟨w, hw, rfl⟩, hB, hH⟩
  · have hLB := hB k hk t1
    have eP := lP_pq (M := M) hq v0 v1 v2 v3 v4
    have eG := lG_gq hLB hq v0 v1 v2 v3 v4
    have eE := lE_eQ (M := M) hq v0 v3
    have eS : kSo c k (nI w) = soldN M (10 * j + k) (nI w) := by
      unfold kSo
      rw [v6, lMin_sold]
    have e1 : kSellS (sS M 0) (sI M 1 (tN (sS M 0))) k (c, nI w, ea) = (uK6 (uKL (uKL c 12 (sL M 13 j + (soldN M (10 * j + k) (nI w)).toInt64 * (pq M (10 * j + k)).toInt64)) 13 (sL M 14 j + gq M (10 * j + k) (soldN M (10 * j + k) (nI w)))) k (sI M 16 (10 * j + k) - soldN M (10 * j + k) (nI w)), nI w - soldN M (10 * j + k) (nI w), ea + (if eQ M (10 * j + k) = 0 then 0 else soldN M (10 * j + k) (nI w))) := by
      refine (if_neg t3).trans ?_
      simp only [eS, eP, eG, eE, v6]
      obtain ⟨-, -, -, -, -, -, -, -, -, -, g12, g13⟩ := hI
      rw [g12, g13]
      rfl
    rw [e1]
    by_cases h0 : 0 < soldN M (10 * j + k) (nI w)
    · have e2 : sellS j k (M, nI w, ea) = (uI (uL (uL M 13 j (sL M 13 j + (soldN M (10 * j + k) (nI w)).toInt64 * (pq M (10 * j + k)).toInt64)) 14 j (sL M 14 j + gq M (10 * j + k) (soldN M (10 * j + k) (nI w)))) 16 (10 * j + k) (sI M 16 (10 * j + k) - soldN M (10 * j + k) (nI w)), nI w - soldN M (10 * j + k) (nI w), ea + (if eQ M (10 * j + k) = 0 then 0 else soldN M (10 * j + k) (nI w))) := if_pos h0
      rw [e2]
      refine ⟨rfl, ⟨?_, ?_, ?_⟩, ⟨_, ?_, by rw [hsold]; exact hdiff⟩, ?_, ?_⟩
      · have := KI_uL (a := sL M 13 j + (soldN M (10 * j + k) (nI w)).toInt64 * (pq M (10 * j + k)).toInt64) (b := sL M 14 j + gq M (10 * j + k) (soldN M (10 * j + k) (nI w))) hI
        exact this
      · exact hC
      · intro i hi
        by_cases hik : i = k
        · subst hik
          refine Or.inr ⟨?_, t3, ?_, ?_, ?_, ?_, ?_, ?_, ?_⟩
          · rw [xI_uI, if_neg (by omega)]; exact t1
          · rw [kV_uK6, if_pos rfl]; exact v0
          · rw [kV_uK6, if_pos rfl]; exact v1
          · rw [kV_uK6, if_pos rfl]; exact v2
          · rw [kV_uK6, if_pos rfl]; exact v3
          · rw [kV_uK6, if_pos rfl]; exact v4
          · rw [kV_uK6, if_pos rfl]; exact v5
          · rw [kV_uK6, if_pos rfl, xI_uI, if_pos ⟨rfl, rfl⟩]; rfl
        · have hT' := hT i hi
          unfold KT at hT' ⊢
          rw [xI_uI, xI_uI, if_neg (by omega), if_neg (by omega), kV_uK6, if_neg hik]
          exact hT'
      · split <;> omega
      · intro i hi hn
        rw [xI_uI, if_neg (by omega)] at hn
        exact hB i hi hn
      · intro i hi
        by_cases hik : i = k
        · subst hik
          refine ⟨b - (if w < b then w else b), by omega, ?_⟩
          show sI (uI _ 16 _ _) 16 _ = _
          rw [xI_uI, if_pos ⟨rfl, rfl⟩, hsold, eb, hdiff2]
        · obtain ⟨z, hz, ez⟩ := hH i hi
          refine ⟨z, hz, ?_⟩
          show sI (uI _ 16 _ _) 16 _ = _
          rw [xI_uI, if_neg (by omega)]
          exact ez
    · have hz : soldN M (10 * j + k) (nI w) = 0 := by
        rw [hsold] at h0 ⊢
        have h9 : (if w < b then w else b) = 0 := by
          apply Classical.byContradiction
          intro hne
          exact h0 (nI_lt (a := 0) (by omega) (by split <;> omega))
        rw [h9]
        rfl
      have e2 : sellS j k (M, nI w, ea) = (M, nI w, ea) := if_neg h0
      rw [e2, hz]
      have z1 : (0 : Int32).toInt64 = 0 := rfl
      have z2 : gq M (10 * j + k) 0 = 0 := by unfold gq; rw [z1, Int64.zero_mul]
      rw [z1, z2, Int64.zero_mul, Int64.add_zero, Int64.add_zero, Int32.sub_zero, Int32.sub_zero]
      have z3 : ea + (if eQ M (10 * j + k) = 0 then 0 else 0) = ea := by rw [ite_self, Int32.add_zero]
      rw [z3]
      obtain ⟨g1, g2, g3, g4, g5, g6, g7, g8, g9, g10, g12, g13⟩ := hI
      refine ⟨rfl, ⟨⟨g1, g2, g3, ?_, ?_, ?_, g7, g8, g9, g10, ?_, ?_⟩, hC, ?_⟩, ⟨w, hw, rfl⟩, hB, hH⟩
      · show kL (uKL (uKL c 12 _) 13 _) 5 = _
        simp only [kL_uKL]; exact g4
      · show kL (uKL (uKL c 12 _) 13 _) 6 = _
        simp only [kL_uKL]; exact g5
      · show kL (uKL (uKL c 12 _) 13 _) 7 = _
        simp only [kL_uKL]; exact g6
      · show kL (uKL (uKL c 12 _) 13 _) 12 = _
        simp only [kL_uKL]; rfl
      · show kL (uKL (uKL c 12 _) 13 _) 13 = _
        simp only [kL_uKL]; rfl
      · intro i hi
        by_cases hik : i = k
        · subst hik
          refine Or.inr ⟨t1, t3, ?_, ?_, ?_, ?_, ?_, ?_, ?_⟩
          · rw [kV_uK6, if_pos rfl]; exact v0
          · rw [kV_uK6, if_pos rfl]; exact v1
          · rw [kV_uK6, if_pos rfl]; exact v2
          · rw [kV_uK6, if_pos rfl]; exact v3
          · rw [kV_uK6, if_pos rfl]; exact v4
          · rw [kV_uK6, if_pos rfl]; exact v5
          · rw [kV_uK6, if_pos rfl]; rfl
        · have hT' := hT i hi
          unfold KT at hT' ⊢
          rw [kV_uK6, if_neg hik]
          exact hT'
theorem selR_all {j : Nat} {M : MS} {c : CS} {op : Int32} (hj : j < 6) (h : selR j (c, op, 0) (M, op, 0)) : ∀ k, k ≤ 10 → selR j (kSellN (sS M 0) (sI M 1 (tN (sS M 0))) k (c, op, 0)) (sellN j k (M, op, 0))
  | 0, _ => h
  | k + 1, hk => by
    have ih := selR_all hj h k (by omega)
    have := selR_step hj (show k < 10 by omega) ih
    rw [sellN_S, sellN_I (by decide)] at this
    exact this
