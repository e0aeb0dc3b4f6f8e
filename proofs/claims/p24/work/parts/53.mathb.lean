/-! MATH, of sales: the class's and the reference's go hand in hand -/
theorem KI_uL {M : MS} {j : Nat} {c : CS} {a b : Int64} (h : KI M j c) : KI (uL (uL M 13 j a) 14 j b) j (uKL (uKL c 12 a) 13 b) := by
  obtain ⟨g1, g2, g3, g4, g5, g6, g7, g8, g9, g10, -, -⟩ := h
  refine ⟨g1, g2, g3, ?_, g5, ?_, g7, g8, g9, g10, ?_, ?_⟩
  · rw [xL_uL, xL_uL]; simpa [kL_uKL] using g4
  · rw [xL_uL, xL_uL]; simpa [kL_uKL] using g6
  · rw [xL_uL, xL_uL]; simp [kL_uKL]
  · rw [xL_uL]; simp [kL_uKL]
/-- what a sale needs of the lots of the member j -/
def sellB (M : MS) (j : Nat) : Prop := (∀ k, k < 10 → sI M 15 (10 * j + k) ≠ 0 → lotB M (10 * j + k)) ∧ ∀ k, k < 10 → hadN M (10 * j + k)
/-- the class's and the reference's sale, k lots on -/
def selR (j : Nat) (X : kSell) (Z : mSell) : Prop := X.2 = Z.2 ∧ KM Z.1 j X.1 ∧ (∃ w : Nat, w < 2 ^ 31 ∧ Z.2.1 = nI w) ∧ sellB Z.1 j
theorem KI_u16 {M : MS} {j q : Nat} {c : CS} {a : Int32} (h : KI M j c) : KI (uI M 16 q a) j c := h
theorem KI_uK6 {M : MS} {j k : Nat} {c : CS} {a : Int32} (h : KI M j c) : KI M j (uK6 c k a) := h
theorem KC_sell {M : MS} {j q y : Nat} {a b : Int64} {v : Int32} : cN (uI (uL (uL M 13 j a) 14 j b) 16 q v) j y = cN M j y := rfl
theorem KC_sell2 {c : CS} {k y : Nat} {a b : Int64} {v : Int32} : kC (uK6 (uKL (uKL c 12 a) 13 b) k v) y = kC c y := rfl
theorem KT_sell {M : MS} {j q k i : Nat} {c : CS} {a b : Int64} {v : Int32} : KT (uI (uL (uL M 13 j a) 14 j b) 16 q v) i (uK6 (uKL (uKL c 12 a) 13 b) k v) k ↔ KT (uI M 16 q v) i (uK6 c k v) k := Iff.rfl
theorem KT_sellO {M : MS} {j q k i : Nat} {c : CS} {a b : Int64} {v : Int32} (h1 : i ≠ q) {k' : Nat} (h2 : k' ≠ k) (h : KT M i c k') : KT (uI (uL (uL M 13 j a) 14 j b) 16 q v) i (uK6 (uKL (uKL c 12 a) 13 b) k v) k' := by
  unfold KT at h ⊢
  rw [kV_uK6, if_neg h2, xI_uI, xI_uI, if_neg (fun e => absurd e.1 (by decide)), if_neg (fun e => h1 e.2)]
  exact h
theorem KT_sellS {M : MS} {j k i : Nat} {c : CS} {a b : Int64} {v : Int32} (h0 : sI M 15 i ≠ 0) (h : KT M i c k) : KT (uI (uL (uL M 13 j a) 14 j b) 16 i v) i (uK6 (uKL (uKL c 12 a) 13 b) k v) k := by
  rcases h with ⟨t1, -, -⟩ | ⟨t1, t3, v0, v1, v2, v3, v4, v5, v6⟩
  · exact absurd t1 h0
  · refine Or.inr ⟨?_, t3, ?_, ?_, ?_, ?_, ?_, ?_, ?_⟩
    · rw [xI_uI, if_neg (fun e => absurd e.1 (by decide))]; exact t1
    · rw [kV_uK6, if_pos rfl]; exact v0
    · rw [kV_uK6, if_pos rfl]; exact v1
    · rw [kV_uK6, if_pos rfl]; exact v2
    · rw [kV_uK6, if_pos rfl]; exact v3
    · rw [kV_uK6, if_pos rfl]; exact v4
    · rw [kV_uK6, if_pos rfl]; exact v5
    · rw [kV_uK6, if_pos rfl, xI_uI, if_pos ⟨rfl, rfl⟩]; rfl
theorem sold_nat {M : MS} {q w b : Nat} (hw : w < 2 ^ 31) (hb : b < 2 ^ 31) (eb : sI M 16 q = nI b) : soldN M q (nI w) = nI (if w < b then w else b) := by
  unfold soldN
  rw [eb]
  by_cases h1 : w < b
  · rw [if_pos (nI_lt h1 hb), if_pos h1]
  · rw [if_neg (nI_nlt (by omega) hw), if_neg h1]
theorem sellB_u {M : MS} {j k z : Nat} {a b : Int64} (hz : z < 2 ^ 31) (h : sellB M j) : sellB (uI (uL (uL M 13 j a) 14 j b) 16 (10 * j + k) (nI z)) j := by
  refine ⟨fun i hi hn => ?_, fun i hi => ?_⟩
  · rw [xI_uI, if_neg (fun e => absurd e.1 (by decide))] at hn
    exact h.1 i hi hn
  · by_cases hik : i = k
    · subst hik
      exact ⟨z, hz, by rw [xI_uI, if_pos ⟨rfl, rfl⟩]⟩
    · obtain ⟨y, hy, ey⟩ := h.2 i hi
      refine ⟨y, hy, ?_⟩
      rw [xI_uI, if_neg (fun e => hik (by omega))]
      exact ey
/-- the class's step, in the reference's words -/
theorem selK_eq {M : MS} {c : CS} {j k : Nat} {op ea : Int32} (hk : k < 10) (hI : KI M j c) (hT : KT M (10 * j + k) c k) (hb : sI M 15 (10 * j + k) ≠ 0) (hB : lotB M (10 * j + k)) :
    kSellS (sS M 0) (sI M 1 (tN (sS M 0))) k (c, op, ea) = (uK6 (uKL (uKL c 12 (sL M 13 j + (soldN M (10 * j + k) op).toInt64 * (pq M (10 * j + k)).toInt64)) 13 (sL M 14 j + gq M (10 * j + k) (soldN M (10 * j + k) op))) k (sI M 16 (10 * j + k) - soldN M (10 * j + k) op), op - soldN M (10 * j + k) op, ea + (if eQ M (10 * j + k) = 0 then 0 else soldN M (10 * j + k) op)) := by
  have hq : (10 * j + k) % 10 = k := by omega
  rcases hT with ⟨t1, t2, t3⟩ | ⟨t1, t3, v0, v1, v2, v3, v4, v5, v6⟩
  · exact absurd t1 hb
  · have eP := lP_pq (M := M) hq v0 v1 v2 v3 v4
    have eG := lG_gq hB hq v0 v1 v2 v3 v4
    have eE := lE_eQ (M := M) hq v0 v3
    have eS : kSo c k op = soldN M (10 * j + k) op := by
      unfold kSo
      rw [v6, lMin_sold]
    obtain ⟨-, -, -, -, -, -, -, -, -, -, g12, g13⟩ := hI
    refine (if_neg t3).trans ?_
    simp only [eS, eP, eG, eE, v6, g12, g13, gq]
theorem selR_hit {M : MS} {c : CS} {j k w : Nat} {ea : Int32} (hj : j < 6) (hk : k < 10) (hw : w < 2 ^ 31) (hM : KM M j c) (hB : sellB M j) (hb : sI M 15 (10 * j + k) ≠ 0) (h0 : 0 < soldN M (10 * j + k) (nI w)) :
    selR j (kSellS (sS M 0) (sI M 1 (tN (sS M 0))) k (c, nI w, ea)) (sellS j k (M, nI w, ea)) := by
  obtain ⟨hI, hC, hT⟩ := hM
  obtain ⟨b, hbb, eb⟩ := hB.2 k hk
  have hsold := sold_nat hw hbb eb
  have hle1 : (if w < b then w else b) ≤ w := by split <;> omega
  have hle2 : (if w < b then w else b) ≤ b := by split <;> omega
  rw [selK_eq hk hI (hT k hk) hb (hB.1 k hk hb)]
  have e2 : sellS j k (M, nI w, ea) = (uI (uL (uL M 13 j (sL M 13 j + (soldN M (10 * j + k) (nI w)).toInt64 * (pq M (10 * j + k)).toInt64)) 14 j (sL M 14 j + gq M (10 * j + k) (soldN M (10 * j + k) (nI w)))) 16 (10 * j + k) (sI M 16 (10 * j + k) - soldN M (10 * j + k) (nI w)), nI w - soldN M (10 * j + k) (nI w), ea + (if eQ M (10 * j + k) = 0 then 0 else soldN M (10 * j + k) (nI w))) := if_pos h0
  rw [e2]
  generalize hgo : (if w < b then w else b) = s at hsold hle1 hle2
  have d1 : nI w - soldN M (10 * j + k) (nI w) = nI (w - s) := by rw [hsold]; exact pk_sub hle1
  have d2 : sI M 16 (10 * j + k) - soldN M (10 * j + k) (nI w) = nI (b - s) := by rw [hsold, eb]; exact pk_sub hle2
  refine ⟨rfl, ⟨?_, ?_, ?_⟩, ⟨w - s, by omega, d1⟩, ?_⟩
  · exact KI_u16 (KI_uK6 (KI_uL hI))
  · intro y hy
    rw [KC_sell2, KC_sell]
    exact hC y hy
  · intro i hi
    by_cases hik : i = k
    · subst hik
      exact KT_sellS hb (hT i hi)
    · exact KT_sellO (by omega) hik (hT i hi)
  · show sellB (uI _ 16 _ (sI M 16 (10 * j + k) - soldN M (10 * j + k) (nI w))) j
    rw [d2]
    exact sellB_u (by omega) hB
theorem selK_0 {M : MS} {c : CS} {j k : Nat} (hI : KI M j c) (hT : KT M (10 * j + k) c k) (hb : sI M 15 (10 * j + k) ≠ 0) : kL (uK6 (uKL (uKL c 12 (sL M 13 j)) 13 (sL M 14 j)) k (sI M 16 (10 * j + k))) = kL c ∧ kV (uK6 (uKL (uKL c 12 (sL M 13 j)) 13 (sL M 14 j)) k (sI M 16 (10 * j + k))) = kV c := by
  rcases hT with ⟨t1, t2, t3⟩ | ⟨t1, t3, v0, v1, v2, v3, v4, v5, v6⟩
  · exact absurd t1 hb
  · obtain ⟨-, -, -, -, -, -, -, -, -, -, g12, g13⟩ := hI
    constructor
    · funext i
      rw [kL_uK6, kL_uKL, kL_uKL]
      by_cases h1 : i = 13
      · rw [if_pos h1, h1, g13]
      · rw [if_neg h1]
        by_cases h2 : i = 12
        · rw [if_pos h2, h2, g12]
        · rw [if_neg h2]
    · funext x
      rw [kV_uK6]
      by_cases h1 : x = k
      · rw [if_pos h1, h1]
        funext i
        by_cases h2 : i = 6
        · rw [h2, upd_at, if_pos rfl, v6]
        · rw [upd_at, if_neg h2]; rfl
      · rw [if_neg h1]; rfl
theorem KM_eq {M : MS} {j : Nat} {c c' : CS} (h1 : kI c' = kI c) (h2 : kL c' = kL c) (h3 : kC c' = kC c) (h4 : kR c' = kR c) (h5 : kV c' = kV c) (h : KM M j c) : KM M j c' := by
  unfold KM KI KT at h ⊢
  rw [h1, h2, h3, h4, h5]
  exact h
theorem selR_zero {M : MS} {c : CS} {j k w : Nat} {ea : Int32} (hk : k < 10) (hw : w < 2 ^ 31) (hM : KM M j c) (hB : sellB M j) (hb : sI M 15 (10 * j + k) ≠ 0) (h0 : soldN M (10 * j + k) (nI w) = 0) :
    selR j (kSellS (sS M 0) (sI M 1 (tN (sS M 0))) k (c, nI w, ea)) (sellS j k (M, nI w, ea)) := by
  obtain ⟨h1, h2⟩ := selK_0 hM.1 (hM.2.2 k hk) hb
  rw [selK_eq hk hM.1 (hM.2.2 k hk) hb (hB.1 k hk hb)]
  have e2 : sellS j k (M, nI w, ea) = (M, nI w, ea) := if_neg (by show ¬ 0 < soldN M (10 * j + k) (nI w); rw [h0]; decide)
  rw [e2, h0]
  have z1 : (0 : Int32).toInt64 = 0 := rfl
  have z2 : gq M (10 * j + k) 0 = 0 := by unfold gq; rw [z1, Int64.zero_mul]
  have z3 : ea + (if eQ M (10 * j + k) = 0 then 0 else 0) = ea := by rw [ite_self, Int32.add_zero]
  rw [z1, z2, Int64.zero_mul, Int64.add_zero, Int64.add_zero, Int32.sub_zero, Int32.sub_zero, z3]
  exact ⟨rfl, KM_eq (c := c) (c' := uK6 (uKL (uKL c 12 (sL M 13 j)) 13 (sL M 14 j)) k (sI M 16 (10 * j + k))) rfl h1 rfl rfl h2 hM, ⟨w, hw, rfl⟩, hB⟩
theorem selR_step {j k : Nat} {X : kSell} {Z : mSell} (hj : j < 6) (hk : k < 10) (h : selR j X Z) : selR j (kSellS (sS Z.1 0) (sI Z.1 1 (tN (sS Z.1 0))) k X) (sellS j k Z) := by
  obtain ⟨M, op, ea⟩ := Z
  obtain ⟨c, op', ea'⟩ := X
  obtain ⟨e, hM, ⟨w, hw, ew⟩, hB⟩ := h
  cases e
  dsimp only at hM ew hB
  subst ew
  obtain ⟨b, hb, eb⟩ := hB.2 k hk
  have hsold := sold_nat hw hb eb
  rcases hM.2.2 k hk with ⟨t1, t2, t3⟩ | ⟨t1, -⟩
  · have h0 : soldN M (10 * j + k) (nI w) = 0 := by
      have hb0 : b = 0 := by
        rw [t2] at eb
        have := (nI_eq (a := 0) (b := b) (by omega) hb).mp eb
        omega
      rw [hsold, hb0, if_neg (Nat.not_lt_zero w)]
      rfl
    have e1 : kSellS (sS M 0) (sI M 1 (tN (sS M 0))) k (c, nI w, ea) = (c, nI w, ea) := if_pos t3
    have e2 : sellS j k (M, nI w, ea) = (M, nI w, ea) := if_neg (by show ¬ 0 < soldN M (10 * j + k) (nI w); rw [h0]; decide)
    show selR j (kSellS (sS M 0) (sI M 1 (tN (sS M 0))) k (c, nI w, ea)) (sellS j k (M, nI w, ea))
    rw [e1, e2]
    exact ⟨rfl, hM, ⟨w, hw, rfl⟩, hB⟩
  · by_cases h0 : 0 < soldN M (10 * j + k) (nI w)
    · exact selR_hit hj hk hw hM hB t1 h0
    · refine selR_zero hk hw hM hB t1 ?_
      rw [hsold] at h0 ⊢
      generalize hgo : (if w < b then w else b) = s at h0
      have hs : s < 2 ^ 31 := by rw [← hgo]; split <;> omega
      rcases Nat.eq_zero_or_pos s with hz | hz
      · rw [hz]; rfl
      · exact absurd (nI_lt (a := 0) hz hs) h0
theorem selR_all {j : Nat} {M : MS} {c : CS} {op : Int32} (hj : j < 6) (h : selR j (c, op, 0) (M, op, 0)) : ∀ k, k ≤ 10 → selR j (kSellN (sS M 0) (sI M 1 (tN (sS M 0))) k (c, op, 0)) (sellN j k (M, op, 0))
  | 0, _ => h
  | k + 1, hk => by
    have ih := selR_all hj h k (by omega)
    have := selR_step hj (show k < 10 by omega) ih
    rw [sellN_S, sellN_I (by decide)] at this
    exact this
