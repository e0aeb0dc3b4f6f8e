/-! MATH, the calls that change one member -/
section
variable {M : MS} {N t c : Nat} {P : PS} {i : Int32}
theorem agr_rate {v : Int32} {z : Nat} (h : z ≠ tN i) : agr M (nRate M i v) z := by
  refine ⟨fun a h1 h2 => ?_, fun a => rfl, fun a k h1 h2 => ?_⟩
  · rw [nRate, xI_uI, if_neg (by omega)]
  · rw [nRate, xI_uI, if_neg (by omega)]
theorem qIn_nat {x : Int32} {a b : Nat} (hb : b < 2 ^ 31) (h : qIn x (nI a) (nI b)) (ha : a < 2 ^ 31) : ∃ w : Nat, a ≤ w ∧ w ≤ b ∧ x = nI w := by
  obtain ⟨h1, h2⟩ := h
  obtain ⟨w, hw, rfl⟩ := nI_of (x := x) (fun h => by
    rw [Int32.lt_iff_toInt_lt] at h
    rw [Int32.le_iff_toInt_le, nI_toInt ha] at h1
    have : (0 : Int32).toInt = 0 := rfl
    omega)
  rw [nI_leI ha hw] at h1
  rw [nI_leI hw hb] at h2
  exact ⟨w, h1, h2, rfl⟩
theorem rate_S {v : Int32} (h : IV M N t c 7) (hR : RW M N P) (hi : vp_in i N) (hv : qIn v 1 15) : IV (nRate M i v) N t (c + 1) 7 ∧ RW (nRate M i v) N (uPC P (tN i) (uKI (pC P (tN i)) 2 v)) := by
  have hj := vp_lt hi
  have h6 := h.1.1
  have hbj := h.2.2.1 _ hj
  constructor
  · refine h.upd (by omega) hj rfl rfl ?_ (fun z hz => agr_rate hz) ?_ (fun k hk => ?_)
    · rw [nRate, sI_uI, if_neg (by decide)]
    · obtain ⟨g1, g2, ⟨w, hw, g3⟩, -, g5⟩ := hbj
      obtain ⟨x, -, hx, rfl⟩ := qIn_nat (a := 1) (b := 15) (by decide) hv (by decide)
      refine ⟨?_, ?_, ?_, ?_, ?_⟩
      · rw [nRate, xI_uI, if_neg (by omega)]; exact g1
      · rw [nRate, xI_uI, if_neg (by omega)]; exact g2
      · rw [nRate, xI_uI, if_neg (by omega)]; exact ⟨w, by omega, g3⟩
      · rw [nRate, xI_uI, if_pos ⟨rfl, rfl⟩]; exact ⟨x, hx, rfl⟩
      · rw [nRate, xI_uI, xI_uI, if_neg (by omega), if_neg (by omega)]; exact g5
    · exact h.2.2.2.2 _ (by omega)
  · refine hR.upd rfl rfl ?_ (fun z hz => agr_rate hz) ?_
    · rw [nRate, sI_uI, if_neg (by decide)]
    · obtain ⟨⟨g1, g2, g3, g4, g5, g6, g7, g8, g9, g10, g11, g12⟩, hC, hT⟩ := hR.2.2.2.2 _ hj
      refine ⟨⟨?_, g2, g3, g4, g5, g6, g7, g8, g9, g10, g11, g12⟩, hC, hT⟩
      rw [nRate, xI_uI, if_pos ⟨rfl, rfl⟩]
      rfl
theorem agr_slip {v : Int32} {z : Nat} (h : z ≠ tN i) : agr M (nSlip M i v) z := by
  refine ⟨fun a h1 h2 => ?_, fun a => ?_, fun a k h1 h2 => ?_⟩
  · rw [nSlip, sI_uL, xI_uI, if_neg (by omega)]
  · rw [nSlip, xL_uL, sL_uI, if_neg (by omega)]
  · rw [nSlip, sI_uL, xI_uI, if_neg (by omega)]
theorem slip_S {v : Int32} (h : IV M N t c 7) (hc : c < 512) (hR : RW M N P) (hi : vp_in i N) (hv : qIn v 0 5000000) : IV (nSlip M i v) N t (c + 1) 7 ∧ RW (nSlip M i v) N (uPC P (tN i) (uKL (uKL (pC P (tN i)) 4 (kL (pC P (tN i)) 4 + (v * kI (pC P (tN i)) 2 / 100).toInt64)) 7 (kL (pC P (tN i)) 7 + (v * kI (pC P (tN i)) 2 / 100).toInt64))) ∧ v * kI (pC P (tN i)) 2 / 100 = rSlip M i v := by
  have hj := vp_lt hi
  have h6 := h.1.1
  obtain ⟨f1, f2, ⟨w, hw, f3⟩, ⟨r, hr, f4⟩, f5⟩ := h.2.2.1 _ hj
  obtain ⟨⟨g1, g2, g3, g4, g5, g6, g7, g8, g9, g10, g11, g12⟩, hC, hT⟩ := hR.2.2.2.2 _ hj
  obtain ⟨x, -, hx, rfl⟩ := qIn_nat (a := 0) (b := 5000000) (by decide) hv (by decide)
  have hxr : x * r ≤ 75000000 := Nat.mul_le_mul hx hr
  have e1 : nI x * nI r / 100 = nI (x * r / 100) := by
    rw [pk_mul, show (100 : Int32) = nI 100 from rfl, pk_div (by omega) (by omega) (by omega)]
  have e2 : rSlip M i (nI x) = nI (x * r / 100) := by rw [rSlip, f4, e1]
  have e3 : nI x * kI (pC P (tN i)) 2 / 100 = nI (x * r / 100) := by rw [g1, f4, e1]
  have e4 : (nI w + nI (x * r / 100)).toInt64 = (nI w).toInt64 + (nI (x * r / 100)).toInt64 := by
    rw [nI_add, nI_l (by omega), nI_l (by omega), nI_l (by omega), lN_add]
  refine ⟨?_, ?_, e3.trans e2.symm⟩
  · refine h.upd (by omega) hj rfl rfl ?_ (fun z hz => agr_slip hz) ?_ (fun k hk => ?_)
    · rw [nSlip, sI_uL, sI_uI, if_neg (by decide)]
    · refine ⟨?_, ?_, ?_, ?_, ?_⟩
      · rw [nSlip, sI_uL, xI_uI, if_neg (by omega)]; exact f1
      · rw [nSlip, sI_uL, xI_uI, if_neg (by omega)]; exact f2
      · rw [nSlip, sI_uL, xI_uI, if_pos ⟨rfl, rfl⟩, f3, e2, nI_add]
        exact ⟨_, by omega, rfl⟩
      · rw [nSlip, sI_uL, xI_uI, if_neg (by omega)]; exact ⟨r, hr, f4⟩
      · rw [nSlip, sI_uL, sI_uL, xI_uI, xI_uI, if_neg (by omega), if_neg (by omega)]; exact f5
    · exact h.2.2.2.2 _ (by omega)
  · refine hR.upd rfl rfl ?_ (fun z hz => agr_slip hz) ?_
    · rw [nSlip, sI_uL, sI_uI, if_neg (by decide)]
    · rw [e3]
      refine ⟨⟨g1, g2, ?_, g4, g5, ?_, g7, g8, g9, g10, g11, g12⟩, hC, hT⟩
      · rw [nSlip, sI_uL, xI_uI, if_pos ⟨rfl, rfl⟩, e2, f3, e4, ← f3, ← g3]
        rfl
      · rw [nSlip, xL_uL, if_pos ⟨rfl, rfl⟩, e2, ← g6]
        rfl
theorem agr_leave {z : Nat} (h : z ≠ tN i) : agr M (nLeave M i) z := by
  refine ⟨fun a h1 h2 => ?_, fun a => rfl, fun a k h1 h2 => ?_⟩
  · rw [nLeave, xI_uI, xI_uI, xI_uI, if_neg (by omega), if_neg (by omega), if_neg (by omega)]
  · rw [nLeave, xI_uI, xI_uI, xI_uI, if_neg (by omega), if_neg (by omega), if_neg (by omega)]
theorem leave_S (h : IV M N t c 7) (hR : RW M N P) (hi : vp_in i N) (h5 : sI M 5 (tN i) = 0) : IV (nLeave M i) N t (c + 1) 7 ∧ RW (nLeave M i) N (uPC P (tN i) (uKI (uKL (uKL (pC P (tN i)) 6 (kL (pC P (tN i)) 6 + kL (pC P (tN i)) 4)) 4 0) 3 1)) ∧ (kL (pC P (tN i)) 4).toInt32 = sI M 6 (tN i) := by
  have hj := vp_lt hi
  have h6 := h.1.1
  obtain ⟨f1, f2, ⟨w, hw, f3⟩, f4, f5⟩ := h.2.2.1 _ hj
  obtain ⟨⟨g1, g2, g3, g4, g5, g6, g7, g8, g9, g10, g11, g12⟩, hC, hT⟩ := hR.2.2.2.2 _ hj
  refine ⟨?_, ?_, by rw [g3, l32_back]⟩
  · refine h.upd (by omega) hj rfl rfl ?_ (fun z hz => agr_leave hz) ?_ (fun k hk => ?_)
    · rw [nLeave, sI_uI, if_neg (by decide), sI_uI, if_neg (by decide), sI_uI, if_neg (by decide)]
    · refine ⟨?_, ?_, ?_, ?_, ?_⟩
      · rw [nLeave, xI_uI, xI_uI, xI_uI, if_neg (by omega), if_neg (by omega), if_neg (by omega)]; exact f1
      · rw [nLeave, xI_uI, xI_uI, xI_uI, if_neg (by omega), if_neg (by omega), if_neg (by omega)]; exact f2
      · rw [nLeave, xI_uI, if_pos ⟨rfl, rfl⟩]; exact ⟨0, by omega, rfl⟩
      · rw [nLeave, xI_uI, xI_uI, xI_uI, if_neg (by omega), if_neg (by omega), if_neg (by omega)]; exact f4
      · rw [nLeave, xI_uI, xI_uI, xI_uI, if_neg (by omega), if_neg (by omega), if_pos ⟨rfl, rfl⟩]
        exact fun h => absurd h (by decide)
    · exact h.2.2.2.2 _ (by omega)
  · refine hR.upd rfl rfl ?_ (fun z hz => agr_leave hz) ?_
    · rw [nLeave, sI_uI, if_neg (by decide), sI_uI, if_neg (by decide), sI_uI, if_neg (by decide)]
    · refine ⟨⟨g1, ?_, ?_, g4, ?_, g6, g7, g8, g9, g10, g11, g12⟩, hC, hT⟩
      · rw [nLeave, xI_uI, xI_uI, xI_uI, if_neg (by omega), if_neg (by omega), if_pos ⟨rfl, rfl⟩]; rfl
      · rw [nLeave, xI_uI, if_pos ⟨rfl, rfl⟩]; rfl
      · rw [nLeave, xI_uI, xI_uI, if_neg (by omega), if_pos ⟨rfl, rfl⟩]
        show kL (pC P (tN i)) 6 + kL (pC P (tN i)) 4 = _
        rw [g5, g3, f5 h5]
        exact Int64.zero_add _
/-- sales -/
theorem sellN_L {j : Nat} {x : mSell} {a b : Nat} (h : (a ≠ 13 ∧ a ≠ 14) ∨ b ≠ j) : ∀ k, sL (sellN j k x).1 a b = sL x.1 a b
  | 0 => rfl
  | k + 1 => by
    rw [sellN]
    unfold sellS
    split
    · rw [sL_uI, xL_uL, xL_uL, if_neg (by omega), if_neg (by omega), sellN_L h k]
    · exact sellN_L h k
theorem sellN_16 {j : Nat} {x : mSell} {q : Nat} : ∀ k, k ≤ 10 → (q < 10 * j ∨ 10 * j + 10 ≤ q) → sI (sellN j k x).1 16 q = sI x.1 16 q
  | 0, _, _ => rfl
  | k + 1, hk, hq => by
    rw [sellN]
    unfold sellS
    split
    · rw [xI_uI, if_neg (by omega), sI_uL, sI_uL, sellN_16 k (by omega) hq]
    · exact sellN_16 k (by omega) hq
theorem agr_sell {v : Int32} {z : Nat} (h : z ≠ tN i) : agr M (xSell M i v).1 z := by
  refine ⟨fun a h1 h2 => ?_, fun a => ?_, fun a k h1 h2 => ?_⟩
  · rw [xSell, sellN_I (by omega)]
  · rw [xSell, sellN_L (Or.inr h)]
  · by_cases h16 : a = 16
    · rw [xSell, h16, sellN_16 _ (by omega) (by omega)]
    · rw [xSell, sellN_I h16]
theorem sell_S {v : Int32} (h : IV M N t c 7) (hR : RW M N P) (hi : vp_in i N) (hv : qIn v 1 1000000) : IV (xSell M i v).1 N t (c + 1) 7 ∧ RW (xSell M i v).1 N (uPC P (tN i) (kSellN (pS P 2) (pS P 3) 10 (pC P (tN i), v, 0)).1) ∧ (kSellN (pS P 2) (pS P 3) 10 (pC P (tN i), v, 0)).2.2 = (xSell M i v).2.2 := by
  have hj := vp_lt hi
  have h6 := h.1.1
  obtain ⟨w, hw1, hw, rfl⟩ := qIn_nat (a := 1) (b := 1000000) (by decide) hv (by decide)
  have h0 : 0 ≤ sS M 0 := by
    rw [h.now (h.1.2.2.1 (by omega))]
    have := h.1.2.1
    exact nI_pos' (by omega)
  have hs := selR_all (M := M) (c := pC P (tN i)) (op := nI w) (show tN i < 6 by omega) ⟨rfl, hR.2.2.2.2 _ hj, ⟨w, by omega, rfl⟩, h.sell (by omega) (by omega)⟩ 10 (by omega)
  rw [← hR.2.2.2.1 h0, ← hR.2.1] at hs
  obtain ⟨s1, s2, -, s4⟩ := hs
  refine ⟨?_, ?_, by rw [xSell]; exact congrArg Prod.snd s1⟩
  · obtain ⟨f1, f2, ⟨x, hx, f3⟩, f4, f5⟩ := h.2.2.1 _ hj
    refine h.upd (by omega) hj ?_ ?_ ?_ (fun z hz => agr_sell hz) ?_ (fun k hk => ?_)
    · rw [xSell, sellN_S]
    · rw [xSell, sellN_S]
    · rw [xSell, sellN_I (by decide)]
    · refine ⟨?_, ?_, ?_, ?_, ?_⟩
      · rw [xSell, sellN_I (by decide)]; exact f1
      · rw [xSell, sellN_I (by decide)]; exact f2
      · rw [xSell, sellN_I (by decide)]; exact ⟨x, by omega, f3⟩
      · rw [xSell, sellN_I (by decide)]; exact f4
      · rw [xSell, sellN_I (by decide), sellN_I (by decide)]; exact f5
    · obtain ⟨o1, o2, o3, o4, o5⟩ := h.2.2.2.2 (10 * tN i + k) (by omega)
      refine ⟨?_, ?_, s4.2 k hk, ?_, ?_⟩
      · rw [xSell, sellN_I (by decide), sellN_I (by decide)]; exact o1
      · rw [xSell, sellN_I (by decide)]; exact o2
      · rw [xSell, sellN_I (by decide)]; exact o4
      · rw [xSell, sellN_I (by decide)]; exact o5
  · refine hR.upd ?_ ?_ ?_ (fun z hz => agr_sell hz) s2
    · rw [xSell, sellN_S]
    · rw [xSell, sellN_S]
    · rw [xSell, sellN_I (by decide)]
end
