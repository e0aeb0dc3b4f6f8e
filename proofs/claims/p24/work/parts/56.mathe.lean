/-! MATH, the calls that only answer, ceiling and join -/
section
variable {M : MS} {N t c : Nat} {P : PS} {i : Int32}
theorem ceil_S {v : Int32} (h : IV M N t c 7) (hR : RW M N P) : IV (uS M 2 v) N t (c + 1) 7 ∧ RW (uS M 2 v) N (uPS P 4 v) := ⟨h.mon (by omega), hR.1, hR.2.1, rfl, hR.2.2.2.1, hR.2.2.2.2⟩
theorem q_S (h : IV M N t c 7) (hR : RW M N P) (v : Int32) : IV (uS M 19 v) N t (c + 1) 7 ∧ RW (uS M 19 v) N P := ⟨h.mon (by omega), hR⟩
theorem memK (hR : RW M N P) (hi : vp_in i N) : KM M (tN i) (pC P (tN i)) := hR.2.2.2.2 _ (vp_lt hi)
theorem money_A (hR : RW M N P) (hi : vp_in i N) : (kL (pC P (tN i)) 4).toInt32 = sI M 6 (tN i) := by
  rw [(memK hR hi).1.2.2.1, l32_back]
theorem offerMonth_A (hR : RW M N P) (hi : vp_in i N) : kI (pC P (tN i)) 8 = sI M 10 (tN i) := (memK hR hi).1.2.2.2.2.2.2.1
theorem offerPrice_A (hR : RW M N P) (hi : vp_in i N) : kI (pC P (tN i)) 9 = sI M 1 (tN (sI M 10 (tN i))) := (memK hR hi).1.2.2.2.2.2.2.2.1
theorem resets_A (hR : RW M N P) (hi : vp_in i N) : kI (pC P (tN i)) 11 = sI M 12 (tN i) := (memK hR hi).1.2.2.2.2.2.2.2.2.2.1
theorem kept_A (hR : RW M N P) (hi : vp_in i N) : kL (pC P (tN i)) 7 = sL M 9 (tN i) := (memK hR hi).1.2.2.2.2.2.1
theorem pay_A (hR : RW M N P) (hi : vp_in i N) : kL (pC P (tN i)) 12 = sL M 13 (tN i) := (memK hR hi).1.2.2.2.2.2.2.2.2.2.2.1
theorem gain_A (hR : RW M N P) (hi : vp_in i N) : kL (pC P (tN i)) 13 = sL M 14 (tN i) := (memK hR hi).1.2.2.2.2.2.2.2.2.2.2.2
theorem traced_A (hR : RW M N P) (hi : vp_in i N) : kL (pC P (tN i)) 5 + kL (pC P (tN i)) 4 + kL (pC P (tN i)) 6 = sL M 8 (tN i) + (sI M 6 (tN i)).toInt64 + (sI M 7 (tN i)).toInt64 := by
  obtain ⟨g1, g2, g3, g4, g5, -⟩ := (memK hR hi).1
  rw [g3, g4, g5]
theorem shares_A (hR : RW M N P) (hi : vp_in i N) : kSum (pC P (tN i)) 10 = sH M (tN i) 10 := kSum_sH (memK hR hi).2.2 10 (by omega)
theorem now_0 (h : IV M N t c 7) (hi : vp_in i N) : 0 ≤ sS M 0 := by
  have := vp_lt hi
  rw [h.now (h.1.2.2.1 (by omega))]
  have := h.1.2.1
  exact nI_pos' (by omega)
theorem gainNow_A (h : IV M N t c 7) (hR : RW M N P) (hi : vp_in i N) : kGN (pC P (tN i)) (pS P 2) (pS P 3) 10 = gN M (tN i) 10 := by
  have hj := vp_lt hi
  have h6 := h.1.1
  rw [hR.2.1, hR.2.2.2.1 (now_0 h hi)]
  have hs := h.sell (by omega) (show tN i < 6 by omega)
  exact kGN_gN (memK hR hi).2.2 hs.1 hs.2 10 (by omega)
theorem counted_A (hR : RW M N P) (hi : vp_in i N) {y : Int32} (hy : qIn y 0 4) : kCnt (pC P (tN i)) y = cN M (tN i) (tN y) := by
  obtain ⟨w, -, hw, rfl⟩ := qIn_nat (a := 0) (b := 4) (by decide) hy (by decide)
  have e : tN (nI w) = w := nI_clamp (by omega)
  unfold kCnt
  rw [e, if_neg]
  · exact (memK hR hi).2.1 w (by omega)
  · rintro (h | h)
    · exact nI_pos (by omega) h
    · exact nI_ge (a := w) (b := 5) (by omega) (by decide) h
theorem lot_k {d : Int32} (hi : vp_in i 6) (hd : qIn d 0 59) : tN (d / 6) < 10 ∧ tN (10 * i + d / 6) = 10 * tN i + tN (d / 6) ∧ ¬ (d / 6 < 0 ∨ 10 ≤ d / 6) := by
  obtain ⟨w, -, hw, rfl⟩ := qIn_nat (a := 0) (b := 59) (by decide) hd (by decide)
  obtain ⟨j, hj, rfl⟩ := vp_in_of hi (by decide)
  have e : nI w / 6 = nI (w / 6) := by rw [show (6 : Int32) = nI 6 from rfl, pk_div (by omega) (by omega) (by omega)]
  rw [e, nI_10, tN, tN, tN, nI_clamp (by omega), nI_clamp (by omega), nI_clamp (by omega)]
  refine ⟨by omega, rfl, ?_⟩
  rintro (h | h)
  · exact nI_pos (by omega) h
  · exact nI_ge (a := w / 6) (b := 10) (by omega) (by decide) h
theorem bought_A (h : IV M N t c 7) (hR : RW M N P) (hi : vp_in i N) {d : Int32} (hd : qIn d 0 59) : pLot (pC P (tN i)) d 5 0 = rBought M i d := by
  have hj := vp_lt hi
  have h6 := h.1.1
  obtain ⟨k1, k2, k3⟩ := lot_k (qM_in h.six ((h.mem i).mpr hi)) hd
  unfold pLot rBought kLot
  rw [k2]
  by_cases h5 : irem d 6 = 5
  · rw [if_pos h5, if_neg k3, if_pos h5]
    rcases (memK hR hi).2.2 _ k1 with ⟨t1, -, t3⟩ | ⟨-, t3, -, -, -, -, -, t5, -⟩
    · rw [if_pos t3, t1]
    · rw [if_neg t3, t5]
  · rw [if_neg h5, if_neg h5, if_pos rfl]
theorem paidEach_A (h : IV M N t c 7) (hR : RW M N P) (hi : vp_in i N) {d : Int32} (hd : qIn d 0 59) : pLot (pC P (tN i)) d 2 (-1) = rPaid M i d := by
  have hj := vp_lt hi
  have h6 := h.1.1
  obtain ⟨k1, k2, k3⟩ := lot_k (qM_in h.six ((h.mem i).mpr hi)) hd
  unfold pLot rPaid kLot
  rw [k2]
  by_cases h5 : irem d 6 = 5
  · rw [if_pos h5, if_neg k3]
    rcases (memK hR hi).2.2 _ k1 with ⟨t1, -, t3⟩ | ⟨t1, t3, -, -, t2, -⟩
    · rw [if_pos t3, t1, if_neg (fun q => absurd q.2 (by decide))]
    · obtain ⟨-, -, -, -, w, hw, ew⟩ := h.2.2.2.2 (10 * tN i + tN (d / 6)) (by omega)
      have hpos : 0 < sI M 15 (10 * tN i + tN (d / 6)) := by
        rcases Nat.eq_zero_or_pos w with hz | hz
        · rw [ew, hz] at t1
          exact absurd rfl t1
        · rw [ew]
          exact nI_lt (a := 0) hz hw
      rw [if_neg t3, t2, if_pos ⟨h5, hpos⟩]
  · rw [if_neg h5, if_pos rfl, if_neg (fun q => h5 q.1)]
/-- a new member -/
theorem kSum_new {j : Nat} (h : nmb M j) : ∀ k, k ≤ 10 → sH M j k = 0
  | 0, _ => rfl
  | k + 1, hk => by rw [sH, kSum_new h k (by omega), (h.2.2 k (by omega)).2]; rfl
theorem agr_join {v : Int32} {z : Nat} (h : z ≠ tN (sS M 3)) : agr M (nJoin M v) z := by
  refine ⟨fun a h1 h2 => ?_, fun a => rfl, fun a k h1 h2 => ?_⟩
  · rw [nJoin, sI_uS, xI_uI, xI_uI, if_neg (by omega), if_neg (by omega)]
  · rw [nJoin, sI_uS, xI_uI, xI_uI, if_neg (by omega), if_neg (by omega)]
theorem join_S {v : Int32} (h : IV M N t c 7) (hR : RW M N P) (hv : qIn v 1 15) (h0 : 0 ≤ sS M 0) (hN : N < 6) : IV (nJoin M v) (N + 1) t (c + 1) 7 ∧ RW (nJoin M v) (N + 1) (uPS (uPC P N (kNew v (pS P 2) (pS P 3))) 1 (nI N + 1)) := by
  obtain ⟨⟨h6, h60, -, h3, h1⟩, hp, hb, hn, hq⟩ := h
  have hz : tN (sS M 3) = N := by rw [h3, tN, nI_clamp (by omega)]
  have ht : 0 < t := by
    rcases Nat.eq_zero_or_pos t with hz | hz
    · rw [h1, hz] at h0
      exact absurd h0 (by decide)
    · exact hz
  have hnow : sS M 0 = nI (t - 1) := by rw [h1, show (nI t - 1 : Int32) = nI t - nI 1 from rfl, pk_sub ht]
  have e0 : sS (nJoin M v) 0 = sS M 0 := rfl
  have e3 : sS (nJoin M v) 3 = nI (N + 1) := by
    show sS M 3 + 1 = _
    rw [h3, nI_1]
  have e1 : sI (nJoin M v) 1 = sI M 1 := by rw [nJoin, sI_uS, sI_uI, if_neg (by decide), sI_uI, if_neg (by decide)]
  obtain ⟨x, -, hx, rfl⟩ := qIn_nat (a := 1) (b := 15) (by decide) hv (by decide)
  have hnN := hn N (by omega) hN
  obtain ⟨⟨b1, b2, b3, b4, b5, b6⟩, ⟨d1, d2, d3, d4⟩, e⟩ := hnN
  have f4 : sI (nJoin M (nI x)) 4 N = nI x := by rw [nJoin, sI_uS, xI_uI, xI_uI, if_neg (by omega), if_pos ⟨rfl, hz.symm⟩]
  have f10 : sI (nJoin M (nI x)) 10 N = sS M 0 := by rw [nJoin, sI_uS, xI_uI, if_pos ⟨rfl, hz.symm⟩]
  have fo : ∀ a z, a ≠ 4 → a ≠ 10 → sI (nJoin M (nI x)) a z = sI M a z := fun a z q1 q2 => by rw [nJoin, sI_uS, xI_uI, xI_uI, if_neg (by omega), if_neg (by omega)]
  constructor
  · refine ⟨⟨by omega, h60, fun _ => ht, e3, e0.trans h1⟩, fun z hz => ?_, fun z hz1 => ?_, fun z hz1 hz6 => ?_, fun q hq6 => ?_⟩
    · rw [e1]; exact hp z hz
    · by_cases hzN : z = N
      · rw [hzN]
        refine ⟨⟨t - 1, by omega, by rw [f10, hnow]⟩, ⟨0, by omega, ?_⟩, ⟨0, by omega, ?_⟩, ⟨x, hx, f4⟩, fun _ => ?_⟩
        · rw [fo _ _ (by decide) (by decide), b5]; rfl
        · rw [fo _ _ (by decide) (by decide), b2]; rfl
        · rw [fo _ _ (by decide) (by decide), b3]
      · exact (hb z (by omega)).agr (agr_join (by omega)) (by omega)
    · exact (hn z (by omega) hz6).agr (agr_join (by omega))
    · have hq' := hq q hq6
      unfold ltq hadN at hq' ⊢
      rw [fo _ _ (by decide) (by decide), fo _ _ (by decide) (by decide), fo _ _ (by decide) (by decide), fo _ _ (by decide) (by decide)]
      exact hq'
  · obtain ⟨r1, r2, r3, r4, r5⟩ := hR
    refine ⟨?_, r2, r3, fun q => ?_, fun z hz1 => ?_⟩
    · show nI N + 1 = _
      rw [nI_1]
    · rw [e1]
      exact r4 q
    · rw [pC_uPS, pC_uPC]
      by_cases hzN : z = N
      · rw [if_pos hzN, hzN]
        refine ⟨⟨?_, ?_, ?_, ?_, ?_, ?_, ?_, ?_, ?_, ?_, ?_, ?_⟩, fun y hy => ?_, fun k hk => ?_⟩
        · rw [f4]; rfl
        · rw [fo _ _ (by decide) (by decide), b1]; rfl
        · rw [fo _ _ (by decide) (by decide), b2]; rfl
        · exact d1.symm
        · rw [fo _ _ (by decide) (by decide), b3]; rfl
        · exact d2.symm
        · rw [f10, ← r2]; rfl
        · rw [f10, e1, ← r4 h0]; rfl
        · rw [fo _ _ (by decide) (by decide), b5]; rfl
        · rw [fo _ _ (by decide) (by decide), b6]; rfl
        · exact d3.symm
        · exact d4.symm
        · unfold cN tm
          rw [fo 15 (10 * N + 2 * y) (by decide) (by decide), fo 15 (10 * N + (2 * y + 1)) (by decide) (by decide), (e (2 * y) (by omega)).1, (e (2 * y + 1) (by omega)).1, show (0 : Int32).toInt64 = 0 from rfl, Int64.zero_mul, Int64.zero_mul]
          rfl
        · refine Or.inl ⟨?_, ?_, rfl⟩
          · rw [fo _ _ (by decide) (by decide)]; exact (e k hk).1
          · rw [fo _ _ (by decide) (by decide)]; exact (e k hk).2
      · rw [if_neg hzN]
        exact (r5 z (by omega)).agr e1 (agr_join (by omega))
end
