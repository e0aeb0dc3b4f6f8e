/-! MATH, a month's step -/
section
variable {M : MS} {N t c : Nat} {P : PS}
theorem step_0 (h : IV M N t c 6) : sS M 0 + 1 = nI t := by rw [h.1.2.2.2.2, Int32.sub_add_cancel]
theorem tick_S {p : Int32} (h : IV M N t c 6) (hR : RW M N P) (h60 : t < 60) (hp : qIn p 1 100000) : IV (uI (uS M 0 (sS M 0 + 1)) 1 (tN (sS M 0 + 1)) p) N (t + 1) (c + 1) 7 ∧ RW (uI (uS M 0 (sS M 0 + 1)) 1 (tN (sS M 0 + 1)) p) N (uPS (uPS P 2 (sS M 0 + 1)) 3 p) := by
  have e0 := step_0 h
  have et : tN (sS M 0 + 1) = t := by rw [e0, tN, nI_clamp (by omega)]
  have hlot := fun q hq hb => (h.2.2.2.2 q hq).2.2.2.1 hb
  obtain ⟨⟨h1, h2, h3, h4, h5⟩, hpr, hb, hn, hq⟩ := h
  obtain ⟨w, hw1, hw2, ew⟩ := qIn_nat (a := 1) (b := 100000) (by decide) hp (by decide)
  rw [et, e0]
  generalize hM : uI (uS M 0 (nI t)) 1 t p = M'
  have fo : ∀ a z, a ≠ 1 ∨ z ≠ t → sI M' a z = sI M a z := fun a z q => by rw [← hM, xI_uI, if_neg (by omega)]; rfl
  have f1 : sI M' 1 t = p := by rw [← hM, xI_uI, if_pos ⟨rfl, rfl⟩]
  have fL : sL M' = sL M := by rw [← hM]; rfl
  have f0 : sS M' 0 = nI t := by rw [← hM]; rfl
  have fS : ∀ a, a ≠ 0 → sS M' a = sS M a := fun a q => by rw [← hM, sS_uI, sS_uS, if_neg q]
  have ft : tN (sS M' 0) = t := by rw [f0, tN, nI_clamp (by omega)]
  have ha : ∀ i, agr M M' i := fun i => ⟨fun a q1 q2 => fo a i (Or.inl (by omega)), fun a => by rw [fL], fun a k q1 q2 => fo a _ (Or.inl (by omega))⟩
  constructor
  · refine ⟨⟨h1, by omega, fun _ => by omega, ?_, ?_⟩, fun j hj => ?_, fun i hi => ?_, fun i hi h6 => (hn i hi h6).agr (ha i), fun q hq6 => ?_⟩
    · rw [fS 3 (by decide)]; exact h4
    · rw [f0, nI_pred]
    · by_cases hjt : j = t
      · rw [hjt, f1]; exact ⟨w, hw1, hw2, ew⟩
      · rw [fo 1 j (Or.inr hjt)]; exact hpr j (by omega)
    · obtain ⟨⟨f, hf, ef⟩, g2, ⟨y, hy, ey⟩, g4, g5⟩ := hb i hi
      refine ⟨⟨f, by omega, ?_⟩, ?_, ⟨y, by omega, ?_⟩, ?_, ?_⟩
      · rw [fo _ _ (Or.inl (by decide))]; exact ef
      · rw [fo _ _ (Or.inl (by decide))]; exact g2
      · rw [fo _ _ (Or.inl (by decide))]; exact ey
      · rw [fo _ _ (Or.inl (by decide))]; exact g4
      · rw [fo _ _ (Or.inl (by decide)), fo _ _ (Or.inl (by decide))]; exact g5
    · obtain ⟨⟨o, ho, eo, ho2⟩, o2, o3, o4, o5⟩ := hq q hq6
      unfold ltq hadN
      rw [fo 18 q (Or.inl (by decide)), fo 15 q (Or.inl (by decide)), fo 17 q (Or.inl (by decide)), fo 16 q (Or.inl (by decide))]
      exact ⟨⟨o, ho, eo, fun hb => by have := ho2 hb; omega⟩, o2, o3, fun hb => by have := o4 hb; omega, o5⟩
  · obtain ⟨r1, r2, r3, r4, r5⟩ := hR
    refine ⟨r1, f0.symm, r3.trans (fS 2 (by decide)).symm, fun _ => ?_, fun i hi => ?_⟩
    · rw [ft, f1]; rfl
    · obtain ⟨hI, hC, hT⟩ := r5 i hi
      obtain ⟨⟨f, hf, ef⟩, -⟩ := hb i hi
      have hbt : ∀ k, k < 10 → sI M 15 (10 * i + k) ≠ 0 → 6 * k + 5 < t ∧ tN (sI M 18 (10 * i + k)) < t := fun k hk hne => by
        obtain ⟨⟨o, ho, eo, ho2⟩, -, -, o4, -⟩ := hq (10 * i + k) (by omega)
        have o4 := o4 hne
        have ho2 := ho2 hne
        rw [eo, tN, nI_clamp (by omega)]
        omega
      have htm : ∀ k, k < 10 → tm M' (10 * i + k) = tm M (10 * i + k) := fun k hk => by
        unfold tm
        rw [fo 15 _ (Or.inl (by decide)), fo 18 _ (Or.inl (by decide))]
        by_cases hne : sI M 15 (10 * i + k) = 0
        · rw [hne, show (0 : Int32).toInt64 = 0 from rfl, Int64.zero_mul, Int64.zero_mul]
        · rw [fo 1 _ (Or.inr (by have := (hbt k hk hne).2; omega))]
      refine ⟨?_, fun y hy => ?_, fun k hk => ?_⟩
      · unfold KI at hI ⊢
        rw [fo 4 _ (Or.inl (by decide)), fo 5 _ (Or.inl (by decide)), fo 6 _ (Or.inl (by decide)), fo 7 _ (Or.inl (by decide)), fo 10 _ (Or.inl (by decide)), fo 11 _ (Or.inl (by decide)), fo 12 _ (Or.inl (by decide)), fL, fo 1 _ (Or.inr (by rw [ef, tN, nI_clamp (by omega)]; omega))]
        exact hI
      · unfold cN
        rw [htm _ (by omega), htm _ (by omega)]
        exact hC y hy
      · have hT' := hT k hk
        unfold KT at hT' ⊢
        rw [fo 15 _ (Or.inl (by decide)), fo 16 _ (Or.inl (by decide)), fo 17 _ (Or.inl (by decide)), fo 18 _ (Or.inl (by decide))]
        rcases hT' with ⟨q1, q2, q3⟩ | ⟨q1, q2, q3, q4, q5, q6, q7, q8, q9⟩
        · exact Or.inl ⟨q1, q2, q3⟩
        · have hh := hbt k hk q1
          refine Or.inr ⟨q1, q2, q3, ?_, q5, q6, ?_, q8, q9⟩
          · rw [fo 1 _ (Or.inr (by omega))]; exact q4
          · rw [fo 1 _ (Or.inr (by omega))]; exact q7
theorem next_S {p : Int32} {qs : Nat → Nat} (h : IV M N t c 7) (hR : RW M N P) (hc : c < 512) (hp : qIn p 1 100000) (h59 : sS M 0 < 59) : IV (nNext M p) N (t + 1) (c + 1) 7 ∧ RW (nNext M p) N (uPS (uPS (if irem (pS P 2) 6 = 5 then pAll qs N P 6 else P) 2 (pS P 2 + 1)) 3 p) := by
  have h60 : t < 60 := by
    have := h.1.2.1
    refine Nat.lt_of_le_of_ne this (fun e => ?_)
    rw [h.1.2.2.2.2, e] at h59
    exact absurd h59 (by decide)
  have h6 := h.1.1
  have h3 : tN (sS M 3) = N := by rw [h.1.2.2.2.1, tN, nI_clamp (by omega)]
  unfold nNext
  rw [hR.2.1, h3]
  by_cases h5 : irem (sS M 0) 6 = 5
  · rw [if_pos h5, if_pos h5]
    obtain ⟨k, hk, ht, -⟩ := irem_nat h h5
    obtain ⟨i1, i2, -⟩ := all_K (qs := qs) (h.s6 (by omega)) hR ht hk (by omega) (fun j hj => (free_K h hR ht hk j hj).1) N (Nat.le_refl N)
    have e6 : pAll qs N P 6 = pAll qs N P N := by
      rw [show 6 = N + (6 - N) by omega]
      exact pAll_end _
    have := tick_S i1 i2 h60 hp
    rw [bAll_S] at this
    rw [e6]
    exact this
  · rw [if_neg h5, if_neg h5]
    exact tick_S (h.s6 (by omega)) hR h60 hp
/-- what the two calls of a month's step ask -/
theorem next_B (h : IV M N t c 7) (hR : RW M N P) (h5 : irem (pS P 2) 6 = 5) : ∃ k, k < 10 ∧ pS P 2 / 6 = nI k ∧ ∀ i, i < N → kR (pC P i) k = none := by
  rw [hR.2.1] at h5 ⊢
  obtain ⟨k, hk, ht, hd⟩ := irem_nat h h5
  exact ⟨k, hk, hd, fun i hi => (free_K h hR ht hk i hi).2⟩
theorem next_M (h : IV M N t c 7) (hR : RW M N P) (hc : c < 512) (h5 : irem (sS M 0) 6 = 5) : ∀ q, q < tN (sS M 3) → okBuy (bAll (uS M 19 0) q) q := fun q hq => by
  have h6 := h.1.1
  have h3 : tN (sS M 3) = N := by rw [h.1.2.2.2.1, tN, nI_clamp (by omega)]
  obtain ⟨k, hk, ht, -⟩ := irem_nat h h5
  obtain ⟨i1, i2, i3⟩ := all_K (M := uS M 19 0) (qs := fun _ => 0) (h.u19.s6 (by omega)) hR.u19 ht hk (by omega) (fun j hj => (free_K h hR ht hk j hj).1) q (by omega)
  exact ok_K i1 ht hk (by omega) (by omega) (i2.2.2.2.2 q (by omega))
theorem next_m1 (h : IV M N t c 7) : -1 ≤ sS M 0 := by
  rcases Nat.eq_zero_or_pos t with hz | hz
  · rw [h.1.2.2.2.2, hz]; decide
  · have h60 := h.1.2.1
    rw [h.now hz, Int32.le_iff_toInt_le, nI_toInt (by omega)]
    have : ((-1 : Int32)).toInt = -1 := rfl
    omega
end
theorem new_S : IV mNew 0 0 0 7 ∧ RW mNew 0 pNew := by
  refine ⟨⟨⟨by omega, by omega, fun h => h, rfl, rfl⟩, fun j hj => absurd hj (Nat.not_lt_zero j), fun i hi => absurd hi (Nat.not_lt_zero i), fun i _ _ => ⟨⟨rfl, rfl, rfl, rfl, rfl, rfl⟩, ⟨rfl, rfl, rfl, rfl⟩, fun k _ => ⟨rfl, rfl⟩⟩, fun q hq => ⟨⟨0, by omega, rfl, fun h => absurd rfl h⟩, ⟨0, by omega, rfl⟩, ⟨0, by omega, rfl⟩, fun h => absurd rfl h, ⟨0, by omega, rfl⟩⟩⟩, rfl, rfl, rfl, fun h => absurd h (by decide), fun i hi => absurd hi (Nat.not_lt_zero i)⟩
