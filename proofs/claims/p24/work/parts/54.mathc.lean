/-! MATH, the invariant of the law's walk: N members, t prices, c calls, s = 7 between the calls and 6 within a purchase -/
def mbr (M : MS) (t c i : Nat) : Prop := (∃ f : Nat, f < t ∧ sI M 10 i = nI f) ∧ (∃ w : Nat, w ≤ 3 ∧ sI M 11 i = nI w) ∧ (∃ w : Nat, w ≤ 750000 * c ∧ sI M 6 i = nI w) ∧ (∃ w : Nat, w ≤ 15 ∧ sI M 4 i = nI w) ∧ (sI M 5 i = 0 → sI M 7 i = 0)
def nmb (M : MS) (i : Nat) : Prop := (sI M 5 i = 0 ∧ sI M 6 i = 0 ∧ sI M 7 i = 0 ∧ sI M 10 i = 0 ∧ sI M 11 i = 0 ∧ sI M 12 i = 0) ∧ (sL M 8 i = 0 ∧ sL M 9 i = 0 ∧ sL M 13 i = 0 ∧ sL M 14 i = 0) ∧ ∀ k, k < 10 → sI M 15 (10 * i + k) = 0 ∧ sI M 16 (10 * i + k) = 0
def ltq (M : MS) (t s q : Nat) : Prop := (∃ o : Nat, o < 60 ∧ sI M 18 q = nI o ∧ (sI M 15 q ≠ 0 → o < t)) ∧ (∃ w : Nat, w ≤ 100000 ∧ sI M 17 q = nI w) ∧ hadN M q ∧ (sI M 15 q ≠ 0 → 6 * (q % 10) + s ≤ t) ∧ ∃ w : Nat, w < 2 ^ 31 ∧ sI M 15 q = nI w
def IV (M : MS) (N t c s : Nat) : Prop := (N ≤ 6 ∧ t ≤ 60 ∧ (0 < N → 0 < t) ∧ sS M 3 = nI N ∧ sS M 0 = nI t - 1) ∧ (∀ j, j < t → prc (sI M 1 j)) ∧ (∀ i, i < N → mbr M t c i) ∧ (∀ i, N ≤ i → i < 6 → nmb M i) ∧ ∀ q, q < 60 → ltq M t s q
def RW (M : MS) (N : Nat) (P : PS) : Prop := pS P 1 = nI N ∧ pS P 2 = sS M 0 ∧ pS P 4 = sS M 2 ∧ (0 ≤ sS M 0 → pS P 3 = sI M 1 (tN (sS M 0))) ∧ ∀ i, i < N → KM M i (pC P i)
theorem IV.u19 {M : MS} {N t c s : Nat} {v : Int32} (h : IV M N t c s) : IV (uS M 19 v) N t c s := h
theorem RW.u19 {M : MS} {N : Nat} {P : PS} {v : Int32} (h : RW M N P) : RW (uS M 19 v) N P := h
/-- M' is M at the member i -/
def agr (M M' : MS) (i : Nat) : Prop := (∀ a, 1 < a → a < 15 → sI M' a i = sI M a i) ∧ (∀ a, sL M' a i = sL M a i) ∧ ∀ a k, 15 ≤ a → k < 10 → sI M' a (10 * i + k) = sI M a (10 * i + k)
theorem mbr.agr {M M' : MS} {t c c' i : Nat} (h : mbr M t c i) (a : agr M M' i) (hc : c ≤ c') : mbr M' t c' i := by
  obtain ⟨a1, -, -⟩ := a
  obtain ⟨h1, h2, ⟨w, hw, e⟩, h4, h5⟩ := h
  refine ⟨?_, ?_, ?_, ?_, ?_⟩
  · rw [a1 10 (by omega) (by omega)]; exact h1
  · rw [a1 11 (by omega) (by omega)]; exact h2
  · rw [a1 6 (by omega) (by omega)]; exact ⟨w, by omega, e⟩
  · rw [a1 4 (by omega) (by omega)]; exact h4
  · rw [a1 5 (by omega) (by omega), a1 7 (by omega) (by omega)]; exact h5
theorem nmb.agr {M M' : MS} {i : Nat} (h : nmb M i) (a : agr M M' i) : nmb M' i := by
  obtain ⟨a1, a2, a3⟩ := a
  obtain ⟨⟨b1, b2, b3, b4, b5, b6⟩, ⟨d1, d2, d3, d4⟩, e⟩ := h
  refine ⟨⟨?_, ?_, ?_, ?_, ?_, ?_⟩, ⟨?_, ?_, ?_, ?_⟩, fun k hk => ?_⟩
  · rw [a1 _ (by omega) (by omega)]; exact b1
  · rw [a1 _ (by omega) (by omega)]; exact b2
  · rw [a1 _ (by omega) (by omega)]; exact b3
  · rw [a1 _ (by omega) (by omega)]; exact b4
  · rw [a1 _ (by omega) (by omega)]; exact b5
  · rw [a1 _ (by omega) (by omega)]; exact b6
  · rw [a2]; exact d1
  · rw [a2]; exact d2
  · rw [a2]; exact d3
  · rw [a2]; exact d4
  · rw [a3 _ k (by omega) hk, a3 _ k (by omega) hk]; exact e k hk
theorem ltq.agr {M M' : MS} {t s i k : Nat} (h : ltq M t s (10 * i + k)) (hk : k < 10) (a : agr M M' i) : ltq M' t s (10 * i + k) := by
  obtain ⟨-, -, a3⟩ := a
  unfold ltq hadN at h ⊢
  rw [a3 18 k (by omega) hk, a3 15 k (by omega) hk, a3 17 k (by omega) hk, a3 16 k (by omega) hk]
  exact h
theorem KM.agr {M M' : MS} {i : Nat} {c : CS} (h : KM M i c) (e1 : sI M' 1 = sI M 1) (a : agr M M' i) : KM M' i c := by
  obtain ⟨a1, a2, a3⟩ := a
  obtain ⟨hI, hC, hT⟩ := h
  refine ⟨?_, fun y hy => ?_, fun k hk => ?_⟩
  · unfold KI at hI ⊢
    rw [e1, a1 4 (by omega) (by omega), a1 5 (by omega) (by omega), a1 6 (by omega) (by omega), a1 7 (by omega) (by omega), a1 10 (by omega) (by omega), a1 11 (by omega) (by omega), a1 12 (by omega) (by omega), a2, a2, a2, a2]
    exact hI
  · unfold cN tm
    rw [e1, a3 15 (2 * y) (by omega) (by omega), a3 18 (2 * y) (by omega) (by omega), a3 15 (2 * y + 1) (by omega) (by omega), a3 18 (2 * y + 1) (by omega) (by omega)]
    exact hC y hy
  · have hT' := hT k hk
    unfold KT at hT' ⊢
    rw [e1, a3 15 k (by omega) hk, a3 16 k (by omega) hk, a3 17 k (by omega) hk, a3 18 k (by omega) hk]
    exact hT'
theorem IV.upd {M M' : MS} {N t c c' s j : Nat} (h : IV M N t c s) (hc : c ≤ c') (hj : j < N) (e0 : sS M' 0 = sS M 0) (e3 : sS M' 3 = sS M 3) (e1 : sI M' 1 = sI M 1) (ha : ∀ i, i ≠ j → agr M M' i) (hm : mbr M' t c' j) (hl : ∀ k, k < 10 → ltq M' t s (10 * j + k)) : IV M' N t c' s := by
  obtain ⟨⟨h1, h2, h3, h4, h5⟩, hp, hb, hn, hq⟩ := h
  refine ⟨⟨h1, h2, h3, e3.trans h4, e0.trans h5⟩, fun i hi => ?_, fun i hi => ?_, fun i hi h6 => ?_, fun q hq6 => ?_⟩
  · rw [e1]; exact hp i hi
  · by_cases hij : i = j
    · rw [hij]; exact hm
    · exact (hb i hi).agr (ha i hij) hc
  · exact (hn i hi h6).agr (ha i (by omega))
  · have e : q = 10 * (q / 10) + q % 10 := by omega
    by_cases hij : q / 10 = j
    · rw [e, hij]; exact hl _ (by omega)
    · have hq' := hq q hq6
      rw [e] at hq' ⊢
      exact hq'.agr (by omega) (ha _ hij)
theorem RW.upd {M M' : MS} {N j : Nat} {P : PS} {c : CS} (h : RW M N P) (e0 : sS M' 0 = sS M 0) (e2 : sS M' 2 = sS M 2) (e1 : sI M' 1 = sI M 1) (ha : ∀ i, i ≠ j → agr M M' i) (hm : KM M' j c) : RW M' N (uPC P j c) := by
  obtain ⟨h1, h2, h3, h4, h5⟩ := h
  refine ⟨h1, h2.trans e0.symm, h3.trans e2.symm, fun h0 => ?_, fun i hi => ?_⟩
  · rw [e1, e0]
    exact h4 (e0 ▸ h0)
  · rw [pC_uPC]
    by_cases hij : i = j
    · rw [if_pos hij, hij]; exact hm
    · rw [if_neg hij]
      exact (h5 i hi).agr e1 (ha i hij)
section
variable {M : MS} {N t c s : Nat} {P : PS}
theorem IV.six (h : IV M N t c s) : mem6 M := ⟨N, h.1.1, h.1.2.2.2.1⟩
theorem IV.mon {c' : Nat} (h : IV M N t c s) (hc : c ≤ c') : IV M N t c' s := by
  obtain ⟨h1, hp, hb, hn, hq⟩ := h
  exact ⟨h1, hp, fun i hi => (hb i hi).agr ⟨fun _ _ _ => rfl, fun _ => rfl, fun _ _ _ _ => rfl⟩ hc, hn, hq⟩
theorem IV.now (h : IV M N t c s) (h0 : 0 < t) : sS M 0 = nI (t - 1) := by
  rw [h.1.2.2.2.2, show (nI t - 1 : Int32) = nI t - nI 1 from rfl, pk_sub h0]
theorem IV.tn (h : IV M N t c s) (h0 : 0 < t) : tN (sS M 0) = t - 1 := by
  rw [h.now h0, tN, nI_clamp (by have := h.1.2.1; omega)]
theorem IV.mem (h : IV M N t c s) (i : Int32) : qM M i ↔ vp_in i N := by
  constructor
  · intro hq
    obtain ⟨h1, h2⟩ := qM_lt h.1.2.2.2.1 h.1.1 hq
    rw [h2]
    exact vp_in_nI h1 (by have := h.1.1; omega)
  · intro hv
    obtain ⟨j, hj, rfl⟩ := vp_in_of hv (by have := h.1.1; omega)
    have h6 := h.1.1
    refine ⟨nI_pos' (by omega), ?_⟩
    rw [h.1.2.2.2.1, show (nI N - 1 : Int32) = nI N - nI 1 from rfl, pk_sub (by omega)]
    exact nI_le (by omega) (by omega)
theorem IV.some (h : IV M N t c s) (h0 : 0 ≤ sS M 3 - 1) : 0 < N := by
  rcases Nat.eq_zero_or_pos N with hz | hz
  · rw [h.1.2.2.2.1, hz] at h0
    exact absurd h0 (by decide)
  · exact hz
theorem IV.hm (h : IV M N t c s) (h0 : 0 ≤ sS M 3 - 1) : vp_in (sS M 0) 60 := by
  have ht := h.1.2.2.1 (h.some h0)
  have h6 := h.1.2.1
  rw [h.now ht]
  exact vp_in_nI (by omega) (by decide)
theorem IV.ho (h : IV M N t c s) : ∀ k, k < 60 → vp_in (sI M 18 k) 60 := fun k hk => by
  obtain ⟨⟨o, ho, e, -⟩, -⟩ := h.2.2.2.2 k hk
  rw [e]
  exact vp_in_nI ho (by decide)
theorem IV.hf (h : IV M N t c s) : ∀ k, k < 6 → vp_in (sI M 10 k) 60 := fun k hk => by
  by_cases hN : k < N
  · obtain ⟨⟨f, hf, e⟩, -⟩ := h.2.2.1 k hN
    rw [e]
    exact vp_in_nI (by have := h.1.2.1; omega) (by decide)
  · rw [(h.2.2.2.1 k (by omega) hk).1.2.2.2.1]
    exact vp_in_nI (n := 0) (by decide) (by decide)
theorem IV.lot (h : IV M N t c s) (hs : 6 ≤ s) {q : Nat} (hq : q < 60) (hb : sI M 15 q ≠ 0) : lotB M q := by
  obtain ⟨⟨o, ho, eo, ho2⟩, hw, -, hk, -⟩ := h.2.2.2.2 q hq
  have hk := hk hb
  have hp := h.2.1
  refine ⟨hp _ (by omega), ?_, ?_, hw⟩
  · rw [eo, tN, nI_clamp (by omega)]
    exact hp _ (ho2 hb)
  · rw [h.tn (by omega)]
    exact hp _ (by omega)
theorem IV.sell (h : IV M N t c s) (hs : 6 ≤ s) {j : Nat} (hj : j < 6) : sellB M j := ⟨fun _ _ hb => h.lot hs (by omega) hb, fun k hk => (h.2.2.2.2 (10 * j + k) (by omega)).2.2.1⟩
end
