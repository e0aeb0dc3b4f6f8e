/-! MATH of what the law is told -/
theorem CX.kept {Y : Nat → ClassId} {x N t c i : Nat} {σ0 σ : sg_W} {M : MS} (h : CX Y x σ0 M N t c σ) (hi : i < N) : sL M 9 i = sL M 8 i + (sI M 6 i).toInt64 + (sI M 7 i).toInt64 := by
  obtain ⟨aM, aO, aL, aC, P, hQ, hR, hI, hA, ho⟩ := h
  obtain ⟨k1, k2, k3, k4, k5, k6, -⟩ := (hR.2.2.2.2 i hi).1
  have h9 := hA i hi
  unfold ACc at h9
  rw [k3, k4, k5, k6] at h9
  exact h9
section
variable {M : MS} {kk mo : Nat}
theorem d_rem (hm : mo ≤ 59) : irem (nI mo) 6 = 5 ↔ mo % 6 = 5 := by
  have e : irem (nI mo) 6 = nI (mo % 6) := pk_rem (d := 6) (by omega) (by decide) (by decide)
  rw [e]
  exact nI_eq (a := mo % 6) (b := 5) (by omega) (by decide)
theorem d_ix (hk : kk < 4) (hm : mo ≤ 59) : tN (10 * nI kk + nI mo / 6) = 10 * kk + mo / 6 := by
  have e : nI mo / 6 = nI (mo / 6) := pk_div (d := 6) (by omega) (by decide) (by decide)
  rw [e, nI_10, tN, nI_clamp (by omega)]
theorem rB_1 (hk : kk < 4) (hm : mo ≤ 59) (h5 : mo % 6 = 5) : rBought M (nI kk) (nI mo) = sI M 15 (10 * kk + mo / 6) := by
  unfold rBought
  rw [if_pos ((d_rem hm).mpr h5), d_ix hk hm]
theorem rB_0 (hk : kk < 4) (hm : mo ≤ 59) (h : ¬ (mo % 6 = 5 ∧ sI M 15 (10 * kk + mo / 6) ≠ 0)) : rBought M (nI kk) (nI mo) = nI 0 := by
  unfold rBought
  by_cases h5 : mo % 6 = 5
  · rw [if_pos ((d_rem hm).mpr h5), d_ix hk hm]
    exact Decidable.byContradiction (fun z => h ⟨h5, z⟩)
  · rw [if_neg (fun z => h5 ((d_rem hm).mp z))]; rfl
theorem rP_1 {b : Nat} (hk : kk < 4) (hm : mo ≤ 59) (h5 : mo % 6 = 5) (hb : b < 2 ^ 31) (eb : sI M 15 (10 * kk + mo / 6) = nI b) (h0 : sI M 15 (10 * kk + mo / 6) ≠ 0) : rPaid M (nI kk) (nI mo) = sI M 17 (10 * kk + mo / 6) := by
  have hp : (0 : Int32) < sI M 15 (10 * kk + mo / 6) := by
    rw [eb]
    refine (nI_ltI (a := 0) (b := b) (by decide) hb).mpr ?_
    rcases Nat.eq_zero_or_pos b with z | z
    · rw [z] at eb
      exact absurd eb h0
    · exact z
  unfold rPaid
  rw [d_ix hk hm]
  exact if_pos ⟨(d_rem hm).mpr h5, hp⟩
theorem rP_0 (hk : kk < 4) (hm : mo ≤ 59) (h : ¬ (mo % 6 = 5 ∧ sI M 15 (10 * kk + mo / 6) ≠ 0)) : rPaid M (nI kk) (nI mo) = -1 := by
  unfold rPaid
  rw [d_ix hk hm]
  refine if_neg (fun z => h ⟨(d_rem hm).mp z.1, fun y => ?_⟩)
  have z2 := z.2
  rw [y] at z2
  exact absurd z2 (by decide)
end
