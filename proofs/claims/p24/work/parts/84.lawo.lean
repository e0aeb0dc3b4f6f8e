/-! MATH of the law's sales: lot by lot -/
section
variable {G : ZG} {M : MS} {N t c s j k : Nat}
theorem eLb_eq {o q : Nat} (e0 : sS M 0 = nI (t - 1)) (h0 : 0 < t) (ht : t ≤ 60) (ho : o < 60) (hq : q < 60) (eo : sI M 18 q = nI o) : eLb t o q = eQ M q := by
  have a1 : (nI (t - 1) - nI o).toInt = ((t - 1 : Nat) : Int) - (o : Nat) := pk_sub_toInt (by omega) (by omega)
  have a2 : (nI (t - 1) - nI (6 * (q % 10) + 5)).toInt = ((t - 1 : Nat) : Int) - ((6 * (q % 10) + 5 : Nat) : Int) := pk_sub_toInt (by omega) (by omega)
  have z24 : (24 : Int32).toInt = 24 := rfl
  have z12 : (12 : Int32).toInt = 12 := rfl
  have key : (nI (t - 1) - nI o < 24 ∨ nI (t - 1) - nI (6 * (q % 10) + 5) < 12) ↔ (t - 1 < o + 24 ∨ t - 1 < 6 * (q % 10) + 5 + 12) := by
    rw [Int32.lt_iff_toInt_lt, Int32.lt_iff_toInt_lt, a1, a2, z24, z12]
    omega
  unfold eLb eQ
  rw [e0, eo]
  by_cases z : t - 1 < o + 24 ∨ t - 1 < 6 * (q % 10) + 5 + 12
  · rw [if_pos z, bI_t (key.mpr z)]; rfl
  · rw [if_neg z, bI_f (fun y => z (key.mp y))]; rfl
theorem pqL_eq {o q w1 w2 w3 w4 : Nat} (e0 : sS M 0 = nI (t - 1)) (h0 : 0 < t) (ht : t ≤ 60) (ho : o < 60) (hq : q < 60) (eo : sI M 18 q = nI o) (hw : w1 ≤ 100000 ∧ w2 ≤ 100000 ∧ w3 ≤ 100000 ∧ w4 ≤ 100000) (e1 : sI M 1 (6 * (q % 10) + 5) = nI w1) (e2 : sI M 17 q = nI w2) (e3 : sI M 1 o = nI w3) (e4 : sI M 1 (t - 1) = nI w4) : pqL t o q w1 w2 w3 w4 = pq M q := by
  have a2 : (nI w4 - nI w2).toInt = (w4 : Int) - (w2 : Int) := pk_sub_toInt (by omega) (by omega)
  have a4 : (nI (15 * w3 / 100)).toInt = ((15 * w3 / 100 : Nat) : Int) := nI_toInt (by omega)
  have a0 : (0 : Int32).toInt = 0 := rfl
  have a0' : (nI 0).toInt = 0 := rfl
  have a3 : 15 * nI w3 / 100 = nI (15 * w3 / 100) := by
    rw [show (15 : Int32) = nI 15 from rfl, pk_mul, show (100 : Int32) = nI 100 from rfl, pk_div (by omega) (by omega) (by omega)]
  have hE := eLb_eq e0 h0 ht ho hq eo
  unfold pq
  rw [← hE, e1, e2, eo, e0, show tN (nI (t - 1)) = t - 1 from nI_clamp (by omega), show tN (nI o) = o from nI_clamp (by omega), e3, e4, a3]
  unfold pqL eLb
  by_cases z : t - 1 < o + 24 ∨ t - 1 < 6 * (q % 10) + 5 + 12
  · rw [if_pos z, if_pos z]
    exact (if_pos rfl).symm
  · rw [if_neg z, if_neg z, if_neg (show ¬ nI 0 = 1 by decide)]
    refine Int32.toInt_inj.mp ?_
    simp only [Int32.le_iff_toInt_le, Int32.lt_iff_toInt_lt, a0, a2, a4]
    by_cases y1 : (w4 : Int) - (w2 : Int) ≤ 0
    · rw [if_pos y1, if_neg (show ¬ ((15 * w3 / 100 : Nat) : Int) < (w4 : Int) - (w2 : Int) by omega), a2]
      by_cases y2 : (w4 : Int) - (w2 : Int) < 0
      · rw [if_pos y2]; rfl
      · rw [if_neg y2, a2, a0']; omega
    · rw [if_neg y1]
      by_cases y3 : ((15 * w3 / 100 : Nat) : Int) < (w4 : Int) - (w2 : Int)
      · rw [if_pos (show ((15 * w3 / 100 : Nat) : Int) ≤ (w4 : Int) - (w2 : Int) by omega), if_pos y3, a4, if_neg (show ¬ ((15 * w3 / 100 : Nat) : Int) < 0 by omega), a4]
      · rw [if_neg y3, a2, if_neg (show ¬ (w4 : Int) - (w2 : Int) < 0 by omega), a2]
        by_cases y4 : ((15 * w3 / 100 : Nat) : Int) ≤ (w4 : Int) - (w2 : Int)
        · rw [if_pos y4, a4]; omega
        · rw [if_neg y4, a2]
/-- a lot that stands, in the law's rows -/
theorem lot_facts {q : Nat} (hI : IV M N t c 7) (hq : q < 40) (hb : sI M 15 q ≠ 0) (gp : ∀ x, x < t → gI G 1 x = sI M 1 x) (g5 : gI G 5 q = sI M 17 q) (g6 : gI G 6 q = sI M 18 q) :
    ∃ o w1 w2 w3 w4 : Nat, (0 < t ∧ t ≤ 60) ∧ o < 60 ∧ gI G 6 q = nI o ∧ (w1 ≤ 100000 ∧ w2 ≤ 100000 ∧ w3 ≤ 100000 ∧ w4 ≤ 100000) ∧ gI G 1 (6 * (q % 10) + 5) = nI w1 ∧ gI G 5 q = nI w2 ∧ gI G 1 o = nI w3 ∧ gI G 1 (t - 1) = nI w4 ∧ pqL t o q w1 w2 w3 w4 = pq M q ∧ eLb t o q = eQ M q ∧ sI M 1 (tN (sS M 0)) = nI w4 ∧ sI M 17 q = nI w2 := by
  have h6 := hI.1.2.1
  obtain ⟨⟨o, ho, eo, ho2⟩, ⟨w2, hw2, e2⟩, -, hk, -⟩ := hI.2.2.2.2 q (by omega)
  have hk := hk hb
  have ho2 := ho2 hb
  have h0 : 0 < t := by omega
  obtain ⟨w1, -, h1, e1⟩ := hI.2.1 (6 * (q % 10) + 5) (by omega)
  obtain ⟨w3, -, h3, e3⟩ := hI.2.1 o ho2
  obtain ⟨w4, -, h4, e4⟩ := hI.2.1 (t - 1) (by omega)
  refine ⟨o, w1, w2, w3, w4, ⟨h0, h6⟩, ho, g6.trans eo, ⟨h1, hw2, h3, h4⟩, (gp _ (by omega)).trans e1, g5.trans e2, (gp _ ho2).trans e3, (gp _ (by omega)).trans e4, pqL_eq (hI.now h0) h0 h6 ho (by omega) eo ⟨h1, hw2, h3, h4⟩ e1 e2 e3 e4, eLb_eq (hI.now h0) h0 h6 ho (by omega) eo, ?_, e2⟩
  rw [hI.tn h0]; exact e4
theorem had_bought {P : PS} (hR : RW M N P) (hj : j < N) (hk : k < 10) (hb : sI M 16 (10 * j + k) ≠ 0) : sI M 15 (10 * j + k) ≠ 0 := by
  rcases (hR.2.2.2.2 j hj).2.2 k hk with ⟨-, q, -⟩ | ⟨q, -⟩
  · exact absurd q hb
  · exact q
/-- what was had of the first lots -/
def hadS (M : MS) (j : Nat) : Nat → Nat
  | 0 => 0
  | k + 1 => hadS M j k + tN (sI M 16 (10 * j + k))
theorem had_nat (hI : IV M N t c s) {q : Nat} (hq : q < 60) : ∃ b : Nat, b < 2 ^ 31 ∧ sI M 16 q = nI b ∧ tN (sI M 16 q) = b := by
  obtain ⟨b, hb, eb⟩ := (hI.2.2.2.2 q hq).2.2.1
  exact ⟨b, hb, eb, by rw [eb, tN, nI_clamp hb]⟩
theorem sH_hadS (hI : IV M N t c s) (hj : j < 6) : ∀ k, k ≤ 10 → sH M j k = nI (hadS M j k)
  | 0, _ => rfl
  | k + 1, hk => by
    obtain ⟨b, hb, eb, et⟩ := had_nat hI (q := 10 * j + k) (by omega)
    rw [sH, hadS, sH_hadS hI hj k (by omega), et, eb, nI_add]
theorem sell_enough (hI : IV M N t c s) (hj : j < 6) {w : Nat} (hw : w ≤ 1000000) (h : nI w ≤ sH M j 10) : w ≤ hadS M j 10 := by
  rw [sH_hadS hI hj 10 (Nat.le_refl 10)] at h
  rcases Nat.lt_or_ge (hadS M j 10) (2 ^ 31) with z | z
  · exact (nI_leI (by omega) z).mp h
  · omega
/-- the reference's sale as a function of the lots that are gone through -/
def isZ (M : MS) (j : Nat) (w : Nat) (Z : Nat → mSell) : Prop := Z 0 = (M, nI w, 0) ∧ ∀ k, Z (k + 1) = sellS j k (Z k)
theorem isZ_mk (M : MS) (j w : Nat) : isZ M j w (fun k => sellN j k (M, nI w, 0)) := ⟨rfl, fun _ => rfl⟩
theorem isZ_N {w : Nat} {Z : Nat → mSell} (h : isZ M j w Z) : ∀ k, Z k = sellN j k (M, nI w, 0)
  | 0 => h.1
  | k + 1 => by rw [h.2 k, isZ_N h k]; rfl
theorem isZ_stop {w : Nat} {Z : Nat → mSell} (h : isZ M j w Z) (hk : (Z k).2.1 ≤ 0) (hk10 : k ≤ 10) : Z 10 = Z k := by
  have e := sellN_stop (j := j) (x := (M, nI w, 0)) (k := k) (by rw [← isZ_N h k]; exact hk) (10 - k)
  rw [show k + (10 - k) = 10 by omega] at e
  rw [isZ_N h 10, isZ_N h k]
  exact e
theorem isZ_S {w a : Nat} {Z : Nat → mSell} (h : isZ M j w Z) : sS (Z k).1 a = sS M a := by rw [isZ_N h k]; exact sellN_S k
theorem isZ_I {w a : Nat} {Z : Nat → mSell} (h : isZ M j w Z) (ha : a ≠ 16) : sI (Z k).1 a = sI M a := by rw [isZ_N h k]; exact sellN_I ha k
theorem isZ_16 {w q : Nat} {Z : Nat → mSell} (h : isZ M j w Z) : ∀ k, 10 * j + k ≤ q → sI (Z k).1 16 q = sI M 16 q
  | 0, _ => by rw [h.1]
  | k + 1, hk => by
    rw [h.2 k, sellS]
    split
    · rw [xI_uI, if_neg (by omega), xI_uL, xI_uL]
      exact isZ_16 h k (by omega)
    · exact isZ_16 h k (by omega)
theorem pq_of {A B : MS} {q : Nat} (h0 : sS A 0 = sS B 0) (h1 : sI A 1 = sI B 1) (h7 : sI A 17 = sI B 17) (h8 : sI A 18 = sI B 18) : pq A q = pq B q ∧ eQ A q = eQ B q := by
  unfold pq eQ
  rw [h0, h1, h7, h8]
  exact ⟨rfl, rfl⟩
/-- a sale of some shares of a lot -/
theorem LR.sellp {op b sd : Nat} {ea pz P4 Q2 : Int32} (h : LR G M N t) (hj : j < 4) (hop : op < 2 ^ 31) (hb : b < 2 ^ 31) (eb : sI M 16 (10 * j + k) = nI b) (hs1 : sd ≤ b) (hs2 : sd ≤ op) (hs3 : sd = b ∨ sd = op) (hs0 : 0 < sd) (ez : pz = pq M (10 * j + k)) (e4 : P4 = sI M 1 (tN (sS M 0))) (e2 : Q2 = sI M 17 (10 * j + k)) :
    LR (vI (vX (vX G (8 + j) (gX G (8 + j) + (nI sd).toInt64 * pz.toInt64)) (12 + j) (gX G (12 + j) + (nI sd).toInt64 * (P4 - Q2 - pz).toInt64)) 4 (10 * j + k) (nI (b - sd))) (sellS j k (M, nI op, ea)).1 N t ∧ (sellS j k (M, nI op, ea)).2.1 = nI (op - sd) ∧ (sellS j k (M, nI op, ea)).2.2 = ea + (if eQ M (10 * j + k) = 0 then 0 else nI sd) := by
  have es : soldN M (10 * j + k) (nI op) = nI sd := by rw [sold_nat hop hb eb, show (if op < b then op else b) = sd by split <;> omega]
  have h1 : gX G (8 + j) = sL M 13 j := h.xat hj (by unfold xP; omega)
  have h2 : gX G (12 + j) = sL M 14 j := h.xat hj (by unfold xP; omega)
  have hp : (0 : Int32) < nI sd := (nI_ltI (a := 0) (b := sd) (by decide) (by omega)).mpr hs0
  unfold sellS
  rw [es, if_pos hp]
  refine ⟨?_, pk_sub hs2, rfl⟩
  dsimp only
  have e9 : sI M 16 (10 * j + k) - nI sd = nI (b - sd) := by rw [eb]; exact pk_sub hs1
  rw [e9, ez, e4, e2, h1, h2]
  unfold gq
  exact ((h.x (off := 8) (a := 13) hj (by unfold xP; omega)).x (off := 12) (a := 14) hj (by unfold xP; omega)).had
/-- a sale of none of them -/
theorem LR.sellz {op b sd : Nat} {ea pz rs : Int32} (hop : op < 2 ^ 31) (hb : b < 2 ^ 31) (eb : sI M 16 (10 * j + k) = nI b) (hsd : sd = 0) (hz : sd = b ∨ sd = op) (eg : gI G 4 (10 * j + k) = nI b) :
    vI (vX (vX G (8 + j) (gX G (8 + j) + (nI sd).toInt64 * pz.toInt64)) (12 + j) (gX G (12 + j) + (nI sd).toInt64 * rs.toInt64)) 4 (10 * j + k) (nI (b - sd)) = G ∧ sellS j k (M, nI op, ea) = (M, nI op, ea) := by
  subst hsd
  constructor
  · rw [show (nI 0).toInt64 = 0 from rfl, Int64.zero_mul, Int64.zero_mul, Int64.add_zero, Int64.add_zero, vX_id rfl, vX_id rfl, Nat.sub_zero]
    exact vI_id eg
  · have es : soldN M (10 * j + k) (nI op) = nI 0 := by rw [sold_nat hop hb eb, show (if op < b then op else b) = 0 by split <;> omega]
    unfold sellS
    dsimp only
    rw [es, if_neg (show ¬ (0 : Int32) < nI 0 by decide)]
end
theorem sh_in {x : Int32} (h1 : ¬ x ≤ 0) (h2 : ¬ nI 1000001 ≤ x) : qIn x 1 1000000 := by
  have z0 : (0 : Int32).toInt = 0 := rfl
  have z1 : (1 : Int32).toInt = 1 := rfl
  have z2 : (1000000 : Int32).toInt = 1000000 := rfl
  have z3 : (nI 1000001).toInt = 1000001 := rfl
  unfold qIn
  simp only [Int32.le_iff_toInt_le] at *
  omega
theorem sh_lo {x : Int32} (h1 : x ≤ 0) : ¬ qIn x 1 1000000 := by
  have z0 : (0 : Int32).toInt = 0 := rfl
  have z1 : (1 : Int32).toInt = 1 := rfl
  unfold qIn
  simp only [Int32.le_iff_toInt_le] at *
  omega
theorem sh_hi {x : Int32} (h1 : nI 1000001 ≤ x) : ¬ qIn x 1 1000000 := by
  have z2 : (1000000 : Int32).toInt = 1000000 := rfl
  have z3 : (nI 1000001).toInt = 1000001 := rfl
  unfold qIn
  simp only [Int32.le_iff_toInt_le] at *
  omega
theorem al_pos {x : Int32} (h : ¬ x ≤ nI 4) : ∃ A : Nat, A < 2 ^ 31 ∧ 4 < A ∧ x = nI A := by
  have z4 : (nI 4).toInt = 4 := rfl
  have z0 : (0 : Int32).toInt = 0 := rfl
  obtain ⟨A, hA, e⟩ := nI_of (x := x) (fun z => by
    simp only [Int32.le_iff_toInt_le, Int32.lt_iff_toInt_lt] at *
    omega)
  refine ⟨A, hA, ?_, e⟩
  rw [e, nI_leI hA (by decide)] at h
  omega
