/-! MATH of the law's purchase -/
section
variable {G : ZG} {M : MS} {N t c s j : Nat}
theorem tm_eq (h : LR G M N t) (hI : IV M N t c s) {q : Nat} (hq : q < 40) : tmL G q = tm M q := by
  obtain ⟨g1, -, g3⟩ := h.2.2.2.1 q hq
  unfold tmL tm
  by_cases hb : sI M 15 q = 0
  · rw [g1, hb, show (0 : Int32).toInt64 = 0 from rfl, Int64.zero_mul, Int64.zero_mul]
  · obtain ⟨⟨o, ho, eo, ho2⟩, -, -, -, -⟩ := hI.2.2.2.2 q (by omega)
    rw [g1, (g3 hb).2, eo, tN, nI_clamp (by omega), h.2.1 o (ho2 hb)]
def cntM (M : MS) (j y : Nat) : Nat → Int64
  | 0 => 0
  | k + 1 => cntM M j y k + (if (6 * k + 5) / 12 = y then tm M (10 * j + k) else 0)
theorem cnt_M (h : LR G M N t) (hI : IV M N t c s) (hj : j < 4) {y : Nat} : ∀ k, k ≤ 10 → cntL G j y k = cntM M j y k
  | 0, _ => rfl
  | k + 1, hk => by rw [cntL, cntM, cnt_M h hI hj k (by omega), tm_eq h hI (by omega)]
theorem cntM_cN {y : Nat} (hy : y < 5) : cntM M j y 10 = cN M j y := by
  have hz : ∀ x : Int64, x + 0 = x := Int64.add_zero
  rcases (show y = 0 ∨ y = 1 ∨ y = 2 ∨ y = 3 ∨ y = 4 by omega) with rfl | rfl | rfl | rfl | rfl
  · show 0 + tm M (10 * j + 0) + tm M (10 * j + 1) + 0 + 0 + 0 + 0 + 0 + 0 + 0 + 0 = _
    simp only [hz]; rfl
  · show 0 + 0 + 0 + tm M (10 * j + 2) + tm M (10 * j + 3) + 0 + 0 + 0 + 0 + 0 + 0 = _
    simp only [hz]; rfl
  · show 0 + 0 + 0 + 0 + 0 + tm M (10 * j + 4) + tm M (10 * j + 5) + 0 + 0 + 0 + 0 = _
    simp only [hz]; rfl
  · show 0 + 0 + 0 + 0 + 0 + 0 + 0 + tm M (10 * j + 6) + tm M (10 * j + 7) + 0 + 0 = _
    simp only [hz]; rfl
  · show 0 + 0 + 0 + 0 + 0 + 0 + 0 + 0 + 0 + tm M (10 * j + 8) + tm M (10 * j + 9) = _
    simp only [hz]; rfl
theorem cnt_eq (h : LR G M N t) (hI : IV M N t c s) (hj : j < 4) {y : Nat} (hy : y < 5) : cntL G j y 10 = cN M j y := by rw [cnt_M h hI hj 10 (Nat.le_refl 10), cntM_cN hy]
theorem tm_nat (hI : IV M N t c s) {q : Nat} (hq : q < 60) : ∃ C : Nat, C < 2 ^ 49 ∧ tm M q = lN C := by
  obtain ⟨⟨o, ho, eo, ho2⟩, -, -, -, ⟨b, hb, eb⟩⟩ := hI.2.2.2.2 q hq
  unfold tm
  by_cases h0 : sI M 15 q = 0
  · refine ⟨0, by omega, ?_⟩
    rw [h0, show (0 : Int32).toInt64 = 0 from rfl, Int64.zero_mul]
    rfl
  · obtain ⟨w, hw1, hw2, ew⟩ := hI.2.1 o (ho2 h0)
    refine ⟨b * w, ?_, ?_⟩
    · have := Nat.mul_le_mul (show b ≤ 2147483648 by omega) hw2
      omega
    · rw [eb, eo, tN, nI_clamp (by omega), ew, nI_l hb, nI_l (by omega), lN_mul]
theorem cN_nat (hI : IV M N t c s) (hj : j < 6) {y : Nat} (hy : y < 5) : ∃ C : Nat, C < 2 ^ 50 ∧ cN M j y = lN C := by
  obtain ⟨C1, h1, e1⟩ := tm_nat hI (q := 10 * j + 2 * y) (by omega)
  obtain ⟨C2, h2, e2⟩ := tm_nat hI (q := 10 * j + (2 * y + 1)) (by omega)
  refine ⟨C1 + C2, by omega, ?_⟩
  rw [cN, e1, e2, Int64.zero_add, lN_add]
end
/-- the law's number of shares is the reference's -/
theorem num_most {n w e a C : Nat} {ce : Int32} (he : 1 ≤ e) (he2 : e < 2 ^ 31) (ha : 1 ≤ a) (ha2 : a < 2 ^ 31) (hw : w < 2 ^ 31) (hC : C < 2 ^ 50) (hm : most n w e a C ce) :
    (if (ce.toInt64 - lN C) / (nI a).toInt64 < 0 then 0 else if (ce.toInt64 - lN C) / (nI a).toInt64 < (nI w / nI e).toInt64 then ((ce.toInt64 - lN C) / (nI a).toInt64).toInt32 else nI w / nI e) = nI n := by
  obtain ⟨m1, m2, m3⟩ := hm
  have hq : w / e ≤ w := Nat.div_le_self w e
  have e2 : nI w / nI e = nI (w / e) := pk_div hw (by omega) he2
  have c1 := Int32.toInt_lt ce
  have c2 := Int32.le_toInt ce
  have hA : (ce.toInt64 - lN C).toInt = ce.toInt - (C : Int) := by
    rw [Int64.toInt_sub, Int32.toInt_toInt64, pk_lT (by omega)]
    exact Int.bmod_eq_of_le (by omega) (by omega)
  rw [e2, nI_l ha2, nI_l (show w / e < 2 ^ 31 by omega)]
  have n1 : n ≤ w / e := (Nat.le_div_iff_mul_le (by omega)).mpr m1
  by_cases h0 : (C : Int) ≤ ce.toInt
  · obtain ⟨A, eA⟩ : ∃ A : Nat, ce.toInt = (C : Int) + (A : Int) := ⟨(ce.toInt - C).toNat, by omega⟩
    have hAb : A < 2 ^ 62 := by omega
    have eAl : ce.toInt64 - lN C = lN A := by
      refine Int64.toInt_inj.mp ?_
      rw [hA, pk_lT (by omega)]
      omega
    have hd : A / a ≤ A := Nat.div_le_self A a
    rw [eAl, pk_lDiv (by omega) (by omega) (by omega)]
    have n2 : n ≤ A / a := by
      refine (Nat.le_div_iff_mul_le (by omega)).mpr ?_
      rcases m2 with z | z
      · rw [z, Nat.zero_mul]; exact Nat.zero_le _
      · omega
    have n3 : ¬ (n + 1 ≤ w / e ∧ n + 1 ≤ A / a) := fun ⟨z1, z2⟩ => m3 ⟨(Nat.le_div_iff_mul_le (by omega)).mp z1, by
      have := (Nat.le_div_iff_mul_le (by omega)).mp z2
      omega⟩
    rw [if_neg (fun z => by have := (pk_lLT (a := A / a) (b := 0) (by omega) (by omega)).mp z; omega)]
    by_cases h1 : A / a < w / e
    · rw [if_pos ((pk_lLT (by omega) (by omega)).mpr h1), lN_i]
      exact congrArg nI (by omega)
    · rw [if_neg (fun z => h1 ((pk_lLT (by omega) (by omega)).mp z))]
      exact congrArg nI (by omega)
  · have hn : n = 0 := by
      rcases m2 with z | z
      · exact z
      · exfalso; omega
    have hr := room_neg (A := ce.toInt64 - lN C) (a := a) (by omega) ha ha2
    generalize (ce.toInt64 - lN C) / lN a = R at hr
    subst hn
    by_cases h1 : R < 0
    · rw [if_pos h1]; rfl
    · have hR : R = lN 0 := by
        have z0 : 0 ≤ R.toInt := Int.not_lt.mp (fun z => h1 (Int64.lt_iff_toInt_lt.mpr z))
        refine Int64.toInt_inj.mp ?_
        have z1 : (lN 0).toInt = 0 := rfl
        rw [z1]
        omega
      rw [if_neg h1, hR]
      by_cases h2 : lN 0 < lN (w / e)
      · rw [if_pos h2]; rfl
      · rw [if_neg h2]
        refine congrArg nI ?_
        have h3 : ¬ 0 < w / e := fun z => h2 ((pk_lLT (a := 0) (b := w / e) (by omega) (by omega)).mpr z)
        omega
/-- the rows behind the law's purchase are the reference's behind its own -/
theorem LR_buy {G : ZG} {M : MS} {N t j k fo w E a pn tm n : Nat} (h : LR G M N t) (hj : j < 4) (hk : k < 10) (hfo : fo < 60) (hn : n < 2 ^ 31) (hw : n * E ≤ w) (hw2 : w < 2 ^ 31) (htm : tm ≤ 3) (ha : a < 2 ^ 31) (hp : pn < 2 ^ 31)
    (eN : bN M j = nI n) (eE : bEach M j = nI E) (ek : tN (sS M 0) / 6 = k) (em : sS M 0 = nI (t - 1)) (ew : sI M 6 j = nI w) (ef : sI M 10 j = nI fo) (ea : sI M 1 (tN (sI M 10 j)) = nI a) (ep : sI M 1 (tN (sS M 0)) = nI pn) (et : sI M 11 j = nI tm) (h15 : sI M 15 (10 * j + k) = 0) (h16 : sI M 16 (10 * j + k) = 0) :
    LR (gE G (10 * j + k) j fo w E tm t a pn (sL M 8 j) n) (buyM M j) N t := by
  have hfr : ∃ o : Nat, o < 60 ∧ nI fo = nI o := ⟨fo, hfo, rfl⟩
  have eS : gS G (10 * j + k) j fo w E tm (sL M 8 j) n = vI (vX (vI (vI (vI (vI (vI G 6 (10 * j + k) (nI fo)) 3 (10 * j + k) (nI n)) 4 (10 * j + k) (nI n)) 5 (10 * j + k) (nI E)) 2 (8 + j) (nI (w - n * E))) (4 + j) (sL M 8 j + lN (n * E))) 2 (16 + j) (nI (tm + 1)) := by
    unfold gS gB
    show vI (vX (vI (vI (vI (vI (vI G 6 (10 * j + k) (nI fo)) 2 (8 + j) (nI (w - n * E))) 3 (10 * j + k) (nI n)) 4 (10 * j + k) (nI n)) 5 (10 * j + k) (nI E)) (4 + j) (sL M 8 j + lN (n * E))) 2 (16 + j) (nI (tm + 1)) = _
    rw [vI_comm (a := 2) (b := 3) (by decide), vI_comm (a := 2) (b := 4) (by decide), vI_comm (a := 2) (b := 5) (by decide)]
  have hS : LR (gS G (10 * j + k) j fo w E tm (sL M 8 j) n) (buy2 M j) N t := by
    rw [eS]
    unfold buy2
    rw [et, show nI tm + 1 = nI (tm + 1) from nI_1 tm]
    refine LR.m ?_ hj (by unfold mP; omega)
    unfold buy1
    rw [eN, ek]
    by_cases h0 : n = 0
    · subst h0
      rw [if_neg (by decide)]
      have h1 := LR.lot0 (e := nI E) h hfr h15 h16
      have h2 := LR.m (off := 8) (a := 6) (v := nI w) h1 hj (by unfold mP; omega)
      have h3 := LR.x (off := 4) (a := 8) (w := sL M 8 j) h2 hj (by unfold xP; omega)
      rw [Nat.zero_mul, Nat.sub_zero, show sL M 8 j + lN 0 = sL M 8 j from Int64.add_zero _]
      refine Eq.mp (congrArg (fun z => LR _ z N t) ?_) h3
      refine MS_ext (fun _ => rfl) (fun b x => ?_) (fun b x => ?_)
      · rw [xI_uL, xI_uI]
        split
        · next q => rw [q.1, q.2, ew]
        · rfl
      · rw [xL_uL]
        split
        · next q => rw [q.1, q.2]
        · rfl
    · have hp0 : (0 : Int32) < nI n := (nI_ltI (a := 0) (b := n) (by omega) hn).mpr (by omega)
      rw [if_pos hp0, eE, ef]
      have h1 := LR.lot (q := 10 * j + k) (b := nI n) (e := nI E) (f := nI fo) h hfr
      rw [ew, pk_mul, pk_sub hw, nI_l (show n * E < 2 ^ 31 by omega)]
      exact (h1.m (off := 8) (a := 6) (v := nI (w - n * E)) hj (by unfold mP; omega)).x (off := 4) (a := 8) (w := sL M 8 j + lN (n * E)) hj (by unfold xP; omega)
  have e20 : gI G 2 (20 + j) = sI M 12 j := h.at hj (by unfold mP; omega)
  unfold gE buyM
  rw [ep, ea, et]
  have z4 : nI tm + 1 = 4 ↔ tm + 1 = 4 := by
    rw [nI_1]
    exact nI_eq (a := tm + 1) (b := 4) (by omega) (by decide)
  have zl : nI pn < nI a ↔ pn < a := nI_ltI hp ha
  by_cases hc : pn < a ∨ 3 < tm + 1
  · rw [if_pos hc, if_pos (hc.imp zl.mpr (fun z => z4.mpr (by omega))), e20, em]
    have hi : (if pn < a then nI 1 else nI 0) = (if nI pn < nI a then 1 else 0) := by
      by_cases q : pn < a
      · rw [if_pos q, if_pos (zl.mpr q)]; rfl
      · rw [if_neg q, if_neg (fun z => q (zl.mp z))]; rfl
    rw [hi]
    exact ((hS.m (off := 20) (a := 12) hj (by unfold mP; omega)).m (off := 12) (a := 10) hj (by unfold mP; omega)).m (off := 16) (a := 11) (v := 0) hj (by unfold mP; omega)
  · rw [if_neg hc, if_neg (fun q => hc (q.imp zl.mp (fun z => by have := z4.mp z; omega)))]
    exact hS
