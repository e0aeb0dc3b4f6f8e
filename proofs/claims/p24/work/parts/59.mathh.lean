/-! MATH, a purchase hand in hand -/
theorem IV.s6 {M : MS} {N t c s : Nat} (h : IV M N t c s) (hs : 6 ≤ s) : IV M N t c 6 := by
  obtain ⟨h1, hp, hb, hn, hq⟩ := h
  refine ⟨h1, hp, hb, hn, fun q hq6 => ?_⟩
  obtain ⟨o1, o2, o3, o4, o5⟩ := hq q hq6
  exact ⟨o1, o2, o3, fun hb => by have := o4 hb; omega, o5⟩
/-- what is bought -/
theorem bought_nat {M : MS} {N t c j k : Nat} {cc : CS} (h : IV M N t c 6) (ht : t = 6 * k + 6) (hk : k < 10) (hj : j < N) (hc : c ≤ 512) (hK : KM M j cc) : ∃ x e a w : Nat, sI M 6 j = nI w ∧ w ≤ 750000 * c ∧ sI M 1 (tN (sI M 10 j)) = nI a ∧ 1 ≤ a ∧ a ≤ 100000 ∧ 1 ≤ e ∧ e ≤ 100000 ∧ x * e ≤ w ∧ bEach M j = nI e ∧ kEach cc (sI M 1 (tN (sS M 0))) = nI e ∧ bN M j = nI x ∧ kNum cc (sS M 0) (sI M 1 (tN (sS M 0))) (sS M 2) = nI x ∧ tN (sS M 0) / 6 = k ∧ sS M 0 / 12 = nI (k / 2) ∧ sS M 0 / 6 = nI k := by
  have h6 := h.1.1
  obtain ⟨⟨f, hf, ef⟩, -, ⟨w, hw, ew⟩, -, -⟩ := h.2.2.1 j hj
  have hm : sS M 0 = nI (6 * k + 5) := by rw [h.now (by omega), show t - 1 = 6 * k + 5 by omega]
  have hmt : tN (sS M 0) = 6 * k + 5 := by rw [hm, tN, nI_clamp (by omega)]
  obtain ⟨a, ha, ha2, ea⟩ := h.2.1 (tN (sI M 10 j)) (by rw [ef, tN, nI_clamp (by omega)]; exact hf)
  obtain ⟨b, hb, hb2, eb⟩ := h.2.1 (tN (sS M 0)) (by omega)
  obtain ⟨e, he, he2, e1, e2⟩ := each_nat ha ha2 hb hb2
  obtain ⟨⟨g1, g2, g3, g4, g5, g6, g7, g8, g9, g10, g11, g12⟩, hC, hT⟩ := hK
  have d12 : sS M 0 / 12 = nI (k / 2) := by rw [hm, show (12 : Int32) = nI 12 from rfl, pk_div (by omega) (by omega) (by omega), show (6 * k + 5) / 12 = k / 2 by omega]
  have d6 : sS M 0 / 6 = nI k := by rw [hm, show (6 : Int32) = nI 6 from rfl, pk_div (by omega) (by omega) (by omega), show (6 * k + 5) / 6 = k by omega]
  have d12' : tN (sS M 0) / 12 = k / 2 := by rw [hmt]; omega
  obtain ⟨x, hx, x1, x2⟩ := num_nat (A := (sS M 2).toInt64 - cN M j (k / 2)) (w := w) he ha (by omega) (by omega) (by omega)
  have hE : bEach M j = nI e := by rw [bEach, ea, eb]; exact e1
  have hE2 : kEach cc (sI M 1 (tN (sS M 0))) = nI e := by rw [kEach, g8, ea, eb]; exact e2
  have hcnt : kCnt cc (sS M 0 / 12) = cN M j (k / 2) := by
    unfold kCnt
    rw [d12, tN, nI_clamp (by omega), if_neg]
    · exact hC _ (by omega)
    · rintro (q | q)
      · exact nI_pos (by omega) q
      · exact nI_ge (a := k / 2) (b := 5) (by omega) (by decide) q
  refine ⟨x, e, a, w, ew, hw, ea, ha, ha2, he, he2, ?_, hE, hE2, ?_, ?_, by omega, d12, d6⟩
  · have := Nat.div_mul_le_self w e
    exact Nat.le_trans (Nat.mul_le_mul_right e hx) this
  · rw [bN, bRoom, bCan, hE, ew, ea, d12']
    exact x2
  · rw [kNum, hE2, hcnt, g3, g8, ea, ew]
    exact x1
theorem l64_mul {x e : Nat} (h : x * e < 2 ^ 31) (hx : x < 2 ^ 31) (he : e < 2 ^ 31) : (nI x).toInt64 * (nI e).toInt64 = (nI x * nI e).toInt64 := by
  rw [pk_mul, nI_l h, nI_l hx, nI_l he, lN_mul]
theorem KT_buyO {M : MS} {cc c2 : CS} {j k i q : Nat} {V : Nat → Int32} {n each : Int32} (hi : i ≠ k) (eR : kR c2 = va_up (kR cc) k (some q)) (eV : ∀ i, kV c2 i = if i = k then V else kV cc i) (h : KT M (10 * j + i) cc i) : KT (lotM M j k n each) (10 * j + i) c2 i := by
  unfold KT at h ⊢
  rw [eR, eV, if_neg hi, va_up_ne _ _ hi, lotM_1, lotM_I (a := 15) (Or.inr (by omega)) (Or.inl (by decide)), lotM_I (a := 16) (Or.inr (by omega)) (Or.inl (by decide)), lotM_I (a := 17) (Or.inr (by omega)) (Or.inl (by decide)), lotM_I (a := 18) (Or.inr (by omega)) (Or.inl (by decide))]
  exact h
theorem KT_buyN {M : MS} {cc c2 : CS} {j k q : Nat} {V : Nat → Int32} {n each : Int32} (eR : kR c2 = va_up (kR cc) k (some q)) (eV : ∀ i, kV c2 i = if i = k then V else kV cc i) (hn : n ≠ 0) (v0 : V 0 = nI (6 * k + 5)) (v1 : V 1 = sI M 1 (6 * k + 5)) (v2 : V 2 = each) (v3 : V 3 = sI M 10 j) (v4 : V 4 = sI M 1 (tN (sI M 10 j))) (v5 : V 5 = n) (v6 : V 6 = n) : KT (lotM M j k n each) (10 * j + k) c2 k := by
  refine Or.inr ?_
  rw [eR, eV, if_pos rfl, va_up_self, lotM_1, lotM_15, lotM_16, lotM_17, lotM_18]
  exact ⟨hn, Option.some_ne_none q, v0, v1, v2, v3, v4, v5, v6⟩
theorem buy1_K {M : MS} {N t c j k q : Nat} {cc : CS} (h : IV M N t c 6) (ht : t = 6 * k + 6) (hk : k < 10) (hj : j < N) (hc : c ≤ 512) (hK : KM M j cc) (h15 : sI M 15 (10 * j + k) = 0) :
    KM (buy1 M j) j (kBuy1 cc (sS M 0) (sI M 1 (tN (sS M 0))) (sS M 2) q) ∧ mbr (buy1 M j) t c j ∧ (∀ i, i < 10 → ltq (buy1 M j) t 6 (10 * j + i)) ∧ (∀ z, z ≠ j → agr M (buy1 M j) z) ∧ sI (buy1 M j) 1 = sI M 1 := by
  have h6 := h.1.1
  obtain ⟨x, e, a, w, ew, hw, ea, ha, ha2, he, he2, hxe, hE, hE2, hN, hN2, d6', d12, d6⟩ := bought_nat h ht hk hj hc hK
  have hxw : x ≤ w := Nat.le_trans (Nat.le_mul_of_pos_right x he) hxe
  have hm : sS M 0 = nI (6 * k + 5) := by rw [h.now (by omega), show t - 1 = 6 * k + 5 by omega]
  have hmt : tN (sS M 0) = 6 * k + 5 := by rw [hm, tN, nI_clamp (by omega)]
  unfold buy1 kBuy1
  rw [hN, hN2, d6']
  by_cases h0 : 0 < nI x
  · rw [if_pos h0, if_pos h0, hE, hE2]
    have hx0 : 0 < x := by
      rcases Nat.eq_zero_or_pos x with hz | hz
      · rw [hz] at h0
        exact absurd h0 (by decide)
      · exact hz
    show KM (lotM M j k (nI x) (nI e)) j _ ∧ mbr (lotM M j k (nI x) (nI e)) t c j ∧ (∀ i, i < 10 → ltq (lotM M j k (nI x) (nI e)) t 6 (10 * j + i)) ∧ (∀ z, z ≠ j → agr M (lotM M j k (nI x) (nI e)) z) ∧ sI (lotM M j k (nI x) (nI e)) 1 = sI M 1
    obtain ⟨⟨g1, g2, g3, g4, g5, g6, g7, g8, g9, g10, g11, g12⟩, hC, hT⟩ := hK
    obtain ⟨⟨f, hf, ef⟩, f2, -, f4, f5⟩ := h.2.2.1 j hj
    have hAdd : kAdd (uKT cc (tN (sS M 0 / 6)) q (kLotV cc (sS M 0) (sI M 1 (tN (sS M 0))) (nI x))) (sS M 0 / 12) ((nI x).toInt64 * (kI cc 9).toInt64) = uKC (uKT cc k q (kLotV cc (sS M 0) (sI M 1 (tN (sS M 0))) (nI x))) (k / 2) (kC cc (k / 2) + (nI x).toInt64 * (kI cc 9).toInt64) := by
      unfold kAdd
      have ek : tN (nI k) = k := nI_clamp (by omega)
      have ek2 : tN (nI (k / 2)) = k / 2 := nI_clamp (by omega)
      rw [d12, d6, ek, ek2, if_neg]
      · rfl
      · rintro (q | q)
        · exact nI_pos (by omega) q
        · exact nI_ge (a := k / 2) (b := 5) (by omega) (by decide) q
    rw [hAdd]
    have hmul := l64_mul (x := x) (e := e) (by omega) (by omega) (by omega)
    refine ⟨⟨⟨?_, ?_, ?_, ?_, ?_, ?_, ?_, ?_, ?_, ?_, ?_, ?_⟩, fun y hy => ?_, fun i hi => ?_⟩, ⟨?_, ?_, ?_, ?_, ?_⟩, fun i hi => ?_, fun z hz => agr_lot hk hz, lotM_1⟩
    · rw [lotM_I (Or.inl (by decide)) (Or.inl (by decide))]; exact g1
    · rw [lotM_I (Or.inl (by decide)) (Or.inl (by decide))]; exact g2
    · rw [kL_uKL, if_neg (by decide), kL_uKL, if_pos rfl, hmul, lotM_6, g3, ew, pk_mul, pk_sub hxe, nI_l (n := w) (by omega), nI_l (n := x * e) (by omega), nI_l (n := w - x * e) (by omega), lN_sub hxe]
    · rw [lotM_8, kL_uKL, if_pos rfl, hmul, g4]
    · rw [lotM_I (Or.inl (by decide)) (Or.inl (by decide))]; exact g5
    · rw [lotM_L (Or.inl (by decide))]; exact g6
    · rw [lotM_I (Or.inl (by decide)) (Or.inl (by decide))]; exact g7
    · rw [lotM_I (a := 10) (Or.inl (by decide)) (Or.inl (by decide)), lotM_1]; exact g8
    · rw [lotM_I (Or.inl (by decide)) (Or.inl (by decide))]; exact g9
    · rw [lotM_I (Or.inl (by decide)) (Or.inl (by decide))]; exact g10
    · rw [lotM_L (Or.inl (by decide))]; exact g11
    · rw [lotM_L (Or.inl (by decide))]; exact g12
    · rw [kC_uKL, kC_uKL, kC_uKC, updL_at]
      by_cases hyk : y = k / 2
      · rw [if_pos hyk, hyk, cN_new h15, hC _ (by omega), g8]
      · rw [if_neg hyk, cN_lot hyk]
        exact hC y hy
    · by_cases hik : i = k
      · subst hik
        exact KT_buyN (V := kLotV cc (sS M 0) (sI M 1 (tN (sS M 0))) (nI x)) rfl (fun _ => rfl) (nI_ne0 hx0 (by omega)) (by rw [← hm]; rfl) (by rw [← hmt]; rfl) hE2 g7 g8 rfl rfl
      · exact KT_buyO (V := kLotV cc (sS M 0) (sI M 1 (tN (sS M 0))) (nI x)) hik rfl (fun _ => rfl) (hT i hi)
    · rw [lotM_I (Or.inl (by decide)) (Or.inl (by decide))]; exact ⟨f, hf, ef⟩
    · rw [lotM_I (Or.inl (by decide)) (Or.inl (by decide))]; exact f2
    · rw [lotM_6, ew, pk_mul, pk_sub hxe]; exact ⟨w - x * e, by omega, rfl⟩
    · rw [lotM_I (Or.inl (by decide)) (Or.inl (by decide))]; exact f4
    · rw [lotM_I (Or.inl (by decide)) (Or.inl (by decide)), lotM_I (Or.inl (by decide)) (Or.inl (by decide))]; exact f5
    · by_cases hik : i = k
      · subst hik
        unfold ltq hadN
        rw [lotM_15, lotM_16, lotM_17, lotM_18]
        exact ⟨⟨f, by omega, ef, fun _ => hf⟩, ⟨e, he2, rfl⟩, ⟨x, by omega, rfl⟩, fun _ => by omega, ⟨x, by omega, rfl⟩⟩
      · have hq := h.2.2.2.2 (10 * j + i) (by omega)
        unfold ltq hadN at hq ⊢
        rw [lotM_I (Or.inr (by omega)) (Or.inl (by decide)), lotM_I (Or.inr (by omega)) (Or.inl (by decide)), lotM_I (Or.inr (by omega)) (Or.inl (by decide)), lotM_I (Or.inr (by omega)) (Or.inl (by decide))]
        exact hq
  · rw [if_neg h0, if_neg h0]
    exact ⟨hK, h.2.2.1 j hj, fun i hi => h.2.2.2.2 (10 * j + i) (by omega), fun z _ => ⟨fun _ _ _ => rfl, fun _ => rfl, fun _ _ _ _ => rfl⟩, rfl⟩
theorem buyM_K {M : MS} {N t c j k q : Nat} {cc : CS} (h : IV M N t c 6) (ht : t = 6 * k + 6) (hk : k < 10) (hj : j < N) (hc : c ≤ 512) (hK : KM M j cc) (h15 : sI M 15 (10 * j + k) = 0) :
    KM (buyM M j) j (kBuyM cc (sS M 0) (sI M 1 (tN (sS M 0))) (sS M 2) q) ∧ mbr (buyM M j) t c j ∧ (∀ i, i < 10 → ltq (buyM M j) t 6 (10 * j + i)) ∧ (∀ z, z ≠ j → agr M (buyM M j) z) ∧ sI (buyM M j) 1 = sI M 1 := by
  obtain ⟨k1, k2, k3, k4, k5⟩ := buy1_K (q := q) h ht hk hj hc hK h15
  rw [buyM_ren]
  obtain ⟨w, hw, ew⟩ := k2.2.1
  have hr := KM_ren k1 hw ew
  rw [buy1_S, k5] at hr
  refine ⟨hr, mbr_ren k2 (by omega) (by rw [buy1_S]; exact h.now (by omega)), fun i hi => ?_, fun z hz => ?_, ?_⟩
  · have := k3 i hi
    unfold ltq hadN at this ⊢
    rw [ren_I (a := 18) (by decide), ren_I (a := 15) (by decide), ren_I (a := 17) (by decide), ren_I (a := 16) (by decide)]
    exact this
  · obtain ⟨a1, a2, a3⟩ := k4 z hz
    obtain ⟨b1, b2, b3⟩ := agr_ren (X := buy1 M j) hz
    exact ⟨fun a h1 h2 => (b1 a h1 h2).trans (a1 a h1 h2), fun a => (b2 a).trans (a2 a), fun a x h1 h2 => (b3 a x h1 h2).trans (a3 a x h1 h2)⟩
  · rw [ren_I (by decide)]; exact k5
theorem ok_K {M : MS} {N t c j k : Nat} {cc : CS} (h : IV M N t c 6) (ht : t = 6 * k + 6) (hk : k < 10) (hj : j < N) (hc : c ≤ 512) (hK : KM M j cc) : okBuy M j := by
  obtain ⟨x, e, a, w, ew, hw, ea, ha, ha2, he, he2, hxe, hE, -, -, -, -, -, -⟩ := bought_nat h ht hk hj hc hK
  have h6 := h.1.1
  refine ⟨?_, h.hf j (by omega), h.ho, ?_, ?_⟩
  · rw [h.now (by omega)]
    exact vp_in_nI (by omega) (by decide)
  · rw [ea, nI_l (by omega)]
    intro q
    have := (lN_eq (a := a) (b := 0) (by omega) (by omega)).mp q
    omega
  · rw [hE]
    exact nI_ne0 (by omega) (by omega)
/-- the purchases of all, k2 members on -/
theorem all_K {M : MS} {P : PS} {N t c k : Nat} {qs : Nat → Nat} (h : IV M N t c 6) (hR : RW M N P) (ht : t = 6 * k + 6) (hk : k < 10) (hc : c ≤ 512) (h15 : ∀ j, j < N → sI M 15 (10 * j + k) = 0) : ∀ z, z ≤ N → IV (bAll M z) N t c 6 ∧ RW (bAll M z) N (pAll qs N P z) ∧ ∀ j, z ≤ j → j < N → sI (bAll M z) 15 (10 * j + k) = 0
  | 0, _ => ⟨h, hR, fun j _ hj => h15 j hj⟩
  | z + 1, hz => by
    obtain ⟨i1, i2, i3⟩ := all_K (qs := qs) h hR ht hk hc h15 z (by omega)
    have hKz := i2.2.2.2.2 z (by omega)
    have h5 : kI (pC (pAll qs N P z) z) 3 = sI (bAll M z) 5 z := hKz.1.2.1
    rw [bAll, pAll, h5]
    by_cases hs : sI (bAll M z) 5 z = 0
    · rw [if_pos hs, if_pos ⟨by omega, hs⟩]
      obtain ⟨k1, k2, k3, k4, k5⟩ := buyM_K (q := qs z) i1 ht hk (show z < N by omega) hc hKz (i3 z (Nat.le_refl z) (by omega))
      have hp2 : pS P 2 = sS (bAll M z) 0 := by rw [← i2.2.1, pAll_S]
      have hp4 : pS P 4 = sS (bAll M z) 2 := by rw [← i2.2.2.1, pAll_S]
      have h0 : 0 ≤ sS (bAll M z) 0 := by
        rw [i1.now (by omega)]
        exact nI_pos' (by have := i1.1.2.1; omega)
      have hp3 : pS P 3 = sI (bAll M z) 1 (tN (sS (bAll M z) 0)) := by rw [← i2.2.2.2.1 h0, pAll_S]
      rw [hp2, hp3, hp4]
      refine ⟨i1.upd (Nat.le_refl c) (show z < N by omega) (buyM_S) (buyM_S) k5 k4 k2 k3, i2.upd buyM_S buyM_S k5 k4 k1, fun j hj hjN => ?_⟩
      rw [(k4 j (by omega)).2.2 15 k (by omega) hk]
      exact i3 j (by omega) hjN
    · rw [if_neg hs, if_neg (fun q => hs q.2)]
      exact ⟨i1, i2, fun j hj hjN => i3 j (by omega) hjN⟩
theorem pAll_end {q : Nat → Nat} {N : Nat} {P : PS} : ∀ d, pAll q N P (N + d) = pAll q N P N
  | 0 => rfl
  | d + 1 => by
    rw [show N + (d + 1) = (N + d) + 1 by omega, pAll, if_neg (fun h => by omega)]
    exact pAll_end d
theorem irem_nat {M : MS} {N t c s : Nat} (h : IV M N t c s) (h5 : irem (sS M 0) 6 = 5) : ∃ k, k < 10 ∧ t = 6 * k + 6 ∧ sS M 0 / 6 = nI k := by
  have h60 := h.1.2.1
  rcases Nat.eq_zero_or_pos t with hz | hz
  · rw [h.1.2.2.2.2, hz] at h5
    exact absurd h5 (by decide)
  · have hn := h.now hz
    have h6 : irem (sS M 0) 6 = nI ((t - 1) % 6) := by
      rw [hn]
      exact nI_rem (d := 6) (by omega) (by omega) (by omega)
    rw [h6] at h5
    have h7 := (nI_eq (a := (t - 1) % 6) (b := 5) (by omega) (by omega)).mp h5
    refine ⟨(t - 1) / 6, by omega, by omega, ?_⟩
    rw [hn, show (6 : Int32) = nI 6 from rfl, pk_div (by omega) (by omega) (by omega)]
theorem free_K {M : MS} {P : PS} {N t c k : Nat} (h : IV M N t c 7) (hR : RW M N P) (ht : t = 6 * k + 6) (hk : k < 10) : ∀ j, j < N → sI M 15 (10 * j + k) = 0 ∧ kR (pC P j) k = none := fun j hj => by
  have h6 := h.1.1
  have h15 : sI M 15 (10 * j + k) = 0 := Classical.byContradiction fun hn => by
    have := (h.2.2.2.2 (10 * j + k) (by omega)).2.2.2.1 hn
    omega
  refine ⟨h15, ?_⟩
  rcases (hR.2.2.2.2 j hj).2.2 k hk with ⟨-, -, t3⟩ | ⟨t1, -⟩
  · exact t3
  · exact absurd h15 t1
