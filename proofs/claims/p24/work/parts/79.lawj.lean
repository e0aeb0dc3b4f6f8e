/-! THE LAW'S CHOICES: what each does to the rows -/
/-- between the calls -/
def LI (Y : Nat → ClassId) (x : Nat) (ad : Nat → Nat) (c : Nat) (σ : sg_W) : Prop := ∃ (G : ZG) (M : MS) (N t : Nat), CX Y x σ M N t c σ ∧ ZF Y ad σ G σ ∧ LR G M N t
theorem CX.self {Y : Nat → ClassId} {x N t c : Nat} {σ0 σ : sg_W} {M : MS} (h : CX Y x σ0 M N t c σ) : CX Y x σ M N t c σ := by
  obtain ⟨aM, aO, aL, aC, P, hQ, hR, hI, hA, -⟩ := h
  exact ⟨aM, aO, aL, aC, P, hQ, hR, hI, hA, fun _ _ => rfl⟩
theorem CX.iv {Y : Nat → ClassId} {x N t c : Nat} {σ0 σ : sg_W} {M : MS} (h : CX Y x σ0 M N t c σ) : IV M N t c 7 := by
  obtain ⟨aM, aO, aL, aC, P, hQ, hR, hI, hA, -⟩ := h
  exact hI
theorem CX.mon {Y : Nat → ClassId} {x N t c c' : Nat} {σ0 σ : sg_W} {M : MS} (h : CX Y x σ0 M N t c σ) (hc : c ≤ c') : CX Y x σ0 M N t c' σ := by
  obtain ⟨aM, aO, aL, aC, P, hQ, hR, hI, hA, ho⟩ := h
  exact ⟨aM, aO, aL, aC, P, hQ, hR, hI.mon hc, hA, ho⟩
theorem CX.ho {Y : Nat → ClassId} {x N t c : Nat} {σ0 σ : sg_W} {M : MS} (h : CX Y x σ0 M N t c σ) : ∀ j, 100 ≤ j ∧ j < 1000 → σ j = σ0 j := by
  obtain ⟨aM, aO, aL, aC, P, hQ, hR, hI, hA, ho⟩ := h
  exact ho
theorem LI.mk {Y : Nat → ClassId} {x N t c : Nat} {ad : Nat → Nat} {σ0 σ1 σ : sg_W} {G : ZG} {M : MS} (hX : CX Y x σ1 M N t c σ) (hG : ZF Y ad σ0 G σ1) (hL : LR G M N t) : LI Y x ad c σ := by
  refine ⟨G, M, N, t, hX.self, ?_, hL⟩
  obtain ⟨aM, aO, aL, aC, P, hQ, hR, hI, hA, ho⟩ := hX
  exact hG.by ho
theorem qn {a b w : Nat} (ha : a < 2 ^ 31) (hb : b < 2 ^ 31) (hw : w < 2 ^ 31) : qIn (nI w) (nI a) (nI b) ↔ a ≤ w ∧ w ≤ b := and_congr (nI_leI ha hw) (nI_leI hw hb)
theorem vn {w N : Nat} (hw : w < 2 ^ 31) (hN : N < 2 ^ 31) : vp_in (nI w) N ↔ w < N := by
  constructor
  · intro h
    have h1 := vp_lt h
    rw [tN, nI_clamp hw] at h1
    exact h1
  · exact fun h => vp_in_nI h hN
theorem vn1 {N : Nat} : ¬ vp_in (-1) N := fun h => h (Or.inl (by decide))
theorem k_dec {w n b : Nat} (hw : w < n) (hn : n < 2 ^ 31) (hb : b = 0 ∨ b = 1) : (∃ v : Nat, v < n ∧ nI w - nI b = nI v) ∨ nI w - nI b = -1 := by
  rcases hb with rfl | rfl
  · exact Or.inl ⟨w, hw, pk_sub (Nat.zero_le w)⟩
  · rcases Nat.eq_zero_or_pos w with rfl | h
    · exact Or.inr rfl
    · exact Or.inl ⟨w - 1, by omega, pk_sub h⟩
theorem part_eq (g ra : Nat) : (g - g % 100) / 100 * ra + g % 100 * ra / 100 = g * ra / 100 := by
  have h1 : (g - g % 100) / 100 = g / 100 := by omega
  have h2 : g = 100 * (g / 100) + g % 100 := (Nat.div_add_mod g 100).symm
  have h3 : g * ra = 100 * (g / 100 * ra) + g % 100 * ra := by
    conv => lhs; rw [h2]
    rw [Nat.add_mul, Nat.mul_assoc]
  rw [h1, h3, Nat.mul_add_div (by decide)]
section
variable {G : ZG} {M : MS} {N t c j : Nat}
theorem LR.f0 {q : Nat} {f : Int32} (h : LR G M N t) (hf : ∃ o : Nat, o < 60 ∧ f = nI o) (h15 : sI M 15 q = 0) : LR (vI G 6 q f) M N t := by
  obtain ⟨h1, h2, h3, h4, h5, h6⟩ := h
  refine ⟨h1, h2, h3, fun x hx => ?_, h5, fun x hx => ?_⟩
  · obtain ⟨g1, g2, g3⟩ := h4 x hx
    refine ⟨g1, g2, fun hb => ⟨(g3 hb).1, ?_⟩⟩
    rw [gI_vn (show x ≠ q from fun e => hb (by rw [e]; exact h15))]
    exact (g3 hb).2
  · by_cases z : x = q
    · obtain ⟨o, ho, eo⟩ := hf
      exact ⟨o, ho, by rw [z, gI_vs]; exact eo⟩
    · obtain ⟨o, ho, eo⟩ := h6 x hx
      exact ⟨o, ho, by rw [gI_vn z]; exact eo⟩
theorem LR.ceil {v : Int32} (h : LR G M N t) : LR (vI G 0 2 v) (uS M 2 v) N t := by
  obtain ⟨⟨h1, h1a, h1b, h1c⟩, h2, h3, h4, h5, h6⟩ := h
  refine ⟨⟨h1, ?_, ?_, ?_⟩, fun x hx => ?_, fun i hi => ?_, fun q hq => ?_, h5, frng_vo h6 (by decide)⟩
  · rw [gI_vn (by decide)]; exact h1a
  · rw [gI_vn (by decide)]; exact h1b
  · rw [gI_vs]; rfl
  · rw [gI_vo (by decide)]; exact h2 x hx
  · rw [gI_vo (by decide)]; exact h3 i hi
  · rw [gI_vo (i := 3) (by decide), gI_vo (i := 4) (by decide), gI_vo (i := 5) (by decide), gI_vo (i := 6) (by decide)]; exact h4 q hq
theorem LR.next {v : Int32} (h : LR G M N t) (ht : t < 60) (e0 : sS M 0 = nI t - 1) : LR (vI (vI G 1 t v) 0 0 (nI (t + 1))) (uI (uS M 0 (sS M 0 + 1)) 1 (tN (sS M 0 + 1)) v) N (t + 1) := by
  have ek : sS M 0 + 1 = nI t := by rw [e0, Int32.sub_add_cancel]
  rw [ek, tN, nI_clamp (by omega)]
  obtain ⟨⟨h1, h1a, h1b, h1c⟩, h2, h3, h4, h5, h6⟩ := h
  refine ⟨⟨h1, ?_, ?_, ?_⟩, fun x hx => ?_, fun i hi => ?_, fun q hq => ?_, h5, frng_vo (frng_vo h6 (by decide)) (by decide)⟩
  · rw [gI_vs]
  · rw [gI_vn (by decide), gI_vo (by decide)]; exact h1b
  · rw [gI_vn (by decide), gI_vo (by decide)]; exact h1c
  · rw [gI_vo (by decide)]
    by_cases z : x = t
    · rw [z, gI_vs, xI_uI, if_pos ⟨rfl, rfl⟩]
    · rw [gI_vn z, xI_uI, if_neg (fun q => z q.2)]
      exact h2 x (by omega)
  · rw [gI_vo (by decide), gI_vo (by decide), xI_uI, xI_uI, xI_uI, xI_uI, xI_uI, xI_uI, xI_uI, if_neg (by omega), if_neg (by omega), if_neg (by omega), if_neg (by omega), if_neg (by omega), if_neg (by omega), if_neg (by omega)]
    exact h3 i hi
  · rw [gI_vo (i := 3) (by decide), gI_vo (i := 3) (by decide), gI_vo (i := 4) (by decide), gI_vo (i := 4) (by decide), gI_vo (i := 5) (by decide), gI_vo (i := 5) (by decide), gI_vo (i := 6) (by decide), gI_vo (i := 6) (by decide), xI_uI, xI_uI, xI_uI, xI_uI, if_neg (by omega), if_neg (by omega), if_neg (by omega), if_neg (by omega)]
    exact h4 q hq
theorem LR.join {v : Int32} (h : LR G M N t) (hN : N < 4) (h0 : 0 < t) (ht : t ≤ 60) (e3 : sS M 3 = nI N) (e0 : sS M 0 = nI (t - 1)) : LR (vI (vI (vI G 2 N v) 2 (12 + N) (nI (t - 1))) 0 1 (nI (N + 1))) (nJoin M v) (N + 1) t := by
  unfold nJoin
  rw [e3, tN, nI_clamp (by omega), e0]
  have h9 := (h.m (off := 0) (a := 4) (v := v) hN (by unfold mP; omega)).m (off := 12) (a := 10) (v := nI (t - 1)) hN (by unfold mP; omega)
  rw [Nat.zero_add] at h9
  obtain ⟨⟨h1, h1a, h1b, h1c⟩, h2, h3, h4, h5, h6⟩ := h9
  refine ⟨⟨by omega, ?_, ?_, ?_⟩, fun x hx => ?_, fun i hi => ?_, fun q hq => ?_, h5, frng_vo h6 (by decide)⟩
  · rw [gI_vn (by decide)]; exact h1a
  · rw [gI_vs]
  · rw [gI_vn (by decide)]; exact h1c
  · rw [gI_vo (by decide)]; exact h2 x hx
  · rw [gI_vo (by decide)]; exact h3 i hi
  · rw [gI_vo (i := 3) (by decide), gI_vo (i := 4) (by decide), gI_vo (i := 5) (by decide), gI_vo (i := 6) (by decide)]; exact h4 q hq
theorem LR.rate {w : Nat} {v : Int32} (h : LR G M N t) (hw : w < 4) : LR (vI G 2 w v) (nRate M (nI w) v) N t := by
  unfold nRate
  rw [tN, nI_clamp (by omega)]
  have h9 := h.m (off := 0) (a := 4) (v := v) hw (by unfold mP; omega)
  rw [Nat.zero_add] at h9
  exact h9
theorem LR.leave {w : Nat} {v : Int32} (h : LR G M N t) (hw : w < 4) (ev : v = sI M 6 w) : LR (vI (vI (vI G 2 (4 + w) (nI 1)) 2 (24 + w) v) 2 (8 + w) (nI 0)) (nLeave M (nI w)) N t := by
  unfold nLeave
  rw [tN, nI_clamp (by omega), ev]
  exact ((h.m (off := 4) (a := 5) (v := nI 1) hw (by unfold mP; omega)).m (off := 24) (a := 7) hw (by unfold mP; omega)).m (off := 8) (a := 6) (v := nI 0) hw (by unfold mP; omega)
theorem LR.slip {w : Nat} {y pt m0 : Int32} {x0 : Int64} (h : LR G M N t) (hw : w < 4) (ep : pt = rSlip M (nI w) y) (em : m0 = gI G 2 (8 + w)) (ex : x0 = gX G w) : LR (vX (vI G 2 (8 + w) (m0 + pt)) w (x0 + pt.toInt64)) (nSlip M (nI w) y) N t := by
  have e1 : gI G 2 (8 + w) = sI M 6 w := h.at hw (by unfold mP; omega)
  have e2 : gX G (0 + w) = sL M 9 w := h.xat hw (by unfold xP; omega)
  rw [Nat.zero_add] at e2
  unfold nSlip
  rw [← ep, em, ex, e1, e2, show tN (nI w) = w from nI_clamp (by omega)]
  have h9 := (h.m (off := 8) (a := 6) (v := sI M 6 w + pt) hw (by unfold mP; omega)).x (off := 0) (a := 9) (w := sL M 9 w + pt.toInt64) hw (by unfold xP; omega)
  rw [Nat.zero_add] at h9
  exact h9
theorem slip_nat {w ra g : Nat} (hw : w < 4) (hg : g ≤ 5000000) (hr : ra ≤ 15) (er : sI M 4 w = nI ra) : nI (g * ra / 100) = rSlip M (nI w) (nI g) := by
  have := Nat.mul_le_mul hg hr
  unfold rSlip
  rw [show tN (nI w) = w from nI_clamp (by omega), er, pk_mul, show (100 : Int32) = nI 100 from rfl, pk_div (by omega) (by omega) (by omega)]
/-- a purchase's start, and what comes of it -/
theorem buy_facts {k : Nat} {cc : CS} (h : LR G M N t) (hI : IV M N t c 6) (hK : KM M j cc) (ht : t = 6 * k + 6) (hk : k < 10) (hj : j < N) (hc : c ≤ 512) (h15 : sI M 15 (10 * j + k) = 0) :
    ∃ fo a pn w C tm : Nat, fo < 60 ∧ (1 ≤ a ∧ a ≤ 100000) ∧ (1 ≤ pn ∧ pn ≤ 100000) ∧ w < 2 ^ 31 ∧ C < 2 ^ 50 ∧ tm ≤ 3 ∧ gI G 2 (12 + j) = nI fo ∧ gI G 1 fo = nI a ∧ gI G 1 (t - 1) = nI pn ∧ gI G 2 (8 + j) = nI w ∧ gI G 3 (10 * j + k) = nI 0 ∧ gI G 2 (16 + j) = nI tm ∧ cntL (vI G 6 (10 * j + k) (nI fo)) j (k / 2) 10 = lN C ∧
      ∀ n, most n w ((85 * (if a < pn then a else pn) + 99) / 100) a C (sS M 2) → LR (gE G (10 * j + k) j fo w ((85 * (if a < pn then a else pn) + 99) / 100) tm t a pn (sL M 8 j) n) (buyM M j) N t := by
  have hN4 := h.1.1
  have h6 := hI.1.2.1
  obtain ⟨⟨f, hf, ef⟩, ⟨tm, htm, et⟩, ⟨w, hw, ew⟩, -, -⟩ := hI.2.2.1 j hj
  have hm : sS M 0 = nI (t - 1) := hI.now (by omega)
  have hmt : tN (sS M 0) = t - 1 := hI.tn (by omega)
  obtain ⟨a, ha, ha2, ea⟩ := hI.2.1 f hf
  obtain ⟨b, hb, hb2, eb⟩ := hI.2.1 (t - 1) (by omega)
  obtain ⟨C, hC, eC⟩ := cN_nat hI (j := j) (by omega) (y := k / 2) (by omega)
  have h16 : sI M 16 (10 * j + k) = 0 := by
    rcases hK.2.2 k hk with ⟨-, q, -⟩ | ⟨q, -⟩
    · exact q
    · exact absurd h15 q
  have hq := h.2.2.2.1 (10 * j + k) (by omega)
  have hcnt : cntL (vI G 6 (10 * j + k) (nI f)) j (k / 2) 10 = lN C := by rw [cnt_eq (h.f0 (f := nI f) ⟨f, by omega, rfl⟩ h15) hI (by omega) (by omega), eC]
  refine ⟨f, a, b, w, C, tm, by omega, ⟨ha, ha2⟩, ⟨hb, hb2⟩, by omega, hC, htm, ?_, ?_, ?_, ?_, ?_, ?_, hcnt, fun n hn => ?_⟩
  · rw [h.at (by omega) (show mP 12 10 by unfold mP; omega)]; exact ef
  · rw [h.2.1 f hf]; exact ea
  · rw [h.2.1 (t - 1) (by omega)]; exact eb
  · rw [h.at (by omega) (show mP 8 6 by unfold mP; omega)]; exact ew
  · rw [hq.1]; exact h15
  · rw [h.at (by omega) (show mP 16 11 by unfold mP; omega)]; exact et
  · obtain ⟨mn, hmn⟩ : ∃ mn : Nat, mn = (if a < b then a else b) := ⟨_, rfl⟩
    rw [← hmn] at hn ⊢
    have hmb : 1 ≤ mn ∧ mn ≤ 100000 := by rw [hmn]; split <;> omega
    have eE : bEach M j = nI ((85 * mn + 99) / 100) := by
      unfold bEach
      rw [hmt, ef, show tN (nI f) = f from nI_clamp (by omega), ea, eb]
      have e1 : (if nI a < nI b then nI a else nI b) = nI mn := by
        rw [hmn]
        by_cases q : a < b
        · rw [if_pos q, if_pos (nI_lt q (by omega))]
        · rw [if_neg q, if_neg (nI_nlt (by omega) (by omega))]
      rw [e1, show (85 : Int32) = nI 85 from rfl, pk_mul, show (99 : Int32) = nI 99 from rfl, nI_add, show (100 : Int32) = nI 100 from rfl, pk_div (by omega) (by omega) (by omega)]
    have hE1 : 1 ≤ (85 * mn + 99) / 100 := by omega
    have hE2 : (85 * mn + 99) / 100 < 2 ^ 31 := by omega
    have hnw : n ≤ w := Nat.le_trans (Nat.le_mul_of_pos_right n hE1) hn.1
    have eN : bN M j = nI n := by
      have z := num_most hE1 hE2 ha (by omega) (by omega) hC hn
      unfold bN bRoom bCan
      rw [eE, ew, ef, show tN (nI f) = f from nI_clamp (by omega), ea, hmt, show (t - 1) / 12 = k / 2 by omega, eC]
      exact z
    exact LR_buy h (by omega) hk (by omega) (by omega) hn.1 (by omega) htm (by omega) (by omega) eN eE (by rw [hmt]; omega) hm ew ef (by rw [ef, show tN (nI f) = f from nI_clamp (by omega)]; exact ea) (by rw [hmt]; exact eb) et h15 h16
end
