/-! THE LAW'S PURCHASE: its rows, n shares on -/
theorem gI_vo {G : ZG} {a k i : Nat} {v : Int32} (h : i ≠ a) : gI (vI G a k v) i = gI G i := by
  funext x
  rw [gI_vI, if_neg (fun q => h q.1)]
theorem gI_vs {G : ZG} {a k : Nat} {v : Int32} : gI (vI G a k v) a k = v := by rw [gI_vI, if_pos ⟨rfl, rfl⟩]
theorem gI_vn {G : ZG} {a k x : Nat} {v : Int32} (h : x ≠ k) : gI (vI G a k v) a x = gI G a x := by rw [gI_vI, if_neg (fun q => h q.2)]
def gB (G : ZG) (K j w E : Nat) (S : Int64) (n : Nat) : ZG := vI (vX (vI G 2 (8 + j) (nI (w - n * E))) (4 + j) (S + lN (n * E))) 3 K (nI n)
theorem gB_m {G : ZG} {K j w E n : Nat} {S : Int64} : gI (gB G K j w E S n) 2 (8 + j) = nI (w - n * E) := by rw [gB, gI_vo (by decide), gI_vX, gI_vs]
theorem gB_b {G : ZG} {K j w E n : Nat} {S : Int64} : gI (gB G K j w E S n) 3 K = nI n := by rw [gB, gI_vs]
theorem gB_x {G : ZG} {K j w E n : Nat} {S : Int64} : gX (gB G K j w E S n) (4 + j) = S + lN (n * E) := by rw [gB, gX_vI, gX_vX, if_pos rfl]
theorem gB_o {G : ZG} {K j w E n a : Nat} {S : Int64} (h3 : a ≠ 3) (h2 : a ≠ 2) : gI (gB G K j w E S n) a = gI G a := by rw [gB, gI_vo h3, gI_vX, gI_vo h2]
theorem gB_2 {G : ZG} {K j w E n x : Nat} {S : Int64} (h : x ≠ 8 + j) : gI (gB G K j w E S n) 2 x = gI G 2 x := by rw [gB, gI_vo (by decide), gI_vX, gI_vn h]
theorem gB_3 {G : ZG} {K j w E n x : Nat} {S : Int64} (h : x ≠ K) : gI (gB G K j w E S n) 3 x = gI G 3 x := by rw [gB, gI_vn h, gI_vX, gI_vo (by decide)]
theorem gB_xo {G : ZG} {K j w E n x : Nat} {S : Int64} (h : x ≠ 4 + j) : gX (gB G K j w E S n) x = gX G x := by rw [gB, gX_vI, gX_vX, if_neg h, gX_vI]
theorem gB_0 {G : ZG} {K j w E : Nat} {S : Int64} (ew : gI G 2 (8 + j) = nI w) (eb : gI G 3 K = nI 0) (es : gX G (4 + j) = S) : gB G K j w E S 0 = G := by
  refine ZG_ext (fun a x => ?_) (fun x => ?_)
  · by_cases h3 : a = 3
    · subst h3
      by_cases hx : x = K
      · subst hx; rw [gB_b, eb]
      · rw [gB_3 hx]
    · by_cases h2 : a = 2
      · subst h2
        by_cases hx : x = 8 + j
        · subst hx; rw [gB_m, ew, Nat.zero_mul, Nat.sub_zero]
        · rw [gB_2 hx]
      · rw [gB_o h3 h2]
  · by_cases hx : x = 4 + j
    · subst hx; rw [gB_x, es, Nat.zero_mul]; exact Int64.add_zero S
    · rw [gB_xo hx]
theorem gB_step {G : ZG} {K j w E n st : Nat} {S : Int64} {x1 x3 : Int32} {x2 : Int64} (h1 : x1 = nI (w - (n + st) * E)) (h2 : x2 = S + lN ((n + st) * E)) (h3 : x3 = nI (n + st)) : vI (vX (vI (gB G K j w E S n) 2 (8 + j) x1) (4 + j) x2) 3 K x3 = gB G K j w E S (n + st) := by
  subst h1; subst h2; subst h3
  refine ZG_ext (fun a x => ?_) (fun x => ?_)
  · by_cases ha3 : a = 3
    · subst ha3
      by_cases hx : x = K
      · subst hx; rw [gB_b, gI_vs]
      · rw [gB_3 hx, gI_vn hx, gI_vX, gI_vo (by decide), gB_3 hx]
    · by_cases ha2 : a = 2
      · subst ha2
        by_cases hx : x = 8 + j
        · subst hx; rw [gB_m, gI_vo (by decide), gI_vX, gI_vs]
        · rw [gB_2 hx, gI_vo (by decide), gI_vX, gI_vn hx, gB_2 hx]
      · rw [gB_o ha3 ha2, gI_vo ha3, gI_vX, gI_vo ha2, gB_o ha3 ha2]
  · by_cases hx : x = 4 + j
    · subst hx; rw [gB_x, gX_vI, gX_vX, if_pos rfl]
    · rw [gB_xo hx, gX_vI, gX_vX, if_neg hx, gX_vI, gB_xo hx]
/-- the rows behind a purchase -/
def gS (G : ZG) (K j fo w E tm : Nat) (S : Int64) (n : Nat) : ZG := vI (vI (vI (gB (vI G 6 K (nI fo)) K j w E S n) 4 K (nI n)) 5 K (nI E)) 2 (16 + j) (nI (tm + 1))
def gE (G : ZG) (K j fo w E tm t a pn : Nat) (S : Int64) (n : Nat) : ZG := if pn < a ∨ 3 < tm + 1 then vI (vI (vI (gS G K j fo w E tm S n) 2 (20 + j) (gI G 2 (20 + j) + (if pn < a then nI 1 else nI 0))) 2 (12 + j) (nI (t - 1))) 2 (16 + j) (nI 0) else gS G K j fo w E tm S n
theorem gS_20 {G : ZG} {K j fo w E tm n : Nat} {S : Int64} : gI (gS G K j fo w E tm S n) 2 (20 + j) = gI G 2 (20 + j) := by
  rw [gS, gI_vn (by omega), gI_vo (by decide), gI_vo (by decide), gB_2 (by omega), gI_vo (by decide)]
/-- as many as can be bought -/
def most (n w E a C : Nat) (ce : Int32) : Prop := n * E ≤ w ∧ (n = 0 ∨ ((C + n * a : Nat) : Int) ≤ ce.toInt) ∧ ¬ ((n + 1) * E ≤ w ∧ ((C + (n + 1) * a : Nat) : Int) ≤ ce.toInt)
theorem ce_lt {ce : Int32} {X : Nat} (hX : X < 2 ^ 63) : ce.toInt64 < lN X ↔ ce.toInt < (X : Int) := by rw [Int64.lt_iff_toInt_lt, Int32.toInt_toInt64, pk_lT hX]
def ten (st : Nat) : Prop := st = 1000000 ∨ st = 100000 ∨ st = 10000 ∨ st = 1000 ∨ st = 100 ∨ st = 10 ∨ st = 1 ∨ st = 0
theorem ten_div {st : Nat} (h : ten st) : ten (st / 10) := by unfold ten at h ⊢; omega
