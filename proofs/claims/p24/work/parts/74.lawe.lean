/-! THE LAW'S ROWS ARE THE REFERENCE'S STATE -/
def LR (G : ZG) (M : MS) (N t : Nat) : Prop := (N ≤ 4 ∧ gI G 0 0 = nI t ∧ gI G 0 1 = nI N ∧ gI G 0 2 = sS M 2) ∧ (∀ x, x < t → gI G 1 x = sI M 1 x) ∧
  (∀ i, i < 4 → gI G 2 (0 + i) = sI M 4 i ∧ gI G 2 (4 + i) = sI M 5 i ∧ gI G 2 (8 + i) = sI M 6 i ∧ gI G 2 (12 + i) = sI M 10 i ∧ gI G 2 (16 + i) = sI M 11 i ∧ gI G 2 (20 + i) = sI M 12 i ∧ gI G 2 (24 + i) = sI M 7 i) ∧
  (∀ q, q < 40 → gI G 3 q = sI M 15 q ∧ gI G 4 q = sI M 16 q ∧ (sI M 15 q ≠ 0 → gI G 5 q = sI M 17 q ∧ gI G 6 q = sI M 18 q)) ∧
  (∀ i, i < 4 → gX G (0 + i) = sL M 9 i ∧ gX G (4 + i) = sL M 8 i ∧ gX G (8 + i) = sL M 13 i ∧ gX G (12 + i) = sL M 14 i) ∧ frng G
theorem vI_comm {G : ZG} {a b k l : Nat} {v w : Int32} (h : a ≠ b) : vI (vI G a k v) b l w = vI (vI G b l w) a k v := by
  refine ZG_ext (fun i x => ?_) (fun x => rfl)
  by_cases h1 : i = b
  · subst h1
    rw [gI_vI, gI_vo (Ne.symm h), gI_vo (Ne.symm h), gI_vI]
  · rw [gI_vo h1]
    by_cases h2 : i = a
    · subst h2
      rw [gI_vI, gI_vI, gI_vo h1]
    · rw [gI_vo h2, gI_vo h2, gI_vo h1]
theorem vI_id {G : ZG} {a k : Nat} {v : Int32} (h : gI G a k = v) : vI G a k v = G := by
  refine ZG_ext (fun i x => ?_) (fun x => rfl)
  rw [gI_vI]
  split
  · next q => rw [q.1, q.2, h]
  · rfl
theorem vX_id {G : ZG} {k : Nat} {v : Int64} (h : gX G k = v) : vX G k v = G := by
  refine ZG_ext (fun i x => rfl) (fun x => ?_)
  rw [gX_vX]
  split
  · next q => rw [q, h]
  · rfl
section
variable {G : ZG} {M : MS} {N t i off a q : Nat} {v : Int32} {w : Int64}
def mP (off a : Nat) : Prop := (off = 0 ∧ a = 4) ∨ (off = 4 ∧ a = 5) ∨ (off = 8 ∧ a = 6) ∨ (off = 12 ∧ a = 10) ∨ (off = 16 ∧ a = 11) ∨ (off = 20 ∧ a = 12) ∨ (off = 24 ∧ a = 7)
theorem LR.at (h : LR G M N t) (hi : i < 4) (hp : mP off a) : gI G 2 (off + i) = sI M a i := by
  obtain ⟨h1, h2, h3, h4, h5, h6, h7⟩ := h.2.2.1 i hi
  rcases hp with ⟨rfl, rfl⟩ | ⟨rfl, rfl⟩ | ⟨rfl, rfl⟩ | ⟨rfl, rfl⟩ | ⟨rfl, rfl⟩ | ⟨rfl, rfl⟩ | ⟨rfl, rfl⟩ <;> assumption
theorem LR.mk (h1 : N ≤ 4 ∧ gI G 0 0 = nI t ∧ gI G 0 1 = nI N ∧ gI G 0 2 = sS M 2) (h2 : ∀ x, x < t → gI G 1 x = sI M 1 x) (h3 : ∀ i, i < 4 → ∀ off a, mP off a → gI G 2 (off + i) = sI M a i)
    (h4 : ∀ q, q < 40 → gI G 3 q = sI M 15 q ∧ gI G 4 q = sI M 16 q ∧ (sI M 15 q ≠ 0 → gI G 5 q = sI M 17 q ∧ gI G 6 q = sI M 18 q)) (h5 : ∀ i, i < 4 → gX G (0 + i) = sL M 9 i ∧ gX G (4 + i) = sL M 8 i ∧ gX G (8 + i) = sL M 13 i ∧ gX G (12 + i) = sL M 14 i) (h6 : frng G) : LR G M N t :=
  ⟨h1, h2, fun i hi => ⟨h3 i hi 0 4 (by unfold mP; omega), h3 i hi 4 5 (by unfold mP; omega), h3 i hi 8 6 (by unfold mP; omega), h3 i hi 12 10 (by unfold mP; omega), h3 i hi 16 11 (by unfold mP; omega), h3 i hi 20 12 (by unfold mP; omega), h3 i hi 24 7 (by unfold mP; omega)⟩, h4, h5, h6⟩
theorem frng_vo (h : frng G) {k : Nat} (ha : a ≠ 6) : frng (vI G a k v) := fun q hq => by rw [gI_vo (Ne.symm ha)]; exact h q hq
theorem LR.m (h : LR G M N t) (hi : i < 4) (hp : mP off a) : LR (vI G 2 (off + i) v) (uI M a i v) N t := by
  obtain ⟨h1, h2, -, h4, h5, h6⟩ := id h
  have ha : a = 4 ∨ a = 5 ∨ a = 6 ∨ a = 10 ∨ a = 11 ∨ a = 12 ∨ a = 7 := by unfold mP at hp; omega
  refine LR.mk ?_ (fun x hx => ?_) (fun z hz off' a' hp' => ?_) (fun q hq => ?_) h5 (frng_vo h6 (by decide))
  · rw [gI_vo (by decide)]; exact h1
  · rw [gI_vo (by decide), xI_uI, if_neg (by omega)]; exact h2 x hx
  · rw [gI_vI, xI_uI]
    by_cases e : a' = a ∧ z = i
    · rw [if_pos e, if_pos ⟨rfl, by unfold mP at hp hp'; omega⟩]
    · rw [if_neg e, if_neg (by unfold mP at hp hp'; omega)]
      exact h.at hz hp'
  · rw [gI_vo (by decide), gI_vo (by decide), gI_vo (by decide), gI_vo (by decide), xI_uI, xI_uI, xI_uI, xI_uI, if_neg (by omega), if_neg (by omega), if_neg (by omega), if_neg (by omega)]
    exact h4 q hq
def xP (off a : Nat) : Prop := (off = 0 ∧ a = 9) ∨ (off = 4 ∧ a = 8) ∨ (off = 8 ∧ a = 13) ∨ (off = 12 ∧ a = 14)
theorem LR.xat (h : LR G M N t) (hi : i < 4) (hp : xP off a) : gX G (off + i) = sL M a i := by
  obtain ⟨h1, h2, h3, h4⟩ := h.2.2.2.2.1 i hi
  rcases hp with ⟨rfl, rfl⟩ | ⟨rfl, rfl⟩ | ⟨rfl, rfl⟩ | ⟨rfl, rfl⟩ <;> assumption
theorem LR.x (h : LR G M N t) (hi : i < 4) (hp : xP off a) : LR (vX G (off + i) w) (uL M a i w) N t := by
  obtain ⟨h1, h2, h3, h4, -, h6⟩ := id h
  have key : ∀ z, z < 4 → ∀ off' a', xP off' a' → gX (vX G (off + i) w) (off' + z) = sL (uL M a i w) a' z := by
    intro z hz off' a' hp'
    rw [gX_vX, xL_uL]
    by_cases e : a' = a ∧ z = i
    · rw [if_pos e, if_pos (by unfold xP at hp hp'; omega)]
    · rw [if_neg e, if_neg (by unfold xP at hp hp'; omega)]
      exact h.xat hz hp'
  exact ⟨h1, h2, h3, h4, fun z hz => ⟨key z hz 0 9 (by unfold xP; omega), key z hz 4 8 (by unfold xP; omega), key z hz 8 13 (by unfold xP; omega), key z hz 12 14 (by unfold xP; omega)⟩, h6⟩
theorem LR.had (h : LR G M N t) : LR (vI G 4 q v) (uI M 16 q v) N t := by
  obtain ⟨h1, h2, -, h4, h5, h6⟩ := id h
  refine LR.mk ?_ (fun x hx => ?_) (fun z hz off' a' hp' => ?_) (fun x hx => ?_) h5 (frng_vo h6 (by decide))
  · rw [gI_vo (by decide)]; exact h1
  · rw [gI_vo (by decide), xI_uI, if_neg (by omega)]; exact h2 x hx
  · rw [gI_vo (by decide), xI_uI, if_neg (by unfold mP at hp'; omega)]
    exact h.at hz hp'
  · obtain ⟨g1, g2, g3⟩ := h4 x hx
    have k : ∀ a, a ≠ 16 → sI (uI M 16 q v) a x = sI M a x := fun a ha => by rw [xI_uI, if_neg (fun y => ha y.1)]
    rw [k 15 (by decide), k 17 (by decide), k 18 (by decide), gI_vo (i := 3) (by decide), gI_vo (i := 5) (by decide), gI_vo (i := 6) (by decide)]
    refine ⟨g1, ?_, g3⟩
    by_cases e : x = q
    · rw [e, gI_vs, xI_uI, if_pos ⟨rfl, rfl⟩]
    · rw [gI_vn e, xI_uI, if_neg (fun z => e z.2)]
      exact g2
/-- a lot is laid -/
theorem LR.lot {b e f : Int32} (h : LR G M N t) (hf : ∃ o : Nat, o < 60 ∧ f = nI o) : LR (vI (vI (vI (vI G 6 q f) 3 q b) 4 q b) 5 q e) (uI (uI (uI (uI M 15 q b) 16 q b) 17 q e) 18 q f) N t := by
  obtain ⟨h1, h2, -, h4, h5, h6⟩ := id h
  refine LR.mk ?_ (fun x hx => ?_) (fun z hz off' a' hp' => ?_) (fun x hx => ?_) h5 ?_
  · rw [gI_vo (by decide), gI_vo (by decide), gI_vo (by decide), gI_vo (by decide)]; exact h1
  · rw [gI_vo (by decide), gI_vo (by decide), gI_vo (by decide), gI_vo (by decide), xI_uI, xI_uI, xI_uI, xI_uI, if_neg (by omega), if_neg (by omega), if_neg (by omega), if_neg (by omega)]; exact h2 x hx
  · rw [gI_vo (by decide), gI_vo (by decide), gI_vo (by decide), gI_vo (by decide), xI_uI, xI_uI, xI_uI, xI_uI, if_neg (by unfold mP at hp'; omega), if_neg (by unfold mP at hp'; omega), if_neg (by unfold mP at hp'; omega), if_neg (by unfold mP at hp'; omega)]
    exact h.at hz hp'
  · by_cases z : x = q
    · subst z
      refine ⟨?_, ?_, fun _ => ⟨?_, ?_⟩⟩
      · rw [gI_vo (by decide), gI_vo (by decide), gI_vs, xI_uI, if_neg (by omega), xI_uI, if_neg (by omega), xI_uI, if_neg (by omega), xI_uI, if_pos ⟨rfl, rfl⟩]
      · rw [gI_vo (by decide), gI_vs, xI_uI, if_neg (by omega), xI_uI, if_neg (by omega), xI_uI, if_pos ⟨rfl, rfl⟩]
      · rw [gI_vs, xI_uI, if_neg (by omega), xI_uI, if_pos ⟨rfl, rfl⟩]
      · rw [gI_vo (by decide), gI_vo (by decide), gI_vo (by decide), gI_vs, xI_uI, if_pos ⟨rfl, rfl⟩]
    · have k : ∀ a, sI (uI (uI (uI (uI M 15 q b) 16 q b) 17 q e) 18 q f) a x = sI M a x := fun a => by
        rw [xI_uI, if_neg (fun y => z y.2), xI_uI, if_neg (fun y => z y.2), xI_uI, if_neg (fun y => z y.2), xI_uI, if_neg (fun y => z y.2)]
      have g : ∀ a, gI (vI (vI (vI (vI G 6 q f) 3 q b) 4 q b) 5 q e) a x = gI G a x := fun a => by
        rw [gI_vI, if_neg (fun y => z y.2), gI_vI, if_neg (fun y => z y.2), gI_vI, if_neg (fun y => z y.2), gI_vI, if_neg (fun y => z y.2)]
      rw [k, k, k, k, g, g, g, g]
      exact h4 x hx
  · refine frng_vo (frng_vo (frng_vo ?_ (by decide)) (by decide)) (by decide)
    intro x hx
    by_cases z : x = q
    · obtain ⟨o, ho, eo⟩ := hf
      exact ⟨o, ho, by rw [z, gI_vs]; exact eo⟩
    · obtain ⟨o, ho, eo⟩ := h6 x hx
      exact ⟨o, ho, by rw [gI_vn z]; exact eo⟩
/-- nothing is bought -/
theorem LR.lot0 {e f : Int32} (h : LR G M N t) (hf : ∃ o : Nat, o < 60 ∧ f = nI o) (h15 : sI M 15 q = 0) (h16 : sI M 16 q = 0) : LR (vI (vI (vI (vI G 6 q f) 3 q 0) 4 q 0) 5 q e) M N t := by
  have h2 := h.lot (q := q) (b := 0) (e := e) (f := f) hf
  obtain ⟨k1, k2, k3, k4, k5, k6⟩ := h2
  refine ⟨k1, fun x hx => ?_, fun i hi => k3 i hi, fun x hx => ?_, k5, k6⟩
  · exact k2 x hx
  · by_cases z : x = q
    · subst z
      obtain ⟨g1, g2, -⟩ := k4 x hx
      refine ⟨?_, ?_, fun y => absurd h15 y⟩
      · rw [g1, h15, xI_uI, if_neg (by omega), xI_uI, if_neg (by omega), xI_uI, if_neg (by omega), xI_uI, if_pos ⟨rfl, rfl⟩]
      · rw [g2, h16, xI_uI, if_neg (by omega), xI_uI, if_neg (by omega), xI_uI, if_pos ⟨rfl, rfl⟩]
    · have k : ∀ a, sI (uI (uI (uI (uI M 15 q 0) 16 q 0) 17 q e) 18 q f) a x = sI M a x := fun a => by
        rw [xI_uI, if_neg (fun y => z y.2), xI_uI, if_neg (fun y => z y.2), xI_uI, if_neg (fun y => z y.2), xI_uI, if_neg (fun y => z y.2)]
      have := k4 x hx
      rw [k, k, k, k] at this
      exact this
end
