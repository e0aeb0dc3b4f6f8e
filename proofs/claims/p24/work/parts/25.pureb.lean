/-! PURE, of lots and members by their numbers: q = 10 j + k is the lot of the k-th purchase month of the member j -/
def qE (M : MS) (q : Nat) : Prop := sS M 0 - sI M 18 q < 24 ∨ sS M 0 - nI (6 * (q % 10) + 5) < 12
noncomputable def qEd (M : MS) (q : Nat) : Decidable (qE M q) := by unfold qE; exact inferInstance
def eQ (M : MS) (q : Nat) : Int32 := bI (sS M 0 - sI M 18 q < 24 ∨ sS M 0 - nI (6 * (q % 10) + 5) < 12)
def pq (M : MS) (q : Nat) : Int32 := if eQ M q = 1 then sI M 1 (6 * (q % 10) + 5) - sI M 17 q else
  (if (if 15 * sI M 1 (tN (sI M 18 q)) / 100 < sI M 1 (tN (sS M 0)) - sI M 17 q then 15 * sI M 1 (tN (sI M 18 q)) / 100 else sI M 1 (tN (sS M 0)) - sI M 17 q) < 0 then 0 else
    (if 15 * sI M 1 (tN (sI M 18 q)) / 100 < sI M 1 (tN (sS M 0)) - sI M 17 q then 15 * sI M 1 (tN (sI M 18 q)) / 100 else sI M 1 (tN (sS M 0)) - sI M 17 q))
def gq (M : MS) (q : Nat) (s : Int32) : Int64 := s.toInt64 * (sI M 1 (tN (sS M 0)) - sI M 17 q - pq M q).toInt64
def tm (M : MS) (q : Nat) : Int64 := (sI M 15 q).toInt64 * (sI M 1 (tN (sI M 18 q))).toInt64
def cN (M : MS) (j y : Nat) : Int64 := 0 + tm M (10 * j + 2 * y) + tm M (10 * j + (2 * y + 1))
def sH (M : MS) (j : Nat) : Nat → Int32
  | 0 => 0
  | k + 1 => sH M j k + sI M 16 (10 * j + k)
def gN (M : MS) (j : Nat) : Nat → Int64
  | 0 => 0
  | k + 1 => gN M j k + (if 0 < sI M 16 (10 * j + k) then gq M (10 * j + k) (sI M 16 (10 * j + k)) else 0)
abbrev mSell : Type := MS × Int32 × Int32
def soldN (M : MS) (q : Nat) (op : Int32) : Int32 := if op < sI M 16 q then op else sI M 16 q
def sellS (j k : Nat) (x : mSell) : mSell :=
  if 0 < soldN x.1 (10 * j + k) x.2.1 then
    (uI (uL (uL x.1 13 j (sL x.1 13 j + (soldN x.1 (10 * j + k) x.2.1).toInt64 * (pq x.1 (10 * j + k)).toInt64)) 14 j (sL x.1 14 j + gq x.1 (10 * j + k) (soldN x.1 (10 * j + k) x.2.1))) 16 (10 * j + k) (sI x.1 16 (10 * j + k) - soldN x.1 (10 * j + k) x.2.1),
      x.2.1 - soldN x.1 (10 * j + k) x.2.1, x.2.2 + (if eQ x.1 (10 * j + k) = 0 then 0 else soldN x.1 (10 * j + k) x.2.1))
  else x
def sellN (j : Nat) : Nat → mSell → mSell
  | 0, x => x
  | k + 1, x => sellS j k (sellN j k x)
/-- a purchase of the member j at the end of the month t -/
def bEach (M : MS) (j : Nat) : Int32 := (85 * (if sI M 1 (tN (sI M 10 j)) < sI M 1 (tN (sS M 0)) then sI M 1 (tN (sI M 10 j)) else sI M 1 (tN (sS M 0))) + 99) / 100
def bRoom (M : MS) (j : Nat) : Int64 := ((sS M 2).toInt64 - cN M j (tN (sS M 0) / 12)) / (sI M 1 (tN (sI M 10 j))).toInt64
def bCan (M : MS) (j : Nat) : Int32 := sI M 6 j / bEach M j
def bN (M : MS) (j : Nat) : Int32 := if bRoom M j < 0 then 0 else if bRoom M j < (bCan M j).toInt64 then (bRoom M j).toInt32 else bCan M j
def buy1 (M : MS) (j : Nat) : MS := if 0 < bN M j then
    uL (uI (uI (uI (uI (uI M 15 (10 * j + tN (sS M 0) / 6) (bN M j)) 16 (10 * j + tN (sS M 0) / 6) (bN M j)) 17 (10 * j + tN (sS M 0) / 6) (bEach M j)) 18 (10 * j + tN (sS M 0) / 6) (sI M 10 j)) 6 j (sI M 6 j - bN M j * bEach M j)) 8 j (sL M 8 j + (bN M j * bEach M j).toInt64)
  else M
def buy2 (M : MS) (j : Nat) : MS := uI (buy1 M j) 11 j (sI M 11 j + 1)
def buyM (M : MS) (j : Nat) : MS := if sI M 1 (tN (sS M 0)) < sI M 1 (tN (sI M 10 j)) ∨ sI M 11 j + 1 = 4 then
    uI (uI (uI (buy2 M j) 12 j (sI M 12 j + (if sI M 1 (tN (sS M 0)) < sI M 1 (tN (sI M 10 j)) then 1 else 0))) 10 j (sS M 0)) 11 j 0
  else buy2 M j
def bAll (M : MS) : Nat → MS
  | 0 => M
  | k + 1 => if sI (bAll M k) 5 k = 0 then buyM (bAll M k) k else bAll M k
/-! the calls: what is thrown (0: nothing), the answer, the state behind -/
abbrev irem (x y : Int32) : Int32 := x - x / y * y
def tNext (M : MS) (p : Int32) : Int32 := t2 (bI (qIn p 1 100000)) (bI (sS M 0 < 59))
def nNext (M : MS) (p : Int32) : MS := uI (uS (if irem (sS M 0) 6 = 5 then bAll M (tN (sS M 3)) else M) 0 (sS M 0 + 1)) 1 (tN (sS M 0 + 1)) p
def tCeil (c : Int32) : Int32 := t1 (bI (qIn c 0 10000000))
def tJoin (M : MS) (r : Int32) : Int32 := t2 (bI (qIn r 1 15)) (bI (0 ≤ sS M 0 ∧ sS M 3 < 6))
def nJoin (M : MS) (r : Int32) : MS := uS (uI (uI M 4 (tN (sS M 3)) r) 10 (tN (sS M 3)) (sS M 0)) 3 (sS M 3 + 1)
def tRate (M : MS) (i r : Int32) : Int32 := t3 (bI (qM M i)) (bI (qIn r 1 15)) (bI (qT M i))
def nRate (M : MS) (i r : Int32) : MS := uI M 4 (tN i) r
def tSlip (M : MS) (i g : Int32) : Int32 := t3 (bI (qM M i)) (bI (qIn g 0 5000000)) (bI (qT M i))
def rSlip (M : MS) (i g : Int32) : Int32 := g * sI M 4 (tN i) / 100
def nSlip (M : MS) (i g : Int32) : MS := uL (uI M 6 (tN i) (sI M 6 (tN i) + rSlip M i g)) 9 (tN i) (sL M 9 (tN i) + (rSlip M i g).toInt64)
def tLeave (M : MS) (i : Int32) : Int32 := t2 (bI (qM M i)) (bI (qT M i))
def nLeave (M : MS) (i : Int32) : MS := uI (uI (uI M 5 (tN i) 1) 7 (tN i) (sI M 6 (tN i))) 6 (tN i) 0
def tMem (M : MS) (i : Int32) : Int32 := t1 (bI (qM M i))
def tMonth (M : MS) (i d : Int32) : Int32 := t1 (bI (qM M i ∧ qIn d 0 59))
def rBought (M : MS) (i d : Int32) : Int32 := if irem d 6 = 5 then sI M 15 (tN (10 * i + d / 6)) else 0
def rPaid (M : MS) (i d : Int32) : Int32 := if irem d 6 = 5 ∧ 0 < sI M 15 (tN (10 * i + d / 6)) then sI M 17 (tN (10 * i + d / 6)) else -1
def tYear (M : MS) (i y : Int32) : Int32 := t1 (bI (qM M i ∧ qIn y 0 4))
def tSell (M : MS) (i s : Int32) : Int32 := t3 (bI (qM M i)) (bI (qIn s 1 1000000)) (bI (qM M i ∧ s ≤ sH M (tN i) 10))
def xSell (M : MS) (i s : Int32) : mSell := sellN (tN i) 10 (M, s, 0)
/-- what the reference's indexes need -/
def wfI (M : MS) : Prop := mem6 M ∧ (∀ k, k < 6 → vp_in (sI M 10 k) 60) ∧ ∀ k, k < 60 → vp_in (sI M 18 k) 60
theorem vp_r {x : Int32} {N a : Nat} (e : x = nI a) (h : a < N) (hN : N < 2 ^ 31) : vp_in x N := by rw [e]; exact vp_in_nI h hN
theorem vp_lt {x : Int32} {N : Nat} (h : vp_in x N) : tN x < N := Nat.not_le.mp fun q => h (Or.inr q)
theorem vp_eq {x : Int32} {N : Nat} (h : vp_in x N) (hN : N < 2 ^ 31) : x = nI (tN x) := by
  obtain ⟨j, hj, rfl⟩ := vp_in_of h hN
  rw [tN, nI_clamp (by omega)]
theorem nI_10 (j k : Nat) : 10 * nI j + nI k = nI (10 * j + k) := by rw [show (10 : Int32) = nI 10 from rfl, pk_mul, nI_add]
theorem nI_rem {q d : Nat} (hq : q < 2 ^ 31) (h0 : 0 < d) (hd : d < 2 ^ 31) : nI q - nI q / nI d * nI d = nI (q % d) := pk_rem hq h0 hd
theorem nI_day {q : Nat} (hq : q < 60) : 6 * (nI q - nI q / 10 * 10) + 5 = nI (6 * (q % 10) + 5) := by
  rw [show (10 : Int32) = nI 10 from rfl, nI_rem (by omega) (by omega) (by omega), show (6 : Int32) = nI 6 from rfl, show (5 : Int32) = nI 5 from rfl, pk_mul, nI_add]
theorem eQ_01 {M : MS} {q : Nat} : eQ M q = 0 ∨ eQ M q = 1 := bI_01
