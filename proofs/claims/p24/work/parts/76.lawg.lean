/-! THE CLASS BESIDE THE LAW: what is kept is where the money went; the helpers' frame -/
theorem i64_swap (a b c z : Int64) : a + b + c = a + z + (b - z) + c := by
  have h : a + z + (b - z) = a + b := by
    rw [Int64.sub_eq_add_neg, Int64.add_assoc, Int64.add_comm b, ← Int64.add_assoc z, Int64.add_right_neg, Int64.zero_add]
  rw [h]
theorem i64_slip (a b c z : Int64) : a + b + c + z = a + (b + z) + c := by
  rw [Int64.add_assoc (a + b), Int64.add_comm c, ← Int64.add_assoc (a + b), Int64.add_assoc a b z]
theorem i64_leave (a b c : Int64) : a + b + c = a + 0 + (c + b) := by
  rw [Int64.add_zero, Int64.add_assoc, Int64.add_comm b]
def ACc (c : CS) : Prop := kL c 7 = kL c 5 + kL c 4 + kL c 6
def AC (P : PS) (N : Nat) : Prop := ∀ i, i < N → ACc (pC P i)
theorem kRen_L {c : CS} {mo price : Int32} : kL (kRenew c mo price) = kL c := by
  unfold kRenew
  split
  · rfl
  · split <;> rfl
theorem ACc_buy {c : CS} {mo price ce : Int32} {q : Nat} (h : ACc c) : ACc (kBuyM c mo price ce q) := by
  unfold ACc at h ⊢
  unfold kBuyM
  rw [kRen_L]
  show kL (kBuy1 c mo price ce q) 7 = kL (kBuy1 c mo price ce q) 5 + kL (kBuy1 c mo price ce q) 4 + kL (kBuy1 c mo price ce q) 6
  unfold kBuy1
  split
  · generalize (kNum c mo price ce).toInt64 * (kEach c price).toInt64 = zq
    rw [kL_uKL, if_neg (by decide), kL_uKL, if_neg (by decide), kL_kAdd, kL_uKT, kL_uKL, if_pos rfl, kL_uKL, if_neg (by decide), kL_uKL, if_pos rfl, kL_uKL, if_neg (by decide), kL_uKL, if_neg (by decide), kL_kAdd, kL_uKT, h]
    exact i64_swap _ _ _ _
  · exact h
theorem AC_all {qs : Nat → Nat} {P : PS} {N : Nat} (h : AC P N) : ∀ k, AC (pAll qs N P k) N
  | 0 => h
  | k + 1 => by
    have ih := AC_all (qs := qs) h k
    rw [pAll]
    split
    · intro i hi
      rw [pC_uPC]
      split
      · next e => exact ACc_buy (ih k (e ▸ hi))
      · exact ih i hi
    · exact ih
theorem kSell_L {now price : Int32} {X : kSell} {a : Nat} (h : a ≠ 12 ∧ a ≠ 13) : ∀ k, kL (kSellN now price k X).1 a = kL X.1 a
  | 0 => rfl
  | k + 1 => by
    have ih := kSell_L (now := now) (price := price) (X := X) h k
    rw [kSellN, kSellS]
    split
    · exact ih
    · rw [kL_uK6, kL_uKL, if_neg h.2, kL_uKL, if_neg h.1]
      exact ih
theorem AC_up {P : PS} {N j : Nat} {c : CS} (h : AC P N) (hc : ACc c) : AC (uPC P j c) N := by
  intro i hi
  rw [pC_uPC]
  split
  · exact hc
  · exact h i hi
theorem AC_slip {P : PS} {N j : Nat} {z : Int64} (h : AC P N) (hj : j < N) : AC (uPC P j (uKL (uKL (pC P j) 4 (kL (pC P j) 4 + z)) 7 (kL (pC P j) 7 + z))) N := by
  refine AC_up h ?_
  have h9 := h j hj
  unfold ACc at h9 ⊢
  rw [kL_uKL, if_pos rfl, kL_uKL, if_neg (by decide), kL_uKL, if_neg (by decide), kL_uKL, if_neg (by decide), kL_uKL, if_pos rfl, kL_uKL, if_neg (by decide), kL_uKL, if_neg (by decide), h9]
  exact i64_slip _ _ _ _
theorem AC_leave {P : PS} {N j : Nat} (h : AC P N) (hj : j < N) : AC (uPC P j (uKI (uKL (uKL (pC P j) 6 (kL (pC P j) 6 + kL (pC P j) 4)) 4 0) 3 1)) N := by
  refine AC_up h ?_
  have h9 := h j hj
  unfold ACc at h9 ⊢
  rw [kL_uKI, kL_uKL, if_neg (by decide), kL_uKL, if_neg (by decide), kL_uKI, kL_uKL, if_neg (by decide), kL_uKL, if_neg (by decide), kL_uKI, kL_uKL, if_pos rfl, kL_uKI, kL_uKL, if_neg (by decide), kL_uKL, if_pos rfl, h9]
  exact i64_leave _ _ _
theorem AC_rate {P : PS} {N j : Nat} {v : Int32} (h : AC P N) (hj : j < N) : AC (uPC P j (uKI (pC P j) 2 v)) N := AC_up h (h j hj)
theorem AC_sell {P : PS} {N j : Nat} {now price y : Int32} (h : AC P N) (hj : j < N) : AC (uPC P j (kSellN now price 10 (pC P j, y, 0)).1) N := by
  refine AC_up h ?_
  have h9 := h j hj
  unfold ACc at h9 ⊢
  rw [kSell_L (by decide), kSell_L (by decide), kSell_L (by decide), kSell_L (by decide)]
  exact h9
theorem AC_join {P : PS} {N : Nat} {y a b v : Int32} (h : AC P N) : AC (uPS (uPC P N (kNew y a b)) 1 v) (N + 1) := by
  intro i hi
  rw [pC_uPS, pC_uPC]
  split
  · rfl
  · exact h i (by omega)
/-- the class's plan is the reference's state M -/
def CX (Y : Nat → ClassId) (x : Nat) (σ0 : sg_W) (M : MS) (N t c : Nat) (σ : sg_W) : Prop := ∃ (aM : Nat) (aO aL aC : Nat → Nat) (P : PS), PF Y x aM N aO aL aC σ P σ ∧ RW M N P ∧ IV M N t c 7 ∧ AC P N ∧ ∀ j, 100 ≤ j ∧ j < 1000 → σ j = σ0 j
theorem CX.mk {Y : Nat → ClassId} {x aM N t c : Nat} {aO aL aC : Nat → Nat} {P : PS} {σ0 σ : sg_W} {M : MS} (hQ : PF Y x aM N aO aL aC σ0 P σ) (hR : RW M N P) (hI : IV M N t c 7) (hC : AC P N) : CX Y x σ0 M N t c σ := ⟨aM, aO, aL, aC, P, hQ.self, hR, hI, hC, hQ.2.2.2.1⟩
theorem CX.far {Y : Nat → ClassId} {x N t c : Nat} {σ0 σ σ' : sg_W} {M : MS} (h : CX Y x σ0 M N t c σ) (ho : ∀ n, ¬ (100 ≤ n ∧ n ≤ 107) → σ' n = σ n) : CX Y x σ' M N t c σ' := by
  obtain ⟨aM, aO, aL, aC, P, ⟨g1, g2, g3, g4, g5⟩, hR, hI, hA, -⟩ := h
  exact ⟨aM, aO, aL, aC, P, ⟨by rw [ho _ (by omega)]; exact g1, by rw [ho _ (by omega)]; exact g2, fun i hi => (g3 i hi).agree (fun j hj => ho j (by omega)), fun j hj => rfl, g5⟩, hR, hI, hA, fun _ _ => rfl⟩
section
variable {M : MS} {N t c : Nat} {P : PS}
theorem now_lt (h : IV M N t c 7) : sS M 0 < 59 ↔ t < 60 := by
  have h6 := h.1.2.1
  have e : (nI t - nI 1).toInt = (t : Int) - (1 : Nat) := pk_sub_toInt (by omega) (by omega)
  rw [h.1.2.2.2.2, show (nI t - 1 : Int32) = nI t - nI 1 from rfl, Int32.lt_iff_toInt_lt, e]
  have h59 : (59 : Int32).toInt = 59 := rfl
  rw [h59]
  omega
theorem now_none (h : IV M N t c 7) (hR : RW M N P) : ¬ pS P 2 = -1 ↔ 0 < t := by
  have h6 := h.1.2.1
  have e : (nI t - nI 1).toInt = (t : Int) - (1 : Nat) := pk_sub_toInt (by omega) (by omega)
  have e1 : (-1 : Int32).toInt = -1 := rfl
  rw [hR.2.1, h.1.2.2.2.2, show (nI t - 1 : Int32) = nI t - nI 1 from rfl, ← Int32.toInt_inj, e, e1]
  omega
end
/-- a method without a table, behind the catchers' words -/
theorem lh_metP {l : Launch} {y : MethodName} {ws ws' : List Cond} {rm : Room} {av : List Value} {Qc : Array Value → State → Outcome → State → Prop} {mc ms : Nat} {cc : ByteArray} {maxL : Nat} {ret : Option FieldType} {D : va_G} {Y : Nat → ClassId} {σ : sg_W} {sz : Nat} (hy : plainName y.cls = true) (hw : ws = Cond.code y cc maxL ret :: ws') (hlen : (lg_sl av).length ≤ maxL)
    (body : ∀ (p : Program) (e : Env) (s : State) (m : MethodId) (below : List Frame) (meth : Method) (c : Code) (ls : Array Slot), p.tables.exec = Jvm.exec → c.code = cc → c.maxLocals = maxL → meth.sig.returnType = ret → s.vm.findClass y.cls = some m.cls → (∀ w ∈ ws, w.before av.toArray s = true) → meth.locks = false → meth.name = y.name →
      sg_P D σ s.heap → sg_K D Y s → sg_D (sg_A σ sz) σ → sg_N s → lh_N s → sg_X (sg_A σ sz) s s.heap → (∀ q, s.heap.size ≤ q → sg_A σ sz q) → va_S (sg_A σ sz) s.heap s.heap [] → s.heap.size = sz → lv_has ls maxL (lv_args 0 av) →
      W p l e rm s m av.toArray below meth c s.heap [] 0 0 (MQ below Qc av.toArray s mc ms (sg_A σ sz)) (F0 m 0 ls [])) : Met l y ws rm (va_Pc av (lh_U D Y σ sz)) Qc mc ms (sg_A σ sz) := by
  refine Met.ofW (cc := cc) (maxL := maxL) (ret := ret) hy hw ?_
  intro p e s m args below meth c s₁ B hml hv
  obtain ⟨rfl, ⟨hsz, hP, hK, hD0, hN, hX⟩, hC⟩ := hv
  rw [lg_entry_eq]
  exact body p e s m below meth c _ B.exec B.bytes hml B.returns (findClass_of_methodNamed B.named) (atoms_spec (ws := ws) B.pre) B.notSynchronized (name_of_methodNamed B.named B.method).1 hP hK hD0.self hN hC hX (fun q h => Or.inr (by rw [← hsz]; exact h)) va_S.rf hsz (lv_entry av hlen)
theorem c_X2_sellG (l : Launch) (hfl : l.stackTraces = false) (D : va_G) (Y : Nat → ClassId) (σ : sg_W) (sz : Nat) (x aM N : Nat) (aO aL aC : Nat → Nat) (P : PS) (i y : Int32) (hQ : PF Y x aM N aO aL aC σ P σ) (G : kSell) (hG : G = kSellN (pS P 2) (pS P 3) 10 (pC P (tN i), y, 0)) (S2 : Int32) (hS2 : S2 = kSum (pC P (tN i)) 10) : vx_Met l yX2_sell wsX2_sell ({ frames := 7, cells := 3, slots := 18, locals := 112 } : Room) (va_Pc [.ref x, .int i, .int y] (sg_U D Y σ sz)) (va_Qi (fun r σ' => r = G.2.2 ∧ vp_in i N ∧ qIn y 1 1000000 ∧ y ≤ S2 ∧ PF Y x aM N aO aL aC σ (uPC P (tN i) G.1) σ') (sg_B D σ sz) (sg_A σ sz)) (sg_T9 D σ sz (fun E => (E = "java/lang/IndexOutOfBoundsException" ∧ ¬ vp_in i N) ∨ (vp_in i N ∧ E = "java/lang/IllegalArgumentException" ∧ ¬ qIn y 1 1000000) ∨ (vp_in i N ∧ qIn y 1 1000000 ∧ E = "java/lang/IllegalStateException" ∧ ¬ y ≤ S2))) 3 18 (sg_A σ sz) := by
  subst hG
  subst hS2
  exact c_X2_sell l hfl D Y σ sz x aM N aO aL aC P i y hQ
