/-! THE LAW'S ROWS: 0 the counts c, 1 the prices p, 2 the members m, 3 bought b, 4 had h, 5 paid q, 6 offer's month f; x the sums -/
abbrev ZG : Type := (Nat → Nat → Int32) × (Nat → Int64)
def gI (G : ZG) (a : Nat) : Nat → Int32 := G.1 a
def gX (G : ZG) : Nat → Int64 := G.2
def vI (G : ZG) (a k : Nat) (v : Int32) : ZG := (fun i => if i = a then upd (G.1 a) k v else G.1 i, G.2)
def vX (G : ZG) (k : Nat) (v : Int64) : ZG := (G.1, vp_updL G.2 k v)
theorem gI_vI {G : ZG} {a k i x : Nat} {v : Int32} : gI (vI G a k v) i x = if i = a ∧ x = k then v else gI G i x := by
  by_cases h : i = a
  · subst h; simp [gI, vI, upd_at]
  · simp [gI, vI, h]
theorem gI_vX {G : ZG} {k i : Nat} {v : Int64} : gI (vX G k v) i = gI G i := rfl
theorem gX_vI {G : ZG} {a k : Nat} {v : Int32} : gX (vI G a k v) = gX G := rfl
theorem gX_vX {G : ZG} {k x : Nat} {v : Int64} : gX (vX G k v) x = if x = k then v else gX G x := rfl
theorem ZG_ext {G K : ZG} (h1 : ∀ a k, gI G a k = gI K a k) (h2 : ∀ k, gX G k = gX K k) : G = K := by
  obtain ⟨a, b⟩ := G
  obtain ⟨a', b'⟩ := K
  have e1 : a = a' := funext fun j => funext (h1 j)
  have e2 : b = b' := funext h2
  subst e1; subst e2; rfl
def lnG (a : Nat) : Nat := if a = 0 then 3 else if a = 1 then 60 else if a = 2 then 28 else 40
/-- σ holds the law's rows at the names 100 .. 107; off them it is σ0 -/
def ZF (Y : Nat → ClassId) (ad : Nat → Nat) (σ0 : sg_W) (G : ZG) (σ : sg_W) : Prop := (∀ a, a < 7 → σ (100 + a) = some (ad a, .inl (Y 0, lnG a, .inl (gI G a)))) ∧ σ (100 + 7) = some (ad 7, .inl (Y 1, 16, .inr (.inl (gX G)))) ∧ ∀ n, ¬ (100 ≤ n ∧ n ≤ 107) → σ n = σ0 n
section
variable {Y : Nat → ClassId} {ad : Nat → Nat} {σ0 σ σ1 : sg_W} {G G' : ZG} {k : Nat} {v : Int32} {w : Int64}
theorem ZF.self (h : ZF Y ad σ0 G σ) : ZF Y ad σ G σ := ⟨h.1, h.2.1, fun _ _ => rfl⟩
theorem ZF.trans (h0 : ZF Y ad σ0 G σ1) (h : ZF Y ad σ1 G' σ) : ZF Y ad σ0 G' σ := ⟨h.1, h.2.1, fun n hn => (h.2.2 n hn).trans (h0.2.2 n hn)⟩
theorem ZF.to (h : ZF Y ad σ0 G σ) (e : G = G') : ZF Y ad σ0 G' σ := e ▸ h
theorem ZF.by (h : ZF Y ad σ0 G σ) (ho : ∀ j, 100 ≤ j ∧ j < 1000 → σ1 j = σ j) : ZF Y ad σ1 G σ1 := ⟨fun a ha => by rw [ho _ (by omega)]; exact h.1 a ha, by rw [ho _ (by omega)]; exact h.2.1, fun _ _ => rfl⟩
theorem ZF.a0 (h : ZF Y ad σ0 G σ) : σ (100 + 0) = some (ad 0, .inl (Y 0, 3, .inl (gI G 0))) := h.1 0 (by decide)
theorem ZF.a1 (h : ZF Y ad σ0 G σ) : σ (100 + 1) = some (ad 1, .inl (Y 0, 60, .inl (gI G 1))) := h.1 1 (by decide)
theorem ZF.a2 (h : ZF Y ad σ0 G σ) : σ (100 + 2) = some (ad 2, .inl (Y 0, 28, .inl (gI G 2))) := h.1 2 (by decide)
theorem ZF.a3 (h : ZF Y ad σ0 G σ) : σ (100 + 3) = some (ad 3, .inl (Y 0, 40, .inl (gI G 3))) := h.1 3 (by decide)
theorem ZF.a4 (h : ZF Y ad σ0 G σ) : σ (100 + 4) = some (ad 4, .inl (Y 0, 40, .inl (gI G 4))) := h.1 4 (by decide)
theorem ZF.a5 (h : ZF Y ad σ0 G σ) : σ (100 + 5) = some (ad 5, .inl (Y 0, 40, .inl (gI G 5))) := h.1 5 (by decide)
theorem ZF.a6 (h : ZF Y ad σ0 G σ) : σ (100 + 6) = some (ad 6, .inl (Y 0, 40, .inl (gI G 6))) := h.1 6 (by decide)
theorem ZF.a7 (h : ZF Y ad σ0 G σ) : σ (100 + 7) = some (ad 7, .inl (Y 1, 16, .inr (.inl (gX G)))) := h.2.1
theorem ZF.of {a : Nat} (h : ZF Y ad σ0 G σ) (ha : a < 7) : ZF Y ad σ0 (vI G a k v) (sg_u σ (100 + a) (ad a) (.inl (Y 0, lnG a, .inl (upd (gI G a) k v)))) := by
  refine ⟨fun b hb => ?_, ?_, fun n hn => ?_⟩
  · by_cases hba : b = a
    · subst hba
      rw [sg_ue]
      simp [gI, vI]
    · rw [sg_un (by omega), h.1 b hb]
      simp [gI, vI, hba]
  · rw [sg_un (by omega)]
    exact h.2.1
  · rw [sg_un (by omega)]
    exact h.2.2 n hn
theorem ZF.u0 (h : ZF Y ad σ0 G σ) : ZF Y ad σ0 (vI G 0 k v) (sg_u σ (100 + 0) (ad 0) (.inl (Y 0, 3, .inl (upd (gI G 0) k v)))) := h.of (a := 0) (by decide)
theorem ZF.u1 (h : ZF Y ad σ0 G σ) : ZF Y ad σ0 (vI G 1 k v) (sg_u σ (100 + 1) (ad 1) (.inl (Y 0, 60, .inl (upd (gI G 1) k v)))) := h.of (a := 1) (by decide)
theorem ZF.u2 (h : ZF Y ad σ0 G σ) : ZF Y ad σ0 (vI G 2 k v) (sg_u σ (100 + 2) (ad 2) (.inl (Y 0, 28, .inl (upd (gI G 2) k v)))) := h.of (a := 2) (by decide)
theorem ZF.u3 (h : ZF Y ad σ0 G σ) : ZF Y ad σ0 (vI G 3 k v) (sg_u σ (100 + 3) (ad 3) (.inl (Y 0, 40, .inl (upd (gI G 3) k v)))) := h.of (a := 3) (by decide)
theorem ZF.u4 (h : ZF Y ad σ0 G σ) : ZF Y ad σ0 (vI G 4 k v) (sg_u σ (100 + 4) (ad 4) (.inl (Y 0, 40, .inl (upd (gI G 4) k v)))) := h.of (a := 4) (by decide)
theorem ZF.u5 (h : ZF Y ad σ0 G σ) : ZF Y ad σ0 (vI G 5 k v) (sg_u σ (100 + 5) (ad 5) (.inl (Y 0, 40, .inl (upd (gI G 5) k v)))) := h.of (a := 5) (by decide)
theorem ZF.u6 (h : ZF Y ad σ0 G σ) : ZF Y ad σ0 (vI G 6 k v) (sg_u σ (100 + 6) (ad 6) (.inl (Y 0, 40, .inl (upd (gI G 6) k v)))) := h.of (a := 6) (by decide)
theorem ZF.u7 (h : ZF Y ad σ0 G σ) : ZF Y ad σ0 (vX G k w) (sg_u σ (100 + 7) (ad 7) (.inl (Y 1, 16, .inr (.inl (vp_updL (gX G) k w))))) := by
  refine ⟨fun b hb => ?_, ?_, fun n hn => ?_⟩
  · rw [sg_un (by omega), h.1 b hb]; rfl
  · rw [sg_ue]; rfl
  · rw [sg_un (by omega)]
    exact h.2.2 n hn
end
/-! rows over numbers that are known as natural ones -/
section LWR
variable {p : Program} {l : Launch} {e : Env} {R : Room} {s : State} {m : MethodId} {args : Array Value} {below : List Frame} {meth : Method} {c : Code} {H : Heap} {locs : List Loc} {cells slots : Nat} {Q : State → Prop}
variable {cc : ByteArray} {pc : Nat} {ls : Array Slot} {rest : List Value} {D : va_G} {Y : Nat → ClassId} {A : Nat → Prop} {σ : sg_W} {H0 : Heap} {a b : Nat} {off : Int} {tgt : Nat}
theorem lw_iadd (hexec : p.tables.exec = Jvm.exec) (hb : c.code = cc) (hdg : decode cc pc = .ok (.iadd, 1)) (k : W p l e R s m args below meth c H locs cells slots Q (F0 m (pc + 1) ls (.int (nI (a + b)) :: rest))) : W p l e R s m args below meth c H locs cells slots Q (F0 m pc ls (.int (nI b) :: .int (nI a) :: rest)) := lv_iadd hexec hb hdg (by rw [nI_add]; exact k)
theorem lw_imul (hexec : p.tables.exec = Jvm.exec) (hb : c.code = cc) (hdg : decode cc pc = .ok (.imul, 1)) (k : W p l e R s m args below meth c H locs cells slots Q (F0 m (pc + 1) ls (.int (nI (a * b)) :: rest))) : W p l e R s m args below meth c H locs cells slots Q (F0 m pc ls (.int (nI b) :: .int (nI a) :: rest)) := lv_imul hexec hb hdg (by rw [pk_mul]; exact k)
theorem lw_isub (hexec : p.tables.exec = Jvm.exec) (hb : c.code = cc) (hdg : decode cc pc = .ok (.isub, 1)) (h : b ≤ a) (k : W p l e R s m args below meth c H locs cells slots Q (F0 m (pc + 1) ls (.int (nI (a - b)) :: rest))) : W p l e R s m args below meth c H locs cells slots Q (F0 m pc ls (.int (nI b) :: .int (nI a) :: rest)) := lv_isub hexec hb hdg (by rw [pk_sub h]; exact k)
theorem lw_idiv (hexec : p.tables.exec = Jvm.exec) (hb : c.code = cc) (hdg : decode cc pc = .ok (.idiv, 1)) (ha : a < 2 ^ 31) (h0 : 0 < b) (hb2 : b < 2 ^ 31) (k : W p l e R s m args below meth c H locs cells slots Q (F0 m (pc + 1) ls (.int (nI (a / b)) :: rest))) : W p l e R s m args below meth c H locs cells slots Q (F0 m pc ls (.int (nI b) :: .int (nI a) :: rest)) := lv_idiv hexec hb hdg (nI_ne0 h0 hb2) (by rw [pk_div ha h0 hb2]; exact k)
theorem lw_irem (hexec : p.tables.exec = Jvm.exec) (hb : c.code = cc) (hdg : decode cc pc = .ok (.irem, 1)) (ha : a < 2 ^ 31) (h0 : 0 < b) (hb2 : b < 2 ^ 31) (k : W p l e R s m args below meth c H locs cells slots Q (F0 m (pc + 1) ls (.int (nI (a % b)) :: rest))) : W p l e R s m args below meth c H locs cells slots Q (F0 m pc ls (.int (nI b) :: .int (nI a) :: rest)) := lv_irem hexec hb hdg (nI_ne0 h0 hb2) (by rw [pk_rem ha h0 hb2]; exact k)
theorem lw_icmp_lt (hexec : p.tables.exec = Jvm.exec) (hb : c.code = cc) (hdg : decode cc pc = .ok (.if_icmp .lt off, 3)) (ht : (pc : Int) + off = (tgt : Int)) (ha : a < 2 ^ 31) (hb2 : b < 2 ^ 31) (kt : a < b → W p l e R s m args below meth c H locs cells slots Q (F0 m tgt ls rest)) (kf : ¬ a < b → W p l e R s m args below meth c H locs cells slots Q (F0 m (pc + 3) ls rest)) : W p l e R s m args below meth c H locs cells slots Q (F0 m pc ls (.int (nI b) :: .int (nI a) :: rest)) := lv_icmp_lt hexec hb hdg ht (fun h => kt ((nI_ltI ha hb2).mp h)) (fun h => kf (fun q => h ((nI_ltI ha hb2).mpr q)))
theorem lw_icmp_ge (hexec : p.tables.exec = Jvm.exec) (hb : c.code = cc) (hdg : decode cc pc = .ok (.if_icmp .ge off, 3)) (ht : (pc : Int) + off = (tgt : Int)) (ha : a < 2 ^ 31) (hb2 : b < 2 ^ 31) (kt : b ≤ a → W p l e R s m args below meth c H locs cells slots Q (F0 m tgt ls rest)) (kf : ¬ b ≤ a → W p l e R s m args below meth c H locs cells slots Q (F0 m (pc + 3) ls rest)) : W p l e R s m args below meth c H locs cells slots Q (F0 m pc ls (.int (nI b) :: .int (nI a) :: rest)) := lv_icmp_ge hexec hb hdg ht (fun h => kt ((nI_leI hb2 ha).mp h)) (fun h => kf (fun q => h ((nI_leI hb2 ha).mpr q)))
theorem lw_icmp_gt (hexec : p.tables.exec = Jvm.exec) (hb : c.code = cc) (hdg : decode cc pc = .ok (.if_icmp .gt off, 3)) (ht : (pc : Int) + off = (tgt : Int)) (ha : a < 2 ^ 31) (hb2 : b < 2 ^ 31) (kt : b < a → W p l e R s m args below meth c H locs cells slots Q (F0 m tgt ls rest)) (kf : ¬ b < a → W p l e R s m args below meth c H locs cells slots Q (F0 m (pc + 3) ls rest)) : W p l e R s m args below meth c H locs cells slots Q (F0 m pc ls (.int (nI b) :: .int (nI a) :: rest)) := lv_icmp_gt hexec hb hdg ht (fun h => kt ((nI_ltI hb2 ha).mp h)) (fun h => kf (fun q => h ((nI_ltI hb2 ha).mpr q)))
theorem lw_icmp_le (hexec : p.tables.exec = Jvm.exec) (hb : c.code = cc) (hdg : decode cc pc = .ok (.if_icmp .le off, 3)) (ht : (pc : Int) + off = (tgt : Int)) (ha : a < 2 ^ 31) (hb2 : b < 2 ^ 31) (kt : a ≤ b → W p l e R s m args below meth c H locs cells slots Q (F0 m tgt ls rest)) (kf : ¬ a ≤ b → W p l e R s m args below meth c H locs cells slots Q (F0 m (pc + 3) ls rest)) : W p l e R s m args below meth c H locs cells slots Q (F0 m pc ls (.int (nI b) :: .int (nI a) :: rest)) := lv_icmp_le hexec hb hdg ht (fun h => kt ((nI_leI ha hb2).mp h)) (fun h => kf (fun q => h ((nI_leI ha hb2).mpr q)))
theorem lw_icmp_eq (hexec : p.tables.exec = Jvm.exec) (hb : c.code = cc) (hdg : decode cc pc = .ok (.if_icmp .eq off, 3)) (ht : (pc : Int) + off = (tgt : Int)) (ha : a < 2 ^ 31) (hb2 : b < 2 ^ 31) (kt : a = b → W p l e R s m args below meth c H locs cells slots Q (F0 m tgt ls rest)) (kf : ¬ a = b → W p l e R s m args below meth c H locs cells slots Q (F0 m (pc + 3) ls rest)) : W p l e R s m args below meth c H locs cells slots Q (F0 m pc ls (.int (nI b) :: .int (nI a) :: rest)) := lv_icmp_eq hexec hb hdg ht (fun h => kt ((nI_eq ha hb2).mp h)) (fun h => kf (fun q => h ((nI_eq ha hb2).mpr q)))
theorem lw_icmp_ne (hexec : p.tables.exec = Jvm.exec) (hb : c.code = cc) (hdg : decode cc pc = .ok (.if_icmp .ne off, 3)) (ht : (pc : Int) + off = (tgt : Int)) (ha : a < 2 ^ 31) (hb2 : b < 2 ^ 31) (kt : ¬ a = b → W p l e R s m args below meth c H locs cells slots Q (F0 m tgt ls rest)) (kf : a = b → W p l e R s m args below meth c H locs cells slots Q (F0 m (pc + 3) ls rest)) : W p l e R s m args below meth c H locs cells slots Q (F0 m pc ls (.int (nI b) :: .int (nI a) :: rest)) := lv_icmp_ne hexec hb hdg ht (fun h => kt (fun q => h ((nI_eq ha hb2).mpr q))) (fun h => kf ((nI_eq ha hb2).mp h))
theorem lw_if_eq (hexec : p.tables.exec = Jvm.exec) (hb : c.code = cc) (hdg : decode cc pc = .ok (.ifCond .eq off, 3)) (ht : (pc : Int) + off = (tgt : Int)) (ha : a < 2 ^ 31) (kt : a = 0 → W p l e R s m args below meth c H locs cells slots Q (F0 m tgt ls rest)) (kf : ¬ a = 0 → W p l e R s m args below meth c H locs cells slots Q (F0 m (pc + 3) ls rest)) : W p l e R s m args below meth c H locs cells slots Q (F0 m pc ls (.int (nI a) :: rest)) := lv_if_eq hexec hb hdg ht (fun h => kt ((nI_eq (b := 0) ha (by decide)).mp h)) (fun h => kf (fun q => h ((nI_eq (b := 0) ha (by decide)).mpr q)))
theorem lw_if_ne (hexec : p.tables.exec = Jvm.exec) (hb : c.code = cc) (hdg : decode cc pc = .ok (.ifCond .ne off, 3)) (ht : (pc : Int) + off = (tgt : Int)) (ha : a < 2 ^ 31) (kt : ¬ a = 0 → W p l e R s m args below meth c H locs cells slots Q (F0 m tgt ls rest)) (kf : a = 0 → W p l e R s m args below meth c H locs cells slots Q (F0 m (pc + 3) ls rest)) : W p l e R s m args below meth c H locs cells slots Q (F0 m pc ls (.int (nI a) :: rest)) := lv_if_ne hexec hb hdg ht (fun h => kt (fun q => h ((nI_eq (b := 0) ha (by decide)).mpr q))) (fun h => kf ((nI_eq (b := 0) ha (by decide)).mp h))
theorem lw_if_le (hexec : p.tables.exec = Jvm.exec) (hb : c.code = cc) (hdg : decode cc pc = .ok (.ifCond .le off, 3)) (ht : (pc : Int) + off = (tgt : Int)) (ha : a < 2 ^ 31) (kt : a = 0 → W p l e R s m args below meth c H locs cells slots Q (F0 m tgt ls rest)) (kf : ¬ a = 0 → W p l e R s m args below meth c H locs cells slots Q (F0 m (pc + 3) ls rest)) : W p l e R s m args below meth c H locs cells slots Q (F0 m pc ls (.int (nI a) :: rest)) := lv_if_le hexec hb hdg ht (fun h => kt (by have := (nI_leI (b := 0) ha (by decide)).mp h; omega)) (fun h => kf (fun q => h ((nI_leI (b := 0) ha (by decide)).mpr (by omega))))
theorem lw_if_gt (hexec : p.tables.exec = Jvm.exec) (hb : c.code = cc) (hdg : decode cc pc = .ok (.ifCond .gt off, 3)) (ht : (pc : Int) + off = (tgt : Int)) (ha : a < 2 ^ 31) (kt : 0 < a → W p l e R s m args below meth c H locs cells slots Q (F0 m tgt ls rest)) (kf : ¬ 0 < a → W p l e R s m args below meth c H locs cells slots Q (F0 m (pc + 3) ls rest)) : W p l e R s m args below meth c H locs cells slots Q (F0 m pc ls (.int (nI a) :: rest)) := lv_if_gt hexec hb hdg ht (fun h => kt ((nI_ltI (a := 0) (by decide) ha).mp h)) (fun h => kf (fun q => h ((nI_ltI (a := 0) (by decide) ha).mpr q)))
/-- 'if less than 0' of a natural number goes on -/
theorem lw_if_lt (hexec : p.tables.exec = Jvm.exec) (hb : c.code = cc) (hdg : decode cc pc = .ok (.ifCond .lt off, 3)) (ht : (pc : Int) + off = (tgt : Int)) (ha : a < 2 ^ 31) (kf : W p l e R s m args below meth c H locs cells slots Q (F0 m (pc + 3) ls rest)) : W p l e R s m args below meth c H locs cells slots Q (F0 m pc ls (.int (nI a) :: rest)) := lv_if_lt hexec hb hdg ht (fun h => absurd h (nI_pos ha)) (fun _ => kf)
theorem lw_iald (hexec : p.tables.exec = Jvm.exec) (hb : c.code = cc) (hK : sg_K D Y s) (hP : sg_P D σ H) {n N q : Nat} {f : Nat → Int32} (h : σ n = some (q, .inl (Y 0, N, .inl f))) {k : Nat} (hk : k < N) {v : Int32} (hv : f k = v) (hdg : decode cc pc = .ok (.iaload, 1)) (kk : W p l e R s m args below meth c H locs cells slots Q (F0 m (pc + 1) ls (.int v :: rest))) (hN : N < 2 ^ 31 := by decide) : W p l e R s m args below meth c H locs cells slots Q (F0 m pc ls (.int (nI k) :: .ref q :: rest)) := by
  refine va_iald hexec hb hK (sg_one hP h) 0 0 rfl rfl (vp_in_nI hk hN) hdg ?_
  rw [nI_clamp (by omega), hv]
  exact kk
theorem lw_lald (hexec : p.tables.exec = Jvm.exec) (hb : c.code = cc) (hK : sg_K D Y s) (hP : sg_P D σ H) {n N q : Nat} {f : Nat → Int64} (h : σ n = some (q, .inl (Y 1, N, .inr (.inl f)))) {k : Nat} (hk : k < N) {v : Int64} (hv : f k = v) (hdg : decode cc pc = .ok (.laload, 1)) (kk : W p l e R s m args below meth c H locs cells slots Q (F0 m (pc + 1) ls (.long v :: rest))) (hN : N < 2 ^ 31 := by decide) : W p l e R s m args below meth c H locs cells slots Q (F0 m pc ls (.int (nI k) :: .ref q :: rest)) := by
  refine va_lald hexec hb hK (sg_one hP h) 0 1 rfl rfl (vp_in_nI hk hN) hdg ?_
  rw [nI_clamp (by omega), hv]
  exact kk
theorem lw_iast (hexec : p.tables.exec = Jvm.exec) (hb : c.code = cc) (hK : sg_K D Y s) (hP : sg_P D σ H) (hD : sg_D A σ) (hS : va_S A H0 H locs) {n N q : Nat} {f : Nat → Int32} (h : σ n = some (q, .inl (Y 0, N, .inl f))) {k : Nat} {x : Int32} (hk : k < N) (hdg : decode cc pc = .ok (.iastore, 1))
    (kk : ∀ (H1 : Heap) (locs1 : List Loc), sg_P D (sg_u σ n q (.inl (Y 0, N, .inl (upd f k x)))) H1 → sg_D A (sg_u σ n q (.inl (Y 0, N, .inl (upd f k x)))) → va_S A H0 H1 locs1 → W p l e R s m args below meth c H1 locs1 cells slots Q (F0 m (pc + 1) ls rest)) (hN : N < 2 ^ 31 := by decide) : W p l e R s m args below meth c H locs cells slots Q (F0 m pc ls (.int x :: .int (nI k) :: .ref q :: rest)) := by
  refine sg_iast hexec hb hK hP hD hS h (vp_in_nI hk hN) hdg (fun H1 locs1 h1 h2 h3 => ?_)
  rw [nI_clamp (by omega)] at h1 h2
  exact kk H1 locs1 h1 h2 h3
theorem lw_last (hexec : p.tables.exec = Jvm.exec) (hb : c.code = cc) (hK : sg_K D Y s) (hP : sg_P D σ H) (hD : sg_D A σ) (hS : va_S A H0 H locs) {n N q : Nat} {f : Nat → Int64} (h : σ n = some (q, .inl (Y 1, N, .inr (.inl f)))) {k : Nat} {x : Int64} (hk : k < N) (hdg : decode cc pc = .ok (.lastore, 1))
    (kk : ∀ (H1 : Heap) (locs1 : List Loc), sg_P D (sg_u σ n q (.inl (Y 1, N, .inr (.inl (vp_updL f k x))))) H1 → sg_D A (sg_u σ n q (.inl (Y 1, N, .inr (.inl (vp_updL f k x))))) → va_S A H0 H1 locs1 → W p l e R s m args below meth c H1 locs1 cells slots Q (F0 m (pc + 1) ls rest)) (hN : N < 2 ^ 31 := by decide) : W p l e R s m args below meth c H locs cells slots Q (F0 m pc ls (.long x :: .int (nI k) :: .ref q :: rest)) := by
  refine sg_last hexec hb hK hP hD hS h (vp_in_nI hk hN) hdg (fun H1 locs1 h1 h2 h3 => ?_)
  rw [nI_clamp (by omega)] at h1 h2
  exact kk H1 locs1 h1 h2 h3
theorem lw_i2l (hexec : p.tables.exec = Jvm.exec) (hb : c.code = cc) (hdg : decode cc pc = .ok (.i2l, 1)) (ha : a < 2 ^ 31) (k : W p l e R s m args below meth c H locs cells slots Q (F0 m (pc + 1) ls (.long (lN a) :: rest))) : W p l e R s m args below meth c H locs cells slots Q (F0 m pc ls (.int (nI a) :: rest)) := lv_i2l hexec hb hdg rfl (by rw [nI_l ha]; exact k)
theorem lw_lmul (hexec : p.tables.exec = Jvm.exec) (hb : c.code = cc) (hdg : decode cc pc = .ok (.lmul, 1)) (k : W p l e R s m args below meth c H locs cells slots Q (F0 m (pc + 1) ls (.long (lN (a * b)) :: rest))) : W p l e R s m args below meth c H locs cells slots Q (F0 m pc ls (.long (lN b) :: .long (lN a) :: rest)) := lv_lmul hexec hb hdg (by rw [lN_mul]; exact k)
theorem lw_ladd (hexec : p.tables.exec = Jvm.exec) (hb : c.code = cc) (hdg : decode cc pc = .ok (.ladd, 1)) (k : W p l e R s m args below meth c H locs cells slots Q (F0 m (pc + 1) ls (.long (lN (a + b)) :: rest))) : W p l e R s m args below meth c H locs cells slots Q (F0 m pc ls (.long (lN b) :: .long (lN a) :: rest)) := lv_ladd hexec hb hdg (by rw [lN_add]; exact k)
/-- a natural int on top gets another name -/
theorem lw_nat {x : Int32} (hx : x = nI a) (k : W p l e R s m args below meth c H locs cells slots Q (F0 m pc ls (.int (nI a) :: rest))) : W p l e R s m args below meth c H locs cells slots Q (F0 m pc ls (.int x :: rest)) := hx ▸ k
theorem lw_int {x y : Int32} (hx : x = y) (k : W p l e R s m args below meth c H locs cells slots Q (F0 m pc ls (.int y :: rest))) : W p l e R s m args below meth c H locs cells slots Q (F0 m pc ls (.int x :: rest)) := hx ▸ k
theorem lw_long {x y : Int64} (hx : x = y) (k : W p l e R s m args below meth c H locs cells slots Q (F0 m pc ls (.long y :: rest))) : W p l e R s m args below meth c H locs cells slots Q (F0 m pc ls (.long x :: rest)) := hx ▸ k
end LWR
/-! 'some': a number below n -/
theorem ushr2 (x : Int32) : ∃ w : Nat, w < 2 ^ 31 ∧ (x.toUInt32 >>> ((2 : Int32).toUInt32 &&& Int32.toUInt32 31)).toInt32 = nI w := by
  refine ⟨x.toBitVec.toNat / 2 ^ 2, ?_, ?_⟩
  · have := x.toBitVec.isLt
    omega
  · have h := pk_ushr x 2 2 (by decide)
    have h2 : (nI (x.toBitVec.toNat / 2 ^ 2)).toBitVec.toNat = x.toBitVec.toNat / 2 ^ 2 := pk_tn (by have := x.toBitVec.isLt; omega)
    exact Int32.toBitVec_inj.mp (BitVec.eq_of_toNat_eq (h.trans h2.symm))
theorem c_L_some (l : Launch) (D : va_G) (Y : Nat → ClassId) (σ : sg_W) (sz : Nat) (v : Int32) (n : Nat) (hn : 0 < n) (hn2 : n < 2 ^ 31) : Met l yL_some wsL_some ({ frames := 0, cells := 0, slots := 0, locals := 0 } : Room) (va_Pc [.int v, .int (nI n)] (sg_U D Y σ sz)) (va_Qi (fun r σ' => ∃ w : Nat, w < n ∧ r = nI w ∧ σ = σ') (sg_B D σ sz) (sg_A σ sz)) 0 0 (sg_A σ sz) := by
  refine sg_met (cc := cL_some) (maxL := 2) (ret := (some .int)) (by decide) rfl (Nat.le_of_ble_eq_true rfl) ?_
  intro p e s m below meth c ls hx hb hml hr hown hts hlocks hnm hP hK hD hN hX hA hS hsz hl
  have hl : lv_has ls 2 [(0, .int v), (1, .int (nI n))] := hl
  obtain ⟨w, hw, ew⟩ := ushr2 v
  refine lv_iload_n hx hb dL_some_0 rfl (lv_at hl 0 rfl) ?_
  refine lv_iconst (v := 2) hx hb dL_some_1 (by decide) ?_
  refine lv_iushr (v := nI w) hx hb dL_some_2 ew ?_
  refine lv_iload_n hx hb dL_some_3 rfl (lv_at hl 1 rfl) ?_
  refine lw_irem hx hb dL_some_4 hw hn hn2 ?_
  exact sg_iret hx hb hr rfl hlocks hP hD hS (Nat.le_of_ble_eq_true rfl) (Nat.le_of_ble_eq_true rfl) dL_some_5 ⟨w % n, Nat.mod_lt _ hn, rfl, rfl⟩
