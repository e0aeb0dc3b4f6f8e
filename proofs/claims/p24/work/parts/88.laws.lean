/-! THE LAW: its choices in one; its script's cell; its rows as they begin -/
theorem c_L_goes (l : Launch) (hfl : l.stackTraces = false) (D : va_G) (Y : Nat → ClassId) (σ : sg_W) (sz : Nat) (ad : Nat → Nat) (x : Nat) (G : ZG) (M : MS) (N t c : Nat) (y : Int32) (kd : Nat) (hkd : kd < 6) (hXX : CX Y x σ M N t c σ) (hG : ZF Y ad σ G σ) (hL : LR G M N t) (hc : c < 512) : Met l yL_goes wsL_goes ({ frames := 9, cells := 6, slots := 50, locals := 160 } : Room) (va_Pc [.ref x, .int (nI kd), .int y, .ref (ad 0), .ref (ad 1), .ref (ad 2), .ref (ad 3), .ref (ad 4), .ref (ad 5), .ref (ad 6), .ref (ad 7)] (lh_U D Y σ sz)) (va_Qi (fun r σ' => r = nI 1 ∧ LI Y x ad (c + 1) σ') (sg_B D σ sz) (sg_A σ sz)) 6 50 (sg_A σ sz) := by
  rcases (show kd = 0 ∨ kd = 1 ∨ kd = 2 ∨ kd = 3 ∨ kd = 4 ∨ kd = 5 by omega) with rfl | rfl | rfl | rfl | rfl | rfl
  · exact c_L_goes0 l hfl D Y σ sz ad x G M N t c y hXX hG hL hc
  · exact c_L_goes1 l hfl D Y σ sz ad x G M N t c y hXX hG hL hc
  · exact c_L_goes2 l hfl D Y σ sz ad x G M N t c y hXX hG hL hc
  · exact c_L_goes3 l hfl D Y σ sz ad x G M N t c y hXX hG hL hc
  · exact c_L_goes4 l hfl D Y σ sz ad x G M N t c y hXX hG hL hc
  · exact c_L_goes5 l hfl D Y σ sz ad x G M N t c y hXX hG hL hc
section
variable {p : Program} {l : Launch} {e : Env} {s : State} {m : MethodId} {below : List Frame} {meth : Method} {cd9 : Code}
theorem cell_walk {b L k sz : Nat} {xs : Nat → Int32} {ls : Array Slot} (hx : p.tables.exec = Jvm.exec) (hb : cd9.code = cL_cell) (hr : meth.sig.returnType = some .int) (hown : s.vm.findClass RL = some m.cls) (hts : ∀ w ∈ wsL_cell, w.before #[Value.ref b, Value.int (nI k)] s = true) (hlocks : meth.locks = false) (hsz : s.heap.size = sz) (hSc : va_X b L xs s s.heap) (hbl : b < s.heap.size) (hk : k < 2 ^ 31) (hL : L < 2 ^ 31) (hl : lv_has ls 2 [(0, .ref b), (1, .int (nI k))]) : W p l e ({ frames := 0, cells := 0, slots := 0, locals := 0 } : Room) s m #[Value.ref b, Value.int (nI k)] below meth cd9 s.heap [] 0 0 (MQ below (va_Qi (fun (_ : Int32) (_ : Unit) => True) (fun _ _ => True) (fun q : Nat => sz ≤ q)) #[Value.ref b, Value.int (nI k)] s 0 0 (fun q : Nat => sz ≤ q)) (F0 m 0 ls []) := by
  subst hsz
  have hS : va_S (fun q : Nat => s.heap.size ≤ q) s.heap s.heap [] := va_S.rf
  have hbA : ¬ (fun q : Nat => s.heap.size ≤ q) b := Nat.not_le.mpr hbl
  have hend : ∀ v : Int32, W p l e ({ frames := 0, cells := 0, slots := 0, locals := 0 } : Room) s m #[Value.ref b, Value.int (nI k)] below meth cd9 s.heap [] 0 0 (MQ below (va_Qi (fun (_ : Int32) (_ : Unit) => True) (fun _ _ => True) (fun q : Nat => s.heap.size ≤ q)) #[Value.ref b, Value.int (nI k)] s 0 0 (fun q : Nat => s.heap.size ≤ q)) (F0 m 24 ls [.int v]) := fun v => W.zret hx hb hr rfl (fun t ht _ => ⟨⟨v, (), rfl, trivial, trivial⟩, hS.F ht⟩) hS.2.2 dL_cell_24 hlocks
  refine lv_iload_n hx hb dL_cell_0 rfl (lv_at hl 1 rfl) ?_
  refine lv_aload_n hx hb dL_cell_1 rfl (lv_at hl 0 rfl) ?_
  refine va_slen hx hb hSc hbl hbA hS dL_cell_2 ?_
  refine lw_icmp_ge (tgt := 12) (a := k) (b := L) hx hb dL_cell_3 (by decide) hk hL (fun c3 => ?_) (fun c3 => ?_)
  · refine lv_ldc2 (v := 3266489917) hx hb hown (hts (.constantLong RL 7 (3266489917)) (by decide +kernel)) dL_cell_12 ?_
    refine lv_iload_n hx hb dL_cell_15 rfl (lv_at hl 1 rfl) ?_
    refine lv_bipush (v := nI 19) hx hb dL_cell_16 (by decide) ?_
    refine lv_iadd hx hb dL_cell_18 ?_
    refine lv_i2l hx hb dL_cell_19 rfl ?_
    refine lv_lmul hx hb dL_cell_20 ?_
    refine lv_iconst (v := 5) hx hb dL_cell_21 (by decide) ?_
    refine lv_lushr hx hb dL_cell_22 rfl ?_
    refine lv_topl (fun v22 _ => ?_)
    refine lv_l2i hx hb dL_cell_23 rfl ?_
    exact hend _
  · refine lv_aload_n hx hb dL_cell_6 rfl (lv_at hl 0 rfl) ?_
    refine lv_iload_n hx hb dL_cell_7 rfl (lv_at hl 1 rfl) ?_
    refine va_sld hx hb hSc hbl hbA hS (vp_in_nI (show k < L by omega) hL) dL_cell_8 ?_
    refine lv_goto (tgt := 24) hx hb dL_cell_9 (by decide) ?_
    exact hend _
end
def cl_U (b L : Nat) (xs : Nat → Int32) (sz : Nat) (U : State) : Prop := U.heap.size = sz ∧ va_X b L xs U U.heap ∧ b < sz
theorem cl_blind {b L sz : Nat} {xs : Nat → Int32} {av : List Value} : FrameBlind (va_Pc av (cl_U b L xs sz)) := fun a U g mk q => by
  obtain ⟨q0, q1, q2, q3⟩ := q
  exact ⟨q0, q1, va_X.moved (u := U) (U := U.calling g mk a) (Vm.Alike.refl U.vm) q2, q3⟩
theorem c_L_cell (l : Launch) (b L k sz : Nat) (xs : Nat → Int32) (hk : k < 2 ^ 31) (hL : L < 2 ^ 31) : Met l yL_cell wsL_cell ({ frames := 0, cells := 0, slots := 0, locals := 0 } : Room) (va_Pc [.ref b, .int (nI k)] (cl_U b L xs sz)) (va_Qi (fun (_ : Int32) (_ : Unit) => True) (fun _ _ => True) (fun q : Nat => sz ≤ q)) 0 0 (fun q : Nat => sz ≤ q) := by
  refine Met.ofW (cc := cL_cell) (maxL := 2) (ret := some .int) (by decide) rfl ?_
  intro p e s m args below meth c s₁ B hml hv
  obtain ⟨rfl, hsz, hSc, hbl⟩ := hv
  rw [lg_entry_eq]
  exact cell_walk B.exec B.bytes B.returns (findClass_of_methodNamed B.named) (atoms_spec (ws := wsL_cell) B.pre) B.notSynchronized hsz hSc (by rw [hsz]; exact hbl) hk hL (lv_entry [.ref b, .int (nI k)] (Nat.le_of_ble_eq_true rfl))
section
variable {p : Program} {l : Launch} {e : Env} {R : Room} {s : State} {m : MethodId} {args : Array Value} {below : List Frame} {meth : Method} {c : Code} {H : Heap} {locs : List Loc} {cells slots : Nat} {Q : State → Prop}
variable {pc : Nat} {ls : Array Slot} {rest : List Value} {D : va_G} {A : Nat → Prop} {σ : sg_W} {H0 : Heap}
/-- behind a call that writes nothing old -/
theorem cl_calli {mc ms : Nat} {st0 : List Value} {a : Array Value} (hP : sg_P D σ H) (hS : va_S A H0 H locs) (hA : ∀ q, H0.size ≤ q → A q) (hr : va_Run p l e R s m args below meth c H locs cells slots mc ms (F0 m pc ls st0) rest (va_Qi (fun (_ : Int32) (_ : Unit) => True) (fun _ _ => True) (fun q : Nat => H.size ≤ q) a) (fun q : Nat => H.size ≤ q))
    (kk : ∀ (r : Int32) (H1 : Heap) (locs1 : List Loc), sg_P D σ H1 → va_S A H0 H1 locs1 → W p l e R s m args below meth c H1 locs1 (cells + mc) (slots + ms) Q (F0 m (pc + 3) ls (.int r :: rest))) : W p l e R s m args below meth c H locs cells slots Q (F0 m pc ls st0) := by
  refine va_calli hr hS (fun q h1 h2 => absurd h2 (Nat.not_le.mpr h1)) (fun q h => hA q (Nat.le_trans hS.1 h)) (fun r u t H1 locs1 ht hvm hw hB hz hk hS1 => ?_)
  exact kk r H1 locs1 (fun n q h => (hP n q h).kept (hk q.1 (hP n q h).lt (Nat.not_le.mpr (hP n q h).lt))) hS1
end
/-- the law's rows as they are made -/
def adG (q0 q1 q2 q3 q4 q5 q6 q7 : Nat) (k : Nat) : Nat := if k = 0 then q0 else if k = 1 then q1 else if k = 2 then q2 else if k = 3 then q3 else if k = 4 then q4 else if k = 5 then q5 else if k = 6 then q6 else q7
def zNew : ZG := (fun _ _ => 0, fun _ => 0)
theorem zNew_ZF {Y : Nat → ClassId} {σ : sg_W} {q0 q1 q2 q3 q4 q5 q6 q7 : Nat} : ZF Y (adG q0 q1 q2 q3 q4 q5 q6 q7) σ zNew (sg_u (sg_u (sg_u (sg_u (sg_u (sg_u (sg_u (sg_u σ (100 + 0) q0 (.inl (Y 0, 3, .inl (fun _ => 0)))) (100 + 1) q1 (.inl (Y 0, 60, .inl (fun _ => 0)))) (100 + 2) q2 (.inl (Y 0, 28, .inl (fun _ => 0)))) (100 + 3) q3 (.inl (Y 0, 40, .inl (fun _ => 0)))) (100 + 4) q4 (.inl (Y 0, 40, .inl (fun _ => 0)))) (100 + 5) q5 (.inl (Y 0, 40, .inl (fun _ => 0)))) (100 + 6) q6 (.inl (Y 0, 40, .inl (fun _ => 0)))) (100 + 7) q7 (.inl (Y 1, 16, .inr (.inl (fun _ => 0))))) := by
  refine ⟨fun a ha => ?_, ?_, fun n hn => ?_⟩
  · rcases (show a = 0 ∨ a = 1 ∨ a = 2 ∨ a = 3 ∨ a = 4 ∨ a = 5 ∨ a = 6 by omega) with rfl | rfl | rfl | rfl | rfl | rfl | rfl
    · rw [sg_un (by decide), sg_un (by decide), sg_un (by decide), sg_un (by decide), sg_un (by decide), sg_un (by decide), sg_un (by decide), sg_ue]; rfl
    · rw [sg_un (by decide), sg_un (by decide), sg_un (by decide), sg_un (by decide), sg_un (by decide), sg_un (by decide), sg_ue]; rfl
    · rw [sg_un (by decide), sg_un (by decide), sg_un (by decide), sg_un (by decide), sg_un (by decide), sg_ue]; rfl
    · rw [sg_un (by decide), sg_un (by decide), sg_un (by decide), sg_un (by decide), sg_ue]; rfl
    · rw [sg_un (by decide), sg_un (by decide), sg_un (by decide), sg_ue]; rfl
    · rw [sg_un (by decide), sg_un (by decide), sg_ue]; rfl
    · rw [sg_un (by decide), sg_ue]; rfl
  · rw [sg_ue]; rfl
  · rw [sg_un (by omega), sg_un (by omega), sg_un (by omega), sg_un (by omega), sg_un (by omega), sg_un (by omega), sg_un (by omega), sg_un (by omega)]
theorem LR_new : LR (vI zNew 0 2 (nI 2500000)) mNew 0 0 := by
  refine ⟨⟨by decide, ?_, ?_, ?_⟩, fun x hx => absurd hx (Nat.not_lt_zero x), fun i hi => ?_, fun q hq => ⟨rfl, rfl, fun h => absurd rfl h⟩, fun i hi => ⟨rfl, rfl, rfl, rfl⟩, fun q hq => ⟨0, by decide, ?_⟩⟩
  · rw [gI_vn (by decide)]; rfl
  · rw [gI_vn (by decide)]; rfl
  · rw [gI_vs]; rfl
  · rw [gI_vo (by decide)]; exact ⟨rfl, rfl, rfl, rfl, rfl, rfl, rfl⟩
  · rw [gI_vo (by decide)]; rfl
