section
variable {p : Program} {l : Launch} {e : Env} {R : Room} {s : State} {m : MethodId} {args : Array Value} {below : List Frame} {meth : Method} {c : Code} {H : Heap} {locs : List Loc} {cells slots : Nat} {Q : State → Prop}
variable {mc ms : Nat} {free : Addr → Prop} {A0 A1 : Nat → Prop} {H0 : Heap} {a : Array Value} {pc : Nat} {ls : Array Slot} {st0 rest : List Value}
theorem vx_callq {S SX : Type} {post : Option Nat → S → Prop} {px : SX → Prop} {B : S → State → Prop} {BX : String → SX → State → Prop} {AX : Nat → Prop} (hr : vx_Run p l e R s m args below meth c H locs cells slots mc ms (F0 m pc ls st0) rest (va_Qq post B A1 a) (vx_X px BX AX) free) (hS : va_S A0 H0 H locs) (hA : ∀ q, q < H.size → A1 q → A0 q) (hf : ∀ q, free q → A0 q) (hAX : ∀ q, q < H.size → AX q → A0 q)
    (kx : ∀ (E : String) (ce : Cell) (q9 : Addr) (u : SX) (t : State) (H1 : Heap) (locs1 : List Loc), t.heap = H1 → s.vm.Alike t.vm → px u → BX E u t → H.size ≤ H1.size → (∀ q : Nat, q < H.size → ¬ AX q → H1[q]? = H[q]?) → va_S A0 H0 H1 locs1 → H1[q9]? = some ce → ce.vm = .none → s.vm.findClass E = some ce.cls → vx_W p l e R s m args below meth c H1 locs1 (cells + mc) (slots + ms) Q (F0 m pc ls rest) q9)
    (kk : ∀ (r : Option Nat) (u : S) (t : State) (H1 : Heap) (locs1 : List Loc), t.heap = H1 → s.vm.Alike t.vm → post r u → B u t → H.size ≤ H1.size → (∀ q : Nat, q < H.size → ¬ A1 q → H1[q]? = H[q]?) → va_S A0 H0 H1 locs1 → W p l e R s m args below meth c H1 locs1 (cells + mc) (slots + ms) Q (F0 m (pc + 3) ls (va_rf r :: rest))) : W p l e R s m args below meth c H locs cells slots Q (F0 m pc ls st0) := by
  intro T hT X
  rcases hr T hT X with ⟨v, st₀, t, T', L, h0, X', hL, e1, e2, ⟨⟨r, u, hv, hp, hb⟩, hF⟩, st⟩ | ⟨q, st₀, t, T', L, E, ce, h0, X', hL, e1, e2, ⟨u, hp, hb, hF⟩, hce, hcv, hcl, st⟩
  · cases hv
    obtain ⟨k1, k2, k3⟩ := vx_keep h0 e1 hS hA hf hL hF
    obtain ⟨t2, a1, b1⟩ := kk r u t T'.heap (locs ++ L) e1.symm (by rw [← e2]; exact X'.warmed.alike) hp hb k1 k2 k3 T' rfl X'
    exact ⟨t2, st t2 a1, b1⟩
  · obtain ⟨k1, k2, k3⟩ := vx_keep h0 e1 hS hAX hf hL hF
    obtain ⟨t2, a1, b1⟩ := kx E ce q u t T'.heap (locs ++ L) e1.symm (by rw [← e2]; exact X'.warmed.alike) hp hb k1 k2 k3 (by rw [e1]; exact hce) hcv hcl T' rfl X'
    exact ⟨t2, st.trans a1, b1⟩
end
/-! throwing, over worlds by names: a throw leaves the world as it is -/
def sg_T9 (D : va_G) (σ : sg_W) (sz : Nat) (px : String → Prop) : String → State → State → Prop := vx_X (fun _ : Unit => True) (fun E _ t => px E ∧ sg_P D σ t.heap) (sg_A σ sz)
section SX
variable {p : Program} {l : Launch} {e : Env} {R : Room} {s : State} {m : MethodId} {args : Array Value} {below : List Frame} {meth : Method} {c : Code} {H : Heap} {locs : List Loc} {cells slots : Nat} {Q : State → Prop}
variable {cc : ByteArray} {pc : Nat} {ls : Array Slot} {rest : List Value} {D : va_G} {Y : Nat → ClassId} {A : Nat → Prop} {σ : sg_W} {H0 : Heap} {mc ms : Nat} {st0 : List Value} {a : Array Value} {px : String → Prop}
theorem sg_throw {Qc : Array Value → State → Outcome → State → Prop} {own cls text : String} {names : List String} {ik is ic sz : Nat} {B : List Cond} (hexec : p.tables.exec = Jvm.exec) (hb : c.code = cc) (hfl : l.stackTraces = false) (hown : s.vm.findClass own = some m.cls) (hcls : Bundle.fit cls = true) (hnames : ∀ n ∈ names, Bundle.fit n = true)
    (hk : (Cond.classLink own ik cls).before args s = true) (hini : (Cond.initialized cls).before args s = true) (hstr : ∃ sa, vk_R own is text sa s) (h1 : ∀ w ∈ (vx_atS own ic cls names).filter goodWord, w.before args s = true) (h2 : ∀ w ∈ (vx_atS own ic cls names).filter (fun w => !goodWord w), w ∈ B) (h3 : ∀ w ∈ B, w.before args s = true)
    (hgood : ∀ w ∈ Cond.classLink own ik cls :: Cond.initialized cls :: vx_atS own ic cls names, vx_ot w = true) (hX : sg_X (sg_A σ sz) s s.heap) (hP : sg_P D σ H) (hS : va_S (sg_A σ sz) s.heap H locs) (hsize : ls.size = c.maxLocals)
    (d0 : decode cc pc = .ok (.new ik, 3)) (d3 : decode cc (pc + 3) = .ok (.dup, 1)) (d4 : decode cc (pc + 4) = .ok (.ldc is, 2)) (d6 : decode cc (pc + 6) = .ok (.invokespecial ic, 3)) (d9 : decode cc (pc + 9) = .ok (.athrow, 1)) (hex : ∀ x ∈ c.exceptionTable.toList, False)
    (hRframes : names.length + 3 < R.frames) (hRlocals : (rest.map fun v => v.category).sum + (13 * (names.length + 1) + 43) ≤ R.locals) (hRcells : cells + 1 ≤ R.cells) (hRslots : slots + 6 ≤ R.slots) (hlocks : meth.locks = false) (hc : cells + 1 ≤ mc) (hs : slots + 6 ≤ ms) (hpx : px cls) :
    W p l e R s m args below meth c H locs cells slots (vx_MQ below Qc (sg_T9 D σ sz px) args s mc ms (sg_A σ sz)) (F0 m pc ls rest) := by
  obtain ⟨sa, hsa⟩ := hstr
  refine vx_throwS hexec hb hfl hown hcls hnames hk hini hsa (vx_hat h1 h2 h3) hgood hX.1 hX.2 hS hsize d0 d3 d4 d6 d9 (fun x hx => (hex x hx).elim) hRframes hRlocals hRcells hRslots hlocks (fun t hvm hsz hq => ?_) hS.2.2 hc hs
  refine ⟨(), trivial, ⟨hpx, fun n q h => (hP n q h).kept (hq q.1 (hP n q h).lt)⟩, ⟨Nat.le_trans hS.1 hsz, fun q h4 h5 => (hq q (Nat.lt_of_lt_of_le h4 hS.1)).trans (hS.2.1 q h4 h5)⟩⟩
theorem sg_xout {Qc : Array Value → State → Outcome → State → Prop} {sz : Nat} {E : String} {ce : Cell} {q : Addr} (hex : ∀ x ∈ c.exceptionTable.toList, False) (hlocks : meth.locks = false) (hcell : H[q]? = some ce) (hv : ce.vm = .none) (hcl : s.vm.findClass E = some ce.cls) (hP : sg_P D σ H) (hS : va_S (sg_A σ sz) s.heap H locs) (hc : cells ≤ mc) (hs : slots ≤ ms) (hpx : px E) :
    vx_W p l e R s m args below meth c H locs cells slots (vx_MQ below Qc (sg_T9 D σ sz px) args s mc ms (sg_A σ sz)) (F0 m pc ls rest) q :=
  vx_out (fun x hx => (hex x hx).elim) hlocks hcell hv hcl (fun t ht _ => ⟨(), trivial, ⟨hpx, by rw [ht]; exact hP⟩, hS.F ht⟩) hS.2.2 hc hs
theorem sg_xcalli {Post : Int32 → sg_W → Prop} (hD : sg_D A σ) (hS : va_S A H0 H locs) (hA : ∀ q, H0.size ≤ q → A q) (hr : vx_Run p l e R s m args below meth c H locs cells slots mc ms (F0 m pc ls st0) rest (va_Qi Post (sg_B D σ H.size) (sg_A σ H.size) a) (sg_T9 D σ H.size px) (sg_A σ H.size))
    (kx : ∀ (E : String) (ce : Cell) (q9 : Addr) (H1 : Heap) (locs1 : List Loc), px E → sg_P D σ H1 → sg_D A σ → va_S A H0 H1 locs1 → H1[q9]? = some ce → ce.vm = .none → s.vm.findClass E = some ce.cls → vx_W p l e R s m args below meth c H1 locs1 (cells + mc) (slots + ms) Q (F0 m pc ls rest) q9)
    (kk : ∀ (r : Int32) (σ' : sg_W) (H1 : Heap) (locs1 : List Loc), Post r σ' → sg_P D σ' H1 → sg_D A σ' → va_S A H0 H1 locs1 → W p l e R s m args below meth c H1 locs1 (cells + mc) (slots + ms) Q (F0 m (pc + 3) ls (.int r :: rest))) : W p l e R s m args below meth c H locs cells slots Q (F0 m pc ls st0) := by
  have hsub := sg_A.sub hD (fun q h => hA q (Nat.le_trans hS.1 h))
  refine vx_calli hr hS (fun q _ h => hsub q h) hsub (fun q _ h => hsub q h) (fun E ce q9 u t H1 locs1 ht hvm hw hB hz hk hS1 hce hcv hcl => ?_) (fun r σ' t H1 locs1 ht hvm hw hB hz hk hS1 => ?_)
  · exact kx E ce q9 H1 locs1 hB.1 (by rw [← ht]; exact hB.2) hD hS1 hce hcv hcl
  · obtain ⟨h1, h2⟩ := sg_behind hD hS hA ht hB
    exact kk r σ' H1 locs1 hw h1 h2 hS1
theorem sg_xcalll {Post : Int64 → sg_W → Prop} (hD : sg_D A σ) (hS : va_S A H0 H locs) (hA : ∀ q, H0.size ≤ q → A q) (hr : vx_Run p l e R s m args below meth c H locs cells slots mc ms (F0 m pc ls st0) rest (va_Ql Post (sg_B D σ H.size) (sg_A σ H.size) a) (sg_T9 D σ H.size px) (sg_A σ H.size))
    (kx : ∀ (E : String) (ce : Cell) (q9 : Addr) (H1 : Heap) (locs1 : List Loc), px E → sg_P D σ H1 → sg_D A σ → va_S A H0 H1 locs1 → H1[q9]? = some ce → ce.vm = .none → s.vm.findClass E = some ce.cls → vx_W p l e R s m args below meth c H1 locs1 (cells + mc) (slots + ms) Q (F0 m pc ls rest) q9)
    (kk : ∀ (r : Int64) (σ' : sg_W) (H1 : Heap) (locs1 : List Loc), Post r σ' → sg_P D σ' H1 → sg_D A σ' → va_S A H0 H1 locs1 → W p l e R s m args below meth c H1 locs1 (cells + mc) (slots + ms) Q (F0 m (pc + 3) ls (.long r :: rest))) : W p l e R s m args below meth c H locs cells slots Q (F0 m pc ls st0) := by
  have hsub := sg_A.sub hD (fun q h => hA q (Nat.le_trans hS.1 h))
  refine vx_calll hr hS (fun q _ h => hsub q h) hsub (fun q _ h => hsub q h) (fun E ce q9 u t H1 locs1 ht hvm hw hB hz hk hS1 hce hcv hcl => ?_) (fun r σ' t H1 locs1 ht hvm hw hB hz hk hS1 => ?_)
  · exact kx E ce q9 H1 locs1 hB.1 (by rw [← ht]; exact hB.2) hD hS1 hce hcv hcl
  · obtain ⟨h1, h2⟩ := sg_behind hD hS hA ht hB
    exact kk r σ' H1 locs1 hw h1 h2 hS1
theorem sg_xcallv {Post : sg_W → Prop} (hD : sg_D A σ) (hS : va_S A H0 H locs) (hA : ∀ q, H0.size ≤ q → A q) (hr : vx_Run p l e R s m args below meth c H locs cells slots mc ms (F0 m pc ls st0) rest (va_Qv Post (sg_B D σ H.size) (sg_A σ H.size) a) (sg_T9 D σ H.size px) (sg_A σ H.size))
    (kx : ∀ (E : String) (ce : Cell) (q9 : Addr) (H1 : Heap) (locs1 : List Loc), px E → sg_P D σ H1 → sg_D A σ → va_S A H0 H1 locs1 → H1[q9]? = some ce → ce.vm = .none → s.vm.findClass E = some ce.cls → vx_W p l e R s m args below meth c H1 locs1 (cells + mc) (slots + ms) Q (F0 m pc ls rest) q9)
    (kk : ∀ (σ' : sg_W) (H1 : Heap) (locs1 : List Loc), Post σ' → sg_P D σ' H1 → sg_D A σ' → va_S A H0 H1 locs1 → W p l e R s m args below meth c H1 locs1 (cells + mc) (slots + ms) Q (F0 m (pc + 3) ls rest)) : W p l e R s m args below meth c H locs cells slots Q (F0 m pc ls st0) := by
  have hsub := sg_A.sub hD (fun q h => hA q (Nat.le_trans hS.1 h))
  refine vx_callv hr hS (fun q _ h => hsub q h) hsub (fun q _ h => hsub q h) (fun E ce q9 u t H1 locs1 ht hvm hw hB hz hk hS1 hce hcv hcl => ?_) (fun σ' t H1 locs1 ht hvm hw hB hz hk hS1 => ?_)
  · exact kx E ce q9 H1 locs1 hB.1 (by rw [← ht]; exact hB.2) hD hS1 hce hcv hcl
  · obtain ⟨h1, h2⟩ := sg_behind hD hS hA ht hB
    exact kk σ' H1 locs1 hw h1 h2 hS1
theorem sg_xcallq {Post : Option Nat → sg_W → Prop} (hD : sg_D A σ) (hS : va_S A H0 H locs) (hA : ∀ q, H0.size ≤ q → A q) (hr : vx_Run p l e R s m args below meth c H locs cells slots mc ms (F0 m pc ls st0) rest (va_Qq Post (sg_B D σ H.size) (sg_A σ H.size) a) (sg_T9 D σ H.size px) (sg_A σ H.size))
    (kx : ∀ (E : String) (ce : Cell) (q9 : Addr) (H1 : Heap) (locs1 : List Loc), px E → sg_P D σ H1 → sg_D A σ → va_S A H0 H1 locs1 → H1[q9]? = some ce → ce.vm = .none → s.vm.findClass E = some ce.cls → vx_W p l e R s m args below meth c H1 locs1 (cells + mc) (slots + ms) Q (F0 m pc ls rest) q9)
    (kk : ∀ (r : Option Nat) (σ' : sg_W) (H1 : Heap) (locs1 : List Loc), Post r σ' → sg_P D σ' H1 → sg_D A σ' → va_S A H0 H1 locs1 → W p l e R s m args below meth c H1 locs1 (cells + mc) (slots + ms) Q (F0 m (pc + 3) ls (va_rf r :: rest))) : W p l e R s m args below meth c H locs cells slots Q (F0 m pc ls st0) := by
  have hsub := sg_A.sub hD (fun q h => hA q (Nat.le_trans hS.1 h))
  refine vx_callq hr hS (fun q _ h => hsub q h) hsub (fun q _ h => hsub q h) (fun E ce q9 u t H1 locs1 ht hvm hw hB hz hk hS1 hce hcv hcl => ?_) (fun r σ' t H1 locs1 ht hvm hw hB hz hk hS1 => ?_)
  · exact kx E ce q9 H1 locs1 hB.1 (by rw [← ht]; exact hB.2) hD hS1 hce hcv hcl
  · obtain ⟨h1, h2⟩ := sg_behind hD hS hA ht hB
    exact kk r σ' H1 locs1 hw h1 h2 hS1
end SX
