/-! THE LAW'S HELPERS: they catch what the class throws -/
def lh_N (U : State) : Prop := va_Nc "java/lang/IllegalArgumentException" "java/lang/IndexOutOfBoundsException" U ∧ va_Nc "java/lang/IllegalStateException" "java/lang/IndexOutOfBoundsException" U ∧ va_Nc "java/lang/IllegalStateException" "java/lang/IllegalArgumentException" U
theorem lh_N.moved {u U : State} (hvm : u.vm.Alike U.vm) (h : lh_N u) : lh_N U := ⟨va_Nc.moved hvm h.1, va_Nc.moved hvm h.2.1, va_Nc.moved hvm h.2.2⟩
def lh_U (D : va_G) (Y : Nat → ClassId) (σ : sg_W) (sz : Nat) (U : State) : Prop := sg_U D Y σ sz U ∧ lh_N U
theorem lh_blind {D : va_G} {Y : Nat → ClassId} {σ : sg_W} {sz : Nat} {av : List Value} : FrameBlind (va_Pc av (lh_U D Y σ sz)) := fun a U g mk q => by
  obtain ⟨q0, q1, q2⟩ := q
  have h := sg_blind (D := D) (Y := Y) (σ := σ) (sz := sz) (av := av) a U g mk ⟨q0, q1⟩
  exact ⟨h.1, h.2, lh_N.moved (u := U) (U := U.calling g mk a) (Vm.Alike.refl U.vm) q2⟩
section
variable {p : Program} {l : Launch} {e : Env} {R : Room} {s : State} {m : MethodId} {args : Array Value} {below : List Frame} {meth : Method} {c : Code} {H : Heap} {locs : List Loc} {cells slots : Nat} {Q : State → Prop}
variable {D : va_G} {Y : Nat → ClassId} {A : Nat → Prop} {σ : sg_W}
theorem lh_preS {av : List Value} (hK : sg_K D Y s) (hP : sg_P D σ H) (hD : sg_D A σ) (hN : sg_N s) (hC : lh_N s) (hX : sg_X A s s.heap) (hS : va_S A s.heap H locs) (hA : ∀ q, s.heap.size ≤ q → A q) : PreS s H (va_Pc av (lh_U D Y σ H.size)) av :=
  ⟨lh_blind, fun U hU hW => ⟨(sg_pre (av := av) hK hP hD hN hX hS hA U hU hW).1, (sg_pre (av := av) hK hP hD hN hX hS hA U hU hW).2, hC.moved hW.alike⟩⟩
end
theorem lh_met {l : Launch} {y : MethodName} {ws ws' : List Cond} {rm : Room} {av : List Value} {Qc : Array Value → State → Outcome → State → Prop} {XC : String → State → State → Prop} {mc ms : Nat} {cc : ByteArray} {maxL : Nat} {ret : Option FieldType} {hh : List (Nat × Nat × Nat × Nat)} {D : va_G} {Y : Nat → ClassId} {σ : sg_W} {sz : Nat} (hy : plainName y.cls = true) (hw : ws = Cond.codeWith y cc maxL ret hh :: ws') (hlen : (lg_sl av).length ≤ maxL)
    (body : ∀ (p : Program) (e : Env) (s : State) (m : MethodId) (below : List Frame) (meth : Method) (c : Code) (ls : Array Slot), p.tables.exec = Jvm.exec → c.code = cc → c.maxLocals = maxL → c.exceptionTable.toList = tableOf hh → meth.sig.returnType = ret → s.vm.findClass y.cls = some m.cls → (∀ w ∈ ws, w.before av.toArray s = true) → meth.locks = false → meth.name = y.name →
      sg_P D σ s.heap → sg_K D Y s → sg_D (sg_A σ sz) σ → sg_N s → lh_N s → sg_X (sg_A σ sz) s s.heap → (∀ q, s.heap.size ≤ q → sg_A σ sz q) → va_S (sg_A σ sz) s.heap s.heap [] → s.heap.size = sz → lv_has ls maxL (lv_args 0 av) →
      W p l e rm s m av.toArray below meth c s.heap [] 0 0 (vx_MQ below Qc XC av.toArray s mc ms (sg_A σ sz)) (F0 m 0 ls [])) : vx_Met l y ws rm (va_Pc av (lh_U D Y σ sz)) Qc XC mc ms (sg_A σ sz) := by
  refine vx_ofWH (cc := cc) (maxL := maxL) (ret := ret) (hh := hh) hy hw ?_
  intro p e s m args below meth c s₁ B hml hv
  obtain ⟨rfl, ⟨hsz, hP, hK, hD0, hN, hX⟩, hC⟩ := hv
  rw [lg_entry_eq]
  have hts := atoms_spec (ws := ws) B.pre
  exact body p e s m below meth c _ B.exec B.bytes hml (vx_table (x := y) B (hts _ (by rw [hw]; exact List.mem_cons_self))) B.returns (findClass_of_methodNamed B.named) hts B.notSynchronized (name_of_methodNamed B.named B.method).1 hP hK hD0.self hN hC hX (fun q h => Or.inr (by rw [← hsz]; exact h)) va_S.rf hsz (lv_entry av hlen)
