section NEST
/-- the links to nest mates' constructors -/
def NS (U : State) : Prop := va_Nw (.methodLinkNest RX1 11 yX3_init "TwinFinder") U ∧ va_Nw (.methodLinkNest RX8 11 yX7_init "TwinFinder") U ∧ va_Nw (.methodLinkNest RX8 18 yX6_init "TwinFinder") U ∧ va_Nw (.methodLinkNest RX8 32 yX5_init "TwinFinder") U ∧ va_Nw (.methodLinkNest RX8 39 yX2_init "TwinFinder") U ∧ va_Nw (.methodLinkNest RX8 46 yX1_init "TwinFinder") U
theorem NS.warm {s U : State} (hW : s.WarmedH U.vm) (h : NS s) : NS U := ⟨va_Nw.warmM hW h.1, va_Nw.warmM hW h.2.1, va_Nw.warmM hW h.2.2.1, va_Nw.warmM hW h.2.2.2.1, va_Nw.warmM hW h.2.2.2.2.1, va_Nw.warmM hW h.2.2.2.2.2⟩
theorem NS.same {s U : State} (hW : s.vm = U.vm) (h : NS s) : NS U := ⟨va_Nw.same rfl hW h.1, va_Nw.same rfl hW h.2.1, va_Nw.same rfl hW h.2.2.1, va_Nw.same rfl hW h.2.2.2.1, va_Nw.same rfl hW h.2.2.2.2.1, va_Nw.same rfl hW h.2.2.2.2.2⟩
def CVN (D : va_G) (tys : List (ClassId × FieldType)) (l : Launch) (y : MethodName) (w : List Cond) (rm : Room) (av : List Value) (ws : va_W) (post : va_W → Prop) : Prop :=
  ∀ sz : Nat, Met l y w rm (va_Pc av (fun U => Pw D tys ws sz U ∧ NS U)) (va_Qv post (Bw D tys (va_A ws sz)) (va_A ws sz)) rm.cells rm.slots (va_A ws sz)
theorem pwn_blind {D : va_G} {tys : List (ClassId × FieldType)} {av : List Value} {ws : va_W} {sz : Nat} : FrameBlind (va_Pc av (fun U => Pw D tys ws sz U ∧ NS U)) := fun a U g mk q => by
  obtain ⟨q0, ⟨q1, qP, qK, qD⟩, qN⟩ := q
  exact ⟨q0, ⟨q1, qP, va_K.moved (u := U) (U := U.calling g mk a) (Vm.Alike.refl U.vm) qK, qD⟩, NS.same (s := U) (U := U.calling g mk a) rfl qN⟩
theorem CVN.of {D : va_G} {tys : List (ClassId × FieldType)} {l : Launch} {y : MethodName} {w w' : List Cond} {rm : Room} {av : List Value} {ws : va_W} {cc : ByteArray} {maxL : Nat} {ret : Option FieldType} {post : va_W → Prop} (hy : plainName y.cls = true) (hw : w = Cond.code y cc maxL ret :: w') (hn : (lg_sl av).length ≤ maxL)
    (body : ∀ (p : Program) (e : Env) (s : State) (m : MethodId) (below : List Frame) (meth : Method) (c : Code) (A : Nat → Prop), Cx p s m meth c y cc ret maxL av.toArray w → va_K D vwCl tys s → va_P D vwCl ws s.heap → va_D A ws → (∀ q : Nat, s.heap.size ≤ q → A q) → va_S A s.heap s.heap [] → NS s → ∀ ls : Array Slot, lv_has ls maxL (lv_args 0 av) → W p l e rm s m av.toArray below meth c s.heap [] 0 0 (ZV D tys post below av s rm.cells rm.slots A) (F0 m 0 ls [])) : CVN D tys l y w rm av ws post := by
  intro sz
  refine Met.ofW (cc := cc) (maxL := maxL) (ret := ret) hy hw ?_
  intro p e s m args below meth c s₁ B hml hv
  obtain ⟨rfl, ⟨rfl, hP, hK, hD0⟩, hN⟩ := hv
  have hl := lv_entry av (n := maxL) hn
  rw [lg_entry_eq]
  exact body p e s m below meth c _ ⟨B.exec, B.bytes, B.returns, hml, atoms_spec (ws := w) B.pre, findClass_of_methodNamed B.named, B.notSynchronized, (name_of_methodNamed B.named B.method).1⟩ hK hP (hD0.self (sz := s.heap.size)) (fun q h => Or.inr h) va_S.rf hN _ hl
end NEST
