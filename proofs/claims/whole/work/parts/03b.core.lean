/-! ===== the core: contracts over one world list, frames by positions, instructions over small naturals ===== -/
section CORE
/-- since ws only the positions in K, and new ones, have changed -/
def Sm (K : Nat → Prop) (ws ws' : va_W) : Prop := ws.length ≤ ws'.length ∧ ∀ k : Nat, k < ws.length → ¬ K k → ws'[k]? = ws[k]?
/-- one position has changed -/
def Up (q : Nat) (ws ws' : va_W) : Prop := ws'.length = ws.length ∧ ∀ k : Nat, k ≠ q → ws'[k]? = ws[k]?
/-- one cell has come at the end -/
def Ps (ws ws' : va_W) : Prop := ws'.length = ws.length + 1 ∧ ∀ k : Nat, k < ws.length → ws'[k]? = ws[k]?
theorem gl_lt {ws : va_W} {k : Nat} {x : Nat × va_E} (h : ws[k]? = some x) : k < ws.length := (List.getElem?_eq_some_iff.mp h).1
theorem Sm.rf {K : Nat → Prop} {ws : va_W} : Sm K ws ws := ⟨Nat.le_refl _, fun _ _ _ => rfl⟩
theorem Sm.trans {K : Nat → Prop} {a b c : va_W} (h1 : Sm K a b) (h2 : Sm K b c) : Sm K a c := ⟨Nat.le_trans h1.1 h2.1, fun k hk hn => (h2.2 k (Nat.lt_of_lt_of_le hk h1.1) hn).trans (h1.2 k hk hn)⟩
theorem Sm.mono {K K' : Nat → Prop} {a b : va_W} (h : Sm K a b) (hk : ∀ k, K k → K' k) : Sm K' a b := ⟨h.1, fun k h1 h2 => h.2 k h1 (fun q => h2 (hk k q))⟩
theorem Sm.up {K : Nat → Prop} {q : Nat} {a b c : va_W} (h1 : Sm K a b) (h2 : Up q b c) (hq : K q) : Sm K a c := ⟨by rw [h2.1]; exact h1.1, fun k hk hn => (h2.2 k (fun e => hn (by rw [e]; exact hq))).trans (h1.2 k hk hn)⟩
theorem Sm.ps {K : Nat → Prop} {a b c : va_W} (h1 : Sm K a b) (h2 : Ps b c) : Sm K a c := ⟨by rw [h2.1]; exact Nat.le_succ_of_le h1.1, fun k hk hn => (h2.2 k (Nat.lt_of_lt_of_le hk h1.1)).trans (h1.2 k hk hn)⟩
theorem Sm.call {K K' : Nat → Prop} {a b c : va_W} (h1 : Sm K a b) (h2 : Sm K' b c) (hk : ∀ k, K' k → K k) : Sm K a c := h1.trans (h2.mono hk)
theorem Sm.get {K : Nat → Prop} {ws ws' : va_W} {k : Nat} {x : Nat × va_E} (h : Sm K ws ws') (g : ws[k]? = some x) (hk : ¬ K k) : ws'[k]? = some x := (h.2 k (gl_lt g) hk).trans g
theorem Up.get {q : Nat} {ws ws' : va_W} {k : Nat} {x : Nat × va_E} (h : Up q ws ws') (g : ws[k]? = some x) (hk : k ≠ q) : ws'[k]? = some x := (h.2 k hk).trans g
theorem Ps.get {ws ws' : va_W} {k : Nat} {x : Nat × va_E} (h : Ps ws ws') (g : ws[k]? = some x) : ws'[k]? = some x := (h.2 k (gl_lt g)).trans g
theorem up_set {q : Nat} {ws : va_W} {x : Nat × va_E} : Up q ws (ws.set q x) := ⟨List.length_set, fun k hk => List.getElem?_set_ne (Ne.symm hk)⟩
theorem set_at {q : Nat} {ws : va_W} {x y : Nat × va_E} (h : ws[q]? = some x) : (ws.set q y)[q]? = some y := List.getElem?_set_self (gl_lt h)
theorem ps_app {ws : va_W} {x : Nat × va_E} : Ps ws (ws ++ [x]) := ⟨by simp, fun k hk => List.getElem?_append_left hk⟩
theorem app_at {ws : va_W} {x : Nat × va_E} : (ws ++ [x])[ws.length]? = some x := by simp
/-- two lookups of different cells are at different positions -/
theorem gl_ne {ws : va_W} {i j : Nat} {x y : Nat × va_E} (h1 : ws[i]? = some x) (h2 : ws[j]? = some y) (h : x ≠ y) : i ≠ j := fun e => by subst e; exact h (Option.some.inj (h1.symm.trans h2))

/-- what a method's body has at hand -/
def Cx (p : Program) (s : State) (m : MethodId) (meth : Method) (c : Code) (y : MethodName) (cc : ByteArray) (ret : Option FieldType) (nL : Nat) (args : Array Value) (Ts : List Cond) : Prop :=
  p.tables.exec = Jvm.exec ∧ c.code = cc ∧ meth.sig.returnType = ret ∧ c.maxLocals = nL ∧ (∀ w ∈ Ts, w.before args s = true) ∧ s.vm.findClass y.cls = some m.cls ∧ meth.locks = false ∧ meth.name = y.name
/-- the world behind a method -/
def Bw (D : va_G) (tys : List (ClassId × FieldType)) (A : Nat → Prop) (ws : va_W) (t : State) : Prop := va_P D vwCl ws t.heap ∧ va_K D vwCl tys t ∧ va_D A ws
def Pw (D : va_G) (tys : List (ClassId × FieldType)) (ws : va_W) (sz : Nat) (U : State) : Prop := U.heap.size = sz ∧ va_P D vwCl ws U.heap ∧ va_K D vwCl tys U ∧ va_D (fun _ => True) ws
/-- contracts: of an int (or boolean), of nothing, of a reference -/
def CI (D : va_G) (tys : List (ClassId × FieldType)) (l : Launch) (y : MethodName) (w : List Cond) (rm : Room) (av : List Value) (ws : va_W) (post : Int32 → va_W → Prop) : Prop :=
  ∀ sz : Nat, Met l y w rm (va_Pc av (Pw D tys ws sz)) (va_Qi post (Bw D tys (va_A ws sz)) (va_A ws sz)) rm.cells rm.slots (va_A ws sz)
def CV (D : va_G) (tys : List (ClassId × FieldType)) (l : Launch) (y : MethodName) (w : List Cond) (rm : Room) (av : List Value) (ws : va_W) (post : va_W → Prop) : Prop :=
  ∀ sz : Nat, Met l y w rm (va_Pc av (Pw D tys ws sz)) (va_Qv post (Bw D tys (va_A ws sz)) (va_A ws sz)) rm.cells rm.slots (va_A ws sz)
def CQ (D : va_G) (tys : List (ClassId × FieldType)) (l : Launch) (y : MethodName) (w : List Cond) (rm : Room) (av : List Value) (ws : va_W) (post : Option Nat → va_W → Prop) : Prop :=
  ∀ sz : Nat, Met l y w rm (va_Pc av (Pw D tys ws sz)) (va_Qq post (Bw D tys (va_A ws sz)) (va_A ws sz)) rm.cells rm.slots (va_A ws sz)
def ZI (D : va_G) (tys : List (ClassId × FieldType)) (post : Int32 → va_W → Prop) (below : List Frame) (av : List Value) (s : State) (mc ms : Nat) (A : Nat → Prop) : State → Prop := MQ below (va_Qi post (Bw D tys A) A) av.toArray s mc ms A
def ZV (D : va_G) (tys : List (ClassId × FieldType)) (post : va_W → Prop) (below : List Frame) (av : List Value) (s : State) (mc ms : Nat) (A : Nat → Prop) : State → Prop := MQ below (va_Qv post (Bw D tys A) A) av.toArray s mc ms A
def ZQ (D : va_G) (tys : List (ClassId × FieldType)) (post : Option Nat → va_W → Prop) (below : List Frame) (av : List Value) (s : State) (mc ms : Nat) (A : Nat → Prop) : State → Prop := MQ below (va_Qq post (Bw D tys A) A) av.toArray s mc ms A
theorem pw_blind {D : va_G} {tys : List (ClassId × FieldType)} {av : List Value} {ws : va_W} {sz : Nat} : FrameBlind (va_Pc av (Pw D tys ws sz)) := fun a U g mk q => by
  obtain ⟨q0, q1, qP, qK, qD⟩ := q
  exact ⟨q0, q1, qP, va_K.moved (u := U) (U := U.calling g mk a) (Vm.Alike.refl U.vm) qK, qD⟩
section Of
variable {D : va_G} {tys : List (ClassId × FieldType)} {l : Launch} {y : MethodName} {w w' : List Cond} {rm : Room} {av : List Value} {ws : va_W} {cc : ByteArray} {maxL : Nat} {ret : Option FieldType}
theorem CI.of {post : Int32 → va_W → Prop} (hy : plainName y.cls = true) (hw : w = Cond.code y cc maxL ret :: w') (hn : (lg_sl av).length ≤ maxL)
    (body : ∀ (p : Program) (e : Env) (s : State) (m : MethodId) (below : List Frame) (meth : Method) (c : Code) (A : Nat → Prop), Cx p s m meth c y cc ret maxL av.toArray w → va_K D vwCl tys s → va_P D vwCl ws s.heap → va_D A ws → (∀ q : Nat, s.heap.size ≤ q → A q) → va_S A s.heap s.heap [] → ∀ ls : Array Slot, lv_has ls maxL (lv_args 0 av) → W p l e rm s m av.toArray below meth c s.heap [] 0 0 (ZI D tys post below av s rm.cells rm.slots A) (F0 m 0 ls [])) : CI D tys l y w rm av ws post := by
  intro sz
  refine Met.ofW (cc := cc) (maxL := maxL) (ret := ret) hy hw ?_
  intro p e s m args below meth c s₁ B hml hv
  obtain ⟨rfl, rfl, hP, hK, hD0⟩ := hv
  have hl := lv_entry av (n := maxL) hn
  rw [lg_entry_eq]
  exact body p e s m below meth c _ ⟨B.exec, B.bytes, B.returns, hml, atoms_spec (ws := w) B.pre, findClass_of_methodNamed B.named, B.notSynchronized, (name_of_methodNamed B.named B.method).1⟩ hK hP (hD0.self (sz := s.heap.size)) (fun q h => Or.inr h) va_S.rf _ hl
theorem CV.of {post : va_W → Prop} (hy : plainName y.cls = true) (hw : w = Cond.code y cc maxL ret :: w') (hn : (lg_sl av).length ≤ maxL)
    (body : ∀ (p : Program) (e : Env) (s : State) (m : MethodId) (below : List Frame) (meth : Method) (c : Code) (A : Nat → Prop), Cx p s m meth c y cc ret maxL av.toArray w → va_K D vwCl tys s → va_P D vwCl ws s.heap → va_D A ws → (∀ q : Nat, s.heap.size ≤ q → A q) → va_S A s.heap s.heap [] → ∀ ls : Array Slot, lv_has ls maxL (lv_args 0 av) → W p l e rm s m av.toArray below meth c s.heap [] 0 0 (ZV D tys post below av s rm.cells rm.slots A) (F0 m 0 ls [])) : CV D tys l y w rm av ws post := by
  intro sz
  refine Met.ofW (cc := cc) (maxL := maxL) (ret := ret) hy hw ?_
  intro p e s m args below meth c s₁ B hml hv
  obtain ⟨rfl, rfl, hP, hK, hD0⟩ := hv
  have hl := lv_entry av (n := maxL) hn
  rw [lg_entry_eq]
  exact body p e s m below meth c _ ⟨B.exec, B.bytes, B.returns, hml, atoms_spec (ws := w) B.pre, findClass_of_methodNamed B.named, B.notSynchronized, (name_of_methodNamed B.named B.method).1⟩ hK hP (hD0.self (sz := s.heap.size)) (fun q h => Or.inr h) va_S.rf _ hl
theorem CQ.of {post : Option Nat → va_W → Prop} (hy : plainName y.cls = true) (hw : w = Cond.code y cc maxL ret :: w') (hn : (lg_sl av).length ≤ maxL)
    (body : ∀ (p : Program) (e : Env) (s : State) (m : MethodId) (below : List Frame) (meth : Method) (c : Code) (A : Nat → Prop), Cx p s m meth c y cc ret maxL av.toArray w → va_K D vwCl tys s → va_P D vwCl ws s.heap → va_D A ws → (∀ q : Nat, s.heap.size ≤ q → A q) → va_S A s.heap s.heap [] → ∀ ls : Array Slot, lv_has ls maxL (lv_args 0 av) → W p l e rm s m av.toArray below meth c s.heap [] 0 0 (ZQ D tys post below av s rm.cells rm.slots A) (F0 m 0 ls [])) : CQ D tys l y w rm av ws post := by
  intro sz
  refine Met.ofW (cc := cc) (maxL := maxL) (ret := ret) hy hw ?_
  intro p e s m args below meth c s₁ B hml hv
  obtain ⟨rfl, rfl, hP, hK, hD0⟩ := hv
  have hl := lv_entry av (n := maxL) hn
  rw [lg_entry_eq]
  exact body p e s m below meth c _ ⟨B.exec, B.bytes, B.returns, hml, atoms_spec (ws := w) B.pre, findClass_of_methodNamed B.named, B.notSynchronized, (name_of_methodNamed B.named B.method).1⟩ hK hP (hD0.self (sz := s.heap.size)) (fun q h => Or.inr h) va_S.rf _ hl
end Of
section Ret
variable {D : va_G} {tys : List (ClassId × FieldType)} {p : Program} {l : Launch} {e : Env} {R : Room} {s : State} {m : MethodId} {av : List Value} {below : List Frame} {meth : Method} {c : Code} {H : Heap} {locs : List Loc} {cells slots mc ms : Nat} {A : Nat → Prop}
  {y : MethodName} {cc : ByteArray} {nL pc : Nat} {Ts : List Cond} {ls : Array Slot} {ws : va_W}
theorem CI.ret {ty : FieldType} {v : Int32} {post : Int32 → va_W → Prop} (C : Cx p s m meth c y cc (some ty) nL av.toArray Ts) (hK : va_K D vwCl tys s) (hP : va_P D vwCl ws H) (hD : va_D A ws) (hS : va_S A s.heap H locs) (hn : narrow ty (.int v) = .int v) (hp : post v ws) (hc : cells ≤ mc) (hs : slots ≤ ms) (hdg : decode cc pc = .ok (.ireturn, 1)) :
    W p l e R s m av.toArray below meth c H locs cells slots (ZI D tys post below av s mc ms A) (F0 m pc ls [.int v]) := by
  obtain ⟨hx, hb, hr, hml, hts, hown, hlocks, hnm⟩ := C
  refine W.widen (k := mc) (n := ms) hc hs ?_
  exact W.zret hx hb hr hn (fun t ht hW => ⟨⟨v, ws, rfl, hp, by rw [ht]; exact hP, va_K.moved hW.alike hK, hD⟩, hS.F ht⟩) hS.2.2 hdg
theorem CV.ret {post : va_W → Prop} (C : Cx p s m meth c y cc none nL av.toArray Ts) (hK : va_K D vwCl tys s) (hP : va_P D vwCl ws H) (hD : va_D A ws) (hS : va_S A s.heap H locs) (hp : post ws) (hc : cells ≤ mc) (hs : slots ≤ ms) (hdg : decode cc pc = .ok (.return_, 1)) :
    W p l e R s m av.toArray below meth c H locs cells slots (ZV D tys post below av s mc ms A) (F0 m pc ls []) := by
  obtain ⟨hx, hb, hr, hml, hts, hown, hlocks, hnm⟩ := C
  refine W.widen (k := mc) (n := ms) hc hs ?_
  exact W.vret hx hb hr (fun t ht hW => ⟨⟨ws, rfl, hp, by rw [ht]; exact hP, va_K.moved hW.alike hK, hD⟩, hS.F ht⟩) hS.2.2 hdg
theorem CQ.ret {rt : FieldType} {v : Option Nat} {post : Option Nat → va_W → Prop} (C : Cx p s m meth c y cc (some rt) nL av.toArray Ts) (hK : va_K D vwCl tys s) (hP : va_P D vwCl ws H) (hD : va_D A ws) (hS : va_S A s.heap H locs) (hrt : (∃ n, rt = .object n) ∨ ∃ t, rt = .array t) (hp : post v ws) (hc : cells ≤ mc) (hs : slots ≤ ms) (hdg : decode cc pc = .ok (.areturn, 1)) :
    W p l e R s m av.toArray below meth c H locs cells slots (ZQ D tys post below av s mc ms A) (F0 m pc ls [va_rf v]) := by
  obtain ⟨hx, hb, hr, hml, hts, hown, hlocks, hnm⟩ := C
  refine W.widen (k := mc) (n := ms) hc hs ?_
  exact W.aret hx hb hr hrt (va_rf_or v) (fun t ht hW => ⟨⟨v, ws, rfl, hp, by rw [ht]; exact hP, va_K.moved hW.alike hK, hD⟩, hS.F ht⟩) hS.2.2 hdg
end Ret
section Call
variable {D : va_G} {tys : List (ClassId × FieldType)} {p : Program} {l : Launch} {e : Env} {R : Room} {s : State} {m : MethodId} {args : Array Value} {below : List Frame} {meth : Method} {c : Code} {H : Heap} {locs : List Loc} {cells slots : Nat} {A : Nat → Prop} {Q : State → Prop}
  {y y2 : MethodName} {cc bytes : ByteArray} {ret ret2 : Option FieldType} {nL maxL n index pc : Nat} {Ts w2 : List Cond} {ls : Array Slot} {ws : va_W} {rm2 : Room} {own Cn : String} {b : Nat} {As rest st0 : List Value}
theorem va_Aall (hD : va_D A ws) (hS : va_S A s.heap H locs) (hA : ∀ q : Nat, s.heap.size ≤ q → A q) : ∀ q : Nat, va_A ws H.size q → A q := fun q h => by
  rcases h with ⟨k, e, h⟩ | h
  · exact hD.2 k (q, e) h
  · exact hA q (Nat.le_trans hS.1 h)
theorem pw_pre (hK : va_K D vwCl tys s) (hP : va_P D vwCl ws H) (hD : va_D A ws) {av : List Value} {U : State} (hU : U.heap = H) (hW : s.WarmedH U.vm) : va_Pc av (Pw D tys ws H.size) av.toArray U :=
  ⟨rfl, by rw [hU], by rw [hU]; exact hP, va_K.moved hW.alike hK, hD.weaken (fun _ _ _ _ => trivial)⟩
/-- any run of a callee that has the whole world: int -/
theorem CI.go {post : Int32 → va_W → Prop} {av : List Value} (hr : va_Run p l e R s m args below meth c H locs cells slots rm2.cells rm2.slots (F0 m pc ls st0) rest (va_Qi post (Bw D tys (va_A ws H.size)) (va_A ws H.size) av.toArray) (va_A ws H.size)) (hD : va_D A ws) (hS : va_S A s.heap H locs) (hA : ∀ q : Nat, s.heap.size ≤ q → A q)
    (kk : ∀ (r : Int32) (ws' : va_W) (H1 : Heap) (locs1 : List Loc), post r ws' → va_P D vwCl ws' H1 → va_D A ws' → va_S A s.heap H1 locs1 → W p l e R s m args below meth c H1 locs1 (cells + rm2.cells) (slots + rm2.slots) Q (F0 m (pc + 3) ls (.int r :: rest))) : W p l e R s m args below meth c H locs cells slots Q (F0 m pc ls st0) :=
  va_calli hr hS (fun q _ h => va_Aall hD hS hA q h) (va_Aall hD hS hA) (fun r u t H1 locs1 ht hvm hp hB _ _ hS1 => kk r u H1 locs1 hp (by rw [← ht]; exact hB.1) (hB.2.2.weaken (fun _ q _ h => va_Aall hD hS hA q.1 h)) hS1)
theorem CV.go {post : va_W → Prop} {av : List Value} (hr : va_Run p l e R s m args below meth c H locs cells slots rm2.cells rm2.slots (F0 m pc ls st0) rest (va_Qv post (Bw D tys (va_A ws H.size)) (va_A ws H.size) av.toArray) (va_A ws H.size)) (hD : va_D A ws) (hS : va_S A s.heap H locs) (hA : ∀ q : Nat, s.heap.size ≤ q → A q)
    (kk : ∀ (ws' : va_W) (H1 : Heap) (locs1 : List Loc), post ws' → va_P D vwCl ws' H1 → va_D A ws' → va_S A s.heap H1 locs1 → W p l e R s m args below meth c H1 locs1 (cells + rm2.cells) (slots + rm2.slots) Q (F0 m (pc + 3) ls rest)) : W p l e R s m args below meth c H locs cells slots Q (F0 m pc ls st0) :=
  va_callv hr hS (fun q _ h => va_Aall hD hS hA q h) (va_Aall hD hS hA) (fun u t H1 locs1 ht hvm hp hB _ _ hS1 => kk u H1 locs1 hp (by rw [← ht]; exact hB.1) (hB.2.2.weaken (fun _ q _ h => va_Aall hD hS hA q.1 h)) hS1)
theorem CQ.go {post : Option Nat → va_W → Prop} {av : List Value} (hr : va_Run p l e R s m args below meth c H locs cells slots rm2.cells rm2.slots (F0 m pc ls st0) rest (va_Qq post (Bw D tys (va_A ws H.size)) (va_A ws H.size) av.toArray) (va_A ws H.size)) (hD : va_D A ws) (hS : va_S A s.heap H locs) (hA : ∀ q : Nat, s.heap.size ≤ q → A q)
    (kk : ∀ (r : Option Nat) (ws' : va_W) (H1 : Heap) (locs1 : List Loc), post r ws' → va_P D vwCl ws' H1 → va_D A ws' → va_S A s.heap H1 locs1 → W p l e R s m args below meth c H1 locs1 (cells + rm2.cells) (slots + rm2.slots) Q (F0 m (pc + 3) ls (va_rf r :: rest))) : W p l e R s m args below meth c H locs cells slots Q (F0 m pc ls st0) :=
  va_callq hr hS (fun q _ h => va_Aall hD hS hA q h) (va_Aall hD hS hA) (fun r u t H1 locs1 ht hvm hp hB _ _ hS1 => kk r u H1 locs1 hp (by rw [← ht]; exact hB.1) (hB.2.2.weaken (fun _ q _ h => va_Aall hD hS hA q.1 h)) hS1)
end Call
end CORE
