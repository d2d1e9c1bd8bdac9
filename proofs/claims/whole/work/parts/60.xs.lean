section XSA
/-- what of the machine's own state the lists' code asks for -/
def XS (ad mi : Nat) (A : Nat → Prop) (U : State) : Prop :=
  NS U ∧ va_Nw (.castable RX0 "java/lang/Object") U ∧ va_Z RJx4a65c "DEFAULTCAPACITY_EMPTY_ELEMENTDATA" "[Ljava/lang/Object;" (.ref ad) A U U.heap ∧ va_T (.object "java/lang/Object") ad 0 (fun _ => .null) A U U.heap ∧ va_Mi "[Ljava/lang/Object;" mi U ∧ va_Dc U ∧ va_AO "java/lang/Object" U
theorem XS.same {ad mi : Nat} {A : Nat → Prop} {u U : State} (hvm : u.vm = U.vm) (hh : u.heap = U.heap) (h : XS ad mi A u) : XS ad mi A U := by
  have al : u.vm.Alike U.vm := by rw [hvm]; exact Vm.Alike.refl _
  obtain ⟨h1, h2, h3, h4, h5, h6, h7⟩ := h
  rw [hh] at h3 h4
  exact ⟨h1.same hvm, va_Nw.same rfl hvm h2, h3.moved al, h4.moved al, h5.moved al, h6.moved al, h7.moved al⟩
theorem XS.go {ad mi : Nat} {A B : Nat → Prop} {s U : State} {H : Heap} {locs : List Loc} (h : XS ad mi A s) (hS : va_S A s.heap H locs) (hU : U.heap = H) (hW : s.WarmedH U.vm) (hAB : ∀ q, B q → A q) : XS ad mi B U := by
  obtain ⟨h1, h2, h3, h4, h5, h6, h7⟩ := h
  refine ⟨h1.warm hW, va_Nw.warmC hW h2, ?_, ?_, h5.moved hW.alike, h6.moved hW.alike, h7.moved hW.alike⟩
  · rw [hU]; exact ((h3.kept hS.2.1).narrow hAB).moved hW.alike
  · rw [hU]; exact ((h4.kept hS.2.1).narrow hAB).moved hW.alike
def PwX (D : va_G) (tys : List (ClassId × FieldType)) (ws : va_W) (sz ad mi : Nat) (U : State) : Prop := Pw D tys ws sz U ∧ XS ad mi (va_A ws sz) U
def CIX (D : va_G) (tys : List (ClassId × FieldType)) (l : Launch) (y : MethodName) (w : List Cond) (rm : Room) (ad mi : Nat) (av : List Value) (ws : va_W) (post : Int32 → va_W → Prop) : Prop :=
  ∀ sz : Nat, Met l y w rm (va_Pc av (PwX D tys ws sz ad mi)) (va_Qi post (Bw D tys (va_A ws sz)) (va_A ws sz)) rm.cells rm.slots (va_A ws sz)
def CVX (D : va_G) (tys : List (ClassId × FieldType)) (l : Launch) (y : MethodName) (w : List Cond) (rm : Room) (ad mi : Nat) (av : List Value) (ws : va_W) (post : va_W → Prop) : Prop :=
  ∀ sz : Nat, Met l y w rm (va_Pc av (PwX D tys ws sz ad mi)) (va_Qv post (Bw D tys (va_A ws sz)) (va_A ws sz)) rm.cells rm.slots (va_A ws sz)
def CQX (D : va_G) (tys : List (ClassId × FieldType)) (l : Launch) (y : MethodName) (w : List Cond) (rm : Room) (ad mi : Nat) (av : List Value) (ws : va_W) (post : Option Nat → va_W → Prop) : Prop :=
  ∀ sz : Nat, Met l y w rm (va_Pc av (PwX D tys ws sz ad mi)) (va_Qq post (Bw D tys (va_A ws sz)) (va_A ws sz)) rm.cells rm.slots (va_A ws sz)
theorem pwx_blind {D : va_G} {tys : List (ClassId × FieldType)} {av : List Value} {ws : va_W} {sz ad mi : Nat} : FrameBlind (va_Pc av (PwX D tys ws sz ad mi)) := fun a U g mk q => by
  obtain ⟨q0, ⟨q1, qP, qK, qD⟩, qN⟩ := q
  exact ⟨q0, ⟨q1, qP, va_K.moved (u := U) (U := U.calling g mk a) (Vm.Alike.refl U.vm) qK, qD⟩, XS.same (u := U) (U := U.calling g mk a) rfl rfl qN⟩
theorem pwx_pre {D : va_G} {tys : List (ClassId × FieldType)} {s : State} {H : Heap} {ws : va_W} {A : Nat → Prop} {locs : List Loc} {ad mi : Nat} (hX : XS ad mi A s) (hA : ∀ q : Nat, s.heap.size ≤ q → A q) (hS : va_S A s.heap H locs) (hK : va_K D vwCl tys s) (hP : va_P D vwCl ws H) (hD : va_D A ws) {av : List Value} {U : State} (hU : U.heap = H) (hW : s.WarmedH U.vm) : va_Pc av (PwX D tys ws H.size ad mi) av.toArray U :=
  ⟨rfl, (pw_pre (av := av) hK hP hD hU hW).2, hX.go hS hU hW (va_Aall hD hS hA)⟩
section Of
variable {D : va_G} {tys : List (ClassId × FieldType)} {l : Launch} {y : MethodName} {w w' : List Cond} {rm : Room} {av : List Value} {ws : va_W} {cc : ByteArray} {maxL : Nat} {ret : Option FieldType} {ad mi : Nat}
theorem CIX.of {post : Int32 → va_W → Prop} (hy : plainName y.cls = true) (hw : w = Cond.code y cc maxL ret :: w') (hn : (lg_sl av).length ≤ maxL)
    (body : ∀ (p : Program) (e : Env) (s : State) (m : MethodId) (below : List Frame) (meth : Method) (c : Code) (A : Nat → Prop), Cx p s m meth c y cc ret maxL av.toArray w → va_K D vwCl tys s → va_P D vwCl ws s.heap → va_D A ws → (∀ q : Nat, s.heap.size ≤ q → A q) → va_S A s.heap s.heap [] → XS ad mi A s → ∀ ls : Array Slot, lv_has ls maxL (lv_args 0 av) → W p l e rm s m av.toArray below meth c s.heap [] 0 0 (ZI D tys post below av s rm.cells rm.slots A) (F0 m 0 ls [])) : CIX D tys l y w rm ad mi av ws post := by
  intro sz
  refine Met.ofW (cc := cc) (maxL := maxL) (ret := ret) hy hw ?_
  intro p e s m args below meth c s₁ B hml hv
  obtain ⟨rfl, ⟨rfl, hP, hK, hD0⟩, hN⟩ := hv
  have hl := lv_entry av (n := maxL) hn
  rw [lg_entry_eq]
  exact body p e s m below meth c _ ⟨B.exec, B.bytes, B.returns, hml, atoms_spec (ws := w) B.pre, findClass_of_methodNamed B.named, B.notSynchronized, (name_of_methodNamed B.named B.method).1⟩ hK hP (hD0.self (sz := s.heap.size)) (fun q h => Or.inr h) va_S.rf hN _ hl
theorem CVX.of {post : va_W → Prop} (hy : plainName y.cls = true) (hw : w = Cond.code y cc maxL ret :: w') (hn : (lg_sl av).length ≤ maxL)
    (body : ∀ (p : Program) (e : Env) (s : State) (m : MethodId) (below : List Frame) (meth : Method) (c : Code) (A : Nat → Prop), Cx p s m meth c y cc ret maxL av.toArray w → va_K D vwCl tys s → va_P D vwCl ws s.heap → va_D A ws → (∀ q : Nat, s.heap.size ≤ q → A q) → va_S A s.heap s.heap [] → XS ad mi A s → ∀ ls : Array Slot, lv_has ls maxL (lv_args 0 av) → W p l e rm s m av.toArray below meth c s.heap [] 0 0 (ZV D tys post below av s rm.cells rm.slots A) (F0 m 0 ls [])) : CVX D tys l y w rm ad mi av ws post := by
  intro sz
  refine Met.ofW (cc := cc) (maxL := maxL) (ret := ret) hy hw ?_
  intro p e s m args below meth c s₁ B hml hv
  obtain ⟨rfl, ⟨rfl, hP, hK, hD0⟩, hN⟩ := hv
  have hl := lv_entry av (n := maxL) hn
  rw [lg_entry_eq]
  exact body p e s m below meth c _ ⟨B.exec, B.bytes, B.returns, hml, atoms_spec (ws := w) B.pre, findClass_of_methodNamed B.named, B.notSynchronized, (name_of_methodNamed B.named B.method).1⟩ hK hP (hD0.self (sz := s.heap.size)) (fun q h => Or.inr h) va_S.rf hN _ hl
theorem CQX.of {post : Option Nat → va_W → Prop} (hy : plainName y.cls = true) (hw : w = Cond.code y cc maxL ret :: w') (hn : (lg_sl av).length ≤ maxL)
    (body : ∀ (p : Program) (e : Env) (s : State) (m : MethodId) (below : List Frame) (meth : Method) (c : Code) (A : Nat → Prop), Cx p s m meth c y cc ret maxL av.toArray w → va_K D vwCl tys s → va_P D vwCl ws s.heap → va_D A ws → (∀ q : Nat, s.heap.size ≤ q → A q) → va_S A s.heap s.heap [] → XS ad mi A s → ∀ ls : Array Slot, lv_has ls maxL (lv_args 0 av) → W p l e rm s m av.toArray below meth c s.heap [] 0 0 (ZQ D tys post below av s rm.cells rm.slots A) (F0 m 0 ls [])) : CQX D tys l y w rm ad mi av ws post := by
  intro sz
  refine Met.ofW (cc := cc) (maxL := maxL) (ret := ret) hy hw ?_
  intro p e s m args below meth c s₁ B hml hv
  obtain ⟨rfl, ⟨rfl, hP, hK, hD0⟩, hN⟩ := hv
  have hl := lv_entry av (n := maxL) hn
  rw [lg_entry_eq]
  exact body p e s m below meth c _ ⟨B.exec, B.bytes, B.returns, hml, atoms_spec (ws := w) B.pre, findClass_of_methodNamed B.named, B.notSynchronized, (name_of_methodNamed B.named B.method).1⟩ hK hP (hD0.self (sz := s.heap.size)) (fun q h => Or.inr h) va_S.rf hN _ hl
end Of
section Rows
variable {D : va_G} {p : Program} {l : Launch} {e : Env} {R : Room} {s : State} {m : MethodId} {args : Array Value} {below : List Frame} {meth : Method} {c : Code} {H : Heap} {locs : List Loc} {cells slots : Nat} {A : Nat → Prop} {Q : State → Prop} {cc : ByteArray} {pc : Nat} {ls : Array Slot} {rest : List Value} {ws : va_W} {cB cI cJ cO : ClassId} {a ad mi : Nat}
theorem nx_aald (hx : p.tables.exec = Jvm.exec) (hb : c.code = cc) (hK : va_K D vwCl (TY cB cI cJ cO) s) (hP : va_P D vwCl ws H) (q0 : Nat) {n : Nat} {f : Nat → Option Nat} (ha : ws[q0]? = some (a, .inl (cO, n, .inr (.inr (.inr (.inr f)))))) {k : Nat} (hk : k < n) (hn : n < 2 ^ 31) {v : Nat} (hv : f k = some v) (hdg : decode cc pc = .ok (.aaload, 1))
    (kk : W p l e R s m args below meth c H locs cells slots Q (F0 m (pc + 1) ls (.ref v :: rest))) : W p l e R s m args below meth c H locs cells slots Q (F0 m pc ls (.int (nI k) :: .ref a :: rest)) :=
  va_aldq hx hb hK hP q0 3 ha rfl (nI_in hk hn) hdg (by rw [nI_clamp (by omega), hv]; exact kk)
theorem nx_aast (hx : p.tables.exec = Jvm.exec) (hb : c.code = cc) (hK : va_K D vwCl (TY cB cI cJ cO) s) (hP : va_P D vwCl ws H) (hD : va_D A ws) (hS : va_S A s.heap H locs) (q0 : Nat) {n : Nat} {f : Nat → Option Nat} (ha : ws[q0]? = some (a, .inl (cO, n, .inr (.inr (.inr (.inr f)))))) (hX : XS ad mi A s) (qk : Nat) {v : Nat} {vs : List Value} (hv : ws[qk]? = some (v, .inr (1, vs))) {k : Nat} (hk : k < n) (hn : n < 2 ^ 31) (hdg : decode cc pc = .ok (.aastore, 1))
    (kk : ∀ (ws' : va_W) (H1 : Heap) (locs1 : List Loc), ws'[q0]? = some (a, .inl (cO, n, .inr (.inr (.inr (.inr (va_up f k (some v))))))) → Up q0 ws ws' → va_P D vwCl ws' H1 → va_D A ws' → va_S A s.heap H1 locs1 → W p l e R s m args below meth c H1 locs1 cells slots Q (F0 m (pc + 1) ls rest)) : W p l e R s m args below meth c H locs cells slots Q (F0 m pc ls (.ref v :: .int (nI k) :: .ref a :: rest)) :=
  va_astqO hx hb hK hP hD hS q0 3 qk 1 ha rfl hX.2.1 hv rfl (nI_in hk hn) hdg (fun H1 locs1 h1 h2 h3 => by
    rw [nI_clamp (by omega)] at h1 h2
    exact kk _ H1 locs1 (set_at ha) up_set h1 h2 h3)
theorem nx_aastN (hx : p.tables.exec = Jvm.exec) (hb : c.code = cc) (hK : va_K D vwCl (TY cB cI cJ cO) s) (hP : va_P D vwCl ws H) (hD : va_D A ws) (hS : va_S A s.heap H locs) (q0 : Nat) {n : Nat} {f : Nat → Option Nat} (ha : ws[q0]? = some (a, .inl (cO, n, .inr (.inr (.inr (.inr f)))))) {k : Nat} (hk : k < n) (hn : n < 2 ^ 31) (hdg : decode cc pc = .ok (.aastore, 1))
    (kk : ∀ (ws' : va_W) (H1 : Heap) (locs1 : List Loc), ws'[q0]? = some (a, .inl (cO, n, .inr (.inr (.inr (.inr (va_up f k none)))))) → Up q0 ws ws' → va_P D vwCl ws' H1 → va_D A ws' → va_S A s.heap H1 locs1 → W p l e R s m args below meth c H1 locs1 cells slots Q (F0 m (pc + 1) ls rest)) : W p l e R s m args below meth c H locs cells slots Q (F0 m pc ls (.null :: .int (nI k) :: .ref a :: rest)) :=
  va_astqN hx hb hK hP hD hS q0 3 ha rfl (nI_in hk hn) hdg (fun H1 locs1 h1 h2 h3 => by
    rw [nI_clamp (by omega)] at h1 h2
    exact kk _ H1 locs1 (set_at ha) up_set h1 h2 h3)
theorem nx_newq (hx : p.tables.exec = Jvm.exec) (hb : c.code = cc) {own : String} {index : Nat} (hown : s.vm.findClass own = some m.cls) (hlink : (Cond.classLink own index "java/lang/Object").before args s = true) (hX : XS ad mi A s) (hK : va_K D vwCl (TY cB cI cJ cO) s) (hP : va_P D vwCl ws H) (hD : va_D A ws) (hS : va_S A s.heap H locs) (hA : ∀ q, s.heap.size ≤ q → A q)
    {N' : Nat} (hN : N' ≤ 100000) (hcells : cells + 1 ≤ R.cells) (hslots : slots + N' ≤ R.slots) (hdg : decode cc pc = .ok (.anewarray index, 3))
    (kk : ∀ (q : Nat) (ws' : va_W) (H1 : Heap), ws'[ws.length]? = some (q, .inl (cO, N', .inr (.inr (.inr (.inr (fun _ => none)))))) → Ps ws ws' → va_P D vwCl ws' H1 → va_D A ws' → va_S A s.heap H1 locs → W p l e R s m args below meth c H1 locs (cells + 1) (slots + N') Q (F0 m (pc + 3) ls (.ref q :: rest))) : W p l e R s m args below meth c H locs cells slots Q (F0 m pc ls (.int (nI N') :: rest)) := by
  refine va_newq hx hb hown hlink hX.2.2.2.2.2.2 hK hP hD hS hA (nI_pos (by omega)) (nI_clamp (by omega)) (by omega) hcells hslots hdg (fun q cA H1 hK1 hP1 hD1 hS1 => ?_)
  have h1 := (hK1.2 (TY cB cI cJ cO).length (cA, .object "java/lang/Object") (by simp)).2
  have h2 := (hK.2 3 (cO, .object "java/lang/Object") rfl).2
  obtain ⟨_, _, _, _, _, h1⟩ := h1
  obtain ⟨_, _, _, _, _, h2⟩ := h2
  have e : cA = cO := Option.some.inj (h1.symm.trans h2)
  subst e
  exact kk q _ H1 app_at ps_app hP1 hD1 hS1
theorem nx_copy (hx : p.tables.exec = Jvm.exec) (hb : c.code = cc) (hml : c.maxLocals = ls.size) {own : String} {index : Nat} (hown : s.vm.findClass own = some m.cls) (hlink : (Cond.methodLink own index arraycopyName).before args s = true) (hnat : (Cond.native arraycopyName).before args s = true) (hstat : (Cond.static arraycopyName).before args s = true) (hini : (Cond.initialized "java/lang/System").before args s = true)
    (hX : XS ad mi A s) (hK : va_K D vwCl (TY cB cI cJ cO) s) (hP : va_P D vwCl ws H) (hD : va_D A ws) (hS : va_S A s.heap H locs) (q0 q1 : Nat) {a0 : Nat} {n0 n1 : Nat} {f g : Nat → Option Nat} (ha0 : ws[q0]? = some (a0, .inl (cO, n0, .inr (.inr (.inr (.inr f)))))) (ha1 : ws[q1]? = some (a, .inl (cO, n1, .inr (.inr (.inr (.inr g))))))
    {sp dp n : Nat} (hsm : n0 ≤ 100000 ∧ n1 ≤ 100000) (h4 : sp + n ≤ n0) (h5 : dp + n ≤ n1) (hel : ∀ i, i < n → ∃ (y k : Nat) (vs : List Value), f (sp + i) = some y ∧ ws[k]? = some (y, (.inr (1, vs) : va_E)))
    (hframes : 1 ≤ R.frames) (hlocals : (rest.map fun v => v.category).sum + (nativeFrameWords "java/lang/System" "arraycopy" 5 + 11) ≤ R.locals) (hdg : decode cc pc = .ok (.invokestatic index, 3))
    (kk : ∀ (ws' : va_W) (H1 : Heap) (locs1 : List Loc), ws'[q1]? = some (a, .inl (cO, n1, .inr (.inr (.inr (.inr (va_cpy f g sp dp n)))))) → Up q1 ws ws' → va_P D vwCl ws' H1 → va_D A ws' → va_S A s.heap H1 locs1 → W p l e R s m args below meth c H1 locs1 cells slots Q (F0 m (pc + 3) ls rest)) : W p l e R s m args below meth c H locs cells slots Q (F0 m pc ls (.int (nI n) :: .int (nI dp) :: .ref a :: .int (nI sp) :: .ref a0 :: rest)) := by
  have c1 : (nI sp).toNatClampNeg = sp := nI_clamp (by omega)
  have c2 : (nI dp).toNatClampNeg = dp := nI_clamp (by omega)
  have c3 : (nI n).toNatClampNeg = n := nI_clamp (by omega)
  refine va_copyq (C := RX0) hx hb hml hown hlink hnat hstat hini hK hP hD hS q0 q1 3 3 ha0 ha1 rfl rfl (nI_pos (by omega)) (nI_pos (by omega)) (nI_pos (by omega)) (by rw [c1, c3]; exact h4) (by rw [c2, c3]; exact h5) (fun i hi y hy => ?_) (fun comp c0 k1 k2 => vb_asgC hX.2.1 comp c0 k1 k2) hframes hlocals hdg (fun H1 locs1 k1 k2 k3 => ?_)
  · rw [c3] at hi
    rw [c1] at hy
    obtain ⟨y2, k, vs, e1, e2⟩ := hel i hi
    cases e1.symm.trans hy
    exact va_recv hK hP (ci := 1) (q0 := k) rfl e2
  · rw [c1, c2, c3] at k1 k2
    exact kk _ H1 locs1 (set_at ha1) up_set k1 k2 k3
end Rows
end XSA
