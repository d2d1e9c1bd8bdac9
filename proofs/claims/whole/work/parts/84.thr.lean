section THR
def vt_s : Cond → Bool
  | .declares _ => true
  | .castable _ _ => true
  | _ => false
theorem vt_at {w : Cond} (h : vt_s w = true) {s U : State} (hW : s.WarmedH U.vm) (hb : w.before #[] s = true) : w.before #[] U = true := by
  cases w <;> first | (exact absurd h Bool.false_ne_true) | skip
  all_goals first
    | exact va_Nw.warmC hW hb
    | exact va_Nw.warmD hW hb
theorem vt_tab {w : Cond} (h : vt_s w = true) : w.onTables = true := by
  cases w <;> first | (exact absurd h Bool.false_ne_true) | rfl
def NSE : String := "java/util/NoSuchElementException"
def IAE : String := "java/lang/IllegalArgumentException"
def exN : List String := ["java/lang/RuntimeException", "java/lang/Exception"]
/-- the words of a throw that the calls' words leave out -/
def vtW : List Cond := ((vx_atS RX8 167 NSE exN) ++ (vx_atS RX8 129 IAE exN)).filter (fun w => !goodWord w)
theorem vtW_s : vtW.all vt_s = true := by decide +kernel
/-- the machine's own state where a method may throw: words, the two statics of Throwable, the texts -/
def XT (tx : List (Nat × String)) (ad mi : Nat) (A : Nat → Prop) (U : State) : Prop :=
  XS ad mi A U ∧ (∀ w ∈ vtW, w.before #[] U = true) ∧ vx_Zq Bundle.tN "UNASSIGNED_STACK" Bundle.steD A U U.heap ∧ vx_Zq Bundle.tN "SUPPRESSED_SENTINEL" Bundle.listD A U U.heap ∧ ∀ q ∈ tx, ∃ sa, vk_R RX8 q.1 q.2 sa U
theorem XT.same {tx : List (Nat × String)} {ad mi : Nat} {A : Nat → Prop} {u U : State} (hvm : u.vm = U.vm) (hh : u.heap = U.heap) (h : XT tx ad mi A u) : XT tx ad mi A U := by
  have al : u.vm.Alike U.vm := by rw [hvm]; exact Vm.Alike.refl _
  obtain ⟨h1, h2, h3, h4, h5⟩ := h
  rw [hh] at h3 h4
  refine ⟨h1.same hvm hh, fun w hw => va_tabs (vt_tab (List.all_eq_true.mp vtW_s w hw)) hvm (h2 w hw), h3.moved al, h4.moved al, fun q hq => ?_⟩
  obtain ⟨sa, h9⟩ := h5 q hq
  exact ⟨sa, vk_R.same hvm.symm h9⟩
theorem XT.go {tx : List (Nat × String)} {ad mi : Nat} {A B : Nat → Prop} {s U : State} {H : Heap} {locs : List Loc} (h : XT tx ad mi A s) (hS : va_S A s.heap H locs) (hU : U.heap = H) (hW : s.WarmedH U.vm) (hAB : ∀ q, B q → A q) : XT tx ad mi B U := by
  obtain ⟨h1, h2, h3, h4, h5⟩ := h
  refine ⟨h1.go hS hU hW hAB, fun w hw => vt_at (List.all_eq_true.mp vtW_s w hw) hW (h2 w hw), ?_, ?_, fun q hq => ?_⟩
  · rw [hU]; exact ((h3.kept hS.2.1).narrow hAB).moved hW.alike
  · rw [hU]; exact ((h4.kept hS.2.1).narrow hAB).moved hW.alike
  · obtain ⟨sa, h9⟩ := h5 q hq
    exact ⟨sa, vk_R.warm hW h9⟩
def PwT (tx : List (Nat × String)) (D : va_G) (tys : List (ClassId × FieldType)) (ws : va_W) (sz ad mi : Nat) (U : State) : Prop := Pw D tys ws sz U ∧ XT tx ad mi (va_A ws sz) U
/-- what a throw leaves -/
def XcT (D : va_G) (tys : List (ClassId × FieldType)) (px : String → va_W → Prop) (A : Nat → Prop) : String → State → State → Prop := vx_X (fun _ : va_W => True) (fun E u t => px E u ∧ Bw D tys A u t) A
def CIT (tx : List (Nat × String)) (D : va_G) (tys : List (ClassId × FieldType)) (l : Launch) (y : MethodName) (w : List Cond) (rm : Room) (ad mi : Nat) (av : List Value) (ws : va_W) (post : Int32 → va_W → Prop) (px : String → va_W → Prop) : Prop :=
  ∀ sz : Nat, vx_Met l y w rm (va_Pc av (PwT tx D tys ws sz ad mi)) (va_Qi post (Bw D tys (va_A ws sz)) (va_A ws sz)) (XcT D tys px (va_A ws sz)) rm.cells rm.slots (va_A ws sz)
def CQT (tx : List (Nat × String)) (D : va_G) (tys : List (ClassId × FieldType)) (l : Launch) (y : MethodName) (w : List Cond) (rm : Room) (ad mi : Nat) (av : List Value) (ws : va_W) (post : Option Nat → va_W → Prop) (px : String → va_W → Prop) : Prop :=
  ∀ sz : Nat, vx_Met l y w rm (va_Pc av (PwT tx D tys ws sz ad mi)) (va_Qq post (Bw D tys (va_A ws sz)) (va_A ws sz)) (XcT D tys px (va_A ws sz)) rm.cells rm.slots (va_A ws sz)
theorem pwt_blind {tx : List (Nat × String)} {D : va_G} {tys : List (ClassId × FieldType)} {av : List Value} {ws : va_W} {sz ad mi : Nat} : FrameBlind (va_Pc av (PwT tx D tys ws sz ad mi)) := fun a U g mk q => by
  obtain ⟨q0, ⟨q1, qP, qK, qD⟩, qN⟩ := q
  exact ⟨q0, ⟨q1, qP, va_K.moved (u := U) (U := U.calling g mk a) (Vm.Alike.refl U.vm) qK, qD⟩, XT.same (u := U) (U := U.calling g mk a) rfl rfl qN⟩
theorem pwt_pre {tx : List (Nat × String)} {D : va_G} {tys : List (ClassId × FieldType)} {s : State} {H : Heap} {ws : va_W} {A : Nat → Prop} {locs : List Loc} {ad mi : Nat} (hX : XT tx ad mi A s) (hA : ∀ q : Nat, s.heap.size ≤ q → A q) (hS : va_S A s.heap H locs) (hK : va_K D vwCl tys s) (hP : va_P D vwCl ws H) (hD : va_D A ws) {av : List Value} {U : State} (hU : U.heap = H) (hW : s.WarmedH U.vm) : va_Pc av (PwT tx D tys ws H.size ad mi) av.toArray U :=
  ⟨rfl, (pw_pre (av := av) hK hP hD hU hW).2, hX.go hS hU hW (va_Aall hD hS hA)⟩
def ZIT (D : va_G) (tys : List (ClassId × FieldType)) (post : Int32 → va_W → Prop) (px : String → va_W → Prop) (below : List Frame) (av : List Value) (s : State) (mc ms : Nat) (A : Nat → Prop) : State → Prop := vx_MQ below (va_Qi post (Bw D tys A) A) (XcT D tys px A) av.toArray s mc ms A
def ZQT (D : va_G) (tys : List (ClassId × FieldType)) (post : Option Nat → va_W → Prop) (px : String → va_W → Prop) (below : List Frame) (av : List Value) (s : State) (mc ms : Nat) (A : Nat → Prop) : State → Prop := vx_MQ below (va_Qq post (Bw D tys A) A) (XcT D tys px A) av.toArray s mc ms A
section Of
variable {tx : List (Nat × String)} {D : va_G} {tys : List (ClassId × FieldType)} {l : Launch} {y : MethodName} {w w' : List Cond} {rm : Room} {av : List Value} {ws : va_W} {cc : ByteArray} {maxL : Nat} {ret : Option FieldType} {ad mi : Nat} {px : String → va_W → Prop}
theorem CIT.of {post : Int32 → va_W → Prop} (hy : plainName y.cls = true) (hw : w = Cond.code y cc maxL ret :: w') (hn : (lg_sl av).length ≤ maxL)
    (body : ∀ (p : Program) (e : Env) (s : State) (m : MethodId) (below : List Frame) (meth : Method) (c : Code) (A : Nat → Prop), Cx p s m meth c y cc ret maxL av.toArray w → (∀ x ∈ c.exceptionTable.toList, False) → va_K D vwCl tys s → va_P D vwCl ws s.heap → va_D A ws → (∀ q : Nat, s.heap.size ≤ q → A q) → va_S A s.heap s.heap [] → XT tx ad mi A s → ∀ ls : Array Slot, lv_has ls maxL (lv_args 0 av) → W p l e rm s m av.toArray below meth c s.heap [] 0 0 (ZIT D tys post px below av s rm.cells rm.slots A) (F0 m 0 ls [])) : CIT tx D tys l y w rm ad mi av ws post px := by
  intro sz
  refine vx_ofW (cc := cc) (maxL := maxL) (ret := ret) hy hw ?_
  intro p e s m args below meth c s₁ B hml hto hv
  obtain ⟨rfl, ⟨rfl, hP, hK, hD0⟩, hN⟩ := hv
  have hl := lv_entry av (n := maxL) hn
  rw [lg_entry_eq]
  exact body p e s m below meth c _ ⟨B.exec, B.bytes, B.returns, hml, atoms_spec (ws := w) B.pre, findClass_of_methodNamed B.named, B.notSynchronized, (name_of_methodNamed B.named B.method).1⟩ hto hK hP (hD0.self (sz := s.heap.size)) (fun q h => Or.inr h) va_S.rf hN _ hl
theorem CQT.of {post : Option Nat → va_W → Prop} (hy : plainName y.cls = true) (hw : w = Cond.code y cc maxL ret :: w') (hn : (lg_sl av).length ≤ maxL)
    (body : ∀ (p : Program) (e : Env) (s : State) (m : MethodId) (below : List Frame) (meth : Method) (c : Code) (A : Nat → Prop), Cx p s m meth c y cc ret maxL av.toArray w → (∀ x ∈ c.exceptionTable.toList, False) → va_K D vwCl tys s → va_P D vwCl ws s.heap → va_D A ws → (∀ q : Nat, s.heap.size ≤ q → A q) → va_S A s.heap s.heap [] → XT tx ad mi A s → ∀ ls : Array Slot, lv_has ls maxL (lv_args 0 av) → W p l e rm s m av.toArray below meth c s.heap [] 0 0 (ZQT D tys post px below av s rm.cells rm.slots A) (F0 m 0 ls [])) : CQT tx D tys l y w rm ad mi av ws post px := by
  intro sz
  refine vx_ofW (cc := cc) (maxL := maxL) (ret := ret) hy hw ?_
  intro p e s m args below meth c s₁ B hml hto hv
  obtain ⟨rfl, ⟨rfl, hP, hK, hD0⟩, hN⟩ := hv
  have hl := lv_entry av (n := maxL) hn
  rw [lg_entry_eq]
  exact body p e s m below meth c _ ⟨B.exec, B.bytes, B.returns, hml, atoms_spec (ws := w) B.pre, findClass_of_methodNamed B.named, B.notSynchronized, (name_of_methodNamed B.named B.method).1⟩ hto hK hP (hD0.self (sz := s.heap.size)) (fun q h => Or.inr h) va_S.rf hN _ hl
end Of
section Ends
variable {tx : List (Nat × String)} {D : va_G} {tys : List (ClassId × FieldType)} {p : Program} {l : Launch} {e : Env} {R : Room} {s : State} {m : MethodId} {av : List Value} {below : List Frame} {meth : Method} {c : Code} {H : Heap} {locs : List Loc} {cells slots mc ms : Nat} {A : Nat → Prop}
  {y : MethodName} {cc : ByteArray} {nL pc : Nat} {Ts : List Cond} {ls : Array Slot} {ws : va_W} {px : String → va_W → Prop} {rest : List Value} {ad mi : Nat}
theorem CIT.ret {ty : FieldType} {v : Int32} {post : Int32 → va_W → Prop} (C : Cx p s m meth c y cc (some ty) nL av.toArray Ts) (hK : va_K D vwCl tys s) (hP : va_P D vwCl ws H) (hD : va_D A ws) (hS : va_S A s.heap H locs) (hn : narrow ty (.int v) = .int v) (hp : post v ws) (hc : cells ≤ mc) (hs : slots ≤ ms) (hdg : decode cc pc = .ok (.ireturn, 1)) :
    W p l e R s m av.toArray below meth c H locs cells slots (ZIT D tys post px below av s mc ms A) (F0 m pc ls [.int v]) := vx_ret (CI.ret C hK hP hD hS hn hp hc hs hdg)
theorem CQT.ret {rt : FieldType} {v : Option Nat} {post : Option Nat → va_W → Prop} (C : Cx p s m meth c y cc (some rt) nL av.toArray Ts) (hK : va_K D vwCl tys s) (hP : va_P D vwCl ws H) (hD : va_D A ws) (hS : va_S A s.heap H locs) (hrt : (∃ n, rt = .object n) ∨ ∃ t, rt = .array t) (hp : post v ws) (hc : cells ≤ mc) (hs : slots ≤ ms) (hdg : decode cc pc = .ok (.areturn, 1)) :
    W p l e R s m av.toArray below meth c H locs cells slots (ZQT D tys post px below av s mc ms A) (F0 m pc ls [va_rf v]) := vx_ret (CQ.ret C hK hP hD hS hrt hp hc hs hdg)
/-- what a throw from here leaves -/
theorem xct_here {cls : String} (hK : va_K D vwCl tys s) (hP : va_P D vwCl ws H) (hD : va_D A ws) (hS : va_S A s.heap H locs) (hp : px cls ws) : ∀ t : State, s.vm.Alike t.vm → H.size ≤ t.heap.size → (∀ q : Nat, q < H.size → t.heap[q]? = H[q]?) → XcT D tys px A cls s t := fun t hal hz hq =>
  ⟨ws, trivial, ⟨hp, hP.kept (fun k q hk => hq _ (hP k q hk).lt), va_K.moved hal hK, hD⟩, Nat.le_trans hS.1 hz, fun q h1 h2 => by rw [hq q (Nat.lt_of_lt_of_le h1 hS.1)]; exact hS.2.1 q h1 h2⟩
/-- all words of a throw -/
theorem vt_all {ic : Nat} {cls : String} (hX : XT tx ad mi A s) (hm : (vx_atS RX8 ic cls exN).all (fun w => goodWord w || decide (w ∈ vtW)) = true) (hts : ∀ w ∈ (vx_atS RX8 ic cls exN).filter goodWord, w.before av.toArray s = true) : ∀ w ∈ vx_atS RX8 ic cls exN, w.before av.toArray s = true := fun w hw => by
  have h1 := List.all_eq_true.mp hm w hw
  cases hg : goodWord w with
  | true => exact hts w (List.mem_filter.mpr ⟨hw, hg⟩)
  | false =>
    rw [hg, Bool.false_or] at h1
    have h2 := of_decide_eq_true h1
    exact va_tabs (vt_tab (List.all_eq_true.mp vtW_s w h2)) rfl (hX.2.1 w h2)
end Ends
section Call
variable {D : va_G} {tys : List (ClassId × FieldType)} {p : Program} {l : Launch} {e : Env} {R : Room} {s : State} {m : MethodId} {args : Array Value} {below : List Frame} {meth : Method} {c : Code} {H : Heap} {locs : List Loc} {cells slots mc ms : Nat} {A A0 A1 : Nat → Prop} {Q : State → Prop} {free : Addr → Prop} {H0 : Heap} {a : Array Value}
  {pc : Nat} {ls : Array Slot} {ws : va_W} {rm2 : Room} {rest st0 : List Value} {px : String → va_W → Prop}
theorem vx_callq {S SX : Type} {post : Option Nat → S → Prop} {pxx : SX → Prop} {B : S → State → Prop} {BX : String → SX → State → Prop} {AX : Nat → Prop} (hr : vx_Run p l e R s m args below meth c H locs cells slots mc ms (F0 m pc ls st0) rest (va_Qq post B A1 a) (vx_X pxx BX AX) free) (hS : va_S A0 H0 H locs) (hA : ∀ q, q < H.size → A1 q → A0 q) (hf : ∀ q, free q → A0 q) (hAX : ∀ q, q < H.size → AX q → A0 q)
    (kx : ∀ (E : String) (ce : Cell) (q9 : Addr) (u : SX) (t : State) (H1 : Heap) (locs1 : List Loc), t.heap = H1 → s.vm.Alike t.vm → pxx u → BX E u t → H.size ≤ H1.size → (∀ q : Nat, q < H.size → ¬ AX q → H1[q]? = H[q]?) → va_S A0 H0 H1 locs1 → H1[q9]? = some ce → ce.vm = .none → s.vm.findClass E = some ce.cls → vx_W p l e R s m args below meth c H1 locs1 (cells + mc) (slots + ms) Q (F0 m pc ls rest) q9)
    (kk : ∀ (r : Option Nat) (u : S) (t : State) (H1 : Heap) (locs1 : List Loc), t.heap = H1 → s.vm.Alike t.vm → post r u → B u t → H.size ≤ H1.size → (∀ q : Nat, q < H.size → ¬ A1 q → H1[q]? = H[q]?) → va_S A0 H0 H1 locs1 → W p l e R s m args below meth c H1 locs1 (cells + mc) (slots + ms) Q (F0 m (pc + 3) ls (va_rf r :: rest))) : W p l e R s m args below meth c H locs cells slots Q (F0 m pc ls st0) := by
  intro T hT X
  rcases hr T hT X with ⟨v, st₀, t, T', L, h0, X', hL, e1, e2, ⟨⟨r, u, hv, hp, hb⟩, hF⟩, st⟩ | ⟨q, st₀, t, T', L, E, ce, h0, X', hL, e1, e2, ⟨u, hp, hb, hF⟩, hce, hcv, hcl, st⟩
  · cases hv
    obtain ⟨k1, k2, k3⟩ := vx_keep h0 e1 hS hA hf hL hF
    obtain ⟨t2, a1, b1⟩ := kk r u t T'.heap (locs ++ L) e1.symm (by rw [← e2]; exact X'.warmed.alike) hp hb k1 k2 k3 T' rfl X'
    exact ⟨t2, st t2 a1, b1⟩
  · obtain ⟨k1, k2, k3⟩ := vx_keep h0 e1 hS hAX hf hL hF
    obtain ⟨t2, a1, b1⟩ := kx E ce q u t T'.heap (locs ++ L) e1.symm (by rw [← e2]; exact X'.warmed.alike) hp hb k1 k2 k3 (by rw [e1]; exact hce) hcv hcl T' rfl X'
    exact ⟨t2, st.trans a1, b1⟩
/-- a callee that may throw: a reference, or it goes on with the exception -/
theorem CQT.go {post : Option Nat → va_W → Prop} {av : List Value} (hr : vx_Run p l e R s m args below meth c H locs cells slots rm2.cells rm2.slots (F0 m pc ls st0) rest (va_Qq post (Bw D tys (va_A ws H.size)) (va_A ws H.size) av.toArray) (XcT D tys px (va_A ws H.size)) (va_A ws H.size)) (hD : va_D A ws) (hS : va_S A s.heap H locs) (hA : ∀ q : Nat, s.heap.size ≤ q → A q)
    (kx : ∀ (E : String) (ce : Cell) (q9 : Addr) (ws' : va_W) (H1 : Heap) (locs1 : List Loc), px E ws' → va_P D vwCl ws' H1 → va_D A ws' → va_S A s.heap H1 locs1 → H1[q9]? = some ce → ce.vm = .none → s.vm.findClass E = some ce.cls → vx_W p l e R s m args below meth c H1 locs1 (cells + rm2.cells) (slots + rm2.slots) Q (F0 m pc ls rest) q9)
    (kk : ∀ (r : Option Nat) (ws' : va_W) (H1 : Heap) (locs1 : List Loc), post r ws' → va_P D vwCl ws' H1 → va_D A ws' → va_S A s.heap H1 locs1 → W p l e R s m args below meth c H1 locs1 (cells + rm2.cells) (slots + rm2.slots) Q (F0 m (pc + 3) ls (va_rf r :: rest))) : W p l e R s m args below meth c H locs cells slots Q (F0 m pc ls st0) :=
  vx_callq hr hS (fun q _ h => va_Aall hD hS hA q h) (va_Aall hD hS hA) (fun q _ h => va_Aall hD hS hA q h)
    (fun E ce q9 u t H1 locs1 ht _ _ hB _ _ hS1 h1 h2 h3 => kx E ce q9 u H1 locs1 hB.1 (by rw [← ht]; exact hB.2.1) (hB.2.2.2.weaken (fun _ q _ h => va_Aall hD hS hA q.1 h)) hS1 h1 h2 h3)
    (fun r u t H1 locs1 ht _ hp hB _ _ hS1 => kk r u H1 locs1 hp (by rw [← ht]; exact hB.1) (hB.2.2.weaken (fun _ q _ h => va_Aall hD hS hA q.1 h)) hS1)
/-- .. an int -/
theorem CIT.go {post : Int32 → va_W → Prop} {av : List Value} (hr : vx_Run p l e R s m args below meth c H locs cells slots rm2.cells rm2.slots (F0 m pc ls st0) rest (va_Qi post (Bw D tys (va_A ws H.size)) (va_A ws H.size) av.toArray) (XcT D tys px (va_A ws H.size)) (va_A ws H.size)) (hD : va_D A ws) (hS : va_S A s.heap H locs) (hA : ∀ q : Nat, s.heap.size ≤ q → A q)
    (kx : ∀ (E : String) (ce : Cell) (q9 : Addr) (ws' : va_W) (H1 : Heap) (locs1 : List Loc), px E ws' → va_P D vwCl ws' H1 → va_D A ws' → va_S A s.heap H1 locs1 → H1[q9]? = some ce → ce.vm = .none → s.vm.findClass E = some ce.cls → vx_W p l e R s m args below meth c H1 locs1 (cells + rm2.cells) (slots + rm2.slots) Q (F0 m pc ls rest) q9)
    (kk : ∀ (r : Int32) (ws' : va_W) (H1 : Heap) (locs1 : List Loc), post r ws' → va_P D vwCl ws' H1 → va_D A ws' → va_S A s.heap H1 locs1 → W p l e R s m args below meth c H1 locs1 (cells + rm2.cells) (slots + rm2.slots) Q (F0 m (pc + 3) ls (.int r :: rest))) : W p l e R s m args below meth c H locs cells slots Q (F0 m pc ls st0) :=
  vx_calli hr hS (fun q _ h => va_Aall hD hS hA q h) (va_Aall hD hS hA) (fun q _ h => va_Aall hD hS hA q h)
    (fun E ce q9 u t H1 locs1 ht _ _ hB _ _ hS1 h1 h2 h3 => kx E ce q9 u H1 locs1 hB.1 (by rw [← ht]; exact hB.2.1) (hB.2.2.2.weaken (fun _ q _ h => va_Aall hD hS hA q.1 h)) hS1 h1 h2 h3)
    (fun r u t H1 locs1 ht _ hp hB _ _ hS1 => kk r u H1 locs1 hp (by rw [← ht]; exact hB.1) (hB.2.2.weaken (fun _ q _ h => va_Aall hD hS hA q.1 h)) hS1)
end Call
section Throw
variable {tx : List (Nat × String)} {D : va_G} {tys : List (ClassId × FieldType)} {p : Program} {l : Launch} {e : Env} {R : Room} {s : State} {m : MethodId} {av : List Value} {below : List Frame} {meth : Method} {c : Code} {H : Heap} {locs : List Loc} {cells slots mc ms : Nat} {A : Nat → Prop}
  {n d : String} {cc : ByteArray} {nL pc : Nat} {Ts : List Cond} {ret : Option FieldType} {ls : Array Slot} {ws : va_W} {px : String → va_W → Prop} {rest : List Value} {ad mi : Nat} {Qc : Array Value → State → Outcome → State → Prop}
/-- throw new E("text") in TwinFinder's own code -/
theorem vt_thrS {ik is ic : Nat} {cls text : String} (C : Cx p s m meth c ⟨RX8, n, d⟩ cc ret nL av.toArray Ts) (hto : ∀ x ∈ c.exceptionTable.toList, False) (hl : l.stackTraces = false) (hX : XT tx ad mi A s) (hK : va_K D vwCl tys s) (hP : va_P D vwCl ws H) (hD : va_D A ws) (hS : va_S A s.heap H locs) (hsz : ls.size = nL)
    (hcls : Bundle.fit cls = true) (htx : (is, text) ∈ tx) (h1 : Cond.classLink RX8 ik cls ∈ Ts) (h2 : Cond.initialized cls ∈ Ts) (h3 : ∀ w ∈ (vx_atS RX8 ic cls exN).filter goodWord, w ∈ Ts) (hm : (vx_atS RX8 ic cls exN).all (fun w => goodWord w || decide (w ∈ vtW)) = true) (hg : (Cond.classLink RX8 ik cls :: Cond.initialized cls :: vx_atS RX8 ic cls exN).all vx_ot = true)
    (d0 : decode cc pc = .ok (.new ik, 3)) (d3 : decode cc (pc + 3) = .ok (.dup, 1)) (d4 : decode cc (pc + 4) = .ok (.ldc is, 2)) (d6 : decode cc (pc + 6) = .ok (.invokespecial ic, 3)) (d9 : decode cc (pc + 9) = .ok (.athrow, 1))
    (hp : px cls ws) (hRf : 5 < R.frames) (hRl : (rest.map fun v => v.category).sum + 82 ≤ R.locals) (hRc : cells + 1 ≤ R.cells) (hRs : slots + 6 ≤ R.slots) (hc : cells + 1 ≤ mc) (hs : slots + 6 ≤ ms) :
    W p l e R s m av.toArray below meth c H locs cells slots (vx_MQ below Qc (XcT D tys px A) av.toArray s mc ms A) (F0 m pc ls rest) := by
  obtain ⟨hx, hb, hr, hml, hts, hown, hlocks, hnm⟩ := C
  obtain ⟨sa, hsa⟩ := hX.2.2.2.2 _ htx
  exact vx_throwS (A := A) hx hb hl hown hcls (by decide +kernel) (hts _ h1) (hts _ h2) hsa (vt_all hX hm (fun w hw => hts w (h3 w hw))) (fun w hw => List.all_eq_true.mp hg w hw) hX.2.2.1 hX.2.2.2.1 hS (hsz.trans hml.symm) d0 d3 d4 d6 d9 (fun x hx => (hto x hx).elim) hRf hRl hRc hRs hlocks (xct_here hK hP hD hS hp) hS.2.2 hc hs
theorem vt_thrSW {ik is ic : Nat} {cls text : String} (C : Cx p s m meth c ⟨RX8, n, d⟩ cc ret nL av.toArray Ts) (hto : ∀ x ∈ c.exceptionTable.toList, False) (hl : l.stackTraces = false) (hX : XT tx ad mi A s) (hK : va_K D vwCl tys s) (hP : va_P D vwCl ws H) (hD : va_D A ws) (hS : va_S A s.heap H locs) (hsz : ls.size = nL)
    (hcls : Bundle.fit cls = true) (htx : (is, text) ∈ tx) (h1 : Cond.classLink RX8 ik cls ∈ Ts) (h2 : Cond.initialized cls ∈ Ts) (h3 : ∀ w ∈ (vx_atS RX8 ic cls exN).filter goodWord, w ∈ Ts) (hm : (vx_atS RX8 ic cls exN).all (fun w => goodWord w || decide (w ∈ vtW)) = true) (hg : (Cond.classLink RX8 ik cls :: Cond.initialized cls :: vx_atS RX8 ic cls exN).all vx_ot = true)
    (d0 : decode cc pc = .ok (.new ik, 3)) (d3 : decode cc (pc + 3) = .ok (.dup, 1)) (d4 : decode cc (pc + 4) = .ok (.ldc_w is, 3)) (d7 : decode cc (pc + 7) = .ok (.invokespecial ic, 3)) (d10 : decode cc (pc + 10) = .ok (.athrow, 1))
    (hp : px cls ws) (hRf : 5 < R.frames) (hRl : (rest.map fun v => v.category).sum + 82 ≤ R.locals) (hRc : cells + 1 ≤ R.cells) (hRs : slots + 6 ≤ R.slots) (hc : cells + 1 ≤ mc) (hs : slots + 6 ≤ ms) :
    W p l e R s m av.toArray below meth c H locs cells slots (vx_MQ below Qc (XcT D tys px A) av.toArray s mc ms A) (F0 m pc ls rest) := by
  obtain ⟨hx, hb, hr, hml, hts, hown, hlocks, hnm⟩ := C
  obtain ⟨sa, hsa⟩ := hX.2.2.2.2 _ htx
  exact vx_throwSW (A := A) hx hb hl hown hcls (by decide +kernel) (hts _ h1) (hts _ h2) hsa (vt_all hX hm (fun w hw => hts w (h3 w hw))) (fun w hw => List.all_eq_true.mp hg w hw) hX.2.2.1 hX.2.2.2.1 hS (hsz.trans hml.symm) d0 d3 d4 d7 d10 (fun x hx => (hto x hx).elim) hRf hRl hRc hRs hlocks (xct_here hK hP hD hS hp) hS.2.2 hc hs
theorem vtN_m : (vx_atS RX8 167 NSE exN).all (fun w => goodWord w || decide (w ∈ vtW)) = true := by decide +kernel
theorem vtN_g : (Cond.classLink RX8 163 NSE :: Cond.initialized NSE :: vx_atS RX8 167 NSE exN).all vx_ot = true := by decide +kernel
theorem vtI_m : (vx_atS RX8 129 IAE exN).all (fun w => goodWord w || decide (w ∈ vtW)) = true := by decide +kernel
end Throw
end THR
/-- the texts of TwinFinder's own exceptions -/
def TXT : List (Nat × String) := [(127, "there is no such mode"), (165, "no such document, or no such question"), (204, "there is no such permutation"), (206, "there is no such question"), (268, "the document is not there")]
