section ALLOC
variable {D : va_G} {tys : List (ClassId × FieldType)} {p : Program} {l : Launch} {e : Env} {R : Room} {s : State} {m : MethodId} {args : Array Value} {below : List Frame} {meth : Method} {c : Code} {H : Heap} {locs : List Loc} {cells slots : Nat} {A : Nat → Prop} {Q : State → Prop} {cc : ByteArray} {pc : Nat} {ls : Array Slot} {rest : List Value} {ws : va_W}
/-- an array of a primitive type: its class is the one that is known -/
theorem nx_newa (hx : p.tables.exec = Jvm.exec) (hb : c.code = cc) {atype : ArrayType} {ty : FieldType} (hty : newarray.typeOf atype = ty) (harr : (Cond.arrayClass ty).before args s = true) (hno : ∀ C, ty ≠ .object C) (hK : va_K D vwCl tys s) (hP : va_P D vwCl ws H) (hD : va_D A ws) (hS : va_S A s.heap H locs) (hA : ∀ q, s.heap.size ≤ q → A q) (k : Nat) {cT : ClassId} (hk : tys[k]? = some (cT, ty))
    {N' : Nat} {a0 : vp_A} (ha : ∀ cA : ClassId, vp_cell cA a0 = arrV cA N' (fun _ => defaultValue ty)) (hN : N' < 2 ^ 31) (hbytes : N' * componentBytes ty ≤ 536870912) (hcells : cells + 1 ≤ R.cells) (hslots : slots + N' ≤ R.slots) (hdg : decode cc pc = .ok (.newarray atype, 2))
    (kk : ∀ (q : Nat) (ws' : va_W) (H1 : Heap), ws'[ws.length]? = some (q, .inl (cT, a0)) → Ps ws ws' → va_P D vwCl ws' H1 → va_D A ws' → va_S A s.heap H1 locs →
      W p l e R s m args below meth c H1 locs (cells + 1) (slots + N') Q (F0 m (pc + 2) ls (.ref q :: rest))) : W p l e R s m args below meth c H locs cells slots Q (F0 m pc ls (.int (nI N') :: rest)) := by
  subst hty
  refine va_newa hx hb harr rfl hK hP hD hS hA ha (nI_pos hN) (nI_clamp hN) hbytes hcells hslots hdg (fun q cA H1 hK1 hP1 hD1 hS1 => ?_)
  have h1 := (hK1.2 tys.length (cA, newarray.typeOf atype) (by simp)).2
  have h2 := (hK.2 k (cT, newarray.typeOf atype) hk).2
  have e : cA = cT := by
    cases atype <;> exact Option.some.inj (h1.symm.trans h2)
  subst e
  exact kk q _ H1 app_at ps_app hP1 hD1 hS1
theorem nx_newI (hx : p.tables.exec = Jvm.exec) (hb : c.code = cc) (harr : (Cond.arrayClass .int).before args s = true) {cB cI cJ cO : ClassId} (hK : va_K D vwCl (TY cB cI cJ cO) s) (hP : va_P D vwCl ws H) (hD : va_D A ws) (hS : va_S A s.heap H locs) (hA : ∀ q, s.heap.size ≤ q → A q)
    {N' : Nat} (hN : N' ≤ 100000) (hcells : cells + 1 ≤ R.cells) (hslots : slots + N' ≤ R.slots) (hdg : decode cc pc = .ok (.newarray .int, 2))
    (kk : ∀ (q : Nat) (ws' : va_W) (H1 : Heap), ws'[ws.length]? = some (q, .inl (cI, N', .inl (fun jj => nI ((fun _ => 0) jj)))) → Ps ws ws' → va_P D vwCl ws' H1 → va_D A ws' → va_S A s.heap H1 locs →
      W p l e R s m args below meth c H1 locs (cells + 1) (slots + N') Q (F0 m (pc + 2) ls (.ref q :: rest))) : W p l e R s m args below meth c H locs cells slots Q (F0 m pc ls (.int (nI N') :: rest)) :=
  nx_newa (atype := .int) (ty := .int) hx hb rfl harr (fun _ h => nomatch h) hK hP hD hS hA 1 rfl (a0 := (N', .inl (fun jj => nI ((fun _ => 0) jj)))) (fun _ => rfl) (by omega) (by show N' * 4 ≤ _; omega) hcells hslots hdg kk
theorem nx_newB (hx : p.tables.exec = Jvm.exec) (hb : c.code = cc) (harr : (Cond.arrayClass .byte).before args s = true) {cB cI cJ cO : ClassId} (hK : va_K D vwCl (TY cB cI cJ cO) s) (hP : va_P D vwCl ws H) (hD : va_D A ws) (hS : va_S A s.heap H locs) (hA : ∀ q, s.heap.size ≤ q → A q)
    {N' : Nat} (hN : N' ≤ 100000) (hcells : cells + 1 ≤ R.cells) (hslots : slots + N' ≤ R.slots) (hdg : decode cc pc = .ok (.newarray .byte, 2))
    (kk : ∀ (q : Nat) (ws' : va_W) (H1 : Heap), ws'[ws.length]? = some (q, .inl (cB, N', .inl (fun _ => 0))) → Ps ws ws' → va_P D vwCl ws' H1 → va_D A ws' → va_S A s.heap H1 locs →
      W p l e R s m args below meth c H1 locs (cells + 1) (slots + N') Q (F0 m (pc + 2) ls (.ref q :: rest))) : W p l e R s m args below meth c H locs cells slots Q (F0 m pc ls (.int (nI N') :: rest)) :=
  nx_newa (atype := .byte) (ty := .byte) hx hb rfl harr (fun _ h => nomatch h) hK hP hD hS hA 0 rfl (a0 := (N', .inl (fun _ => 0))) (fun _ => rfl) (by omega) (by show N' * 1 ≤ _; omega) hcells hslots hdg kk
theorem nx_newJ (hx : p.tables.exec = Jvm.exec) (hb : c.code = cc) (harr : (Cond.arrayClass .long).before args s = true) {cB cI cJ cO : ClassId} (hK : va_K D vwCl (TY cB cI cJ cO) s) (hP : va_P D vwCl ws H) (hD : va_D A ws) (hS : va_S A s.heap H locs) (hA : ∀ q, s.heap.size ≤ q → A q)
    {N' : Nat} (hN : N' ≤ 100000) (hcells : cells + 1 ≤ R.cells) (hslots : slots + N' ≤ R.slots) (hdg : decode cc pc = .ok (.newarray .long, 2))
    (kk : ∀ (q : Nat) (ws' : va_W) (H1 : Heap), ws'[ws.length]? = some (q, .inl (cJ, N', .inr (.inl (fun _ => 0)))) → Ps ws ws' → va_P D vwCl ws' H1 → va_D A ws' → va_S A s.heap H1 locs →
      W p l e R s m args below meth c H1 locs (cells + 1) (slots + N') Q (F0 m (pc + 2) ls (.ref q :: rest))) : W p l e R s m args below meth c H locs cells slots Q (F0 m pc ls (.int (nI N') :: rest)) :=
  nx_newa (atype := .long) (ty := .long) hx hb rfl harr (fun _ h => nomatch h) hK hP hD hS hA 2 rfl (a0 := (N', .inr (.inl (fun _ => 0)))) (fun _ => rfl) (by omega) (by show N' * 8 ≤ _; omega) hcells hslots hdg kk
theorem nx_new (hx : p.tables.exec = Jvm.exec) (hb : c.code = cc) {own C : String} {T : u_T} {N ci index : Nat} {Ts : List Cond} (hts : ∀ w ∈ Ts, w.before args s = true) (hin : ∀ w ∈ u_ws C T N, w ∈ Ts) (ty : Nat → FieldType) (hty : ∀ k, k < N → parseFieldDescriptor (T k).2.2.1 = some (ty k)) (hown : s.vm.findClass own = some m.cls) (hcl : (Cond.classLink own index C).before args s = true) (hinst : (Cond.instantiable C N).before args s = true) (hini : (Cond.initialized C).before args s = true)
    (hK : va_K D vwCl tys s) (hP : va_P D vwCl ws H) (hD : va_D A ws) (hS : va_S A s.heap H locs) (hA : ∀ q, s.heap.size ≤ q → A q) (hc : vwCl[ci]? = some (C, T, N)) {fs : List Value} (hfs : ∀ j, j < N → defaultValue (ty j) = vp_V fs j) (hcells : cells + 1 ≤ R.cells) (hslots : slots + N ≤ R.slots) (hdg : decode cc pc = .ok (.new index, 3))
    (kk : ∀ (q : Nat) (ws' : va_W) (H1 : Heap), ws'[ws.length]? = some (q, .inr (ci, fs)) → Ps ws ws' → va_P D vwCl ws' H1 → va_D A ws' → va_S A s.heap H1 locs →
      W p l e R s m args below meth c H1 locs (cells + 1) (slots + N) Q (F0 m (pc + 3) ls (.ref q :: rest))) : W p l e R s m args below meth c H locs cells slots Q (F0 m pc ls rest) :=
  va_new hx hb hts hin ty hty hown hcl hinst hini hK hP hD hS hA hc hfs hcells hslots hdg (fun q H1 h1 h2 h3 => kk q _ H1 app_at ps_app h1 h2 h3)
end ALLOC
theorem Sm.calln {K K' : Nat → Prop} {a b c : va_W} (h1 : Sm K a b) (h2 : Sm K' b c) (hk : ∀ k, K' k → K k ∨ a.length ≤ k) : Sm K a c :=
  ⟨Nat.le_trans h1.1 h2.1, fun k hk1 hn => (h2.2 k (Nat.lt_of_lt_of_le hk1 h1.1) (fun h => (hk k h).elim hn (fun h9 => absurd hk1 (Nat.not_lt.mpr h9)))).trans (h1.2 k hk1 hn)⟩
theorem Sm.upn {K : Nat → Prop} {q : Nat} {a b c : va_W} (h1 : Sm K a b) (h2 : Up q b c) (hq : a.length ≤ q) : Sm K a c :=
  ⟨by rw [h2.1]; exact h1.1, fun k hk hn => (h2.2 k (fun e => by subst e; exact absurd hk (Nat.not_lt.mpr hq))).trans (h1.2 k hk hn)⟩
