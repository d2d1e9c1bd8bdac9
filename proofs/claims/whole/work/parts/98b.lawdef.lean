/-- what is held at the loop's head -/
def LwI (cB cI cJ cO : ClassId) (ad z0 m0 o0 : Nat) (ws : va_W) : Prop := ∃ (T : List Int32) (sh : List (List Int32)) (so wi : Nat) (ta tb : Nat → Nat) (E : List (Nat × Nat × Nat)) (docs : List (Nat × List Nat)) (ca bb rr pp qq : Nat), Ok T sh so wi ta tb E docs ca bb rr pp qq ∧ CoI cB cI cJ cO ad z0 T sh so wi ta tb E docs ca bb rr pp qq ws ∧ (∃ th : Nat, MoI cB cI m0 th T sh so wi ta tb E docs ca bb rr pp qq ws) ∧ ∃ v : Nat → Int64, ws[50]? = some (o0, (.inl (cJ, 1, .inr (.inl v)) : va_E))
/-- what the law's body has at hand -/
def LC (p : Program) (l : Launch) (s : State) (m : MethodId) (meth : Method) (c : Code) (b L : Nat) (xs : Nat → Int32) (D : va_G) (cB cI cJ cO : ClassId) (ad mi : Nat) : Prop :=
  p.tables.exec = Jvm.exec ∧ c.code = cL_law ∧ meth.sig.returnType = ret ∧ c.maxLocals = 7 ∧ s.vm.findClass RL = some m.cls ∧ (∀ w ∈ wsL_law, w.before #[Value.ref b] s = true) ∧ va_X b L xs s s.heap ∧ b < s.heap.size ∧ meth.locks = false ∧ l.stackTraces = false ∧ va_K D vwCl (TY cB cI cJ cO) s ∧ XT TXT ad mi (fun q : Nat => s.heap.size ≤ q) s
def LGo (p : Program) (l : Launch) (e : Env) (s : State) (m : MethodId) (below : List Frame) (meth : Method) (c : Code) (b : Nat) (D : va_G) (cB cI cJ cO : ClassId) (ad z0 m0 o0 i cells slots : Nat) : Prop :=
  ∀ (ws : va_W) (H : Heap) (locs : List Loc) (ls : Array Slot), LwI cB cI cJ cO ad z0 m0 o0 ws → va_P D vwCl ws H → va_D (fun q : Nat => s.heap.size ≤ q) ws → va_S (fun q : Nat => s.heap.size ≤ q) s.heap H locs → lv_has ls 7 [(0, .ref b), (1, .ref z0), (2, .ref m0), (3, .ref o0), (4, .int (nI i))] → W p l e room_1 s m #[Value.ref b] below meth c H locs cells slots (lw_Z below #[Value.ref b] s) (F0 m 1033 ls [])
/-- an int of the script onto the stack -/
theorem lw_arg {p : Program} {l : Launch} {e : Env} {R : Room} {s : State} {m : MethodId} {args : Array Value} {below : List Frame} {meth : Method} {c : Code} {H : Heap} {locs : List Loc} {cells slots : Nat} {Q : State → Prop} {A : Nat → Prop} {b L : Nat} {xs : Nat → Int32} {ls : Array Slot} {rest : List Value} {i pc : Nat} (hx : p.tables.exec = Jvm.exec) (hb : c.code = cL_law) (hX : va_X b L xs s s.heap) (hbl : b < s.heap.size) (hbA : ¬ A b) (hS : va_S A s.heap H locs) (h0 : ls[0]? = some (.val (.ref b))) (h4 : ls[4]? = some (.val (.int (nI i)))) (j : Nat) (hj : i + j < L) (hL : L < 2 ^ 31) {n : Int} (hn : Int32.ofInt n = nI j)
    (d0 : decode cL_law pc = .ok (.aload_n 0, 1)) (d1 : decode cL_law (pc + 1) = .ok (.iload 4, 2)) (d2 : decode cL_law (pc + 3) = .ok (.iconst n, 1)) (d3 : decode cL_law (pc + 4) = .ok (.iadd, 1)) (d4 : decode cL_law (pc + 5) = .ok (.iaload, 1))
    (kk : W p l e R s m args below meth c H locs cells slots Q (F0 m (pc + 6) ls (.int (xs (i + j)) :: rest))) : W p l e R s m args below meth c H locs cells slots Q (F0 m pc ls rest) := by
  refine lv_aload_n hx hb d0 rfl h0 ?_
  refine lv_iload hx hb d1 h4 ?_
  refine lv_iconst (v := nI j) hx hb d2 hn ?_
  refine nx_iadd hx hb d3 ?_
  refine va_sld hx hb hX hbl hbA hS (vp_in_nI hj hL) d4 ?_
  rw [nI_clamp (by omega)]
  exact kk
