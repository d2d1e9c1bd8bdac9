section LWS
theorem Met.post {l : Launch} {y : MethodName} {w : List Cond} {rm : Room} {Pc : Array Value → State → Prop} {Qc Qd : Array Value → State → Outcome → State → Prop} {mc ms : Nat} {free : Addr → Prop} (h : Met l y w rm Pc Qc mc ms free) (hq : ∀ a st o t, Qc a st o t → Qd a st o t) : Met l y w rm Pc Qd mc ms free := fun p e ha hf hc s m args below h1 h2 h3 h4 => by
  obtain ⟨n, o, a, b, c, d1, d2⟩ := h p e ha hf hc s m args below h1 h2 h3 h4
  exact ⟨n, o, a, b, c, hq _ _ _ _ d1, d2⟩
variable {D : va_G} {tys : List (ClassId × FieldType)} {l : Launch} {y : MethodName} {w : List Cond} {rm : Room} {av : List Value} {ws : va_W} {ad mi : Nat}
theorem CI.weak {post post2 : Int32 → va_W → Prop} (h : CI D tys l y w rm av ws post) (hq : ∀ r u A, va_D A u → post r u → post2 r u) : CI D tys l y w rm av ws post2 := fun sz => (h sz).post (fun _ _ _ _ ⟨⟨r, u, a, b, c⟩, d⟩ => ⟨⟨r, u, a, hq r u _ c.2.2 b, c⟩, d⟩)
theorem CV.weak {post post2 : va_W → Prop} (h : CV D tys l y w rm av ws post) (hq : ∀ u A, va_D A u → post u → post2 u) : CV D tys l y w rm av ws post2 := fun sz => (h sz).post (fun _ _ _ _ ⟨⟨u, a, b, c⟩, d⟩ => ⟨⟨u, a, hq u _ c.2.2 b, c⟩, d⟩)
theorem CIX.weak {post post2 : Int32 → va_W → Prop} (h : CIX D tys l y w rm ad mi av ws post) (hq : ∀ r u A, va_D A u → post r u → post2 r u) : CIX D tys l y w rm ad mi av ws post2 := fun sz => (h sz).post (fun _ _ _ _ ⟨⟨r, u, a, b, c⟩, d⟩ => ⟨⟨r, u, a, hq r u _ c.2.2 b, c⟩, d⟩)
theorem CVX.weak {post post2 : va_W → Prop} (h : CVX D tys l y w rm ad mi av ws post) (hq : ∀ u A, va_D A u → post u → post2 u) : CVX D tys l y w rm ad mi av ws post2 := fun sz => (h sz).post (fun _ _ _ _ ⟨⟨u, a, b, c⟩, d⟩ => ⟨⟨u, a, hq u _ c.2.2 b, c⟩, d⟩)
theorem CQX.weak {post post2 : Option Nat → va_W → Prop} (h : CQX D tys l y w rm ad mi av ws post) (hq : ∀ r u A, va_D A u → post r u → post2 r u) : CQX D tys l y w rm ad mi av ws post2 := fun sz => (h sz).post (fun _ _ _ _ ⟨⟨r, u, a, b, c⟩, d⟩ => ⟨⟨r, u, a, hq r u _ c.2.2 b, c⟩, d⟩)
/-- a list at place p: its references; the array of its elements has the address e (ad: the machine's own empty one) -/
def LW (ws : va_W) (cO : ClassId) (ad p a e : Nat) (R : List Nat) : Prop := ∃ mc : Int32, ws[p]? = some (a, (.inr (0, [.int mc, .ref e, .int (nI R.length)]) : va_E)) ∧
  ((e = ad ∧ R = []) ∨ ∃ (q cap : Nat) (f : Nat → Option Nat), ws[q]? = some (e, (.inl (cO, cap, .inr (.inr (.inr (.inr f)))) : va_E)) ∧ 51 ≤ q ∧ R.length ≤ cap ∧ (cap = 10 ∨ cap = 15 ∨ cap = 22 ∨ cap = 33 ∨ cap = 49) ∧ HdR f R)
/-- a place of an array of references with this address -/
def QAt (ws : va_W) (cO : ClassId) (e k : Nat) : Prop := 51 ≤ k ∧ ∃ (n : Nat) (f : Nat → Option Nat), ws[k]? = some (e, (.inl (cO, n, .inr (.inr (.inr (.inr f)))) : va_E))
def FreshA (ws : va_W) (e : Nat) : Prop := ∀ (k : Nat) (z : va_E), ws[k]? = some (e, z) → False
theorem nq {ws : va_W} {cO : ClassId} {p e k : Nat} {x : Nat × va_E} (g : ws[k]? = some x) (h1 : k ≠ p) (h2 : ∀ n f, x ≠ (e, (.inl (cO, n, .inr (.inr (.inr (.inr f)))) : va_E))) : ¬ (k = p ∨ QAt ws cO e k) := fun h => by
  rcases h with h | ⟨-, n, f, h⟩
  · exact h1 h
  · exact h2 n f (Option.some.inj (g.symm.trans h))
theorem LW.frame {ws ws' : va_W} {cO : ClassId} {ad p e p2 a2 e2 : Nat} {R2 : List Nat} (h : LW ws cO ad p2 a2 e2 R2) (hs : Sm (fun k => k = p ∨ QAt ws cO e k) ws ws') (hp : p2 ≠ p) (hp5 : p < 51) (he : e2 = e → e2 = ad ∧ R2 = []) (hp6 : p2 < 51) : LW ws' cO ad p2 a2 e2 R2 := by
  obtain ⟨mc, g, h⟩ := h
  refine ⟨mc, hs.get g (nq g hp (fun n f => by simp)), ?_⟩
  rcases h with h | ⟨q, cap, f, h1, h2, h3, h4, h5⟩
  · exact Or.inl h
  · by_cases e9 : e2 = e
    · exact Or.inl (he e9)
    · exact Or.inr ⟨q, cap, f, hs.get h1 (nq h1 (by omega) (fun n f => by simp [e9])), h2, h3, h4, h5⟩
theorem LW.len {ws : va_W} {cO : ClassId} {ad p a e : Nat} {R : List Nat} (h : LW ws cO ad p a e R) : R.length ≤ 49 := by
  obtain ⟨mc, g, h⟩ := h
  rcases h with ⟨-, h⟩ | ⟨q, cap, f, h1, h2, h3, h4, h5⟩
  · rw [h]; exact Nat.zero_le _
  · omega
theorem LW.recv {D : va_G} {tys : List (ClassId × FieldType)} {s : State} {H : Heap} {ws : va_W} {cO : ClassId} {ad p a e : Nat} {R : List Nat} (hK : va_K D vwCl tys s) (hP : va_P D vwCl ws H) (h : LW ws cO ad p a e R) : ∃ cell : Cell, H[a]? = some cell ∧ cell.vm.isStatics = false ∧ s.vm.findClass RJx4a65c = some cell.cls := by
  obtain ⟨mc, g, -⟩ := h
  exact va_recv hK hP (ci := 0) (q0 := p) rfl g
variable {cB cI cJ cO : ClassId} {p a e : Nat} {R : List Nat}
theorem c_L_size (hL : LW ws cO ad p a e R) : CI D (TY cB cI cJ cO) l yJx4a65c_size_8abf5 wsJx4a65c_size_8abf5 ({ frames := 0, cells := 0, slots := 0, locals := 0 }) [.ref a] ws (fun r ws' => r = nI (R.length) ∧ ws = ws') := by
  obtain ⟨mc, g, -⟩ := hL
  exact c_Jx4a65c_size_8abf5 g
theorem c_L_isEmpty (hL : LW ws cO ad p a e R) : CI D (TY cB cI cJ cO) l yJx4a65c_isEmpty_aae02 wsJx4a65c_isEmpty_aae02 ({ frames := 0, cells := 0, slots := 0, locals := 0 }) [.ref a] ws (fun r ws' => r = nI ((decide (R.length = 0)).toNat) ∧ ws = ws') := by
  have hl := hL.len
  obtain ⟨mc, g, -⟩ := hL
  exact c_Jx4a65c_isEmpty_aae02 g (by omega)
theorem c_L_get {i v : Nat} (hL : LW ws cO ad p a e R) (hv : R[i]? = some v) : CQ D (TY cB cI cJ cO) l yJx4a65c_get_915e3 wsJx4a65c_get_915e3 ({ frames := 2, cells := 0, slots := 0, locals := 43 }) [.ref a, .int (nI i)] ws (fun r ws' => r = some (v) ∧ ws = ws') := by
  obtain ⟨mc, g, h⟩ := hL
  obtain ⟨hi, hv⟩ := List.getElem?_eq_some_iff.mp hv
  rcases h with ⟨-, h⟩ | ⟨q, cap, f, h1, h2, h3, h4, h5⟩
  · subst h; exact absurd hi (Nat.not_lt_zero _)
  · exact c_Jx4a65c_get_915e3 g h1 hi h3 (by omega) (by rw [h5 i hi, hv])
theorem fresh_of {ws ws' : va_W} {p a q2 : Nat} {x y z : va_E} {A : Nat → Prop} (hD : va_D A ws') (hs : Sm (fun k => k = p) ws ws') (gp : ws[p]? = some (a, x)) (gp' : ws'[p]? = some (a, y)) (g : ws'[ws.length]? = some (q2, z)) : FreshA ws q2 := fun k z2 h => by
  have hk := gl_lt h
  by_cases e : k = p
  · subst e
    have e2 : a = q2 := congrArg Prod.fst (Option.some.inj (gp.symm.trans h))
    have := hD.1 k ws.length _ _ gp' g e2
    omega
  · have := hD.1 k ws.length _ _ (hs.get h e) g rfl
    omega
theorem c_L_add {x xq : Nat} {vs : List Value} (hL : LW ws cO ad p a e R) (hx : ws[xq]? = some (x, (.inr (1, vs) : va_E))) (h49 : R.length < 49) (hel : DIn ws R) (hp : p < 51) (h51 : 51 ≤ ws.length) :
    CIX D (TY cB cI cJ cO) l yJx4a65c_add_9ea2d wsJx4a65c_add_9ea2d ({ frames := 6, cells := 1, slots := 49, locals := 150 }) ad mi [.ref a, .ref x] ws (fun r ws' => ∃ e2 : Nat, r = nI (1) ∧ (LW ws' cO ad p a e2 (R ++ [x])) ∧ (e2 = e ∨ FreshA ws e2) ∧ (DIn ws' R) ∧ Sm (fun k => k = p ∨ QAt ws cO e k) ws ws') := by
  obtain ⟨mc, g, h⟩ := hL
  rcases h with ⟨rfl, rfl⟩ | ⟨q, cap, f, h1, h2, h3, h4, h5⟩
  · refine CIX.weak (c_Jx4a65c_addC1 (R := []) (L0 := ws.length) g hx rfl hel) (fun r u A hD ⟨q2, k1, k2, k3, k4, k5, k6⟩ => ?_)
    exact ⟨q2, k1, ⟨_, k5, Or.inr ⟨ws.length, 10, _, k6, h51, by simp, by omega, HdR.nil.app⟩⟩, Or.inr (fresh_of hD k4 g k5 k6), k2, k4.mono (fun k hk => Or.inl hk)⟩
  · by_cases hf : R.length = cap
    · refine CIX.weak (c_Jx4a65c_addB1 (L0 := ws.length) g h1 hx rfl h5 hf (by omega) hel) (fun r u A hD ⟨q2, k1, k2, k3, k4, k5, k6⟩ => ?_)
      exact ⟨q2, k1, ⟨_, k5, Or.inr ⟨ws.length, _, _, k6, h51, by rw [List.length_append, List.length_singleton]; omega, by omega, (h5.cpy (by omega)).app⟩⟩, Or.inr (fresh_of hD k4 g k5 k6), k2, k4.mono (fun k hk => Or.inl hk)⟩
    · refine CIX.weak (c_Jx4a65c_addA1 g h1 hx h5 (by omega) (by omega) hel) (fun r u A hD ⟨k1, k2, k4, k5, k6⟩ => ?_)
      exact ⟨e, k1, ⟨_, k5, Or.inr ⟨q, cap, _, k6, h2, by rw [List.length_append, List.length_singleton]; omega, h4, h5.app⟩⟩, Or.inl rfl, k2, k4.mono (fun k hk => hk.elim Or.inl (fun hk => Or.inr (by subst hk; exact ⟨h2, cap, f, h1⟩)))⟩
theorem c_L_ins {x xq i : Nat} {vs : List Value} (hL : LW ws cO ad p a e R) (hx : ws[xq]? = some (x, (.inr (1, vs) : va_E))) (hi : i ≤ R.length) (h49 : R.length < 49) (hel : DIn ws R) (hp : p < 51) (h51 : 51 ≤ ws.length) :
    CVX D (TY cB cI cJ cO) l yJx4a65c_add_7a177 wsJx4a65c_add_7a177 ({ frames := 5, cells := 1, slots := 49, locals := 127 }) ad mi [.ref a, .int (nI i), .ref x] ws (fun ws' => ∃ e2 : Nat, (LW ws' cO ad p a e2 (R.take i ++ x :: R.drop i)) ∧ (e2 = e ∨ FreshA ws e2) ∧ (DIn ws' R) ∧ Sm (fun k => k = p ∨ QAt ws cO e k) ws ws') := by
  have hil : (R.take i ++ x :: R.drop i).length = R.length + 1 := by simp; omega
  obtain ⟨mc, g, h⟩ := hL
  rcases h with ⟨rfl, rfl⟩ | ⟨q, cap, f, h1, h2, h3, h4, h5⟩
  · have e0 : i = 0 := Nat.le_zero.mp hi
    subst e0
    refine CVX.weak (c_Jx4a65c_insC (R := []) (L0 := ws.length) g hx rfl hel) (fun u A hD ⟨q2, k2, k3, k4, k5, k6⟩ => ?_)
    exact ⟨q2, ⟨_, k5, Or.inr ⟨ws.length, 10, _, k6, h51, by simp, by omega, HdR.nil.app⟩⟩, Or.inr (fresh_of hD k4 g k5 k6), k2, k4.mono (fun k hk => Or.inl hk)⟩
  · by_cases hf : R.length = cap
    · refine CVX.weak (c_Jx4a65c_insB (i := i) (L0 := ws.length) g h1 hx rfl h5 hi hf (by omega) hel) (fun u A hD ⟨q2, k2, k3, k4, k5, k6⟩ => ?_)
      exact ⟨q2, ⟨_, k5, Or.inr ⟨ws.length, _, _, k6, h51, by rw [hil]; omega, by omega, (h5.cpy (by omega)).ins hi⟩⟩, Or.inr (fresh_of hD k4 g k5 k6), k2, k4.mono (fun k hk => Or.inl hk)⟩
    · refine CVX.weak (c_Jx4a65c_insA (i := i) g h1 hx h5 hi (by omega) (by omega) hel) (fun u A hD ⟨k2, k4, k5, k6⟩ => ?_)
      exact ⟨e, ⟨_, k5, Or.inr ⟨q, cap, _, k6, h2, by rw [hil]; omega, h4, h5.ins hi⟩⟩, Or.inl rfl, k2, k4.mono (fun k hk => hk.elim Or.inl (fun hk => Or.inr (by subst hk; exact ⟨h2, cap, f, h1⟩)))⟩
theorem c_L_remove {i v : Nat} (hL : LW ws cO ad p a e R) (hv : R[i]? = some v) (hel : DIn ws R) :
    CQX D (TY cB cI cJ cO) l yJx4a65c_remove_915e3 wsJx4a65c_remove_915e3 ({ frames := 2, cells := 0, slots := 0, locals := 63 }) ad mi [.ref a, .int (nI i)] ws (fun r ws' => r = some (v) ∧ (LW ws' cO ad p a e (R.eraseIdx i)) ∧ (DIn ws' R) ∧ Sm (fun k => k = p ∨ QAt ws cO e k) ws ws') := by
  obtain ⟨mc, g, h⟩ := hL
  obtain ⟨hi, hv⟩ := List.getElem?_eq_some_iff.mp hv
  rcases h with ⟨-, h⟩ | ⟨q, cap, f, h1, h2, h3, h4, h5⟩
  · subst h; exact absurd hi (Nat.not_lt_zero _)
  · refine CQX.weak (c_Jx4a65c_remove_915e3 (v := v) g h1 h5 hi h3 (by omega) (by rw [h5 i hi, hv]) hel) (fun r u A hD ⟨f2, k1, k2, k3, k4, k5, k6⟩ => ?_)
    exact ⟨k1, ⟨_, k5, Or.inr ⟨q, cap, f2, k6, h2, by rw [List.length_eraseIdx_of_lt hi]; omega, h4, k2⟩⟩, k3, k4.mono (fun k hk => hk.elim Or.inl (fun hk => Or.inr (by subst hk; exact ⟨h2, cap, f, h1⟩)))⟩
theorem c_L_clear (hL : LW ws cO ad p a e R) (hel : DIn ws R) :
    CVX D (TY cB cI cJ cO) l yJx4a65c_clear_da8c8 wsJx4a65c_clear_da8c8 ({ frames := 0, cells := 0, slots := 0, locals := 0 }) ad mi [.ref a] ws (fun ws' => (LW ws' cO ad p a e []) ∧ (DIn ws' R) ∧ Sm (fun k => k = p ∨ QAt ws cO e k) ws ws') := by
  obtain ⟨mc, g, h⟩ := hL
  rcases h with ⟨rfl, rfl⟩ | ⟨q, cap, f, h1, h2, h3, h4, h5⟩
  · refine CVX.weak (c_Jx4a65c_clear0 (R := []) g hel) (fun u A hD ⟨k2, k4, k5⟩ => ?_)
    exact ⟨⟨_, k5, Or.inl ⟨rfl, rfl⟩⟩, k2, k4.mono (fun k hk => Or.inl hk)⟩
  · refine CVX.weak (c_Jx4a65c_clear_da8c8 g h1 h3 (by omega) hel) (fun u A hD ⟨f2, k2, k4, k5, k6⟩ => ?_)
    exact ⟨⟨_, k5, Or.inr ⟨q, cap, f2, k6, h2, Nat.zero_le _, h4, HdR.nil⟩⟩, k2, k4.mono (fun k hk => hk.elim Or.inl (fun hk => Or.inr (by subst hk; exact ⟨h2, cap, f, h1⟩)))⟩
end LWS
