section DWS
/-- a document's rows: place and address; its arrays' addresses; number and size; set, numbers, least images, shared -/
abbrev DX : Type := (Nat × Nat) × (Nat × Nat × Nat × Nat) × (Nat × Nat) × ((Nat → Int64) × (Nat → Nat) × (Nat → Nat) × (Nat → Nat))
def D5 (ws : va_W) (cI cJ : ClassId) (t : Nat) (x : DX) : Prop :=
  ws[x.1.1]? = some (x.1.2, (.inr (1, [.int (nI t), .ref x.2.1.1, .ref x.2.1.2.1, .ref x.2.1.2.2.1, .ref x.2.1.2.2.2, .int (nI x.2.2.1.1), .int (nI x.2.2.1.2)]) : va_E)) ∧
  ws[x.1.1 + 1]? = some (x.2.1.1, (.inl (cJ, 94, .inr (.inl x.2.2.2.1)) : va_E)) ∧ ws[x.1.1 + 2]? = some (x.2.1.2.1, (.inl (cI, 800, .inl (fun jj => nI (x.2.2.2.2.1 jj))) : va_E)) ∧
  ws[x.1.1 + 3]? = some (x.2.1.2.2.1, (.inl (cI, 64, .inl (fun jj => nI (x.2.2.2.2.2.1 jj))) : va_E)) ∧ ws[x.1.1 + 4]? = some (x.2.1.2.2.2, (.inl (cI, 48, .inl (fun jj => nI (x.2.2.2.2.2.2 jj))) : va_E))
def DW (ws : va_W) (cI cJ : ClassId) (nd : Nat) (dd : Nat → DX) : Prop := (∀ t, t < nd → D5 ws cI cJ t (dd t) ∧ 51 ≤ (dd t).1.1) ∧ (∀ t u, t < nd → u < nd → t ≠ u → (dd t).1.1 + 5 ≤ (dd u).1.1 ∨ (dd u).1.1 + 5 ≤ (dd t).1.1)
/-- one document's rows are others now -/
def dup (dd : Nat → DX) (t : Nat) (x : DX) : Nat → DX := fun k => if k = t then x else dd k
theorem dup_self (dd : Nat → DX) (t : Nat) (x : DX) : dup dd t x t = x := if_pos rfl
theorem dup_ne (dd : Nat → DX) {t k : Nat} (x : DX) (h : k ≠ t) : dup dd t x k = dd k := if_neg h
theorem D5.frame {ws ws' : va_W} {cI cJ : ClassId} {t : Nat} {x : DX} {K : Nat → Prop} (h : D5 ws cI cJ t x) (hs : Sm K ws ws') (hk : ∀ i, i < 5 → ¬ K (x.1.1 + i)) : D5 ws' cI cJ t x :=
  ⟨hs.get h.1 (hk 0 (by decide)), hs.get h.2.1 (hk 1 (by decide)), hs.get h.2.2.1 (hk 2 (by decide)), hs.get h.2.2.2.1 (hk 3 (by decide)), hs.get h.2.2.2.2 (hk 4 (by decide))⟩
/-- nothing of the documents was written -/
theorem DW.frame {ws ws' : va_W} {cI cJ cO : ClassId} {nd p e : Nat} {dd : Nat → DX} (h : DW ws cI cJ nd dd) (hs : Sm (fun k => k = p ∨ QAt ws cO e k) ws ws') (hp : p < 51) : DW ws' cI cJ nd dd := by
  refine ⟨fun t ht => ?_, h.2⟩
  obtain ⟨h5, h51⟩ := h.1 t ht
  refine ⟨⟨hs.get h5.1 (nq h5.1 (by omega) (fun n f => by simp)), hs.get h5.2.1 (nq h5.2.1 (by omega) (fun n f => by simp)), hs.get h5.2.2.1 (nq h5.2.2.1 (by omega) (fun n f => by simp)), hs.get h5.2.2.2.1 (nq h5.2.2.2.1 (by omega) (fun n f => by simp)), hs.get h5.2.2.2.2 (nq h5.2.2.2.2 (by omega) (fun n f => by simp))⟩, h51⟩
theorem DW.low {ws ws' : va_W} {cI cJ : ClassId} {nd : Nat} {dd : Nat → DX} {K : Nat → Prop} (h : DW ws cI cJ nd dd) (hs : Sm K ws ws') (hK : ∀ k, K k → k < 51) : DW ws' cI cJ nd dd := by
  refine ⟨fun t ht => ?_, h.2⟩
  obtain ⟨h5, h51⟩ := h.1 t ht
  exact ⟨h5.frame hs (fun i _ hk => by have := hK _ hk; omega), h51⟩
/-- of one document only was written -/
theorem DW.one {ws ws' : va_W} {cI cJ : ClassId} {nd t : Nat} {dd : Nat → DX} {K : Nat → Prop} {x : DX} (h : DW ws cI cJ nd dd) (ht : t < nd) (hs : Sm K ws ws') (hK : ∀ k, K k → k < 51 ∨ ((dd t).1.1 ≤ k ∧ k < (dd t).1.1 + 5)) (hx : D5 ws' cI cJ t x) (hp : x.1.1 = (dd t).1.1) : DW ws' cI cJ nd (dup dd t x) := by
  refine ⟨fun u hu => ?_, fun u v hu hv huv => ?_⟩
  · by_cases e : u = t
    · subst e
      rw [dup_self]
      exact ⟨hx, by rw [hp]; exact (h.1 u hu).2⟩
    · rw [dup_ne _ _ e]
      obtain ⟨h5, h51⟩ := h.1 u hu
      refine ⟨h5.frame hs (fun i hi hk => ?_), h51⟩
      have h6 := h.2 u t hu ht e
      rcases hK _ hk with h7 | h7
      · omega
      · omega
  · have e1 : ∀ z, (dup dd t x z).1.1 = (dd z).1.1 := fun z => by
      by_cases e : z = t
      · subst e; rw [dup_self, hp]
      · rw [dup_ne _ _ e]
    rw [e1, e1]
    exact h.2 u v hu hv huv
/-- a new document has come -/
theorem DW.new {ws ws' : va_W} {cI cJ : ClassId} {nd : Nat} {dd : Nat → DX} {K : Nat → Prop} {x : DX} (h : DW ws cI cJ nd dd) (hs : Sm K ws ws') (hK : ∀ k, K k → k < 51 ∨ ws.length ≤ k) (hx : D5 ws' cI cJ nd x) (hp : x.1.1 = ws.length) (h51 : 51 ≤ ws.length) : DW ws' cI cJ (nd + 1) (dup dd nd x) := by
  have hlt : ∀ u, u < nd → (dd u).1.1 + 5 ≤ ws.length := fun u hu => gl_lt (h.1 u hu).1.2.2.2.2
  refine ⟨fun u hu => ?_, fun u v hu hv huv => ?_⟩
  · by_cases e : u = nd
    · subst e
      rw [dup_self]
      exact ⟨hx, by rw [hp]; exact h51⟩
    · rw [dup_ne _ _ e]
      obtain ⟨h5, h51⟩ := h.1 u (by omega)
      have h9 := hlt u (by omega)
      refine ⟨h5.frame hs (fun i hi hk => ?_), h51⟩
      rcases hK _ hk with h7 | h7
      · omega
      · omega
  · by_cases e : u = nd
    · subst e
      rw [dup_self, dup_ne _ _ (Ne.symm huv), hp]
      exact Or.inr (hlt v (by omega))
    · by_cases e2 : v = nd
      · subst e2
        rw [dup_self, dup_ne _ _ e, hp]
        exact Or.inl (hlt u (by omega))
      · rw [dup_ne _ _ e, dup_ne _ _ e2]
        exact h.2 u v (by omega) (by omega) huv
theorem DW.din {ws : va_W} {cI cJ : ClassId} {nd : Nat} {dd : Nat → DX} (h : DW ws cI cJ nd dd) {HS : List Nat} (hh : ∀ t ∈ HS, t < nd) : DIn ws (HS.map (fun t => (dd t).1.2)) := fun y hy => by
  obtain ⟨t, ht, rfl⟩ := List.mem_map.mp hy
  exact ⟨_, _, (h.1 t (hh t ht)).1.1⟩
theorem LW.ad {ws : va_W} {cO : ClassId} {ad p a : Nat} {R : List Nat} (h : LW ws cO ad p a ad R) (hf : FreshA ws ad) : R = [] := by
  obtain ⟨mc, g, h⟩ := h
  rcases h with ⟨-, h⟩ | ⟨q, cap, f, h1, -⟩
  · exact h
  · exact (hf _ _ h1).elim
theorem fresh_ad {ad mi : Nat} {A : Nat → Prop} {s : State} {ws : va_W} (hX : XS ad mi A s) (hD : va_D A ws) : FreshA ws ad := fun k z h => hX.2.2.2.1.out (hD.2 k _ h)
theorem LW.low {ws ws' : va_W} {cO : ClassId} {ad p a e : Nat} {R : List Nat} {K : Nat → Prop} (h : LW ws cO ad p a e R) (hs : Sm K ws ws') (hp : ¬ K p) (hK : ∀ k n f, 51 ≤ k → ws[k]? = some (e, (.inl (cO, n, .inr (.inr (.inr (.inr f)))) : va_E)) → ¬ K k) : LW ws' cO ad p a e R := by
  obtain ⟨mc, g, h⟩ := h
  refine ⟨mc, hs.get g hp, ?_⟩
  rcases h with h | ⟨q, cap, f, h1, h2, h3, h4, h5⟩
  · exact Or.inl h
  · exact Or.inr ⟨q, cap, f, hs.get h1 (hK q cap f h2 h1), h2, h3, h4, h5⟩
theorem map_at {HS : List Nat} {dd : Nat → DX} {i t a : Nat} (h : HS[i]? = some t) (ha : (dd t).1.2 = a) : (HS.map (fun t => (dd t).1.2))[i]? = some a := by
  rw [List.getElem?_map, h, ← ha]; rfl
/-- the shelf's places -/
def ShW (ws : va_W) (cI cJ cO : ClassId) (ad s0 s1 s2 s3 ca eh es er nd : Nat) (dd : Nat → DX) (HS SS RS : List Nat) : Prop :=
  ws[16]? = some (s0, (.inr (6, [.ref s1, .ref s2, .ref s3, .int (nI ca)]) : va_E)) ∧ LW ws cO ad 17 s1 eh (HS.map (fun t => (dd t).1.2)) ∧ LW ws cO ad 18 s2 es (SS.map (fun t => (dd t).1.2)) ∧ LW ws cO ad 19 s3 er (RS.map (fun t => (dd t).1.2)) ∧
  DW ws cI cJ nd dd ∧ ((eh = es → eh = ad) ∧ (eh = er → eh = ad) ∧ (es = er → es = ad)) ∧ (HS ++ SS).Nodup ∧ (∀ t ∈ HS ++ SS, t < nd) ∧ nd = HS.length + SS.length ∧ (∀ t ∈ RS, t < nd) ∧ 51 ≤ ws.length
theorem ShW.low {ws ws' : va_W} {cI cJ cO : ClassId} {ad s0 s1 s2 s3 ca eh es er nd : Nat} {dd : Nat → DX} {HS SS RS : List Nat} {K : Nat → Prop} (h : ShW ws cI cJ cO ad s0 s1 s2 s3 ca eh es er nd dd HS SS RS) (hs : Sm K ws ws') (hK : ∀ k, K k → k < 51 ∧ k ≠ 16 ∧ k ≠ 17 ∧ k ≠ 18 ∧ k ≠ 19) : ShW ws' cI cJ cO ad s0 s1 s2 s3 ca eh es er nd dd HS SS RS := by
  obtain ⟨h1, h2, h3, h4, h5, h6⟩ := h
  have hq : ∀ e k n f, 51 ≤ k → ws[k]? = some (e, (.inl (cO, n, .inr (.inr (.inr (.inr f)))) : va_E)) → ¬ K k := fun e k n f h _ hk => by have := hK k hk; omega
  exact ⟨hs.get h1 (fun hk => (hK _ hk).2.1 rfl), h2.low hs (fun hk => (hK _ hk).2.2.1 rfl) (hq _), h3.low hs (fun hk => (hK _ hk).2.2.2.1 rfl) (hq _), h4.low hs (fun hk => (hK _ hk).2.2.2.2 rfl) (hq _), h5.low hs (fun k hk => (hK k hk).1), h6.1, h6.2.1, h6.2.2.1, h6.2.2.2.1, h6.2.2.2.2.1, Nat.le_trans h6.2.2.2.2.2 hs.1⟩
/-- only documents were written -/
theorem ShW.docs {ws ws' : va_W} {cI cJ cO : ClassId} {ad s0 s1 s2 s3 ca eh es er nd : Nat} {dd de : Nat → DX} {HS SS RS : List Nat} {K : Nat → Prop} (h : ShW ws cI cJ cO ad s0 s1 s2 s3 ca eh es er nd dd HS SS RS) (hs : Sm K ws ws') (hK : ∀ k, K k → k ≠ 16 ∧ k ≠ 17 ∧ k ≠ 18 ∧ k ≠ 19 ∧ ∀ e n f, ws[k]? ≠ some (e, (.inl (cO, n, .inr (.inr (.inr (.inr f)))) : va_E))) (hW : DW ws' cI cJ nd de) (ha : ∀ t, (de t).1.2 = (dd t).1.2) : ShW ws' cI cJ cO ad s0 s1 s2 s3 ca eh es er nd de HS SS RS := by
  obtain ⟨h1, h2, h3, h4, h5, h6⟩ := h
  have hm : (fun t => (de t).1.2) = (fun t => (dd t).1.2) := funext ha
  rw [show ShW ws' cI cJ cO ad s0 s1 s2 s3 ca eh es er nd de HS SS RS = (ws'[16]? = some (s0, (.inr (6, [.ref s1, .ref s2, .ref s3, .int (nI ca)]) : va_E)) ∧ LW ws' cO ad 17 s1 eh (HS.map (fun t => (de t).1.2)) ∧ LW ws' cO ad 18 s2 es (SS.map (fun t => (de t).1.2)) ∧ LW ws' cO ad 19 s3 er (RS.map (fun t => (de t).1.2)) ∧ DW ws' cI cJ nd de ∧ ((eh = es → eh = ad) ∧ (eh = er → eh = ad) ∧ (es = er → es = ad)) ∧ (HS ++ SS).Nodup ∧ (∀ t ∈ HS ++ SS, t < nd) ∧ nd = HS.length + SS.length ∧ (∀ t ∈ RS, t < nd) ∧ 51 ≤ ws'.length) from rfl, hm]
  have hq : ∀ e k n f, 51 ≤ k → ws[k]? = some (e, (.inl (cO, n, .inr (.inr (.inr (.inr f)))) : va_E)) → ¬ K k := fun e k n f _ h9 hk => (hK k hk).2.2.2.2 e n f h9
  exact ⟨hs.get h1 (fun hk => (hK _ hk).1 rfl), h2.low hs (fun hk => (hK _ hk).2.1 rfl) (hq _), h3.low hs (fun hk => (hK _ hk).2.2.1 rfl) (hq _), h4.low hs (fun hk => (hK _ hk).2.2.2.1 rfl) (hq _), hW, h6.1, h6.2.1, h6.2.2.1, h6.2.2.2.1, h6.2.2.2.2.1, Nat.le_trans h6.2.2.2.2.2 hs.1⟩
end DWS
