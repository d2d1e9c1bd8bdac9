section SHF
def Pl (z : va_E) : Prop := match z with
  | .inr (0, _) => False
  | .inl (_, _, .inr (.inr (.inr (.inr _)))) => False
  | _ => True
theorem LW.up {ws ws' : va_W} {cO : ClassId} {ad p a e q : Nat} {R : List Nat} (h : LW ws cO ad p a e R) (hu : Up q ws ws') (hq : ∀ y z, ws[q]? = some (y, z) → Pl z) : LW ws' cO ad p a e R := by
  obtain ⟨mc, g, h⟩ := h
  refine ⟨mc, hu.get g (fun e9 => by subst e9; exact hq _ _ g), ?_⟩
  rcases h with h | ⟨q2, cap, f, h1, h2, h3, h4, h5⟩
  · exact Or.inl h
  · exact Or.inr ⟨q2, cap, f, hu.get h1 (fun e9 => by subst e9; exact hq _ _ h1), h2, h3, h4, h5⟩
theorem LW.ps {ws ws' : va_W} {cO : ClassId} {ad p a e : Nat} {R : List Nat} (h : LW ws cO ad p a e R) (hu : Ps ws ws') : LW ws' cO ad p a e R := by
  obtain ⟨mc, g, h⟩ := h
  refine ⟨mc, hu.get g, ?_⟩
  rcases h with h | ⟨q2, cap, f, h1, h2, h3, h4, h5⟩
  · exact Or.inl h
  · exact Or.inr ⟨q2, cap, f, hu.get h1, h2, h3, h4, h5⟩
theorem LW.one {ws ws' : va_W} {cO : ClassId} {ad p a e q : Nat} {R : List Nat} (h : LW ws cO ad p a e R) (hu : Sm (fun k => k = q) ws ws') (hq : ∀ y z, ws[q]? = some (y, z) → Pl z) : LW ws' cO ad p a e R := by
  obtain ⟨mc, g, h⟩ := h
  refine ⟨mc, hu.get g (fun e9 => by (try simp only at e9); subst e9; exact hq _ _ g), ?_⟩
  rcases h with h | ⟨q2, cap, f, h1, h2, h3, h4, h5⟩
  · exact Or.inl h
  · exact Or.inr ⟨q2, cap, f, hu.get h1 (fun e9 => by (try simp only at e9); subst e9; exact hq _ _ h1), h2, h3, h4, h5⟩
theorem LW.he {ws : va_W} {cO : ClassId} {ad p a e e2 : Nat} {R : List Nat} (h : LW ws cO ad p a e2 R) (hf : FreshA ws ad) (hed : e2 = e → e2 = ad) : e2 = e → e2 = ad ∧ R = [] := fun e9 => by
  have e8 := hed e9
  rw [e8] at h
  exact ⟨e8, h.ad hf⟩
theorem DW.up0 {ws ws' : va_W} {cI cJ : ClassId} {nd q : Nat} {dd : Nat → DX} (h : DW ws cI cJ nd dd) (hu : Up q ws ws') (hq : q < 51) : DW ws' cI cJ nd dd :=
  h.low (K := fun k => k = q) ⟨Nat.le_of_eq hu.1.symm, fun k _ hn => hu.2 k hn⟩ (fun k hk => by (try simp only at hk); omega)
theorem DW.ps {ws ws' : va_W} {cI cJ : ClassId} {nd : Nat} {dd : Nat → DX} (h : DW ws cI cJ nd dd) (hu : Ps ws ws') : DW ws' cI cJ nd dd :=
  h.low (K := fun _ => False) ⟨by rw [hu.1]; exact Nat.le_succ _, fun k hk _ => hu.2 k hk⟩ (fun k hk => hk.elim)
theorem DW.up1 {ws ws' : va_W} {cI cJ : ClassId} {nd q t : Nat} {dd : Nat → DX} {x : DX} (h : DW ws cI cJ nd dd) (ht : t < nd) (hu : Up q ws ws') (hq : (dd t).1.1 ≤ q ∧ q < (dd t).1.1 + 5) (hx : D5 ws' cI cJ t x) (hp : x.1.1 = (dd t).1.1) : DW ws' cI cJ nd (dup dd t x) :=
  h.one (K := fun k => k = q) ht ⟨Nat.le_of_eq hu.1.symm, fun k _ hn => hu.2 k hn⟩ (fun k hk => by (try simp only at hk); omega) hx hp
def rmH (HS : List Nat) (o : Option Nat) : List Nat := match o with
  | none => HS
  | some i => HS.eraseIdx i
def adSp (SS HS : List Nat) (o : Option Nat) : List Nat := match o with
  | none => SS
  | some i => SS ++ [HS.getD i 0]
theorem map_er {HS : List Nat} {dd : Nat → DX} {i : Nat} : (HS.map (fun t => (dd t).1.2)).eraseIdx i = (HS.eraseIdx i).map (fun t => (dd t).1.2) := by
  apply List.ext_getElem?
  intro k
  rw [List.getElem?_map, List.getElem?_eraseIdx, List.getElem?_eraseIdx]
  split <;> rw [List.getElem?_map]
theorem map_ap {HS : List Nat} {dd : Nat → DX} {t a : Nat} (h : (dd t).1.2 = a) : HS.map (fun t => (dd t).1.2) ++ [a] = (HS ++ [t]).map (fun t => (dd t).1.2) := by rw [List.map_append, ← h]; rfl
theorem sw_lists {HS SS : List Nat} {nd i t : Nat} (h1 : (HS ++ SS).Nodup) (h2 : ∀ t ∈ HS ++ SS, t < nd) (h3 : nd = HS.length + SS.length) (ht : HS[i]? = some t) : (HS.eraseIdx i ++ (SS ++ [t])).Nodup ∧ (∀ u ∈ HS.eraseIdx i ++ (SS ++ [t]), u < nd) ∧ nd = (HS.eraseIdx i).length + (SS ++ [t]).length := by
  obtain ⟨hi, rfl⟩ := List.getElem?_eq_some_iff.mp ht
  have hp : (HS.eraseIdx i ++ (SS ++ [HS[i]])).Perm (HS ++ SS) := by
    have e1 : HS = HS.take i ++ HS[i] :: HS.drop (i + 1) := by
      conv => lhs; rw [← List.take_append_drop i HS, List.drop_eq_getElem_cons hi]
    have e2 : HS.eraseIdx i = HS.take i ++ HS.drop (i + 1) := List.eraseIdx_eq_take_drop_succ HS i
    rw [e2]
    refine List.Perm.trans ?_ (List.Perm.of_eq (congrArg (· ++ SS) e1.symm))
    rw [List.append_assoc, List.append_assoc]
    refine List.Perm.append_left _ ?_
    rw [← List.append_assoc]
    refine List.Perm.trans (List.perm_append_comm) ?_
    exact List.Perm.refl _
  refine ⟨hp.nodup_iff.mpr h1, fun u hu => h2 u (hp.mem_iff.mp hu), ?_⟩
  rw [h3, ← List.length_append, ← hp.length_eq, List.length_append]
end SHF
theorem LW.ed {ws : va_W} {cO : ClassId} {ad p a e e2 e3 : Nat} {R : List Nat} (h : LW ws cO ad p a e R) (hf : e2 = e3 ∨ FreshA ws e2) (hed : e = e3 → e = ad) : e = e2 → e = ad := fun e9 => by
  rcases hf with hf | hf
  · exact hed (e9.trans hf)
  · obtain ⟨mc, g, h⟩ := h
    rcases h with ⟨h, -⟩ | ⟨q, cap, f, h1, -⟩
    · exact h
    · rw [e9] at h1
      exact (hf _ _ h1).elim
theorem getD_at {HS : List Nat} {i t : Nat} (h : HS[i]? = some t) : HS.getD i 0 = t := by rw [List.getD_eq_getElem?_getD, h]; rfl
theorem take_s {HS : List Nat} {i t : Nat} (h : HS[i]? = some t) : HS.take (i + 1) = HS.take i ++ [t] := by rw [List.take_add_one, h]; rfl
theorem sw_all {HS SS : List Nat} {nd : Nat} (h1 : (HS ++ SS).Nodup) (h2 : ∀ t ∈ HS ++ SS, t < nd) (h3 : nd = HS.length + SS.length) : (([] : List Nat) ++ (SS ++ HS)).Nodup ∧ (∀ u ∈ ([] : List Nat) ++ (SS ++ HS), u < nd) ∧ nd = ([] : List Nat).length + (SS ++ HS).length := by
  have hp : (([] : List Nat) ++ (SS ++ HS)).Perm (HS ++ SS) := by rw [List.nil_append]; exact List.perm_append_comm
  refine ⟨hp.nodup_iff.mpr h1, fun u hu => h2 u (hp.mem_iff.mp hu), ?_⟩
  rw [h3, List.length_append, List.length_nil]; omega
