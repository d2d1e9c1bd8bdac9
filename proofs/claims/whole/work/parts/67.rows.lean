section ROWS
theorem ShW.up1 {ws ws' : va_W} {cI cJ cO : ClassId} {ad s0 s1 s2 s3 ca eh es er nd t q : Nat} {dd : Nat → DX} {HS SS RS : List Nat} {x : DX} (h : ShW ws cI cJ cO ad s0 s1 s2 s3 ca eh es er nd dd HS SS RS) (ht : t < nd) (hu : Up q ws ws') (hq : (dd t).1.1 ≤ q ∧ q < (dd t).1.1 + 5) (hx : D5 ws' cI cJ t x) (hp : x.1 = (dd t).1) : ShW ws' cI cJ cO ad s0 s1 s2 s3 ca eh es er nd (dup dd t x) HS SS RS := by
  have h5 := h.2.2.2.2.1.1 t ht
  refine h.docs (K := fun k => k = q) ⟨Nat.le_of_eq hu.1.symm, fun k _ hn => hu.2 k hn⟩ (fun k hk => ?_) (h.2.2.2.2.1.up1 ht hu hq hx (by rw [hp])) (fun u => ?_)
  · have hk : k = q := hk
    subst hk
    refine ⟨by omega, by omega, by omega, by omega, fun e n f h9 => ?_⟩
    obtain ⟨a0, a1, a2, a3, a4⟩ := h5.1
    have : k = (dd t).1.1 ∨ k = (dd t).1.1 + 1 ∨ k = (dd t).1.1 + 2 ∨ k = (dd t).1.1 + 3 ∨ k = (dd t).1.1 + 4 := by omega
    rcases this with e9 | e9 | e9 | e9 | e9
    · rw [e9, a0] at h9; cases h9
    · rw [e9, a1] at h9; cases h9
    · rw [e9, a2] at h9; cases h9
    · rw [e9, a3] at h9; cases h9
    · rw [e9, a4] at h9; cases h9
  · by_cases e9 : u = t
    · subst e9; rw [dup_self, hp]
    · rw [dup_ne _ _ e9]
/-- least images anew -/
def dle (x : DX) (g : Nat → Nat) : DX := (x.1, x.2.1, x.2.2.1, x.2.2.2.1, x.2.2.2.2.1, g, x.2.2.2.2.2.2)
def rnA (dd : Nat → DX) (j : Nat) (v : Nat → Nat) (S : List Nat) : Nat → DX := fun t => if t ∈ S then dle (dd t) (va_up (dd t).2.2.2.2.2.1 j (v t)) else dd t
theorem rnA_nil (dd : Nat → DX) (j : Nat) (v : Nat → Nat) : rnA dd j v [] = dd := by
  funext t; rw [rnA, if_neg (by simp)]
theorem rnA_s {dd : Nat → DX} {j : Nat} {v : Nat → Nat} {S : List Nat} {t : Nat} (ht : t ∉ S) : dup (rnA dd j v S) t (dle (dd t) (va_up (dd t).2.2.2.2.2.1 j (v t))) = rnA dd j v (S ++ [t]) := by
  funext u
  by_cases e : u = t
  · subst e
    rw [dup_self, rnA, if_pos (by simp)]
  · rw [dup_ne _ _ e, rnA, rnA]
    by_cases h : u ∈ S
    · rw [if_pos h, if_pos (by simp [h])]
    · rw [if_neg h, if_neg (by simp [h, e])]
theorem nd_take {HS SS : List Nat} {i t : Nat} (h : (HS ++ SS).Nodup) (ht : HS[i]? = some t) : t ∉ HS.take i := fun h9 => by
  obtain ⟨hi, rfl⟩ := List.getElem?_eq_some_iff.mp ht
  obtain ⟨k, hk, e⟩ := List.mem_iff_getElem.mp h9
  rw [List.getElem_take] at e
  rw [List.length_take] at hk
  have h1 := (List.nodup_append.mp h).1
  have := (List.pairwise_iff_getElem.mp h1) k i (by omega) hi (by omega)
  exact this e
/-- a document's shingles, as they stand in its rows -/
def DOk (x : DX) (L : List Nat) : Prop := x.2.2.1.2 = L.length ∧ HdN x.2.2.2.2.1 L ∧ L.length ≤ 800 ∧ (∀ q ∈ L, q < 6000)
end ROWS
def dsh (x : DX) (g : Nat → Nat) : DX := (x.1, x.2.1, x.2.2.1, x.2.2.2.1, x.2.2.2.2.1, x.2.2.2.2.2.1, g)
def cuF (g c : Nat → Nat) (S : List Nat) : Nat → Nat := fun u => if u ∈ S then c u else g u
def shA (dd : Nat → DX) (tF : Nat) (c : Nat → Nat) (S : List Nat) : Nat → DX := fun t =>
  if t = tF then dsh (dd t) (cuF (dd t).2.2.2.2.2.2 c S) else if t ∈ S then dsh (dd t) (va_up (dd t).2.2.2.2.2.2 tF (c t)) else dd t
theorem cuF_nil (g c : Nat → Nat) : cuF g c [] = g := by funext u; rw [cuF, if_neg (by simp)]
theorem cuF_s {g c : Nat → Nat} {S : List Nat} {t : Nat} : va_up (cuF g c S) t (c t) = cuF g c (S ++ [t]) := by
  funext u
  by_cases e : u = t
  · subst e; rw [va_up_self, cuF, if_pos (by simp)]
  · rw [va_up_ne _ _ e, cuF, cuF]
    by_cases h : u ∈ S
    · rw [if_pos h, if_pos (by simp [h])]
    · rw [if_neg h, if_neg (by simp [h, e])]
theorem shA_nil (dd : Nat → DX) (tF : Nat) (c : Nat → Nat) : shA dd tF c [] = dd := by
  funext t
  by_cases e : t = tF
  · rw [shA, if_pos e, cuF_nil]; rfl
  · rw [shA, if_neg e, if_neg (by simp)]
theorem shA_F (dd : Nat → DX) (tF : Nat) (c : Nat → Nat) (S : List Nat) : shA dd tF c S tF = dsh (dd tF) (cuF (dd tF).2.2.2.2.2.2 c S) := by rw [shA, if_pos rfl]
theorem shA_o {dd : Nat → DX} {tF t : Nat} {c : Nat → Nat} {S : List Nat} (h1 : t ≠ tF) (h2 : t ∉ S) : shA dd tF c S t = dd t := by rw [shA, if_neg h1, if_neg h2]
theorem shA_s {dd : Nat → DX} {tF t : Nat} {c : Nat → Nat} {S : List Nat} (h1 : t ≠ tF) : dup (dup (shA dd tF c S) tF (dsh (dd tF) (cuF (dd tF).2.2.2.2.2.2 c (S ++ [t])))) t (dsh (dd t) (va_up (dd t).2.2.2.2.2.2 tF (c t))) = shA dd tF c (S ++ [t]) := by
  funext u
  by_cases e : u = t
  · subst e
    rw [dup_self, shA, if_neg h1, if_pos (by simp)]
  · rw [dup_ne _ _ e]
    by_cases e2 : u = tF
    · subst e2
      rw [dup_self, shA, if_pos rfl]
    · rw [dup_ne _ _ e2, shA, if_neg e2, shA, if_neg e2]
      by_cases h : u ∈ S
      · rw [if_pos h, if_pos (by simp [h])]
      · rw [if_neg h, if_neg (by simp [h, e])]
theorem shA_f {dd : Nat → DX} {tF : Nat} {c : Nat → Nat} {S : List Nat} : dup (shA dd tF c S) tF (dsh (dd tF) (cuF (dd tF).2.2.2.2.2.2 c (S ++ [tF]))) = shA dd tF c (S ++ [tF]) := by
  funext u
  by_cases e : u = tF
  · subst e
    rw [dup_self, shA, if_pos rfl]
  · rw [dup_ne _ _ e, shA, if_neg e, shA, if_neg e]
    by_cases h : u ∈ S
    · rw [if_pos h, if_pos (by simp [h])]
    · rw [if_neg h, if_neg (by simp [h, e])]
theorem va_up2 {g : Nat → Nat} {t v : Nat} : va_up (va_up g t v) t v = va_up g t v := by
  funext u
  by_cases e : u = t
  · subst e; rw [va_up_self, va_up_self]
  · rw [va_up_ne _ _ e]
theorem dup_dup {dd : Nat → DX} {t : Nat} {x y : DX} : dup (dup dd t x) t y = dup dd t y := by
  funext u
  by_cases e : u = t
  · subst e; rw [dup_self, dup_self]
  · rw [dup_ne _ _ e, dup_ne _ _ e, dup_ne _ _ e]
def dnm (x : DX) (v : Nat) : DX := (x.1, x.2.1, (v, x.2.2.1.2), x.2.2.2)
theorem map_cg {HS : List Nat} {dd de : Nat → DX} (h : ∀ t ∈ HS, (de t).1.2 = (dd t).1.2) : HS.map (fun t => (de t).1.2) = HS.map (fun t => (dd t).1.2) := List.map_congr_left h
theorem er_last {SS : List Nat} {t : Nat} (h : SS[SS.length - 1]? = some t) : SS = SS.eraseIdx (SS.length - 1) ++ [t] := by
  obtain ⟨hi, rfl⟩ := List.getElem?_eq_some_iff.mp h
  rw [List.eraseIdx_eq_take_drop_succ, show SS.length - 1 + 1 = SS.length by omega, List.drop_length, List.append_nil]
  conv => lhs; rw [← List.take_append_drop (SS.length - 1) SS, List.drop_eq_getElem_cons hi, show SS.length - 1 + 1 = SS.length by omega, List.drop_length]
/-- behind takeNext -/
theorem ShW.taken {ws' : va_W} {cI cJ cO : ClassId} {ad s0 s1 s2 s3 ca eh es er nd nd2 t : Nat} {dd de : Nat → DX} {HS SS2 RS : List Nat} (g16 : ws'[16]? = some (s0, (.inr (6, [.ref s1, .ref s2, .ref s3, .int (nI ca)]) : va_E))) (hLh : LW ws' cO ad 17 s1 eh (HS.map (fun t => (dd t).1.2) ++ [(de t).1.2])) (hLs : LW ws' cO ad 18 s2 es (SS2.map (fun t => (dd t).1.2))) (hLr : LW ws' cO ad 19 s3 er (RS.map (fun t => (dd t).1.2))) (hDW : DW ws' cI cJ nd2 de)
    (hEd : (eh = es → eh = ad) ∧ (eh = er → eh = ad) ∧ (es = er → es = ad)) (hN : (HS ++ [t] ++ SS2).Nodup) (hA : ∀ u ∈ HS ++ [t] ++ SS2, u < nd2) (hnd : nd2 = (HS ++ [t]).length + SS2.length) (hRS : ∀ u ∈ RS, u < nd) (hn2 : nd ≤ nd2) (h51 : 51 ≤ ws'.length) (hsame : ∀ u, u < nd → (de u).1.2 = (dd u).1.2) (hHS : ∀ u ∈ HS, u < nd) (hSS : ∀ u ∈ SS2, u < nd) : ShW ws' cI cJ cO ad s0 s1 s2 s3 ca eh es er nd2 de (HS ++ [t]) SS2 RS := by
  refine ⟨g16, ?_, ?_, ?_, hDW, hEd, hN, hA, hnd, fun u hu => Nat.lt_of_lt_of_le (hRS u hu) hn2, h51⟩
  · rw [List.map_append, map_cg (fun u hu => hsame u (hHS u hu))]; exact hLh
  · rw [map_cg (fun u hu => hsame u (hSS u hu))]; exact hLs
  · rw [map_cg (fun u hu => hsame u (hRS u hu))]; exact hLr
