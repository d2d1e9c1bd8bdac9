/-! ===== permutations: exchanges in their order ===== -/
def isOut (v lo hi : Int32) : Bool := decide (v < lo) || !decide (v ≤ hi)
theorem isOut_no {v : Int32} {lo hi : Nat} (h : (isOut v (nI lo) (nI hi)).toNat = 0) (h2 : hi < 2 ^ 31) (h3 : lo ≤ hi) : ∃ k : Nat, lo ≤ k ∧ k ≤ hi ∧ v = nI k := by
  have h4 : isOut v (nI lo) (nI hi) = false := by cases hq : isOut v (nI lo) (nI hi) with
    | false => rfl
    | true => rw [hq] at h; cases h
  simp only [isOut, Bool.or_eq_false_iff, decide_eq_false_iff_not, Bool.not_eq_false', decide_eq_true_eq] at h4
  have h5 : ¬ v < 0 := fun h6 => h4.1 (Int32.lt_of_lt_of_le h6 (nI_pos' (by omega)))
  obtain ⟨k, hk, rfl⟩ := nI_of h5
  refine ⟨k, ?_, ?_, rfl⟩
  · exact Nat.le_of_not_lt (fun q => h4.1 ((nI_ltI hk (by omega)).mpr q))
  · exact (nI_leI hk h2).mp h4.2
theorem isOut_yes {v : Int32} {lo hi : Int32} (h : 0 < (isOut v lo hi).toNat) : isOut v lo hi = true := by
  cases hq : isOut v lo hi with
  | true => rfl
  | false => rw [hq] at h; cases h
theorem isOut_in {k lo hi : Nat} (h1 : lo ≤ k) (h2 : k ≤ hi) (h3 : hi < 2 ^ 31) : isOut (nI k) (nI lo) (nI hi) = false := by
  have a1 : ¬ nI k < nI lo := nI_nlt h1 (by omega)
  have a2 : nI k ≤ nI hi := nI_le h2 h3
  simp [isOut, a1, a2]
def swp (x y z : Nat) : Nat := if z = x then y else if z = y then x else z
def xst (j : Nat) (e : Nat × Nat × Nat) (z : Nat) : Nat := if e.1 = j then swp e.2.1 e.2.2 z else z
/-- what an exchange's rows hold -/
def HdE (gw go gt : Nat → Nat) (E : List (Nat × Nat × Nat)) : Prop := ∀ i (hi : i < E.length), gw i = E[i].1 ∧ go i = E[i].2.1 ∧ gt i = E[i].2.2
def Esm (E : List (Nat × Nat × Nat)) : Prop := ∀ e ∈ E, e.1 < 64 ∧ e.2.1 < 65521 ∧ e.2.2 < 65521
def imgOf (ta tb : Nat → Nat) (E : List (Nat × Nat × Nat)) (j x : Nat) : Nat := (ta j * E.foldr (xst j) x + tb j) % 65521
def Tab (ta tb : Nat → Nat) : Prop := ∀ j, j < 64 → (1 ≤ ta j ∧ ta j ≤ 65520) ∧ tb j ≤ 65520
theorem swp_lt {x y z B : Nat} (h1 : x < B) (h2 : y < B) (h3 : z < B) : swp x y z < B := by
  unfold swp
  split
  · exact h2
  · split
    · exact h1
    · exact h3
theorem xst_lt {j : Nat} {e : Nat × Nat × Nat} {z : Nat} (h : e.2.1 < 65521 ∧ e.2.2 < 65521) (hz : z < 65521) : xst j e z < 65521 := by
  unfold xst
  split
  · exact swp_lt h.1 h.2 hz
  · exact hz
theorem xst_drop {j x : Nat} {E : List (Nat × Nat × Nat)} {t : Nat} (ht : t < E.length) : (E.drop t).foldr (xst j) x = xst j E[t] ((E.drop (t + 1)).foldr (xst j) x) := by
  rw [List.drop_eq_getElem_cons ht]
  rfl
theorem nI_m (t : Nat) : nI (t + 1) - nI 1 = nI t := by rw [pk_sub (by omega)]; rfl
theorem nI_dm (t : Nat) : nI t + Int32.ofInt (-1) = nI t - nI 1 := by
  rw [Int32.sub_eq_add_neg]
  rfl
theorem imgOf_lt {ta tb : Nat → Nat} {E : List (Nat × Nat × Nat)} {j x : Nat} : imgOf ta tb E j x < 65521 := Nat.mod_lt _ (by decide)
def tellOk (j a b : Int32) : Bool := !isOut j (nI 0) (nI 63) && (!isOut a (nI 1) (nI 65520) && !isOut b (nI 0) (nI 65520))
def exOk (j x y : Int32) (n : Nat) : Bool := !isOut j (nI 0) (nI 63) && (!isOut x (nI 0) (nI 65520) && (!isOut y (nI 0) (nI 65520) && decide (n ≠ 300)))
def imOk (j x : Int32) : Bool := !isOut j (nI 0) (nI 63) && !isOut x (nI 0) (nI 65520)
def imR (ta tb : Nat → Nat) (E : List (Nat × Nat × Nat)) (j x : Int32) : Int32 := if imOk j x = true then nI (imgOf ta tb E j.toNatClampNeg x.toNatClampNeg) else -1
def exL (E : List (Nat × Nat × Nat)) (j x y : Int32) : List (Nat × Nat × Nat) := if exOk j x y E.length = true then E ++ [(j.toNatClampNeg, x.toNatClampNeg, y.toNatClampNeg)] else E
def exR (E : List (Nat × Nat × Nat)) (j x y : Int32) : Int32 := if exOk j x y E.length = true then nI (E.length + 1) else -1
def teL (E : List (Nat × Nat × Nat)) (j a b : Int32) : List (Nat × Nat × Nat) := if tellOk j a b = true then E.filter (fun e => e.1 != j.toNatClampNeg) else E
def teA (ta : Nat → Nat) (j a b : Int32) : Nat → Nat := if tellOk j a b = true then va_up ta j.toNatClampNeg a.toNatClampNeg else ta
def teB (tb : Nat → Nat) (j a b : Int32) : Nat → Nat := if tellOk j a b = true then va_up tb j.toNatClampNeg b.toNatClampNeg else tb
theorem HdE.app {gw go gt : Nat → Nat} {E : List (Nat × Nat × Nat)} {e : Nat × Nat × Nat} (h : HdE gw go gt E) : HdE (va_up gw E.length e.1) (va_up go E.length e.2.1) (va_up gt E.length e.2.2) (E ++ [e]) := by
  intro i hi
  by_cases he : i = E.length
  · subst he
    simp [va_up_self]
  · have hlt : i < E.length := by simp at hi; omega
    rw [va_up_ne _ _ he, va_up_ne _ _ he, va_up_ne _ _ he, List.getElem_append_left hlt]
    exact h i hlt
theorem filt_take {E : List (Nat × Nat × Nat)} {k : Nat} (hk : k < E.length) (p : Nat × Nat × Nat → Bool) : (E.take (k + 1)).filter p = (E.take k).filter p ++ (if p E[k] = true then [E[k]] else []) := by
  rw [← List.take_append_getElem hk, List.filter_append]
  congr 1
  rw [List.filter_cons]
  split <;> rfl
