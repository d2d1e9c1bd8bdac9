section PUB
def prsC (sz1 sz2 : Nat) (me : Nat → Nat) (n : Nat) (kd : Int32) : Int32 := if kd = nI 0 then nI sz1 else if kd = nI 1 then nI sz2 else if kd = nI 2 then nI (selL (fun k => decide (2 ≤ me k)) n).length else if kd = nI 3 then nI (selL (fun k => decide (1 ≤ me k)) n).length else -1
def prC (c1 c2 t1 t2 nu me : Nat → Nat) (sz1 sz2 n : Nat) (kd i w : Int32) : Int32 := if kd = nI 0 then sideR c1 c2 sz1 i w else if kd = nI 1 then sideR t1 t2 sz2 i w else if kd = nI 2 then (if w = 0 then faR nu (fun k => decide (2 ≤ me k)) n i else -1) else if kd = nI 3 then (if w = 0 then faR nu (fun k => decide (1 ≤ me k)) n i else -1) else -1
theorem tab_no {x : Int32} {hi k : Nat} (h : x.toInt < 0 ∨ (hi : Int) < x.toInt) (hk : k ≤ hi) (hh : hi < 2 ^ 31) : ¬ x = nI k := fun e => by
  rw [e, nI_toInt (by omega)] at h
  omega
theorem prs_out {sz1 sz2 n : Nat} {me : Nat → Nat} {kd : Int32} (h : kd.toInt < 0 ∨ ((3 : Nat) : Int) < kd.toInt) : prsC sz1 sz2 me n kd = -1 := by
  rw [prsC, if_neg (tab_no h (by decide) (by decide)), if_neg (tab_no h (by decide) (by decide)), if_neg (tab_no h (by decide) (by decide)), if_neg (tab_no h (by decide) (by decide))]
theorem prC_out {c1 c2 t1 t2 nu me : Nat → Nat} {sz1 sz2 n : Nat} {kd i w : Int32} (h : kd.toInt < 0 ∨ ((3 : Nat) : Int) < kd.toInt) : prC c1 c2 t1 t2 nu me sz1 sz2 n kd i w = -1 := by
  rw [prC, if_neg (tab_no h (by decide) (by decide)), if_neg (tab_no h (by decide) (by decide)), if_neg (tab_no h (by decide) (by decide)), if_neg (tab_no h (by decide) (by decide))]
theorem KinOK.small {dd : Nat → DX} {HS : List Nat} {rr bb pp qq plc : Nat} {c1 c2 t1 t2 nu tc fa me : Nat → Nat} {sz1 sz2 : Nat} (h : KinOK dd HS rr bb pp qq plc c1 c2 t1 t2 nu tc fa me sz1 sz2) (h48 : HS.length ≤ 48) : plc ≤ 48 ∧ sz1 ≤ 1128 ∧ sz2 ≤ 1128 ∧ (∀ k, k < plc → me k ≤ 48) ∧ ∀ k, k < plc → fa k < 48 := by
  obtain ⟨e1, e2, -, e3, -, -, -, e4, e5⟩ := h
  have l1 := prO_len2 (f := bdH dd HS rr bb) (n := HS.length) HS.length (Nat.le_refl _)
  have l2 := prO_len2 (f := twH dd HS rr bb pp qq) (n := HS.length) HS.length (Nat.le_refl _)
  have hsq : ∀ y, y ≤ 48 → 2 * y * y - y * y - y ≤ 2256 := by decide
  have h9 := hsq HS.length h48
  refine ⟨by omega, by omega, by omega, fun k hk => ?_, fun k hk => ?_⟩
  · rw [e5 k (by omega)]
    have := cntF_le fa k HS.length
    omega
  · have := (e4.1 k (by omega)).1; omega
theorem tell_j {j a b : Int32} (h : tellOk j a b = true) : ∃ j1 : Nat, j1 < 64 ∧ j = nI j1 := by
  rw [tellOk] at h
  have h1 : isOut j (nI 0) (nI 63) = false := by
    cases h9 : isOut j (nI 0) (nI 63) with
    | false => rfl
    | true => rw [h9] at h; cases h
  obtain ⟨k, -, hk, e⟩ := isOut_no (lo := 0) (hi := 63) (v := j) (by rw [h1]; rfl) (by decide) (by decide)
  exact ⟨k, by omega, e⟩
theorem ex_j {j x y : Int32} {n : Nat} (h : exOk j x y n = true) : ∃ j1 : Nat, j1 < 64 ∧ j = nI j1 := by
  rw [exOk] at h
  have h1 : isOut j (nI 0) (nI 63) = false := by
    cases h9 : isOut j (nI 0) (nI 63) with
    | false => rfl
    | true => rw [h9] at h; cases h
  obtain ⟨k, -, hk, e⟩ := isOut_no (lo := 0) (hi := 63) (v := j) (by rw [h1]; rfl) (by decide) (by decide)
  exact ⟨k, by omega, e⟩
theorem Tab.tell {ta tb : Nat → Nat} {j a b : Int32} (h : Tab ta tb) : Tab (teA ta j a b) (teB tb j a b) := by
  rw [teA, teB]
  cases hk : tellOk j a b with
  | false => exact h
  | true =>
    rw [if_pos rfl, if_pos rfl]
    rw [tellOk] at hk
    have h1 : isOut a (nI 1) (nI 65520) = false ∧ isOut b (nI 0) (nI 65520) = false := by
      cases h8 : isOut a (nI 1) (nI 65520) <;> cases h9 : isOut b (nI 0) (nI 65520) <;> rw [h8, h9] at hk <;> simp_all
    obtain ⟨a1, ha0, ha, rfl⟩ := isOut_no (lo := 1) (hi := 65520) (v := a) (by rw [h1.1]; rfl) (by decide) (by decide)
    obtain ⟨b1, -, hb, rfl⟩ := isOut_no (lo := 0) (hi := 65520) (v := b) (by rw [h1.2]; rfl) (by decide) (by decide)
    rw [nI_clamp (by omega), nI_clamp (by omega)]
    intro k hk2
    by_cases e : k = j.toNatClampNeg
    · subst e; rw [va_up_self, va_up_self]; exact ⟨⟨ha0, ha⟩, hb⟩
    · rw [va_up_ne _ _ e, va_up_ne _ _ e]; exact h k hk2
theorem teL_len {E : List (Nat × Nat × Nat)} {j a b : Int32} : (teL E j a b).length ≤ E.length := by
  rw [teL]; split
  · exact List.length_filter_le _ _
  · exact Nat.le_refl _
theorem exL_len {E : List (Nat × Nat × Nat)} {j x y : Int32} (h : E.length ≤ 300) : (exL E j x y).length ≤ 300 := by
  rw [exL]; split
  · next h9 =>
    rw [List.length_append, List.length_singleton]
    have : E.length ≠ 300 := fun e => by
      rw [exOk, e] at h9; simp at h9
    omega
  · exact h
end PUB
