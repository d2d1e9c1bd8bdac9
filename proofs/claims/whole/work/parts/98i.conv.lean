theorem va_P.conv {D : va_G} {ws : va_W} {H : Heap} {q a n : Nat} {cA : ClassId} {f g : Nat → Int32} (hP : va_P D vwCl ws H) (h : ws[q]? = some (a, (.inl (cA, n, .inl f) : va_E))) (he : ∀ j, j < n → f j = g j) : va_P D vwCl (ws.set q (a, .inl (cA, n, .inl g))) H := by
  intro k x hk
  by_cases e : k = q
  · subst e
    rw [set_at h] at hk
    cases hk
    have h1 : H[a]? = some (vp_cell cA (n, .inl f)) := hP k _ h
    show H[a]? = some (vp_cell cA (n, .inl g))
    have e2 : (fun j : Fin n => Value.int (f j.val)) = fun j : Fin n => Value.int (g j.val) := funext fun j => by rw [he j.val j.isLt]
    rw [h1, vp_cell_i, vp_cell_i]
    show some (arrV cA n _) = some (arrV cA n _)
    simp only [arrV, e2]
  · rw [List.getElem?_set_ne (Ne.symm e)] at hk
    exact hP k x hk
theorem va_D.conv {A : Nat → Prop} {ws : va_W} {q a : Nat} {x y : va_E} (hD : va_D A ws) (h : ws[q]? = some (a, x)) : va_D A (ws.set q (a, y)) := by
  have key : ∀ (k : Nat) (z : Nat × va_E), (ws.set q (a, y))[k]? = some z → ∃ w : Nat × va_E, ws[k]? = some w ∧ w.1 = z.1 := fun k z hk => by
    by_cases e : k = q
    · subst e
      rw [set_at h] at hk
      cases hk
      exact ⟨_, h, rfl⟩
    · rw [List.getElem?_set_ne (Ne.symm e)] at hk
      exact ⟨_, hk, rfl⟩
  refine ⟨fun i j u v hi hj e => ?_, fun k z hk => ?_⟩
  · obtain ⟨u2, h1, e1⟩ := key i u hi
    obtain ⟨v2, h2, e2⟩ := key j v hj
    exact hD.1 i j u2 v2 h1 h2 (by rw [e1, e2]; exact e)
  · obtain ⟨w, h1, e1⟩ := key k z hk
    rw [← e1]; exact hD.2 k w h1
theorem arr_c {s : State} {args : Array Value} {ty : FieldType} (hty : ∀ C, ty ≠ .object C) (h : (Cond.arrayClass ty).before args s = true) : ∃ cA : ClassId, ArrOfT s cA ty ∧ va_RA s cA ty := by
  obtain ⟨cA, kA, comp, h1, h2, h3⟩ := Cond.arrayClass_spec h
  refine ⟨cA, fun n z => ⟨fun k h => (by cases h), kA, h2, comp, h3⟩, ?_⟩
  cases ty <;> first | exact h1 | exact absurd rfl (hty _)
theorem arr_o {s : State} {args : Array Value} {C : String} (h : (Cond.arrayOver (.object C)).before args s = true) : ∃ cA : ClassId, ArrOfT s cA (.object C) ∧ va_RA s cA (.object C) := by
  obtain ⟨comp, cA, kA, h1, -, h2, h3, h4⟩ := Cond.arrayOver_spec h
  exact ⟨cA, fun n z => ⟨fun k h => (by cases h), kA, h2, comp, h3⟩, kA, comp, h2, h3, h1, h4⟩
theorem tab1 {ta : Nat → Nat} (h : ∀ k, k < 64 → ta k = 1) : Tab ta (fun _ => 0) := fun j hj => by
  rw [h j hj]; exact ⟨⟨by decide, by decide⟩, Nat.zero_le _⟩
theorem perm0 {ta tb : Nat → Nat} : PermC ta tb (fun _ => 0) [] [] := ⟨fun j _ => rfl, fun i j hi => absurd hi (Nat.not_lt_zero i), fun e he => absurd he List.not_mem_nil, fun j x _ _ _ => rfl⟩
