/-- the references of a row are documents of the world -/
def DIn (ws : va_W) (R : List Nat) : Prop := ∀ y ∈ R, ∃ (k : Nat) (vs : List Value), ws[k]? = some (y, (.inr (1, vs) : va_E))
theorem DIn.up {ws ws' : va_W} {R : List Nat} {q : Nat} (h : DIn ws R) (hu : Up q ws ws') (hq : ∀ y vs, ws[q]? = some (y, (.inr (1, vs) : va_E)) → False) : DIn ws' R := fun y hy => by
  obtain ⟨k, vs, hk⟩ := h y hy
  exact ⟨k, vs, hu.get hk (fun e => by subst e; exact hq y vs hk)⟩
theorem DIn.ps {ws ws' : va_W} {R : List Nat} (h : DIn ws R) (hu : Ps ws ws') : DIn ws' R := fun y hy => by
  obtain ⟨k, vs, hk⟩ := h y hy
  exact ⟨k, vs, hu.get hk⟩
/-- an array's first places hold the references of a row -/
def HdR (f : Nat → Option Nat) (R : List Nat) : Prop := ∀ i (hi : i < R.length), f i = some R[i]
theorem HdR.app {f : Nat → Option Nat} {R : List Nat} {x : Nat} (h : HdR f R) : HdR (va_up f R.length (some x)) (R ++ [x]) := by
  intro i hi
  rw [List.length_append, List.length_singleton] at hi
  by_cases e : i = R.length
  · subst e; rw [va_up_self]; simp
  · rw [va_up_ne _ _ e, List.getElem_append_left (by omega)]; exact h i (by omega)
theorem HdR.cpy {f g : Nat → Option Nat} {R : List Nat} {n : Nat} (h : HdR f R) (hn : R.length ≤ n) : HdR (va_cpy f g 0 0 n) R := by
  intro i hi
  rw [va_cpy, if_pos (by omega), show 0 + (i - 0) = i by omega]
  exact h i hi
theorem HdR.rm {f : Nat → Option Nat} {R : List Nat} {k : Nat} (h : HdR f R) (hk : k < R.length) : HdR (va_cpy f f (k + 1) k (R.length - 1 - k)) (R.eraseIdx k) := by
  intro i hi
  rw [List.length_eraseIdx_of_lt hk] at hi
  rw [List.getElem_eraseIdx]
  by_cases h1 : i < k
  · rw [va_cpy, if_neg (by omega), dif_pos h1]; exact h i (by omega)
  · rw [va_cpy, if_pos (by omega), dif_neg h1, show k + 1 + (i - k) = i + 1 by omega]; exact h (i + 1) (by omega)
theorem HdR.put {f : Nat → Option Nat} {R : List Nat} {k v : Nat} (h : HdR f R) (hk : R.length ≤ k) (o : Option Nat) : HdR (va_up f k o) R := by
  intro i hi
  rw [va_up_ne _ _ (by omega)]; exact h i hi
theorem HdR.ins {f : Nat → Option Nat} {R : List Nat} {k x : Nat} (h : HdR f R) (hk : k ≤ R.length) : HdR (va_up (va_cpy f f k (k + 1) (R.length - k)) k (some x)) (R.take k ++ x :: R.drop k) := by
  intro i hi
  have hl : (R.take k ++ x :: R.drop k).length = R.length + 1 := by simp; omega
  rw [hl] at hi
  have htl : (R.take k).length = k := by rw [List.length_take]; omega
  by_cases e : i = k
  · subst e
    rw [va_up_self, List.getElem_append_right (by omega)]
    simp [htl]
  · rw [va_up_ne _ _ e]
    by_cases h1 : i < k
    · rw [va_cpy, if_neg (by omega), List.getElem_append_left (by omega), List.getElem_take]
      exact h i (by omega)
    · rw [va_cpy, if_pos (by omega), List.getElem_append_right (by omega)]
      have e2 : i - (R.take k).length = (i - 1 - k) + 1 := by omega
      simp only [e2, List.getElem_cons_succ, List.getElem_drop]
      rw [show k + (i - (k + 1)) = i - 1 by omega, h (i - 1) (by omega)]
      simp only [show k + (i - 1 - k) = i - 1 by omega]
theorem HdR.nil {f : Nat → Option Nat} : HdR f [] := fun i hi => absurd hi (Nat.not_lt_zero i)
theorem DIn.el {ws : va_W} {R : List Nat} {f : Nat → Option Nat} (h : DIn ws R) (hf : HdR f R) {sp n : Nat} (hn : sp + n ≤ R.length) : ∀ i, i < n → ∃ (y k : Nat) (vs : List Value), f (sp + i) = some y ∧ ws[k]? = some (y, (.inr (1, vs) : va_E)) := fun i hi => by
  obtain ⟨k, vs, hk⟩ := h (R[sp + i]'(by omega)) (List.getElem_mem _)
  exact ⟨_, k, vs, hf (sp + i) (by omega), hk⟩
theorem arr_recv {D : va_G} {cB cI cJ cO : ClassId} {s : State} {H : Heap} {ws : va_W} {q a n : Nat} {f : Nat → Option Nat} (hK : va_K D vwCl (TY cB cI cJ cO) s) (hP : va_P D vwCl ws H) (g : ws[q]? = some (a, .inl (cO, n, .inr (.inr (.inr (.inr f)))))) : ∃ cell : Cell, H[a]? = some cell ∧ cell.vm.isStatics = false ∧ s.vm.findClass "[Ljava/lang/Object;" = some cell.cls :=
  ⟨vp_cell cO (n, .inr (.inr (.inr (.inr f)))), hP q _ g, rfl, va_nmO (hK.2 3 _ rfl).2 rfl⟩
theorem nI_half {n : Nat} (h : n < 2 ^ 31) : nI n >>> (nI 1 &&& 31) = nI (n / 2) := by
  have k := pk_shrN (n := n) (by omega) (nI 1 &&& 31) 1 (by decide)
  rw [Nat.pow_one] at k
  exact k
theorem HdR.last {f : Nat → Option Nat} {R : List Nat} {k : Nat} (h : HdR f R) (hk : k < R.length) (hl : R.length - 1 ≤ k) : HdR f (R.eraseIdx k) := by
  intro i hi
  rw [List.length_eraseIdx_of_lt hk] at hi
  rw [List.getElem_eraseIdx, dif_pos (by omega)]
  exact h i (by omega)
