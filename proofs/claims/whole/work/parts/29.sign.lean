/-! ===== compares of longs; signatures row by row ===== -/
theorem lgc_lt_t {a b : Nat} (ha : a < 2 ^ 63) (hb : b < 2 ^ 63) (h : lg_cmp (lN a) (lN b) < 0) : a < b := by
  unfold lg_cmp at h
  rcases Nat.lt_trichotomy a b with q | q | q
  · exact q
  · subst q; simp at h
  · rw [if_pos ((pk_lLT hb ha).mpr q)] at h; exact absurd h (by decide)
theorem lgc_lt_f {a b : Nat} (ha : a < 2 ^ 63) (hb : b < 2 ^ 63) (h : ¬ lg_cmp (lN a) (lN b) < 0) : b ≤ a := by
  refine Nat.le_of_not_lt (fun q => h ?_)
  unfold lg_cmp
  rw [if_neg (fun q2 => by have := (pk_lLT hb ha).mp q2; omega), if_neg (fun q2 => by have := (pk_lEQ ha hb).mp q2; omega)]
  decide
theorem lgc_eq {a b : Nat} (ha : a < 2 ^ 63) (hb : b < 2 ^ 63) : lg_cmp (lN a) (lN b) = 0 ↔ a = b := by
  unfold lg_cmp
  constructor
  · intro h
    rcases Nat.lt_trichotomy a b with q | q | q
    · rw [if_neg (fun q2 => by have := (pk_lLT hb ha).mp q2; omega), if_neg (fun q2 => by have := (pk_lEQ ha hb).mp q2; omega)] at h
      exact absurd h (by decide)
    · exact q
    · rw [if_pos ((pk_lLT hb ha).mpr q)] at h; exact absurd h (by decide)
  · intro h
    subst h
    simp
theorem lgc_ne_t {a b : Nat} (ha : a < 2 ^ 63) (hb : b < 2 ^ 63) (h : ¬ lg_cmp (lN a) (lN b) = 0) : a ≠ b := fun e => h ((lgc_eq ha hb).mpr e)
theorem lgc_ne_f {a b : Nat} (ha : a < 2 ^ 63) (hb : b < 2 ^ 63) (h : lg_cmp (lN a) (lN b) = 0) : a = b := (lgc_eq ha hb).mp h
theorem lgc_gt_t {a b : Nat} (ha : a < 2 ^ 63) (hb : b < 2 ^ 63) (h : 0 < lg_cmp (lN a) (lN b)) : b < a := by
  unfold lg_cmp at h
  rcases Nat.lt_trichotomy a b with q | q | q
  · rw [if_neg (fun q2 => by have := (pk_lLT hb ha).mp q2; omega), if_neg (fun q2 => by have := (pk_lEQ ha hb).mp q2; omega)] at h
    exact absurd h (by decide)
  · subst q; simp at h
  · exact q
theorem lgc_gt_f {a b : Nat} (ha : a < 2 ^ 63) (hb : b < 2 ^ 63) (h : ¬ 0 < lg_cmp (lN a) (lN b)) : a ≤ b := by
  refine Nat.le_of_not_lt (fun q => h ?_)
  unfold lg_cmp
  rw [if_pos ((pk_lLT hb ha).mpr q)]
  decide
/-- the rows of signatures that are done: all of the permutations below j, and of j the documents below s -/
def LPr (gl ta tb : Nat → Nat) (E : List (Nat × Nat × Nat)) (docs : List (Nat × List Nat)) (j s : Nat) : Prop := ∀ a (ha : a < docs.length) b, b < 64 → (b < j ∨ (b = j ∧ a < s)) → gl (64 * a + b) = sgOf ta tb E docs[a].2 b
theorem LPr.start {gl ta tb : Nat → Nat} {E : List (Nat × Nat × Nat)} {docs : List (Nat × List Nat)} : LPr gl ta tb E docs 0 0 := fun a _ b _ h => by omega
theorem LPr.next {gl ta tb : Nat → Nat} {E : List (Nat × Nat × Nat)} {docs : List (Nat × List Nat)} {j s : Nat} (h : LPr gl ta tb E docs j s) (hs : docs.length ≤ s) : LPr gl ta tb E docs (j + 1) 0 := fun a ha b hb h2 => h a ha b hb (by omega)
theorem LPr.put {gl ta tb : Nat → Nat} {E : List (Nat × Nat × Nat)} {docs : List (Nat × List Nat)} {j s v : Nat} (h : LPr gl ta tb E docs j s) (hs : s < docs.length) (hj : j < 64) (hv : v = sgOf ta tb E docs[s].2 j) : LPr (va_up gl (64 * s + j) v) ta tb E docs j (s + 1) := by
  intro a ha b hb h2
  by_cases e : 64 * a + b = 64 * s + j
  · have e1 : a = s := by omega
    have e2 : b = j := by omega
    subst e1; subst e2
    rw [va_up_self, hv]
  · rw [va_up_ne _ _ e]
    exact h a ha b hb (by omega)
theorem LPr.done {gl ta tb : Nat → Nat} {E : List (Nat × Nat × Nat)} {docs : List (Nat × List Nat)} {j : Nat} (h : LPr gl ta tb E docs j 0) (hj : 64 ≤ j) : LeastOK gl ta tb E docs := fun s hs b hb => h s hs b hb (by omega)
theorem any_take {E : List (Nat × Nat × Nat)} {k j : Nat} (hk : k < E.length) : (E.take (k + 1)).any (fun e => e.1 == j) = ((E.take k).any (fun e => e.1 == j) || (E[k].1 == j)) := by
  rw [← List.take_append_getElem hk, List.any_append]
  simp
theorem any_no {E : List (Nat × Nat × Nat)} {j : Nat} (h : E.any (fun e => e.1 == j) = false) : ∀ e ∈ E, e.1 ≠ j := by
  intro e he h2
  rw [List.any_eq_false] at h
  exact h e he (by simp [h2])
theorem min_if {a b : Nat} : (if b < a then b else a) = min a b := by
  by_cases h : b < a
  · rw [if_pos h, Nat.min_eq_right (by omega)]
  · rw [if_neg h, Nat.min_eq_left (by omega)]
