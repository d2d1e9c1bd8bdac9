section KINS
def PRL (g1 g2 : Nat → Nat) (C : List (Nat × Nat)) : Prop := ∀ k (hk : k < C.length), g1 k = C[k].1 ∧ g2 k = C[k].2
theorem PRL.nil {g1 g2 : Nat → Nat} : PRL g1 g2 [] := fun k hk => absurd hk (Nat.not_lt_zero k)
theorem PRL.app {g1 g2 : Nat → Nat} {C : List (Nat × Nat)} {a b : Nat} (h : PRL g1 g2 C) : PRL (va_up g1 C.length a) (va_up g2 C.length b) (C ++ [(a, b)]) := by
  intro i hi
  rw [List.length_append, List.length_singleton] at hi
  by_cases e2 : i = C.length
  · subst e2
    rw [va_up_self, va_up_self]; simp
  · rw [va_up_ne _ _ e2, va_up_ne _ _ e2, List.getElem_append_left (by omega)]
    exact h i (by omega)
/-- how many pairs of a list have k in them -/
def cntP (L : List (Nat × Nat)) (k : Nat) : Nat := L.countP (fun q => decide (q.1 = k) || decide (q.2 = k))
theorem cntP_app (L M : List (Nat × Nat)) (k : Nat) : cntP (L ++ M) k = cntP L k + cntP M k := List.countP_append
theorem cntP_one {a b k : Nat} (h : a ≠ b) : cntP [(a, b)] k = (decide (a = k)).toNat + (decide (b = k)).toNat := by
  rw [cntP, List.countP_singleton]
  by_cases e1 : a = k
  · have e2 : ¬ b = k := fun e => h (e1.trans e.symm)
    simp [e1, e2]
  · by_cases e2 : b = k
    · simp [e1, e2]
    · simp [e1, e2]
theorem cntP_I {f : Nat → Nat → Bool} {x k : Nat} : ∀ t, cntP (prI f x t) k = if k = x then cntB (fun u => decide (x < u) && f x u) t else (decide (x < k ∧ k < t) && f x k).toNat
  | 0 => by
    show cntP [] k = _
    by_cases e : k = x
    · rw [if_pos e]; rfl
    · rw [if_neg e, decide_eq_false (by omega)]; rfl
  | t + 1 => by
    rw [prI, cntP_app, cntP_I t]
    by_cases h : x < t ∧ f x t = true
    · rw [if_pos h, cntP_one (by omega)]
      by_cases e : k = x
      · rw [if_pos e, if_pos e, cntB, decide_eq_true (show x < t from h.1), h.2, decide_eq_true e.symm, decide_eq_false (show ¬ t = k by omega)]; rfl
      · rw [if_neg e, if_neg e, decide_eq_false (show ¬ x = k from fun e2 => e e2.symm)]
        by_cases e3 : t = k
        · subst e3
          rw [decide_eq_true rfl, decide_eq_false (show ¬ (x < t ∧ t < t) by omega), decide_eq_true (show x < t ∧ t < t + 1 by omega), h.2]; rfl
        · rw [decide_eq_false e3]
          by_cases e4 : x < k ∧ k < t
          · rw [decide_eq_true e4, decide_eq_true (show x < k ∧ k < t + 1 by omega)]; rfl
          · rw [decide_eq_false e4, decide_eq_false (show ¬ (x < k ∧ k < t + 1) by omega)]; rfl
    · rw [if_neg h]
      show _ + 0 = _
      rw [Nat.add_zero]
      by_cases e : k = x
      · rw [if_pos e, if_pos e, cntB]
        have : (decide (x < t) && f x t) = false := by
          by_cases h1 : x < t
          · rw [decide_eq_true h1]
            cases hf : f x t with
            | true => exact absurd ⟨h1, hf⟩ h
            | false => rfl
          · rw [decide_eq_false h1]; rfl
        rw [this]; rfl
      · rw [if_neg e, if_neg e]
        by_cases e3 : t = k
        · subst e3
          rw [decide_eq_false (show ¬ (x < t ∧ t < t) by omega)]
          by_cases h1 : x < t
          · have hf : f x t = false := by
              cases hf : f x t with
              | true => exact absurd ⟨h1, hf⟩ h
              | false => rfl
            rw [hf]; simp
          · rw [decide_eq_false (show ¬ (x < t ∧ t < t + 1) by omega)]
        · by_cases e4 : x < k ∧ k < t
          · rw [decide_eq_true e4, decide_eq_true (show x < k ∧ k < t + 1 by omega)]
          · rw [decide_eq_false e4, decide_eq_false (show ¬ (x < k ∧ k < t + 1) by omega)]
theorem cntP_O {f : Nat → Nat → Bool} {n k : Nat} (hk : k < n) : ∀ x, x ≤ n → cntP (prO f n x) k = (if k < x then cntB (fun u => decide (k < u) && f k u) n else 0) + cntB (fun u => decide (u < k) && f u k) (min x k)
  | 0, _ => by rw [if_neg (by omega), Nat.zero_min]; rfl
  | x + 1, hx => by
    rw [prO, cntP_app, cntP_O hk x (by omega), cntP_I]
    by_cases e : k = x
    · subst e
      rw [if_neg (Nat.lt_irrefl _), if_pos rfl, if_pos (by omega), Nat.min_self, Nat.min_eq_right (by omega)]; omega
    · rw [if_neg e]
      by_cases h : k < x
      · rw [if_pos h, if_pos (by omega), decide_eq_false (show ¬ (x < k ∧ k < n) by omega), Nat.min_eq_right (by omega), Nat.min_eq_right (by omega)]; rfl
      · rw [if_neg h, if_neg (by omega), decide_eq_true (show x < k ∧ k < n by omega), Nat.min_eq_left (by omega), Nat.min_eq_left (by omega), cntB, decide_eq_true (show x < k by omega)]; simp only [Bool.true_and]; omega
/-- twins of a place, counted by pairs -/
theorem cnt_tw {f : Nat → Nat → Bool} {n k : Nat} (hk : k < n) (hs : ∀ u, u < n → f u k = f k u) : cntP (prO f n n) k = cntB (fun t => decide (t ≠ k) && f k t) n := by
  rw [cntP_O hk n (Nat.le_refl _), if_pos hk, Nat.min_eq_right (by omega)]
  have key : ∀ m, m ≤ n → cntB (fun t => decide (t ≠ k) && f k t) m = cntB (fun u => decide (k < u) && f k u) m + cntB (fun u => decide (u < k) && f u k) (min m k) := by
    intro m
    induction m with
    | zero => intro _; rw [Nat.zero_min]; rfl
    | succ m ih =>
      intro hm
      rw [cntB, cntB, ih (by omega)]
      by_cases h1 : m < k
      · rw [Nat.min_eq_left (by omega), Nat.min_eq_left (by omega), cntB, decide_eq_true (show m ≠ k by omega), decide_eq_false (show ¬ k < m by omega), decide_eq_true h1, hs m (by omega)]
        simp only [Bool.true_and, Bool.false_and, Bool.toNat_false]; omega
      · rw [Nat.min_eq_right (by omega), Nat.min_eq_right (by omega)]
        by_cases h2 : m = k
        · rw [decide_eq_false (show ¬ m ≠ k from fun h => h h2), decide_eq_false (show ¬ k < m by omega)]; simp
        · rw [decide_eq_true h2, decide_eq_true (show k < m by omega)]; omega
  rw [key n (Nat.le_refl _), Nat.min_eq_right (by omega)]
/-- the families on the way: pairs so far are joined -/
def FamP (fa : Nat → Nat) (n : Nat) (tw : Nat → Nat → Bool) (i j : Nat) : Prop := FamI fa n tw ∧ ∀ a b, a < b → b < n → (a < i ∨ (a = i ∧ b < j)) → tw b a = true → fa b = fa a
theorem FamP.skip {fa : Nat → Nat} {n : Nat} {tw : Nat → Nat → Bool} {i j : Nat} (h : FamP fa n tw i j) (ht : tw j i = false) : FamP fa n tw i (j + 1) := ⟨h.1, fun a b h1 h2 h3 h4 => by
  by_cases e : a = i ∧ b = j
  · obtain ⟨rfl, rfl⟩ := e; rw [ht] at h4; cases h4
  · exact h.2 a b h1 h2 (by omega) h4⟩
theorem FamP.join {fa : Nat → Nat} {n : Nat} {tw : Nat → Nat → Bool} {i j : Nat} (h : FamP fa n tw i j) (hij : i < j) (hj : j < n) (ht : tw j i = true) : FamP (mrgP fa (max (fa i) (fa j)) (min (fa i) (fa j)) n) n tw i (j + 1) := by
  have hm : ∀ k, k < n → mrgP fa (max (fa i) (fa j)) (min (fa i) (fa j)) n k = mrg fa (max (fa i) (fa j)) (min (fa i) (fa j)) k := fun k hk => by
    unfold mrgP mrg
    by_cases e : fa k = max (fa i) (fa j)
    · rw [if_pos ⟨hk, e⟩, if_pos e]
    · rw [if_neg (fun h9 => e h9.2), if_neg e]
  have hI : FamI (mrgP fa (max (fa i) (fa j)) (min (fa i) (fa j)) n) n tw := by
    by_cases e : fa i = fa j
    · have hsame : ∀ k, k < n → mrgP fa (max (fa i) (fa j)) (min (fa i) (fa j)) n k = fa k := fun k hk => by
        rw [hm k hk, mrg, e, Nat.max_self, Nat.min_self]
        by_cases e2 : fa k = fa j
        · rw [if_pos e2, e2]
        · rw [if_neg e2]
      refine ⟨fun t ht2 => ?_, fun c hc t ht2 => ?_⟩
      · have h1 := h.1.1 t ht2
        rw [hsame t ht2, hsame (fa t) (by omega)]
        exact h1
      · rw [hsame t ht2]; exact h.1.2 c hc t ht2
    · exact (fam_merge h.1 hj hij ht (hi := max (fa i) (fa j)) (lo := min (fa i) (fa j)) (by omega) (by omega) hm).1
  refine ⟨hI, fun a b h1 h2 h3 h4 => ?_⟩
  rw [hm b h2, hm a (by omega), mrg, mrg]
  by_cases e : a = i ∧ b = j
  · obtain ⟨rfl, rfl⟩ := e
    by_cases e1 : fa b = max (fa a) (fa b)
    · rw [if_pos e1]
      by_cases e2 : fa a = max (fa a) (fa b)
      · rw [if_pos e2]
      · rw [if_neg e2]; omega
    · rw [if_neg e1, if_pos (by omega)]; omega
  · rw [h.2 a b h1 h2 (by omega) h4]
theorem FamP.row {fa : Nat → Nat} {n : Nat} {tw : Nat → Nat → Bool} {i j : Nat} (h : FamP fa n tw i j) (hj : n ≤ j) : FamP fa n tw (i + 1) (i + 2) := ⟨h.1, fun a b h1 h2 h3 h4 => h.2 a b h1 h2 (by omega) h4⟩
theorem FamP.done {fa : Nat → Nat} {n : Nat} {tw : Nat → Nat → Bool} {i j : Nat} (h : FamP fa n tw i j) (hi : n ≤ i) : FamOK fa n tw := ⟨h.1.1, fun a b h1 h2 h4 => h.2 b a h2 h1 (by omega) h4, h.1.2⟩
theorem cntF_up {fa : Nat → Nat} {p : Nat} {me : Nat → Nat} {n : Nat} (h : ∀ k, k < n → me k = cntF fa k p) : ∀ k, k < n → va_up me (fa p) (me (fa p) + 1) k = cntF fa k (p + 1) := fun k hk => by
  rw [cntF]
  by_cases e : k = fa p
  · subst e; rw [va_up_self, if_pos rfl, h _ hk]
  · rw [va_up_ne _ _ e, if_neg (fun e2 => e e2.symm), h k hk]; rfl
end KINS
