/-! ===== the component's permutations: moved images, rising by their keys ===== -/
theorem isOut_alt (x : Int32) (hi : Nat) (h : hi + 1 < 2 ^ 31) : isOut x (nI 0) (nI hi) = !(decide (¬ x < 0) && decide (¬ nI (hi + 1) ≤ x)) := by
  have e0 : (nI 0).toInt = 0 := by decide
  have e1 := nI_toInt (n := hi) (by omega)
  have e2 := nI_toInt (n := hi + 1) h
  have a1 : (x < nI 0) ↔ x.toInt < 0 := by rw [Int32.lt_iff_toInt_lt, e0]
  have a2 : (x < 0) ↔ x.toInt < 0 := by rw [Int32.lt_iff_toInt_lt]; rfl
  have a3 : (x ≤ nI hi) ↔ x.toInt ≤ hi := by rw [Int32.le_iff_toInt_le, e1]
  have a4 : (nI (hi + 1) ≤ x) ↔ (hi : Int) + 1 ≤ x.toInt := by rw [Int32.le_iff_toInt_le, e2]; omega
  unfold isOut
  by_cases b1 : x.toInt < 0
  · simp [a1, a2, b1]
  · by_cases b2 : x.toInt ≤ hi
    · have b3 : ¬ ((hi : Int) + 1 ≤ x.toInt) := by omega
      simp only [a1, a2, a3, a4, b1, b2, b3]
      rfl
    · have b3 : (hi : Int) + 1 ≤ x.toInt := by omega
      simp only [a1, a2, a3, a4, b1, b2, b3]
      rfl
theorem key_eq {j x : Nat} (hj : j < 64) (hx : x < 65536) : nI j <<< (nI 16 &&& 31) ||| nI x = nI (j * 65536 + x) := by
  apply b_ext
  intro i hi
  rw [b_or, b_shl 16 (by decide) (nI j) hi]
  have e1 : ∀ n k, bt (nI n) k = (decide (k < 32) && n.testBit k) := by
    intro n k
    show (BitVec.ofNat 32 n).getLsbD k = _
    rw [BitVec.getLsbD_ofNat]
  rw [e1, e1, e1]
  have e2 : (j * 65536 + x).testBit i = (if i < 16 then x.testBit i else j.testBit (i - 16)) := by
    rw [show j * 65536 + x = 2 ^ 16 * j + x from by omega, Nat.testBit_two_pow_mul_add _ hx]
  rw [e2]
  by_cases h : i < 16
  · have : ¬ 16 ≤ i := by omega
    simp [h, hi, this]
  · have h2 : 16 ≤ i := by omega
    have h3 : x.testBit i = false := Nat.testBit_lt_two_pow (Nat.lt_of_lt_of_le hx (Nat.pow_le_pow_right (show 0 < 2 by decide) h2))
    simp [h, hi, h2, h3]
    intro
    omega
def KRise (K : List (Nat × Nat)) : Prop := ∀ i j (hi : i < K.length) (hj : j < K.length), i < j → K[i].1 < K[j].1
/-- c of the keys are below a key -/
def LB (K : List (Nat × Nat)) (key c : Nat) : Prop := c ≤ K.length ∧ ∀ i (hi : i < K.length), K[i].1 < key ↔ i < c
theorem LB_ex {K : List (Nat × Nat)} (h : KRise K) (key : Nat) : ∃ c, LB K key c := by
  have key2 : ∀ n, n ≤ K.length → (∀ i (hi : i < K.length), n ≤ i → ¬ K[i].1 < key) → ∃ c, LB K key c := by
    intro n
    induction n with
    | zero => intro _ h2; exact ⟨0, Nat.zero_le _, fun i hi => ⟨fun q => absurd q (h2 i hi (Nat.zero_le _)), fun q => absurd q (Nat.not_lt_zero i)⟩⟩
    | succ n ih =>
      intro hn h2
      by_cases h3 : K[n].1 < key
      · refine ⟨n + 1, hn, fun i hi => ⟨fun q => ?_, fun q => ?_⟩⟩
        · exact Nat.lt_of_not_le (fun q2 => h2 i hi q2 q)
        · rcases Nat.lt_or_eq_of_le (Nat.le_of_lt_succ q) with q | q
          · exact Nat.lt_trans (h i n hi (by omega) q) h3
          · subst q; exact h3
      · exact ih (by omega) (fun i hi q => by
          rcases Nat.lt_or_eq_of_le q with q | q
          · exact h2 i hi q
          · subst q; exact h3)
  exact key2 K.length (Nat.le_refl _) (fun i hi q => by omega)
def HdK (mk mi : Nat → Nat) (K : List (Nat × Nat)) : Prop := ∀ i (hi : i < K.length), mk i = K[i].1 ∧ mi i = K[i].2
/-- the moved images say what the exchanges say -/
def PermC (ta tb cn : Nat → Nat) (K : List (Nat × Nat)) (E : List (Nat × Nat × Nat)) : Prop :=
  (∀ j, j < 64 → cn j = E.countP (fun e => e.1 == j)) ∧ KRise K ∧
  (∀ e ∈ K, ∃ j x, j < 64 ∧ x < 65521 ∧ e.1 = j * 65536 + x ∧ e.2 = imgOf ta tb E j x) ∧
  (∀ j x, j < 64 → x < 65521 → (∀ e ∈ K, e.1 ≠ j * 65536 + x) → imgOf ta tb E j x = (ta j * x + tb j) % 65521)
theorem img_0 {ta tb : Nat → Nat} {E : List (Nat × Nat × Nat)} {j x : Nat} (h : ∀ e ∈ E, e.1 ≠ j) : imgOf ta tb E j x = (ta j * x + tb j) % 65521 := by
  have e : E.foldr (xst j) x = x := by
    induction E with
    | nil => rfl
    | cons a E ih =>
      rw [List.foldr_cons, ih (fun e he => h e (List.mem_cons_of_mem _ he)), xst, if_neg (h a List.mem_cons_self)]
  rw [imgOf, e]
theorem cn_0 {E : List (Nat × Nat × Nat)} {j : Nat} (h : E.countP (fun e => e.1 == j) = 0) : ∀ e ∈ E, e.1 ≠ j := by
  intro e he
  rw [List.countP_eq_zero] at h
  have := h e he
  simpa using this
theorem KRise.one {K : List (Nat × Nat)} (h : KRise K) {i j : Nat} {hi : i < K.length} {hj : j < K.length} (e : K[i].1 = K[j].1) : i = j := by
  rcases Nat.lt_trichotomy i j with q | q | q
  · have := h i j hi hj q; omega
  · exact q
  · have := h j i hj hi q; omega
theorem LB.hit {K : List (Nat × Nat)} {key c : Nat} (h : LB K key c) (hk : KRise K) {e : Nat × Nat} (he : e ∈ K) (hq : e.1 = key) : ∃ hc : c < K.length, K[c] = e := by
  obtain ⟨i, hi, rfl⟩ := List.mem_iff_getElem.mp he
  have h1 : ¬ i < c := fun q => by have := (h.2 i hi).mpr q; omega
  have hc : c ≤ i := by omega
  have hcl : c < K.length := by omega
  refine ⟨hcl, ?_⟩
  have h2 : ¬ K[c].1 < key := fun q => absurd ((h.2 c hcl).mp q) (Nat.lt_irrefl c)
  rcases Nat.lt_or_eq_of_le hc with q | q
  · have := hk c i hcl hi q; omega
  · subst q; rfl
