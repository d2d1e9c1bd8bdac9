def insK (k v : Nat) : List (Nat × Nat) → List (Nat × Nat)
  | [] => [(k, v)]
  | e :: L => if k < e.1 then (k, v) :: e :: L else if k = e.1 then (k, v) :: L else e :: insK k v L
theorem insK_split {k v : Nat} : ∀ {A B : List (Nat × Nat)}, (∀ e ∈ A, e.1 < k) → (∀ e ∈ B, k < e.1) → insK k v (A ++ B) = A ++ (k, v) :: B
  | [], [], _, _ => rfl
  | [], x :: B, _, h => by
    show insK k v (x :: B) = _
    rw [insK, if_pos (h x (by simp))]; rfl
  | a :: A, B, h, h2 => by
    have ha := h a (by simp)
    show insK k v (a :: (A ++ B)) = _
    rw [insK, if_neg (by omega), if_neg (by omega), insK_split (fun x hx => h x (by simp [hx])) h2]; rfl
theorem insK_in {k v : Nat} {b : Nat × Nat} (hb : b.1 = k) : ∀ {A B : List (Nat × Nat)}, (∀ e ∈ A, e.1 < k) → insK k v (A ++ b :: B) = A ++ (k, v) :: B
  | [], B, _ => by
    show insK k v (b :: B) = _
    rw [insK, if_neg (by omega), if_pos hb.symm]; rfl
  | a :: A, B, h => by
    have ha := h a (by simp)
    show insK k v (a :: (A ++ b :: B)) = _
    rw [insK, if_neg (by omega), if_neg (by omega), insK_in hb (fun x hx => h x (by simp [hx]))]; rfl
theorem insK_mem {k v : Nat} {y : Nat × Nat} : ∀ {L : List (Nat × Nat)}, y ∈ insK k v L → y = (k, v) ∨ (y ∈ L ∧ (y.1 ≠ k ∨ ∃ z ∈ L, z.1 = k ∧ y ∈ L))
  | [], h => by simp [insK] at h; exact Or.inl h
  | x :: L, h => by
    rw [insK] at h
    split at h
    · rcases List.mem_cons.mp h with h | h
      · exact Or.inl h
      · by_cases e : y.1 = k
        · exact Or.inr ⟨h, Or.inr ⟨y, h, e, h⟩⟩
        · exact Or.inr ⟨h, Or.inl e⟩
    · split at h
      · rcases List.mem_cons.mp h with h | h
        · exact Or.inl h
        · have h2 : y ∈ x :: L := List.mem_cons_of_mem _ h
          by_cases e : y.1 = k
          · exact Or.inr ⟨h2, Or.inr ⟨y, h2, e, h2⟩⟩
          · exact Or.inr ⟨h2, Or.inl e⟩
      · rcases List.mem_cons.mp h with h | h
        · have h2 : y ∈ x :: L := by rw [h]; exact List.mem_cons_self
          by_cases e : y.1 = k
          · exact Or.inr ⟨h2, Or.inr ⟨y, h2, e, h2⟩⟩
          · exact Or.inr ⟨h2, Or.inl e⟩
        · rcases insK_mem h with h | ⟨h, -⟩
          · exact Or.inl h
          · have h2 : y ∈ x :: L := List.mem_cons_of_mem _ h
            by_cases e : y.1 = k
            · exact Or.inr ⟨h2, Or.inr ⟨y, h2, e, h2⟩⟩
            · exact Or.inr ⟨h2, Or.inl e⟩
theorem KRise.pw {K : List (Nat × Nat)} : KRise K ↔ K.Pairwise (fun a b => a.1 < b.1) := by
  rw [List.pairwise_iff_getElem]
  exact ⟨fun h i j hi hj hij => h i j hi hj hij, fun h i j hi hj hij => h i j hi hj hij⟩
theorem insK_pw {k v : Nat} : ∀ {L : List (Nat × Nat)}, L.Pairwise (fun a b => a.1 < b.1) → (insK k v L).Pairwise (fun a b => a.1 < b.1)
  | [], _ => by simp [insK]
  | x :: L, h => by
    have h1 := List.pairwise_cons.mp h
    rw [insK]
    split
    · next hk => exact List.pairwise_cons.mpr ⟨fun y hy => by
        rcases List.mem_cons.mp hy with rfl | hy
        · exact hk
        · exact Nat.lt_trans hk (h1.1 y hy), h⟩
    · split
      · next hk hk2 => exact List.pairwise_cons.mpr ⟨fun y hy => by rw [hk2]; exact h1.1 y hy, h1.2⟩
      · next hk hk2 => exact List.pairwise_cons.mpr ⟨fun y hy => by
          rcases insK_mem hy with rfl | ⟨hy, -⟩
          · show x.1 < k; omega
          · exact h1.1 y hy, insK_pw h1.2⟩
theorem insK_self {k v : Nat} : ∀ {L : List (Nat × Nat)}, (k, v) ∈ insK k v L
  | [] => by simp [insK]
  | x :: L => by
    rw [insK]
    split
    · simp
    · split
      · simp
      · exact List.mem_cons_of_mem _ insK_self
theorem insK_old {k v : Nat} {y : Nat × Nat} (hy : y.1 ≠ k) : ∀ {L : List (Nat × Nat)}, y ∈ L → y ∈ insK k v L
  | [], h => absurd h (by simp)
  | x :: L, h => by
    rw [insK]
    split
    · exact List.mem_cons_of_mem _ h
    · split
      · next hk =>
        rcases List.mem_cons.mp h with rfl | h
        · exact absurd hk.symm hy
        · exact List.mem_cons_of_mem _ h
      · rcases List.mem_cons.mp h with rfl | h
        · exact List.mem_cons_self
        · exact List.mem_cons_of_mem _ (insK_old hy h)
theorem insK_len (k v : Nat) : ∀ L : List (Nat × Nat), (insK k v L).length ≤ L.length + 1
  | [] => Nat.le_refl _
  | x :: L => by
    have := insK_len k v L
    rw [insK]
    split
    · simp
    · split <;> simp <;> omega
/-- of a rising row: a key's own entry, or an other one's -/
theorem insK_only {k v : Nat} {L : List (Nat × Nat)} (hL : L.Pairwise (fun a b => a.1 < b.1)) {y : Nat × Nat} (h : y ∈ insK k v L) : y = (k, v) ∨ (y ∈ L ∧ y.1 ≠ k) := by
  by_cases e : y.1 = k
  · have h1 : (insK k v L).Pairwise (fun a b => a.1 < b.1) := insK_pw hL
    obtain ⟨i, hi, rfl⟩ := List.mem_iff_getElem.mp h
    obtain ⟨j, hj, hj2⟩ := List.mem_iff_getElem.mp (insK_self (k := k) (v := v) (L := L))
    have h2 := List.pairwise_iff_getElem.mp h1
    rcases Nat.lt_trichotomy i j with h3 | h3 | h3
    · have := h2 i j hi hj h3; rw [hj2] at this; simp at this; omega
    · subst h3; exact Or.inl hj2
    · have := h2 j i hj hi h3; rw [hj2] at this; simp at this; omega
  · rcases insK_mem h with h | ⟨h, -⟩
    · exact Or.inl h
    · exact Or.inr ⟨h, e⟩
theorem lb_at {K : List (Nat × Nat)} {key c v : Nat} (hK : KRise K) (h : LB K key c) (hno : ∀ hc : c < K.length, ¬ K[c].1 = key) : insK key v K = K.take c ++ (key, v) :: K.drop c := by
  conv => lhs; rw [← List.take_append_drop c K]
  refine insK_split (fun x hx => ?_) (fun x hx => ?_)
  · obtain ⟨q, hq, rfl⟩ := List.mem_iff_getElem.mp hx
    rw [List.length_take] at hq
    rw [List.getElem_take]
    exact (h.2 q (by omega)).mpr (by omega)
  · obtain ⟨q, hq, rfl⟩ := List.mem_iff_getElem.mp hx
    rw [List.length_drop] at hq
    rw [List.getElem_drop]
    have h1 : ¬ K[c + q].1 < key := fun h9 => absurd ((h.2 (c + q) (by omega)).mp h9) (by omega)
    by_cases e : q = 0
    · subst e
      have := hno (by omega)
      simp only [Nat.add_zero] at h1 ⊢
      omega
    · have h2 := hK c (c + q) (by omega) (by omega) (by omega)
      have h3 : ¬ K[c].1 < key := fun h9 => absurd ((h.2 c (by omega)).mp h9) (by omega)
      omega
theorem lb_hit {K : List (Nat × Nat)} {key c v : Nat} (h : LB K key c) (hc : c < K.length) (hk : K[c].1 = key) : insK key v K = K.set c (key, v) := by
  conv => lhs; rw [← List.take_append_drop c K, List.drop_eq_getElem_cons hc]
  rw [insK_in hk, List.set_eq_take_append_cons_drop, if_pos hc]
  intro x hx
  obtain ⟨q, hq, rfl⟩ := List.mem_iff_getElem.mp hx
  rw [List.length_take] at hq
  rw [List.getElem_take]
  exact (h.2 q (by omega)).mpr (by omega)
theorem HdK.set {mk mi : Nat → Nat} {K : List (Nat × Nat)} {c v key : Nat} (h : HdK mk mi K) (hc : c < K.length) (hk : K[c].1 = key) : HdK mk (va_up mi c v) (K.set c (key, v)) := by
  intro i hi
  rw [List.length_set] at hi
  by_cases e : i = c
  · subst e
    rw [List.getElem_set_self, va_up_self]
    exact ⟨(h i hc).1.trans hk, rfl⟩
  · rw [List.getElem_set_ne (Ne.symm e), va_up_ne _ _ e]
    exact h i hi
theorem HdK.ins {mk mi : Nat → Nat} {K : List (Nat × Nat)} {t key v : Nat} (h : HdK mk mi K) (ht : t ≤ K.length) : HdK (va_up (shU mk K.length t) t key) (va_up (shU mi K.length t) t v) (K.take t ++ (key, v) :: K.drop t) := by
  intro q hq
  have hl : (K.take t ++ (key, v) :: K.drop t).length = K.length + 1 := by simp; omega
  rw [hl] at hq
  have htl : (K.take t).length = t := by rw [List.length_take]; omega
  by_cases e : q = t
  · subst e
    rw [va_up_self, va_up_self, List.getElem_append_right (by omega)]
    refine ⟨?_, ?_⟩ <;> simp [htl]
  · rw [va_up_ne _ _ e, va_up_ne _ _ e, shU, shU]
    by_cases h1 : q < t
    · rw [if_neg (by omega), if_neg (by omega), List.getElem_append_left (by omega), List.getElem_take]
      exact h q (by omega)
    · rw [if_pos (by omega), if_pos (by omega), List.getElem_append_right (by omega)]
      have e2 : q - (K.take t).length = (q - 1 - t) + 1 := by omega
      simp only [e2, List.getElem_cons_succ, List.getElem_drop]
      have h3 := h (q - 1) (by omega)
      simp only [show t + (q - 1 - t) = q - 1 by omega]
      exact h3
theorem img_app {ta tb : Nat → Nat} {E : List (Nat × Nat × Nat)} {j x : Nat} {e : Nat × Nat × Nat} : imgOf ta tb (E ++ [e]) j x = imgOf ta tb E j (xst j e x) := by
  rw [imgOf, imgOf, List.foldr_append]; rfl
theorem PermC.swap {ta tb cn : Nat → Nat} {K : List (Nat × Nat)} {E : List (Nat × Nat × Nat)} (h : PermC ta tb cn K E) {j x y : Nat} (hj : j < 64) (hx : x < 65521) (hy : y < 65521) :
    PermC ta tb (va_up cn j (cn j + 1)) (insK (j * 65536 + y) (imgOf ta tb E j x) (insK (j * 65536 + x) (imgOf ta tb E j y) K)) (E ++ [(j, x, y)]) := by
  obtain ⟨h1, h2, h3, h4⟩ := h
  have hK1 := insK_pw (k := j * 65536 + x) (v := imgOf ta tb E j y) (KRise.pw.mp h2)
  have hX : imgOf ta tb (E ++ [(j, x, y)]) j x = imgOf ta tb E j y := by rw [img_app, xst, if_pos rfl, swp, if_pos rfl]
  have hY : imgOf ta tb (E ++ [(j, x, y)]) j y = imgOf ta tb E j x := by
    rw [img_app, xst, if_pos rfl, swp]
    by_cases e : y = x
    · rw [if_pos e]
      show imgOf ta tb E j y = _
      rw [e]
    · rw [if_neg e]
      show imgOf ta tb E j (if y = y then x else y) = _
      rw [if_pos rfl]
  have hO : ∀ j2 z, ¬ (j2 = j ∧ (z = x ∨ z = y)) → imgOf ta tb (E ++ [(j, x, y)]) j2 z = imgOf ta tb E j2 z := fun j2 z hn => by
    rw [img_app, xst]
    by_cases e : j = j2
    · rw [if_pos e, swp]
      show imgOf ta tb E j2 (if z = x then y else if z = y then x else z) = _
      rw [if_neg (fun e2 => hn ⟨e.symm, Or.inl e2⟩), if_neg (fun e2 => hn ⟨e.symm, Or.inr e2⟩)]
    · rw [if_neg e]
  refine ⟨fun j2 hj2 => ?_, KRise.pw.mpr (insK_pw hK1), fun e he => ?_, fun j2 z hj2 hz hno => ?_⟩
  · rw [List.countP_append]
    by_cases e : j2 = j
    · subst e
      rw [va_up_self, h1 j2 hj2]; simp
    · rw [va_up_ne _ _ e, h1 j2 hj2]
      have : ¬ (j = j2) := fun h9 => e h9.symm
      simp [this]
  · rcases insK_only hK1 he with rfl | ⟨he, hne⟩
    · exact ⟨j, y, hj, hy, rfl, hY.symm⟩
    · rcases insK_only (KRise.pw.mp h2) he with rfl | ⟨he, hne2⟩
      · exact ⟨j, x, hj, hx, rfl, hX.symm⟩
      · obtain ⟨j2, z, a1, a2, a3, a4⟩ := h3 e he
        refine ⟨j2, z, a1, a2, a3, ?_⟩
        rw [hO j2 z (fun ⟨b1, b2⟩ => by subst b1; rcases b2 with rfl | rfl <;> omega)]
        exact a4
  · have n1 : ¬ (j2 = j ∧ z = y) := fun ⟨a, b⟩ => by
      subst a; subst b
      exact hno _ (insK_self) rfl
    have n2 : ¬ (j2 = j ∧ z = x) := fun ⟨a, b⟩ => by
      subst a; subst b
      by_cases e : z = y
      · exact n1 ⟨rfl, e⟩
      · exact hno _ (insK_old (by show j2 * 65536 + z ≠ j2 * 65536 + y; omega) insK_self) rfl
    rw [hO j2 z (fun ⟨a, b⟩ => b.elim (fun b => n2 ⟨a, b⟩) (fun b => n1 ⟨a, b⟩))]
    refine h4 j2 z hj2 hz (fun e he h9 => ?_)
    refine hno e (insK_old (fun h8 => n1 ?_) (insK_old (fun h8 => n2 ?_) he)) h9
    · rw [h9] at h8; exact ⟨by omega, by omega⟩
    · rw [h9] at h8; exact ⟨by omega, by omega⟩
theorem img_filt {ta tb : Nat → Nat} {E : List (Nat × Nat × Nat)} {j j2 x a b : Nat} (hne : j2 ≠ j) : imgOf (va_up ta j a) (va_up tb j b) (E.filter (fun e => e.1 != j)) j2 x = imgOf ta tb E j2 x := by
  rw [imgOf, imgOf, va_up_ne _ _ hne, va_up_ne _ _ hne]
  have : ∀ L : List (Nat × Nat × Nat), (L.filter (fun e => e.1 != j)).foldr (xst j2) x = L.foldr (xst j2) x := by
    intro L
    induction L with
    | nil => rfl
    | cons e L ih =>
      by_cases h : e.1 = j
      · rw [List.filter_cons_of_neg (by simp [h]), ih, List.foldr_cons, xst, if_neg (by omega)]
      · rw [List.filter_cons_of_pos (by simp [h]), List.foldr_cons, List.foldr_cons, ih]
  rw [this]
theorem PermC.tell {ta tb cn : Nat → Nat} {K : List (Nat × Nat)} {E : List (Nat × Nat × Nat)} (h : PermC ta tb cn K E) {j a b : Nat} (hj : j < 64) :
    PermC (va_up ta j a) (va_up tb j b) (va_up cn j 0) (K.filter (fun e => e.1 / 65536 != j)) (E.filter (fun e => e.1 != j)) := by
  obtain ⟨h1, h2, h3, h4⟩ := h
  refine ⟨fun j2 hj2 => ?_, KRise.pw.mpr ((KRise.pw.mp h2).sublist List.filter_sublist), fun e he => ?_, fun j2 z hj2 hz hno => ?_⟩
  · by_cases e : j2 = j
    · subst e
      rw [va_up_self]
      symm
      rw [List.countP_eq_zero]
      intro e he
      have := (List.mem_filter.mp he).2
      simp at this ⊢
      exact this
    · rw [va_up_ne _ _ e, h1 j2 hj2, List.countP_filter]
      congr 1
      funext x
      by_cases h9 : x.1 = j2
      · simp [h9, e]
      · simp [h9]
  · obtain ⟨he1, he2⟩ := List.mem_filter.mp he
    obtain ⟨j2, z, a1, a2, a3, a4⟩ := h3 e he1
    have e9 : e.1 / 65536 = j2 := by omega
    rw [e9] at he2
    have hne : j2 ≠ j := by simpa using he2
    exact ⟨j2, z, a1, a2, a3, by rw [img_filt hne]; exact a4⟩
  · by_cases e : j2 = j
    · subst e
      rw [img_0]
      intro e he
      have := (List.mem_filter.mp he).2
      simpa using this
    · rw [img_filt e, va_up_ne _ _ e, va_up_ne _ _ e]
      refine h4 j2 z hj2 hz (fun x hx h9 => hno x (List.mem_filter.mpr ⟨hx, ?_⟩) h9)
      have e9 : x.1 / 65536 = j2 := by omega
      rw [e9]
      simpa using e
theorem filt_len {E : List (Nat × Nat × Nat)} {j : Nat} : (E.filter (fun e => e.1 != j)).length = E.length - E.countP (fun e => e.1 == j) := by
  induction E with
  | nil => rfl
  | cons e E ih =>
    have := List.countP_le_length (p := fun e => e.1 == j) (l := E)
    by_cases h : e.1 = j
    · rw [List.filter_cons_of_neg (by simp [h]), List.countP_cons_of_pos (by simp [h]), ih, List.length_cons]; omega
    · rw [List.filter_cons_of_pos (by simp [h]), List.countP_cons_of_neg (by simp [h]), List.length_cons, ih, List.length_cons]; omega
theorem filtK_take {K : List (Nat × Nat)} {k : Nat} (hk : k < K.length) (p : Nat × Nat → Bool) : (K.take (k + 1)).filter p = (K.take k).filter p ++ (if p K[k] = true then [K[k]] else []) := by
  rw [List.take_add_one, List.getElem?_eq_getElem hk, List.filter_append]
  by_cases h : p K[k] = true
  · simp [h]
  · simp [h]
/-- how many keys there are beside the exchanges -/
theorem filtK_le {ta tb cn : Nat → Nat} {K : List (Nat × Nat)} {p : Nat × Nat → Bool} : (K.filter p).length ≤ K.length := List.length_filter_le _ _
theorem nI_shr16 {a : Nat} (h : a < 2 ^ 31) : nI a >>> (nI 16 &&& 31) = nI (a / 65536) := by
  apply b_ext
  intro i hi
  rw [b_sshr 16 (by decide) _ hi]
  have hb : ∀ n k, n < 2 ^ 31 → k < 32 → bt (nI n) k = n.testBit k := fun n k hn hk => by
    show (BitVec.ofNat 32 n).getLsbD k = _
    rw [BitVec.getLsbD_ofNat]; simp [hk]
  by_cases h1 : 16 + i < 32
  · rw [if_pos h1, hb a _ h h1, hb (a / 65536) i (by omega) hi, show (65536 : Nat) = 2 ^ 16 from rfl, Nat.testBit_div_two_pow]
    congr 1; omega
  · rw [if_neg h1, hb a 31 h (by decide), hb (a / 65536) i (by omega) hi, Nat.testBit_lt_two_pow h]
    symm
    apply Nat.testBit_lt_two_pow
    have : 2 ^ 15 ≤ 2 ^ i := Nat.pow_le_pow_right (by decide) (by omega)
    omega
theorem nI_min {a b : Nat} (ha : a < 2 ^ 31) (hb : b < 2 ^ 31) : (if nI b < nI a then nI b else nI a) = nI (min a b) := by
  by_cases h : b < a
  · rw [if_pos ((nI_ltI hb ha).mpr h), Nat.min_eq_right (by omega)]
  · rw [if_neg (fun h9 => h ((nI_ltI hb ha).mp h9)), Nat.min_eq_left (by omega)]
theorem HdK.app {mk mi : Nat → Nat} {K : List (Nat × Nat)} {e : Nat × Nat} (h : HdK mk mi K) : HdK (va_up mk K.length e.1) (va_up mi K.length e.2) (K ++ [e]) := by
  intro i hi
  rw [List.length_append, List.length_singleton] at hi
  by_cases e2 : i = K.length
  · subst e2
    rw [va_up_self, va_up_self]; simp
  · rw [va_up_ne _ _ e2, va_up_ne _ _ e2, List.getElem_append_left (by omega)]
    exact h i (by omega)
theorem imR_at {ta tb : Nat → Nat} {E : List (Nat × Nat × Nat)} {j x : Nat} (hj : j ≤ 63) (hx : x ≤ 65520) : imR ta tb E (nI j) (nI x) = nI (imgOf ta tb E j x) := by
  rw [imR, if_pos (show imOk (nI j) (nI x) = true from by rw [imOk, isOut_in (Nat.zero_le _) hj (by decide), isOut_in (Nat.zero_le _) hx (by decide)]; rfl), nI_clamp (by omega), nI_clamp (by omega)]
theorem isOut_z {a : Int32} (h : a = 0) : isOut a (nI 1) (nI 65520) = true := by subst h; decide
theorem isOut_big {a : Int32} (h : isOut a (nI 0) (nI 65520) = true) : isOut a (nI 1) (nI 65520) = true := by
  unfold isOut at h ⊢
  rcases Bool.or_eq_true_iff.mp h with h | h
  · rw [decide_eq_true (Int32.lt_trans (of_decide_eq_true h) (show nI 0 < nI 1 by decide))]; rfl
  · rw [h]; simp
/-- a moved key is one of an exchange -/
def KeyIn (K : List (Nat × Nat)) (E : List (Nat × Nat × Nat)) : Prop := ∀ e ∈ K, ∃ f ∈ E, e.1 = f.1 * 65536 + f.2.1 ∨ e.1 = f.1 * 65536 + f.2.2
theorem nd_sub : ∀ {L M : List Nat}, L.Nodup → (∀ x ∈ L, x ∈ M) → L.length ≤ M.length
  | [], _, _, _ => Nat.zero_le _
  | a :: L, M, hn, h => by
    have h1 := List.nodup_cons.mp hn
    have h2 := nd_sub (M := M.erase a) h1.2 (fun x hx => (List.mem_erase_of_ne (fun e => h1.1 (by rw [← e]; exact hx))).mpr (h x (List.mem_cons_of_mem _ hx)))
    have h3 := h a List.mem_cons_self
    rw [List.length_erase_of_mem h3] at h2
    have := List.length_pos_of_mem h3
    rw [List.length_cons]
    omega
theorem KeyIn.len {K : List (Nat × Nat)} {E : List (Nat × Nat × Nat)} (h : KeyIn K E) (hK : KRise K) : K.length ≤ 2 * E.length := by
  have h1 : (K.map (fun e => e.1)).Nodup := by
    rw [List.Nodup, List.pairwise_map]
    exact (KRise.pw.mp hK).imp (fun h => by omega)
  have h2 := nd_sub (M := E.map (fun f => f.1 * 65536 + f.2.1) ++ E.map (fun f => f.1 * 65536 + f.2.2)) h1 (fun x hx => by
    obtain ⟨e, he, rfl⟩ := List.mem_map.mp hx
    obtain ⟨f, hf, h9⟩ := h e he
    rcases h9 with h9 | h9
    · exact List.mem_append.mpr (Or.inl (List.mem_map.mpr ⟨f, hf, h9.symm⟩))
    · exact List.mem_append.mpr (Or.inr (List.mem_map.mpr ⟨f, hf, h9.symm⟩)))
  simp only [List.length_append, List.length_map] at h2
  omega
theorem KeyIn.tell {ta tb cn : Nat → Nat} {K : List (Nat × Nat)} {E : List (Nat × Nat × Nat)} {j : Nat} (h : KeyIn K E) (hP : PermC ta tb cn K E) (hsm : Esm E) : KeyIn (K.filter (fun e => e.1 / 65536 != j)) (E.filter (fun e => e.1 != j)) := by
  intro e he
  obtain ⟨h1, h2⟩ := List.mem_filter.mp he
  obtain ⟨f, hf, h9⟩ := h e h1
  have h3 := hsm f hf
  refine ⟨f, List.mem_filter.mpr ⟨hf, ?_⟩, h9⟩
  simp only [bne_iff_ne, ne_eq] at h2 ⊢
  omega
theorem KeyIn.swap {K : List (Nat × Nat)} {E : List (Nat × Nat × Nat)} {j x y v w : Nat} (h : KeyIn K E) : KeyIn (insK (j * 65536 + y) v (insK (j * 65536 + x) w K)) (E ++ [(j, x, y)]) := by
  intro e he
  rcases insK_mem he with rfl | ⟨he, -⟩
  · exact ⟨(j, x, y), by simp, Or.inr rfl⟩
  · rcases insK_mem he with rfl | ⟨he, -⟩
    · exact ⟨(j, x, y), by simp, Or.inl rfl⟩
    · obtain ⟨f, hf, h9⟩ := h e he
      exact ⟨f, List.mem_append_left _ hf, h9⟩
theorem insK_bnd {K : List (Nat × Nat)} {k v B : Nat} (h : ∀ e ∈ K, e.1 < B) (hk : k < B) : ∀ e ∈ insK k v K, e.1 < B := fun e he => by
  rcases insK_mem he with rfl | ⟨he, -⟩
  · exact hk
  · exact h e he
