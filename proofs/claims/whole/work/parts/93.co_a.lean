theorem fed_len {T : List Int32} {a b c d e : Int32} (h : T.length ≤ 800) : (fedT T a b c d e).length ≤ 800 := by
  rw [fedT]
  split
  · simp [bytes4]; omega
  · exact h
theorem tpc_le {x : Int32} {n : Nat} (h : n < 2 ^ 31) : tp_cut x n ≤ n := by
  rw [tp_cut]
  split
  · next h9 =>
    rw [tp_ok, Bool.and_eq_true] at h9
    obtain ⟨j, hj, rfl⟩ := nI_of2 (nI_toInt h) (of_decide_eq_true h9.1) (of_decide_eq_true h9.2)
    rw [nI_clamp (by omega)]; exact hj
  · exact Nat.le_refl _
theorem tpc_len {T : List Int32} {x : Int32} (h : T.length ≤ 800) : (T.take (tp_cut x T.length)).length = tp_cut x T.length := by
  rw [List.length_take]; exact Nat.min_eq_left (tpc_le (by omega))
theorem band_lim {b r : Int32} {bb rr : Nat} (h : bb * rr ≤ 64) (h1 : bb ≤ 64) (h2 : rr ≤ 64) : bandN b r bb * bandN2 b r rr ≤ 64 ∧ bandN b r bb ≤ 64 ∧ bandN2 b r rr ≤ 64 := by
  rw [bandN, bandN2]
  cases hk : bandOk b r with
  | false => exact ⟨h, h1, h2⟩
  | true =>
    rw [if_pos rfl, if_pos rfl]
    rw [bandOk, Bool.and_eq_true, Bool.and_eq_true, Bool.and_eq_true, Bool.and_eq_true] at hk
    obtain ⟨⟨⟨⟨e1, e2⟩, e3⟩, e4⟩, e5⟩ := hk
    have e1 := of_decide_eq_true e1
    have e2 := of_decide_eq_true e2
    have e3 := of_decide_eq_true e3
    have e4 := of_decide_eq_true e4
    have e5 := of_decide_eq_true e5
    obtain ⟨b1, hb1, rfl⟩ := nI_of3 (m := 64) (by decide) (fun h9 => e1 (Int32.lt_of_lt_of_le h9 (by decide))) e3
    obtain ⟨r1, hr1, rfl⟩ := nI_of3 (m := 64) (by decide) (fun h9 => e2 (Int32.lt_of_lt_of_le h9 (by decide))) e4
    have hm : b1 * r1 ≤ 64 * 64 := Nat.mul_le_mul hb1 hr1
    rw [pk_mul] at e5
    have e6 := (nI_leI (show b1 * r1 < 2 ^ 31 by omega) (by decide)).mp e5
    rw [nI_clamp (by omega), nI_clamp (by omega)]
    exact ⟨e6, hb1, hr1⟩
theorem thr_lim {p q : Int32} {pp qq : Nat} (h1 : pp ≤ 10000) (h2 : qq ≤ 10000) : thrN p q pp ≤ 10000 ∧ thrN2 p q qq ≤ 10000 := by
  rw [thrN, thrN2]
  cases hk : thrOk p q with
  | false => exact ⟨h1, h2⟩
  | true =>
    rw [if_pos rfl, if_pos rfl]
    rw [thrOk, Bool.and_eq_true, Bool.and_eq_true, Bool.and_eq_true] at hk
    obtain ⟨⟨⟨e1, e2⟩, e3⟩, e4⟩ := hk
    have e1 := of_decide_eq_true e1
    have e2 := of_decide_eq_true e2
    have e3 := of_decide_eq_true e3
    have e4 := of_decide_eq_true e4
    obtain ⟨q1, hq1, rfl⟩ := nI_of2 (n := 10000) (nI_toInt (by decide)) (fun h9 => e3 (Int32.lt_of_lt_of_le h9 (by decide))) e4
    obtain ⟨p1, hp1, rfl⟩ := nI_of3 (m := q1) (by omega) e1 e2
    rw [nI_clamp (by omega), nI_clamp (by omega)]
    omega
theorem rmH_no {HS : List Nat} {o : Option Nat} (h : o.isSome = false) : rmH HS o = HS := by
  cases o with
  | none => rfl
  | some k => cases h
theorem rm_lim {docs : List (Nat × List Nat)} {o : Option Nat} (h : Dsm docs) : Dsm (rmD docs o) ∧ (rmD docs o).length ≤ docs.length := by
  cases o with
  | none => exact ⟨h, Nat.le_refl _⟩
  | some k => exact ⟨fun d hd => h d ((List.eraseIdx_sublist docs k).subset hd), (List.eraseIdx_sublist docs k).length_le⟩
theorem te_Esm {E : List (Nat × Nat × Nat)} {j a b : Int32} (h : Esm E) : Esm (teL E j a b) := by
  rw [teL]; split
  · exact fun e he => h e (List.mem_filter.mp he).1
  · exact h
theorem ex_Esm {E : List (Nat × Nat × Nat)} {j x y : Int32} (h : Esm E) : Esm (exL E j x y) := by
  rw [exL]; split
  · next h9 =>
    rw [exOk] at h9
    have h1 : isOut j (nI 0) (nI 63) = false ∧ isOut x (nI 0) (nI 65520) = false ∧ isOut y (nI 0) (nI 65520) = false := by
      cases e1 : isOut j (nI 0) (nI 63) <;> cases e2 : isOut x (nI 0) (nI 65520) <;> cases e3 : isOut y (nI 0) (nI 65520) <;> rw [e1, e2, e3] at h9 <;> simp_all
    obtain ⟨j1, -, hj, rfl⟩ := isOut_no (lo := 0) (hi := 63) (v := j) (by rw [h1.1]; rfl) (by decide) (by decide)
    obtain ⟨x1, -, hx, rfl⟩ := isOut_no (lo := 0) (hi := 65520) (v := x) (by rw [h1.2.1]; rfl) (by decide) (by decide)
    obtain ⟨y1, -, hy, rfl⟩ := isOut_no (lo := 0) (hi := 65520) (v := y) (by rw [h1.2.2]; rfl) (by decide) (by decide)
    intro e he
    rcases List.mem_append.mp he with h2 | h2
    · exact h e h2
    · rw [List.mem_singleton] at h2
      subst h2
      rw [nI_clamp (by omega), nI_clamp (by omega), nI_clamp (by omega)]
      show j1 < 64 ∧ x1 < 65521 ∧ y1 < 65521
      omega
  · exact h
