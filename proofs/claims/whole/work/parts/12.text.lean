/-! ===== Tape ===== -/
/-- a length that may be cut to -/
def tp_ok (x : Int32) (len : Nat) : Bool := decide (¬ x < 0) && decide (x ≤ nI len)
def tp_cut (x : Int32) (len : Nat) : Nat := if tp_ok x len then x.toNatClampNeg else len
theorem tp_no {x : Int32} {len : Nat} (h : tp_ok x len = false) : tp_cut x len = len := by simp [tp_cut, h]
theorem tp_yes {j len : Nat} (hj : j ≤ len) (hl : len < 2 ^ 31) : tp_ok (nI j) len = true ∧ tp_cut (nI j) len = j := by
  have h1 : ¬ nI j < 0 := nI_pos (by omega)
  have h2 : nI j ≤ nI len := nI_le hj hl
  have h3 : tp_ok (nI j) len = true := by simp [tp_ok, h1, h2]
  exact ⟨h3, by rw [tp_cut, h3, if_pos rfl, nI_clamp (by omega)]⟩
/-- byte number k (0 the highest) of an int -/
def by4 (v : Int32) (k : Nat) : Int32 := (v.toUInt32 >>> ((nI (24 - 8 * k)).toUInt32 &&& Int32.toUInt32 31)).toInt32.toInt8.toInt32
def put4 (f : Nat → Int32) (n : Nat) (v : Int32) : Nat → Int32 := upd (upd (upd (upd f n (by4 v 0)) (n + 1) (by4 v 1)) (n + 2) (by4 v 2)) (n + 3) (by4 v 3)
theorem i8_twice (x : Int32) : x.toInt8.toInt32.toInt8.toInt32 = x.toInt8.toInt32 := by simp
def plSign (x : Int32) : Int32 := if 65 ≤ x.toInt ∧ x.toInt ≤ 90 then x - 65 + 97 else if (97 ≤ x.toInt ∧ x.toInt ≤ 122) ∨ (48 ≤ x.toInt ∧ x.toInt ≤ 57) then x else 32

theorem Hd.upd {f : Nat → Int32} {L : List Int32} {x : Int32} (h : Hd f L) : Hd (upd f L.length x) (L ++ [x]) := by
  intro i hi
  rw [List.length_append, List.length_singleton] at hi
  by_cases he : i = L.length
  · subst he
    rw [pk_us]
    simp [List.getD_eq_getElem?_getD]
  · have hlt : i < L.length := by omega
    rw [pk_un he, h i hlt]
    simp [List.getD_eq_getElem?_getD, List.getElem?_append_left hlt]
theorem plS_byte (x : Int32) : (plSign x).toInt8.toInt32 = plSign x := by
  have key : ∀ y : Int32, 0 ≤ y.toInt → y.toInt < 128 → y.toInt8.toInt32 = y := by
    intro y h0 h1
    apply Int32.toInt_inj.mp
    simp [Int32.toInt_toInt8]
    rw [Int.bmod_eq_of_le] <;> omega
  unfold plSign
  split
  · rename_i h
    have e : (x - 65 + 97).toInt = x.toInt + 32 := by
      have h1 : (x - 65 + 97) = x + 32 := by
        rw [Int32.sub_eq_add_neg, Int32.add_assoc]
        rfl
      rw [h1, Int32.toInt_add]
      simp only [show (32 : Int32).toInt = 32 from rfl]
      rw [Int.bmod_eq_of_le] <;> omega
    apply key <;> omega
  · split
    · rename_i h
      apply key <;> omega
    · decide

theorem Hd.nil {f : Nat → Int32} : Hd f [] := fun i hi => absurd hi (Nat.not_lt_zero i)
theorem Hd.at {f : Nat → Int32} {L : List Int32} (h : Hd f L) {i : Nat} (hi : i < L.length) : f i = L[i] := by
  rw [h i hi, List.getD_eq_getElem?_getD, List.getElem?_eq_getElem hi]
  rfl
theorem Hd.pre {f : Nat → Int32} {L L' : List Int32} (h : Hd f (L ++ L')) : Hd f L := by
  intro i hi
  rw [h i (by rw [List.length_append]; omega)]
  simp [List.getD_eq_getElem?_getD, List.getElem?_append_left hi]
theorem Hd.take {f : Nat → Int32} {L : List Int32} (h : Hd f L) (n : Nat) : Hd f (L.take n) := by
  rw [← List.take_append_drop n L] at h
  exact h.pre
/-- PLAIN, a byte at a time: what came out, and whether a blank is due -/
def pst (q : List Int32 × Bool) (x : Int32) : List Int32 × Bool :=
  if plSign x = 32 then (q.1, true) else (if q.2 && !q.1.isEmpty then q.1 ++ [32] ++ [plSign x] else q.1 ++ [plSign x], false)
def plainOf (T : List Int32) : List Int32 := (T.foldl pst ([], false)).1
theorem pst_take {T : List Int32} {i : Nat} (hi : i < T.length) {q : List Int32 × Bool} (h : (T.take i).foldl pst ([], false) = q) : (T.take (i + 1)).foldl pst ([], false) = pst q T[i] := by
  rw [← List.take_append_getElem hi, List.foldl_append, h]
  rfl
theorem plainOf_of {T : List Int32} {i : Nat} {o : List Int32} {d : Bool} (h : (T.take i).foldl pst ([], false) = (o, d)) (hi : T.length ≤ i) : plainOf T = o := by
  rw [List.take_of_length_le hi] at h
  rw [plainOf, h]
theorem plainOf_len (T : List Int32) : (plainOf T).length ≤ T.length := by
  have key : ∀ (L : List Int32) (q : List Int32 × Bool), (L.foldl pst q).1.length + (if (L.foldl pst q).2 && !(L.foldl pst q).1.isEmpty then 1 else 0) ≤ q.1.length + (if q.2 && !q.1.isEmpty then 1 else 0) + L.length := by
    intro L
    induction L with
    | nil => intro q; simp
    | cons x L ih =>
      intro q
      rw [List.foldl_cons, List.length_cons]
      refine Nat.le_trans (ih (pst q x)) ?_
      have : (pst q x).1.length + (if (pst q x).2 && !(pst q x).1.isEmpty then 1 else 0) ≤ q.1.length + (if q.2 && !q.1.isEmpty then 1 else 0) + 1 := by
        obtain ⟨o, d⟩ := q
        unfold pst
        by_cases h1 : plSign x = 32
        · simp only [h1, if_true]
          split <;> split <;> omega
        · simp only [h1, if_false]
          by_cases h2 : (d && !o.isEmpty) = true
          · simp only [h2, if_true]
            simp
          · simp only [h2]
            simp
      omega
  have h := key T ([], false)
  simp at h
  unfold plainOf
  omega
