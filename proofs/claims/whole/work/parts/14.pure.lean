/-! ===== pure words: bytes of an int, rows of naturals, places ===== -/
theorem by4_low {x y : Int32} (h : ∀ i, i < 8 → bt x i = bt y i) : x.toInt8 = y.toInt8 := by
  apply Int8.toBitVec_inj.mp
  rw [Int32.toBitVec_toInt8, Int32.toBitVec_toInt8]
  apply BitVec.eq_of_getLsbD_eq
  intro i hi
  rw [BitVec.getLsbD_signExtend, BitVec.getLsbD_signExtend]
  have h2 := h i hi
  unfold bt at h2
  rw [if_pos (show i < 32 by omega), if_pos (show i < 32 by omega), h2]
theorem by4_sh (v : Int32) (k : Nat) (hk : k < 4) : (v >>> (nI (24 - 8 * k) &&& 31)).toInt8.toInt32 = by4 v k := by
  rw [by4]
  congr 1
  apply by4_low
  intro i hi
  rw [b_sshr _ (by omega) v (by omega), b_ushr _ (by omega) v i, if_pos (by omega)]
/-- an array's first cells hold a list of naturals -/
def HdN (g : Nat → Nat) (L : List Nat) : Prop := ∀ i, i < L.length → g i = L.getD i 0
def optI (o : Option Nat) : Int32 := match o with
  | some k => nI k
  | none => -1
/-- the first place that holds a number -/
def slotOf (L : List Nat) (x : Int32) : Option Nat := L.findIdx? (fun v => nI v == x)
def bytes4 (v : Int32) : List Int32 := [by4 v 0, by4 v 1, by4 v 2, by4 v 3]
theorem put4_hd {f : Nat → Int32} {T : List Int32} {v : Int32} (h : Hd f T) : Hd (put4 f T.length v) (T ++ bytes4 v) := by
  have h1 := h.upd (x := by4 v 0)
  have h2 := h1.upd (x := by4 v 1)
  have h3 := h2.upd (x := by4 v 2)
  have h4 := h3.upd (x := by4 v 3)
  simp only [List.length_append, List.length_singleton, Nat.add_assoc, List.append_assoc] at h4
  exact h4
theorem HdN.at {g : Nat → Nat} {L : List Nat} (h : HdN g L) {i : Nat} (hi : i < L.length) : g i = L[i] := by
  rw [h i hi, List.getD_eq_getElem?_getD, List.getElem?_eq_getElem hi]
  rfl
theorem HdN.nil {g : Nat → Nat} : HdN g [] := fun i hi => absurd hi (Nat.not_lt_zero i)
theorem HdN.upd {g : Nat → Nat} {L : List Nat} {x : Nat} (h : HdN g L) : HdN (va_up g L.length x) (L ++ [x]) := by
  intro i hi
  rw [List.length_append, List.length_singleton] at hi
  by_cases he : i = L.length
  · subst he
    rw [va_up_self]
    simp [List.getD_eq_getElem?_getD]
  · have hlt : i < L.length := by omega
    rw [va_up_ne g x he, h i hlt]
    simp [List.getD_eq_getElem?_getD, List.getElem?_append_left hlt]
theorem slotOf_some {L : List Nat} {x : Int32} {i : Nat} (hi : i < L.length) (hx : nI L[i] = x) (hn : ∀ j (hj : j < L.length), j < i → ¬ nI L[j] = x) : slotOf L x = some i := by
  rw [slotOf, List.findIdx?_eq_some_iff_getElem]
  refine ⟨hi, by simp [hx], fun j hj => ?_⟩
  have := hn j (by omega) hj
  simp [this]
theorem slotOf_none {L : List Nat} {x : Int32} (hn : ∀ j (hj : j < L.length), ¬ nI L[j] = x) : slotOf L x = none := by
  rw [slotOf, List.findIdx?_eq_none_iff]
  intro v hv
  obtain ⟨j, hj, rfl⟩ := List.mem_iff_getElem.mp hv
  simp [hn j hj]
theorem slotOf_lt {L : List Nat} {x : Int32} {i : Nat} (h : slotOf L x = some i) : i < L.length ∧ ∃ hi : i < L.length, nI L[i] = x := by
  rw [slotOf, List.findIdx?_eq_some_iff_getElem] at h
  obtain ⟨hi, h1, -⟩ := h
  exact ⟨hi, hi, by simpa using h1⟩
