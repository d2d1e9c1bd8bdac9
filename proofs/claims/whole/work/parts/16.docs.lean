/-! ===== documents by their places: a number and a rising row of shingles ===== -/
def RowD (gn gm gs : Nat → Nat) (i : Nat) (d : Nat × List Nat) : Prop := gn i = d.1 ∧ gm i = d.2.length ∧ ∀ t (ht : t < d.2.length), gs (800 * i + t) = d.2[t]
def HdD (gn gm gs : Nat → Nat) (docs : List (Nat × List Nat)) : Prop := ∀ i (hi : i < docs.length), RowD gn gm gs i docs[i]
def Rise (L : List Nat) : Prop := ∀ i j (hi : i < L.length) (hj : j < L.length), i < j → L[i] < L[j]
def Dsm (docs : List (Nat × List Nat)) : Prop := ∀ d ∈ docs, d.1 < 400 ∧ d.2.length ≤ 800 ∧ Rise d.2 ∧ ∀ x ∈ d.2, x < 6000
def modeOk (s k : Int32) : Bool := decide (¬ s < 0) && decide (¬ nI 1 < s) && decide (¬ k < nI 1) && decide (k ≤ nI 9)
def rmD (docs : List (Nat × List Nat)) (o : Option Nat) : List (Nat × List Nat) := match o with
  | some k => docs.eraseIdx k
  | none => docs
theorem HdD.num {gn gm gs : Nat → Nat} {docs : List (Nat × List Nat)} (h : HdD gn gm gs docs) : HdN gn (docs.map (fun d => d.1)) := by
  intro i hi
  rw [List.length_map] at hi
  rw [(h i hi).1]
  simp [List.getD_eq_getElem?_getD, List.getElem?_eq_getElem hi]
theorem rmD_get {docs : List (Nat × List Nat)} {s i : Nat} (hs : s < docs.length) (hi : i < (docs.eraseIdx s).length) : (docs.eraseIdx s)[i] = if h : i < s then docs[i]'(by omega) else docs[i + 1]'(by rw [List.length_eraseIdx_of_lt hs] at hi; omega) := by
  rw [List.getElem_eraseIdx]
theorem RowD.of_eq {gn gm gs gn2 gm2 gs2 : Nat → Nat} {i : Nat} {d : Nat × List Nat} (h : RowD gn gm gs i d) (h1 : gn2 i = gn i) (h2 : gm2 i = gm i) (h3 : ∀ t, t < d.2.length → gs2 (800 * i + t) = gs (800 * i + t)) : RowD gn2 gm2 gs2 i d := ⟨h1.trans h.1, h2.trans h.2.1, fun t ht => (h3 t ht).trans (h.2.2 t ht)⟩
/-- a row's first i places copied from the next -/
def cp8 (gs : Nat → Nat) (k i : Nat) : Nat → Nat := fun q => if 800 * k ≤ q ∧ q < 800 * k + i then gs (q + 800) else gs q
theorem cp8_0 (gs : Nat → Nat) (k : Nat) : cp8 gs k 0 = gs := by
  funext q
  simp [cp8]
  omega
theorem cp8_s {gs : Nat → Nat} {k i : Nat} (hi : i < 800) : va_up (cp8 gs k i) (800 * k + i) (cp8 gs k i (800 * (k + 1) + i)) = cp8 gs k (i + 1) := by
  funext q
  have e1 : cp8 gs k i (800 * (k + 1) + i) = gs (800 * (k + 1) + i) := by
    unfold cp8
    rw [if_neg (by omega)]
  rw [e1]
  by_cases h : q = 800 * k + i
  · subst h
    rw [va_up_self]
    unfold cp8
    rw [if_pos (by omega)]
    congr 1
    omega
  · rw [va_up_ne _ _ h]
    unfold cp8
    by_cases h2 : 800 * k ≤ q ∧ q < 800 * k + i
    · rw [if_pos h2, if_pos (by omega)]
    · rw [if_neg h2, if_neg (by omega)]
theorem cp8_out {gs : Nat → Nat} {k i q : Nat} (h : q < 800 * k ∨ 800 * k + i ≤ q) : cp8 gs k i q = gs q := by
  unfold cp8
  rw [if_neg (by omega)]
theorem cp8_in {gs : Nat → Nat} {k i t : Nat} (h : t < i) : cp8 gs k i (800 * k + t) = gs (800 * (k + 1) + t) := by
  unfold cp8
  rw [if_pos (by omega)]
  congr 1
  omega
/-- the shingles' texts, one behind another -/
def ofs (sh : List (List Int32)) (i : Nat) : Nat := ((sh.take i).flatten).length
def StM (sh : List (List Int32)) (lf : Nat → Int32) (ff zf : Nat → Nat) : Prop := Hd lf sh.flatten ∧ ∀ i (hi : i < sh.length), ff i = ofs sh i ∧ zf i = sh[i].length
theorem ofs_s {sh : List (List Int32)} {i : Nat} (hi : i < sh.length) : ofs sh (i + 1) = ofs sh i + sh[i].length := by
  unfold ofs
  rw [← List.take_append_getElem hi, List.flatten_append, List.length_append]
  simp
theorem ofs_all (sh : List (List Int32)) : ofs sh sh.length = sh.flatten.length := by
  unfold ofs
  rw [List.take_length]
theorem ofs_le {sh : List (List Int32)} {i : Nat} : ofs sh i ≤ sh.flatten.length := by
  unfold ofs
  conv => rhs; rw [← List.take_append_drop i sh, List.flatten_append, List.length_append]
  omega
theorem ofs_get {sh : List (List Int32)} {i t : Nat} (hi : i < sh.length) (ht : t < sh[i].length) : ofs sh i + t < sh.flatten.length ∧ ∀ h : ofs sh i + t < sh.flatten.length, sh.flatten[ofs sh i + t] = sh[i][t] := by
  have h1 := ofs_s hi
  have h2 := ofs_le (sh := sh) (i := i + 1)
  refine ⟨by omega, fun h => ?_⟩
  have e : sh.flatten = (sh.take i).flatten ++ (sh[i] ++ (sh.drop (i + 1)).flatten) := by
    conv => lhs; rw [← List.take_append_drop i sh, List.flatten_append, List.drop_eq_getElem_cons hi, List.flatten_cons]
  have : sh.flatten[ofs sh i + t]? = some (sh[i][t]) := by
    rw [e, List.getElem?_append_right (by unfold ofs; omega)]
    rw [show ofs sh i + t - (sh.take i).flatten.length = t from by unfold ofs; omega]
    rw [List.getElem?_append_left ht, List.getElem?_eq_getElem ht]
  rw [List.getElem?_eq_getElem h] at this
  exact Option.some.inj this
theorem StM.letter {sh : List (List Int32)} {lf : Nat → Int32} {ff zf : Nat → Nat} (h : StM sh lf ff zf) {i t : Nat} (hi : i < sh.length) (ht : t < sh[i].length) : lf (ff i + t) = sh[i][t] := by
  obtain ⟨h1, h2⟩ := ofs_get hi ht
  rw [(h.2 i hi).1, h.1.at h1, h2 h1]
/-- a letter of a shingle -/
def letR (sh : List (List Int32)) (nn k : Int32) : Int32 := if ¬ nn < 0 ∧ nn < nI sh.length ∧ ¬ k < 0 ∧ k < nI (sh.getD nn.toNatClampNeg []).length then (sh.getD nn.toNatClampNeg []).getD k.toNatClampNeg 0 else -1
