/-- a number comes into a rising row -/
def insS (k : Nat) : List Nat → List Nat
  | [] => [k]
  | x :: L => if k < x then k :: x :: L else if k = x then x :: L else x :: insS k L
theorem insS_split {k : Nat} : ∀ {A B : List Nat}, (∀ x ∈ A, x < k) → (∀ x ∈ B, k < x) → insS k (A ++ B) = A ++ k :: B
  | [], [], _, _ => rfl
  | [], x :: B, _, h => by
    show insS k (x :: B) = _
    rw [insS, if_pos (h x (by simp))]; rfl
  | a :: A, B, h, h2 => by
    have ha := h a (by simp)
    show insS k (a :: (A ++ B)) = _
    rw [insS, if_neg (by omega), if_neg (by omega), insS_split (fun x hx => h x (by simp [hx])) h2]; rfl
theorem insS_in {k : Nat} : ∀ {A B : List Nat}, (∀ x ∈ A, x < k) → insS k (A ++ k :: B) = A ++ k :: B
  | [], B, _ => by
    show insS k (k :: B) = _
    rw [insS, if_neg (by omega), if_pos rfl]; rfl
  | a :: A, B, h => by
    have ha := h a (by simp)
    show insS k (a :: (A ++ k :: B)) = _
    rw [insS, if_neg (by omega), if_neg (by omega), insS_in (fun x hx => h x (by simp [hx]))]; rfl
theorem insS_mem {k y : Nat} : ∀ {L : List Nat}, y ∈ insS k L ↔ y = k ∨ y ∈ L
  | [] => by simp [insS]
  | x :: L => by
    rw [insS]
    split
    · simp
    · split
      · next h => subst h; simp
      · rw [List.mem_cons, insS_mem, List.mem_cons]
        constructor
        · rintro (h | h | h)
          · exact Or.inr (Or.inl h)
          · exact Or.inl h
          · exact Or.inr (Or.inr h)
        · rintro (h | h | h)
          · exact Or.inr (Or.inl h)
          · exact Or.inl h
          · exact Or.inr (Or.inr h)
theorem insS_len (k : Nat) : ∀ L : List Nat, (insS k L).length ≤ L.length + 1
  | [] => Nat.le_refl _
  | x :: L => by
    have := insS_len k L
    rw [insS]
    split
    · simp
    · split <;> simp <;> omega
theorem Rise.pw {L : List Nat} : Rise L ↔ L.Pairwise (· < ·) := by
  rw [List.pairwise_iff_getElem]
  exact ⟨fun h i j hi hj hij => h i j hi hj hij, fun h i j hi hj hij => h i j hi hj hij⟩
theorem insS_rise {k : Nat} : ∀ {L : List Nat}, L.Pairwise (· < ·) → (insS k L).Pairwise (· < ·)
  | [], _ => by simp [insS]
  | x :: L, h => by
    have h1 := List.pairwise_cons.mp h
    rw [insS]
    split
    · next hk => exact List.pairwise_cons.mpr ⟨fun y hy => by
        rcases List.mem_cons.mp hy with rfl | hy
        · exact hk
        · exact Nat.lt_trans hk (h1.1 y hy), h⟩
    · split
      · exact h
      · next hk hk2 => exact List.pairwise_cons.mpr ⟨fun y hy => by
          rcases insS_mem.mp hy with rfl | hy
          · omega
          · exact h1.1 y hy, insS_rise h1.2⟩
/-- what one text does to the shingles and to the fresh row -/
def cmOk (sh : List (List Int32)) (TX : List Int32) : Bool := (idxO sh TX).isSome || (decide (sh.length ≠ 6000) && decide (sh.flatten.length + TX.length ≤ 50000))
def cmK (sh : List (List Int32)) (TX : List Int32) : Nat := (idxO sh TX).getD sh.length
def cmA (sh : List (List Int32)) (TX : List Int32) : List (List Int32) := bif cmOk sh TX && (idxO sh TX).isNone then sh ++ [TX] else sh
def frA (sh : List (List Int32)) (F : List Nat) (TX : List Int32) : List Nat := bif cmOk sh TX then insS (cmK sh TX) F else F
def stepA (q : List (List Int32) × List Nat × Bool) (TX : List Int32) : List (List Int32) × List Nat × Bool := bif q.2.2 then (cmA q.1 TX, frA q.1 q.2.1 TX, cmOk q.1 TX) else q
def runA (sh : List (List Int32)) (L : List (List Int32)) : List (List Int32) × List Nat × Bool := L.foldl stepA (sh, [], true)
theorem runA_stop {L : List (List Int32)} : ∀ {q : List (List Int32) × List Nat × Bool}, q.2.2 = false → L.foldl stepA q = q := by
  induction L with
  | nil => intro q _; rfl
  | cons a L ih =>
    intro q h
    show L.foldl stepA (stepA q a) = q
    have e : stepA q a = q := by rw [stepA, h]; rfl
    rw [e]; exact ih h
theorem runA_take {sh : List (List Int32)} {L : List (List Int32)} {i : Nat} (hi : i < L.length) {q : List (List Int32) × List Nat × Bool} (h : runA sh (L.take i) = q) : runA sh (L.take (i + 1)) = stepA q L[i] := by
  rw [runA, List.take_add_one, List.getElem?_eq_getElem hi, List.foldl_append]
  rw [runA] at h
  rw [h]; rfl
theorem runA_fail {sh : List (List Int32)} {L : List (List Int32)} {i : Nat} {q : List (List Int32) × List Nat × Bool} (h : runA sh (L.take i) = q) (hf : q.2.2 = false) : runA sh L = q := by
  conv => lhs; rw [← List.take_append_drop i L]
  rw [runA, List.foldl_append]
  rw [runA] at h
  rw [h, runA_stop hf]
theorem runA_end {sh : List (List Int32)} {L : List (List Int32)} {i : Nat} {q : List (List Int32) × List Nat × Bool} (h : runA sh (L.take i) = q) (hi : L.length ≤ i) : runA sh L = q := by
  rw [List.take_of_length_le hi] at h; exact h
theorem cma_some {sh : List (List Int32)} {F : List Nat} {TX : List Int32} {k : Nat} (h : idxO sh TX = some k) : cmOk sh TX = true ∧ cmA sh TX = sh ∧ frA sh F TX = insS k F := by
  have h1 : cmOk sh TX = true := by rw [cmOk, h]; rfl
  exact ⟨h1, by rw [cmA, h1, h]; rfl, by rw [frA, h1, cmK, h]; rfl⟩
theorem cma_new {sh : List (List Int32)} {F : List Nat} {TX : List Int32} (h : idxO sh TX = none) (h1 : sh.length ≠ 6000) (h2 : sh.flatten.length + TX.length ≤ 50000) : cmOk sh TX = true ∧ cmA sh TX = sh ++ [TX] ∧ frA sh F TX = insS sh.length F := by
  have h1 : cmOk sh TX = true := by rw [cmOk, decide_eq_true h1, decide_eq_true h2]; simp
  exact ⟨h1, by rw [cmA, h1, h]; rfl, by rw [frA, h1, cmK, h]; rfl⟩
theorem cma_no {sh : List (List Int32)} {F : List Nat} {TX : List Int32} (h : idxO sh TX = none) (h1 : sh.length = 6000 ∨ 50000 < sh.flatten.length + TX.length) : cmOk sh TX = false ∧ cmA sh TX = sh ∧ frA sh F TX = F := by
  have h1 : cmOk sh TX = false := by
    rw [cmOk, h]
    rcases h1 with h1 | h1
    · rw [decide_eq_false (fun h9 => h9 h1)]; rfl
    · rw [decide_eq_false (Nat.not_le.mpr h1)]; simp
  exact ⟨h1, by rw [cmA, h1]; rfl, by rw [frA, h1]; rfl⟩
theorem cm_pre (sh : List (List Int32)) (TX : List Int32) : ∃ M, cmA sh TX = sh ++ M := by
  rw [cmA]
  cases (cmOk sh TX && (idxO sh TX).isNone) with
  | true => exact ⟨[TX], rfl⟩
  | false => exact ⟨[], by simp⟩
theorem runA_pre {L : List (List Int32)} : ∀ {q : List (List Int32) × List Nat × Bool}, ∃ M, (L.foldl stepA q).1 = q.1 ++ M := by
  induction L with
  | nil => intro q; exact ⟨[], by simp⟩
  | cons a L ih =>
    intro q
    obtain ⟨M, hM⟩ := ih (q := stepA q a)
    show ∃ M, (L.foldl stepA (stepA q a)).1 = q.1 ++ M
    rw [hM, stepA]
    cases q.2.2 with
    | false => exact ⟨M, rfl⟩
    | true =>
      obtain ⟨M2, h2⟩ := cm_pre q.1 a
      exact ⟨M2 ++ M, by show cmA q.1 a ++ M = _; rw [h2, List.append_assoc]⟩
/-- what holds of shingles and fresh row on the way -/
def AOk (sh : List (List Int32)) (F : List Nat) (i : Nat) : Prop := sh.length ≤ 6000 ∧ sh.flatten.length ≤ 50000 ∧ F.length ≤ i ∧ Rise F ∧ ∀ x ∈ F, x < sh.length
theorem idxO_lt {sh : List (List Int32)} {TX : List Int32} {k : Nat} (h : idxO sh TX = some k) : k < sh.length := by
  rw [idxO, List.findIdx?_eq_some_iff_getElem] at h
  exact h.1
theorem AOk.step {sh : List (List Int32)} {F : List Nat} {i : Nat} {TX : List Int32} (h : AOk sh F i) : AOk (cmA sh TX) (frA sh F TX) (i + 1) := by
  obtain ⟨h1, h2, h3, h4, h5⟩ := h
  rcases hk : idxO sh TX with _ | k
  · by_cases hc : sh.length = 6000 ∨ 50000 < sh.flatten.length + TX.length
    · obtain ⟨-, e1, e2⟩ := cma_no (F := F) hk hc
      rw [e1, e2]
      exact ⟨h1, h2, by omega, h4, h5⟩
    · obtain ⟨-, e1, e2⟩ := cma_new (F := F) hk (by omega) (by omega)
      rw [e1, e2]
      have hl := insS_len sh.length F
      refine ⟨by rw [List.length_append]; simp; omega, by rw [List.flatten_append, List.length_append, show [TX].flatten = TX by simp]; omega, by omega, Rise.pw.mpr (insS_rise (Rise.pw.mp h4)), fun x hx => ?_⟩
      rw [List.length_append]
      rcases insS_mem.mp hx with rfl | hx
      · simp
      · have := h5 x hx; simp; omega
  · obtain ⟨-, e1, e2⟩ := cma_some (F := F) hk
    have hl := insS_len k F
    rw [e1, e2]
    refine ⟨h1, h2, by omega, Rise.pw.mpr (insS_rise (Rise.pw.mp h4)), fun x hx => ?_⟩
    rcases insS_mem.mp hx with rfl | hx
    · exact idxO_lt hk
    · exact h5 x hx
/-- a slice -/
def slL (P : List Int32) (a b : Nat) : List Int32 := (P.drop a).take (b - a)
theorem slL_len {P : List Int32} {a b : Nat} (h : b ≤ P.length) : (slL P a b).length = b - a := by
  rw [slL, List.length_take, List.length_drop]; omega
theorem slL_get {P : List Int32} {a b t : Nat} (hb : b ≤ P.length) (ht : t < (slL P a b).length) : (slL P a b)[t] = P[a + t]'(by rw [slL_len hb] at ht; omega) := by
  simp only [slL, List.getElem_take, List.getElem_drop]
/-- the first blank from a on, or the end -/
def nxB (P : List Int32) (a : Nat) : Nat := a + (P.drop a).findIdx (fun x => x == 32)
theorem nxB_le {P : List Int32} {a : Nat} (h : a ≤ P.length) : a ≤ nxB P a ∧ nxB P a ≤ P.length := by
  have := List.findIdx_le_length (xs := P.drop a) (p := fun x => x == 32)
  rw [List.length_drop] at this
  unfold nxB
  omega
theorem nxB_no {P : List Int32} {a q : Nat} (h1 : a ≤ q) (h2 : q < nxB P a) (hq : q < P.length) : ¬ P[q] = 32 := by
  intro e
  have h3 := List.not_of_lt_findIdx (xs := P.drop a) (p := fun x => x == 32) (i := q - a) (by unfold nxB at h2; omega)
  rw [List.getElem_drop] at h3
  simp only [show a + (q - a) = q by omega, e] at h3
  exact absurd h3 (by decide)
theorem nxB_at {P : List Int32} {a : Nat} (h : nxB P a < P.length) : P[nxB P a] = 32 := by
  have h1 : (P.drop a).findIdx (fun x => x == 32) < (P.drop a).length := by
    rw [List.length_drop]; unfold nxB at h; omega
  have h3 := List.findIdx_getElem (xs := P.drop a) (p := fun x => x == 32) (w := h1)
  rw [List.getElem_drop] at h3
  exact eq_of_beq h3
theorem nxB_of {P : List Int32} {a g : Nat} (h1 : a ≤ g) (hg : g ≤ nxB P a) (h2 : P.length ≤ g ∨ ∃ h : g < P.length, P[g] = 32) (ha : a ≤ P.length) : g = nxB P a := by
  have h3 := nxB_le ha
  by_cases e : g = nxB P a
  · exact e
  · rcases h2 with h2 | ⟨h4, h5⟩
    · omega
    · exact absurd h5 (nxB_no h1 (by omega) h4)
/-- where the words begin; behind the last one where a next would -/
def wst (P : List Int32) : Nat → Nat
  | 0 => 0
  | j + 1 => nxB P (wst P j) + 1
def wcnt (P : List Int32) : Nat := if P.length = 0 then 0 else 1 + P.countP (fun x => x == 32)
def LastOK (P : List Int32) : Prop := ∀ h : 0 < P.length, ¬ P[P.length - 1] = 32
theorem cnt_seg {P : List Int32} {a b : Nat} (hab : a ≤ b) (hb : b ≤ P.length) (hno : ∀ q (hq : q < P.length), a ≤ q → q < b → ¬ P[q] = 32) : (P.take b).countP (fun x => x == 32) = (P.take a).countP (fun x => x == 32) := by
  induction b with
  | zero => rw [Nat.le_zero.mp hab]
  | succ b ih =>
    by_cases e : a = b + 1
    · rw [e]
    · rw [List.take_add_one, List.getElem?_eq_getElem (by omega), List.countP_append, ih (by omega) (by omega) (fun q hq h1 h2 => hno q hq h1 (by omega))]
      have := hno b (by omega) (by omega) (by omega)
      simp [this]
theorem wst_cnt {P : List Int32} : ∀ {j : Nat}, wst P j ≤ P.length → (P.take (wst P j)).countP (fun x => x == 32) = j
  | 0, _ => rfl
  | j + 1, h => by
    have h0 : nxB P (wst P j) < P.length := h
    have h1 : wst P j ≤ P.length := by unfold nxB at h0; omega
    have h2 := wst_cnt (j := j) h1
    have h3 := nxB_le h1
    have h4 := cnt_seg (P := P) (a := wst P j) (b := nxB P (wst P j)) h3.1 h3.2 (fun q hq h5 h6 => nxB_no h5 h6 hq)
    rw [wst, List.take_add_one, List.getElem?_eq_getElem h0, List.countP_append, h4, h2]
    have h5 := nxB_at h0
    simp [h5]
theorem wst_mono {P : List Int32} {j : Nat} : wst P j < wst P (j + 1) := by
  show wst P j < nxB P (wst P j) + 1
  unfold nxB; omega
theorem cnt_all {P : List Int32} (b : Nat) : (P.take b).countP (fun x => x == 32) ≤ P.countP (fun x => x == 32) := by
  conv => rhs; rw [← List.take_append_drop b P]
  rw [List.countP_append]; omega
theorem wst_in {P : List Int32} {j : Nat} (h : wst P j < P.length) : j < wcnt P := by
  have h1 := wst_cnt (P := P) (j := j) (by omega)
  have h2 := cnt_all (P := P) (wst P j)
  rw [wcnt, if_neg (by omega)]
  omega
theorem wst_out {P : List Int32} (hl : LastOK P) : ∀ {j : Nat}, P.length ≤ wst P j → wcnt P ≤ j ∧ (j = wcnt P → 0 < P.length → wst P j = P.length + 1)
  | 0, h => by
    have h0 : P.length = 0 := Nat.le_zero.mp h
    exact ⟨by rw [wcnt, if_pos h0]; exact Nat.le_refl _, fun _ h1 => by omega⟩
  | j + 1, h => by
    by_cases h1 : P.length ≤ wst P j
    · have h2 := wst_out hl h1
      exact ⟨by omega, fun e => by omega⟩
    · have h2 := nxB_le (P := P) (a := wst P j) (by omega)
      have h3 := wst_cnt (P := P) (j := j) (by omega)
      have hw : wst P (j + 1) = nxB P (wst P j) + 1 := rfl
      have h4 : nxB P (wst P j) = P.length := by
        by_cases e : nxB P (wst P j) = P.length
        · exact e
        · have h5 : nxB P (wst P j) = P.length - 1 := by omega
          have h6 := nxB_at (P := P) (a := wst P j) (by omega)
          simp only [h5] at h6
          exact absurd h6 (hl (by omega))
      have h5 := cnt_seg (P := P) (a := wst P j) (b := P.length) (by omega) (Nat.le_refl _) (fun q hq h6 h7 => nxB_no h6 (by omega) hq)
      rw [List.take_length, h3] at h5
      exact ⟨by rw [wcnt, if_neg (by omega), h5]; omega, fun _ _ => by rw [hw, h4]⟩
theorem wst_lt {P : List Int32} (hl : LastOK P) {j : Nat} (hj : j < wcnt P) : wst P j < P.length := by
  by_cases h : wst P j < P.length
  · exact h
  · have := (wst_out hl (Nat.not_lt.mp h)).1; omega
theorem wst_end {P : List Int32} (hl : LastOK P) (h0 : 0 < P.length) : wst P (wcnt P) = P.length + 1 := by
  by_cases h : wst P (wcnt P) < P.length
  · exact absurd (wst_in h) (Nat.lt_irrefl _)
  · exact (wst_out hl (Nat.not_lt.mp h)).2 rfl h0
theorem wst_le {P : List Int32} (hl : LastOK P) {j : Nat} (hj : j ≤ wcnt P) (h : wst P j ≤ P.length) (h0 : 0 < P.length) : j < wcnt P := by
  by_cases e : j = wcnt P
  · have := wst_end hl h0; rw [e] at h; omega
  · omega
theorem wst_1 {P : List Int32} {j : Nat} (hj : 0 < j) : 0 < wst P j := by
  obtain ⟨k, rfl⟩ : ∃ k, j = k + 1 := ⟨j - 1, by omega⟩
  exact Nat.succ_pos _
theorem wst_bound {P : List Int32} (hl : LastOK P) (h0 : 0 < P.length) {j : Nat} (hj : j ≤ wcnt P) : wst P j ≤ P.length + 1 := by
  by_cases e : j = wcnt P
  · rw [e, wst_end hl h0]; exact Nat.le_refl _
  · have := wst_lt hl (show j < wcnt P by omega); omega
theorem wst_mono2 {P : List Int32} {i : Nat} : ∀ {j : Nat}, i ≤ j → wst P i ≤ wst P j
  | 0, h => by rw [Nat.le_zero.mp h]; exact Nat.le_refl _
  | j + 1, h => by
    by_cases e : i = j + 1
    · rw [e]; exact Nat.le_refl _
    · have h1 := wst_mono2 (P := P) (i := i) (j := j) (by omega)
      have h2 := wst_mono (P := P) (j := j)
      omega
/-- the texts of all shingles, in their order -/
def spanL (so wi : Nat) (P : List Int32) : List (List Int32) :=
  if so = 0 then (List.range (P.length + 1 - wi)).map (fun i => slL P i (i + wi)) else (List.range (wcnt P + 1 - wi)).map (fun i => slL P (wst P i) (wst P (i + wi) - 1))
theorem span0_len {wi : Nat} {P : List Int32} : (spanL 0 wi P).length = P.length + 1 - wi := by rw [spanL, if_pos rfl, List.length_map, List.length_range]
theorem span1_len {wi so : Nat} {P : List Int32} (hs : 0 < so) : (spanL so wi P).length = wcnt P + 1 - wi := by rw [spanL, if_neg (by omega), List.length_map, List.length_range]
theorem span0_get {wi i : Nat} {P : List Int32} (hi : i < (spanL 0 wi P).length) : (spanL 0 wi P)[i] = slL P i (i + wi) := by
  unfold spanL
  simp only [if_pos, List.getElem_map, List.getElem_range]
theorem span1_get {wi so i : Nat} {P : List Int32} (hs : 0 < so) (hi : i < (spanL so wi P).length) : (spanL so wi P)[i] = slL P (wst P i) (wst P (i + wi) - 1) := by
  have h : spanL so wi P = (List.range (wcnt P + 1 - wi)).map (fun i => slL P (wst P i) (wst P (i + wi) - 1)) := by rw [spanL, if_neg (by omega)]
  simp only [h, List.getElem_map, List.getElem_range]
theorem wcnt_le {P : List Int32} (hl : LastOK P) : wcnt P ≤ P.length := by
  by_cases h0 : P.length = 0
  · rw [wcnt, if_pos h0]; omega
  · have h1 : ∀ j, j ≤ wst P j := fun j => by
      induction j with
      | zero => exact Nat.zero_le _
      | succ j ih => have := wst_mono (P := P) (j := j); omega
    by_cases h : wcnt P ≤ P.length
    · exact h
    · have h2 := wst_lt hl (show wcnt P - 1 < wcnt P by omega)
      have h3 := h1 (wcnt P - 1)
      omega
theorem span_le {so wi : Nat} {P : List Int32} (hl : LastOK P) (hw : 1 ≤ wi) : (spanL so wi P).length ≤ P.length := by
  by_cases h : so = 0
  · subst h; rw [span0_len]; omega
  · rw [span1_len (by omega)]
    have := wcnt_le hl
    omega
/-- letters copied behind the others -/
def cpB (lf fp : Nat → Int32) (b a i : Nat) : Nat → Int32 := fun q => if b ≤ q ∧ q < b + i then fp (a + (q - b)) else lf q
theorem cpB_0 (lf fp : Nat → Int32) (b a : Nat) : cpB lf fp b a 0 = lf := by
  funext q; rw [cpB, if_neg (by omega)]
theorem cpB_s {lf fp : Nat → Int32} {b a i : Nat} {v : Int32} (h : v = fp (a + i)) : upd (cpB lf fp b a i) (b + i) v = cpB lf fp b a (i + 1) := by
  funext q
  by_cases e : q = b + i
  · subst e
    rw [show upd (cpB lf fp b a i) (b + i) v (b + i) = v from by simp [upd], cpB, if_pos (by omega), h, show b + i - b = i by omega]
  · rw [show upd (cpB lf fp b a i) (b + i) v q = cpB lf fp b a i q from by simp [upd, e], cpB, cpB]
    by_cases h2 : b ≤ q ∧ q < b + i
    · rw [if_pos h2, if_pos (by omega)]
    · rw [if_neg h2, if_neg (by omega)]
theorem StM.app {sh : List (List Int32)} {lf fp : Nat → Int32} {ff zf : Nat → Nat} {TX : List Int32} {at_ : Nat} (h : StM sh lf ff zf) (hT : ∀ t (ht : t < TX.length), fp (at_ + t) = TX[t]) : StM (sh ++ [TX]) (cpB lf fp sh.flatten.length at_ TX.length) (va_up ff sh.length sh.flatten.length) (va_up zf sh.length TX.length) := by
  refine ⟨?_, fun i hi => ?_⟩
  · have hfl : (sh ++ [TX]).flatten = sh.flatten ++ TX := by simp
    rw [hfl]
    intro q hq
    rw [List.length_append] at hq
    by_cases h1 : q < sh.flatten.length
    · have h2 := h.1 q h1
      rw [cpB, if_neg (by omega), h2, List.getD_eq_getElem?_getD, List.getD_eq_getElem?_getD, List.getElem?_append_left h1]
    · rw [cpB, if_pos (by omega), hT (q - sh.flatten.length) (by omega), List.getD_eq_getElem?_getD, List.getElem?_append_right (by omega), List.getElem?_eq_getElem (by omega), Option.getD_some]
  · rw [List.length_append] at hi
    simp only [List.length_singleton] at hi
    by_cases e : i = sh.length
    · subst e
      refine ⟨?_, ?_⟩
      · rw [va_up_self, ofs, List.take_left]
      · rw [va_up_self]; simp
    · have h2 := h.2 i (by omega)
      refine ⟨?_, ?_⟩
      · rw [va_up_ne _ _ e, h2.1, ofs, ofs, List.take_append_of_le_length (by omega)]
      · rw [va_up_ne _ _ e, h2.2, List.getElem_append_left (by omega)]
theorem StM.pre {sh M : List (List Int32)} {lf : Nat → Int32} {ff zf : Nat → Nat} (h : StM (sh ++ M) lf ff zf) : StM sh lf ff zf := by
  refine ⟨?_, fun i hi => ?_⟩
  · have := h.1
    rw [List.flatten_append] at this
    exact this.pre
  · have h2 := h.2 i (by rw [List.length_append]; omega)
    refine ⟨?_, ?_⟩
    · rw [h2.1, ofs, ofs, List.take_append_of_le_length (by omega)]
    · rw [h2.2, List.getElem_append_left hi]
/-- a row moved up by one from 'to' on -/
def shU (fr : Nat → Nat) (n i : Nat) : Nat → Nat := fun q => if i < q ∧ q ≤ n then fr (q - 1) else fr q
theorem shU_n (fr : Nat → Nat) (n : Nat) : shU fr n n = fr := by
  funext q; rw [shU, if_neg (by omega)]
theorem shU_s {fr : Nat → Nat} {n i : Nat} (hi : i < n) : va_up (shU fr n (i + 1)) (i + 1) (shU fr n (i + 1) i) = shU fr n i := by
  funext q
  by_cases e : q = i + 1
  · subst e; rw [va_up_self, shU, if_neg (by omega), shU, if_pos (by omega)]; rfl
  · rw [va_up_ne _ _ e, shU, shU]
    by_cases h2 : i + 1 < q ∧ q ≤ n
    · rw [if_pos h2, if_pos (by omega)]
    · rw [if_neg h2, if_neg (by omega)]
theorem HdN.ins {fr : Nat → Nat} {F : List Nat} {t k : Nat} (h : HdN fr F) (ht : t ≤ F.length) : HdN (va_up (shU fr F.length t) t k) (F.take t ++ k :: F.drop t) := by
  intro q hq
  have hl : (F.take t ++ k :: F.drop t).length = F.length + 1 := by simp; omega
  rw [hl] at hq
  have htl : (F.take t).length = t := by rw [List.length_take]; omega
  by_cases e : q = t
  · subst e
    rw [va_up_self, List.getD_eq_getElem?_getD, List.getElem?_append_right (by omega), htl, Nat.sub_self]; rfl
  · rw [va_up_ne _ _ e, shU, List.getD_eq_getElem?_getD]
    by_cases h1 : q < t
    · rw [if_neg (by omega), h q (by omega), List.getElem?_append_left (by omega), List.getElem?_take_of_lt h1, List.getD_eq_getElem?_getD]
    · rw [if_pos (by omega), h (q - 1) (by omega), List.getElem?_append_right (by omega), htl, show q - t = (q - 1 - t) + 1 by omega, List.getElem?_cons_succ, List.getElem?_drop, show t + (q - 1 - t) = q - 1 by omega, List.getD_eq_getElem?_getD]
theorem ins_at {F : List Nat} {t k : Nat} (ht : t ≤ F.length) (hlo : ∀ q (hq : q < F.length), q < t → F[q] < k) (hhi : ∀ q (hq : q < F.length), t ≤ q → k < F[q]) : insS k F = F.take t ++ k :: F.drop t := by
  conv => lhs; rw [← List.take_append_drop t F]
  refine insS_split (fun x hx => ?_) (fun x hx => ?_)
  · obtain ⟨q, hq, rfl⟩ := List.mem_iff_getElem.mp hx
    rw [List.length_take] at hq
    rw [List.getElem_take]
    exact hlo q (by omega) (by omega)
  · obtain ⟨q, hq, rfl⟩ := List.mem_iff_getElem.mp hx
    rw [List.length_drop] at hq
    rw [List.getElem_drop]
    exact hhi (t + q) (by omega) (by omega)
theorem ins_hit {F : List Nat} {t k : Nat} (hR : Rise F) (ht : t < F.length) (hk : F[t] = k) : insS k F = F := by
  have e : F = F.take t ++ k :: F.drop (t + 1) := by
    conv => lhs; rw [← List.take_append_drop t F, List.drop_eq_getElem_cons ht, hk]
  conv => lhs; rw [e]
  rw [insS_in, ← e]
  intro x hx
  obtain ⟨q, hq, rfl⟩ := List.mem_iff_getElem.mp hx
  rw [List.length_take] at hq
  rw [List.getElem_take, ← hk]
  exact hR q t (by omega) ht (by omega)
/-- the plain text: bytes, and no blank at its end -/
def PlOK (P : List Int32) : Prop := (∀ x ∈ P, x.toInt8.toInt32 = x) ∧ LastOK P
theorem PlOK.app {o : List Int32} {a : Int32} (h : ∀ x ∈ o, x.toInt8.toInt32 = x) (ha : ¬ plSign a = 32) : PlOK (o ++ [plSign a]) := by
  refine ⟨fun x hx => ?_, fun hl => ?_⟩
  · rcases List.mem_append.mp hx with hx | hx
    · exact h x hx
    · rw [List.mem_singleton.mp hx]; exact plS_byte a
  · simpa using ha
theorem plain_ok (T : List Int32) : PlOK (plainOf T) := by
  have key : ∀ (T : List Int32) (q : List Int32 × Bool), PlOK q.1 → PlOK (T.foldl pst q).1 := by
    intro T
    induction T with
    | nil => intro q h; exact h
    | cons a T ih =>
      intro q h
      refine ih _ ?_
      by_cases hn : plSign a = 32
      · have e : pst q a = (q.1, true) := by rw [pst, if_pos hn]
        rw [e]; exact h
      · by_cases hb : (q.2 && !q.1.isEmpty) = true
        · have e : pst q a = (q.1 ++ [32] ++ [plSign a], false) := by rw [pst, if_neg hn, if_pos hb]
          rw [e]
          refine PlOK.app (fun x hx => ?_) hn
          rcases List.mem_append.mp hx with hx | hx
          · exact h.1 x hx
          · rw [List.mem_singleton.mp hx]; rfl
        · have e : pst q a = (q.1 ++ [plSign a], false) := by rw [pst, if_neg hn, if_neg hb]
          rw [e]
          exact PlOK.app h.1 hn
  exact key T ([], false) ⟨fun x hx => absurd hx (by simp), fun h => absurd h (by simp)⟩
theorem ins_lo {F : List Nat} {t k q : Nat} (hR : Rise F) (hq : q < F.length) (h : q < t) (ht : t ≤ F.length) (hk : F[t - 1]'(by omega) < k) : F[q] < k := by
  rcases Nat.lt_or_eq_of_le (show q ≤ t - 1 by omega) with h9 | h9
  · exact Nat.lt_trans (hR q (t - 1) hq (by omega) h9) hk
  · subst h9; exact hk
theorem AOk.mono {sh : List (List Int32)} {F : List Nat} {i j : Nat} (h : AOk sh F i) (hj : i ≤ j) : AOk sh F j := ⟨h.1, h.2.1, Nat.le_trans h.2.2.1 hj, h.2.2.2⟩
theorem span0_len' {so wi : Nat} {P : List Int32} (h : so = 0) : (spanL so wi P).length = P.length + 1 - wi := by subst h; exact span0_len
theorem span0_get' {so wi i : Nat} {P : List Int32} (h : so = 0) (hi : i < (spanL so wi P).length) : (spanL so wi P)[i] = slL P i (i + wi) := by subst h; exact span0_get hi
theorem nxB_step {P : List Int32} {a g : Nat} (h2 : g ≤ nxB P a) (hg : g < P.length) (hn : ¬ P[g] = 32) : g + 1 ≤ nxB P a := by
  by_cases e : g = nxB P a
  · have h3 := nxB_at (P := P) (a := a) (by omega)
    simp only [← e] at h3
    exact absurd h3 hn
  · omega
/-- where the text of v words from the i-th on ends -/
def EV (P : List Int32) (i v e : Nat) : Prop := (v = 0 ∧ e = wst P i) ∨ (0 < v ∧ e + 1 = wst P (i + v))
theorem EV.at0 {P : List Int32} {i v e : Nat} (h : EV P i v e) (hv : v ≤ 0) : e = wst P (i + v) := by
  rcases h with ⟨h1, h2⟩ | ⟨h1, h2⟩
  · rw [h1]; exact h2
  · omega
theorem EV.at1 {P : List Int32} {i v e : Nat} (h : EV P i v e) (hv : 0 < v) : e + 1 = wst P (i + v) := by
  rcases h with ⟨h1, h2⟩ | ⟨h1, h2⟩
  · omega
  · exact h2
theorem EV.le {P : List Int32} {i v e : Nat} (h : EV P i v e) (he : e < P.length) : wst P (i + v) ≤ P.length := by
  by_cases hv : v ≤ 0
  · rw [← h.at0 hv]; omega
  · rw [← h.at1 (by omega)]; omega
theorem EV.next {P : List Int32} {i v g : Nat} (hg : g = nxB P (wst P (i + v))) : EV P i (v + 1) g := Or.inr ⟨Nat.succ_pos _, by rw [hg]; rfl⟩
theorem EV.full {P : List Int32} {i v e : Nat} (hl : LastOK P) (h : EV P i v e) (he : P.length ≤ e) (hi : wst P i < P.length) : wcnt P ≤ i + v := by
  by_cases hv : v ≤ 0
  · have h1 := h.at0 hv
    rw [show v = 0 by omega] at h1
    have h2 : e = wst P i := h1
    omega
  · exact (wst_out hl (by rw [← h.at1 (by omega)]; omega)).1
theorem wst_mono3 {P : List Int32} {i j : Nat} (h : i < j) : wst P i < wst P j := Nat.lt_of_lt_of_le wst_mono (wst_mono2 h)
theorem runA_step {sh sh1 : List (List Int32)} {F1 : List Nat} {L : List (List Int32)} {i : Nat} (hi : i < L.length) {TX : List Int32} (hT : TX = L[i]) (h : runA sh (L.take i) = (sh1, F1, true)) : runA sh (L.take (i + 1)) = (cmA sh1 TX, frA sh1 F1 TX, cmOk sh1 TX) := by
  rw [runA_take hi h, hT]; rfl
theorem wst_bnd9 {P : List Int32} (hl : LastOK P) {j : Nat} (hj : j ≤ wcnt P) : wst P j ≤ P.length + 1 := by
  by_cases h0 : P.length = 0
  · rw [wcnt, if_pos h0] at hj
    rw [Nat.le_zero.mp hj]; exact Nat.zero_le _
  · exact wst_bound hl (by omega) hj
def adOk (so wi : Nat) (T : List Int32) (sh : List (List Int32)) (docs : List (Nat × List Nat)) (ca : Nat) : Bool := decide (docs.length ≠ 48) && (decide (ca ≠ 400) && (runA sh (spanL so wi (plainOf T))).2.2)
def adS (so wi : Nat) (T : List Int32) (sh : List (List Int32)) (docs : List (Nat × List Nat)) (ca : Nat) : List (List Int32) := bif adOk so wi T sh docs ca then (runA sh (spanL so wi (plainOf T))).1 else sh
def adD (so wi : Nat) (T : List Int32) (sh : List (List Int32)) (docs : List (Nat × List Nat)) (ca : Nat) : List (Nat × List Nat) := bif adOk so wi T sh docs ca then docs ++ [(ca, (runA sh (spanL so wi (plainOf T))).2.1)] else docs
def adR (so wi : Nat) (T : List Int32) (sh : List (List Int32)) (docs : List (Nat × List Nat)) (ca : Nat) : Int32 := bif adOk so wi T sh docs ca then nI ca else -1
theorem ad_full {so wi : Nat} {T : List Int32} {sh : List (List Int32)} {docs : List (Nat × List Nat)} {ca : Nat} (h : docs.length = 48 ∨ ca = 400) : adOk so wi T sh docs ca = false := by
  rw [adOk]
  rcases h with h | h
  · rw [decide_eq_false (fun h9 => h9 h)]; rfl
  · rw [decide_eq_false (p := ca ≠ 400) (fun h9 => h9 h)]; simp
theorem ad_f {so wi : Nat} {T : List Int32} {sh : List (List Int32)} {docs : List (Nat × List Nat)} {ca : Nat} (h : (runA sh (spanL so wi (plainOf T))).2.2 = false) : adOk so wi T sh docs ca = false := by
  rw [adOk, h]; simp
theorem ad_t {so wi : Nat} {T : List Int32} {sh : List (List Int32)} {docs : List (Nat × List Nat)} {ca : Nat} (h1 : docs.length ≠ 48) (h2 : ca ≠ 400) (h : (runA sh (spanL so wi (plainOf T))).2.2 = true) : adOk so wi T sh docs ca = true := by
  rw [adOk, h, decide_eq_true h1, decide_eq_true h2]; rfl
theorem ad_no {so wi : Nat} {T : List Int32} {sh : List (List Int32)} {docs : List (Nat × List Nat)} {ca : Nat} (h : adOk so wi T sh docs ca = false) : adS so wi T sh docs ca = sh ∧ adD so wi T sh docs ca = docs := ⟨by rw [adS, h]; rfl, by rw [adD, h]; rfl⟩
theorem ad_yes {so wi : Nat} {T : List Int32} {sh : List (List Int32)} {docs : List (Nat × List Nat)} {ca : Nat} (h : adOk so wi T sh docs ca = true) : adS so wi T sh docs ca = (runA sh (spanL so wi (plainOf T))).1 ∧ adD so wi T sh docs ca = docs ++ [(ca, (runA sh (spanL so wi (plainOf T))).2.1)] := ⟨by rw [adS, h]; rfl, by rw [adD, h]; rfl⟩
theorem adR_no {so wi : Nat} {T : List Int32} {sh : List (List Int32)} {docs : List (Nat × List Nat)} {ca : Nat} (h : adOk so wi T sh docs ca = false) : adR so wi T sh docs ca = -1 := by rw [adR, h]; rfl
theorem adR_yes {so wi : Nat} {T : List Int32} {sh : List (List Int32)} {docs : List (Nat × List Nat)} {ca : Nat} (h : adOk so wi T sh docs ca = true) : adR so wi T sh docs ca = nI ca := by rw [adR, h]; rfl
def cpS (gs fr : Nat → Nat) (b k : Nat) : Nat → Nat := fun q => if b ≤ q ∧ q < b + k then fr (q - b) else gs q
theorem cpS_0 (gs fr : Nat → Nat) (b : Nat) : cpS gs fr b 0 = gs := by
  funext q; rw [cpS, if_neg (by omega)]
theorem cpS_s {gs fr : Nat → Nat} {b k : Nat} : va_up (cpS gs fr b k) (b + k) (fr k) = cpS gs fr b (k + 1) := by
  funext q
  by_cases e : q = b + k
  · subst e
    rw [va_up_self, cpS, if_pos (by omega), show b + k - b = k by omega]
  · rw [va_up_ne _ _ e, cpS, cpS]
    by_cases h2 : b ≤ q ∧ q < b + k
    · rw [if_pos h2, if_pos (by omega)]
    · rw [if_neg h2, if_neg (by omega)]
theorem HdD.app {gn gm gs fr : Nat → Nat} {docs : List (Nat × List Nat)} {F : List Nat} {ca : Nat} (h : HdD gn gm gs docs) (hds : Dsm docs) (hF : HdN fr F) : HdD (va_up gn docs.length ca) (va_up gm docs.length F.length) (cpS gs fr (800 * docs.length) F.length) (docs ++ [(ca, F)]) := by
  intro i hi
  rw [List.length_append] at hi
  simp only [List.length_singleton] at hi
  by_cases e : i = docs.length
  · subst e
    rw [show (docs ++ [(ca, F)])[docs.length] = (ca, F) from by simp]
    refine ⟨va_up_self _ _ _, va_up_self _ _ _, fun t ht => ?_⟩
    have ht2 : t < F.length := ht
    rw [cpS, if_pos (by omega), show 800 * docs.length + t - 800 * docs.length = t by omega, hF.at ht2]
  · rw [List.getElem_append_left (by omega)]
    have hl := (hds docs[i] (List.getElem_mem _)).2.1
    exact (h i (by omega)).of_eq (va_up_ne _ _ e) (va_up_ne _ _ e) (fun t ht => by rw [cpS, if_neg (by omega)])
