/-- the numbers along a text, as they come -/
def stepB (q : List (List Int32) × List Nat × Bool) (TX : List Int32) : List (List Int32) × List Nat × Bool := bif q.2.2 then (cmA q.1 TX, (bif cmOk q.1 TX then q.2.1 ++ [cmK q.1 TX] else q.2.1), cmOk q.1 TX) else q
def runB (sh : List (List Int32)) (L : List (List Int32)) : List (List Int32) × List Nat × Bool := L.foldl stepB (sh, [], true)
def insL (A : List Nat) : List Nat := A.foldl (fun F k => insS k F) []
theorem runAB {L : List (List Int32)} : ∀ {sh : List (List Int32)} {A : List Nat} {b : Bool}, L.foldl stepA (sh, insL A, b) = ((L.foldl stepB (sh, A, b)).1, insL (L.foldl stepB (sh, A, b)).2.1, (L.foldl stepB (sh, A, b)).2.2) := by
  induction L with
  | nil => intro sh A b; rfl
  | cons T L ih =>
    intro sh A b
    show L.foldl stepA (stepA (sh, insL A, b) T) = _
    have e : stepA (sh, insL A, b) T = ((stepB (sh, A, b) T).1, insL (stepB (sh, A, b) T).2.1, (stepB (sh, A, b) T).2.2) := by
      rw [stepA, stepB]
      cases b with
      | false => rfl
      | true =>
        show (cmA sh T, frA sh (insL A) T, cmOk sh T) = (cmA sh T, insL (bif cmOk sh T then A ++ [cmK sh T] else A), cmOk sh T)
        rw [frA]
        cases cmOk sh T with
        | false => rfl
        | true =>
          show (cmA sh T, insS (cmK sh T) (insL A), true) = (cmA sh T, insL (A ++ [cmK sh T]), true)
          rw [insL, insL, List.foldl_append]; rfl
    rw [e, ih]; rfl
theorem runA_B (sh L : List (List Int32)) : runA sh L = ((runB sh L).1, insL (runB sh L).2.1, (runB sh L).2.2) := runAB (A := [])
theorem insL_mem {A : List Nat} {x : Nat} : x ∈ insL A ↔ x ∈ A := by
  have key : ∀ (A F : List Nat), x ∈ A.foldl (fun F k => insS k F) F ↔ x ∈ F ∨ x ∈ A := by
    intro A
    induction A with
    | nil => intro F; simp
    | cons a A ih =>
      intro F
      show x ∈ A.foldl (fun F k => insS k F) (insS a F) ↔ _
      rw [ih, insS_mem, List.mem_cons]
      constructor
      · rintro ((h | h) | h)
        · exact Or.inr (Or.inl h)
        · exact Or.inl h
        · exact Or.inr (Or.inr h)
      · rintro (h | h | h)
        · exact Or.inl (Or.inr h)
        · exact Or.inl (Or.inl h)
        · exact Or.inr h
  rw [insL, key]; simp
theorem insL_pw (A : List Nat) : (insL A).Pairwise (· < ·) := by
  have key : ∀ (A F : List Nat), F.Pairwise (· < ·) → (A.foldl (fun F k => insS k F) F).Pairwise (· < ·) := by
    intro A
    induction A with
    | nil => intro F h; exact h
    | cons a A ih => intro F h; exact ih _ (insS_rise h)
  exact key A [] List.Pairwise.nil
theorem selN_insL {A : List Nat} {n : Nat} (h : ∀ x ∈ A, x < n) : selN A n = insL A := rise_ext (selN_pw A n) (insL_pw A) (fun x => by rw [selN_mem, insL_mem]; exact ⟨fun h => h.2, fun h9 => ⟨h x h9, h9⟩⟩)
theorem cont_insL (A : List Nat) (q : Nat) : (insL A).contains q = A.contains q := by
  by_cases h : q ∈ A
  · rw [List.contains_iff_mem.mpr h, List.contains_iff_mem.mpr (insL_mem.mpr h)]
  · have h1 : ¬ (A.contains q = true) := fun h9 => h (List.contains_iff_mem.mp h9)
    have h2 : ¬ ((insL A).contains q = true) := fun h9 => h (insL_mem.mp (List.contains_iff_mem.mp h9))
    rw [Bool.eq_false_iff.mpr h1, Bool.eq_false_iff.mpr h2]
theorem runB_step {sh sh1 : List (List Int32)} {A1 : List Nat} {L : List (List Int32)} {i : Nat} (hi : i < L.length) {TX : List Int32} (hT : TX = L[i]) (h : runB sh (L.take i) = (sh1, A1, true)) : runB sh (L.take (i + 1)) = (cmA sh1 TX, (bif cmOk sh1 TX then A1 ++ [cmK sh1 TX] else A1), cmOk sh1 TX) := by
  rw [runB, List.take_add_one, List.getElem?_eq_getElem hi, List.foldl_append]
  rw [runB] at h
  rw [h, hT]; rfl
theorem runB_stop {L : List (List Int32)} : ∀ {q : List (List Int32) × List Nat × Bool}, q.2.2 = false → L.foldl stepB q = q := by
  induction L with
  | nil => intro q _; rfl
  | cons a L ih =>
    intro q h
    show L.foldl stepB (stepB q a) = q
    have e : stepB q a = q := by rw [stepB, h]; rfl
    rw [e]; exact ih h
theorem runB_fail {sh : List (List Int32)} {L : List (List Int32)} {i : Nat} {q : List (List Int32) × List Nat × Bool} (h : runB sh (L.take i) = q) (hf : q.2.2 = false) : runB sh L = q := by
  conv => lhs; rw [← List.take_append_drop i L]
  rw [runB, List.foldl_append]
  rw [runB] at h
  rw [h, runB_stop hf]
theorem runB_end {sh : List (List Int32)} {L : List (List Int32)} {i : Nat} {q : List (List Int32) × List Nat × Bool} (h : runB sh (L.take i) = q) (hi : L.length ≤ i) : runB sh L = q := by
  rw [List.take_of_length_le hi] at h; exact h
/-- on the way: numbers are below the store's, as many as texts -/
def BOk (sh : List (List Int32)) (A : List Nat) (i : Nat) : Prop := sh.length ≤ 6000 ∧ sh.flatten.length ≤ 50000 ∧ A.length = i ∧ ∀ x ∈ A, x < sh.length
theorem BOk.step {sh : List (List Int32)} {A : List Nat} {i : Nat} {TX : List Int32} (h : BOk sh A i) (hk : cmOk sh TX = true) : BOk (cmA sh TX) (A ++ [cmK sh TX]) (i + 1) := by
  obtain ⟨h1, h2, h3, h4⟩ := h
  have hl : (A ++ [cmK sh TX]).length = i + 1 := by rw [List.length_append, h3]; rfl
  rcases hd : idxO sh TX with _ | k
  · have hc : ¬ (sh.length = 6000 ∨ 50000 < sh.flatten.length + TX.length) := fun h9 => by
      have := (cma_no (F := []) hd h9).1
      rw [this] at hk; cases hk
    obtain ⟨-, e1, -⟩ := cma_new (F := []) hd (by omega) (by omega)
    rw [e1]
    refine ⟨by rw [List.length_append]; simp; omega, by rw [List.flatten_append, List.length_append, show [TX].flatten = TX by simp]; omega, hl, fun x hx => ?_⟩
    rw [List.length_append, List.length_singleton]
    rcases List.mem_append.mp hx with hx | hx
    · have := h4 x hx; omega
    · rw [List.mem_singleton.mp hx, cmK, hd]
      show sh.length < _
      omega
  · obtain ⟨-, e1, -⟩ := cma_some (F := []) hd
    rw [e1]
    refine ⟨h1, h2, hl, fun x hx => ?_⟩
    rcases List.mem_append.mp hx with hx | hx
    · exact h4 x hx
    · rw [List.mem_singleton.mp hx, cmK, hd]
      exact idxO_lt hd
theorem stt_end {so : Nat} {P : List Int32} (hl : LastOK P) (h0 : 0 < P.length) (hs : so ≤ 1) : stt so P (pcnt so P) = P.length + so := by
  unfold stt pcnt
  by_cases e : so = 0
  · rw [if_pos e, if_pos e, e]; rfl
  · rw [if_neg e, if_neg e, wst_end hl h0, show so = 1 by omega]
theorem stt_mono {so : Nat} {P : List Int32} {i j : Nat} (h : i < j) : stt so P i < stt so P j := by
  unfold stt
  by_cases e : so = 0
  · rw [if_pos e, if_pos e]; exact h
  · rw [if_neg e, if_neg e]; exact wst_mono3 h
theorem stt_bound {so : Nat} {P : List Int32} (hl : LastOK P) (h0 : 0 < P.length) (hs : so ≤ 1) {j : Nat} (hj : j ≤ pcnt so P) : stt so P j ≤ P.length + so := by
  rw [← stt_end hl h0 hs]
  rcases Nat.lt_or_eq_of_le hj with h | h
  · exact Nat.le_of_lt (stt_mono h)
  · rw [h]; exact Nat.le_refl _
theorem pcnt_le {so : Nat} {P : List Int32} (hl : LastOK P) : pcnt so P ≤ P.length := by
  unfold pcnt
  by_cases e : so = 0
  · rw [if_pos e]; exact Nat.le_refl _
  · rw [if_neg e]; exact wcnt_le hl
theorem mx_sh {a w : Nat} (ha : a ≤ 1000) (hw : w ≤ 1000) : (if nI 0 < nI a - nI w + nI 1 then nI a - nI w + nI 1 else nI 0) = nI (a + 1 - w) := by
  by_cases h : w ≤ a
  · rw [pk_sub h, nI_add, if_pos (nI_lt (by omega) (by omega)), show a - w + 1 = a + 1 - w by omega]
  · have e : (nI a - nI w + nI 1).toInt ≤ 0 := by
      rw [Int32.toInt_add, Int32.toInt_sub, nI_toInt (by omega), nI_toInt (by omega), nI_toInt (by decide)]
      rw [Int.bmod_eq_of_le (n := (a : Int) - w) (by omega) (by omega), Int.bmod_eq_of_le (by omega) (by omega)]
      omega
    have h2 : ¬ nI 0 < nI a - nI w + nI 1 := fun h9 => by
      rw [Int32.lt_iff_toInt_lt, nI_toInt (by decide)] at h9
      omega
    rw [if_neg h2, show a + 1 - w = 0 by omega]
theorem numR_ne {sh : List (List Int32)} {TX : List Int32} (h : sh.length ≤ 6000) : (numR sh TX = -1 ↔ cmOk sh TX = false) ∧ (cmOk sh TX = true → numR sh TX = nI (cmK sh TX) ∧ cmK sh TX ≤ 6000) := by
  have hk : cmK sh TX ≤ 6000 := by
    rw [cmK]
    rcases hd : idxO sh TX with _ | k
    · exact h
    · exact Nat.le_of_lt (Nat.lt_of_lt_of_le (idxO_lt hd) h)
  rw [numR]
  cases hc : cmOk sh TX with
  | false => exact ⟨⟨fun _ => rfl, fun _ => rfl⟩, fun h9 => by cases h9⟩
  | true => exact ⟨⟨fun h9 => absurd h9 (nI_nm1 (by omega)), fun h9 => by cases h9⟩, fun _ => ⟨rfl, hk⟩⟩
theorem neg_or (i : Int32) : i < 0 ∨ ∃ j : Nat, j < 2 ^ 31 ∧ i = nI j := by
  by_cases h : i < 0
  · exact Or.inl h
  · exact Or.inr (nI_of h)
def faR (nu : Nat → Nat) (g : Nat → Bool) (n : Nat) (i : Int32) : Int32 := if i < 0 then -1 else match (selL g n)[i.toNatClampNeg]? with
  | none => -1
  | some q => nI (nu q.1)
theorem faR_neg {nu : Nat → Nat} {g : Nat → Bool} {n : Nat} {i : Int32} (h : i < 0) : faR nu g n i = -1 := by rw [faR, if_pos h]
theorem faR_at {nu : Nat → Nat} {g : Nat → Bool} {n i x : Nat} (hi : i < 2 ^ 31) (hx : x < n) (hg : g x = true) (h : i = (selL g x).length) : faR nu g n (nI i) = nI (nu x) := by
  rw [faR, if_neg (nI_pos hi), nI_clamp hi, sel_at hx hg h]
theorem faR_none {nu : Nat → Nat} {g : Nat → Bool} {n i : Nat} (hi : i < 2 ^ 31) (h : (selL g n).length ≤ i) : faR nu g n (nI i) = -1 := by
  rw [faR, if_neg (nI_pos hi), nI_clamp hi, List.getElem?_eq_none h]
