section NRF
def ahP (nr : Nat → Nat → Bool) (u t : Nat) : Bool := nr u t || (!nr t u && decide (u < t))
def insP (nr : Nat → Nat → Bool) (R : List Nat) (t : Nat) : List Nat := R.take (rnk (fun k => nr t (R.getD k 0)) R.length) ++ t :: R.drop (rnk (fun k => nr t (R.getD k 0)) R.length)
def ordP (nr : Nat → Nat → Bool) (x : Nat) (L : List Nat) : List Nat := L.foldl (fun R t => if t = x then R else insP nr R t) []
theorem rnk_hi {f : Nat → Bool} : ∀ {r k : Nat}, rnk f r ≤ k → k < r → f k = true
  | 0, _, _, h => absurd h (Nat.not_lt_zero _)
  | r + 1, k, h1, h2 => by
    by_cases e : f r = true
    · rw [rnk_t e] at h1
      by_cases ek : k = r
      · rw [ek]; exact e
      · exact rnk_hi h1 (by omega)
    · have e2 : f r = false := by simpa using e
      rw [rnk_f e2] at h1; omega
theorem rnk_lo {f : Nat → Bool} : ∀ {r : Nat}, 0 < rnk f r → f (rnk f r - 1) = false
  | 0, h => absurd h (Nat.lt_irrefl 0)
  | r + 1, h => by
    by_cases e : f r = true
    · rw [rnk_t e] at h ⊢; exact rnk_lo h
    · have e2 : f r = false := by simpa using e
      rw [rnk_f e2]; exact e2
/-- a strict weak order -/
def Swo (nr : Nat → Nat → Bool) : Prop := (∀ a b, nr a b = true → nr b a = false) ∧ ∀ a b c, nr a b = false → nr b c = false → nr a c = false
theorem Swo.as {nr : Nat → Nat → Bool} (h : Swo nr) {a b : Nat} : nr a b = true → nr b a = false := h.1 a b
theorem Swo.nt {nr : Nat → Nat → Bool} (h : Swo nr) {a b c : Nat} : nr a b = false → nr b c = false → nr a c = false := h.2 a b c
theorem Swo.irr {nr : Nat → Nat → Bool} (h : Swo nr) (a : Nat) : nr a a = false := by
  cases e : nr a a
  · rfl
  · have := h.as e; rw [e] at this; exact this
theorem ah_nr {nr : Nat → Nat → Bool} (h : Swo nr) {a b : Nat} (hh : ahP nr a b = true) : nr b a = false := by
  unfold ahP at hh
  cases e : nr a b
  · rw [e] at hh; cases e2 : nr b a
    · rfl
    · rw [e2] at hh; cases hh
  · exact h.as e
theorem ah_irr {nr : Nat → Nat → Bool} (h : Swo nr) (a : Nat) : ahP nr a a = false := by
  unfold ahP; rw [h.irr]; simp
theorem ah_as {nr : Nat → Nat → Bool} (h : Swo nr) {a b : Nat} (hh : ahP nr a b = true) : ahP nr b a = false := by
  have h1 := ah_nr h hh
  unfold ahP at hh ⊢
  rw [h1] at hh ⊢
  cases e : nr a b
  · rw [e] at hh
    have : a < b := by simpa using hh
    simp; omega
  · simp
theorem insP_perm {nr : Nat → Nat → Bool} {R : List Nat} {t : Nat} : (insP nr R t).Perm (t :: R) := by
  unfold insP
  exact List.perm_middle.trans (by rw [List.take_append_drop])
theorem insP_pw {nr : Nat → Nat → Bool} (h : Swo nr) {R : List Nat} {t : Nat} (hR : R.Pairwise (fun a b => ahP nr a b = true)) (hlt : ∀ u ∈ R, u < t) : (insP nr R t).Pairwise (fun a b => ahP nr a b = true) := by
  unfold insP
  have hle := rnk_le (fun k => nr t (R.getD k 0)) R.length
  have hi := fun k => rnk_hi (f := fun k => nr t (R.getD k 0)) (r := R.length) (k := k)
  have lo := rnk_lo (f := fun k => nr t (R.getD k 0)) (r := R.length)
  generalize hr : rnk (fun k => nr t (R.getD k 0)) R.length = r at *
  have h0 := hR
  rw [← List.take_append_drop r R, List.pairwise_append] at h0
  have hT : ∀ u ∈ R.take r, nr t u = false := by
    intro u hu
    obtain ⟨i, hi1, rfl⟩ := List.mem_iff_getElem.mp hu
    rw [List.length_take] at hi1
    have h9 := lo (by omega)
    rw [List.getElem_take]
    have e9 : R.getD (r - 1) 0 = R[r - 1] := by rw [List.getD_eq_getElem?_getD, List.getElem?_eq_getElem (by omega)]; rfl
    simp only [e9] at h9
    by_cases e : i = r - 1
    · subst e; exact h9
    · exact h.nt h9 (ah_nr h (List.pairwise_iff_getElem.mp hR i (r - 1) (by omega) (by omega) (by omega)))
  refine List.pairwise_append.mpr ⟨h0.1, List.pairwise_cons.mpr ⟨fun u hu => ?_, h0.2.1⟩, fun u hu v hv => ?_⟩
  · obtain ⟨i, hi1, rfl⟩ := List.mem_iff_getElem.mp hu
    rw [List.length_drop] at hi1
    have h9 := hi (r + i) (by omega) (by omega)
    have e9 : R.getD (r + i) 0 = R[r + i] := by rw [List.getD_eq_getElem?_getD, List.getElem?_eq_getElem (by omega)]; rfl
    simp only [e9] at h9
    rw [List.getElem_drop]
    unfold ahP; rw [h9]; rfl
  · rcases List.mem_cons.mp hv with rfl | hv
    · unfold ahP
      rw [hT u hu]
      have := hlt u (List.mem_of_mem_take hu)
      simp [this]
    · exact h0.2.2 u hu v hv
theorem ordP_s (nr : Nat → Nat → Bool) (x n : Nat) : ordP nr x (List.range (n + 1)) = if n = x then ordP nr x (List.range n) else insP nr (ordP nr x (List.range n)) n := by
  rw [ordP, List.range_succ, List.foldl_append]; rfl
theorem ordP_perm {nr : Nat → Nat → Bool} {x : Nat} : ∀ n, (ordP nr x (List.range n)).Perm ((List.range n).filter (fun u => decide (u ≠ x)))
  | 0 => List.Perm.refl _
  | n + 1 => by
    rw [ordP_s, List.range_succ, List.filter_append]
    have ih := ordP_perm (nr := nr) (x := x) n
    by_cases e : n = x
    · rw [if_pos e]
      have : List.filter (fun u => decide (u ≠ x)) [n] = [] := by simp [e]
      rw [this, List.append_nil]; exact ih
    · rw [if_neg e]
      have : List.filter (fun u => decide (u ≠ x)) [n] = [n] := by simp [e]
      rw [this]
      exact insP_perm.trans ((ih.cons n).trans (List.perm_append_singleton n _).symm)
theorem ordP_lt {nr : Nat → Nat → Bool} {x n u : Nat} (h : u ∈ ordP nr x (List.range n)) : u < n ∧ u ≠ x := by
  have := (ordP_perm n).mem_iff.mp h
  rw [List.mem_filter, List.mem_range] at this
  exact ⟨this.1, by simpa using this.2⟩
theorem ordP_pw {nr : Nat → Nat → Bool} (h : Swo nr) {x : Nat} : ∀ n, (ordP nr x (List.range n)).Pairwise (fun a b => ahP nr a b = true)
  | 0 => List.Pairwise.nil
  | n + 1 => by
    rw [ordP_s]
    have ih := ordP_pw h (x := x) n
    by_cases e : n = x
    · rw [if_pos e]; exact ih
    · rw [if_neg e]; exact insP_pw h ih (fun u hu => (ordP_lt hu).1)
theorem cntB_range (f : Nat → Bool) : ∀ n, cntB f n = (List.range n).countP f
  | 0 => rfl
  | n + 1 => by
    rw [List.range_succ, List.countP_append, ← cntB_range f n, cntB]
    simp [List.countP_cons]
    cases f n <;> simp
theorem pw_cnt {nr : Nat → Nat → Bool} (h : Swo nr) {R : List Nat} (hR : R.Pairwise (fun a b => ahP nr a b = true)) {i : Nat} (hi : i < R.length) : R.countP (fun u => ahP nr u R[i]) = i := by
  have h0 : R = R.take i ++ R[i] :: R.drop (i + 1) := by rw [← List.drop_eq_getElem_cons hi, List.take_append_drop]
  have h1 := List.pairwise_iff_getElem.mp hR
  have e : R.countP (fun u => ahP nr u R[i]) = (R.take i ++ R[i] :: R.drop (i + 1)).countP (fun u => ahP nr u R[i]) := by rw [← h0]
  rw [e, List.countP_append, List.countP_cons, ah_irr h]
  have a1 : (R.take i).countP (fun u => ahP nr u R[i]) = (R.take i).length := by
    rw [List.countP_eq_length]
    intro u hu
    obtain ⟨j, hj, rfl⟩ := List.mem_iff_getElem.mp hu
    rw [List.length_take] at hj
    rw [List.getElem_take]
    exact h1 j i (by omega) hi (by omega)
  have a2 : (R.drop (i + 1)).countP (fun u => ahP nr u R[i]) = 0 := by
    rw [List.countP_eq_zero]
    intro u hu
    obtain ⟨j, hj, rfl⟩ := List.mem_iff_getElem.mp hu
    rw [List.length_drop] at hj
    rw [List.getElem_drop, ah_as h (h1 i (i + 1 + j) hi (by omega) (by omega))]
    decide
  rw [a1, a2, List.length_take]
  simp; omega
def nrP (docs : List (Nat × List Nat)) (x t u : Nat) : Bool := nrB (cmM docs x t) (alM docs x t) (cmM docs x u) (alM docs x u)
theorem nr_nt {c1 m1 c2 m2 c3 m3 : Nat} (h2 : 0 < m2) (h : c1 * m2 ≤ c2 * m1) (h' : c2 * m3 ≤ c3 * m2) : c1 * m3 ≤ c3 * m1 := by
  apply Nat.le_of_mul_le_mul_left _ h2
  calc m2 * (c1 * m3) = c1 * m2 * m3 := by ac_rfl
    _ ≤ c2 * m1 * m3 := Nat.mul_le_mul_right _ h
    _ = c2 * m3 * m1 := by ac_rfl
    _ ≤ c3 * m2 * m1 := Nat.mul_le_mul_right _ h'
    _ = m2 * (c3 * m1) := by ac_rfl
theorem nrP_swo (docs : List (Nat × List Nat)) (x : Nat) : Swo (nrP docs x) := by
  refine ⟨fun a b h => ?_, fun a b c h h' => ?_⟩
  · rw [nrP, nrB] at h ⊢
    have h := of_decide_eq_true h
    exact decide_eq_false (by omega)
  · rw [nrP, nrB] at h h' ⊢
    have h := of_decide_eq_false h
    have h' := of_decide_eq_false h'
    exact decide_eq_false (Nat.not_lt.mpr (nr_nt (c2 := cmM docs x b) (m2 := max 1 (alM docs x b)) (by omega) (Nat.not_lt.mp h) (Nat.not_lt.mp h')))
theorem ahead_P (docs : List (Nat × List Nat)) (x t u : Nat) : aheadM docs x t u = (ahP (nrP docs x) u t && decide (u ≠ x)) := by
  by_cases h1 : u = x
  · rw [aheadM]; simp [h1]
  · by_cases h2 : u = t
    · subst h2
      rw [ah_irr (nrP_swo docs x), aheadM]; simp
    · rw [aheadM, ahP, nrP, nrP, nrB, nrB]
      generalize cmM docs x u * max 1 (alM docs x t) = p
      generalize cmM docs x t * max 1 (alM docs x u) = q
      rcases Nat.lt_trichotomy p q with h | h | h
      · have a : ¬ q < p := by omega
        have b : ¬ p = q := by omega
        simp [h1, h2, h, a, b]
      · subst h; simp [h1, h2]
      · have a : ¬ p < q := by omega
        simp [h1, h2, h]
theorem ahead_cnt (docs : List (Nat × List Nat)) (x t : Nat) : cntB (aheadM docs x t) docs.length = (ordP (nrP docs x) x (List.range docs.length)).countP (fun u => ahP (nrP docs x) u t) := by
  rw [cntB_range, (ordP_perm (nr := nrP docs x) (x := x) docs.length).countP_eq, List.countP_filter]
  exact congrArg (fun f => (List.range docs.length).countP f) (funext (fun u => ahead_P docs x t u))
theorem ord_near {docs : List (Nat × List Nat)} {x i : Nat} (hi : i < (ordP (nrP docs x) x (List.range docs.length)).length) : nearF docs x i = some (ordP (nrP docs x) x (List.range docs.length))[i] := by
  have hs := nrP_swo docs x
  have hp := ordP_pw hs (x := x) docs.length
  have hl := ordP_lt (List.getElem_mem hi)
  refine nearF_some hl.1 hl.2 ?_ ?_
  · rw [ahead_cnt]; exact pw_cnt hs hp hi
  · intro u hu hx hc
    have hm : u ∈ ordP (nrP docs x) x (List.range docs.length) := (ordP_perm docs.length).mem_iff.mpr (List.mem_filter.mpr ⟨List.mem_range.mpr (by omega), by simpa using hx⟩)
    obtain ⟨j, hj, rfl⟩ := List.mem_iff_getElem.mp hm
    rw [ahead_cnt, pw_cnt hs hp hj] at hc
    subst hc
    omega
theorem ordP_len {nr : Nat → Nat → Bool} {x : Nat} : ∀ {n : Nat}, x < n → (ordP nr x (List.range n)).length = n - 1 := by
  intro n hx
  have h0 : ∀ m, (ordP nr x (List.range m)).length = if x < m then m - 1 else m := by
    intro m
    induction m with
    | zero => rfl
    | succ m ih =>
      rw [ordP_s]
      by_cases e : m = x
      · rw [if_pos e, ih, if_neg (by omega), if_pos (by omega)]; rfl
      · rw [if_neg e, insP_perm.length_eq, List.length_cons, ih]
        split <;> split <;> omega
  rw [h0, if_pos hx]
/-- the ranked slots are the ranked places -/
theorem ord_map {dd : Nat → DX} {HS : List Nat} {nr : Nat → Nat → Bool} {k : Nat} (hn : HS.Nodup) (hk : k < HS.length) (h : ∀ p q, p < HS.length → q < HS.length → nrR dd (HS.getD k 0) (HS.getD p 0) (HS.getD q 0) = nr p q) : ordL dd (HS.getD k 0) HS = (ordP nr k (List.range HS.length)).map (fun p => HS.getD p 0) := by
  have key : ∀ m, m ≤ HS.length → ordL dd (HS.getD k 0) (HS.take m) = (ordP nr k (List.range m)).map (fun p => HS.getD p 0) := by
    intro m
    induction m with
    | zero => intro _; rfl
    | succ m ih =>
      intro hm
      have e0 : HS[m]? = some HS[m] := List.getElem?_eq_getElem (by omega)
      have em : HS.getD m 0 = HS[m] := by rw [List.getD_eq_getElem?_getD, e0]; rfl
      have ek : HS.getD k 0 = HS[k] := by rw [List.getD_eq_getElem?_getD, List.getElem?_eq_getElem hk]; rfl
      rw [ord_s e0, ih (by omega), ordP_s, insR, ← em]
      by_cases e : m = k
      · rw [if_pos e, if_pos (by rw [e])]
      · rw [if_neg e, if_neg (fun h9 => e ((List.getElem_inj hn).mp (by rw [← em, ← ek]; exact h9)))]
        have hr : ∀ r, r ≤ (ordP nr k (List.range m)).length → rnk (fun j => nrR dd (HS.getD k 0) (HS.getD m 0) (((ordP nr k (List.range m)).map (fun p => HS.getD p 0)).getD j 0)) r = rnk (fun j => nr m ((ordP nr k (List.range m)).getD j 0)) r := by
          intro r
          induction r with
          | zero => intro _; rfl
          | succ r ih2 =>
            intro hr
            have hl := ordP_lt (List.getElem_mem (l := ordP nr k (List.range m)) (n := r) (by omega))
            have e1 : (ordP nr k (List.range m)).getD r 0 = (ordP nr k (List.range m))[r] := by rw [List.getD_eq_getElem?_getD, List.getElem?_eq_getElem (by omega)]; rfl
            have e2 : ((ordP nr k (List.range m)).map (fun p => HS.getD p 0)).getD r 0 = HS.getD (ordP nr k (List.range m))[r] 0 := by rw [List.getD_eq_getElem?_getD, List.getElem?_map, List.getElem?_eq_getElem (by omega)]; rfl
            rw [rnk, rnk, ih2 (by omega)]
            simp only [e1, e2]
            rw [h m _ (by omega) (by omega)]
        rw [List.length_map, hr _ (Nat.le_refl _), insP, List.map_append, List.map_cons, List.map_take, List.map_drop]
  have := key HS.length (Nat.le_refl _)
  rw [List.take_length] at this
  exact this
theorem ShM.nr {dd : Nat → DX} {HS : List Nat} {docs : List (Nat × List Nat)} {ta tb : Nat → Nat} {E : List (Nat × Nat × Nat)} (h : ShM dd HS docs ta tb E) {x p q : Nat} (hx : x < HS.length) (hp : p < HS.length) (hq : q < HS.length) : nrR dd (HS.getD x 0) (HS.getD p 0) (HS.getD q 0) = nrP docs x p q := by
  have ex := List.getElem?_eq_getElem hx
  have ep := List.getElem?_eq_getElem hp
  have eq := List.getElem?_eq_getElem hq
  have h1 := h.2 x _ ex
  have h2 := h.2 p _ ep
  have h3 := h.2 q _ eq
  rw [nrR, nrP, getD_at ex, getD_at ep, getD_at eq, h1.2.2.2.2 p _ ep, h1.2.2.2.2 q _ eq, h1.2.1.1, h2.2.1.1, h3.2.1.1]; rfl
theorem ShM.near {dd : Nat → DX} {HS : List Nat} {docs : List (Nat × List Nat)} {ta tb : Nat → Nat} {E : List (Nat × Nat × Nat)} (h : ShM dd HS docs ta tb E) (hn : HS.Nodup) {x i : Nat} (hx : x < HS.length) (hi : i < HS.length - 1) : ∃ t, nearF docs x i = some t ∧ t < HS.length ∧ (ordL dd (HS.getD x 0) HS)[i]? = some (HS.getD t 0) ∧ (dd (HS.getD t 0)).2.2.1.1 = (docs.getD t (0, [])).1 := by
  have e := ord_map hn hx (nr := nrP docs x) (fun p q hp hq => h.nr hx hp hq)
  have hl := ordP_len (nr := nrP docs x) hx
  have hi2 : i < (ordP (nrP docs x) x (List.range HS.length)).length := by omega
  have hlt := ordP_lt (List.getElem_mem hi2)
  have hnr : nearF docs x i = some (ordP (nrP docs x) x (List.range HS.length))[i] := by
    have := ord_near (docs := docs) (x := x) (i := i) (by rw [h.1]; exact hi2)
    simp only [h.1] at this
    exact this
  refine ⟨_, hnr, hlt.1, ?_, ?_⟩
  · rw [e, List.getElem?_map, List.getElem?_eq_getElem hi2]; rfl
  · have e3 := List.getElem?_eq_getElem hlt.1
    rw [getD_at e3]
    exact (h.2 _ _ e3).1
end NRF
