section ADDS
theorem ShW.one {ws ws' : va_W} {cI cJ cO : ClassId} {ad s0 s1 s2 s3 ca eh es er nd t : Nat} {dd : Nat → DX} {HS SS RS : List Nat} {K : Nat → Prop} {x : DX} (h : ShW ws cI cJ cO ad s0 s1 s2 s3 ca eh es er nd dd HS SS RS) (ht : t < nd) (hs : Sm K ws ws') (hK : ∀ k, K k → (dd t).1.1 ≤ k ∧ k < (dd t).1.1 + 5) (hx : D5 ws' cI cJ t x) (hp : x.1 = (dd t).1) : ShW ws' cI cJ cO ad s0 s1 s2 s3 ca eh es er nd (dup dd t x) HS SS RS := by
  have h5 := h.2.2.2.2.1.1 t ht
  refine h.docs hs (fun k hk => ?_) (h.2.2.2.2.1.one ht hs (fun k hk => Or.inr (hK k hk)) hx (by rw [hp])) (fun u => ?_)
  · have hq := hK k hk
    refine ⟨by omega, by omega, by omega, by omega, fun e n f h9 => ?_⟩
    obtain ⟨a0, a1, a2, a3, a4⟩ := h5.1
    have : k = (dd t).1.1 ∨ k = (dd t).1.1 + 1 ∨ k = (dd t).1.1 + 2 ∨ k = (dd t).1.1 + 3 ∨ k = (dd t).1.1 + 4 := by omega
    rcases this with e9 | e9 | e9 | e9 | e9
    · rw [e9, a0] at h9; cases h9
    · rw [e9, a1] at h9; cases h9
    · rw [e9, a2] at h9; cases h9
    · rw [e9, a3] at h9; cases h9
    · rw [e9, a4] at h9; cases h9
  · by_cases e9 : u = t
    · subst e9; rw [dup_self, hp]
    · rw [dup_ne _ _ e9]
def adOkC (so wi : Nat) (T : List Int32) (sh : List (List Int32)) (HS : List Nat) (ca : Nat) : Bool := !(decide (48 ≤ HS.length) || decide (400 ≤ ca)) && (runB sh (spanL so wi (plainOf T))).2.2
/-- what a document that comes does to the rows -/
def AddD (dd de : Nat → DX) (dL : Nat → List Nat) (ta tb : Nat → Nat) (E : List (Nat × Nat × Nat)) (HS : List Nat) (t ca : Nat) (L : List Nat) : Prop :=
  (de t).2.2.1.1 = ca ∧ DOk (de t) L ∧ SetB (de t).2.2.2.1 (fun q => L.contains q) ∧ (∀ j, j < 64 → (de t).2.2.2.2.2.1 j = sgOf ta tb E L j) ∧ (de t).2.2.2.2.2.2 t = cntB (fun q => L.contains q && L.contains q) 6016 ∧ (∀ u ∈ HS, (de t).2.2.2.2.2.2 u = cntB (fun q => L.contains q && (dL u).contains q) 6016) ∧
  (∀ u ∈ HS, de u = dsh (dd u) (va_up (dd u).2.2.2.2.2.2 t (cntB (fun q => L.contains q && (dL u).contains q) 6016))) ∧ t ∉ HS
theorem BOk.al {sh : List (List Int32)} {A : List Nat} {i : Nat} (h : BOk sh A i) (hi : i ≤ 800) : A.length ≤ 800 ∧ (∀ x ∈ A, x < 6000) ∧ selN A sh.length = insL A ∧ (insL A).length ≤ 800 ∧ ∀ x ∈ insL A, x < 6000 := by
  obtain ⟨h1, h2, h3, h4⟩ := h
  have e := selN_insL h4
  have h5 : ∀ x ∈ A, x < 6000 := fun x hx => Nat.lt_of_lt_of_le (h4 x hx) h1
  refine ⟨by omega, h5, e, ?_, fun x hx => h5 x (insL_mem.mp hx)⟩
  rw [← e]
  have := selN_len (A := A) (n := sh.length)
  omega
theorem dsh_sh (x : DX) (g : Nat → Nat) : (dsh x g).2.2.2.2.2.2 = g := rfl
theorem add_fin {dd dg : Nat → DX} {dL : Nat → List Nat} {ta tb : Nat → Nat} {E : List (Nat × Nat × Nat)} {HS : List Nat} {t ca : Nat} {L : List Nat} {x : DX} (hx1 : x.2.2.1.1 = ca) (hx2 : DOk x L) (hx3 : SetB x.2.2.2.1 (fun q => L.contains q)) (hx4 : ∀ j, j < 64 → x.2.2.2.2.2.1 j = sgOf ta tb E L j) (ht : t ∉ HS) (hkp : ∀ u ∈ HS, dg u = dd u) :
    AddD dd (shA (dup dg t x) t (fun u => cntB (fun q => (fun v => fun q => (if v = t then L else dL v).contains q) t q && (fun v => fun q => (if v = t then L else dL v).contains q) u q) 6016) (HS ++ [t])) dL ta tb E HS t ca L := by
  have e0 : ∀ u ∈ HS, u ≠ t := fun u hu e => ht (by rw [← e]; exact hu)
  have eT : shA (dup dg t x) t (fun u => cntB (fun q => (fun v => fun q => (if v = t then L else dL v).contains q) t q && (fun v => fun q => (if v = t then L else dL v).contains q) u q) 6016) (HS ++ [t]) t = dsh x (cuF x.2.2.2.2.2.2 (fun u => cntB (fun q => (fun v => fun q => (if v = t then L else dL v).contains q) t q && (fun v => fun q => (if v = t then L else dL v).contains q) u q) 6016) (HS ++ [t])) := by rw [shA_F, dup_self]
  rw [AddD, eT]
  refine ⟨hx1, hx2, hx3, hx4, ?_, fun u hu => ?_, fun u hu => ?_, ht⟩
  · rw [dsh_sh, cuF, if_pos (by simp)]
    simp only [if_pos]
  · rw [dsh_sh, cuF, if_pos (by simp [hu])]
    simp only [if_pos, if_neg (e0 u hu)]
  · rw [shA, if_neg (e0 u hu), if_pos (by simp [hu]), dup_ne _ _ (e0 u hu), hkp u hu]
    simp only [if_pos, if_neg (e0 u hu)]
end ADDS
theorem stepB_pre {L : List (List Int32)} : ∀ {q : List (List Int32) × List Nat × Bool}, ∃ M, (L.foldl stepB q).1 = q.1 ++ M := by
  induction L with
  | nil => intro q; exact ⟨[], by simp⟩
  | cons a L ih =>
    intro q
    obtain ⟨M, hM⟩ := ih (q := stepB q a)
    show ∃ M, (L.foldl stepB (stepB q a)).1 = q.1 ++ M
    rw [hM, stepB]
    cases q.2.2 with
    | false => exact ⟨M, rfl⟩
    | true =>
      obtain ⟨M2, h2⟩ := cm_pre q.1 a
      exact ⟨M2 ++ M, by show cmA q.1 a ++ M = _; rw [h2, List.append_assoc]⟩
theorem runB_pre {sh : List (List Int32)} {L : List (List Int32)} : ∃ M, (runB sh L).1 = sh ++ M := stepB_pre (q := (sh, [], true))
theorem nf48 {n c : Nat} (h : (decide (48 ≤ n) || decide (400 ≤ c)) = false) : n < 48 ∧ c < 400 := by
  by_cases h1 : 48 ≤ n
  · rw [decide_eq_true h1] at h; cases h
  · by_cases h2 : 400 ≤ c
    · rw [decide_eq_true h2, Bool.or_true] at h; cases h
    · omega
