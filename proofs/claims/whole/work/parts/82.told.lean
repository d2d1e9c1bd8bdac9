section TOLD
theorem FamOK.cong {fa : Nat → Nat} {n : Nat} {tw tw2 : Nat → Nat → Bool} (h : FamOK fa n tw) (he : ∀ x y, x < n → y < n → tw x y = tw2 x y) : FamOK fa n tw2 := by
  refine ⟨h.1, fun s t hs ht h9 => h.2.1 s t hs ht (by rw [he s t hs (by omega)]; exact h9), fun c hc s hs => h.2.2 c (fun s t hs ht h9 => hc s t hs ht (by rw [← he s t hs (by omega)]; exact h9)) s hs⟩
theorem cntF_pos {f : Nat → Nat} {x k : Nat} (e : f k = x) : ∀ {n : Nat}, k < n → 1 ≤ cntF f x n
  | 0, h => absurd h (Nat.not_lt_zero _)
  | n + 1, h => by
    rw [cntF]
    by_cases ek : k = n
    · subst ek; rw [if_pos e]; omega
    · have := cntF_pos (f := f) e (n := n) (by omega)
      omega
theorem cntF_zero {f : Nat → Nat} {x : Nat} : ∀ {n : Nat}, (∀ k, k < n → f k ≠ x) → cntF f x n = 0
  | 0, _ => rfl
  | n + 1, h => by rw [cntF, cntF_zero (fun k hk => h k (by omega)), if_neg (h n (by omega))]
theorem told_me {fa : Nat → Nat} {n : Nat} {tw : Nat → Nat → Bool} (h : FamOK fa n tw) {x : Nat} (hx : x < n) : toldB fa n 2 x = decide (2 ≤ cntF fa x n) ∧ toldB fa n 3 x = decide (1 ≤ cntF fa x n) := by
  rw [toldB, toldB]
  by_cases e : fa x = x
  · have := cntF_pos e hx
    have e1 : decide (1 ≤ cntF fa x n) = true := decide_eq_true this
    rw [e1, decide_eq_true e]
    exact ⟨by simp; rfl, by simp⟩
  · have h0 : cntF fa x n = 0 := cntF_zero (fun k hk e9 => e (by have := (h.1 k hk).2; rw [e9] at this; exact this))
    rw [h0, decide_eq_false e]
    exact ⟨rfl, rfl⟩
theorem prI_mem {f : Nat → Nat → Bool} {x : Nat} {q : Nat × Nat} : ∀ {t : Nat}, q ∈ prI f x t → q.1 = x ∧ q.2 < t
  | 0, h => absurd h (by simp [prI])
  | t + 1, h => by
    rw [prI] at h
    rcases List.mem_append.mp h with h | h
    · have := prI_mem h; exact ⟨this.1, by omega⟩
    · split at h
      · have e : q = (x, t) := by simpa using h
        rw [e]; exact ⟨rfl, Nat.lt_succ_self _⟩
      · exact absurd h (by simp)
theorem prO_mem {f : Nat → Nat → Bool} {n : Nat} {q : Nat × Nat} : ∀ {x : Nat}, q ∈ prO f n x → q.1 < x ∧ q.2 < n
  | 0, h => absurd h (by simp [prO])
  | x + 1, h => by
    rw [prO] at h
    rcases List.mem_append.mp h with h | h
    · have := prO_mem h; exact ⟨by omega, this.2⟩
    · have := prI_mem h; exact ⟨by omega, this.2⟩
theorem selL_mem {g : Nat → Bool} {q : Nat × Nat} : ∀ {n : Nat}, q ∈ selL g n → q.1 < n
  | 0, h => absurd h (by simp [selL])
  | n + 1, h => by
    rw [selL] at h
    rcases List.mem_append.mp h with h | h
    · have := selL_mem h; omega
    · split at h
      · have e : q = (n, n) := by simpa using h
        rw [e]; exact Nat.lt_succ_self _
      · exact absurd h (by simp)
section
variable {dd : Nat → DX} {HS : List Nat} {docs : List (Nat × List Nat)} {ta tb : Nat → Nat} {E : List (Nat × Nat × Nat)} {rr bb pp qq plc : Nat} {c1 c2 t1 t2 nu tc fa me : Nat → Nat} {sz1 sz2 : Nat}
theorem ShM.prB (h : ShM dd HS docs ta tb E) (hbr : bb * rr ≤ 64) : prO (bdH dd HS rr bb) HS.length HS.length = prO (fun x y => (bdM ta tb E docs rr bb x y).isSome) HS.length HS.length :=
  prO_cong (fun x y hx hy => by rw [bdH, h.bd hbr hx hy]) _ (Nat.le_refl _)
theorem ShM.prT (h : ShM dd HS docs ta tb E) (hbr : bb * rr ≤ 64) : prO (twH dd HS rr bb pp qq) HS.length HS.length = prO (twM ta tb E docs rr bb pp qq) HS.length HS.length :=
  prO_cong (fun x y hx hy => h.tw hbr hx hy) _ (Nat.le_refl _)
theorem ShM.fam (h : ShM dd HS docs ta tb E) (hbr : bb * rr ≤ 64) (hK : KinOK dd HS rr bb pp qq plc c1 c2 t1 t2 nu tc fa me sz1 sz2) : FamOK fa HS.length (twM ta tb E docs rr bb pp qq) := by
  obtain ⟨-, -, -, -, -, -, -, e8, -⟩ := hK
  exact e8.cong (fun x y hx hy => h.tw hbr hx hy)
/-- the kinds' rows as they are kept -/
theorem ShM.kinds (h : ShM dd HS docs ta tb E) (hbr : bb * rr ≤ 64) (hK : KinOK dd HS rr bb pp qq plc c1 c2 t1 t2 nu tc fa me sz1 sz2) :
    kindL (fun x y => (bdM ta tb E docs rr bb x y).isSome) (twM ta tb E docs rr bb pp qq) docs.length 0 = prO (bdH dd HS rr bb) HS.length HS.length ∧ kindL (fun x y => (bdM ta tb E docs rr bb x y).isSome) (twM ta tb E docs rr bb pp qq) docs.length 1 = prO (twH dd HS rr bb pp qq) HS.length HS.length ∧
    kindL (fun x y => (bdM ta tb E docs rr bb x y).isSome) (twM ta tb E docs rr bb pp qq) docs.length 2 = selL (fun k => decide (2 ≤ me k)) plc ∧ kindL (fun x y => (bdM ta tb E docs rr bb x y).isSome) (twM ta tb E docs rr bb pp qq) docs.length 3 = selL (fun k => decide (1 ≤ me k)) plc := by
  have hF := h.fam hbr hK
  obtain ⟨e1, -, -, -, -, -, -, -, e9⟩ := hK
  rw [h.1, e1]
  refine ⟨(h.prB hbr).symm, (h.prT hbr).symm, ?_, ?_⟩
  · rw [kind_fam hF (by decide)]
    exact selL_cong (fun k hk => by rw [(told_me hF hk).1, e9 k hk])
  · rw [kind_fam hF (by decide)]
    exact selL_cong (fun k hk => by rw [(told_me hF hk).2, e9 k hk])
theorem k4 {k : Nat} (h : k ≤ 3) : k = 0 ∨ k = 1 ∨ k = 2 ∨ k = 3 := by omega
theorem ShM.prs (h : ShM dd HS docs ta tb E) (hbr : bb * rr ≤ 64) (hK : KinOK dd HS rr bb pp qq plc c1 c2 t1 t2 nu tc fa me sz1 sz2) (kd : Int32) : prsC sz1 sz2 me plc kd = pairsR (fun x y => (bdM ta tb E docs rr bb x y).isSome) (twM ta tb E docs rr bb pp qq) docs.length kd := by
  obtain ⟨k0, k1, k2, k3⟩ := h.kinds hbr hK
  cases ho : isOut kd (nI 0) (nI 3) with
  | true =>
    have hne : ∀ k, k ≤ 3 → ¬ kd = nI k := fun k hk e => by rw [e, isOut_in (Nat.zero_le _) hk (by decide)] at ho; cases ho
    rw [pairs_no ho, prsC, if_neg (hne 0 (by decide)), if_neg (hne 1 (by decide)), if_neg (hne 2 (by decide)), if_neg (hne 3 (by decide))]
  | false =>
    obtain ⟨k, -, hk, rfl⟩ := isOut_no (lo := 0) (hi := 3) (v := kd) (by rw [ho]; rfl) (by decide) (by decide)
    rw [pairs_at hk]
    obtain ⟨e1, e2, -, e4, -⟩ := hK
    rcases k4 hk with rfl | rfl | rfl | rfl
    · rw [k0, ← e2]; rfl
    · rw [k1, ← e4]; rfl
    · rw [k2]; rfl
    · rw [k3]; rfl
theorem side_pn {g1 g2 : Nat → Nat} {C : List (Nat × Nat)} (h : ShM dd HS docs ta tb E) (hP : PRL g1 g2 (C.map (nmH dd HS))) (hC : ∀ q ∈ C, q.1 < HS.length ∧ q.2 < HS.length) (hl : C.length < 2 ^ 31) {i w : Nat} (hi : i < 2 ^ 31) (hw : w ≤ 1) : sideR g1 g2 C.length (nI i) (nI w) = prNum docs C[i]? (nI w) := by
  by_cases hh : i < C.length
  · rw [sideR, if_pos ⟨nI_pos hi, (nI_ltI hi hl).mpr hh, nI_pos (by omega), nI_le hw (by decide)⟩, nI_clamp hi]
    have hp := hP i (by rw [List.length_map]; exact hh)
    rw [List.getElem_map] at hp
    have hq := hC C[i] (List.getElem_mem hh)
    have a1 := (h.2 _ _ (List.getElem?_eq_getElem hq.1)).1
    have a2 := (h.2 _ _ (List.getElem?_eq_getElem hq.2)).1
    rw [← getD_at (List.getElem?_eq_getElem hq.1)] at a1
    rw [← getD_at (List.getElem?_eq_getElem hq.2)] at a2
    rw [hp.1, hp.2, List.getElem?_eq_getElem hh]
    show (if nI w = 0 then nI (dd (HS.getD C[i].1 0)).2.2.1.1 else nI (dd (HS.getD C[i].2 0)).2.2.1.1) = (if nI w = 0 then nI (docs.getD C[i].1 (0, [])).1 else nI (docs.getD C[i].2 (0, [])).1)
    rw [a1, a2]
  · rw [pn_none (by omega), sideR, if_neg (fun h9 => hh ((nI_ltI hi hl).mp h9.2.1))]
theorem faR_pn {g : Nat → Bool} (h : ShM dd HS docs ta tb E) (hnu : ∀ i t, HS[i]? = some t → nu i = (dd t).2.2.1.1) {i : Nat} (hi : i < 2 ^ 31) : faR nu g HS.length (nI i) = prNum docs (selL g HS.length)[i]? (nI 0) := by
  rw [faR, if_neg (nI_pos hi), nI_clamp hi]
  cases e : (selL g HS.length)[i]? with
  | none => rfl
  | some q =>
    have hq := selL_mem (List.mem_of_getElem? e)
    have e2 := List.getElem?_eq_getElem hq
    show nI (nu q.1) = nI (docs.getD q.1 (0, [])).1
    rw [hnu _ _ e2, (h.2 _ _ e2).1]
theorem ShM.pr (h : ShM dd HS docs ta tb E) (h48 : HS.length ≤ 48) (hbr : bb * rr ≤ 64) (hK : KinOK dd HS rr bb pp qq plc c1 c2 t1 t2 nu tc fa me sz1 sz2) (kd i w : Int32) : prC c1 c2 t1 t2 nu me sz1 sz2 plc kd i w = pairR (fun x y => (bdM ta tb E docs rr bb x y).isSome) (twM ta tb E docs rr bb pp qq) docs kd i w := by
  obtain ⟨k0, k1, k2, k3⟩ := h.kinds hbr hK
  have hsm := hK.small h48
  cases ho : isOut kd (nI 0) (nI 3) with
  | true =>
    have hne : ∀ k, k ≤ 3 → ¬ kd = nI k := fun k hk e => by rw [e, isOut_in (Nat.zero_le _) hk (by decide)] at ho; cases ho
    rw [pair_no (by rw [pairOk, ho]; rfl), prC, if_neg (hne 0 (by decide)), if_neg (hne 1 (by decide)), if_neg (hne 2 (by decide)), if_neg (hne 3 (by decide))]
  | false =>
    obtain ⟨k, -, hk, rfl⟩ := isOut_no (lo := 0) (hi := 3) (v := kd) (by rw [ho]; rfl) (by decide) (by decide)
    obtain ⟨e1, e2, e3, e4, e5, e6, -, -, -⟩ := hK
    rcases neg_or i with hi | ⟨j, hj, rfl⟩
    · rw [pair_no (by rw [pairOk, decide_eq_false (show ¬ ¬ i < 0 from fun h9 => h9 hi)]; simp)]
      have s0 : ∀ g1 g2 sz, sideR g1 g2 sz i w = -1 := fun g1 g2 sz => by rw [sideR, if_neg (fun h9 => h9.1 hi)]
      rcases k4 hk with rfl | rfl | rfl | rfl
      · exact s0 _ _ _
      · exact s0 _ _ _
      · show (if w = 0 then faR nu _ plc i else -1) = -1
        rw [faR_neg hi]; split <;> rfl
      · show (if w = 0 then faR nu _ plc i else -1) = -1
        rw [faR_neg hi]; split <;> rfl
    · have lo : ∀ (g1 g2 : Nat → Nat) (C : List (Nat × Nat)) (k : Nat), k ≤ 1 → kindL (fun x y => (bdM ta tb E docs rr bb x y).isSome) (twM ta tb E docs rr bb pp qq) docs.length k = C → PRL g1 g2 (C.map (nmH dd HS)) → (∀ q ∈ C, q.1 < HS.length ∧ q.2 < HS.length) → C.length < 2 ^ 31 → sideR g1 g2 C.length (nI j) w = pairR (fun x y => (bdM ta tb E docs rr bb x y).isSome) (twM ta tb E docs rr bb pp qq) docs (nI k) (nI j) w := by
        intro g1 g2 C k hk1 hC hP hM hl
        cases hw : isOut w (nI 0) (nI 1) with
        | true =>
          rw [pair_no (by rw [pairOk, if_neg (fun h => by have := (nI_ltI (a := 1) (b := k) (by decide) (by omega)).mp h; omega), hw]; simp)]
          rw [sideR, if_neg (fun h9 => by rw [isOut, decide_eq_false (show ¬ w < nI 0 from h9.2.2.1), decide_eq_true h9.2.2.2] at hw; cases hw)]
        | false =>
          obtain ⟨v, -, hv, rfl⟩ := isOut_no (lo := 0) (hi := 1) (v := w) (by rw [hw]; rfl) (by decide) (by decide)
          rw [pair_at (by omega) hj hv (by omega), hC]
          exact side_pn h hP hM hl hj hv
      have hi2 : ∀ (g : Nat → Bool) (k : Nat), 1 < k → k ≤ 3 → kindL (fun x y => (bdM ta tb E docs rr bb x y).isSome) (twM ta tb E docs rr bb pp qq) docs.length k = selL g plc → (if w = 0 then faR nu g plc (nI j) else -1) = pairR (fun x y => (bdM ta tb E docs rr bb x y).isSome) (twM ta tb E docs rr bb pp qq) docs (nI k) (nI j) w := by
        intro g k hk1 hk3 hC
        by_cases hw : w = 0
        · rw [if_pos hw, hw]
          have := pair_at (bd := fun x y => (bdM ta tb E docs rr bb x y).isSome) (tw := twM ta tb E docs rr bb pp qq) (docs := docs) (k := k) (i := j) (w := 0) hk3 hj (by decide) (fun _ => rfl)
          show _ = pairR _ _ docs (nI k) (nI j) (nI 0)
          rw [this, hC, e1]
          exact faR_pn h e6 hj
        · rw [if_neg hw, pair_no]
          rw [pairOk, if_pos ((nI_ltI (by decide) (by omega)).mpr hk1)]
          cases h9 : isOut w (nI 0) (nI 0) with
          | true => simp
          | false =>
            obtain ⟨v, -, hv, rfl⟩ := isOut_no (lo := 0) (hi := 0) (v := w) (by rw [h9]; rfl) (by decide) (by decide)
            have : v = 0 := by omega
            subst this
            exact absurd rfl hw
      rcases k4 hk with rfl | rfl | rfl | rfl
      · have := lo c1 c2 _ 0 (by decide) k0 e3 (fun q hq => prO_mem hq) (by rw [← e2]; omega)
        rw [← e2] at this; exact this
      · have := lo t1 t2 _ 1 (by decide) k1 e5 (fun q hq => prO_mem hq) (by rw [← e4]; omega)
        rw [← e4] at this; exact this
      · exact hi2 _ 2 (by decide) (by decide) k2
      · exact hi2 _ 3 (by decide) (by decide) k3
end
end TOLD
