theorem isOut_lo {v hi : Int32} (h : v < 0) : isOut v (nI 0) hi = true := by rw [isOut, decide_eq_true (show v < nI 0 from h)]; rfl
theorem isOut_hi {v lo hi : Int32} (h : ¬ v ≤ hi) : isOut v lo hi = true := by rw [isOut, decide_eq_false h]; simp
/-- there is a row of families for every relation -/
theorem fam_ex (n : Nat) (tw : Nat → Nat → Bool) : ∃ fa, FamOK fa n tw := by
  have key : ∀ k (fa : Nat → Nat), roots fa n < k → FamI fa n tw → ∃ fb, FamOK fb n tw := by
    intro k
    induction k with
    | zero => intro fa h; exact absurd h (Nat.not_lt_zero _)
    | succ k ih =>
      intro fa hk hI
      by_cases hq : ∃ x y, x < n ∧ y < x ∧ tw x y = true ∧ fa x ≠ fa y
      · obtain ⟨x, y, hx, hy, ht, hne⟩ := hq
        have hm := fam_merge hI hx hy ht (hi := max (fa x) (fa y)) (lo := min (fa x) (fa y)) (by omega) (by omega) (fb := mrg fa (max (fa x) (fa y)) (min (fa x) (fa y))) (fun _ _ => rfl)
        exact ih _ (by omega) hm.1
      · refine ⟨fa, hI.1, fun x y hx hy ht => ?_, hI.2⟩
        by_cases h9 : fa x = fa y
        · exact h9
        · exact absurd ⟨x, y, hx, hy, ht, h9⟩ hq
  exact key _ id (Nat.lt_succ_self _) (fam_start n tw (fun _ _ => rfl))
/-- the least place of each place's family -/
noncomputable def famC (n : Nat) (tw : Nat → Nat → Bool) : Nat → Nat := (fam_ex n tw).choose
theorem famC_ok (n : Nat) (tw : Nat → Nat → Bool) : FamOK (famC n tw) n tw := (fam_ex n tw).choose_spec
theorem famC_eq {fa : Nat → Nat} {n : Nat} {tw : Nat → Nat → Bool} (h : FamOK fa n tw) : ∀ x, x < n → fa x = famC n tw x := fam_one h (famC_ok n tw)
theorem cntF_cong {f g : Nat → Nat} {x : Nat} : ∀ {n : Nat}, (∀ k, k < n → f k = g k) → cntF f x n = cntF g x n
  | 0, _ => rfl
  | n + 1, h => by
    unfold cntF
    rw [cntF_cong (fun k hk => h k (by omega)), h n (by omega)]
/-- how many places below n are so -/
def cntB (f : Nat → Bool) : Nat → Nat
  | 0 => 0
  | n + 1 => cntB f n + (f n).toNat
theorem cntB_le (f : Nat → Bool) : ∀ n, cntB f n ≤ n
  | 0 => Nat.le_refl _
  | n + 1 => by
    have := cntB_le f n
    unfold cntB
    cases f n <;> simp <;> omega
def sameM (ta tb : Nat → Nat) (E : List (Nat × Nat × Nat)) (docs : List (Nat × List Nat)) (n x y : Nat) : Nat := cntE (sgOf ta tb E (docs.getD x (0, [])).2) (sgOf ta tb E (docs.getD y (0, [])).2) n
def bothOk (docs : List (Nat × List Nat)) (a b w : Int32) : Bool := (slotOf (docs.map (fun d => d.1)) a).isSome && ((slotOf (docs.map (fun d => d.1)) b).isSome && !isOut w (nI 0) (nI 4))
def bothV (ta tb : Nat → Nat) (E : List (Nat × Nat × Nat)) (docs : List (Nat × List Nat)) (rr bb pp qq x y w : Nat) : Int32 :=
  if w = 0 then nI (cmM docs x y) else if w = 1 then nI (alM docs x y) else if w = 2 then nI (sameM ta tb E docs (bb * rr) x y) else if w = 3 then optI (bdM ta tb E docs rr bb x y) else nI (twM ta tb E docs rr bb pp qq x y).toNat
def bothR (ta tb : Nat → Nat) (E : List (Nat × Nat × Nat)) (docs : List (Nat × List Nat)) (rr bb pp qq : Nat) (a b w : Int32) : Int32 :=
  bif bothOk docs a b w then bothV ta tb E docs rr bb pp qq ((slotOf (docs.map (fun d => d.1)) a).getD 0) ((slotOf (docs.map (fun d => d.1)) b).getD 0) w.toNatClampNeg else 0
theorem both_no {ta tb : Nat → Nat} {E : List (Nat × Nat × Nat)} {docs : List (Nat × List Nat)} {rr bb pp qq : Nat} {a b w : Int32} (h : bothOk docs a b w = false) : bothR ta tb E docs rr bb pp qq a b w = 0 := by rw [bothR, h]; rfl
theorem both_ok {docs : List (Nat × List Nat)} {a b : Int32} {k q w : Nat} (h1 : slotOf (docs.map (fun d => d.1)) a = some k) (h2 : slotOf (docs.map (fun d => d.1)) b = some q) (hw : w ≤ 4) : bothOk docs a b (nI w) = true := by
  rw [bothOk, h1, h2, isOut_in (Nat.zero_le _) hw (by decide)]; rfl
theorem both_at {ta tb : Nat → Nat} {E : List (Nat × Nat × Nat)} {docs : List (Nat × List Nat)} {rr bb pp qq : Nat} {a b : Int32} {k q w : Nat} (h1 : slotOf (docs.map (fun d => d.1)) a = some k) (h2 : slotOf (docs.map (fun d => d.1)) b = some q) (hw : w ≤ 4) : bothR ta tb E docs rr bb pp qq a b (nI w) = bothV ta tb E docs rr bb pp qq k q w := by
  rw [bothR, both_ok h1 h2 hw, h1, h2, nI_clamp (by omega)]; rfl
/-- the answers of document -/
def docOk (docs : List (Nat × List Nat)) (x w : Int32) : Bool := (slotOf (docs.map (fun d => d.1)) x).isSome && !isOut w (nI 0) (nI 3)
noncomputable def docV (tw : Nat → Nat → Bool) (docs : List (Nat × List Nat)) (k w : Nat) : Nat :=
  if w = 0 then (docs.getD k (0, [])).2.length else if w = 1 then (docs.getD (famC docs.length tw k) (0, [])).1 else if w = 2 then cntF (famC docs.length tw) (famC docs.length tw k) docs.length else cntB (fun t => decide (t ≠ k) && tw k t) docs.length
noncomputable def docR (tw : Nat → Nat → Bool) (docs : List (Nat × List Nat)) (x w : Int32) : Int32 := bif docOk docs x w then nI (docV tw docs ((slotOf (docs.map (fun d => d.1)) x).getD 0) w.toNatClampNeg) else 0
theorem doc_no {tw : Nat → Nat → Bool} {docs : List (Nat × List Nat)} {x w : Int32} (h : docOk docs x w = false) : docR tw docs x w = 0 := by rw [docR, h]; rfl
theorem doc_ok {docs : List (Nat × List Nat)} {x : Int32} {k w : Nat} (h1 : slotOf (docs.map (fun d => d.1)) x = some k) (hw : w ≤ 3) : docOk docs x (nI w) = true := by
  rw [docOk, h1, isOut_in (Nat.zero_le _) hw (by decide)]; rfl
theorem doc_at {tw : Nat → Nat → Bool} {docs : List (Nat × List Nat)} {x : Int32} {k w : Nat} (h1 : slotOf (docs.map (fun d => d.1)) x = some k) (hw : w ≤ 3) : docR tw docs x (nI w) = nI (docV tw docs k w) := by
  rw [docR, doc_ok h1 hw, h1, nI_clamp (by omega)]; rfl
/-- pairs (x, y) with x < y < t -/
def prI (f : Nat → Nat → Bool) (x : Nat) : Nat → List (Nat × Nat)
  | 0 => []
  | t + 1 => prI f x t ++ (if x < t ∧ f x t = true then [(x, t)] else [])
def prO (f : Nat → Nat → Bool) (n : Nat) : Nat → List (Nat × Nat)
  | 0 => []
  | x + 1 => prO f n x ++ prI f x n
def selL (g : Nat → Bool) : Nat → List (Nat × Nat)
  | 0 => []
  | m + 1 => selL g m ++ (if g m = true then [(m, m)] else [])
theorem prI_low {f : Nat → Nat → Bool} {x : Nat} : ∀ {t : Nat}, t ≤ x + 1 → prI f x t = []
  | 0, _ => rfl
  | t + 1, h => by rw [prI, prI_low (by omega), if_neg (by omega)]; rfl
theorem prI_t {f : Nat → Nat → Bool} {x t : Nat} (h : x < t) (h2 : f x t = true) : prI f x (t + 1) = prI f x t ++ [(x, t)] := by rw [prI, if_pos ⟨h, h2⟩]
theorem prI_f {f : Nat → Nat → Bool} {x t : Nat} (h2 : f x t = false) : prI f x (t + 1) = prI f x t := by rw [prI, if_neg (by rw [h2]; simp), List.append_nil]
theorem selL_t {g : Nat → Bool} {m : Nat} (h : g m = true) : selL g (m + 1) = selL g m ++ [(m, m)] := by rw [selL, if_pos h]
theorem selL_f {g : Nat → Bool} {m : Nat} (h : g m = false) : selL g (m + 1) = selL g m := by rw [selL, if_neg (by rw [h]; simp), List.append_nil]
theorem prI_pre {f : Nat → Nat → Bool} {x t : Nat} : ∀ {n : Nat}, t ≤ n → ∃ L, prI f x n = prI f x t ++ L
  | 0, h => ⟨[], by rw [Nat.le_zero.mp h]; rfl⟩
  | n + 1, h => by
    by_cases h1 : t = n + 1
    · subst h1; exact ⟨[], by simp⟩
    · obtain ⟨L, hL⟩ := prI_pre (f := f) (x := x) (t := t) (n := n) (by omega)
      exact ⟨L ++ (if x < n ∧ f x n = true then [(x, n)] else []), by rw [prI, hL, List.append_assoc]⟩
theorem prO_pre {f : Nat → Nat → Bool} {n x : Nat} : ∀ {m : Nat}, x ≤ m → ∃ L, prO f n m = prO f n x ++ L
  | 0, h => ⟨[], by rw [Nat.le_zero.mp h]; rfl⟩
  | m + 1, h => by
    by_cases h1 : x = m + 1
    · subst h1; exact ⟨[], by simp⟩
    · obtain ⟨L, hL⟩ := prO_pre (f := f) (n := n) (x := x) (m := m) (by omega)
      exact ⟨L ++ prI f m n, by rw [prO, hL, List.append_assoc]⟩
theorem selL_pre {g : Nat → Bool} {x : Nat} : ∀ {m : Nat}, x ≤ m → ∃ L, selL g m = selL g x ++ L
  | 0, h => ⟨[], by rw [Nat.le_zero.mp h]; rfl⟩
  | m + 1, h => by
    by_cases h1 : x = m + 1
    · subst h1; exact ⟨[], by simp⟩
    · obtain ⟨L, hL⟩ := selL_pre (g := g) (x := x) (m := m) (by omega)
      exact ⟨L ++ (if g m = true then [(m, m)] else []), by rw [selL, hL, List.append_assoc]⟩
theorem pr_at {f : Nat → Nat → Bool} {n x t i : Nat} (hx : x < n) (ht : t < n) (hxt : x < t) (h : f x t = true) (hi : i = (prO f n x ++ prI f x t).length) : (prO f n n)[i]? = some (x, t) := by
  obtain ⟨L, hL⟩ := prO_pre (f := f) (n := n) (x := x + 1) (m := n) (by omega)
  obtain ⟨M, hM⟩ := prI_pre (f := f) (x := x) (t := t + 1) (n := n) (by omega)
  rw [prI_t hxt h] at hM
  rw [hL, prO, hM, hi, show prO f n x ++ (prI f x t ++ [(x, t)] ++ M) ++ L = (prO f n x ++ prI f x t) ++ ((x, t) :: (M ++ L)) by simp, List.getElem?_append_right (Nat.le_refl _), Nat.sub_self]
  rfl
theorem sel_at {g : Nat → Bool} {n x i : Nat} (hx : x < n) (h : g x = true) (hi : i = (selL g x).length) : (selL g n)[i]? = some (x, x) := by
  obtain ⟨L, hL⟩ := selL_pre (g := g) (x := x + 1) (m := n) (by omega)
  rw [selL_t h] at hL
  rw [hL, hi, List.append_assoc, List.getElem?_append_right (Nat.le_refl _), Nat.sub_self]
  rfl
theorem prI_len (f : Nat → Nat → Bool) (x : Nat) : ∀ t, (prI f x t).length ≤ t
  | 0 => Nat.le_refl _
  | t + 1 => by
    have := prI_len f x t
    rw [prI, List.length_append]
    split <;> simp <;> omega
theorem prO_len (f : Nat → Nat → Bool) (n : Nat) : ∀ x, (prO f n x).length ≤ x * n
  | 0 => Nat.zero_le _
  | x + 1 => by
    have := prO_len f n x
    have := prI_len f x n
    rw [prO, List.length_append, Nat.succ_mul]
    omega
theorem selL_len (g : Nat → Bool) : ∀ x, (selL g x).length ≤ x
  | 0 => Nat.le_refl _
  | x + 1 => by
    have := selL_len g x
    rw [selL, List.length_append]
    split <;> simp <;> omega
def toldB (fa : Nat → Nat) (n kd x : Nat) : Bool := decide (fa x = x) && (decide (kd = 3) || decide (1 < cntF fa x n))
theorem selL_cong {g h : Nat → Bool} : ∀ {n : Nat}, (∀ k, k < n → g k = h k) → selL g n = selL h n
  | 0, _ => rfl
  | n + 1, hh => by rw [selL, selL, selL_cong (fun k hk => hh k (by omega)), hh n (by omega)]
noncomputable def kindL (bd : Nat → Nat → Bool) (tw : Nat → Nat → Bool) (n kd : Nat) : List (Nat × Nat) :=
  if kd = 0 then prO bd n n else if kd = 1 then prO tw n n else selL (toldB (famC n tw) n kd) n
theorem kind_fam {bd tw : Nat → Nat → Bool} {fa : Nat → Nat} {n kd : Nat} (h : FamOK fa n tw) (hk : 1 < kd) : kindL bd tw n kd = selL (toldB fa n kd) n := by
  rw [kindL, if_neg (by omega), if_neg (by omega)]
  refine selL_cong (fun k hk => ?_)
  rw [toldB, toldB, famC_eq h k hk, cntF_cong (famC_eq h)]
theorem kind_pr {bd tw : Nat → Nat → Bool} {n kd : Nat} (hk : kd ≤ 1) : kindL bd tw n kd = prO (fun x y => if kd = 0 then bd x y else tw x y) n n := by
  have : kd = 0 ∨ kd = 1 := by omega
  rcases this with rfl | rfl <;> rfl
noncomputable def pairsR (bd tw : Nat → Nat → Bool) (n : Nat) (kd : Int32) : Int32 := bif isOut kd (nI 0) (nI 3) then -1 else nI (kindL bd tw n kd.toNatClampNeg).length
def pairOk (kd i w : Int32) : Bool := !isOut kd (nI 0) (nI 3) && (decide (¬ i < 0) && !isOut w (nI 0) (if nI 1 < kd then nI 0 else nI 1))
def prNum (docs : List (Nat × List Nat)) (o : Option (Nat × Nat)) (w : Int32) : Int32 := match o with
  | none => -1
  | some q => if w = 0 then nI (docs.getD q.1 (0, [])).1 else nI (docs.getD q.2 (0, [])).1
noncomputable def pairR (bd tw : Nat → Nat → Bool) (docs : List (Nat × List Nat)) (kd i w : Int32) : Int32 := bif pairOk kd i w then prNum docs (kindL bd tw docs.length kd.toNatClampNeg)[i.toNatClampNeg]? w else -1
/-- how many are nearer to x than t -/
def aheadM (docs : List (Nat × List Nat)) (x t u : Nat) : Bool := decide (u ≠ x) && (decide (u ≠ t) && (nrB (cmM docs x u) (alM docs x u) (cmM docs x t) (alM docs x t) || (decide (cmM docs x u * max 1 (alM docs x t) = cmM docs x t * max 1 (alM docs x u)) && decide (u < t))))
def nearF (docs : List (Nat × List Nat)) (x i : Nat) : Option Nat := (List.range docs.length).find? (fun t => decide (t ≠ x) && decide (cntB (aheadM docs x t) docs.length = i))
def nearR (docs : List (Nat × List Nat)) (x i : Int32) : Int32 := match slotOf (docs.map (fun d => d.1)) x with
  | none => 0
  | some k => if ¬ i < 0 ∧ i < nI (docs.length - 1) then (match nearF docs k i.toNatClampNeg with
    | none => -1
    | some t => nI (docs.getD t (0, [])).1) else -1
theorem nearF_some {docs : List (Nat × List Nat)} {x i t : Nat} (ht : t < docs.length) (h1 : t ≠ x) (h2 : cntB (aheadM docs x t) docs.length = i) (hno : ∀ u, u < t → u ≠ x → ¬ cntB (aheadM docs x u) docs.length = i) : nearF docs x i = some t := by
  rw [nearF, List.find?_range_eq_some]
  refine ⟨by simp [h1, h2], List.mem_range.mpr ht, fun u hu => ?_⟩
  by_cases e : u = x
  · simp [e]
  · simp [hno u hu e]
theorem nearF_none {docs : List (Nat × List Nat)} {x i : Nat} (hno : ∀ u, u < docs.length → u ≠ x → ¬ cntB (aheadM docs x u) docs.length = i) : nearF docs x i = none := by
  rw [nearF, List.find?_eq_none]
  intro u hu
  by_cases e : u = x
  · simp [e]
  · simp [hno u (List.mem_range.mp hu) e]
theorem nI_of3 {x : Int32} {m : Nat} (hm : m < 2 ^ 31) (h1 : ¬ x < 0) (h2 : ¬ nI m < x) : ∃ j : Nat, j ≤ m ∧ x = nI j := nI_of2 (nI_toInt hm) h1 (Int32.not_lt.mp h2)
theorem pairs_at {bd tw : Nat → Nat → Bool} {n k : Nat} (h : k ≤ 3) : pairsR bd tw n (nI k) = nI (kindL bd tw n k).length := by
  rw [pairsR, isOut_in (Nat.zero_le _) h (by decide), nI_clamp (by omega)]; rfl
theorem pairs_no {bd tw : Nat → Nat → Bool} {n : Nat} {kd : Int32} (h : isOut kd (nI 0) (nI 3) = true) : pairsR bd tw n kd = -1 := by
  rw [pairsR, h]; rfl
theorem pair_ok {k i w : Nat} (hk : k ≤ 3) (hi : i < 2 ^ 31) (hw : w ≤ 1) (hkw : 1 < k → w = 0) : pairOk (nI k) (nI i) (nI w) = true := by
  rw [pairOk, isOut_in (Nat.zero_le _) hk (by decide), decide_eq_true (nI_pos hi)]
  by_cases h1 : 1 < k
  · rw [if_pos ((nI_ltI (by decide) (by omega)).mpr h1), hkw h1]; rfl
  · rw [if_neg (fun h => h1 ((nI_ltI (by decide) (by omega)).mp h)), isOut_in (Nat.zero_le _) hw (by decide)]; rfl
theorem pair_at {bd tw : Nat → Nat → Bool} {docs : List (Nat × List Nat)} {k i w : Nat} (hk : k ≤ 3) (hi : i < 2 ^ 31) (hw : w ≤ 1) (hkw : 1 < k → w = 0) : pairR bd tw docs (nI k) (nI i) (nI w) = prNum docs (kindL bd tw docs.length k)[i]? (nI w) := by
  rw [pairR, pair_ok hk hi hw hkw, nI_clamp (by omega), nI_clamp hi]; rfl
theorem pair_no {bd tw : Nat → Nat → Bool} {docs : List (Nat × List Nat)} {kd i w : Int32} (h : pairOk kd i w = false) : pairR bd tw docs kd i w = -1 := by
  rw [pairR, h]; rfl
theorem pn_none {docs : List (Nat × List Nat)} {L : List (Nat × Nat)} {i : Nat} {w : Int32} (h : L.length ≤ i) : prNum docs L[i]? w = -1 := by
  rw [List.getElem?_eq_none h]; rfl
theorem pn_some {docs : List (Nat × List Nat)} {L : List (Nat × Nat)} {i x y w v : Nat} (h : L[i]? = some (x, y)) (hw : w ≤ 1) (hv : v = (docs.getD (if w = 0 then x else y) (0, [])).1) : nI v = prNum docs L[i]? (nI w) := by
  rw [h, hv]
  have : w = 0 ∨ w = 1 := by omega
  rcases this with rfl | rfl <;> rfl
theorem near_at {docs : List (Nat × List Nat)} {x : Int32} {k i : Nat} (h : slotOf (docs.map (fun d => d.1)) x = some k) (hi : i < 2 ^ 31) (h2 : i < docs.length - 1) (h3 : docs.length ≤ 48) : nearR docs x (nI i) = (match nearF docs k i with
    | none => -1
    | some t => nI (docs.getD t (0, [])).1) := by
  rw [nearR, h]
  show (if ¬ nI i < 0 ∧ nI i < nI (docs.length - 1) then _ else _) = _
  rw [if_pos ⟨nI_pos hi, (nI_ltI hi (by omega)).mpr h2⟩, nI_clamp hi]
theorem near_no {docs : List (Nat × List Nat)} {x i : Int32} {k : Nat} (h : slotOf (docs.map (fun d => d.1)) x = some k) (h2 : i < 0 ∨ ¬ i < nI (docs.length - 1)) : nearR docs x i = -1 := by
  rw [nearR, h]
  show (if ¬ i < 0 ∧ i < nI (docs.length - 1) then _ else _) = _
  rw [if_neg (fun h9 => h2.elim h9.1 (fun h8 => h8 h9.2))]
theorem bn2 (b : Bool) : b.toNat < 2 ^ 31 := by cases b <;> decide
