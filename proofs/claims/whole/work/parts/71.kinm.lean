section KINM
/-- what two documents' rows say of each other -/
def bdR (dd : Nat → DX) (rr bb t u : Nat) : Option Nat := bandF (dd t).2.2.1.2 (dd u).2.2.1.2 (dd t).2.2.2.2.2.1 (dd u).2.2.2.2.2.1 rr bb
def twR (dd : Nat → DX) (rr bb pp qq t u : Nat) : Bool := twinB (bdR dd rr bb t u) ((dd t).2.2.2.2.2.2 u) ((dd t).2.2.1.2 + (dd u).2.2.1.2 - (dd t).2.2.2.2.2.2 u) pp qq
def bdH (dd : Nat → DX) (HS : List Nat) (rr bb x y : Nat) : Bool := (bdR dd rr bb (HS.getD x 0) (HS.getD y 0)).isSome
def twH (dd : Nat → DX) (HS : List Nat) (rr bb pp qq x y : Nat) : Bool := twR dd rr bb pp qq (HS.getD x 0) (HS.getD y 0)
def nmH (dd : Nat → DX) (HS : List Nat) (q : Nat × Nat) : Nat × Nat := ((dd (HS.getD q.1 0)).2.2.1.1, (dd (HS.getD q.2 0)).2.2.1.1)
/-- rows that the comparing asks for -/
def RowOK (dd : Nat → DX) (HS : List Nat) : Prop := ∀ t ∈ HS, (dd t).2.2.1.2 ≤ 800 ∧ (∀ k, k < 64 → (dd t).2.2.2.2.2.1 k < 2 ^ 31) ∧ ∀ u ∈ HS, (dd t).2.2.2.2.2.2 u ≤ (dd t).2.2.1.2
/-- what is known of pairs and families -/
def KinOK (dd : Nat → DX) (HS : List Nat) (rr bb pp qq plc : Nat) (c1 c2 t1 t2 nu tc fa me : Nat → Nat) (sz1 sz2 : Nat) : Prop :=
  plc = HS.length ∧ sz1 = (prO (bdH dd HS rr bb) HS.length HS.length).length ∧ PRL c1 c2 ((prO (bdH dd HS rr bb) HS.length HS.length).map (nmH dd HS)) ∧ sz2 = (prO (twH dd HS rr bb pp qq) HS.length HS.length).length ∧ PRL t1 t2 ((prO (twH dd HS rr bb pp qq) HS.length HS.length).map (nmH dd HS)) ∧
  (∀ i t, HS[i]? = some t → nu i = (dd t).2.2.1.1) ∧ (∀ i, i < HS.length → tc i = cntP (prO (twH dd HS rr bb pp qq) HS.length HS.length) i) ∧ FamOK fa HS.length (twH dd HS rr bb pp qq) ∧ ∀ i, i < HS.length → me i = cntF fa i HS.length
theorem tc_up {tc : Nat → Nat} {L : List (Nat × Nat)} {n i j : Nat} (h : ∀ k, k < n → tc k = cntP L k) (hij : i ≠ j) (hi : i < n) (hj : j < n) : ∀ k, k < n → va_up (va_up tc i (tc i + 1)) j (va_up tc i (tc i + 1) j + 1) k = cntP (L ++ [(i, j)]) k := fun k hk => by
  rw [cntP_app, cntP_one hij]
  by_cases e1 : k = j
  · subst e1
    rw [va_up_self, va_up_ne _ _ (Ne.symm hij), h k hk, decide_eq_false hij, decide_eq_true rfl]; rfl
  · rw [va_up_ne _ _ e1]
    by_cases e2 : k = i
    · subst e2
      rw [va_up_self, h k hk, decide_eq_true rfl, decide_eq_false (fun e => e1 e.symm)]; rfl
    · rw [va_up_ne _ _ e2, h k hk, decide_eq_false (fun e => e2 e.symm), decide_eq_false (fun e => e1 e.symm)]; rfl
theorem prI_n {f : Nat → Nat → Bool} {x t n : Nat} : (prO f n x ++ prI f x t).length ≤ x * n + t := by
  have h1 := prO_len f n x
  have h2 := prI_len f x t
  rw [List.length_append]; omega
/-- exactly: pairs of places below n -/
theorem prI_len2 {f : Nat → Nat → Bool} {x : Nat} : ∀ t, (prI f x t).length ≤ t - (x + 1)
  | 0 => Nat.zero_le _
  | t + 1 => by
    have := prI_len2 (f := f) (x := x) t
    rw [prI, List.length_append]
    by_cases h : x < t ∧ f x t = true
    · rw [if_pos h]; simp; omega
    · rw [if_neg h]; simp; omega
theorem prO_len2 {f : Nat → Nat → Bool} {n : Nat} : ∀ x, x ≤ n → 2 * (prO f n x).length + x * x + x ≤ 2 * x * n
  | 0, _ => by simp [prO]
  | x + 1, h => by
    have h1 := prO_len2 (f := f) (n := n) x (by omega)
    have h2 := prI_len2 (f := f) (x := x) n
    rw [prO, List.length_append]
    have e1 : (x + 1) * (x + 1) = x * x + 2 * x + 1 := by rw [Nat.succ_mul, Nat.mul_succ]; omega
    have e2 : 2 * (x + 1) * n = 2 * x * n + 2 * n := by rw [Nat.mul_succ, Nat.add_mul]
    omega
theorem pr_small {f : Nat → Nat → Bool} {n x t : Nat} (hn : n ≤ 48) (hx : x < n) (hxt : x < t) (ht : t < n) : (prO f n x ++ prI f x t).length < 1128 := by
  have h1 := prO_len2 (f := f) (n := n) x (by omega)
  have h2 := prI_len2 (f := f) (x := x) t
  rw [List.length_append]
  have h3 : 2 * x * n ≤ 2 * x * 48 := Nat.mul_le_mul_left _ hn
  have h4 : x * x + x + 2 * x * 48 - (2 * x * 48) = x * x + x := by omega
  have h5 : x ≤ 46 := by omega
  have h6 : 2 * (prO f n x).length + x * x + x ≤ 96 * x := by
    have : 2 * x * 48 = 96 * x := by omega
    omega
  have h7 : 96 * x - x * x - x + 2 * (48 - (x + 1)) ≤ 2256 := by
    have : ∀ y, y ≤ 46 → 96 * y - y * y - y + 2 * (48 - (y + 1)) ≤ 2256 := by decide
    exact this x h5
  omega
end KINM
theorem kin_c {f : Nat → Nat → Bool} {nm : Nat × Nat → Nat × Nat} {n x t : Nat} {b : Bool} {q : Nat × Nat} (hxt : x < t) (hb : b = f x t) (hq : q = nm (x, t)) : (bif b then (prO f n x ++ prI f x t).map nm ++ [q] else (prO f n x ++ prI f x t).map nm) = (prO f n x ++ prI f x (t + 1)).map nm := by
  cases h : f x t with
  | true =>
    rw [hb, h, prI_t hxt h, ← List.append_assoc, hq]
    show (prO f n x ++ prI f x t).map nm ++ [nm (x, t)] = ((prO f n x ++ prI f x t) ++ [(x, t)]).map nm
    rw [List.map_append (l₁ := prO f n x ++ prI f x t)]; rfl
  | false => rw [hb, h, prI_f h]; rfl
theorem kin_t {f : Nat → Nat → Bool} {tc : Nat → Nat} {n x t : Nat} {b : Bool} (hxt : x < t) (ht : t < n) (hb : b = f x t) (h : ∀ k, k < n → tc k = cntP (prO f n x ++ prI f x t) k) : ∀ k, k < n → (bif b then va_up (va_up tc x (tc x + 1)) t (va_up tc x (tc x + 1) t + 1) else tc) k = cntP (prO f n x ++ prI f x (t + 1)) k := by
  cases h9 : f x t with
  | true =>
    rw [hb, h9, prI_t hxt h9, ← List.append_assoc]
    exact tc_up h (by omega) (by omega) ht
  | false => rw [hb, h9, prI_f h9]; exact h
theorem kin_f {f : Nat → Nat → Bool} {fa : Nat → Nat} {n x t : Nat} {b : Bool} (hxt : x < t) (ht : t < n) (hb : b = f x t) (hs : f t x = f x t) (h : FamP fa n f x t) : FamP (bif b then mrgP fa (max (fa x) (fa t)) (min (fa x) (fa t)) n else fa) n f x (t + 1) := by
  cases h9 : f x t with
  | true => rw [hb, h9]; exact h.join hxt ht (hs.trans h9)
  | false => rw [hb, h9]; exact h.skip (hs.trans h9)
