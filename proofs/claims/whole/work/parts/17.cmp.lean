/-! ===== comparing two documents ===== -/
def agr (f g : Nat → Nat) (a r : Nat) : Bool := (List.range r).all (fun k => f (a + k) == g (a + k))
theorem agr_t {f g : Nat → Nat} {a r : Nat} (h : ∀ k, k < r → f (a + k) = g (a + k)) : agr f g a r = true := by
  rw [agr, List.all_eq_true]
  intro k hk
  simp [h k (List.mem_range.mp hk)]
theorem agr_f {f g : Nat → Nat} {a r k : Nat} (hk : k < r) (h : ¬ f (a + k) = g (a + k)) : agr f g a r = false := by
  cases hq : agr f g a r with
  | false => rfl
  | true =>
    rw [agr, List.all_eq_true] at hq
    have := hq k (List.mem_range.mpr hk)
    simp at this
    exact absurd this h
theorem agr_cong {f g f2 g2 : Nat → Nat} {a r : Nat} (h : ∀ k, k < r → f (a + k) = f2 (a + k) ∧ g (a + k) = g2 (a + k)) : agr f g a r = agr f2 g2 a r := by
  cases hq : agr f2 g2 a r with
  | true =>
    rw [agr, List.all_eq_true] at hq
    exact agr_t (fun k hk => by rw [(h k hk).1, (h k hk).2]; have := hq k (List.mem_range.mpr hk); simpa using this)
  | false =>
    cases hp : agr f g a r with
    | false => rfl
    | true =>
      rw [agr, List.all_eq_true] at hp
      have : agr f2 g2 a r = true := agr_t (fun k hk => by rw [← (h k hk).1, ← (h k hk).2]; have := hp k (List.mem_range.mpr hk); simpa using this)
      rw [this] at hq
      cases hq
/-- the first band whose rows agree -/
def fstB (f g : Nat → Nat) (r b : Nat) : Option Nat := (List.range b).find? (fun q => agr f g (q * r) r)
theorem fstB_some {f g : Nat → Nat} {r b q : Nat} (hq : q < b) (h : agr f g (q * r) r = true) (hn : ∀ j, j < q → agr f g (j * r) r = false) : fstB f g r b = some q := by
  rw [fstB, List.find?_range_eq_some]
  refine ⟨h, List.mem_range.mpr hq, fun j hj => ?_⟩
  simp [hn j hj]
theorem fstB_none {f g : Nat → Nat} {r b : Nat} (hn : ∀ j, j < b → agr f g (j * r) r = false) : fstB f g r b = none := by
  rw [fstB, List.find?_range_eq_none]
  intro j hj
  simp [hn j hj]
def bandF (zx zy : Nat) (f g : Nat → Nat) (r b : Nat) : Option Nat := if zx = 0 ∨ zy = 0 then none else fstB f g r b
def cntE (f g : Nat → Nat) : Nat → Nat
  | 0 => 0
  | n + 1 => cntE f g n + (if f n = g n then 1 else 0)
theorem cntE_le (f g : Nat → Nat) : ∀ n, cntE f g n ≤ n
  | 0 => Nat.le_refl _
  | n + 1 => by
    have := cntE_le f g n
    unfold cntE
    split <;> omega
theorem cntE_cong {f g f2 g2 : Nat → Nat} : ∀ {n : Nat}, (∀ k, k < n → f k = f2 k ∧ g k = g2 k) → cntE f g n = cntE f2 g2 n
  | 0, _ => rfl
  | n + 1, h => by
    unfold cntE
    rw [cntE_cong (fun k hk => h k (by omega)), (h n (by omega)).1, (h n (by omega)).2]
def nearB (c a p q : Nat) : Bool := decide (a * p ≤ c * q)
def twinB (o : Option Nat) (c a p q : Nat) : Bool := o.isSome && nearB c a p q
/-- nearer by fractions, 0 / 0 being 0 -/
def nrB (c1 a1 c2 a2 : Nat) : Bool := decide (c2 * max 1 a1 < c1 * max 1 a2)
theorem nI_max {a b : Nat} (ha : a < 2 ^ 31) (hb : b < 2 ^ 31) : (if nI a < nI b then nI b else nI a) = nI (max a b) := by
  by_cases h : a < b
  · rw [if_pos ((nI_ltI ha hb).mpr h), Nat.max_eq_right (by omega)]
  · rw [if_neg (fun q => h ((nI_ltI ha hb).mp q)), Nat.max_eq_left (by omega)]
def sideR (g1 g2 : Nat → Nat) (sz : Nat) (i w : Int32) : Int32 := if ¬ i < 0 ∧ i < nI sz ∧ ¬ w < 0 ∧ w ≤ nI 1 then (if w = 0 then nI (g1 i.toNatClampNeg) else nI (g2 i.toNatClampNeg)) else -1
def bandOk (b r : Int32) : Bool := decide (¬ b < nI 1) && decide (¬ r < nI 1) && decide (¬ nI 64 < b) && decide (¬ nI 64 < r) && decide (b * r ≤ nI 64)
def bandN (b r : Int32) (o : Nat) : Nat := if bandOk b r = true then b.toNatClampNeg else o
def bandN2 (b r : Int32) (o : Nat) : Nat := if bandOk b r = true then r.toNatClampNeg else o
def thrOk (p q : Int32) : Bool := decide (¬ p < 0) && decide (¬ q < p) && decide (¬ q < nI 1) && decide (q ≤ nI 10000)
def thrN (p q : Int32) (o : Nat) : Nat := if thrOk p q = true then p.toNatClampNeg else o
def thrN2 (p q : Int32) (o : Nat) : Nat := if thrOk p q = true then q.toNatClampNeg else o
theorem nI_back {x : Int32} (h : ¬ x < 0) : nI x.toNatClampNeg = x := by
  obtain ⟨j, hj, rfl⟩ := nI_of h
  rw [nI_clamp hj]
theorem nI_back1 {x : Int32} (h : ¬ x < nI 1) : nI x.toNatClampNeg = x := nI_back (fun h2 => h (Int32.lt_trans h2 (by decide)))
