section RNK
def nrR (dd : Nat → DX) (x t u : Nat) : Bool := nrB ((dd x).2.2.2.2.2.2 t) ((dd x).2.2.1.2 + (dd t).2.2.1.2 - (dd x).2.2.2.2.2.2 t) ((dd x).2.2.2.2.2.2 u) ((dd x).2.2.1.2 + (dd u).2.2.1.2 - (dd x).2.2.2.2.2.2 u)
/-- from the end down past all that are farther -/
def rnk (f : Nat → Bool) : Nat → Nat
  | 0 => 0
  | r + 1 => if f r = true then rnk f r else r + 1
theorem rnk_le (f : Nat → Bool) : ∀ r, rnk f r ≤ r
  | 0 => Nat.le_refl _
  | r + 1 => by
    have := rnk_le f r
    unfold rnk; split <;> omega
def insR (dd : Nat → DX) (x : Nat) (R : List Nat) (t : Nat) : List Nat := if t = x then R else R.take (rnk (fun k => nrR dd x t (R.getD k 0)) R.length) ++ t :: R.drop (rnk (fun k => nrR dd x t (R.getD k 0)) R.length)
def ordL (dd : Nat → DX) (x : Nat) (L : List Nat) : List Nat := L.foldl (insR dd x) []
theorem ord_s {dd : Nat → DX} {x i t : Nat} {L : List Nat} (h : L[i]? = some t) : ordL dd x (L.take (i + 1)) = insR dd x (ordL dd x (L.take i)) t := by
  rw [take_s h, ordL, List.foldl_append]; rfl
theorem ins_mem {dd : Nat → DX} {x t u : Nat} {R : List Nat} (h : u ∈ insR dd x R t) : u ∈ R ∨ u = t := by
  unfold insR at h
  split at h
  · exact Or.inl h
  · rcases List.mem_append.mp h with h | h
    · exact Or.inl (List.mem_of_mem_take h)
    · rcases List.mem_cons.mp h with h | h
      · exact Or.inr h
      · exact Or.inl (List.mem_of_mem_drop h)
theorem ord_mem {dd : Nat → DX} {x u : Nat} : ∀ {L R : List Nat}, u ∈ L.foldl (insR dd x) R → u ∈ R ∨ u ∈ L
  | [], R, h => Or.inl h
  | a :: L, R, h => by
    rcases ord_mem (L := L) (R := insR dd x R a) h with h | h
    · rcases ins_mem h with h | h
      · exact Or.inl h
      · exact Or.inr (by rw [h]; exact List.mem_cons_self)
    · exact Or.inr (List.mem_cons_of_mem _ h)
theorem ord_sub {dd : Nat → DX} {x u : Nat} {L : List Nat} (h : u ∈ ordL dd x L) : u ∈ L := (ord_mem h).elim (fun h => absurd h (by simp)) id
theorem insR_len {dd : Nat → DX} {x t : Nat} {R : List Nat} : (insR dd x R t).length ≤ R.length + 1 := by
  have h := rnk_le (fun k => nrR dd x t (R.getD k 0)) R.length
  unfold insR; split
  · omega
  · simp; omega
theorem ord_len {dd : Nat → DX} {x : Nat} : ∀ {L R : List Nat}, (L.foldl (insR dd x) R).length ≤ R.length + L.length
  | [], R => Nat.le_refl _
  | a :: L, R => by
    have h1 := ord_len (dd := dd) (x := x) (L := L) (R := insR dd x R a)
    have h2 := insR_len (dd := dd) (x := x) (t := a) (R := R)
    show (L.foldl (insR dd x) (insR dd x R a)).length ≤ _
    rw [List.length_cons]; omega
theorem map_ins {dd : Nat → DX} {R : List Nat} {r t a : Nat} (h : (dd t).1.2 = a) : (R.map (fun t => (dd t).1.2)).take r ++ a :: (R.map (fun t => (dd t).1.2)).drop r = (R.take r ++ t :: R.drop r).map (fun t => (dd t).1.2) := by
  rw [List.map_append, List.map_cons, List.map_take, List.map_drop, h]
/-- two documents with one address are one -/
theorem DW.inj {ws : va_W} {cI cJ : ClassId} {nd t u : Nat} {dd : Nat → DX} {A : Nat → Prop} (h : DW ws cI cJ nd dd) (hD : va_D A ws) (ht : t < nd) (hu : u < nd) (he : (dd t).1.2 = (dd u).1.2) : t = u := by
  by_cases e : t = u
  · exact e
  · have h1 := hD.1 _ _ _ _ (h.1 t ht).1.1 (h.1 u hu).1.1 he
    have h2 := h.2 t u ht hu e
    omega
theorem rnk_t {f : Nat → Bool} {r : Nat} (h : f r = true) : rnk f (r + 1) = rnk f r := by rw [rnk, if_pos h]
theorem rnk_f {f : Nat → Bool} {r : Nat} (h : f r = false) : rnk f (r + 1) = r + 1 := by rw [rnk, if_neg (by rw [h]; decide)]
end RNK
