/-! ===== sets of shingles, signatures, what the model compares ===== -/
def comm (A B : List Nat) : Nat := A.countP (fun x => B.contains x)
theorem comm_take {A B : List Nat} {k : Nat} (hk : k < A.length) : (A.take (k + 1)).countP (fun x => B.contains x) = (A.take k).countP (fun x => B.contains x) + (if B.contains A[k] = true then 1 else 0) := by
  rw [← List.take_append_getElem hk, List.countP_append]
  congr 1
  rw [List.countP_cons, List.countP_nil, Nat.zero_add]
theorem comm_all {A B : List Nat} {k : Nat} (hk : A.length ≤ k) : (A.take k).countP (fun x => B.contains x) = comm A B := by
  rw [List.take_of_length_le hk]
  rfl
theorem comm_le (A B : List Nat) (k : Nat) : (A.take k).countP (fun x => B.contains x) ≤ k := Nat.le_trans List.countP_le_length (by rw [List.length_take]; omega)
theorem comm_le' (A B : List Nat) : comm A B ≤ A.length := List.countP_le_length
/-- a place in a rising row, with all below it smaller: is the number there -/
theorem rise_in {B : List Nat} {x i : Nat} (hB : Rise B) (hlt : ∀ q (hq : q < B.length), q < i → B[q] < x) (hi : i ≤ B.length) (hge : ∀ h : i < B.length, x ≤ B[i]) : (B.contains x = true) ↔ ∃ h : i < B.length, B[i] = x := by
  rw [List.contains_iff_mem]
  constructor
  · intro h
    obtain ⟨m, hm, rfl⟩ := List.mem_iff_getElem.mp h
    have h1 : ¬ m < i := fun q => Nat.lt_irrefl _ (hlt m hm q)
    have h2 : i < B.length := by omega
    refine ⟨h2, ?_⟩
    have h3 := hge h2
    rcases Nat.lt_or_eq_of_le (show i ≤ m by omega) with q | q
    · have := hB i m h2 hm q; omega
    · subst q; rfl
  · rintro ⟨h, rfl⟩
    exact List.getElem_mem h
def sgOf (ta tb : Nat → Nat) (E : List (Nat × Nat × Nat)) (L : List Nat) (j : Nat) : Nat := L.foldl (fun v x => min v (imgOf ta tb E j x)) 65521
def LeastOK (gl ta tb : Nat → Nat) (E : List (Nat × Nat × Nat)) (docs : List (Nat × List Nat)) : Prop := ∀ s (hs : s < docs.length) j, j < 64 → gl (64 * s + j) = sgOf ta tb E docs[s].2 j
theorem sg_take {ta tb : Nat → Nat} {E : List (Nat × Nat × Nat)} {L : List Nat} {j k : Nat} (hk : k < L.length) : sgOf ta tb E (L.take (k + 1)) j = min (sgOf ta tb E (L.take k) j) (imgOf ta tb E j L[k]) := by
  unfold sgOf
  rw [← List.take_append_getElem hk, List.foldl_append]
  rfl
theorem sg_le {ta tb : Nat → Nat} {E : List (Nat × Nat × Nat)} (L : List Nat) (j : Nat) : sgOf ta tb E L j ≤ 65521 := by
  unfold sgOf
  have key : ∀ (M : List Nat) (v : Nat), M.foldl (fun v x => min v (imgOf ta tb E j x)) v ≤ v := by
    intro M
    induction M with
    | nil => intro v; exact Nat.le_refl _
    | cons a M ih => intro v; rw [List.foldl_cons]; exact Nat.le_trans (ih _) (Nat.min_le_left _ _)
  exact key L 65521
def shR (L : List Nat) (i : Int32) : Int32 := if ¬ i < 0 ∧ i < nI L.length then nI (L.getD i.toNatClampNeg 0) else -1
def dset (docs : List (Nat × List Nat)) (o : Option Nat) : List Nat := match o with
  | some k => (docs.getD k (0, [])).2
  | none => []
theorem dset_at {docs : List (Nat × List Nat)} {k : Nat} (h : k < docs.length) : dset docs (some k) = docs[k].2 := by
  simp [dset, List.getD_eq_getElem?_getD, List.getElem?_eq_getElem h]
/-- how often a row holds a number -/
def cntF (f : Nat → Nat) (x : Nat) : Nat → Nat
  | 0 => 0
  | n + 1 => cntF f x n + (if f n = x then 1 else 0)
theorem cntF_le (f : Nat → Nat) (x : Nat) : ∀ n, cntF f x n ≤ n
  | 0 => Nat.le_refl _
  | n + 1 => by
    have := cntF_le f x n
    unfold cntF
    split <;> omega
theorem nI_lt' {a b : Nat} (hb : b < 2 ^ 31) (h : nI a < nI b) (ha : a < 2 ^ 31) : a < b := (nI_ltI ha hb).mp h
