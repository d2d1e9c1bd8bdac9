/-! ===== families: the least place of each, by twins of twins ===== -/
/-- the model's pairs, by places -/
def bdM (ta tb : Nat → Nat) (E : List (Nat × Nat × Nat)) (docs : List (Nat × List Nat)) (rr bb x y : Nat) : Option Nat := bandF (docs.getD x (0, [])).2.length (docs.getD y (0, [])).2.length (sgOf ta tb E (docs.getD x (0, [])).2) (sgOf ta tb E (docs.getD y (0, [])).2) rr bb
def cmM (docs : List (Nat × List Nat)) (x y : Nat) : Nat := comm (docs.getD x (0, [])).2 (docs.getD y (0, [])).2
def alM (docs : List (Nat × List Nat)) (x y : Nat) : Nat := (docs.getD x (0, [])).2.length + (docs.getD y (0, [])).2.length - cmM docs x y
def twM (ta tb : Nat → Nat) (E : List (Nat × Nat × Nat)) (docs : List (Nat × List Nat)) (rr bb pp qq x y : Nat) : Bool := twinB (bdM ta tb E docs rr bb x y) (cmM docs x y) (alM docs x y) pp qq
theorem gD_at {docs : List (Nat × List Nat)} {k : Nat} (h : k < docs.length) : docs.getD k (0, []) = docs[k] := by
  simp [List.getD_eq_getElem?_getD, List.getElem?_eq_getElem h]
def FamOK (fa : Nat → Nat) (n : Nat) (tw : Nat → Nat → Bool) : Prop :=
  (∀ s, s < n → fa s ≤ s ∧ fa (fa s) = fa s) ∧ (∀ s t, s < n → t < s → tw s t = true → fa s = fa t) ∧
  (∀ c : Nat → Nat, (∀ s t, s < n → t < s → tw s t = true → c s = c t) → ∀ s, s < n → c s = c (fa s))
/-- what holds on the way -/
def FamI (fa : Nat → Nat) (n : Nat) (tw : Nat → Nat → Bool) : Prop :=
  (∀ s, s < n → fa s ≤ s ∧ fa (fa s) = fa s) ∧
  (∀ c : Nat → Nat, (∀ s t, s < n → t < s → tw s t = true → c s = c t) → ∀ s, s < n → c s = c (fa s))
def roots (fa : Nat → Nat) : Nat → Nat
  | 0 => 0
  | n + 1 => roots fa n + (if fa n = n then 1 else 0)
def mrg (fa : Nat → Nat) (hi lo : Nat) : Nat → Nat := fun k => if fa k = hi then lo else fa k
def mrgP (fa : Nat → Nat) (hi lo i : Nat) : Nat → Nat := fun k => if k < i ∧ fa k = hi then lo else fa k
theorem mrgP_0 (fa : Nat → Nat) (hi lo : Nat) : mrgP fa hi lo 0 = fa := by
  funext k
  simp [mrgP]
theorem mrgP_t {fa : Nat → Nat} {hi lo i : Nat} (h : fa i = hi) : va_up (mrgP fa hi lo i) i lo = mrgP fa hi lo (i + 1) := by
  funext k
  by_cases e : k = i
  · subst e
    rw [va_up_self]
    simp [mrgP, h]
  · rw [va_up_ne _ _ e]
    unfold mrgP
    by_cases h2 : k < i ∧ fa k = hi
    · rw [if_pos h2, if_pos (by omega)]
    · rw [if_neg h2, if_neg (by omega)]
theorem mrgP_f {fa : Nat → Nat} {hi lo i : Nat} (h : ¬ fa i = hi) : mrgP fa hi lo i = mrgP fa hi lo (i + 1) := by
  funext k
  unfold mrgP
  by_cases e : k = i
  · subst e
    rw [if_neg (by omega), if_neg (by omega)]
  · by_cases h2 : k < i ∧ fa k = hi
    · rw [if_pos h2, if_pos (by omega)]
    · rw [if_neg h2, if_neg (by omega)]
theorem mrgP_at {fa : Nat → Nat} {hi lo i : Nat} : mrgP fa hi lo i i = fa i := by
  unfold mrgP
  rw [if_neg (by omega)]
theorem mrgP_le {fa : Nat → Nat} {hi lo i k n : Nat} (h : fa k ≤ n) (h2 : lo ≤ hi) (h3 : hi ≤ fa k ∨ fa k ≠ hi) : mrgP fa hi lo i k ≤ n := by
  unfold mrgP
  split <;> omega
theorem roots_le (fa : Nat → Nat) : ∀ n, roots fa n ≤ n
  | 0 => Nat.le_refl _
  | n + 1 => by
    have := roots_le fa n
    unfold roots
    split <;> omega
theorem roots_cong {f g : Nat → Nat} : ∀ {n : Nat}, (∀ k, k < n → f k = g k) → roots f n = roots g n
  | 0, _ => rfl
  | n + 1, h => by
    unfold roots
    rw [roots_cong (fun k hk => h k (by omega)), h n (by omega)]
theorem fam_start (n : Nat) (tw : Nat → Nat → Bool) {fa : Nat → Nat} (h : ∀ k, k < n → fa k = k) : FamI fa n tw := by
  refine ⟨fun s hs => ?_, fun c _ s hs => ?_⟩
  · rw [h s hs, h s hs]; exact ⟨Nat.le_refl _, rfl⟩
  · rw [h s hs]
/-- a merge keeps what holds, and takes one root away -/
theorem fam_merge {fa : Nat → Nat} {n x y hi lo : Nat} {tw : Nat → Nat → Bool} (h : FamI fa n tw) (hx : x < n) (hy : y < x) (htw : tw x y = true) (hxy : (fa x = hi ∧ fa y = lo) ∨ (fa x = lo ∧ fa y = hi)) (hlt : lo < hi) {fb : Nat → Nat} (hfb : ∀ k, k < n → fb k = mrg fa hi lo k) : FamI fb n tw ∧ roots fb n < roots fa n := by
  have hhi : hi < n ∧ fa hi = hi ∧ fa lo = lo ∧ lo < n := by
    have h1 := h.1 x hx
    have h2 := h.1 y (by omega)
    rcases hxy with ⟨e1, e2⟩ | ⟨e1, e2⟩
    · rw [e1] at h1; rw [e2] at h2; exact ⟨by omega, h1.2, h2.2, by omega⟩
    · rw [e1] at h1; rw [e2] at h2; exact ⟨by omega, h2.2, h1.2, by omega⟩
  have hle : ∀ k, k < n → mrg fa hi lo k ≤ k := fun k hk => by
    unfold mrg
    have := (h.1 k hk).1
    split <;> omega
  refine ⟨⟨fun s hs => ?_, fun c hc s hs => ?_⟩, ?_⟩
  · rw [hfb s hs]
    have h1 := hle s hs
    refine ⟨h1, ?_⟩
    rw [hfb _ (by omega)]
    unfold mrg
    by_cases e : fa s = hi
    · rw [if_pos e, hhi.2.2.1, if_neg (by omega)]
    · rw [if_neg e, (h.1 s hs).2, if_neg e]
  · rw [hfb s hs]
    have h1 := h.2 c hc s hs
    unfold mrg
    by_cases e : fa s = hi
    · rw [if_pos e]
      have hx1 := h.2 c hc x hx
      have hy1 := h.2 c hc y (by omega)
      have hxy1 := hc x y hx hy htw
      rw [e] at h1
      rcases hxy with ⟨e1, e2⟩ | ⟨e1, e2⟩
      · rw [e1] at hx1; rw [e2] at hy1; omega
      · rw [e1] at hx1; rw [e2] at hy1; omega
    · rw [if_neg e]; exact h1
  · have key : ∀ m, m ≤ n → roots fb m + (if hi < m then 1 else 0) ≤ roots fa m := by
      intro m
      induction m with
      | zero => intro _; simp [roots]
      | succ m ih =>
        intro hm
        have ih2 := ih (by omega)
        unfold roots
        rw [hfb m (by omega)]
        by_cases e : m = hi
        · subst e
          have e1 : mrg fa m lo m = lo := by unfold mrg; rw [if_pos hhi.2.1]
          rw [e1, if_neg (by omega), if_pos hhi.2.1, if_pos (by omega)]
          rw [if_neg (by omega)] at ih2
          omega
        · have e2 : (if mrg fa hi lo m = m then 1 else 0) ≤ (if fa m = m then 1 else 0) := by
            unfold mrg
            by_cases e3 : fa m = hi
            · rw [if_pos e3]
              by_cases e4 : lo = m
              · subst e4
                have := hhi.2.2.1
                omega
              · rw [if_neg e4]; omega
            · rw [if_neg e3]; omega
          by_cases e5 : hi < m
          · rw [if_pos e5] at ih2
            rw [show (if hi < m + 1 then (1 : Nat) else 0) = 1 from if_pos (by omega)]
            omega
          · rw [if_neg e5] at ih2
            rw [show (if hi < m + 1 then (1 : Nat) else 0) = 0 from if_neg (by omega)]
            omega
    have := key n (Nat.le_refl _)
    rw [if_pos hhi.1] at this
    omega
theorem fam_one {fa fb : Nat → Nat} {n : Nat} {tw : Nat → Nat → Bool} (h1 : FamOK fa n tw) (h2 : FamOK fb n tw) : ∀ s, s < n → fa s = fb s := by
  intro s hs
  have a1 := h1.2.2 fb h2.2.1 s hs
  have a2 := h2.2.2 fa h1.2.1 s hs
  have b1 := h1.1 s hs
  have b2 := h2.1 s hs
  have c1 := (h2.1 (fa s) (by omega)).1
  have c2 := (h1.1 (fb s) (by omega)).1
  omega
