section KEEP
theorem dgA {docs : List (Nat × List Nat)} {d : Nat × List Nat} {i : Nat} (h : i < docs.length) : (docs ++ [d]).getD i (0, []) = docs.getD i (0, []) := by
  rw [List.getD_eq_getElem?_getD, List.getD_eq_getElem?_getD, List.getElem?_append_left h]
theorem dgB {docs : List (Nat × List Nat)} {d : Nat × List Nat} : (docs ++ [d]).getD docs.length (0, []) = d := by
  rw [List.getD_eq_getElem?_getD, List.getElem?_append_right (Nat.le_refl _), Nat.sub_self]; rfl
/-- each slot's numbers -/
def DLs (HS : List Nat) (docs : List (Nat × List Nat)) (dL : Nat → List Nat) : Prop := ∀ i t, HS[i]? = some t → dL t = (docs.getD i (0, [])).2
theorem DLs.ex {HS : List Nat} (docs : List (Nat × List Nat)) (hn : HS.Nodup) : ∃ dL, DLs HS docs dL := by
  refine ⟨fun t => (docs.getD (HS.idxOf t) (0, [])).2, fun i t h => ?_⟩
  obtain ⟨hi, rfl⟩ := List.getElem?_eq_some_iff.mp h
  have e : HS.idxOf HS[i] = i := by
    have hm : HS.idxOf HS[i] < HS.length := List.idxOf_lt_length_iff.mpr (List.getElem_mem hi)
    exact (List.getElem_inj hn).mp (List.getElem_idxOf hm)
  show (docs.getD (HS.idxOf HS[i]) (0, [])).2 = _
  rw [e]
theorem ShM.dj {dd : Nat → DX} {HS : List Nat} {docs : List (Nat × List Nat)} {ta tb : Nat → Nat} {E : List (Nat × Nat × Nat)} {dL : Nat → List Nat} (h : ShM dd HS docs ta tb E) (hd : DLs HS docs dL) : ∀ t ∈ HS, DOk (dd t) (dL t) ∧ SetB (dd t).2.2.2.1 (fun q => (dL t).contains q) := fun t ht => by
  obtain ⟨i, hi, rfl⟩ := List.mem_iff_getElem.mp ht
  have e := List.getElem?_eq_getElem hi
  have h1 := h.2 i _ e
  rw [hd i _ e]
  exact ⟨h1.2.1, h1.2.2.1⟩
theorem DOk.sh {x : DX} {L : List Nat} {g : Nat → Nat} (h : DOk x L) : DOk (dsh x g) L := h
theorem DOk.le {x : DX} {L : List Nat} {g : Nat → Nat} (h : DOk x L) : DOk (dle x g) L := h
/-- one comes -/
theorem ShM.ap {dd de : Nat → DX} {HS : List Nat} {docs : List (Nat × List Nat)} {ta tb : Nat → Nat} {E : List (Nat × Nat × Nat)} {dL : Nat → List Nat} {t ca : Nat} {L : List Nat} (h : ShM dd HS docs ta tb E) (hd : DLs HS docs dL) (hm : Dsm docs) (hL : Rise L) (hA : AddD dd de dL ta tb E HS t ca L) : ShM de (HS ++ [t]) (docs ++ [(ca, L)]) ta tb E := by
  obtain ⟨a1, a2, a3, a4, a5, a6, a7, a8⟩ := hA
  have hb : ∀ x ∈ L, x < 6016 := fun x hx => by have := a2.2.2.2 x hx; omega
  have hsp : ∀ i u, (HS ++ [t])[i]? = some u → (i < HS.length ∧ HS[i]? = some u ∧ u ≠ t ∧ u ∈ HS) ∨ (i = HS.length ∧ u = t) := by
    intro i u hu
    by_cases hi : i < HS.length
    · rw [List.getElem?_append_left hi] at hu
      have hmem := List.mem_of_getElem? hu
      exact Or.inl ⟨hi, hu, fun e => a8 (by rw [← e]; exact hmem), hmem⟩
    · have hi2 : i < (HS ++ [t]).length := (List.getElem?_eq_some_iff.mp hu).1
      rw [List.length_append] at hi2
      have e : i = HS.length := by simp at hi2; omega
      subst e
      rw [List.getElem?_append_right (Nat.le_refl _), Nat.sub_self] at hu
      exact Or.inr ⟨rfl, by simpa using hu.symm⟩
  refine ⟨by rw [List.length_append, List.length_append, h.1]; rfl, fun i u hu => ?_⟩
  rcases hsp i u hu with ⟨hi, hu1, hne, hmem⟩ | ⟨rfl, rfl⟩
  · have h1 := h.2 i u hu1
    have hdi : i < docs.length := by rw [h.1]; exact hi
    have e7 := a7 u hmem
    rw [dgA hdi, e7]
    refine ⟨h1.1, h1.2.1.sh, h1.2.2.1, h1.2.2.2.1, fun k v hv => ?_⟩
    rw [dsh_sh]
    rcases hsp k v hv with ⟨hk, hv1, hnv, -⟩ | ⟨rfl, rfl⟩
    · rw [va_up_ne _ _ hnv, h1.2.2.2.2 k v hv1, cmM, cmM, dgA hdi, dgA (by rw [h.1]; exact hk)]
    · rw [va_up_self, cmM, dgA hdi, ← h.1, dgB, ← hd i u hu1, comm_cnt (by rw [hd i u hu1]; exact (docs_row hm i).1) (by rw [hd i u hu1]; exact (docs_row hm i).2)]
      exact cntB_cong (fun q _ => Bool.and_comm _ _)
  · have e0 : (docs ++ [(ca, L)]).getD HS.length (0, []) = (ca, L) := by rw [← h.1]; exact dgB
    rw [e0]
    refine ⟨a1, a2, a3, a4, fun k v hv => ?_⟩
    rcases hsp k v hv with ⟨hk, hv1, hnv, hvm⟩ | ⟨rfl, rfl⟩
    · rw [a6 v hvm, cmM, e0, dgA (by rw [h.1]; exact hk), ← hd k v hv1, comm_cnt hL.nd hb]
    · rw [a5, cmM, e0, comm_cnt hL.nd hb]
/-- one goes -/
theorem er_gD {docs : List (Nat × List Nat)} {s i : Nat} : (docs.eraseIdx s).getD i (0, []) = docs.getD (if i < s then i else i + 1) (0, []) := by
  rw [List.getD_eq_getElem?_getD, List.getD_eq_getElem?_getD, List.getElem?_eraseIdx]
  split <;> rfl
theorem ShM.rm {dd : Nat → DX} {HS : List Nat} {docs : List (Nat × List Nat)} {ta tb : Nat → Nat} {E : List (Nat × Nat × Nat)} (h : ShM dd HS docs ta tb E) (s : Nat) : ShM dd (HS.eraseIdx s) (docs.eraseIdx s) ta tb E := by
  have hg : ∀ i t, (HS.eraseIdx s)[i]? = some t → HS[if i < s then i else i + 1]? = some t := by
    intro i t h9
    rw [List.getElem?_eraseIdx] at h9
    split <;> rename_i h8 <;> simp [h8] at h9 <;> simpa using h9
  refine ⟨by rw [List.length_eraseIdx, List.length_eraseIdx, h.1], fun i t hi => ?_⟩
  have h1 := h.2 _ t (hg i t hi)
  rw [er_gD]
  refine ⟨h1.1, h1.2.1, h1.2.2.1, h1.2.2.2.1, fun k u hu => ?_⟩
  rw [h1.2.2.2.2 _ u (hg k u hu), cmM, cmM, er_gD, er_gD]
theorem ShM.rmO {dd : Nat → DX} {HS : List Nat} {docs : List (Nat × List Nat)} {ta tb : Nat → Nat} {E : List (Nat × Nat × Nat)} (h : ShM dd HS docs ta tb E) (o : Option Nat) : ShM dd (rmH HS o) (rmD docs o) ta tb E := by
  cases o with
  | none => exact h
  | some s => exact h.rm s
/-- images of one told anew -/
theorem ShM.img {dd : Nat → DX} {HS : List Nat} {docs : List (Nat × List Nat)} {ta tb ta2 tb2 : Nat → Nat} {E E2 : List (Nat × Nat × Nat)} {dL : Nat → List Nat} {j : Nat} (h : ShM dd HS docs ta tb E) (hd : DLs HS docs dL) (hk : ∀ k x, k ≠ j → imgOf ta2 tb2 E2 k x = imgOf ta tb E k x) : ShM (rnA dd j (fun t => sgOf ta2 tb2 E2 (dL t) j) HS) HS docs ta2 tb2 E2 := by
  refine ⟨h.1, fun i t hi => ?_⟩
  have h1 := h.2 i t hi
  have hr : rnA dd j (fun t => sgOf ta2 tb2 E2 (dL t) j) HS t = dle (dd t) (va_up (dd t).2.2.2.2.2.1 j (sgOf ta2 tb2 E2 (dL t) j)) := by rw [rnA, if_pos (List.mem_of_getElem? hi)]
  rw [hr]
  refine ⟨h1.1, h1.2.1.le, h1.2.2.1, fun k hk2 => ?_, h1.2.2.2.2⟩
  show va_up (dd t).2.2.2.2.2.1 j (sgOf ta2 tb2 E2 (dL t) j) k = _
  by_cases e : k = j
  · subst e; rw [va_up_self, hd i t hi]
  · rw [va_up_ne _ _ e, h1.2.2.2.1 k hk2, sgOf, sgOf]
    congr 1
    funext v x
    rw [hk k x e]
theorem img_ex {ta tb : Nat → Nat} {E : List (Nat × Nat × Nat)} {j x y : Nat} : ∀ k z, k ≠ j → imgOf ta tb (E ++ [(j, x, y)]) k z = imgOf ta tb E k z := fun k z hk => by
  rw [img_app, xst, if_neg (fun e => hk e.symm)]
theorem xst_fil {E : List (Nat × Nat × Nat)} {j k : Nat} (hk : k ≠ j) (z : Nat) : (E.filter (fun e => e.1 != j)).foldr (xst k) z = E.foldr (xst k) z := by
  induction E with
  | nil => rfl
  | cons e E ih =>
    by_cases h : e.1 = j
    · rw [List.filter_cons_of_neg (by simp [h]), List.foldr_cons, ih]
      rw [xst, if_neg (by omega)]
    · rw [List.filter_cons_of_pos (by simp [h]), List.foldr_cons, List.foldr_cons, ih]
theorem img_te {ta tb : Nat → Nat} {E : List (Nat × Nat × Nat)} {j a b : Nat} : ∀ k z, k ≠ j → imgOf (va_up ta j a) (va_up tb j b) (E.filter (fun e => e.1 != j)) k z = imgOf ta tb E k z := fun k z hk => by
  rw [imgOf, imgOf, va_up_ne _ _ hk, va_up_ne _ _ hk, xst_fil hk]
theorem ShM.tell {dd : Nat → DX} {HS : List Nat} {docs : List (Nat × List Nat)} {ta tb : Nat → Nat} {E : List (Nat × Nat × Nat)} {dL : Nat → List Nat} {j a b : Int32} (h : ShM dd HS docs ta tb E) (hd : DLs HS docs dL) : ShM (bif tellOk j a b then rnA dd j.toNatClampNeg (fun t => sgOf (teA ta j a b) (teB tb j a b) (teL E j a b) (dL t) j.toNatClampNeg) HS else dd) HS docs (teA ta j a b) (teB tb j a b) (teL E j a b) := by
  cases e : tellOk j a b with
  | false => rw [teA, teB, teL, e]; exact h
  | true =>
    rw [teA, teB, teL, e]
    exact h.img hd img_te
theorem ShM.exch {dd : Nat → DX} {HS : List Nat} {docs : List (Nat × List Nat)} {ta tb : Nat → Nat} {E : List (Nat × Nat × Nat)} {dL : Nat → List Nat} {j x y : Int32} (h : ShM dd HS docs ta tb E) (hd : DLs HS docs dL) : ShM (bif exOk j x y E.length then rnA dd j.toNatClampNeg (fun t => sgOf ta tb (exL E j x y) (dL t) j.toNatClampNeg) HS else dd) HS docs ta tb (exL E j x y) := by
  cases e : exOk j x y E.length with
  | false => rw [exL, e]; exact h
  | true =>
    rw [exL, e]
    exact h.img hd img_ex
/-- both sides of add -/
theorem adOk_C {so wi : Nat} {T : List Int32} {sh : List (List Int32)} {docs : List (Nat × List Nat)} {HS : List Nat} {ca : Nat} (hl : docs.length = HS.length) (h48 : HS.length ≤ 48) (h400 : ca ≤ 400) : adOk so wi T sh docs ca = adOkC so wi T sh HS ca := by
  rw [adOk, adOkC, runA_B, hl]
  by_cases h1 : HS.length = 48
  · simp [h1]
  · by_cases h2 : ca = 400
    · simp [h2]
    · have e1 : ¬ 48 ≤ HS.length := by omega
      have e2 : ¬ 400 ≤ ca := by omega
      simp [h1, h2, e1, e2]
theorem adS_C {so wi : Nat} {T : List Int32} {sh : List (List Int32)} {docs : List (Nat × List Nat)} {HS : List Nat} {ca : Nat} (hl : docs.length = HS.length) (h48 : HS.length ≤ 48) (h400 : ca ≤ 400) : adS so wi T sh docs ca = (bif adOkC so wi T sh HS ca then (runB sh (spanL so wi (plainOf T))).1 else sh) := by
  rw [adS, adOk_C hl h48 h400, runA_B]
theorem adD_C {so wi : Nat} {T : List Int32} {sh : List (List Int32)} {docs : List (Nat × List Nat)} {HS : List Nat} {ca : Nat} (hl : docs.length = HS.length) (h48 : HS.length ≤ 48) (h400 : ca ≤ 400) : adD so wi T sh docs ca = (bif adOkC so wi T sh HS ca then docs ++ [(ca, insL (runB sh (spanL so wi (plainOf T))).2.1)] else docs) := by
  rw [adD, adOk_C hl h48 h400, runA_B]
theorem insL_rise (A : List Nat) : Rise (insL A) := by
  refine Rise.pw.mpr ?_
  have key : ∀ (M F : List Nat), F.Pairwise (· < ·) → (M.foldl (fun F k => insS k F) F).Pairwise (· < ·) := by
    intro M
    induction M with
    | nil => intro F h; exact h
    | cons a M ih => intro F h; exact ih _ (insS_rise h)
  exact key A [] List.Pairwise.nil
end KEEP
