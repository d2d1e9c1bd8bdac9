section SHM
theorem comm_cnt {A B : List Nat} (hA : A.Nodup) (hb : ∀ x ∈ A, x < 6016) : comm A B = cntB (fun q => A.contains q && B.contains q) 6016 := (cnt_comm (q := fun q => B.contains q) hA hb).symm
theorem comm_symm {A B : List Nat} (hA : A.Nodup) (hB : B.Nodup) (ha : ∀ x ∈ A, x < 6016) (hb : ∀ x ∈ B, x < 6016) : comm A B = comm B A := by
  rw [comm_cnt hA ha, comm_cnt hB hb]
  exact cntB_cong (fun k _ => Bool.and_comm _ _)
theorem Rise.nd {L : List Nat} (h : Rise L) : L.Nodup := pw_nd (Rise.pw.mp h)
theorem agr_symm (f g : Nat → Nat) (a r : Nat) : agr f g a r = agr g f a r := by
  unfold agr
  congr 1
  funext k
  by_cases h : f (a + k) = g (a + k)
  · rw [h]
  · have h1 : (f (a + k) == g (a + k)) = false := by simpa using h
    have h2 : (g (a + k) == f (a + k)) = false := by simpa using (fun e => h e.symm)
    rw [h1, h2]
theorem bandF_symm (zx zy : Nat) (f g : Nat → Nat) (r b : Nat) : bandF zx zy f g r b = bandF zy zx g f r b := by
  unfold bandF
  by_cases h : zx = 0 ∨ zy = 0
  · rw [if_pos h, if_pos h.symm]
  · rw [if_neg h, if_neg (fun h9 => h h9.symm)]
    unfold fstB
    congr 1
    funext q
    exact agr_symm f g _ _
theorem bandF_cong {zx zy : Nat} {f g f2 g2 : Nat → Nat} {r b : Nat} (hbr : b * r ≤ 64) (h : ∀ k, k < 64 → f k = f2 k ∧ g k = g2 k) : bandF zx zy f g r b = bandF zx zy f2 g2 r b := by
  unfold bandF
  by_cases h9 : zx = 0 ∨ zy = 0
  · rw [if_pos h9, if_pos h9]
  · rw [if_neg h9, if_neg h9]
    have key : ∀ q, q < b → agr f g (q * r) r = agr f2 g2 (q * r) r := fun q hq => agr_cong (fun k hk => h _ (by have := fb_m hbr hq; omega))
    rcases h1 : fstB f2 g2 r b with _ | q
    · refine fstB_none (fun j hj => ?_)
      rw [key j hj]
      have h2 := List.find?_eq_none.mp h1 j (List.mem_range.mpr hj)
      simpa using h2
    · rw [fstB, List.find?_range_eq_some] at h1
      have hq := List.mem_range.mp h1.2.1
      refine fstB_some hq (by rw [key q hq]; exact h1.1) (fun j hj => ?_)
      rw [key j (by omega)]
      have h2 := h1.2.2 j hj
      simpa using h2
theorem docs_row {docs : List (Nat × List Nat)} (h : Dsm docs) (x : Nat) : (docs.getD x (0, [])).2.Nodup ∧ (∀ q ∈ (docs.getD x (0, [])).2, q < 6016) := by
  by_cases hx : x < docs.length
  · rw [gD_at hx]
    have h1 := h docs[x] (List.getElem_mem _)
    exact ⟨h1.2.2.1.nd, fun q hq => by have := h1.2.2.2 q hq; omega⟩
  · have e : docs.getD x (0, []) = (0, []) := by
      rw [List.getD_eq_getElem?_getD, List.getElem?_eq_none (by omega)]; rfl
    rw [e]
    exact ⟨List.nodup_nil, fun q hq => absurd hq (by simp)⟩
theorem cmM_symm {docs : List (Nat × List Nat)} (h : Dsm docs) (x y : Nat) : cmM docs x y = cmM docs y x := comm_symm (docs_row h x).1 (docs_row h y).1 (docs_row h x).2 (docs_row h y).2
theorem twM_symm {ta tb : Nat → Nat} {E : List (Nat × Nat × Nat)} {docs : List (Nat × List Nat)} (h : Dsm docs) (rr bb pp qq x y : Nat) : twM ta tb E docs rr bb pp qq x y = twM ta tb E docs rr bb pp qq y x := by
  rw [twM, twM, bdM, bdM, bandF_symm, alM, alM, cmM_symm h x y, Nat.add_comm]
/-- the shelf's rows and the documents -/
def ShM (dd : Nat → DX) (HS : List Nat) (docs : List (Nat × List Nat)) (ta tb : Nat → Nat) (E : List (Nat × Nat × Nat)) : Prop :=
  docs.length = HS.length ∧ ∀ i t, HS[i]? = some t → (dd t).2.2.1.1 = (docs.getD i (0, [])).1 ∧ DOk (dd t) (docs.getD i (0, [])).2 ∧ SetB (dd t).2.2.2.1 (fun q => (docs.getD i (0, [])).2.contains q) ∧ (∀ j, j < 64 → (dd t).2.2.2.2.2.1 j = sgOf ta tb E (docs.getD i (0, [])).2 j) ∧ ∀ k u, HS[k]? = some u → (dd t).2.2.2.2.2.2 u = cmM docs i k
theorem ShM.num {dd : Nat → DX} {HS : List Nat} {docs : List (Nat × List Nat)} {ta tb : Nat → Nat} {E : List (Nat × Nat × Nat)} (h : ShM dd HS docs ta tb E) : HS.map (fun t => (dd t).2.2.1.1) = docs.map (fun d => d.1) := by
  apply List.ext_getElem?
  intro i
  rw [List.getElem?_map, List.getElem?_map]
  by_cases hi : i < HS.length
  · have h1 := h.2 i HS[i] (List.getElem?_eq_getElem hi)
    have hd : i < docs.length := by rw [h.1]; exact hi
    rw [List.getElem?_eq_getElem hi, List.getElem?_eq_getElem hd]
    show some (dd HS[i]).2.2.1.1 = some docs[i].1
    rw [h1.1, gD_at hd]
  · rw [List.getElem?_eq_none (by omega), List.getElem?_eq_none (by rw [h.1]; omega)]; rfl
theorem ShM.bd {dd : Nat → DX} {HS : List Nat} {docs : List (Nat × List Nat)} {ta tb : Nat → Nat} {E : List (Nat × Nat × Nat)} (h : ShM dd HS docs ta tb E) {rr bb x y : Nat} (hbr : bb * rr ≤ 64) (hx : x < HS.length) (hy : y < HS.length) : bdR dd rr bb (HS.getD x 0) (HS.getD y 0) = bdM ta tb E docs rr bb x y := by
  have ex := List.getElem?_eq_getElem hx
  have ey := List.getElem?_eq_getElem hy
  have h1 := h.2 x _ ex
  have h2 := h.2 y _ ey
  rw [getD_at ex, getD_at ey, bdR, bdM, h1.2.1.1, h2.2.1.1]
  exact bandF_cong hbr (fun k hk => ⟨h1.2.2.2.1 k hk, h2.2.2.2.1 k hk⟩)
theorem ShM.tw {dd : Nat → DX} {HS : List Nat} {docs : List (Nat × List Nat)} {ta tb : Nat → Nat} {E : List (Nat × Nat × Nat)} (h : ShM dd HS docs ta tb E) {rr bb pp qq x y : Nat} (hbr : bb * rr ≤ 64) (hx : x < HS.length) (hy : y < HS.length) : twH dd HS rr bb pp qq x y = twM ta tb E docs rr bb pp qq x y := by
  have ex := List.getElem?_eq_getElem hx
  have ey := List.getElem?_eq_getElem hy
  have h1 := h.2 x _ ex
  have h2 := h.2 y _ ey
  have hb := h.bd (rr := rr) (bb := bb) hbr hx hy
  rw [twH, twR, hb, getD_at ex, getD_at ey, h1.2.2.2.2 y _ ey, h1.2.1.1, h2.2.1.1]; rfl
theorem ShM.row {dd : Nat → DX} {HS : List Nat} {docs : List (Nat × List Nat)} {ta tb : Nat → Nat} {E : List (Nat × Nat × Nat)} (h : ShM dd HS docs ta tb E) : RowOK dd HS := fun t ht => by
  obtain ⟨i, hi, rfl⟩ := List.mem_iff_getElem.mp ht
  have h1 := h.2 i _ (List.getElem?_eq_getElem hi)
  refine ⟨by rw [h1.2.1.1]; exact h1.2.1.2.2.1, fun k hk => ?_, fun u hu => ?_⟩
  · rw [h1.2.2.2.1 k hk]
    exact Nat.lt_of_le_of_lt (sg_le _ _) (by decide)
  · obtain ⟨k, hk, rfl⟩ := List.mem_iff_getElem.mp hu
    rw [h1.2.2.2.2 k _ (List.getElem?_eq_getElem hk), h1.2.1.1]
    exact comm_le' _ _
theorem prO_cong {f g : Nat → Nat → Bool} {n : Nat} (h : ∀ x y, x < n → y < n → f x y = g x y) : ∀ x, x ≤ n → prO f n x = prO g n x
  | 0, _ => rfl
  | x + 1, hx => by
    have hI : ∀ t, t ≤ n → prI f x t = prI g x t := by
      intro t
      induction t with
      | zero => intro _; rfl
      | succ t ih => intro ht; rw [prI, prI, ih (by omega), h x t (by omega) (by omega)]
    rw [prO, prO, prO_cong h x (by omega), hI n (Nat.le_refl _)]
end SHM
