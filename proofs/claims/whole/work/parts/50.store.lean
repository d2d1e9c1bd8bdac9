/-- where pieces begin, and how many there are -/
def stt (so : Nat) (P : List Int32) (j : Nat) : Nat := if so = 0 then j else wst P j
def pcnt (so : Nat) (P : List Int32) : Nat := if so = 0 then P.length else wcnt P
def MP (so : Nat) (P : List Int32) (i v : Nat) : Prop := if so = 0 then v = i else ((i = 0 ∧ v = 0) ∨ (0 < i ∧ 0 < v ∧ i ≤ wst P v ∧ wst P (v - 1) < i))
theorem MP.start {so : Nat} {P : List Int32} : MP so P 0 0 := by
  unfold MP; split
  · rfl
  · exact Or.inl ⟨rfl, rfl⟩
theorem wst_ge {P : List Int32} : ∀ j, j ≤ wst P j
  | 0 => Nat.zero_le _
  | j + 1 => by have := wst_ge (P := P) j; have := wst_mono (P := P) (j := j); omega
theorem MP.le {so : Nat} {P : List Int32} {i v : Nat} (h : MP so P i v) : v ≤ i := by
  unfold MP at h; split at h
  · omega
  · rcases h with h | h
    · omega
    · have := wst_ge (P := P) (v - 1); omega
theorem MP.hit {so : Nat} {P : List Int32} {i v : Nat} (h : MP so P i v) (hi : i < P.length) (hc : so = 0 ∨ i = 0 ∨ ∃ h : i - 1 < P.length, P[i - 1] = 32) : stt so P v = i ∧ MP so P (i + 1) (v + 1) := by
  unfold MP at h; unfold stt MP
  by_cases e : so = 0
  · rw [if_pos e] at h
    rw [if_pos e, if_pos e]
    omega
  · rw [if_neg e] at h
    rw [if_neg e, if_neg e]
    rcases h with ⟨rfl, rfl⟩ | ⟨h1, h2, h3, h4⟩
    · refine ⟨rfl, Or.inr ⟨by omega, by omega, ?_, ?_⟩⟩
      · have := wst_ge (P := P) (0 + 1); omega
      · show wst P 0 < 0 + 1
        exact Nat.zero_lt_one
    · obtain ⟨w, rfl⟩ : ∃ w, v = w + 1 := ⟨v - 1, by omega⟩
      rw [Nat.add_sub_cancel] at h4
      have h3' : i ≤ nxB P (wst P w) + 1 := h3
      obtain ⟨h5, h6⟩ := hc.elim (fun h => absurd h e) (fun h => h.elim (fun h => absurd h (by omega)) id)
      have h7 := nxB_of (P := P) (a := wst P w) (g := i - 1) (by omega) (by omega) (Or.inr ⟨h5, h6⟩) (by omega)
      have h8 : wst P (w + 1) = i := by show nxB P (wst P w) + 1 = i; omega
      refine ⟨h8, Or.inr ⟨by omega, by omega, ?_, ?_⟩⟩
      · have := wst_mono (P := P) (j := w + 1); omega
      · rw [Nat.add_sub_cancel]; omega
theorem MP.miss {so : Nat} {P : List Int32} {i v : Nat} (h : MP so P i v) (hi : i < P.length) (hs : 0 < so) (h0 : 0 < i) (hc : ∀ h : i - 1 < P.length, ¬ P[i - 1] = 32) : MP so P (i + 1) v := by
  unfold MP at h ⊢
  rw [if_neg (by omega)] at h ⊢
  rcases h with h | ⟨h1, h2, h3, h4⟩
  · omega
  · obtain ⟨w, rfl⟩ : ∃ w, v = w + 1 := ⟨v - 1, by omega⟩
    rw [Nat.add_sub_cancel] at h4
    have h3' : i ≤ nxB P (wst P w) + 1 := h3
    have h7 := nxB_step (P := P) (a := wst P w) (g := i - 1) (by omega) (by omega) (hc (by omega))
    refine Or.inr ⟨by omega, by omega, ?_, by rw [Nat.add_sub_cancel]; omega⟩
    show i + 1 ≤ nxB P (wst P w) + 1
    omega
theorem MP.done {so : Nat} {P : List Int32} {i v : Nat} (hl : LastOK P) (h : MP so P i v) (hi : i = P.length) : v = pcnt so P := by
  unfold MP at h; unfold pcnt
  by_cases e : so = 0
  · rw [if_pos e] at h
    rw [if_pos e]
    omega
  · rw [if_neg e] at h
    rw [if_neg e]
    rcases h with ⟨h1, h2⟩ | ⟨h1, h2, h3, h4⟩
    · rw [wcnt, if_pos (by omega)]; exact h2
    · have h5 := wst_in (P := P) (j := v - 1) (by omega)
      have h6 := (wst_out hl (j := v) (by omega)).1
      omega
theorem span_len {so wi : Nat} {P : List Int32} : (spanL so wi P).length = pcnt so P + 1 - wi := by
  unfold pcnt
  by_cases e : so = 0
  · rw [span0_len' e, if_pos e]
  · rw [span1_len (by omega), if_neg e]
theorem span_get {so wi i : Nat} {P : List Int32} (hs : so ≤ 1) (hi : i < (spanL so wi P).length) : (spanL so wi P)[i] = slL P (stt so P i) (stt so P (i + wi) - so) := by
  unfold stt
  by_cases e : so = 0
  · rw [span0_get' e, if_pos e, if_pos e, e]; rfl
  · rw [span1_get (by omega), if_neg e, if_neg e, show so = 1 by omega]
/-- the first seat of a text -/
def hzS (TX : List Int32) : Int32 := TX.foldl (fun h x => h * nI 31 + x) 0
def hsI (z : Int32) : Int32 := (z ^^^ ((z.toUInt32 >>> ((nI 14).toUInt32 &&& Int32.toUInt32 31)).toInt32)) &&& nI 16383
def haS (TX : List Int32) : Nat := (hsI (hzS TX)).toBitVec.toNat
theorem nI_of_bv {x : Int32} : nI x.toBitVec.toNat = x := by
  apply Int32.toBitVec_inj.mp
  show BitVec.ofNat 32 x.toBitVec.toNat = x.toBitVec
  simp
theorem hS_nI (TX : List Int32) : hsI (hzS TX) = nI (haS TX) := nI_of_bv.symm
theorem hS_lt (TX : List Int32) : haS TX < 16384 := by
  unfold haS hsI
  rw [Int32.toBitVec_and, BitVec.toNat_and]
  have : (nI 16383).toBitVec.toNat = 16383 := by decide
  rw [this]
  exact Nat.lt_of_le_of_lt Nat.and_le_right (by decide)
theorem nI_and {a : Nat} (h : a < 2 ^ 31) : nI a &&& nI 16383 = nI (a % 16384) := by
  apply Int32.toBitVec_inj.mp
  rw [Int32.toBitVec_and]
  show BitVec.ofNat 32 a &&& BitVec.ofNat 32 16383 = BitVec.ofNat 32 (a % 16384)
  apply BitVec.eq_of_toNat_eq
  rw [BitVec.toNat_and, BitVec.toNat_ofNat, BitVec.toNat_ofNat, BitVec.toNat_ofNat, Nat.mod_eq_of_lt (by omega), Nat.mod_eq_of_lt (show 16383 < 2 ^ 32 by decide), Nat.mod_eq_of_lt (show a % 16384 < 2 ^ 32 by omega)]
  exact Nat.and_two_pow_sub_one_eq_mod a 14
/-- what the store's rows hold: letters, where each begins, seats; a number's seat lies behind seats of smaller numbers -/
def StC (sh : List (List Int32)) (lf : Nat → Int32) (bf sf se : Nat → Nat) : Prop :=
  Hd lf sh.flatten ∧ (∀ i, i ≤ sh.length → bf i = ofs sh i) ∧ (∀ i, i < sh.length → sf i < 16384 ∧ se (sf i) = i + 1) ∧
  (∀ q, q < 16384 → se q = 0 ∨ ∃ i, i < sh.length ∧ se q = i + 1 ∧ sf i = q) ∧
  (∀ i (hi : i < sh.length), ∃ v, v < 16384 ∧ sf i = (haS sh[i] + v) % 16384 ∧ ∀ w, w < v → ∃ k, k < i ∧ sf k = (haS sh[i] + w) % 16384) ∧ sh.Nodup
theorem StC.zero {lf : Nat → Int32} : StC [] lf (fun _ => 0) (fun _ => 0) (fun _ => 0) :=
  ⟨Hd.nil, fun i hi => by simp [ofs], fun i hi => absurd hi (Nat.not_lt_zero i), fun q _ => Or.inl rfl, fun i hi => absurd hi (Nat.not_lt_zero i), List.nodup_nil⟩
/-- on the way of a search: the seats so far hold other texts -/
def Srch (sh : List (List Int32)) (se : Nat → Nat) (TX : List Int32) (st : Nat) : Prop := ∀ w, w < st → ∃ k, ∃ hk : k < sh.length, se ((haS TX + w) % 16384) = k + 1 ∧ ¬ sh[k] = TX
theorem Srch.none {sh : List (List Int32)} {lf : Nat → Int32} {bf sf se : Nat → Nat} {TX : List Int32} {st : Nat} (h : StC sh lf bf sf se) (hs : Srch sh se TX st) (h0 : se ((haS TX + st) % 16384) = 0) : idxO sh TX = none := by
  refine idxO_none (fun i hi e => ?_)
  obtain ⟨v, hv, hsf, hw⟩ := h.2.2.2.2.1 i hi
  rw [e] at hsf hw
  have h3 := (h.2.2.1 i hi).2
  by_cases h1 : st < v
  · obtain ⟨k, hk, hk2⟩ := hw st h1
    have := (h.2.2.1 k (by omega)).2
    rw [hk2, h0] at this
    omega
  · by_cases h2 : st = v
    · rw [hsf, ← h2, h0] at h3
      omega
    · obtain ⟨k, hk, hk2, hk3⟩ := hs v (by omega)
      rw [← hsf, h3] at hk2
      have e2 : k = i := by omega
      subst e2
      exact hk3 e
theorem idxO_nd {sh : List (List Int32)} {TX : List Int32} {k : Nat} (hn : sh.Nodup) (hk : k < sh.length) (h : sh[k] = TX) : idxO sh TX = some k := by
  refine idxO_some hk h (fun q hq hqk e => ?_)
  have := (List.pairwise_iff_getElem.mp hn) q k hq hk hqk
  exact this (e.trans h.symm)
theorem all_in : ∀ (n : Nat) (L : List Nat), (∀ q, q < n → q ∈ L) → n ≤ L.length
  | 0, _, _ => Nat.zero_le _
  | n + 1, L, h => by
    have h1 := all_in n (L.erase n) (fun q hq => (List.mem_erase_of_ne (by omega)).mpr (h q (by omega)))
    rw [List.length_erase_of_mem (h n (by omega))] at h1
    have := List.length_pos_of_mem (h n (by omega))
    omega
theorem Srch.full {sh : List (List Int32)} {lf : Nat → Int32} {bf sf se : Nat → Nat} {TX : List Int32} (h : StC sh lf bf sf se) (hs : Srch sh se TX 16384) (hn : sh.length ≤ 6000) : False := by
  have h1 := all_in 16384 ((List.range sh.length).map sf) (fun q hq => ?_)
  · rw [List.length_map, List.length_range] at h1; omega
  · have hw := hS_lt TX
    obtain ⟨k, hk, hk2, -⟩ := hs ((q + 16384 - haS TX) % 16384) (Nat.mod_lt _ (by decide))
    have e : (haS TX + (q + 16384 - haS TX) % 16384) % 16384 = q := by omega
    rw [e] at hk2
    rcases h.2.2.2.1 q hq with h9 | ⟨i, hi, h8, h9⟩
    · omega
    · exact List.mem_map.mpr ⟨i, List.mem_range.mpr hi, h9⟩
theorem StC.app {sh : List (List Int32)} {lf fp : Nat → Int32} {bf sf se : Nat → Nat} {TX : List Int32} {at_ st : Nat} (h : StC sh lf bf sf se) (hT : ∀ t (ht : t < TX.length), fp (at_ + t) = TX[t]) (hs : Srch sh se TX st) (hst : st < 16384) (h0 : se ((haS TX + st) % 16384) = 0) :
    StC (sh ++ [TX]) (cpB lf fp sh.flatten.length at_ TX.length) (va_up bf (sh.length + 1) (sh.flatten.length + TX.length)) (va_up sf sh.length ((haS TX + st) % 16384)) (va_up se ((haS TX + st) % 16384) (sh.length + 1)) := by
  have hid := hs.none h h0
  have hne : ∀ i, i < sh.length → sf i ≠ (haS TX + st) % 16384 := fun i hi e => by
    have := (h.2.2.1 i hi).2
    rw [e, h0] at this
    omega
  refine ⟨?_, fun i hi => ?_, fun i hi => ?_, fun q hq => ?_, fun i hi => ?_, ?_⟩
  · have hfl : (sh ++ [TX]).flatten = sh.flatten ++ TX := by simp
    rw [hfl]
    intro q hq
    rw [List.length_append] at hq
    by_cases h1 : q < sh.flatten.length
    · rw [cpB, if_neg (by omega), h.1 q h1, List.getD_eq_getElem?_getD, List.getD_eq_getElem?_getD, List.getElem?_append_left h1]
    · rw [cpB, if_pos (by omega), hT (q - sh.flatten.length) (by omega), List.getD_eq_getElem?_getD, List.getElem?_append_right (by omega), List.getElem?_eq_getElem (by omega), Option.getD_some]
  · rw [List.length_append, List.length_singleton] at hi
    by_cases e : i = sh.length + 1
    · subst e
      rw [va_up_self, ofs, List.take_of_length_le (by simp)]; simp
    · rw [va_up_ne _ _ e, h.2.1 i (by omega), ofs, ofs, List.take_append_of_le_length (by omega)]
  · rw [List.length_append, List.length_singleton] at hi
    by_cases e : i = sh.length
    · subst e
      rw [va_up_self, va_up_self]
      exact ⟨Nat.mod_lt _ (by decide), rfl⟩
    · rw [va_up_ne _ _ e, va_up_ne _ _ (hne i (by omega))]
      exact h.2.2.1 i (by omega)
  · by_cases e : q = (haS TX + st) % 16384
    · subst e
      exact Or.inr ⟨sh.length, by rw [List.length_append]; simp, va_up_self _ _ _, va_up_self _ _ _⟩
    · rw [va_up_ne _ _ e]
      rcases h.2.2.2.1 q hq with h1 | ⟨i, hi, h1, h2⟩
      · exact Or.inl h1
      · exact Or.inr ⟨i, by rw [List.length_append]; omega, h1, by rw [va_up_ne _ _ (by omega)]; exact h2⟩
  · rw [List.length_append, List.length_singleton] at hi
    by_cases e : i = sh.length
    · subst e
      rw [show (sh ++ [TX])[sh.length] = TX from by simp]
      refine ⟨st, hst, va_up_self _ _ _, fun w hw => ?_⟩
      obtain ⟨k, hk, hk2, -⟩ := hs w hw
      have hq : (haS TX + w) % 16384 < 16384 := Nat.mod_lt _ (by decide)
      rcases h.2.2.2.1 _ hq with h1 | ⟨j, hj, h1, h2⟩
      · omega
      · exact ⟨j, hj, by rw [va_up_ne _ _ (by omega)]; exact h2⟩
    · rw [List.getElem_append_left (by omega)]
      obtain ⟨v, hv, h1, h2⟩ := h.2.2.2.2.1 i (by omega)
      refine ⟨v, hv, by rw [va_up_ne _ _ e]; exact h1, fun w hw => ?_⟩
      obtain ⟨k, hk, hk2⟩ := h2 w hw
      exact ⟨k, hk, by rw [va_up_ne _ _ (by omega)]; exact hk2⟩
  · refine List.nodup_append.mpr ⟨h.2.2.2.2.2, by simp, fun a ha b hb => ?_⟩
    rw [List.mem_singleton.mp hb]
    intro e
    subst e
    rw [idxO, List.findIdx?_eq_none_iff] at hid
    have := hid a ha
    simp at this
theorem StC.pop {sh : List (List Int32)} {lf : Nat → Int32} {bf sf se : Nat → Nat} {g : Nat} (hg : g < sh.length) (h : StC (sh.take (g + 1)) lf bf sf se) : StC (sh.take g) lf bf sf (va_up se (sf g) 0) := by
  have hl : (sh.take (g + 1)).length = g + 1 := by rw [List.length_take]; omega
  have hl2 : (sh.take g).length = g := by rw [List.length_take]; omega
  have htt : sh.take g = (sh.take (g + 1)).take g := by rw [List.take_take, Nat.min_eq_left (by omega)]
  have hsg := (h.2.2.1 g (by omega)).2
  have hne : ∀ i, i < g → sf i ≠ sf g := fun i hi e => by
    have := (h.2.2.1 i (by omega)).2
    rw [e, hsg] at this
    omega
  refine ⟨?_, fun i hi => ?_, fun i hi => ?_, fun q hq => ?_, fun i hi => ?_, ?_⟩
  · have h1 := h.1
    rw [show sh.take (g + 1) = sh.take g ++ [sh[g]] from by rw [List.take_add_one, List.getElem?_eq_getElem hg]; rfl, List.flatten_append] at h1
    exact h1.pre
  · rw [hl2] at hi
    rw [h.2.1 i (by omega), ofs, ofs, List.take_take, List.take_take, Nat.min_eq_left (by omega), Nat.min_eq_left (by omega)]
  · rw [hl2] at hi
    rw [va_up_ne _ _ (hne i hi)]
    exact h.2.2.1 i (by omega)
  · by_cases e : q = sf g
    · subst e; exact Or.inl (va_up_self _ _ _)
    · rw [va_up_ne _ _ e]
      rcases h.2.2.2.1 q hq with h1 | ⟨i, hi, h1, h2⟩
      · exact Or.inl h1
      · rw [hl] at hi
        by_cases e2 : i = g
        · subst e2; exact absurd h2.symm e
        · exact Or.inr ⟨i, by omega, h1, h2⟩
  · rw [hl2] at hi
    obtain ⟨v, hv, h1, h2⟩ := h.2.2.2.2.1 i (by omega)
    simp only [List.getElem_take] at h1 h2 ⊢
    exact ⟨v, hv, h1, h2⟩
  · rw [htt]; exact h.2.2.2.2.2.sublist (List.take_sublist _ _)
def numR (sh : List (List Int32)) (TX : List Int32) : Int32 := bif cmOk sh TX then nI (cmK sh TX) else -1
theorem StC.letter {sh : List (List Int32)} {lf : Nat → Int32} {bf sf se : Nat → Nat} (h : StC sh lf bf sf se) {i t : Nat} (hi : i < sh.length) (ht : t < sh[i].length) : lf (bf i + t) = sh[i][t] := by
  have h1 := ofs_get hi ht
  rw [h.2.1 i (by omega), h.1.at h1.1, h1.2]
theorem hz_take {TX : List Int32} {i : Nat} (hi : i < TX.length) : hzS (TX.take (i + 1)) = hzS (TX.take i) * nI 31 + TX[i] := by
  unfold hzS
  rw [List.take_add_one, List.getElem?_eq_getElem hi, List.foldl_append]; rfl
theorem gLd {sh : List (List Int32)} {k : Nat} (h : k < sh.length) : sh.getD k [] = sh[k] := by
  rw [List.getD_eq_getElem?_getD, List.getElem?_eq_getElem h, Option.getD_some]
theorem m1_lt {k : Nat} (h : k < 2 ^ 31) : (-1 : Int32) < nI k := by
  rw [Int32.lt_iff_toInt_lt, nI_toInt h]
  show (-1 : Int) < k
  omega
