theorem sub6 {L i : Nat} (hL : L ≤ 3072) (hi : i ≤ 3072) : (nI L - nI 6 < nI i) ↔ L < i + 6 := by
  by_cases h : 6 ≤ L
  · rw [pk_sub h, nI_ltI (by omega) (by omega)]; omega
  · have h1 : nI L - nI 6 < nI 0 := by
      rcases (show L = 0 ∨ L = 1 ∨ L = 2 ∨ L = 3 ∨ L = 4 ∨ L = 5 by omega) with rfl | rfl | rfl | rfl | rfl | rfl <;> decide
    have h2 : nI 0 ≤ nI i := (nI_leI (by decide) (by omega)).mpr (Nat.zero_le _)
    exact ⟨fun _ => by omega, fun _ => Int32.lt_of_lt_of_le h1 h2⟩
theorem and31 (x : Int32) : ∃ j : Nat, j < 32 ∧ x &&& 31 = nI j := by
  refine ⟨(x &&& 31).toBitVec.toNat, ?_, nI_of_bv.symm⟩
  rw [Int32.toBitVec_and, BitVec.toNat_and]
  have : (31 : Int32).toBitVec.toNat = 31 := by decide
  rw [this]
  exact Nat.lt_of_le_of_lt Nat.and_le_right (by decide)
set_option maxHeartbeats 8000000 in
set_option maxRecDepth 100000 in
theorem law_loop {p : Program} {l : Launch} {e : Env} {s : State} {m : MethodId} {below : List Frame} {meth : Method} {c : Code} {b L : Nat} {xs : Nat → Int32} {D : va_G} {cB cI cJ cO : ClassId} {ad mi z0 m0 o0 : Nat} (C : LC p l s m meth c b L xs D cB cI cJ cO ad mi) (hL : L ≤ 3072) : ∀ (n k : Nat), L < 6 * (k + n) + 6 → 6 * k ≤ L → ∀ (ws : va_W) (H : Heap) (locs : List Loc) (ls : Array Slot), LwI cB cI cJ cO ad z0 m0 o0 ws → va_P D vwCl ws H → va_D (fun q : Nat => s.heap.size ≤ q) ws → va_S (fun q : Nat => s.heap.size ≤ q) s.heap H locs → lv_has ls 7 [(0, .ref b), (1, .ref z0), (2, .ref m0), (3, .ref o0), (4, .int (nI (6 * k)))] → W p l e room_1 s m #[Value.ref b] below meth c H locs (51 + 50 * k) (197220 + 2400 * k) (lw_Z below #[Value.ref b] s) (F0 m 23 ls []) := by
  obtain ⟨hx, hb, hr, hml, hown, hts, hX, hbl, hlocks, hlt, hK, hXT⟩ := id C
  have hbA : ¬ (fun q : Nat => s.heap.size ≤ q) b := Nat.not_le.mpr hbl
  intro n
  induction n with
  | zero =>
    intro k hn hk ws H locs ls hI hP hD hS hl
    refine lv_iload hx hb dL_law_23 (lv_at hl 4 rfl) ?_
    refine lv_aload_n hx hb dL_law_25 rfl (lv_at hl 0 rfl) ?_
    refine va_slen hx hb hX hbl hbA hS dL_law_26 ?_
    refine lv_bipush (v := nI 6) hx hb dL_law_27 (by decide) ?_
    refine lv_isub hx hb dL_law_29 ?_
    refine lv_icmp_gt (tgt := 1039) hx hb dL_law_30 (by decide) (fun _ => ?_) (fun h9 => absurd ((sub6 hL (by omega)).mpr (by omega)) h9)
    refine lv_iconst (v := 1) hx hb dL_law_1039 (by decide) ?_
    refine va_forget (fun q hq => hS.2.2 q hq) ?_
    refine W.widen (k := 601024) (n := 7293034) (by omega) (by omega) ?_
    exact lw_ret hx hb hr hlocks dL_law_1040
  | succ n ih =>
    intro k hn hk ws H locs ls hI hP hD hS hl
    refine lv_iload hx hb dL_law_23 (lv_at hl 4 rfl) ?_
    refine lv_aload_n hx hb dL_law_25 rfl (lv_at hl 0 rfl) ?_
    refine va_slen hx hb hX hbl hbA hS dL_law_26 ?_
    refine lv_bipush (v := nI 6) hx hb dL_law_27 (by decide) ?_
    refine lv_isub hx hb dL_law_29 ?_
    refine lv_icmp_gt (tgt := 1039) hx hb dL_law_30 (by decide) (fun _ => ?_) (fun h9 => ?_)
    · refine lv_iconst (v := 1) hx hb dL_law_1039 (by decide) ?_
      refine va_forget (fun q hq => hS.2.2 q hq) ?_
      refine W.widen (k := 601024) (n := 7293034) (by omega) (by omega) ?_
      exact lw_ret hx hb hr hlocks dL_law_1040
    have hi : 6 * k + 6 ≤ L := by
      rcases Nat.lt_or_ge L (6 * k + 6) with h8 | h8
      · exact absurd ((sub6 hL (by omega)).mpr h8) h9
      · exact h8
    have hG : LGo p l e s m below meth c b D cB cI cJ cO ad z0 m0 o0 (6 * k) (51 + 50 * k + 50) (197220 + 2400 * k + 2400) := by
      intro ws H locs ls hI hP hD hS hl
      refine lv_iinc (v := nI (6 * (k + 1))) (lv' := [(4, .int (nI (6 * (k + 1)))), (0, .ref b), (1, .ref z0), (2, .ref m0), (3, .ref o0)]) hx hb dL_law_1033 hl (k := 4) rfl (nx_inc (6 * k) 6) (by decide) rfl (fun ls hl => ?_)
      refine lv_goto (tgt := 23) hx hb dL_law_1036 (by decide) ?_
      refine W.widen (k := 51 + 50 * (k + 1)) (n := 197220 + 2400 * (k + 1)) (by omega) (by omega) ?_
      exact ih (k + 1) (by omega) (by omega) ws H locs ls hI hP hD hS (lv_sub hl [1, 2, 3, 4, 0] rfl)
    refine lv_aload_n hx hb dL_law_33 rfl (lv_at hl 0 rfl) ?_
    refine lv_iload hx hb dL_law_34 (lv_at hl 4 rfl) ?_
    refine va_sld hx hb hX hbl hbA hS (vp_in_nI (by omega) (by omega)) dL_law_36 ?_
    refine lv_bipush (v := 31) hx hb dL_law_37 (by decide) ?_
    refine lv_iand hx hb dL_law_39 ?_
    obtain ⟨j, hj, ej⟩ := and31 (xs (nI (6 * k)).toNatClampNeg)
    rw [ej]
    have hc : 51 + 50 * k + 50 ≤ 601024 := by omega
    have hs : 197220 + 2400 * k + 2400 ≤ 7293034 := by omega
    rcases Nat.lt_or_ge j 19 with h19 | h19
    · rcases (show j = 0 ∨ j = 1 ∨ j = 2 ∨ j = 3 ∨ j = 4 ∨ j = 5 ∨ j = 6 ∨ j = 7 ∨ j = 8 ∨ j = 9 ∨ j = 10 ∨ j = 11 ∨ j = 12 ∨ j = 13 ∨ j = 14 ∨ j = 15 ∨ j = 16 ∨ j = 17 ∨ j = 18 by omega) with rfl | rfl | rfl | rfl | rfl | rfl | rfl | rfl | rfl | rfl | rfl | rfl | rfl | rfl | rfl | rfl | rfl | rfl | rfl
      · exact lv_tableIn (off := 92) (tgt := 132) hx hb dL_law_40 (by decide) (by decide) (by decide) (by decide) (lk_feed C hL hi hc hs hG hI hP hD hS hl)
      · exact lv_tableIn (off := 165) (tgt := 205) hx hb dL_law_40 (by decide) (by decide) (by decide) (by decide) (lk_end C hL hi hc hs hG hI hP hD hS hl)
      · exact lv_tableIn (off := 190) (tgt := 230) hx hb dL_law_40 (by decide) (by decide) (by decide) (by decide) (lk_add C hL hi hc hs hG hI hP hD hS hl)
      · exact lv_tableIn (off := 203) (tgt := 243) hx hb dL_law_40 (by decide) (by decide) (by decide) (by decide) (lk_remove C hL hi hc hs hG hI hP hD hS hl)
      · exact lv_tableIn (off := 228) (tgt := 268) hx hb dL_law_40 (by decide) (by decide) (by decide) (by decide) (lk_mode C hL hi hc hs hG hI hP hD hS hl)
      · exact lv_tableIn (off := 296) (tgt := 336) hx hb dL_law_40 (by decide) (by decide) (by decide) (by decide) (lk_tell C hL hi hc hs hG hI hP hD hS hl)
      · exact lv_tableIn (off := 345) (tgt := 385) hx hb dL_law_40 (by decide) (by decide) (by decide) (by decide) (lk_exchange C hL hi hc hs hG hI hP hD hS hl)
      · exact lv_tableIn (off := 394) (tgt := 434) hx hb dL_law_40 (by decide) (by decide) (by decide) (by decide) (lk_image C hL hi hc hs hG hI hP hD hS hl)
      · exact lv_tableIn (off := 431) (tgt := 471) hx hb dL_law_40 (by decide) (by decide) (by decide) (by decide) (lk_bands C hL hi hc hs hG hI hP hD hS hl)
      · exact lv_tableIn (off := 468) (tgt := 508) hx hb dL_law_40 (by decide) (by decide) (by decide) (by decide) (lk_threshold C hL hi hc hs hG hI hP hD hS hl)
      · exact lv_tableIn (off := 505) (tgt := 545) hx hb dL_law_40 (by decide) (by decide) (by decide) (by decide) (lk_document C hL hi hc hs hG hI hP hD hS hl)
      · exact lv_tableIn (off := 573) (tgt := 613) hx hb dL_law_40 (by decide) (by decide) (by decide) (by decide) (lk_shingle C hL hi hc hs hG hI hP hD hS hl)
      · exact lv_tableIn (off := 641) (tgt := 681) hx hb dL_law_40 (by decide) (by decide) (by decide) (by decide) (lk_letter C hL hi hc hs hG hI hP hD hS hl)
      · exact lv_tableIn (off := 678) (tgt := 718) hx hb dL_law_40 (by decide) (by decide) (by decide) (by decide) (lk_signature C hL hi hc hs hG hI hP hD hS hl)
      · exact lv_tableIn (off := 746) (tgt := 786) hx hb dL_law_40 (by decide) (by decide) (by decide) (by decide) (lk_both C hL hi hc hs hG hI hP hD hS hl)
      · exact lv_tableIn (off := 826) (tgt := 866) hx hb dL_law_40 (by decide) (by decide) (by decide) (by decide) (lk_pairs C hL hi hc hs hG hI hP hD hS hl)
      · exact lv_tableIn (off := 851) (tgt := 891) hx hb dL_law_40 (by decide) (by decide) (by decide) (by decide) (lk_pair C hL hi hc hs hG hI hP hD hS hl)
      · exact lv_tableIn (off := 900) (tgt := 940) hx hb dL_law_40 (by decide) (by decide) (by decide) (by decide) (lk_nearest C hL hi hc hs hG hI hP hD hS hl)
      · exact lv_tableIn (off := 968) (tgt := 1008) hx hb dL_law_40 (by decide) (by decide) (by decide) (by decide) (lk_count C hL hi hc hs hG hI hP hD hS hl)
    · refine lv_tableOut (tgt := 1033) hx hb dL_law_40 (Or.inr ?_) (by decide) ?_
      · rw [nI_toInt (by omega)]; omega
      · exact W.widen (k := 51 + 50 * k + 50) (n := 197220 + 2400 * k + 2400) (by omega) (by omega) (hG ws H locs ls hI hP hD hS hl)
