/-- the number of a text among the shingles -/
def idxO (sh : List (List Int32)) (TX : List Int32) : Option Nat := sh.findIdx? (fun v => v == TX)
theorem idxO_some {sh : List (List Int32)} {TX : List Int32} {k : Nat} (hk : k < sh.length) (h : sh[k] = TX) (hno : ∀ q (hq : q < sh.length), q < k → ¬ sh[q] = TX) : idxO sh TX = some k := by
  rw [idxO, List.findIdx?_eq_some_iff_getElem]
  refine ⟨hk, by simp [h], fun j hj => ?_⟩
  have := hno j (by omega) hj
  simp [this]
theorem idxO_none {sh : List (List Int32)} {TX : List Int32} (hno : ∀ q (hq : q < sh.length), ¬ sh[q] = TX) : idxO sh TX = none := by
  rw [idxO, List.findIdx?_eq_none_iff]
  intro v hv
  obtain ⟨j, hj, rfl⟩ := List.mem_iff_getElem.mp hv
  simp [hno j hj]
theorem idx_eq {L TX : List Int32} (hl : L.length = TX.length) (h : ∀ t (ht : t < TX.length), L.getD t 0 = TX[t]) : L = TX := by
  apply List.ext_getElem hl
  intro t h1 h2
  have := h t h2
  rw [List.getD_eq_getElem?_getD, List.getElem?_eq_getElem h1, Option.getD_some] at this
  exact this

set_option maxHeartbeats 4000000 in
set_option maxRecDepth 100000 in
theorem c_X9_numberOf {D : va_G} {cB cI cJ cO : ClassId} {l : Launch} {m0 b1 b2 b5 b6 b7 b12 b14 b15 b16 b20 b21 b22 b23 b24 b26 b31 th len ps nm bt_ so wi fm dn ca sta xn bb rr pp qq : Nat} {at_ nn : Nat} {fp lf : Nat → Int32} {ff zf : Nat → Nat} {sh : List (List Int32)} {TX : List Int32} {ws : va_W} (g33 : ws[33]? = some (m0, .inr (10, [.int (nI th), .ref b1, .ref b2, .int (nI len), .int (nI ps), .ref b5, .ref b6, .ref b7, .int (nI nm), .int (nI bt_), .int (nI so), .int (nI wi), .ref b12, .int (nI fm), .ref b14, .ref b15, .ref b16, .int (nI dn), .int (nI ca), .int (nI sta), .ref b20, .ref b21, .ref b22, .ref b23, .ref b24, .int (nI xn), .ref b26, .int (nI bb), .int (nI rr), .int (nI pp), .int (nI qq), .ref b31]))) (g35 : ws[35]? = some (b2, .inl (cB, 801, .inl fp))) (g36 : ws[36]? = some (b5, .inl (cB, 50800, .inl lf))) (g37 : ws[37]? = some (b6, .inl (cI, 6800, .inl (fun jj => nI (ff jj))))) (g38 : ws[38]? = some (b7, .inl (cI, 6800, .inl (fun jj => nI (zf jj))))) (hst : StM sh lf ff zf) (hsn : sh.length = nm) (hn6 : nm ≤ 6000) (hby : sh.flatten.length ≤ 50000) (hTl : TX.length = nn) (hTx : ∀ t (ht : t < TX.length), fp (at_ + t) = TX[t]) (hat : at_ + nn ≤ 801) : CI D (TY cB cI cJ cO) l yX9_numberOf wsX9_numberOf ({ frames := 0, cells := 0, slots := 0, locals := 0 }) [.ref m0, .int (nI at_), .int (nI nn)] ws (fun r ws' => r = optI (idxO sh TX) ∧ ws = ws') := by
  refine CI.of (cc := cX9_numberOf) (maxL := 6) (ret := (some .int)) (by decide) rfl (Nat.le_of_ble_eq_true rfl) ?_
  intro p e s m below meth c A C hK hP hD hA hS ls hl
  obtain ⟨hx, hb, hr, hml, hts, hown, hlocks, hnm⟩ := id C
  have fl_21 := hts (.fieldLink RX9 21 "TwinFinderModel" "plain" "[B") (by decide +kernel)
  have fl_24 := hts (.fieldLink RX9 24 "TwinFinderModel" "numbers" "I") (by decide +kernel)
  have fl_27 := hts (.fieldLink RX9 27 "TwinFinderModel" "size" "[I") (by decide +kernel)
  have fl_31 := hts (.fieldLink RX9 31 "TwinFinderModel" "letters" "[B") (by decide +kernel)
  have fl_34 := hts (.fieldLink RX9 34 "TwinFinderModel" "from" "[I") (by decide +kernel)
  have hin_X9 : ∀ w ∈ u_ws RX9 TX9 32, w ∈ wsX9_numberOf := by decide +kernel
  have hl : lv_has ls 6 [(0, .ref m0), (1, .int (nI at_)), (2, .int (nI nn))] := hl
  have sm : Sm (fun _ => False) ws ws := Sm.rf
  have hc0 : (0 : Nat) ≤ 0 := by decide
  have hs0 : (0 : Nat) ≤ 0 := by decide
  refine lv_iconst (v := nI 0) hx hb dX9_numberOf_0 (by decide) ?_
  refine lv_istore_n (lv' := [(3, .int (nI 0)), (0, .ref m0), (1, .int (nI at_)), (2, .int (nI nn))]) hx hb dX9_numberOf_1 rfl hl (by decide) rfl (fun ls hl => ?_)
  have lp_2 : ∀ (fuel : Nat) (k : Nat), nm - k < fuel → (k ≤ nm) → (∀ q (hq : q < sh.length), q < k → ¬ sh[q] = TX) → ∀ (H : Heap) (locs : List Loc) (ls : Array Slot),  va_P D vwCl ws H → va_D A ws → va_S A s.heap H locs → lv_has ls 6 [(0, .ref m0), (1, .int (nI at_)), (2, .int (nI nn)), (3, .int (nI k))] → W p l e ({ frames := 0, cells := 0, slots := 0, locals := 0 }) s m ([.ref m0, .int (nI at_), .int (nI nn)] : List Value).toArray below meth c H locs 0 0 (ZI D (TY cB cI cJ cO) (fun r ws' => r = optI (idxO sh TX) ∧ ws = ws') below [.ref m0, .int (nI at_), .int (nI nn)] s 0 0 A) (F0 m 2 ls []) := by
    intro fuel
    induction fuel with
    | zero => intro k hfu; exact absurd hfu (Nat.not_lt_zero _)
    | succ fuel ih_2 =>
      intro k hfu_2 hk hno H locs ls hP hD hS hl
      refine lv_iload_n hx hb dX9_numberOf_2 rfl (lv_at hl 3 rfl) ?_
      refine lv_aload_n hx hb dX9_numberOf_3 rfl (lv_at hl 0 rfl) ?_
      refine va_get (D := D) (ci := 10) (v := .int (nI nm)) (C := RX9) (T := TX9) (N := 32) hx hb hts hin_X9 hown hK hP 33 g33 rfl 8 (by decide) fl_24 (fun _ h9 => h9) rfl dX9_numberOf_4 ?_
      refine nx_icmp_ge (tgt := 92) hx hb (by omega) (by omega) dX9_numberOf_7 (by decide) (fun c_7 => ?_) (fun c_7 => ?_)
      · refine lv_iconst (v := -1) hx hb dX9_numberOf_92 (by decide) ?_
        exact CI.ret (v := (-1)) C hK hP hD hS rfl (⟨(by rw [idxO_none (fun q hq => hno q hq (by omega))]; rfl), rfl⟩) hc0 hs0 dX9_numberOf_93
      · have hkz := hst.2 k (by omega)
        have hko := ofs_s (sh := sh) (i := k) (by omega)
        have hkl := ofs_le (sh := sh) (i := k + 1)
        refine lv_aload_n hx hb dX9_numberOf_10 rfl (lv_at hl 0 rfl) ?_
        refine va_get (D := D) (ci := 10) (v := .ref b7) (C := RX9) (T := TX9) (N := 32) hx hb hts hin_X9 hown hK hP 33 g33 rfl 7 (by decide) fl_27 (fun _ h9 => h9) rfl dX9_numberOf_11 ?_
        refine lv_iload_n hx hb dX9_numberOf_14 rfl (lv_at hl 3 rfl) ?_
        refine nx_iald hx hb hK hP 38 1 g38 rfl (k := k) (by omega) (by decide) dX9_numberOf_15 ?_
        refine lv_iload_n hx hb dX9_numberOf_16 rfl (lv_at hl 2 rfl) ?_
        refine nx_icmp_eq (tgt := 23) hx hb (by omega) (by omega) dX9_numberOf_17 (by decide) (fun c_17 => ?_) (fun c_17 => ?_)
        · refine lv_iconst (v := nI 1) hx hb dX9_numberOf_23 (by decide) ?_
          refine lv_istore (lv' := [(4, .int (nI 1)), (0, .ref m0), (1, .int (nI at_)), (2, .int (nI nn)), (3, .int (nI k))]) hx hb dX9_numberOf_24 hl (by decide) rfl (fun ls hl => ?_)
          refine lv_iconst (v := nI 0) hx hb dX9_numberOf_26 (by decide) ?_
          refine lv_istore (lv' := [(5, .int (nI 0)), (4, .int (nI 1)), (0, .ref m0), (1, .int (nI at_)), (2, .int (nI nn)), (3, .int (nI k))]) hx hb dX9_numberOf_27 hl (by decide) rfl (fun ls hl => ?_)
          have lp_29 : ∀ (fuel : Nat) (i : Nat) (b : Bool), nn - i < fuel → (i ≤ nn) → (b = true → ∀ t (ht : t < TX.length), t < i → sh[k].getD t 0 = TX[t]) → (b = false → ¬ sh[k] = TX) → ∀ (H : Heap) (locs : List Loc) (ls : Array Slot),  va_P D vwCl ws H → va_D A ws → va_S A s.heap H locs → lv_has ls 6 [(0, .ref m0), (1, .int (nI at_)), (2, .int (nI nn)), (3, .int (nI k)), (4, .int (nI (b.toNat))), (5, .int (nI i))] → W p l e ({ frames := 0, cells := 0, slots := 0, locals := 0 }) s m ([.ref m0, .int (nI at_), .int (nI nn)] : List Value).toArray below meth c H locs 0 0 (ZI D (TY cB cI cJ cO) (fun r ws' => r = optI (idxO sh TX) ∧ ws = ws') below [.ref m0, .int (nI at_), .int (nI nn)] s 0 0 A) (F0 m 29 ls []) := by
            intro fuel
            induction fuel with
            | zero => intro i b hfu; exact absurd hfu (Nat.not_lt_zero _)
            | succ fuel ih_29 =>
              intro i b hfu_29 hi hbt hbf H locs ls hP hD hS hl
              refine lv_iload hx hb dX9_numberOf_29 (lv_at hl 5 rfl) ?_
              refine lv_iload_n hx hb dX9_numberOf_31 rfl (lv_at hl 2 rfl) ?_
              refine nx_icmp_ge (tgt := 79) hx hb (by omega) (by omega) dX9_numberOf_32 (by decide) (fun c_32 => ?_) (fun c_32 => ?_)
              · refine lv_iload hx hb dX9_numberOf_79 (lv_at hl 4 rfl) ?_
                refine nx_if_eq (tgt := 86) hx hb (by cases b <;> decide) dX9_numberOf_81 (by decide) (fun c_81 => ?_) (fun c_81 => ?_)
                · refine lv_iinc (v := (nI (k + 1))) (lv' := [(3, .int (nI (k + 1))), (0, .ref m0), (1, .int (nI at_)), (2, .int (nI nn)), (4, .int (nI (b.toNat))), (5, .int (nI i))]) hx hb dX9_numberOf_86 hl (k := 3) rfl (nx_inc _ 1) (by decide) rfl (fun ls hl => ?_)
                  refine lv_goto (tgt := 2) hx hb dX9_numberOf_89 (by decide) ?_
                  exact ih_2 (k + 1) (by omega) (by omega) (fun q hq h => (Nat.lt_or_eq_of_le (Nat.le_of_lt_succ h)).elim (hno q hq) (fun e2 => by subst e2; first | exact fun h9 => c_17 (by rw [hkz.2, h9, hTl]) | exact hbf (bool0 c_81))) _ _ _  hP hD hS (lv_sub hl [1, 2, 3, 0] rfl)
                · refine lv_iload_n hx hb dX9_numberOf_84 rfl (lv_at hl 3 rfl) ?_
                  exact CI.ret (v := (nI k)) C hK hP hD hS rfl (⟨(by rw [idxO_some (by omega) (idx_eq (by omega) (fun t ht => hbt (bool1 c_81) t ht (by first | omega | exact absurd (bool1 c_81) (by rw [bool0 c_37]; decide)))) hno]; rfl), rfl⟩) hc0 hs0 dX9_numberOf_85
              · refine lv_iload hx hb dX9_numberOf_35 (lv_at hl 4 rfl) ?_
                refine nx_if_eq (tgt := 79) hx hb (by cases b <;> decide) dX9_numberOf_37 (by decide) (fun c_37 => ?_) (fun c_37 => ?_)
                · refine lv_iload hx hb dX9_numberOf_79 (lv_at hl 4 rfl) ?_
                  refine nx_if_eq (tgt := 86) hx hb (by cases b <;> decide) dX9_numberOf_81 (by decide) (fun c_81 => ?_) (fun c_81 => ?_)
                  · refine lv_iinc (v := (nI (k + 1))) (lv' := [(3, .int (nI (k + 1))), (0, .ref m0), (1, .int (nI at_)), (2, .int (nI nn)), (4, .int (nI (b.toNat))), (5, .int (nI i))]) hx hb dX9_numberOf_86 hl (k := 3) rfl (nx_inc _ 1) (by decide) rfl (fun ls hl => ?_)
                    refine lv_goto (tgt := 2) hx hb dX9_numberOf_89 (by decide) ?_
                    exact ih_2 (k + 1) (by omega) (by omega) (fun q hq h => (Nat.lt_or_eq_of_le (Nat.le_of_lt_succ h)).elim (hno q hq) (fun e2 => by subst e2; first | exact fun h9 => c_17 (by rw [hkz.2, h9, hTl]) | exact hbf (bool0 c_81))) _ _ _  hP hD hS (lv_sub hl [1, 2, 3, 0] rfl)
                  · refine lv_iload_n hx hb dX9_numberOf_84 rfl (lv_at hl 3 rfl) ?_
                    exact CI.ret (v := (nI k)) C hK hP hD hS rfl (⟨(by rw [idxO_some (by omega) (idx_eq (by omega) (fun t ht => hbt (bool1 c_81) t ht (by first | omega | exact absurd (bool1 c_81) (by rw [bool0 c_37]; decide)))) hno]; rfl), rfl⟩) hc0 hs0 dX9_numberOf_85
                · refine lv_aload_n hx hb dX9_numberOf_40 rfl (lv_at hl 0 rfl) ?_
                  refine va_get (D := D) (ci := 10) (v := .ref b5) (C := RX9) (T := TX9) (N := 32) hx hb hts hin_X9 hown hK hP 33 g33 rfl 5 (by decide) fl_31 (fun _ h9 => h9) rfl dX9_numberOf_41 ?_
                  refine lv_aload_n hx hb dX9_numberOf_44 rfl (lv_at hl 0 rfl) ?_
                  refine va_get (D := D) (ci := 10) (v := .ref b6) (C := RX9) (T := TX9) (N := 32) hx hb hts hin_X9 hown hK hP 33 g33 rfl 6 (by decide) fl_34 (fun _ h9 => h9) rfl dX9_numberOf_45 ?_
                  refine lv_iload_n hx hb dX9_numberOf_48 rfl (lv_at hl 3 rfl) ?_
                  refine nx_iald hx hb hK hP 37 1 g37 rfl (k := k) (by omega) (by decide) dX9_numberOf_49 ?_
                  refine lv_iload hx hb dX9_numberOf_50 (lv_at hl 5 rfl) ?_
                  refine nx_iadd hx hb dX9_numberOf_52 ?_
                  refine nx_bald hx hb hK hP 36 0 g36 rfl (k := ((ff k) + i)) (by omega) (by decide) dX9_numberOf_53 ?_
                  refine lv_aload_n hx hb dX9_numberOf_54 rfl (lv_at hl 0 rfl) ?_
                  refine va_get (D := D) (ci := 10) (v := .ref b2) (C := RX9) (T := TX9) (N := 32) hx hb hts hin_X9 hown hK hP 33 g33 rfl 2 (by decide) fl_21 (fun _ h9 => h9) rfl dX9_numberOf_55 ?_
                  refine lv_iload_n hx hb dX9_numberOf_58 rfl (lv_at hl 1 rfl) ?_
                  refine lv_iload hx hb dX9_numberOf_59 (lv_at hl 5 rfl) ?_
                  refine nx_iadd hx hb dX9_numberOf_61 ?_
                  refine nx_bald hx hb hK hP 35 0 g35 rfl (k := (at_ + i)) (by omega) (by decide) dX9_numberOf_62 ?_
                  refine lv_icmp_ne (tgt := 70) hx hb dX9_numberOf_63 (by decide) (fun c_63 => ?_) (fun c_63 => ?_)
                  · refine lv_iconst (v := nI 0) hx hb dX9_numberOf_70 (by decide) ?_
                    refine lv_istore (lv' := [(4, .int (nI 0)), (0, .ref m0), (1, .int (nI at_)), (2, .int (nI nn)), (3, .int (nI k)), (5, .int (nI i))]) hx hb dX9_numberOf_71 hl (by decide) rfl (fun ls hl => ?_)
                    refine lv_iinc (v := (nI (i + 1))) (lv' := [(5, .int (nI (i + 1))), (4, .int (nI 0)), (0, .ref m0), (1, .int (nI at_)), (2, .int (nI nn)), (3, .int (nI k))]) hx hb dX9_numberOf_73 hl (k := 5) rfl (nx_inc _ 1) (by decide) rfl (fun ls hl => ?_)
                    refine lv_goto (tgt := 29) hx hb dX9_numberOf_76 (by decide) ?_
                    have hli := hst.letter (i := k) (t := i) (by omega) (by omega)
                    rw [hli, hTx i (by omega)] at c_63
                    exact ih_29 (i + 1) false (by omega) (by omega) (fun h => absurd h (by decide)) (fun _ h9 => c_63 (by simp only [h9])) _ _ _  hP hD hS (lv_sub hl [2, 3, 4, 5, 1, 0] rfl)
                  · refine lv_iconst (v := nI 1) hx hb dX9_numberOf_66 (by decide) ?_
                    refine lv_goto (tgt := 71) hx hb dX9_numberOf_67 (by decide) ?_
                    refine lv_istore (lv' := [(4, .int (nI 1)), (0, .ref m0), (1, .int (nI at_)), (2, .int (nI nn)), (3, .int (nI k)), (5, .int (nI i))]) hx hb dX9_numberOf_71 hl (by decide) rfl (fun ls hl => ?_)
                    refine lv_iinc (v := (nI (i + 1))) (lv' := [(5, .int (nI (i + 1))), (4, .int (nI 1)), (0, .ref m0), (1, .int (nI at_)), (2, .int (nI nn)), (3, .int (nI k))]) hx hb dX9_numberOf_73 hl (k := 5) rfl (nx_inc _ 1) (by decide) rfl (fun ls hl => ?_)
                    refine lv_goto (tgt := 29) hx hb dX9_numberOf_76 (by decide) ?_
                    have hli := hst.letter (i := k) (t := i) (by omega) (by omega)
                    rw [hli, hTx i (by omega)] at c_63
                    exact ih_29 (i + 1) true (by omega) (by omega) (fun _ t ht h => (Nat.lt_or_eq_of_le (Nat.le_of_lt_succ h)).elim (hbt (bool1 c_37) t ht) (fun e2 => by subst e2; rw [List.getD_eq_getElem?_getD, List.getElem?_eq_getElem (by omega), Option.getD_some]; exact c_63)) (fun h => absurd h (by decide)) _ _ _  hP hD hS (lv_sub hl [2, 3, 4, 5, 1, 0] rfl)
          exact lp_29 _ 0 true (Nat.lt_succ_self _) (Nat.zero_le _) (fun _ t _ h => absurd h (Nat.not_lt_zero t)) (fun h => absurd h (by decide)) _ _ _  hP hD hS (lv_sub hl [2, 3, 4, 5, 1, 0] rfl)
        · refine lv_goto (tgt := 86) hx hb dX9_numberOf_20 (by decide) ?_
          refine lv_iinc (v := (nI (k + 1))) (lv' := [(3, .int (nI (k + 1))), (0, .ref m0), (1, .int (nI at_)), (2, .int (nI nn))]) hx hb dX9_numberOf_86 hl (k := 3) rfl (nx_inc _ 1) (by decide) rfl (fun ls hl => ?_)
          refine lv_goto (tgt := 2) hx hb dX9_numberOf_89 (by decide) ?_
          exact ih_2 (k + 1) (by omega) (by omega) (fun q hq h => (Nat.lt_or_eq_of_le (Nat.le_of_lt_succ h)).elim (hno q hq) (fun e2 => by subst e2; first | exact fun h9 => c_17 (by rw [hkz.2, h9, hTl]) | exact hbf (bool0 c_81))) _ _ _  hP hD hS (lv_sub hl [1, 2, 3, 0] rfl)
  exact lp_2 _ 0 (Nat.lt_succ_self _) (Nat.zero_le _) (fun q _ h => absurd h (Nat.not_lt_zero q)) _ _ _  hP hD hS (lv_sub hl [1, 2, 3, 0] rfl)
