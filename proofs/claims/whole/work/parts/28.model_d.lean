set_option maxHeartbeats 4000000 in
set_option maxRecDepth 100000 in
theorem c_X9_shingle {D : va_G} {cB cI cJ cO : ClassId} {l : Launch} {m0 b1 b2 b5 b6 b7 b12 b14 b15 b16 b20 b21 b22 b23 b24 b26 b31 th len ps nm bt_ so wi fm dn ca sta xn bb rr pp qq : Nat} {gn gm gs : Nat → Nat} {docs : List (Nat × List Nat)} {x i : Int32} {ws : va_W} (g33 : ws[33]? = some (m0, .inr (10, [.int (nI th), .ref b1, .ref b2, .int (nI len), .int (nI ps), .ref b5, .ref b6, .ref b7, .int (nI nm), .int (nI bt_), .int (nI so), .int (nI wi), .ref b12, .int (nI fm), .ref b14, .ref b15, .ref b16, .int (nI dn), .int (nI ca), .int (nI sta), .ref b20, .ref b21, .ref b22, .ref b23, .ref b24, .int (nI xn), .ref b26, .int (nI bb), .int (nI rr), .int (nI pp), .int (nI qq), .ref b31]))) (g40 : ws[40]? = some (b14, .inl (cI, 48, .inl (fun jj => nI (gn jj))))) (g41 : ws[41]? = some (b15, .inl (cI, 48, .inl (fun jj => nI (gm jj))))) (g42 : ws[42]? = some (b16, .inl (cI, 38400, .inl (fun jj => nI (gs jj))))) (hdd : HdD gn gm gs docs) (hdn : docs.length = dn) (h48 : dn ≤ 48) (hds : Dsm docs) : CI D (TY cB cI cJ cO) l yX9_shingle wsX9_shingle ({ frames := 1, cells := 0, slots := 0, locals := 22 }) [.ref m0, .int x, .int i] ws (fun r ws' => r = (bif (slotOf (docs.map (fun d => d.1)) x).isSome then shR (dset docs (slotOf (docs.map (fun d => d.1)) x)) i else 0) ∧ Sm (fun k => k = 33) ws ws' ∧ ws'[33]? = some (m0, .inr (10, [.int (nI ((slotOf (docs.map (fun d => d.1)) x).isNone.toNat)), .ref b1, .ref b2, .int (nI len), .int (nI ps), .ref b5, .ref b6, .ref b7, .int (nI nm), .int (nI bt_), .int (nI so), .int (nI wi), .ref b12, .int (nI fm), .ref b14, .ref b15, .ref b16, .int (nI dn), .int (nI ca), .int (nI sta), .ref b20, .ref b21, .ref b22, .ref b23, .ref b24, .int (nI xn), .ref b26, .int (nI bb), .int (nI rr), .int (nI pp), .int (nI qq), .ref b31]))) := by
  refine CI.of (cc := cX9_shingle) (maxL := 4) (ret := (some .int)) (by decide) rfl (Nat.le_of_ble_eq_true rfl) ?_
  intro p e s m below meth c A C hK hP hD hA hS ls hl
  obtain ⟨hx, hb, hr, hml, hts, hown, hlocks, hnm⟩ := id C
  have fl_75 := hts (.fieldLink RX9 75 "TwinFinderModel" "set" "[I") (by decide +kernel)
  have fl_78 := hts (.fieldLink RX9 78 "TwinFinderModel" "many" "[I") (by decide +kernel)
  have hin_X9 : ∀ w ∈ u_ws RX9 TX9 32, w ∈ wsX9_shingle := by decide +kernel
  have hl : lv_has ls 4 [(0, .ref m0), (1, .int x), (2, .int i)] := hl
  have sm : Sm (fun k => k = 33) ws ws := Sm.rf
  have hc0 : (0 : Nat) ≤ 0 := by decide
  have hs0 : (0 : Nat) ≤ 0 := by decide
  refine lv_aload_n hx hb dX9_shingle_0 rfl (lv_at hl 0 rfl) ?_
  refine lv_iload_n hx hb dX9_shingle_1 rfl (lv_at hl 1 rfl) ?_
  refine CI.go (va_runV (As := [.int x]) (rest := []) ⟨hx, hb, hml, hown, hts⟩ (c_X9_slot  g33 g40 hdd.num (by rw [List.length_map]; exact hdn) h48 _) (cwV 1 hts gX9_shingle_X9_slot rfl rfl rfl (by decide +kernel) ⟨Nat.le_of_ble_eq_true rfl, Nat.le_of_ble_eq_true rfl⟩) ⟨pw_blind, va_recv hK hP (ci := 10) (q0 := 33) rfl g33, fun U hU hW => pw_pre hK hP hD hU hW⟩ rfl rfl hl.1 rfl (lv_room (Nat.le_of_ble_eq_true rfl)) dX9_shingle_2 ⟨by decide, by decide⟩) hD hS hA (fun r_1 ws_2 H locs hp hP hD hS => ?_)
  obtain ⟨rfl, rfl⟩ := hp
  rcases hsl_k : slotOf (docs.map (fun d => d.1)) x with _ | k
  · rw [show optI (slotOf (docs.map (fun d => d.1)) x) = -1 from by rw [hsl_k]; rfl]
    refine lv_istore_n (lv' := [(3, .int (-1)), (0, .ref m0), (1, .int x), (2, .int i)]) hx hb dX9_shingle_5 rfl hl (by decide) rfl (fun ls hl => ?_)
    refine lv_aload_n hx hb dX9_shingle_6 rfl (lv_at hl 1 rfl) ?_
    refine lv_iload_n hx hb dX9_shingle_7 rfl (lv_at hl 0 rfl) ?_
    refine lv_if_ge (tgt := 15) hx hb dX9_shingle_8 (by decide) (fun c_8 => absurd c_8 (by decide)) (fun c_8 => ?_)
    refine lv_iconst (v := nI 1) hx hb dX9_shingle_11 (by decide) ?_
    refine lv_goto (tgt := 16) hx hb dX9_shingle_12 (by decide) ?_
    refine CI.go (va_runV (As := [.int (nI 1)]) (rest := []) ⟨hx, hb, hml, hown, hts⟩ (c_X9_throwsIf (b := true) g33  _) (cwV 1 hts gX9_shingle_X9_throwsIf rfl rfl rfl (by decide +kernel) ⟨Nat.le_of_ble_eq_true rfl, Nat.le_of_ble_eq_true rfl⟩) ⟨pw_blind, va_recv hK hP (ci := 10) (q0 := 33) rfl g33, fun U hU hW => pw_pre hK hP hD hU hW⟩ rfl rfl hl.1 rfl (lv_room (Nat.le_of_ble_eq_true rfl)) dX9_shingle_16 ⟨by decide, by decide⟩) hD hS hA (fun r_3 ws_4 H locs hp hP hD hS => ?_)
    obtain ⟨rfl, sm_5, g33⟩ := hp
    have g40 := sm_5.get g40 (by simp)
    have g41 := sm_5.get g41 (by simp)
    have g42 := sm_5.get g42 (by simp)
    have sm := sm.call sm_5 (by intro k hk; (try simp only at hk ⊢); omega)
    have g33 : ws_4[33]? = some (m0, .inr (10, [.int (nI 1), .ref b1, .ref b2, .int (nI len), .int (nI ps), .ref b5, .ref b6, .ref b7, .int (nI nm), .int (nI bt_), .int (nI so), .int (nI wi), .ref b12, .int (nI fm), .ref b14, .ref b15, .ref b16, .int (nI dn), .int (nI ca), .int (nI sta), .ref b20, .ref b21, .ref b22, .ref b23, .ref b24, .int (nI xn), .ref b26, .int (nI bb), .int (nI rr), .int (nI pp), .int (nI qq), .ref b31])) := g33
    refine lv_if_eq (tgt := 24) hx hb dX9_shingle_19 (by decide) (fun c_19 => absurd c_19 (by decide)) (fun c_19 => ?_)
    refine lv_iconst (v := nI 0) hx hb dX9_shingle_22 (by decide) ?_
    have g33 : ws_4[33]? = some (m0, .inr (10, [.int (nI ((slotOf (docs.map (fun d => d.1)) x).isNone.toNat)), .ref b1, .ref b2, .int (nI len), .int (nI ps), .ref b5, .ref b6, .ref b7, .int (nI nm), .int (nI bt_), .int (nI so), .int (nI wi), .ref b12, .int (nI fm), .ref b14, .ref b15, .ref b16, .int (nI dn), .int (nI ca), .int (nI sta), .ref b20, .ref b21, .ref b22, .ref b23, .ref b24, .int (nI xn), .ref b26, .int (nI bb), .int (nI rr), .int (nI pp), .int (nI qq), .ref b31])) := by rw [hsl_k]; exact g33
    exact CI.ret (v := (nI 0)) C hK hP hD hS rfl (⟨(by rw [hsl_k]; rfl), sm, g33⟩) hc0 hs0 dX9_shingle_23
  · rw [show optI (slotOf (docs.map (fun d => d.1)) x) = nI k from by rw [hsl_k]; rfl]
    have hkn : k < dn := by have := (slotOf_lt hsl_k).1; rw [List.length_map, hdn] at this; exact this
    have hkr := hdd k (by omega)
    have hks := hds docs[k] (List.getElem_mem _)
    refine lv_istore_n (lv' := [(3, .int (nI k)), (0, .ref m0), (1, .int x), (2, .int i)]) hx hb dX9_shingle_5 rfl hl (by decide) rfl (fun ls hl => ?_)
    refine lv_aload_n hx hb dX9_shingle_6 rfl (lv_at hl 1 rfl) ?_
    refine lv_iload_n hx hb dX9_shingle_7 rfl (lv_at hl 0 rfl) ?_
    refine nx_if_ge (tgt := 15) hx hb (by omega) dX9_shingle_8 (by decide) ?_
    refine lv_iconst (v := nI 0) hx hb dX9_shingle_15 (by decide) ?_
    refine CI.go (va_runV (As := [.int (nI 0)]) (rest := []) ⟨hx, hb, hml, hown, hts⟩ (c_X9_throwsIf (b := false) g33  _) (cwV 1 hts gX9_shingle_X9_throwsIf rfl rfl rfl (by decide +kernel) ⟨Nat.le_of_ble_eq_true rfl, Nat.le_of_ble_eq_true rfl⟩) ⟨pw_blind, va_recv hK hP (ci := 10) (q0 := 33) rfl g33, fun U hU hW => pw_pre hK hP hD hU hW⟩ rfl rfl hl.1 rfl (lv_room (Nat.le_of_ble_eq_true rfl)) dX9_shingle_16 ⟨by decide, by decide⟩) hD hS hA (fun r_6 ws_7 H locs hp hP hD hS => ?_)
    obtain ⟨rfl, sm_8, g33⟩ := hp
    have g40 := sm_8.get g40 (by simp)
    have g41 := sm_8.get g41 (by simp)
    have g42 := sm_8.get g42 (by simp)
    have sm := sm.call sm_8 (by intro k hk; (try simp only at hk ⊢); omega)
    have g33 : ws_7[33]? = some (m0, .inr (10, [.int (nI 0), .ref b1, .ref b2, .int (nI len), .int (nI ps), .ref b5, .ref b6, .ref b7, .int (nI nm), .int (nI bt_), .int (nI so), .int (nI wi), .ref b12, .int (nI fm), .ref b14, .ref b15, .ref b16, .int (nI dn), .int (nI ca), .int (nI sta), .ref b20, .ref b21, .ref b22, .ref b23, .ref b24, .int (nI xn), .ref b26, .int (nI bb), .int (nI rr), .int (nI pp), .int (nI qq), .ref b31])) := g33
    refine lv_if_eq (tgt := 24) hx hb dX9_shingle_19 (by decide) (fun c_19 => ?_) (fun c_19 => absurd (by decide) c_19)
    refine lv_iload_n hx hb dX9_shingle_24 rfl (lv_at hl 3 rfl) ?_
    refine lv_if_lt (tgt := 38) hx hb dX9_shingle_25 (by decide) (fun c_25 => ?_) (fun c_25 => ?_)
    · refine lv_iconst (v := -1) hx hb dX9_shingle_38 (by decide) ?_
      refine lv_goto (tgt := 54) hx hb dX9_shingle_39 (by decide) ?_
      have g33 : ws_7[33]? = some (m0, .inr (10, [.int (nI ((slotOf (docs.map (fun d => d.1)) x).isNone.toNat)), .ref b1, .ref b2, .int (nI len), .int (nI ps), .ref b5, .ref b6, .ref b7, .int (nI nm), .int (nI bt_), .int (nI so), .int (nI wi), .ref b12, .int (nI fm), .ref b14, .ref b15, .ref b16, .int (nI dn), .int (nI ca), .int (nI sta), .ref b20, .ref b21, .ref b22, .ref b23, .ref b24, .int (nI xn), .ref b26, .int (nI bb), .int (nI rr), .int (nI pp), .int (nI qq), .ref b31])) := by rw [hsl_k]; exact g33
      exact CI.ret (v := (-1)) C hK hP hD hS rfl (⟨(by rw [hsl_k, dset_at (by omega)]; show _ = shR docs[k].2 _; rw [shR, if_neg]; intro h; first | exact h.1 c_25 | exact c_35 (by rw [hkr.2.1]; exact h.2)), sm, g33⟩) hc0 hs0 dX9_shingle_54
    · refine lv_iload_n hx hb dX9_shingle_28 rfl (lv_at hl 3 rfl) ?_
      refine lv_aload_n hx hb dX9_shingle_29 rfl (lv_at hl 1 rfl) ?_
      refine va_get (D := D) (ci := 10) (v := .ref b15) (C := RX9) (T := TX9) (N := 32) hx hb hts hin_X9 hown hK hP 33 g33 rfl 15 (by decide) fl_78 (fun _ h9 => h9) rfl dX9_shingle_30 ?_
      refine lv_iload_n hx hb dX9_shingle_33 rfl (lv_at hl 0 rfl) ?_
      refine nx_iald hx hb hK hP 41 1 g41 rfl (k := k) (by omega) (by decide) dX9_shingle_34 ?_
      refine lv_icmp_lt (tgt := 42) hx hb dX9_shingle_35 (by decide) (fun c_35 => ?_) (fun c_35 => ?_)
      · obtain ⟨i1, hi1, rfl⟩ := nI_of c_25
        have hi1m : i1 < gm k := nI_lt' (by have := hkr.2.1; omega) c_35 hi1
        refine lv_aload_n hx hb dX9_shingle_42 rfl (lv_at hl 1 rfl) ?_
        refine va_get (D := D) (ci := 10) (v := .ref b16) (C := RX9) (T := TX9) (N := 32) hx hb hts hin_X9 hown hK hP 33 g33 rfl 16 (by decide) fl_75 (fun _ h9 => h9) rfl dX9_shingle_43 ?_
        refine lv_sipush (v := nI 800) hx hb dX9_shingle_46 (by decide) ?_
        refine lv_iload_n hx hb dX9_shingle_49 rfl (lv_at hl 0 rfl) ?_
        refine nx_imul hx hb dX9_shingle_50 ?_
        refine lv_iload_n hx hb dX9_shingle_51 rfl (lv_at hl 3 rfl) ?_
        refine nx_iadd hx hb dX9_shingle_52 ?_
        refine nx_iald hx hb hK hP 42 1 g42 rfl (k := ((800 * k) + i1)) (by have := hkr.2.1; omega) (by decide) dX9_shingle_53 ?_
        have g33 : ws_7[33]? = some (m0, .inr (10, [.int (nI ((slotOf (docs.map (fun d => d.1)) x).isNone.toNat)), .ref b1, .ref b2, .int (nI len), .int (nI ps), .ref b5, .ref b6, .ref b7, .int (nI nm), .int (nI bt_), .int (nI so), .int (nI wi), .ref b12, .int (nI fm), .ref b14, .ref b15, .ref b16, .int (nI dn), .int (nI ca), .int (nI sta), .ref b20, .ref b21, .ref b22, .ref b23, .ref b24, .int (nI xn), .ref b26, .int (nI bb), .int (nI rr), .int (nI pp), .int (nI qq), .ref b31])) := by rw [hsl_k]; exact g33
        exact CI.ret (v := (nI (gs ((800 * k) + i1)))) C hK hP hD hS rfl (⟨(by rw [hsl_k, dset_at (by omega)]; show _ = shR docs[k].2 _; rw [shR, if_pos ⟨c_25, by rw [← hkr.2.1]; exact c_35⟩, nI_clamp hi1, List.getD_eq_getElem?_getD, List.getElem?_eq_getElem (by rw [← hkr.2.1]; exact hi1m), Option.getD_some, ← hkr.2.2 i1 (by rw [← hkr.2.1]; exact hi1m)]), sm, g33⟩) hc0 hs0 dX9_shingle_54
      · refine lv_iconst (v := -1) hx hb dX9_shingle_38 (by decide) ?_
        refine lv_goto (tgt := 54) hx hb dX9_shingle_39 (by decide) ?_
        have g33 : ws_7[33]? = some (m0, .inr (10, [.int (nI ((slotOf (docs.map (fun d => d.1)) x).isNone.toNat)), .ref b1, .ref b2, .int (nI len), .int (nI ps), .ref b5, .ref b6, .ref b7, .int (nI nm), .int (nI bt_), .int (nI so), .int (nI wi), .ref b12, .int (nI fm), .ref b14, .ref b15, .ref b16, .int (nI dn), .int (nI ca), .int (nI sta), .ref b20, .ref b21, .ref b22, .ref b23, .ref b24, .int (nI xn), .ref b26, .int (nI bb), .int (nI rr), .int (nI pp), .int (nI qq), .ref b31])) := by rw [hsl_k]; exact g33
        exact CI.ret (v := (-1)) C hK hP hD hS rfl (⟨(by rw [hsl_k, dset_at (by omega)]; show _ = shR docs[k].2 _; rw [shR, if_neg]; intro h; first | exact h.1 c_25 | exact c_35 (by rw [hkr.2.1]; exact h.2)), sm, g33⟩) hc0 hs0 dX9_shingle_54
set_option maxHeartbeats 4000000 in
set_option maxRecDepth 100000 in
theorem c_X9_inFamily {D : va_G} {cB cI cJ cO : ClassId} {l : Launch} {m0 b1 b2 b5 b6 b7 b12 b14 b15 b16 b20 b21 b22 b23 b24 b26 b31 th len ps nm bt_ so wi fm dn ca sta xn bb rr pp qq : Nat} {fa : Nat → Nat} {x : Nat} {ws : va_W} (g33 : ws[33]? = some (m0, .inr (10, [.int (nI th), .ref b1, .ref b2, .int (nI len), .int (nI ps), .ref b5, .ref b6, .ref b7, .int (nI nm), .int (nI bt_), .int (nI so), .int (nI wi), .ref b12, .int (nI fm), .ref b14, .ref b15, .ref b16, .int (nI dn), .int (nI ca), .int (nI sta), .ref b20, .ref b21, .ref b22, .ref b23, .ref b24, .int (nI xn), .ref b26, .int (nI bb), .int (nI rr), .int (nI pp), .int (nI qq), .ref b31]))) (g49 : ws[49]? = some (b31, .inl (cI, 48, .inl (fun jj => nI (fa jj))))) (h48 : dn ≤ 48) (hx9 : x < 2 ^ 31) (hfa : ∀ k, k < dn → fa k < 2 ^ 31) : CI D (TY cB cI cJ cO) l yX9_inFamily wsX9_inFamily ({ frames := 0, cells := 0, slots := 0, locals := 0 }) [.ref m0, .int (nI x)] ws (fun r ws' => r = nI (cntF fa x dn) ∧ ws = ws') := by
  refine CI.of (cc := cX9_inFamily) (maxL := 4) (ret := (some .int)) (by decide) rfl (Nat.le_of_ble_eq_true rfl) ?_
  intro p e s m below meth c A C hK hP hD hA hS ls hl
  obtain ⟨hx, hb, hr, hml, hts, hown, hlocks, hnm⟩ := id C
  have fl_65 := hts (.fieldLink RX9 65 "TwinFinderModel" "documents" "I") (by decide +kernel)
  have fl_133 := hts (.fieldLink RX9 133 "TwinFinderModel" "family" "[I") (by decide +kernel)
  have hin_X9 : ∀ w ∈ u_ws RX9 TX9 32, w ∈ wsX9_inFamily := by decide +kernel
  have hl : lv_has ls 4 [(0, .ref m0), (1, .int (nI x))] := hl
  have sm : Sm (fun _ => False) ws ws := Sm.rf
  have hc0 : (0 : Nat) ≤ 0 := by decide
  have hs0 : (0 : Nat) ≤ 0 := by decide
  refine lv_iconst (v := nI 0) hx hb dX9_inFamily_0 (by decide) ?_
  refine lv_istore_n (lv' := [(2, .int (nI 0)), (0, .ref m0), (1, .int (nI x))]) hx hb dX9_inFamily_1 rfl hl (by decide) rfl (fun ls hl => ?_)
  refine lv_iconst (v := nI 0) hx hb dX9_inFamily_2 (by decide) ?_
  refine lv_istore_n (lv' := [(3, .int (nI 0)), (2, .int (nI 0)), (0, .ref m0), (1, .int (nI x))]) hx hb dX9_inFamily_3 rfl hl (by decide) rfl (fun ls hl => ?_)
  have lp_4 : ∀ (fuel : Nat) (i : Nat), dn - i < fuel → (i ≤ dn) → ∀ (H : Heap) (locs : List Loc) (ls : Array Slot),  va_P D vwCl ws H → va_D A ws → va_S A s.heap H locs → lv_has ls 4 [(0, .ref m0), (1, .int (nI x)), (2, .int (nI (cntF fa x i))), (3, .int (nI i))] → W p l e ({ frames := 0, cells := 0, slots := 0, locals := 0 }) s m ([.ref m0, .int (nI x)] : List Value).toArray below meth c H locs 0 0 (ZI D (TY cB cI cJ cO) (fun r ws' => r = nI (cntF fa x dn) ∧ ws = ws') below [.ref m0, .int (nI x)] s 0 0 A) (F0 m 4 ls []) := by
    intro fuel
    induction fuel with
    | zero => intro i hfu; exact absurd hfu (Nat.not_lt_zero _)
    | succ fuel ih_4 =>
      intro i hfu_4 hi H locs ls hP hD hS hl
      refine lv_iload_n hx hb dX9_inFamily_4 rfl (lv_at hl 3 rfl) ?_
      refine lv_aload_n hx hb dX9_inFamily_5 rfl (lv_at hl 0 rfl) ?_
      refine va_get (D := D) (ci := 10) (v := .int (nI dn)) (C := RX9) (T := TX9) (N := 32) hx hb hts hin_X9 hown hK hP 33 g33 rfl 17 (by decide) fl_65 (fun _ h9 => h9) rfl dX9_inFamily_6 ?_
      refine nx_icmp_ge (tgt := 36) hx hb (by omega) (by omega) dX9_inFamily_9 (by decide) (fun c_9 => ?_) (fun c_9 => ?_)
      · refine lv_iload_n hx hb dX9_inFamily_36 rfl (lv_at hl 2 rfl) ?_
        exact CI.ret (v := (nI (cntF fa x i))) C hK hP hD hS rfl (⟨(by rw [show i = dn by omega]), rfl⟩) hc0 hs0 dX9_inFamily_37
      · refine lv_iload_n hx hb dX9_inFamily_12 rfl (lv_at hl 2 rfl) ?_
        refine lv_aload_n hx hb dX9_inFamily_13 rfl (lv_at hl 0 rfl) ?_
        refine va_get (D := D) (ci := 10) (v := .ref b31) (C := RX9) (T := TX9) (N := 32) hx hb hts hin_X9 hown hK hP 33 g33 rfl 31 (by decide) fl_133 (fun _ h9 => h9) rfl dX9_inFamily_14 ?_
        refine lv_iload_n hx hb dX9_inFamily_17 rfl (lv_at hl 3 rfl) ?_
        refine nx_iald hx hb hK hP 49 1 g49 rfl (k := i) (by omega) (by decide) dX9_inFamily_18 ?_
        refine lv_iload_n hx hb dX9_inFamily_19 rfl (lv_at hl 1 rfl) ?_
        refine nx_icmp_ne (tgt := 27) hx hb (hfa i (by omega)) hx9 dX9_inFamily_20 (by decide) (fun c_20 => ?_) (fun c_20 => ?_)
        · refine lv_iconst (v := nI 0) hx hb dX9_inFamily_27 (by decide) ?_
          refine nx_iadd hx hb dX9_inFamily_28 ?_
          refine lv_istore_n (lv' := [(2, .int (nI ((cntF fa x i) + 0))), (0, .ref m0), (1, .int (nI x)), (3, .int (nI i))]) hx hb dX9_inFamily_29 rfl hl (by decide) rfl (fun ls hl => ?_)
          refine lv_iinc (v := (nI (i + 1))) (lv' := [(3, .int (nI (i + 1))), (2, .int (nI ((cntF fa x i) + 0))), (0, .ref m0), (1, .int (nI x))]) hx hb dX9_inFamily_30 hl (k := 3) rfl (nx_inc _ 1) (by decide) rfl (fun ls hl => ?_)
          refine lv_goto (tgt := 4) hx hb dX9_inFamily_33 (by decide) ?_
          have hl : lv_has ls 4 [(3, .int (nI (i + 1))), (2, .int (nI (cntF fa x (i + 1)))), (0, .ref m0), (1, .int (nI x))] := by rw [← show (cntF fa x i) + 0 = cntF fa x (i + 1) from (by rw [cntF]; first | (rw [if_pos c_20]; done) | (rw [if_neg c_20]; done))]; exact hl
          exact ih_4 (i + 1) (by omega) (by omega) _ _ _  hP hD hS (lv_sub hl [2, 3, 1, 0] rfl)
        · refine lv_iconst (v := nI 1) hx hb dX9_inFamily_23 (by decide) ?_
          refine lv_goto (tgt := 28) hx hb dX9_inFamily_24 (by decide) ?_
          refine nx_iadd hx hb dX9_inFamily_28 ?_
          refine lv_istore_n (lv' := [(2, .int (nI ((cntF fa x i) + 1))), (0, .ref m0), (1, .int (nI x)), (3, .int (nI i))]) hx hb dX9_inFamily_29 rfl hl (by decide) rfl (fun ls hl => ?_)
          refine lv_iinc (v := (nI (i + 1))) (lv' := [(3, .int (nI (i + 1))), (2, .int (nI ((cntF fa x i) + 1))), (0, .ref m0), (1, .int (nI x))]) hx hb dX9_inFamily_30 hl (k := 3) rfl (nx_inc _ 1) (by decide) rfl (fun ls hl => ?_)
          refine lv_goto (tgt := 4) hx hb dX9_inFamily_33 (by decide) ?_
          have hl : lv_has ls 4 [(3, .int (nI (i + 1))), (2, .int (nI (cntF fa x (i + 1)))), (0, .ref m0), (1, .int (nI x))] := by rw [← show (cntF fa x i) + 1 = cntF fa x (i + 1) from (by rw [cntF]; first | (rw [if_pos c_20]; done) | (rw [if_neg c_20]; done))]; exact hl
          exact ih_4 (i + 1) (by omega) (by omega) _ _ _  hP hD hS (lv_sub hl [2, 3, 1, 0] rfl)
  exact lp_4 _ 0 (Nat.lt_succ_self _) (by omega) _ _ _  hP hD hS (lv_sub hl [2, 3, 1, 0] rfl)
set_option maxHeartbeats 4000000 in
set_option maxRecDepth 100000 in
theorem c_X9_common {D : va_G} {cB cI cJ cO : ClassId} {l : Launch} {m0 b1 b2 b5 b6 b7 b12 b14 b15 b16 b20 b21 b22 b23 b24 b26 b31 th len ps nm bt_ so wi fm dn ca sta xn bb rr pp qq : Nat} {gn gm gs : Nat → Nat} {docs : List (Nat × List Nat)} {x y : Nat} {ws : va_W} (g33 : ws[33]? = some (m0, .inr (10, [.int (nI th), .ref b1, .ref b2, .int (nI len), .int (nI ps), .ref b5, .ref b6, .ref b7, .int (nI nm), .int (nI bt_), .int (nI so), .int (nI wi), .ref b12, .int (nI fm), .ref b14, .ref b15, .ref b16, .int (nI dn), .int (nI ca), .int (nI sta), .ref b20, .ref b21, .ref b22, .ref b23, .ref b24, .int (nI xn), .ref b26, .int (nI bb), .int (nI rr), .int (nI pp), .int (nI qq), .ref b31]))) (g41 : ws[41]? = some (b15, .inl (cI, 48, .inl (fun jj => nI (gm jj))))) (g42 : ws[42]? = some (b16, .inl (cI, 38400, .inl (fun jj => nI (gs jj))))) (hdd : HdD gn gm gs docs) (h48 : docs.length ≤ 48) (hds : Dsm docs) (hxd : x < docs.length) (hyd : y < docs.length) : CI D (TY cB cI cJ cO) l yX9_common wsX9_common ({ frames := 0, cells := 0, slots := 0, locals := 0 }) [.ref m0, .int (nI x), .int (nI y)] ws (fun r ws' => r = nI (comm docs[x].2 docs[y].2) ∧ ws = ws') := by
  refine CI.of (cc := cX9_common) (maxL := 6) (ret := (some .int)) (by decide) rfl (Nat.le_of_ble_eq_true rfl) ?_
  intro p e s m below meth c A C hK hP hD hA hS ls hl
  obtain ⟨hx, hb, hr, hml, hts, hown, hlocks, hnm⟩ := id C
  have fl_75 := hts (.fieldLink RX9 75 "TwinFinderModel" "set" "[I") (by decide +kernel)
  have fl_78 := hts (.fieldLink RX9 78 "TwinFinderModel" "many" "[I") (by decide +kernel)
  have hin_X9 : ∀ w ∈ u_ws RX9 TX9 32, w ∈ wsX9_common := by decide +kernel
  have hl : lv_has ls 6 [(0, .ref m0), (1, .int (nI x)), (2, .int (nI y))] := hl
  have sm : Sm (fun _ => False) ws ws := Sm.rf
  have hc0 : (0 : Nat) ≤ 0 := by decide
  have hs0 : (0 : Nat) ≤ 0 := by decide
  obtain ⟨A1, hA1⟩ : ∃ L, L = docs[x].2 := ⟨_, rfl⟩
  obtain ⟨B1, hB1⟩ : ∃ L, L = docs[y].2 := ⟨_, rfl⟩
  have hxs : A1.length ≤ 800 ∧ Rise A1 ∧ gm x = A1.length := by subst hA1; exact ⟨(hds docs[x] (List.getElem_mem _)).2.1, (hds docs[x] (List.getElem_mem _)).2.2.1, (hdd x hxd).2.1⟩
  have hys : B1.length ≤ 800 ∧ Rise B1 ∧ gm y = B1.length := by subst hB1; exact ⟨(hds docs[y] (List.getElem_mem _)).2.1, (hds docs[y] (List.getElem_mem _)).2.2.1, (hdd y hyd).2.1⟩
  have hxm : ∀ q (hq : q < A1.length), gs (800 * x + q) = A1[q] ∧ A1[q] < 6000 := by subst hA1; exact fun q hq => ⟨(hdd x hxd).2.2 q hq, (hds docs[x] (List.getElem_mem _)).2.2.2 _ (List.getElem_mem _)⟩
  have hym : ∀ q (hq : q < B1.length), gs (800 * y + q) = B1[q] ∧ B1[q] < 6000 := by subst hB1; exact fun q hq => ⟨(hdd y hyd).2.2 q hq, (hds docs[y] (List.getElem_mem _)).2.2.2 _ (List.getElem_mem _)⟩
  refine lv_iconst (v := nI 0) hx hb dX9_common_0 (by decide) ?_
  refine lv_istore_n (lv' := [(3, .int (nI 0)), (0, .ref m0), (1, .int (nI x)), (2, .int (nI y))]) hx hb dX9_common_1 rfl hl (by decide) rfl (fun ls hl => ?_)
  refine lv_iconst (v := nI 0) hx hb dX9_common_2 (by decide) ?_
  refine lv_istore (lv' := [(4, .int (nI 0)), (3, .int (nI 0)), (0, .ref m0), (1, .int (nI x)), (2, .int (nI y))]) hx hb dX9_common_3 hl (by decide) rfl (fun ls hl => ?_)
  refine lv_iconst (v := nI 0) hx hb dX9_common_5 (by decide) ?_
  refine lv_istore (lv' := [(5, .int (nI 0)), (4, .int (nI 0)), (3, .int (nI 0)), (0, .ref m0), (1, .int (nI x)), (2, .int (nI y))]) hx hb dX9_common_6 hl (by decide) rfl (fun ls hl => ?_)
  have lp_8 : ∀ (fuel : Nat) (k i c_ : Nat), A1.length - k < fuel → (k ≤ A1.length) → (i ≤ B1.length) → (c_ = (A1.take k).countP (fun x => B1.contains x)) → (∀ q (hq : q < B1.length), q < i → ∀ t (ht : t < A1.length), k ≤ t → B1[q] < A1[t]) → ∀ (H : Heap) (locs : List Loc) (ls : Array Slot),  va_P D vwCl ws H → va_D A ws → va_S A s.heap H locs → lv_has ls 6 [(0, .ref m0), (1, .int (nI x)), (2, .int (nI y)), (3, .int (nI c_)), (4, .int (nI i)), (5, .int (nI k))] → W p l e ({ frames := 0, cells := 0, slots := 0, locals := 0 }) s m ([.ref m0, .int (nI x), .int (nI y)] : List Value).toArray below meth c H locs 0 0 (ZI D (TY cB cI cJ cO) (fun r ws' => r = nI (comm docs[x].2 docs[y].2) ∧ ws = ws') below [.ref m0, .int (nI x), .int (nI y)] s 0 0 A) (F0 m 8 ls []) := by
    intro fuel
    induction fuel with
    | zero => intro k i c_ hfu; exact absurd hfu (Nat.not_lt_zero _)
    | succ fuel ih_8 =>
      intro k i c_ hfu_8 hk hi hc hlt H locs ls hP hD hS hl
      refine lv_iload hx hb dX9_common_8 (lv_at hl 5 rfl) ?_
      refine lv_aload_n hx hb dX9_common_10 rfl (lv_at hl 0 rfl) ?_
      refine va_get (D := D) (ci := 10) (v := .ref b15) (C := RX9) (T := TX9) (N := 32) hx hb hts hin_X9 hown hK hP 33 g33 rfl 15 (by decide) fl_78 (fun _ h9 => h9) rfl dX9_common_11 ?_
      refine lv_iload_n hx hb dX9_common_14 rfl (lv_at hl 1 rfl) ?_
      refine nx_iald hx hb hK hP 41 1 g41 rfl (k := x) (by omega) (by decide) dX9_common_15 ?_
      refine nx_icmp_ge (tgt := 119) hx hb (by omega) (by omega) dX9_common_16 (by decide) (fun c_16 => ?_) (fun c_16 => ?_)
      · refine lv_iload_n hx hb dX9_common_119 rfl (lv_at hl 3 rfl) ?_
        exact CI.ret (v := (nI c_)) C hK hP hD hS rfl (⟨(by rw [hc, comm_all (by omega), hA1, hB1]), rfl⟩) hc0 hs0 dX9_common_120
      · have lp_19 : ∀ (fuel : Nat) (i2 : Nat), B1.length - i2 < fuel → (i2 ≤ B1.length) → (∀ q (hq : q < B1.length), q < i2 → B1[q] < A1[k]) → ∀ (H : Heap) (locs : List Loc) (ls : Array Slot),  va_P D vwCl ws H → va_D A ws → va_S A s.heap H locs → lv_has ls 6 [(0, .ref m0), (1, .int (nI x)), (2, .int (nI y)), (3, .int (nI c_)), (4, .int (nI i2)), (5, .int (nI k))] → W p l e ({ frames := 0, cells := 0, slots := 0, locals := 0 }) s m ([.ref m0, .int (nI x), .int (nI y)] : List Value).toArray below meth c H locs 0 0 (ZI D (TY cB cI cJ cO) (fun r ws' => r = nI (comm docs[x].2 docs[y].2) ∧ ws = ws') below [.ref m0, .int (nI x), .int (nI y)] s 0 0 A) (F0 m 19 ls []) := by
          intro fuel
          induction fuel with
          | zero => intro i2 hfu; exact absurd hfu (Nat.not_lt_zero _)
          | succ fuel ih_19 =>
            intro i2 hfu_19 hi2 hlt2 H locs ls hP hD hS hl
            refine lv_iload hx hb dX9_common_19 (lv_at hl 4 rfl) ?_
            refine lv_aload_n hx hb dX9_common_21 rfl (lv_at hl 0 rfl) ?_
            refine va_get (D := D) (ci := 10) (v := .ref b15) (C := RX9) (T := TX9) (N := 32) hx hb hts hin_X9 hown hK hP 33 g33 rfl 15 (by decide) fl_78 (fun _ h9 => h9) rfl dX9_common_22 ?_
            refine lv_iload_n hx hb dX9_common_25 rfl (lv_at hl 2 rfl) ?_
            refine nx_iald hx hb hK hP 41 1 g41 rfl (k := y) (by omega) (by decide) dX9_common_26 ?_
            refine nx_icmp_ge (tgt := 65) hx hb (by omega) (by omega) dX9_common_27 (by decide) (fun c_27 => ?_) (fun c_27 => ?_)
            · have hin := rise_in (x := A1[k]) hys.2.1 hlt2 hi2 (fun h => absurd h (by omega))
              refine lv_iload_n hx hb dX9_common_65 rfl (lv_at hl 3 rfl) ?_
              refine lv_iload hx hb dX9_common_66 (lv_at hl 4 rfl) ?_
              refine lv_aload_n hx hb dX9_common_68 rfl (lv_at hl 0 rfl) ?_
              refine va_get (D := D) (ci := 10) (v := .ref b15) (C := RX9) (T := TX9) (N := 32) hx hb hts hin_X9 hown hK hP 33 g33 rfl 15 (by decide) fl_78 (fun _ h9 => h9) rfl dX9_common_69 ?_
              refine lv_iload_n hx hb dX9_common_72 rfl (lv_at hl 2 rfl) ?_
              refine nx_iald hx hb hK hP 41 1 g41 rfl (k := y) (by omega) (by decide) dX9_common_73 ?_
              refine nx_icmp_ge (tgt := 110) hx hb (by omega) (by omega) dX9_common_74 (by decide) (fun c_74 => ?_) (fun c_74 => ?_)
              · refine lv_iconst (v := nI 0) hx hb dX9_common_110 (by decide) ?_
                refine nx_iadd hx hb dX9_common_111 ?_
                refine lv_istore_n (lv' := [(3, .int (nI (c_ + 0))), (0, .ref m0), (1, .int (nI x)), (2, .int (nI y)), (4, .int (nI i2)), (5, .int (nI k))]) hx hb dX9_common_112 rfl hl (by decide) rfl (fun ls hl => ?_)
                refine lv_iinc (v := (nI (k + 1))) (lv' := [(5, .int (nI (k + 1))), (3, .int (nI (c_ + 0))), (0, .ref m0), (1, .int (nI x)), (2, .int (nI y)), (4, .int (nI i2))]) hx hb dX9_common_113 hl (k := 5) rfl (nx_inc _ 1) (by decide) rfl (fun ls hl => ?_)
                refine lv_goto (tgt := 8) hx hb dX9_common_116 (by decide) ?_
                exact ih_8 (k + 1) i2 (c_ + 0) (by omega) (by omega) (by omega) (by rw [comm_take (by omega), ← hc]; first | (rw [if_pos (hin.mpr ⟨by omega, by rw [← (hym i2 (by omega)).1, ← (hxm k (by omega)).1]; exact c_103⟩)]; done) | (rw [if_neg (fun h => by obtain ⟨h1, h2⟩ := hin.mp h; first | omega | exact c_103 (by rw [(hym i2 h1).1, (hxm k (by omega)).1]; exact h2))]; done)) (fun q hq h t ht h2 => Nat.lt_trans (hlt2 q hq h) (hxs.2.1 k t (by omega) ht (by omega))) _ _ _  hP hD hS (lv_sub hl [2, 3, 4, 1, 5, 0] rfl)
              · refine lv_aload_n hx hb dX9_common_77 rfl (lv_at hl 0 rfl) ?_
                refine va_get (D := D) (ci := 10) (v := .ref b16) (C := RX9) (T := TX9) (N := 32) hx hb hts hin_X9 hown hK hP 33 g33 rfl 16 (by decide) fl_75 (fun _ h9 => h9) rfl dX9_common_78 ?_
                refine lv_sipush (v := nI 800) hx hb dX9_common_81 (by decide) ?_
                refine lv_iload_n hx hb dX9_common_84 rfl (lv_at hl 2 rfl) ?_
                refine nx_imul hx hb dX9_common_85 ?_
                refine lv_iload hx hb dX9_common_86 (lv_at hl 4 rfl) ?_
                refine nx_iadd hx hb dX9_common_88 ?_
                refine nx_iald hx hb hK hP 42 1 g42 rfl (k := ((800 * y) + i2)) (by omega) (by decide) dX9_common_89 ?_
                refine lv_aload_n hx hb dX9_common_90 rfl (lv_at hl 0 rfl) ?_
                refine va_get (D := D) (ci := 10) (v := .ref b16) (C := RX9) (T := TX9) (N := 32) hx hb hts hin_X9 hown hK hP 33 g33 rfl 16 (by decide) fl_75 (fun _ h9 => h9) rfl dX9_common_91 ?_
                refine lv_sipush (v := nI 800) hx hb dX9_common_94 (by decide) ?_
                refine lv_iload_n hx hb dX9_common_97 rfl (lv_at hl 1 rfl) ?_
                refine nx_imul hx hb dX9_common_98 ?_
                refine lv_iload hx hb dX9_common_99 (lv_at hl 5 rfl) ?_
                refine nx_iadd hx hb dX9_common_101 ?_
                refine nx_iald hx hb hK hP 42 1 g42 rfl (k := ((800 * x) + k)) (by omega) (by decide) dX9_common_102 ?_
                refine nx_icmp_ne (tgt := 110) hx hb (by have := hym i2 (by omega); omega) (by have := hxm k (by omega); omega) dX9_common_103 (by decide) (fun c_103 => ?_) (fun c_103 => ?_)
                · refine lv_iconst (v := nI 0) hx hb dX9_common_110 (by decide) ?_
                  refine nx_iadd hx hb dX9_common_111 ?_
                  refine lv_istore_n (lv' := [(3, .int (nI (c_ + 0))), (0, .ref m0), (1, .int (nI x)), (2, .int (nI y)), (4, .int (nI i2)), (5, .int (nI k))]) hx hb dX9_common_112 rfl hl (by decide) rfl (fun ls hl => ?_)
                  refine lv_iinc (v := (nI (k + 1))) (lv' := [(5, .int (nI (k + 1))), (3, .int (nI (c_ + 0))), (0, .ref m0), (1, .int (nI x)), (2, .int (nI y)), (4, .int (nI i2))]) hx hb dX9_common_113 hl (k := 5) rfl (nx_inc _ 1) (by decide) rfl (fun ls hl => ?_)
                  refine lv_goto (tgt := 8) hx hb dX9_common_116 (by decide) ?_
                  exact ih_8 (k + 1) i2 (c_ + 0) (by omega) (by omega) (by omega) (by rw [comm_take (by omega), ← hc]; first | (rw [if_pos (hin.mpr ⟨by omega, by rw [← (hym i2 (by omega)).1, ← (hxm k (by omega)).1]; exact c_103⟩)]; done) | (rw [if_neg (fun h => by obtain ⟨h1, h2⟩ := hin.mp h; first | omega | exact c_103 (by rw [(hym i2 h1).1, (hxm k (by omega)).1]; exact h2))]; done)) (fun q hq h t ht h2 => Nat.lt_trans (hlt2 q hq h) (hxs.2.1 k t (by omega) ht (by omega))) _ _ _  hP hD hS (lv_sub hl [2, 3, 4, 1, 5, 0] rfl)
                · refine lv_iconst (v := nI 1) hx hb dX9_common_106 (by decide) ?_
                  refine lv_goto (tgt := 111) hx hb dX9_common_107 (by decide) ?_
                  refine nx_iadd hx hb dX9_common_111 ?_
                  refine lv_istore_n (lv' := [(3, .int (nI (c_ + 1))), (0, .ref m0), (1, .int (nI x)), (2, .int (nI y)), (4, .int (nI i2)), (5, .int (nI k))]) hx hb dX9_common_112 rfl hl (by decide) rfl (fun ls hl => ?_)
                  refine lv_iinc (v := (nI (k + 1))) (lv' := [(5, .int (nI (k + 1))), (3, .int (nI (c_ + 1))), (0, .ref m0), (1, .int (nI x)), (2, .int (nI y)), (4, .int (nI i2))]) hx hb dX9_common_113 hl (k := 5) rfl (nx_inc _ 1) (by decide) rfl (fun ls hl => ?_)
                  refine lv_goto (tgt := 8) hx hb dX9_common_116 (by decide) ?_
                  exact ih_8 (k + 1) i2 (c_ + 1) (by omega) (by omega) (by omega) (by rw [comm_take (by omega), ← hc]; first | (rw [if_pos (hin.mpr ⟨by omega, by rw [← (hym i2 (by omega)).1, ← (hxm k (by omega)).1]; exact c_103⟩)]; done) | (rw [if_neg (fun h => by obtain ⟨h1, h2⟩ := hin.mp h; first | omega | exact c_103 (by rw [(hym i2 h1).1, (hxm k (by omega)).1]; exact h2))]; done)) (fun q hq h t ht h2 => Nat.lt_trans (hlt2 q hq h) (hxs.2.1 k t (by omega) ht (by omega))) _ _ _  hP hD hS (lv_sub hl [2, 3, 4, 1, 5, 0] rfl)
            · refine lv_aload_n hx hb dX9_common_30 rfl (lv_at hl 0 rfl) ?_
              refine va_get (D := D) (ci := 10) (v := .ref b16) (C := RX9) (T := TX9) (N := 32) hx hb hts hin_X9 hown hK hP 33 g33 rfl 16 (by decide) fl_75 (fun _ h9 => h9) rfl dX9_common_31 ?_
              refine lv_sipush (v := nI 800) hx hb dX9_common_34 (by decide) ?_
              refine lv_iload_n hx hb dX9_common_37 rfl (lv_at hl 2 rfl) ?_
              refine nx_imul hx hb dX9_common_38 ?_
              refine lv_iload hx hb dX9_common_39 (lv_at hl 4 rfl) ?_
              refine nx_iadd hx hb dX9_common_41 ?_
              refine nx_iald hx hb hK hP 42 1 g42 rfl (k := ((800 * y) + i2)) (by omega) (by decide) dX9_common_42 ?_
              refine lv_aload_n hx hb dX9_common_43 rfl (lv_at hl 0 rfl) ?_
              refine va_get (D := D) (ci := 10) (v := .ref b16) (C := RX9) (T := TX9) (N := 32) hx hb hts hin_X9 hown hK hP 33 g33 rfl 16 (by decide) fl_75 (fun _ h9 => h9) rfl dX9_common_44 ?_
              refine lv_sipush (v := nI 800) hx hb dX9_common_47 (by decide) ?_
              refine lv_iload_n hx hb dX9_common_50 rfl (lv_at hl 1 rfl) ?_
              refine nx_imul hx hb dX9_common_51 ?_
              refine lv_iload hx hb dX9_common_52 (lv_at hl 5 rfl) ?_
              refine nx_iadd hx hb dX9_common_54 ?_
              refine nx_iald hx hb hK hP 42 1 g42 rfl (k := ((800 * x) + k)) (by omega) (by decide) dX9_common_55 ?_
              refine nx_icmp_ge (tgt := 65) hx hb (by have := hym i2 (by omega); omega) (by have := hxm k (by omega); omega) dX9_common_56 (by decide) (fun c_56 => ?_) (fun c_56 => ?_)
              · have hin := rise_in (x := A1[k]) hys.2.1 hlt2 hi2 (fun h => by rw [← (hym i2 h).1, ← (hxm k (by omega)).1]; exact c_56)
                refine lv_iload_n hx hb dX9_common_65 rfl (lv_at hl 3 rfl) ?_
                refine lv_iload hx hb dX9_common_66 (lv_at hl 4 rfl) ?_
                refine lv_aload_n hx hb dX9_common_68 rfl (lv_at hl 0 rfl) ?_
                refine va_get (D := D) (ci := 10) (v := .ref b15) (C := RX9) (T := TX9) (N := 32) hx hb hts hin_X9 hown hK hP 33 g33 rfl 15 (by decide) fl_78 (fun _ h9 => h9) rfl dX9_common_69 ?_
                refine lv_iload_n hx hb dX9_common_72 rfl (lv_at hl 2 rfl) ?_
                refine nx_iald hx hb hK hP 41 1 g41 rfl (k := y) (by omega) (by decide) dX9_common_73 ?_
                refine nx_icmp_ge (tgt := 110) hx hb (by omega) (by omega) dX9_common_74 (by decide) (fun c_74 => ?_) (fun c_74 => ?_)
                · refine lv_iconst (v := nI 0) hx hb dX9_common_110 (by decide) ?_
                  refine nx_iadd hx hb dX9_common_111 ?_
                  refine lv_istore_n (lv' := [(3, .int (nI (c_ + 0))), (0, .ref m0), (1, .int (nI x)), (2, .int (nI y)), (4, .int (nI i2)), (5, .int (nI k))]) hx hb dX9_common_112 rfl hl (by decide) rfl (fun ls hl => ?_)
                  refine lv_iinc (v := (nI (k + 1))) (lv' := [(5, .int (nI (k + 1))), (3, .int (nI (c_ + 0))), (0, .ref m0), (1, .int (nI x)), (2, .int (nI y)), (4, .int (nI i2))]) hx hb dX9_common_113 hl (k := 5) rfl (nx_inc _ 1) (by decide) rfl (fun ls hl => ?_)
                  refine lv_goto (tgt := 8) hx hb dX9_common_116 (by decide) ?_
                  exact ih_8 (k + 1) i2 (c_ + 0) (by omega) (by omega) (by omega) (by rw [comm_take (by omega), ← hc]; first | (rw [if_pos (hin.mpr ⟨by omega, by rw [← (hym i2 (by omega)).1, ← (hxm k (by omega)).1]; exact c_103⟩)]; done) | (rw [if_neg (fun h => by obtain ⟨h1, h2⟩ := hin.mp h; first | omega | exact c_103 (by rw [(hym i2 h1).1, (hxm k (by omega)).1]; exact h2))]; done)) (fun q hq h t ht h2 => Nat.lt_trans (hlt2 q hq h) (hxs.2.1 k t (by omega) ht (by omega))) _ _ _  hP hD hS (lv_sub hl [2, 3, 4, 1, 5, 0] rfl)
                · refine lv_aload_n hx hb dX9_common_77 rfl (lv_at hl 0 rfl) ?_
                  refine va_get (D := D) (ci := 10) (v := .ref b16) (C := RX9) (T := TX9) (N := 32) hx hb hts hin_X9 hown hK hP 33 g33 rfl 16 (by decide) fl_75 (fun _ h9 => h9) rfl dX9_common_78 ?_
                  refine lv_sipush (v := nI 800) hx hb dX9_common_81 (by decide) ?_
                  refine lv_iload_n hx hb dX9_common_84 rfl (lv_at hl 2 rfl) ?_
                  refine nx_imul hx hb dX9_common_85 ?_
                  refine lv_iload hx hb dX9_common_86 (lv_at hl 4 rfl) ?_
                  refine nx_iadd hx hb dX9_common_88 ?_
                  refine nx_iald hx hb hK hP 42 1 g42 rfl (k := ((800 * y) + i2)) (by omega) (by decide) dX9_common_89 ?_
                  refine lv_aload_n hx hb dX9_common_90 rfl (lv_at hl 0 rfl) ?_
                  refine va_get (D := D) (ci := 10) (v := .ref b16) (C := RX9) (T := TX9) (N := 32) hx hb hts hin_X9 hown hK hP 33 g33 rfl 16 (by decide) fl_75 (fun _ h9 => h9) rfl dX9_common_91 ?_
                  refine lv_sipush (v := nI 800) hx hb dX9_common_94 (by decide) ?_
                  refine lv_iload_n hx hb dX9_common_97 rfl (lv_at hl 1 rfl) ?_
                  refine nx_imul hx hb dX9_common_98 ?_
                  refine lv_iload hx hb dX9_common_99 (lv_at hl 5 rfl) ?_
                  refine nx_iadd hx hb dX9_common_101 ?_
                  refine nx_iald hx hb hK hP 42 1 g42 rfl (k := ((800 * x) + k)) (by omega) (by decide) dX9_common_102 ?_
                  refine nx_icmp_ne (tgt := 110) hx hb (by have := hym i2 (by omega); omega) (by have := hxm k (by omega); omega) dX9_common_103 (by decide) (fun c_103 => ?_) (fun c_103 => ?_)
                  · refine lv_iconst (v := nI 0) hx hb dX9_common_110 (by decide) ?_
                    refine nx_iadd hx hb dX9_common_111 ?_
                    refine lv_istore_n (lv' := [(3, .int (nI (c_ + 0))), (0, .ref m0), (1, .int (nI x)), (2, .int (nI y)), (4, .int (nI i2)), (5, .int (nI k))]) hx hb dX9_common_112 rfl hl (by decide) rfl (fun ls hl => ?_)
                    refine lv_iinc (v := (nI (k + 1))) (lv' := [(5, .int (nI (k + 1))), (3, .int (nI (c_ + 0))), (0, .ref m0), (1, .int (nI x)), (2, .int (nI y)), (4, .int (nI i2))]) hx hb dX9_common_113 hl (k := 5) rfl (nx_inc _ 1) (by decide) rfl (fun ls hl => ?_)
                    refine lv_goto (tgt := 8) hx hb dX9_common_116 (by decide) ?_
                    exact ih_8 (k + 1) i2 (c_ + 0) (by omega) (by omega) (by omega) (by rw [comm_take (by omega), ← hc]; first | (rw [if_pos (hin.mpr ⟨by omega, by rw [← (hym i2 (by omega)).1, ← (hxm k (by omega)).1]; exact c_103⟩)]; done) | (rw [if_neg (fun h => by obtain ⟨h1, h2⟩ := hin.mp h; first | omega | exact c_103 (by rw [(hym i2 h1).1, (hxm k (by omega)).1]; exact h2))]; done)) (fun q hq h t ht h2 => Nat.lt_trans (hlt2 q hq h) (hxs.2.1 k t (by omega) ht (by omega))) _ _ _  hP hD hS (lv_sub hl [2, 3, 4, 1, 5, 0] rfl)
                  · refine lv_iconst (v := nI 1) hx hb dX9_common_106 (by decide) ?_
                    refine lv_goto (tgt := 111) hx hb dX9_common_107 (by decide) ?_
                    refine nx_iadd hx hb dX9_common_111 ?_
                    refine lv_istore_n (lv' := [(3, .int (nI (c_ + 1))), (0, .ref m0), (1, .int (nI x)), (2, .int (nI y)), (4, .int (nI i2)), (5, .int (nI k))]) hx hb dX9_common_112 rfl hl (by decide) rfl (fun ls hl => ?_)
                    refine lv_iinc (v := (nI (k + 1))) (lv' := [(5, .int (nI (k + 1))), (3, .int (nI (c_ + 1))), (0, .ref m0), (1, .int (nI x)), (2, .int (nI y)), (4, .int (nI i2))]) hx hb dX9_common_113 hl (k := 5) rfl (nx_inc _ 1) (by decide) rfl (fun ls hl => ?_)
                    refine lv_goto (tgt := 8) hx hb dX9_common_116 (by decide) ?_
                    exact ih_8 (k + 1) i2 (c_ + 1) (by omega) (by omega) (by omega) (by rw [comm_take (by omega), ← hc]; first | (rw [if_pos (hin.mpr ⟨by omega, by rw [← (hym i2 (by omega)).1, ← (hxm k (by omega)).1]; exact c_103⟩)]; done) | (rw [if_neg (fun h => by obtain ⟨h1, h2⟩ := hin.mp h; first | omega | exact c_103 (by rw [(hym i2 h1).1, (hxm k (by omega)).1]; exact h2))]; done)) (fun q hq h t ht h2 => Nat.lt_trans (hlt2 q hq h) (hxs.2.1 k t (by omega) ht (by omega))) _ _ _  hP hD hS (lv_sub hl [2, 3, 4, 1, 5, 0] rfl)
              · refine lv_iinc (v := (nI (i2 + 1))) (lv' := [(4, .int (nI (i2 + 1))), (0, .ref m0), (1, .int (nI x)), (2, .int (nI y)), (3, .int (nI c_)), (5, .int (nI k))]) hx hb dX9_common_59 hl (k := 4) rfl (nx_inc _ 1) (by decide) rfl (fun ls hl => ?_)
                refine lv_goto (tgt := 19) hx hb dX9_common_62 (by decide) ?_
                exact ih_19 (i2 + 1) (by omega) (by omega) (fun q hq h => (Nat.lt_or_eq_of_le (Nat.le_of_lt_succ h)).elim (hlt2 q hq) (fun e2 => by subst e2; rw [← (hym q hq).1, ← (hxm k (by omega)).1]; exact c_56)) _ _ _  hP hD hS (lv_sub hl [1, 2, 3, 4, 0, 5] rfl)
        exact lp_19 _ i (Nat.lt_succ_self _) hi (fun q hq h => hlt q hq h k (by omega) (Nat.le_refl _)) _ _ _  hP hD hS (lv_sub hl [0, 1, 2, 3, 4, 5] rfl)
  exact lp_8 _ 0 0 0 (Nat.lt_succ_self _) (Nat.zero_le _) (Nat.zero_le _) rfl (fun q _ h => absurd h (Nat.not_lt_zero q)) _ _ _  hP hD hS (lv_sub hl [3, 4, 5, 2, 1, 0] rfl)
