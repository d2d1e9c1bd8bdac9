set_option maxHeartbeats 4000000 in
set_option maxRecDepth 100000 in
theorem c_X9_nearest {D : va_G} {cB cI cJ cO : ClassId} {l : Launch} {m0 b1 b2 b5 b6 b7 b12 b14 b15 b16 b20 b21 b22 b23 b24 b26 b31 th len ps nm bt_ so wi fm dn ca sta xn bb rr pp qq : Nat} {gn gm gs : Nat → Nat} {docs : List (Nat × List Nat)} {xa ii : Int32} {ws : va_W} (g33 : ws[33]? = some (m0, .inr (10, [.int (nI th), .ref b1, .ref b2, .int (nI len), .int (nI ps), .ref b5, .ref b6, .ref b7, .int (nI nm), .int (nI bt_), .int (nI so), .int (nI wi), .ref b12, .int (nI fm), .ref b14, .ref b15, .ref b16, .int (nI dn), .int (nI ca), .int (nI sta), .ref b20, .ref b21, .ref b22, .ref b23, .ref b24, .int (nI xn), .ref b26, .int (nI bb), .int (nI rr), .int (nI pp), .int (nI qq), .ref b31]))) (g40 : ws[40]? = some (b14, .inl (cI, 48, .inl (fun jj => nI (gn jj))))) (g41 : ws[41]? = some (b15, .inl (cI, 48, .inl (fun jj => nI (gm jj))))) (g42 : ws[42]? = some (b16, .inl (cI, 38400, .inl (fun jj => nI (gs jj))))) (hdd : HdD gn gm gs docs) (hdn : docs.length = dn) (h48 : dn ≤ 48) (hds : Dsm docs) : CI D (TY cB cI cJ cO) l yX9_nearest wsX9_nearest ({ frames := 2, cells := 0, slots := 0, locals := 56 }) [.ref m0, .int xa, .int ii] ws (fun r ws' => r = nearR docs xa ii ∧ Sm (fun k => k = 33) ws ws' ∧ ws'[33]? = some (m0, .inr (10, [.int (nI ((slotOf (docs.map (fun d => d.1)) xa).isNone.toNat)), .ref b1, .ref b2, .int (nI len), .int (nI ps), .ref b5, .ref b6, .ref b7, .int (nI nm), .int (nI bt_), .int (nI so), .int (nI wi), .ref b12, .int (nI fm), .ref b14, .ref b15, .ref b16, .int (nI dn), .int (nI ca), .int (nI sta), .ref b20, .ref b21, .ref b22, .ref b23, .ref b24, .int (nI xn), .ref b26, .int (nI bb), .int (nI rr), .int (nI pp), .int (nI qq), .ref b31]))) := by
  refine CI.of (cc := cX9_nearest) (maxL := 7) (ret := (some .int)) (by decide) rfl (Nat.le_of_ble_eq_true rfl) ?_
  intro p e s m below meth c A C hK hP hD hA hS ls hl
  obtain ⟨hx, hb, hr, hml, hts, hown, hlocks, hnm⟩ := id C
  have fl_65 := hts (.fieldLink RX9 65 "TwinFinderModel" "documents" "I") (by decide +kernel)
  have fl_81 := hts (.fieldLink RX9 81 "TwinFinderModel" "number" "[I") (by decide +kernel)
  have hin_X9 : ∀ w ∈ u_ws RX9 TX9 32, w ∈ wsX9_nearest := by decide +kernel
  have hl : lv_has ls 7 [(0, .ref m0), (1, .int xa), (2, .int ii)] := hl
  have sm : Sm (fun k => k = 33) ws ws := Sm.rf
  have hc0 : (0 : Nat) ≤ 0 := by decide
  have hs0 : (0 : Nat) ≤ 0 := by decide
  refine lv_aload_n hx hb dX9_nearest_0 rfl (lv_at hl 0 rfl) ?_
  refine lv_iload_n hx hb dX9_nearest_1 rfl (lv_at hl 1 rfl) ?_
  refine CI.go (va_runV (As := [.int xa]) (rest := []) ⟨hx, hb, hml, hown, hts⟩ (c_X9_slot  g33 g40 hdd.num (by rw [List.length_map]; exact hdn) h48 _) (cwV 1 hts gX9_nearest_X9_slot rfl rfl rfl (by decide +kernel) ⟨Nat.le_of_ble_eq_true rfl, Nat.le_of_ble_eq_true rfl⟩) ⟨pw_blind, va_recv hK hP (ci := 10) (q0 := 33) rfl g33, fun U hU hW => pw_pre hK hP hD hU hW⟩ rfl rfl hl.1 rfl (lv_room (Nat.le_of_ble_eq_true rfl)) dX9_nearest_2 ⟨by decide, by decide⟩) hD hS hA (fun r_1 ws_2 H locs hp hP hD hS => ?_)
  obtain ⟨rfl, rfl⟩ := hp
  rcases hsl_k : slotOf (docs.map (fun d => d.1)) xa with _ | k
  · rw [show optI (slotOf (docs.map (fun d => d.1)) xa) = -1 from by rw [hsl_k]; rfl]
    refine lv_istore_n (lv' := [(3, .int (-1)), (0, .ref m0), (1, .int xa), (2, .int ii)]) hx hb dX9_nearest_5 rfl hl (by decide) rfl (fun ls hl => ?_)
    refine lv_aload_n hx hb dX9_nearest_6 rfl (lv_at hl 1 rfl) ?_
    refine lv_iload_n hx hb dX9_nearest_7 rfl (lv_at hl 0 rfl) ?_
    refine lv_if_ge (tgt := 15) hx hb dX9_nearest_8 (by decide) (fun c_8 => absurd c_8 (by decide)) (fun c_8 => ?_)
    refine lv_iconst (v := nI 1) hx hb dX9_nearest_11 (by decide) ?_
    refine lv_goto (tgt := 16) hx hb dX9_nearest_12 (by decide) ?_
    refine CI.go (va_runV (As := [.int (nI 1)]) (rest := []) ⟨hx, hb, hml, hown, hts⟩ (c_X9_throwsIf (b := true) g33  _) (cwV 1 hts gX9_nearest_X9_throwsIf rfl rfl rfl (by decide +kernel) ⟨Nat.le_of_ble_eq_true rfl, Nat.le_of_ble_eq_true rfl⟩) ⟨pw_blind, va_recv hK hP (ci := 10) (q0 := 33) rfl g33, fun U hU hW => pw_pre hK hP hD hU hW⟩ rfl rfl hl.1 rfl (lv_room (Nat.le_of_ble_eq_true rfl)) dX9_nearest_16 ⟨by decide, by decide⟩) hD hS hA (fun r_3 ws_4 H locs hp hP hD hS => ?_)
    obtain ⟨rfl, sm_5, g33⟩ := hp
    have g40 := sm_5.get g40 (by simp)
    have g41 := sm_5.get g41 (by simp)
    have g42 := sm_5.get g42 (by simp)
    have sm := sm.call sm_5 (by intro k hk; (try simp only at hk ⊢); omega)
    have g33 : ws_4[33]? = some (m0, .inr (10, [.int (nI 1), .ref b1, .ref b2, .int (nI len), .int (nI ps), .ref b5, .ref b6, .ref b7, .int (nI nm), .int (nI bt_), .int (nI so), .int (nI wi), .ref b12, .int (nI fm), .ref b14, .ref b15, .ref b16, .int (nI dn), .int (nI ca), .int (nI sta), .ref b20, .ref b21, .ref b22, .ref b23, .ref b24, .int (nI xn), .ref b26, .int (nI bb), .int (nI rr), .int (nI pp), .int (nI qq), .ref b31])) := g33
    refine lv_if_eq (tgt := 24) hx hb dX9_nearest_19 (by decide) (fun c_19 => absurd c_19 (by decide)) (fun c_19 => ?_)
    refine lv_iconst (v := nI 0) hx hb dX9_nearest_22 (by decide) ?_
    have g33 : ws_4[33]? = some (m0, .inr (10, [.int (nI ((slotOf (docs.map (fun d => d.1)) xa).isNone.toNat)), .ref b1, .ref b2, .int (nI len), .int (nI ps), .ref b5, .ref b6, .ref b7, .int (nI nm), .int (nI bt_), .int (nI so), .int (nI wi), .ref b12, .int (nI fm), .ref b14, .ref b15, .ref b16, .int (nI dn), .int (nI ca), .int (nI sta), .ref b20, .ref b21, .ref b22, .ref b23, .ref b24, .int (nI xn), .ref b26, .int (nI bb), .int (nI rr), .int (nI pp), .int (nI qq), .ref b31])) := by rw [hsl_k]; exact g33
    exact CI.ret (v := (nI 0)) C hK hP hD hS rfl (⟨(by rw [nearR, hsl_k]; rfl), sm, g33⟩) hc0 hs0 dX9_nearest_23
  · rw [show optI (slotOf (docs.map (fun d => d.1)) xa) = nI k from by rw [hsl_k]; rfl]
    have hkn : k < dn := by have := (slotOf_lt hsl_k).1; rw [List.length_map, hdn] at this; exact this
    have hkr := hdd k (by omega)
    have hks := hds docs[k] (List.getElem_mem _)
    refine lv_istore_n (lv' := [(3, .int (nI k)), (0, .ref m0), (1, .int xa), (2, .int ii)]) hx hb dX9_nearest_5 rfl hl (by decide) rfl (fun ls hl => ?_)
    refine lv_aload_n hx hb dX9_nearest_6 rfl (lv_at hl 1 rfl) ?_
    refine lv_iload_n hx hb dX9_nearest_7 rfl (lv_at hl 0 rfl) ?_
    refine nx_if_ge (tgt := 15) hx hb (by omega) dX9_nearest_8 (by decide) ?_
    refine lv_iconst (v := nI 0) hx hb dX9_nearest_15 (by decide) ?_
    refine CI.go (va_runV (As := [.int (nI 0)]) (rest := []) ⟨hx, hb, hml, hown, hts⟩ (c_X9_throwsIf (b := false) g33  _) (cwV 1 hts gX9_nearest_X9_throwsIf rfl rfl rfl (by decide +kernel) ⟨Nat.le_of_ble_eq_true rfl, Nat.le_of_ble_eq_true rfl⟩) ⟨pw_blind, va_recv hK hP (ci := 10) (q0 := 33) rfl g33, fun U hU hW => pw_pre hK hP hD hU hW⟩ rfl rfl hl.1 rfl (lv_room (Nat.le_of_ble_eq_true rfl)) dX9_nearest_16 ⟨by decide, by decide⟩) hD hS hA (fun r_6 ws_7 H locs hp hP hD hS => ?_)
    obtain ⟨rfl, sm_8, g33⟩ := hp
    have g40 := sm_8.get g40 (by simp)
    have g41 := sm_8.get g41 (by simp)
    have g42 := sm_8.get g42 (by simp)
    have sm := sm.call sm_8 (by intro k hk; (try simp only at hk ⊢); omega)
    have g33 : ws_7[33]? = some (m0, .inr (10, [.int (nI 0), .ref b1, .ref b2, .int (nI len), .int (nI ps), .ref b5, .ref b6, .ref b7, .int (nI nm), .int (nI bt_), .int (nI so), .int (nI wi), .ref b12, .int (nI fm), .ref b14, .ref b15, .ref b16, .int (nI dn), .int (nI ca), .int (nI sta), .ref b20, .ref b21, .ref b22, .ref b23, .ref b24, .int (nI xn), .ref b26, .int (nI bb), .int (nI rr), .int (nI pp), .int (nI qq), .ref b31])) := g33
    refine lv_if_eq (tgt := 24) hx hb dX9_nearest_19 (by decide) (fun c_19 => ?_) (fun c_19 => absurd (by decide) c_19)
    refine lv_iload_n hx hb dX9_nearest_24 rfl (lv_at hl 3 rfl) ?_
    refine lv_if_lt (tgt := 38) hx hb dX9_nearest_25 (by decide) (fun c_25 => ?_) (fun c_25 => ?_)
    · refine lv_iconst (v := -1) hx hb dX9_nearest_38 (by decide) ?_
      have g33 : ws_7[33]? = some (m0, .inr (10, [.int (nI ((slotOf (docs.map (fun d => d.1)) xa).isNone.toNat)), .ref b1, .ref b2, .int (nI len), .int (nI ps), .ref b5, .ref b6, .ref b7, .int (nI nm), .int (nI bt_), .int (nI so), .int (nI wi), .ref b12, .int (nI fm), .ref b14, .ref b15, .ref b16, .int (nI dn), .int (nI ca), .int (nI sta), .ref b20, .ref b21, .ref b22, .ref b23, .ref b24, .int (nI xn), .ref b26, .int (nI bb), .int (nI rr), .int (nI pp), .int (nI qq), .ref b31])) := by rw [hsl_k]; exact g33
      exact CI.ret (v := (-1)) C hK hP hD hS rfl (⟨(by first | rw [near_no hsl_k (Or.inl c_25)] | rw [near_no hsl_k (Or.inr (by rw [hdn]; exact c_35))]), sm, g33⟩) hc0 hs0 dX9_nearest_39
    · refine lv_iload_n hx hb dX9_nearest_28 rfl (lv_at hl 3 rfl) ?_
      refine lv_aload_n hx hb dX9_nearest_29 rfl (lv_at hl 1 rfl) ?_
      refine va_get (D := D) (ci := 10) (v := .int (nI dn)) (C := RX9) (T := TX9) (N := 32) hx hb hts hin_X9 hown hK hP 33 g33 rfl 17 (by decide) fl_65 (fun _ h9 => h9) rfl dX9_nearest_30 ?_
      refine lv_iconst (v := nI 1) hx hb dX9_nearest_33 (by decide) ?_
      refine nx_isub hx hb (by omega) dX9_nearest_34 ?_
      refine lv_icmp_lt (tgt := 40) hx hb dX9_nearest_35 (by decide) (fun c_35 => ?_) (fun c_35 => ?_)
      · obtain ⟨i1, hi1, rfl⟩ := nI_of c_25
        have hi2 : i1 < dn - 1 := nI_lt' (by omega) c_35 hi1
        refine lv_iconst (v := nI 0) hx hb dX9_nearest_40 (by decide) ?_
        refine lv_istore (lv' := [(4, .int (nI 0)), (3, .int (nI k)), (0, .ref m0), (1, .int xa), (2, .int (nI i1))]) hx hb dX9_nearest_41 hl (by decide) rfl (fun ls hl => ?_)
        have lp_43 : ∀ (fuel : Nat) (t : Nat), dn - t < fuel → (t ≤ dn) → (∀ u, u < t → u ≠ k → ¬ cntB (aheadM docs k u) docs.length = i1) → ∀ (ws1 : va_W) (H : Heap) (locs : List Loc) (ls : Array Slot), Sm (fun k => k = 33) ws ws1 → ws1[33]? = some (m0, .inr (10, [.int (nI 0), .ref b1, .ref b2, .int (nI len), .int (nI ps), .ref b5, .ref b6, .ref b7, .int (nI nm), .int (nI bt_), .int (nI so), .int (nI wi), .ref b12, .int (nI fm), .ref b14, .ref b15, .ref b16, .int (nI dn), .int (nI ca), .int (nI sta), .ref b20, .ref b21, .ref b22, .ref b23, .ref b24, .int (nI xn), .ref b26, .int (nI bb), .int (nI rr), .int (nI pp), .int (nI qq), .ref b31])) → ws1[40]? = some (b14, .inl (cI, 48, .inl (fun jj => nI (gn jj)))) → ws1[41]? = some (b15, .inl (cI, 48, .inl (fun jj => nI (gm jj)))) → ws1[42]? = some (b16, .inl (cI, 38400, .inl (fun jj => nI (gs jj)))) → va_P D vwCl ws1 H → va_D A ws1 → va_S A s.heap H locs → lv_has ls 7 [(0, .ref m0), (1, .int xa), (2, .int (nI i1)), (3, .int (nI k)), (4, .int (nI t))] → W p l e ({ frames := 2, cells := 0, slots := 0, locals := 56 }) s m ([.ref m0, .int xa, .int (nI i1)] : List Value).toArray below meth c H locs 0 0 (ZI D (TY cB cI cJ cO) (fun r ws' => r = nearR docs xa (nI i1) ∧ Sm (fun k => k = 33) ws ws' ∧ ws'[33]? = some (m0, .inr (10, [.int (nI ((slotOf (docs.map (fun d => d.1)) xa).isNone.toNat)), .ref b1, .ref b2, .int (nI len), .int (nI ps), .ref b5, .ref b6, .ref b7, .int (nI nm), .int (nI bt_), .int (nI so), .int (nI wi), .ref b12, .int (nI fm), .ref b14, .ref b15, .ref b16, .int (nI dn), .int (nI ca), .int (nI sta), .ref b20, .ref b21, .ref b22, .ref b23, .ref b24, .int (nI xn), .ref b26, .int (nI bb), .int (nI rr), .int (nI pp), .int (nI qq), .ref b31]))) below [.ref m0, .int xa, .int (nI i1)] s 0 0 A) (F0 m 43 ls []) := by
          intro fuel
          induction fuel with
          | zero => intro t hfu; exact absurd hfu (Nat.not_lt_zero _)
          | succ fuel ih_43 =>
            intro t hfu_43 ht hno ws1 H locs ls sm g33 g40 g41 g42 hP hD hS hl
            refine lv_iload hx hb dX9_nearest_43 (lv_at hl 4 rfl) ?_
            refine lv_aload_n hx hb dX9_nearest_45 rfl (lv_at hl 0 rfl) ?_
            refine va_get (D := D) (ci := 10) (v := .int (nI dn)) (C := RX9) (T := TX9) (N := 32) hx hb hts hin_X9 hown hK hP 33 g33 rfl 17 (by decide) fl_65 (fun _ h9 => h9) rfl dX9_nearest_46 ?_
            refine nx_icmp_ge (tgt := 137) hx hb (by omega) (by omega) dX9_nearest_49 (by decide) (fun c_49 => ?_) (fun c_49 => ?_)
            · refine lv_iconst (v := -1) hx hb dX9_nearest_137 (by decide) ?_
              have g33 : ws1[33]? = some (m0, .inr (10, [.int (nI ((slotOf (docs.map (fun d => d.1)) xa).isNone.toNat)), .ref b1, .ref b2, .int (nI len), .int (nI ps), .ref b5, .ref b6, .ref b7, .int (nI nm), .int (nI bt_), .int (nI so), .int (nI wi), .ref b12, .int (nI fm), .ref b14, .ref b15, .ref b16, .int (nI dn), .int (nI ca), .int (nI sta), .ref b20, .ref b21, .ref b22, .ref b23, .ref b24, .int (nI xn), .ref b26, .int (nI bb), .int (nI rr), .int (nI pp), .int (nI qq), .ref b31])) := by rw [hsl_k]; exact g33
              exact CI.ret (v := (-1)) C hK hP hD hS rfl (⟨(by rw [near_at hsl_k hi1 (by omega) (by omega), nearF_none (fun u hu => hno u (by omega))]), sm, g33⟩) hc0 hs0 dX9_nearest_138
            · refine lv_iload hx hb dX9_nearest_52 (lv_at hl 4 rfl) ?_
              refine lv_iload_n hx hb dX9_nearest_54 rfl (lv_at hl 3 rfl) ?_
              refine nx_icmp_ne (tgt := 61) hx hb (by omega) (by omega) dX9_nearest_55 (by decide) (fun c_55 => ?_) (fun c_55 => ?_)
              · refine lv_iconst (v := nI 0) hx hb dX9_nearest_61 (by decide) ?_
                refine lv_istore (lv' := [(5, .int (nI 0)), (0, .ref m0), (1, .int xa), (2, .int (nI i1)), (3, .int (nI k)), (4, .int (nI t))]) hx hb dX9_nearest_62 hl (by decide) rfl (fun ls hl => ?_)
                refine lv_iconst (v := nI 0) hx hb dX9_nearest_64 (by decide) ?_
                refine lv_istore (lv' := [(6, .int (nI 0)), (5, .int (nI 0)), (0, .ref m0), (1, .int xa), (2, .int (nI i1)), (3, .int (nI k)), (4, .int (nI t))]) hx hb dX9_nearest_65 hl (by decide) rfl (fun ls hl => ?_)
                have lp_67 : ∀ (fuel : Nat) (u : Nat), dn - u < fuel → (u ≤ dn) → ∀ (ws1 : va_W) (H : Heap) (locs : List Loc) (ls : Array Slot), Sm (fun k => k = 33) ws ws1 → ws1[33]? = some (m0, .inr (10, [.int (nI 0), .ref b1, .ref b2, .int (nI len), .int (nI ps), .ref b5, .ref b6, .ref b7, .int (nI nm), .int (nI bt_), .int (nI so), .int (nI wi), .ref b12, .int (nI fm), .ref b14, .ref b15, .ref b16, .int (nI dn), .int (nI ca), .int (nI sta), .ref b20, .ref b21, .ref b22, .ref b23, .ref b24, .int (nI xn), .ref b26, .int (nI bb), .int (nI rr), .int (nI pp), .int (nI qq), .ref b31])) → ws1[40]? = some (b14, .inl (cI, 48, .inl (fun jj => nI (gn jj)))) → ws1[41]? = some (b15, .inl (cI, 48, .inl (fun jj => nI (gm jj)))) → ws1[42]? = some (b16, .inl (cI, 38400, .inl (fun jj => nI (gs jj)))) → va_P D vwCl ws1 H → va_D A ws1 → va_S A s.heap H locs → lv_has ls 7 [(0, .ref m0), (1, .int xa), (2, .int (nI i1)), (3, .int (nI k)), (4, .int (nI t)), (5, .int (nI (cntB (aheadM docs k t) u))), (6, .int (nI u))] → W p l e ({ frames := 2, cells := 0, slots := 0, locals := 56 }) s m ([.ref m0, .int xa, .int (nI i1)] : List Value).toArray below meth c H locs 0 0 (ZI D (TY cB cI cJ cO) (fun r ws' => r = nearR docs xa (nI i1) ∧ Sm (fun k => k = 33) ws ws' ∧ ws'[33]? = some (m0, .inr (10, [.int (nI ((slotOf (docs.map (fun d => d.1)) xa).isNone.toNat)), .ref b1, .ref b2, .int (nI len), .int (nI ps), .ref b5, .ref b6, .ref b7, .int (nI nm), .int (nI bt_), .int (nI so), .int (nI wi), .ref b12, .int (nI fm), .ref b14, .ref b15, .ref b16, .int (nI dn), .int (nI ca), .int (nI sta), .ref b20, .ref b21, .ref b22, .ref b23, .ref b24, .int (nI xn), .ref b26, .int (nI bb), .int (nI rr), .int (nI pp), .int (nI qq), .ref b31]))) below [.ref m0, .int xa, .int (nI i1)] s 0 0 A) (F0 m 67 ls []) := by
                  intro fuel
                  induction fuel with
                  | zero => intro u hfu; exact absurd hfu (Nat.not_lt_zero _)
                  | succ fuel ih_67 =>
                    intro u hfu_67 hu ws1 H locs ls sm g33 g40 g41 g42 hP hD hS hl
                    refine lv_iload hx hb dX9_nearest_67 (lv_at hl 6 rfl) ?_
                    refine lv_aload_n hx hb dX9_nearest_69 rfl (lv_at hl 0 rfl) ?_
                    refine va_get (D := D) (ci := 10) (v := .int (nI dn)) (C := RX9) (T := TX9) (N := 32) hx hb hts hin_X9 hown hK hP 33 g33 rfl 17 (by decide) fl_65 (fun _ h9 => h9) rfl dX9_nearest_70 ?_
                    refine nx_icmp_ge (tgt := 117) hx hb (by omega) (by omega) dX9_nearest_73 (by decide) (fun c_73 => ?_) (fun c_73 => ?_)
                    · refine lv_iload hx hb dX9_nearest_117 (lv_at hl 5 rfl) ?_
                      refine lv_iload_n hx hb dX9_nearest_119 rfl (lv_at hl 2 rfl) ?_
                      refine nx_icmp_ne (tgt := 131) hx hb (by have := cntB_le (aheadM docs k t) u; omega) (by omega) dX9_nearest_120 (by decide) (fun c_120 => ?_) (fun c_120 => ?_)
                      · refine lv_iinc (v := (nI (t + 1))) (lv' := [(4, .int (nI (t + 1))), (0, .ref m0), (1, .int xa), (2, .int (nI i1)), (3, .int (nI k)), (5, .int (nI (cntB (aheadM docs k t) u))), (6, .int (nI u))]) hx hb dX9_nearest_131 hl (k := 4) rfl (nx_inc _ 1) (by decide) rfl (fun ls hl => ?_)
                        refine lv_goto (tgt := 43) hx hb dX9_nearest_134 (by decide) ?_
                        exact ih_43 (t + 1) (by omega) (by omega) (lt_s hno (fun h9 => by first | exact absurd c_55 h9 | (rw [hdn, ← show u = dn by omega]; exact c_120))) _ _ _ _ sm g33 g40 g41 g42 hP hD hS (lv_sub hl [1, 2, 3, 4, 0] rfl)
                      · refine lv_aload_n hx hb dX9_nearest_123 rfl (lv_at hl 0 rfl) ?_
                        refine va_get (D := D) (ci := 10) (v := .ref b14) (C := RX9) (T := TX9) (N := 32) hx hb hts hin_X9 hown hK hP 33 g33 rfl 14 (by decide) fl_81 (fun _ h9 => h9) rfl dX9_nearest_124 ?_
                        refine lv_iload hx hb dX9_nearest_127 (lv_at hl 4 rfl) ?_
                        refine nx_iald hx hb hK hP 40 1 g40 rfl (k := t) (by omega) (by decide) dX9_nearest_129 ?_
                        have g33 : ws1[33]? = some (m0, .inr (10, [.int (nI ((slotOf (docs.map (fun d => d.1)) xa).isNone.toNat)), .ref b1, .ref b2, .int (nI len), .int (nI ps), .ref b5, .ref b6, .ref b7, .int (nI nm), .int (nI bt_), .int (nI so), .int (nI wi), .ref b12, .int (nI fm), .ref b14, .ref b15, .ref b16, .int (nI dn), .int (nI ca), .int (nI sta), .ref b20, .ref b21, .ref b22, .ref b23, .ref b24, .int (nI xn), .ref b26, .int (nI bb), .int (nI rr), .int (nI pp), .int (nI qq), .ref b31])) := by rw [hsl_k]; exact g33
                        exact CI.ret (v := (nI (gn t))) C hK hP hD hS rfl (⟨(by rw [near_at hsl_k hi1 (by omega) (by omega), nearF_some (t := t) (by omega) c_55 (by rw [hdn, ← show u = dn by omega]; exact c_120) hno]; show nI (gn t) = nI (docs.getD t (0, [])).1; rw [gD_at (by omega), (hdd t (by omega)).1]), sm, g33⟩) hc0 hs0 dX9_nearest_130
                    · refine lv_iload hx hb dX9_nearest_76 (lv_at hl 5 rfl) ?_
                      refine lv_iload hx hb dX9_nearest_78 (lv_at hl 6 rfl) ?_
                      refine lv_iload_n hx hb dX9_nearest_80 rfl (lv_at hl 3 rfl) ?_
                      refine nx_icmp_eq (tgt := 107) hx hb (by omega) (by omega) dX9_nearest_81 (by decide) (fun c_81 => ?_) (fun c_81 => ?_)
                      · refine lv_iconst (v := nI 0) hx hb dX9_nearest_107 (by decide) ?_
                        refine nx_iadd hx hb dX9_nearest_108 ?_
                        refine lv_istore (lv' := [(5, .int (nI ((cntB (aheadM docs k t) u) + 0))), (0, .ref m0), (1, .int xa), (2, .int (nI i1)), (3, .int (nI k)), (4, .int (nI t)), (6, .int (nI u))]) hx hb dX9_nearest_109 hl (by decide) rfl (fun ls hl => ?_)
                        refine lv_iinc (v := (nI (u + 1))) (lv' := [(6, .int (nI (u + 1))), (5, .int (nI ((cntB (aheadM docs k t) u) + 0))), (0, .ref m0), (1, .int xa), (2, .int (nI i1)), (3, .int (nI k)), (4, .int (nI t))]) hx hb dX9_nearest_111 hl (k := 6) rfl (nx_inc _ 1) (by decide) rfl (fun ls hl => ?_)
                        refine lv_goto (tgt := 67) hx hb dX9_nearest_114 (by decide) ?_
                        have hl : lv_has ls 7 [(6, .int (nI (u + 1))), (5, .int (nI (cntB (aheadM docs k t) (u + 1)))), (0, .ref m0), (1, .int xa), (2, .int (nI i1)), (3, .int (nI k)), (4, .int (nI t))] := by rw [← show (cntB (aheadM docs k t) u) + 0 = cntB (aheadM docs k t) (u + 1) from (by rw [cntB, aheadM, decide_eq_false (fun h => h c_81)]; rfl)]; exact hl
                        exact ih_67 (u + 1) (by omega) (by omega) _ _ _ _ sm g33 g40 g41 g42 hP hD hS (lv_sub hl [2, 3, 4, 5, 6, 1, 0] rfl)
                      · refine lv_iload hx hb dX9_nearest_84 (lv_at hl 6 rfl) ?_
                        refine lv_iload hx hb dX9_nearest_86 (lv_at hl 4 rfl) ?_
                        refine nx_icmp_eq (tgt := 107) hx hb (by omega) (by omega) dX9_nearest_88 (by decide) (fun c_88 => ?_) (fun c_88 => ?_)
                        · refine lv_iconst (v := nI 0) hx hb dX9_nearest_107 (by decide) ?_
                          refine nx_iadd hx hb dX9_nearest_108 ?_
                          refine lv_istore (lv' := [(5, .int (nI ((cntB (aheadM docs k t) u) + 0))), (0, .ref m0), (1, .int xa), (2, .int (nI i1)), (3, .int (nI k)), (4, .int (nI t)), (6, .int (nI u))]) hx hb dX9_nearest_109 hl (by decide) rfl (fun ls hl => ?_)
                          refine lv_iinc (v := (nI (u + 1))) (lv' := [(6, .int (nI (u + 1))), (5, .int (nI ((cntB (aheadM docs k t) u) + 0))), (0, .ref m0), (1, .int xa), (2, .int (nI i1)), (3, .int (nI k)), (4, .int (nI t))]) hx hb dX9_nearest_111 hl (k := 6) rfl (nx_inc _ 1) (by decide) rfl (fun ls hl => ?_)
                          refine lv_goto (tgt := 67) hx hb dX9_nearest_114 (by decide) ?_
                          have hl : lv_has ls 7 [(6, .int (nI (u + 1))), (5, .int (nI (cntB (aheadM docs k t) (u + 1)))), (0, .ref m0), (1, .int xa), (2, .int (nI i1)), (3, .int (nI k)), (4, .int (nI t))] := by rw [← show (cntB (aheadM docs k t) u) + 0 = cntB (aheadM docs k t) (u + 1) from (by rw [cntB, aheadM, decide_eq_true c_81, decide_eq_false (fun h => h c_88)]; rfl)]; exact hl
                          exact ih_67 (u + 1) (by omega) (by omega) _ _ _ _ sm g33 g40 g41 g42 hP hD hS (lv_sub hl [2, 3, 4, 5, 6, 1, 0] rfl)
                        · refine lv_aload_n hx hb dX9_nearest_91 rfl (lv_at hl 0 rfl) ?_
                          refine lv_iload_n hx hb dX9_nearest_92 rfl (lv_at hl 3 rfl) ?_
                          refine lv_iload hx hb dX9_nearest_93 (lv_at hl 6 rfl) ?_
                          refine lv_iload hx hb dX9_nearest_95 (lv_at hl 4 rfl) ?_
                          refine CI.go (va_runV (As := [.int (nI k), .int (nI u), .int (nI t)]) (rest := [.int (nI (cntB (aheadM docs k t) u))]) ⟨hx, hb, hml, hown, hts⟩ (c_X9_isNearer  g33 g41 g42 hdd (by omega) hds (by omega) (by omega) (by omega) _) (cwV 3 hts gX9_nearest_X9_isNearer rfl rfl rfl (by decide +kernel) ⟨Nat.le_of_ble_eq_true rfl, Nat.le_of_ble_eq_true rfl⟩) ⟨pw_blind, va_recv hK hP (ci := 10) (q0 := 33) rfl g33, fun U hU hW => pw_pre hK hP hD hU hW⟩ rfl rfl hl.1 rfl (lv_room (Nat.le_of_ble_eq_true rfl)) dX9_nearest_97 ⟨by decide, by decide⟩) hD hS hA (fun r_9 ws_10 H locs hp hP hD hS => ?_)
                          obtain ⟨rfl, rfl⟩ := hp
                          refine nx_if_eq (tgt := 107) hx hb (by exact bn2 _) dX9_nearest_100 (by decide) (fun c_100 => ?_) (fun c_100 => ?_)
                          · refine lv_iconst (v := nI 0) hx hb dX9_nearest_107 (by decide) ?_
                            refine nx_iadd hx hb dX9_nearest_108 ?_
                            refine lv_istore (lv' := [(5, .int (nI ((cntB (aheadM docs k t) u) + 0))), (0, .ref m0), (1, .int xa), (2, .int (nI i1)), (3, .int (nI k)), (4, .int (nI t)), (6, .int (nI u))]) hx hb dX9_nearest_109 hl (by decide) rfl (fun ls hl => ?_)
                            refine lv_iinc (v := (nI (u + 1))) (lv' := [(6, .int (nI (u + 1))), (5, .int (nI ((cntB (aheadM docs k t) u) + 0))), (0, .ref m0), (1, .int xa), (2, .int (nI i1)), (3, .int (nI k)), (4, .int (nI t))]) hx hb dX9_nearest_111 hl (k := 6) rfl (nx_inc _ 1) (by decide) rfl (fun ls hl => ?_)
                            refine lv_goto (tgt := 67) hx hb dX9_nearest_114 (by decide) ?_
                            have hl : lv_has ls 7 [(6, .int (nI (u + 1))), (5, .int (nI (cntB (aheadM docs k t) (u + 1)))), (0, .ref m0), (1, .int xa), (2, .int (nI i1)), (3, .int (nI k)), (4, .int (nI t))] := by rw [← show (cntB (aheadM docs k t) u) + 0 = cntB (aheadM docs k t) (u + 1) from (by rw [cntB, aheadM, decide_eq_true c_81, decide_eq_true c_88, bool0 c_100]; rfl)]; exact hl
                            exact ih_67 (u + 1) (by omega) (by omega) _ _ _ _ sm g33 g40 g41 g42 hP hD hS (lv_sub hl [2, 3, 4, 5, 6, 1, 0] rfl)
                          · refine lv_iconst (v := nI 1) hx hb dX9_nearest_103 (by decide) ?_
                            refine lv_goto (tgt := 108) hx hb dX9_nearest_104 (by decide) ?_
                            refine nx_iadd hx hb dX9_nearest_108 ?_
                            refine lv_istore (lv' := [(5, .int (nI ((cntB (aheadM docs k t) u) + 1))), (0, .ref m0), (1, .int xa), (2, .int (nI i1)), (3, .int (nI k)), (4, .int (nI t)), (6, .int (nI u))]) hx hb dX9_nearest_109 hl (by decide) rfl (fun ls hl => ?_)
                            refine lv_iinc (v := (nI (u + 1))) (lv' := [(6, .int (nI (u + 1))), (5, .int (nI ((cntB (aheadM docs k t) u) + 1))), (0, .ref m0), (1, .int xa), (2, .int (nI i1)), (3, .int (nI k)), (4, .int (nI t))]) hx hb dX9_nearest_111 hl (k := 6) rfl (nx_inc _ 1) (by decide) rfl (fun ls hl => ?_)
                            refine lv_goto (tgt := 67) hx hb dX9_nearest_114 (by decide) ?_
                            have hl : lv_has ls 7 [(6, .int (nI (u + 1))), (5, .int (nI (cntB (aheadM docs k t) (u + 1)))), (0, .ref m0), (1, .int xa), (2, .int (nI i1)), (3, .int (nI k)), (4, .int (nI t))] := by rw [← show (cntB (aheadM docs k t) u) + 1 = cntB (aheadM docs k t) (u + 1) from (by rw [cntB, aheadM, decide_eq_true c_81, decide_eq_true c_88, bool1 c_100]; rfl)]; exact hl
                            exact ih_67 (u + 1) (by omega) (by omega) _ _ _ _ sm g33 g40 g41 g42 hP hD hS (lv_sub hl [2, 3, 4, 5, 6, 1, 0] rfl)
                exact lp_67 _ 0 (Nat.lt_succ_self _) (by omega) _ _ _ _ sm g33 g40 g41 g42 hP hD hS (lv_sub hl [2, 3, 4, 5, 6, 1, 0] rfl)
              · refine lv_goto (tgt := 131) hx hb dX9_nearest_58 (by decide) ?_
                refine lv_iinc (v := (nI (t + 1))) (lv' := [(4, .int (nI (t + 1))), (0, .ref m0), (1, .int xa), (2, .int (nI i1)), (3, .int (nI k))]) hx hb dX9_nearest_131 hl (k := 4) rfl (nx_inc _ 1) (by decide) rfl (fun ls hl => ?_)
                refine lv_goto (tgt := 43) hx hb dX9_nearest_134 (by decide) ?_
                exact ih_43 (t + 1) (by omega) (by omega) (lt_s hno (fun h9 => by first | exact absurd c_55 h9 | (rw [hdn, ← show u = dn by omega]; exact c_120))) _ _ _ _ sm g33 g40 g41 g42 hP hD hS (lv_sub hl [1, 2, 3, 4, 0] rfl)
        exact lp_43 _ 0 (Nat.lt_succ_self _) (Nat.zero_le _) (fun u hu => absurd hu (Nat.not_lt_zero u)) _ _ _ _ sm g33 g40 g41 g42 hP hD hS (lv_sub hl [2, 3, 4, 1, 0] rfl)
      · refine lv_iconst (v := -1) hx hb dX9_nearest_38 (by decide) ?_
        have g33 : ws_7[33]? = some (m0, .inr (10, [.int (nI ((slotOf (docs.map (fun d => d.1)) xa).isNone.toNat)), .ref b1, .ref b2, .int (nI len), .int (nI ps), .ref b5, .ref b6, .ref b7, .int (nI nm), .int (nI bt_), .int (nI so), .int (nI wi), .ref b12, .int (nI fm), .ref b14, .ref b15, .ref b16, .int (nI dn), .int (nI ca), .int (nI sta), .ref b20, .ref b21, .ref b22, .ref b23, .ref b24, .int (nI xn), .ref b26, .int (nI bb), .int (nI rr), .int (nI pp), .int (nI qq), .ref b31])) := by rw [hsl_k]; exact g33
        exact CI.ret (v := (-1)) C hK hP hD hS rfl (⟨(by first | rw [near_no hsl_k (Or.inl c_25)] | rw [near_no hsl_k (Or.inr (by rw [hdn]; exact c_35))]), sm, g33⟩) hc0 hs0 dX9_nearest_39
