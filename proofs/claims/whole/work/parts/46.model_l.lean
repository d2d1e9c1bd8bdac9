set_option maxHeartbeats 4000000 in
set_option maxRecDepth 100000 in
theorem c_X9_both {D : va_G} {cB cI cJ cO : ClassId} {l : Launch} {m0 b1 b2 b5 b6 b7 b12 b14 b15 b16 b20 b21 b22 b23 b24 b26 b31 th len ps nm bt_ so wi fm dn ca sta xn bb rr pp qq : Nat} {ta tb gw go gt gn gm gs gl : Nat → Nat} {E : List (Nat × Nat × Nat)} {docs : List (Nat × List Nat)} {xa xb ww : Int32} {ws : va_W} (g33 : ws[33]? = some (m0, .inr (10, [.int (nI th), .ref b1, .ref b2, .int (nI len), .int (nI ps), .ref b5, .ref b6, .ref b7, .int (nI nm), .int (nI bt_), .int (nI so), .int (nI wi), .ref b12, .int (nI fm), .ref b14, .ref b15, .ref b16, .int (nI dn), .int (nI ca), .int (nI sta), .ref b20, .ref b21, .ref b22, .ref b23, .ref b24, .int (nI xn), .ref b26, .int (nI bb), .int (nI rr), .int (nI pp), .int (nI qq), .ref b31]))) (g40 : ws[40]? = some (b14, .inl (cI, 48, .inl (fun jj => nI (gn jj))))) (g41 : ws[41]? = some (b15, .inl (cI, 48, .inl (fun jj => nI (gm jj))))) (g42 : ws[42]? = some (b16, .inl (cI, 38400, .inl (fun jj => nI (gs jj))))) (g43 : ws[43]? = some (b20, .inl (cI, 64, .inl (fun jj => nI (ta jj))))) (g44 : ws[44]? = some (b21, .inl (cI, 64, .inl (fun jj => nI (tb jj))))) (g45 : ws[45]? = some (b22, .inl (cI, 300, .inl (fun jj => nI (gw jj))))) (g46 : ws[46]? = some (b23, .inl (cI, 300, .inl (fun jj => nI (go jj))))) (g47 : ws[47]? = some (b24, .inl (cI, 300, .inl (fun jj => nI (gt jj))))) (g48 : ws[48]? = some (b26, .inl (cI, 3072, .inl (fun jj => nI (gl jj))))) (hE : HdE gw go gt E) (hx9 : E.length = xn) (h300 : xn ≤ 300) (hsm : Esm E) (hta : Tab ta tb) (hdd : HdD gn gm gs docs) (hdn : docs.length = dn) (h48 : dn ≤ 48) (hds : Dsm docs) (hsta : sta ≤ 1) (hlo : sta = 0 → LeastOK gl ta tb E docs) (hbr : bb * rr ≤ 64) (hb64 : bb ≤ 64) (hr64 : rr ≤ 64) (hp4 : pp ≤ 10000) (hq4 : qq ≤ 10000) : CI D (TY cB cI cJ cO) l yX9_both wsX9_both ({ frames := 4, cells := 0, slots := 0, locals := 100 }) [.ref m0, .int xa, .int xb, .int ww] ws (fun r ws' => ∃ sta2 : Nat, ∃ gl2 : Nat → Nat, r = bothR ta tb E docs rr bb pp qq xa xb ww ∧ (sta2 ≤ 1) ∧ (sta2 = 0 → LeastOK gl2 ta tb E docs) ∧ Sm (fun k => k = 33 ∨ k = 48) ws ws' ∧ ws'[33]? = some (m0, .inr (10, [.int (nI ((!bothOk docs xa xb ww).toNat)), .ref b1, .ref b2, .int (nI len), .int (nI ps), .ref b5, .ref b6, .ref b7, .int (nI nm), .int (nI bt_), .int (nI so), .int (nI wi), .ref b12, .int (nI fm), .ref b14, .ref b15, .ref b16, .int (nI dn), .int (nI ca), .int (nI sta2), .ref b20, .ref b21, .ref b22, .ref b23, .ref b24, .int (nI xn), .ref b26, .int (nI bb), .int (nI rr), .int (nI pp), .int (nI qq), .ref b31])) ∧ ws'[48]? = some (b26, .inl (cI, 3072, .inl (fun jj => nI (gl2 jj))))) := by
  refine CI.of (cc := cX9_both) (maxL := 8) (ret := (some .int)) (by decide) rfl (Nat.le_of_ble_eq_true rfl) ?_
  intro p e s m below meth c A C hK hP hD hA hS ls hl
  obtain ⟨hx, hb, hr, hml, hts, hown, hlocks, hnm⟩ := id C
  have fl_78 := hts (.fieldLink RX9 78 "TwinFinderModel" "many" "[I") (by decide +kernel)
  have fl_118 := hts (.fieldLink RX9 118 "TwinFinderModel" "least" "[I") (by decide +kernel)
  have fl_121 := hts (.fieldLink RX9 121 "TwinFinderModel" "bands" "I") (by decide +kernel)
  have fl_124 := hts (.fieldLink RX9 124 "TwinFinderModel" "rows" "I") (by decide +kernel)
  have hin_X9 : ∀ w ∈ u_ws RX9 TX9 32, w ∈ wsX9_both := by decide +kernel
  have hl : lv_has ls 8 [(0, .ref m0), (1, .int xa), (2, .int xb), (3, .int ww)] := hl
  have sm : Sm (fun k => k = 33 ∨ k = 48) ws ws := Sm.rf
  have hc0 : (0 : Nat) ≤ 0 := by decide
  have hs0 : (0 : Nat) ≤ 0 := by decide
  refine lv_aload_n hx hb dX9_both_0 rfl (lv_at hl 0 rfl) ?_
  refine lv_iload_n hx hb dX9_both_1 rfl (lv_at hl 1 rfl) ?_
  refine CI.go (va_runV (As := [.int xa]) (rest := []) ⟨hx, hb, hml, hown, hts⟩ (c_X9_slot  g33 g40 hdd.num (by rw [List.length_map]; exact hdn) h48 _) (cwV 1 hts gX9_both_X9_slot rfl rfl rfl (by decide +kernel) ⟨Nat.le_of_ble_eq_true rfl, Nat.le_of_ble_eq_true rfl⟩) ⟨pw_blind, va_recv hK hP (ci := 10) (q0 := 33) rfl g33, fun U hU hW => pw_pre hK hP hD hU hW⟩ rfl rfl hl.1 rfl (lv_room (Nat.le_of_ble_eq_true rfl)) dX9_both_2 ⟨by decide, by decide⟩) hD hS hA (fun r_1 ws_2 H locs hp hP hD hS => ?_)
  obtain ⟨rfl, rfl⟩ := hp
  rcases hsl_k : slotOf (docs.map (fun d => d.1)) xa with _ | k
  · rw [show optI (slotOf (docs.map (fun d => d.1)) xa) = -1 from by rw [hsl_k]; rfl]
    refine lv_istore (lv' := [(4, .int (-1)), (0, .ref m0), (1, .int xa), (2, .int xb), (3, .int ww)]) hx hb dX9_both_5 hl (by decide) rfl (fun ls hl => ?_)
    refine lv_aload_n hx hb dX9_both_7 rfl (lv_at hl 1 rfl) ?_
    refine lv_iload_n hx hb dX9_both_8 rfl (lv_at hl 3 rfl) ?_
    refine CI.go (va_runV (As := [.int xb]) (rest := []) ⟨hx, hb, hml, hown, hts⟩ (c_X9_slot  g33 g40 hdd.num (by rw [List.length_map]; exact hdn) h48 _) (cwV 1 hts gX9_both_X9_slot rfl rfl rfl (by decide +kernel) ⟨Nat.le_of_ble_eq_true rfl, Nat.le_of_ble_eq_true rfl⟩) ⟨pw_blind, va_recv hK hP (ci := 10) (q0 := 33) rfl g33, fun U hU hW => pw_pre hK hP hD hU hW⟩ rfl rfl hl.1 rfl (lv_room (Nat.le_of_ble_eq_true rfl)) dX9_both_9 ⟨by decide, by decide⟩) hD hS hA (fun r_3 ws_4 H locs hp hP hD hS => ?_)
    obtain ⟨rfl, rfl⟩ := hp
    rcases hsl_q : slotOf (docs.map (fun d => d.1)) xb with _ | q
    · rw [show optI (slotOf (docs.map (fun d => d.1)) xb) = -1 from by rw [hsl_q]; rfl]
      refine lv_istore (lv' := [(5, .int (-1)), (4, .int (-1)), (0, .ref m0), (1, .int xa), (2, .int xb), (3, .int ww)]) hx hb dX9_both_12 hl (by decide) rfl (fun ls hl => ?_)
      refine lv_aload_n hx hb dX9_both_14 rfl (lv_at hl 2 rfl) ?_
      refine lv_iload hx hb dX9_both_15 (lv_at hl 1 rfl) ?_
      refine lv_if_lt (tgt := 34) hx hb dX9_both_17 (by decide) (fun c_17 => ?_) (fun c_17 => absurd (by decide) c_17)
      refine lv_iconst (v := nI 1) hx hb dX9_both_34 (by decide) ?_
      refine lv_goto (tgt := 39) hx hb dX9_both_35 (by decide) ?_
      refine CI.go (va_runV (As := [.int (nI 1)]) (rest := []) ⟨hx, hb, hml, hown, hts⟩ (c_X9_throwsIf (b := true) g33  _) (cwV 1 hts gX9_both_X9_throwsIf rfl rfl rfl (by decide +kernel) ⟨Nat.le_of_ble_eq_true rfl, Nat.le_of_ble_eq_true rfl⟩) ⟨pw_blind, va_recv hK hP (ci := 10) (q0 := 33) rfl g33, fun U hU hW => pw_pre hK hP hD hU hW⟩ rfl rfl hl.1 rfl (lv_room (Nat.le_of_ble_eq_true rfl)) dX9_both_39 ⟨by decide, by decide⟩) hD hS hA (fun r_5 ws_6 H locs hp hP hD hS => ?_)
      obtain ⟨rfl, sm_7, g33⟩ := hp
      have g40 := sm_7.get g40 (by simp)
      have g41 := sm_7.get g41 (by simp)
      have g42 := sm_7.get g42 (by simp)
      have g43 := sm_7.get g43 (by simp)
      have g44 := sm_7.get g44 (by simp)
      have g45 := sm_7.get g45 (by simp)
      have g46 := sm_7.get g46 (by simp)
      have g47 := sm_7.get g47 (by simp)
      have g48 := sm_7.get g48 (by simp)
      have sm := sm.call sm_7 (by intro k hk; (try simp only at hk ⊢); omega)
      have g33 : ws_6[33]? = some (m0, .inr (10, [.int (nI 1), .ref b1, .ref b2, .int (nI len), .int (nI ps), .ref b5, .ref b6, .ref b7, .int (nI nm), .int (nI bt_), .int (nI so), .int (nI wi), .ref b12, .int (nI fm), .ref b14, .ref b15, .ref b16, .int (nI dn), .int (nI ca), .int (nI sta), .ref b20, .ref b21, .ref b22, .ref b23, .ref b24, .int (nI xn), .ref b26, .int (nI bb), .int (nI rr), .int (nI pp), .int (nI qq), .ref b31])) := g33
      refine lv_if_eq (tgt := 47) hx hb dX9_both_42 (by decide) (fun c_42 => absurd c_42 (by decide)) (fun c_42 => ?_)
      refine lv_iconst (v := nI 0) hx hb dX9_both_45 (by decide) ?_
      have hno : bothOk docs xa xb ww = false := by first | (rw [bothOk, hsl_k]; rfl) | (rw [bothOk, hsl_q]; simp; done) | (rw [bothOk, isOut_lo c_26]; simp; done) | (rw [bothOk, isOut_hi c_31]; simp; done)
      have g33 : ws_6[33]? = some (m0, .inr (10, [.int (nI ((!bothOk docs xa xb ww).toNat)), .ref b1, .ref b2, .int (nI len), .int (nI ps), .ref b5, .ref b6, .ref b7, .int (nI nm), .int (nI bt_), .int (nI so), .int (nI wi), .ref b12, .int (nI fm), .ref b14, .ref b15, .ref b16, .int (nI dn), .int (nI ca), .int (nI sta), .ref b20, .ref b21, .ref b22, .ref b23, .ref b24, .int (nI xn), .ref b26, .int (nI bb), .int (nI rr), .int (nI pp), .int (nI qq), .ref b31])) := by rw [hno]; exact g33
      exact CI.ret (v := (nI 0)) C hK hP hD hS rfl (⟨sta, gl, (both_no hno).symm, hsta, hlo, sm, g33, g48⟩) hc0 hs0 dX9_both_46
    · rw [show optI (slotOf (docs.map (fun d => d.1)) xb) = nI q from by rw [hsl_q]; rfl]
      have hqn : q < dn := by have := (slotOf_lt hsl_q).1; rw [List.length_map, hdn] at this; exact this
      have hqr := hdd q (by omega)
      have hqs := hds docs[q] (List.getElem_mem _)
      refine lv_istore (lv' := [(5, .int (nI q)), (4, .int (-1)), (0, .ref m0), (1, .int xa), (2, .int xb), (3, .int ww)]) hx hb dX9_both_12 hl (by decide) rfl (fun ls hl => ?_)
      refine lv_aload_n hx hb dX9_both_14 rfl (lv_at hl 2 rfl) ?_
      refine lv_iload hx hb dX9_both_15 (lv_at hl 1 rfl) ?_
      refine lv_if_lt (tgt := 34) hx hb dX9_both_17 (by decide) (fun c_17 => ?_) (fun c_17 => absurd (by decide) c_17)
      refine lv_iconst (v := nI 1) hx hb dX9_both_34 (by decide) ?_
      refine lv_goto (tgt := 39) hx hb dX9_both_35 (by decide) ?_
      refine CI.go (va_runV (As := [.int (nI 1)]) (rest := []) ⟨hx, hb, hml, hown, hts⟩ (c_X9_throwsIf (b := true) g33  _) (cwV 1 hts gX9_both_X9_throwsIf rfl rfl rfl (by decide +kernel) ⟨Nat.le_of_ble_eq_true rfl, Nat.le_of_ble_eq_true rfl⟩) ⟨pw_blind, va_recv hK hP (ci := 10) (q0 := 33) rfl g33, fun U hU hW => pw_pre hK hP hD hU hW⟩ rfl rfl hl.1 rfl (lv_room (Nat.le_of_ble_eq_true rfl)) dX9_both_39 ⟨by decide, by decide⟩) hD hS hA (fun r_8 ws_9 H locs hp hP hD hS => ?_)
      obtain ⟨rfl, sm_10, g33⟩ := hp
      have g40 := sm_10.get g40 (by simp)
      have g41 := sm_10.get g41 (by simp)
      have g42 := sm_10.get g42 (by simp)
      have g43 := sm_10.get g43 (by simp)
      have g44 := sm_10.get g44 (by simp)
      have g45 := sm_10.get g45 (by simp)
      have g46 := sm_10.get g46 (by simp)
      have g47 := sm_10.get g47 (by simp)
      have g48 := sm_10.get g48 (by simp)
      have sm := sm.call sm_10 (by intro k hk; (try simp only at hk ⊢); omega)
      have g33 : ws_9[33]? = some (m0, .inr (10, [.int (nI 1), .ref b1, .ref b2, .int (nI len), .int (nI ps), .ref b5, .ref b6, .ref b7, .int (nI nm), .int (nI bt_), .int (nI so), .int (nI wi), .ref b12, .int (nI fm), .ref b14, .ref b15, .ref b16, .int (nI dn), .int (nI ca), .int (nI sta), .ref b20, .ref b21, .ref b22, .ref b23, .ref b24, .int (nI xn), .ref b26, .int (nI bb), .int (nI rr), .int (nI pp), .int (nI qq), .ref b31])) := g33
      refine lv_if_eq (tgt := 47) hx hb dX9_both_42 (by decide) (fun c_42 => absurd c_42 (by decide)) (fun c_42 => ?_)
      refine lv_iconst (v := nI 0) hx hb dX9_both_45 (by decide) ?_
      have hno : bothOk docs xa xb ww = false := by first | (rw [bothOk, hsl_k]; rfl) | (rw [bothOk, hsl_q]; simp; done) | (rw [bothOk, isOut_lo c_26]; simp; done) | (rw [bothOk, isOut_hi c_31]; simp; done)
      have g33 : ws_9[33]? = some (m0, .inr (10, [.int (nI ((!bothOk docs xa xb ww).toNat)), .ref b1, .ref b2, .int (nI len), .int (nI ps), .ref b5, .ref b6, .ref b7, .int (nI nm), .int (nI bt_), .int (nI so), .int (nI wi), .ref b12, .int (nI fm), .ref b14, .ref b15, .ref b16, .int (nI dn), .int (nI ca), .int (nI sta), .ref b20, .ref b21, .ref b22, .ref b23, .ref b24, .int (nI xn), .ref b26, .int (nI bb), .int (nI rr), .int (nI pp), .int (nI qq), .ref b31])) := by rw [hno]; exact g33
      exact CI.ret (v := (nI 0)) C hK hP hD hS rfl (⟨sta, gl, (both_no hno).symm, hsta, hlo, sm, g33, g48⟩) hc0 hs0 dX9_both_46
  · rw [show optI (slotOf (docs.map (fun d => d.1)) xa) = nI k from by rw [hsl_k]; rfl]
    have hkn : k < dn := by have := (slotOf_lt hsl_k).1; rw [List.length_map, hdn] at this; exact this
    have hkr := hdd k (by omega)
    have hks := hds docs[k] (List.getElem_mem _)
    refine lv_istore (lv' := [(4, .int (nI k)), (0, .ref m0), (1, .int xa), (2, .int xb), (3, .int ww)]) hx hb dX9_both_5 hl (by decide) rfl (fun ls hl => ?_)
    refine lv_aload_n hx hb dX9_both_7 rfl (lv_at hl 1 rfl) ?_
    refine lv_iload_n hx hb dX9_both_8 rfl (lv_at hl 3 rfl) ?_
    refine CI.go (va_runV (As := [.int xb]) (rest := []) ⟨hx, hb, hml, hown, hts⟩ (c_X9_slot  g33 g40 hdd.num (by rw [List.length_map]; exact hdn) h48 _) (cwV 1 hts gX9_both_X9_slot rfl rfl rfl (by decide +kernel) ⟨Nat.le_of_ble_eq_true rfl, Nat.le_of_ble_eq_true rfl⟩) ⟨pw_blind, va_recv hK hP (ci := 10) (q0 := 33) rfl g33, fun U hU hW => pw_pre hK hP hD hU hW⟩ rfl rfl hl.1 rfl (lv_room (Nat.le_of_ble_eq_true rfl)) dX9_both_9 ⟨by decide, by decide⟩) hD hS hA (fun r_11 ws_12 H locs hp hP hD hS => ?_)
    obtain ⟨rfl, rfl⟩ := hp
    rcases hsl_q : slotOf (docs.map (fun d => d.1)) xb with _ | q
    · rw [show optI (slotOf (docs.map (fun d => d.1)) xb) = -1 from by rw [hsl_q]; rfl]
      refine lv_istore (lv' := [(5, .int (-1)), (4, .int (nI k)), (0, .ref m0), (1, .int xa), (2, .int xb), (3, .int ww)]) hx hb dX9_both_12 hl (by decide) rfl (fun ls hl => ?_)
      refine lv_aload_n hx hb dX9_both_14 rfl (lv_at hl 2 rfl) ?_
      refine lv_iload hx hb dX9_both_15 (lv_at hl 1 rfl) ?_
      refine nx_if_lt (tgt := 34) hx hb (by omega) dX9_both_17 (by decide) ?_
      refine lv_iload hx hb dX9_both_20 (lv_at hl 0 rfl) ?_
      refine lv_if_lt (tgt := 34) hx hb dX9_both_22 (by decide) (fun c_22 => ?_) (fun c_22 => absurd (by decide) c_22)
      refine lv_iconst (v := nI 1) hx hb dX9_both_34 (by decide) ?_
      refine lv_goto (tgt := 39) hx hb dX9_both_35 (by decide) ?_
      refine CI.go (va_runV (As := [.int (nI 1)]) (rest := []) ⟨hx, hb, hml, hown, hts⟩ (c_X9_throwsIf (b := true) g33  _) (cwV 1 hts gX9_both_X9_throwsIf rfl rfl rfl (by decide +kernel) ⟨Nat.le_of_ble_eq_true rfl, Nat.le_of_ble_eq_true rfl⟩) ⟨pw_blind, va_recv hK hP (ci := 10) (q0 := 33) rfl g33, fun U hU hW => pw_pre hK hP hD hU hW⟩ rfl rfl hl.1 rfl (lv_room (Nat.le_of_ble_eq_true rfl)) dX9_both_39 ⟨by decide, by decide⟩) hD hS hA (fun r_13 ws_14 H locs hp hP hD hS => ?_)
      obtain ⟨rfl, sm_15, g33⟩ := hp
      have g40 := sm_15.get g40 (by simp)
      have g41 := sm_15.get g41 (by simp)
      have g42 := sm_15.get g42 (by simp)
      have g43 := sm_15.get g43 (by simp)
      have g44 := sm_15.get g44 (by simp)
      have g45 := sm_15.get g45 (by simp)
      have g46 := sm_15.get g46 (by simp)
      have g47 := sm_15.get g47 (by simp)
      have g48 := sm_15.get g48 (by simp)
      have sm := sm.call sm_15 (by intro k hk; (try simp only at hk ⊢); omega)
      have g33 : ws_14[33]? = some (m0, .inr (10, [.int (nI 1), .ref b1, .ref b2, .int (nI len), .int (nI ps), .ref b5, .ref b6, .ref b7, .int (nI nm), .int (nI bt_), .int (nI so), .int (nI wi), .ref b12, .int (nI fm), .ref b14, .ref b15, .ref b16, .int (nI dn), .int (nI ca), .int (nI sta), .ref b20, .ref b21, .ref b22, .ref b23, .ref b24, .int (nI xn), .ref b26, .int (nI bb), .int (nI rr), .int (nI pp), .int (nI qq), .ref b31])) := g33
      refine lv_if_eq (tgt := 47) hx hb dX9_both_42 (by decide) (fun c_42 => absurd c_42 (by decide)) (fun c_42 => ?_)
      refine lv_iconst (v := nI 0) hx hb dX9_both_45 (by decide) ?_
      have hno : bothOk docs xa xb ww = false := by first | (rw [bothOk, hsl_k]; rfl) | (rw [bothOk, hsl_q]; simp; done) | (rw [bothOk, isOut_lo c_26]; simp; done) | (rw [bothOk, isOut_hi c_31]; simp; done)
      have g33 : ws_14[33]? = some (m0, .inr (10, [.int (nI ((!bothOk docs xa xb ww).toNat)), .ref b1, .ref b2, .int (nI len), .int (nI ps), .ref b5, .ref b6, .ref b7, .int (nI nm), .int (nI bt_), .int (nI so), .int (nI wi), .ref b12, .int (nI fm), .ref b14, .ref b15, .ref b16, .int (nI dn), .int (nI ca), .int (nI sta), .ref b20, .ref b21, .ref b22, .ref b23, .ref b24, .int (nI xn), .ref b26, .int (nI bb), .int (nI rr), .int (nI pp), .int (nI qq), .ref b31])) := by rw [hno]; exact g33
      exact CI.ret (v := (nI 0)) C hK hP hD hS rfl (⟨sta, gl, (both_no hno).symm, hsta, hlo, sm, g33, g48⟩) hc0 hs0 dX9_both_46
    · rw [show optI (slotOf (docs.map (fun d => d.1)) xb) = nI q from by rw [hsl_q]; rfl]
      have hqn : q < dn := by have := (slotOf_lt hsl_q).1; rw [List.length_map, hdn] at this; exact this
      have hqr := hdd q (by omega)
      have hqs := hds docs[q] (List.getElem_mem _)
      refine lv_istore (lv' := [(5, .int (nI q)), (4, .int (nI k)), (0, .ref m0), (1, .int xa), (2, .int xb), (3, .int ww)]) hx hb dX9_both_12 hl (by decide) rfl (fun ls hl => ?_)
      refine lv_aload_n hx hb dX9_both_14 rfl (lv_at hl 2 rfl) ?_
      refine lv_iload hx hb dX9_both_15 (lv_at hl 1 rfl) ?_
      refine nx_if_lt (tgt := 34) hx hb (by omega) dX9_both_17 (by decide) ?_
      refine lv_iload hx hb dX9_both_20 (lv_at hl 0 rfl) ?_
      refine nx_if_lt (tgt := 34) hx hb (by omega) dX9_both_22 (by decide) ?_
      refine lv_iload_n hx hb dX9_both_25 rfl (lv_at hl 5 rfl) ?_
      refine lv_if_lt (tgt := 34) hx hb dX9_both_26 (by decide) (fun c_26 => ?_) (fun c_26 => ?_)
      · refine lv_iconst (v := nI 1) hx hb dX9_both_34 (by decide) ?_
        refine lv_goto (tgt := 39) hx hb dX9_both_35 (by decide) ?_
        refine CI.go (va_runV (As := [.int (nI 1)]) (rest := []) ⟨hx, hb, hml, hown, hts⟩ (c_X9_throwsIf (b := true) g33  _) (cwV 1 hts gX9_both_X9_throwsIf rfl rfl rfl (by decide +kernel) ⟨Nat.le_of_ble_eq_true rfl, Nat.le_of_ble_eq_true rfl⟩) ⟨pw_blind, va_recv hK hP (ci := 10) (q0 := 33) rfl g33, fun U hU hW => pw_pre hK hP hD hU hW⟩ rfl rfl hl.1 rfl (lv_room (Nat.le_of_ble_eq_true rfl)) dX9_both_39 ⟨by decide, by decide⟩) hD hS hA (fun r_16 ws_17 H locs hp hP hD hS => ?_)
        obtain ⟨rfl, sm_18, g33⟩ := hp
        have g40 := sm_18.get g40 (by simp)
        have g41 := sm_18.get g41 (by simp)
        have g42 := sm_18.get g42 (by simp)
        have g43 := sm_18.get g43 (by simp)
        have g44 := sm_18.get g44 (by simp)
        have g45 := sm_18.get g45 (by simp)
        have g46 := sm_18.get g46 (by simp)
        have g47 := sm_18.get g47 (by simp)
        have g48 := sm_18.get g48 (by simp)
        have sm := sm.call sm_18 (by intro k hk; (try simp only at hk ⊢); omega)
        have g33 : ws_17[33]? = some (m0, .inr (10, [.int (nI 1), .ref b1, .ref b2, .int (nI len), .int (nI ps), .ref b5, .ref b6, .ref b7, .int (nI nm), .int (nI bt_), .int (nI so), .int (nI wi), .ref b12, .int (nI fm), .ref b14, .ref b15, .ref b16, .int (nI dn), .int (nI ca), .int (nI sta), .ref b20, .ref b21, .ref b22, .ref b23, .ref b24, .int (nI xn), .ref b26, .int (nI bb), .int (nI rr), .int (nI pp), .int (nI qq), .ref b31])) := g33
        refine lv_if_eq (tgt := 47) hx hb dX9_both_42 (by decide) (fun c_42 => absurd c_42 (by decide)) (fun c_42 => ?_)
        refine lv_iconst (v := nI 0) hx hb dX9_both_45 (by decide) ?_
        have hno : bothOk docs xa xb ww = false := by first | (rw [bothOk, hsl_k]; rfl) | (rw [bothOk, hsl_q]; simp; done) | (rw [bothOk, isOut_lo c_26]; simp; done) | (rw [bothOk, isOut_hi c_31]; simp; done)
        have g33 : ws_17[33]? = some (m0, .inr (10, [.int (nI ((!bothOk docs xa xb ww).toNat)), .ref b1, .ref b2, .int (nI len), .int (nI ps), .ref b5, .ref b6, .ref b7, .int (nI nm), .int (nI bt_), .int (nI so), .int (nI wi), .ref b12, .int (nI fm), .ref b14, .ref b15, .ref b16, .int (nI dn), .int (nI ca), .int (nI sta), .ref b20, .ref b21, .ref b22, .ref b23, .ref b24, .int (nI xn), .ref b26, .int (nI bb), .int (nI rr), .int (nI pp), .int (nI qq), .ref b31])) := by rw [hno]; exact g33
        exact CI.ret (v := (nI 0)) C hK hP hD hS rfl (⟨sta, gl, (both_no hno).symm, hsta, hlo, sm, g33, g48⟩) hc0 hs0 dX9_both_46
      · refine lv_iload_n hx hb dX9_both_29 rfl (lv_at hl 5 rfl) ?_
        refine lv_iconst (v := nI 4) hx hb dX9_both_30 (by decide) ?_
        refine lv_icmp_le (tgt := 38) hx hb dX9_both_31 (by decide) (fun c_31 => ?_) (fun c_31 => ?_)
        · obtain ⟨w1, hw1, rfl⟩ : ∃ j : Nat, j ≤ 4 ∧ ww = nI j := nI_of2 (nI_toInt (by decide)) c_26 c_31
          refine lv_iconst (v := nI 0) hx hb dX9_both_38 (by decide) ?_
          refine CI.go (va_runV (As := [.int (nI 0)]) (rest := []) ⟨hx, hb, hml, hown, hts⟩ (c_X9_throwsIf (b := false) g33  _) (cwV 1 hts gX9_both_X9_throwsIf rfl rfl rfl (by decide +kernel) ⟨Nat.le_of_ble_eq_true rfl, Nat.le_of_ble_eq_true rfl⟩) ⟨pw_blind, va_recv hK hP (ci := 10) (q0 := 33) rfl g33, fun U hU hW => pw_pre hK hP hD hU hW⟩ rfl rfl hl.1 rfl (lv_room (Nat.le_of_ble_eq_true rfl)) dX9_both_39 ⟨by decide, by decide⟩) hD hS hA (fun r_19 ws_20 H locs hp hP hD hS => ?_)
          obtain ⟨rfl, sm_21, g33⟩ := hp
          have g40 := sm_21.get g40 (by simp)
          have g41 := sm_21.get g41 (by simp)
          have g42 := sm_21.get g42 (by simp)
          have g43 := sm_21.get g43 (by simp)
          have g44 := sm_21.get g44 (by simp)
          have g45 := sm_21.get g45 (by simp)
          have g46 := sm_21.get g46 (by simp)
          have g47 := sm_21.get g47 (by simp)
          have g48 := sm_21.get g48 (by simp)
          have sm := sm.call sm_21 (by intro k hk; (try simp only at hk ⊢); omega)
          have g33 : ws_20[33]? = some (m0, .inr (10, [.int (nI 0), .ref b1, .ref b2, .int (nI len), .int (nI ps), .ref b5, .ref b6, .ref b7, .int (nI nm), .int (nI bt_), .int (nI so), .int (nI wi), .ref b12, .int (nI fm), .ref b14, .ref b15, .ref b16, .int (nI dn), .int (nI ca), .int (nI sta), .ref b20, .ref b21, .ref b22, .ref b23, .ref b24, .int (nI xn), .ref b26, .int (nI bb), .int (nI rr), .int (nI pp), .int (nI qq), .ref b31])) := g33
          refine lv_if_eq (tgt := 47) hx hb dX9_both_42 (by decide) (fun c_42 => ?_) (fun c_42 => absurd (by decide) c_42)
          rcases (show w1 = 0 ∨ w1 = 1 ∨ w1 = 2 ∨ w1 = 3 ∨ w1 = 4 by omega) with rfl | rfl | rfl | rfl | rfl
          · have hset := True.intro
            refine lv_iload_n hx hb dX9_both_47 rfl (lv_at hl 5 rfl) ?_
            refine lv_iconst (v := nI 2) hx hb dX9_both_48 (by decide) ?_
            refine lv_icmp_ge (tgt := 90) hx hb dX9_both_49 (by decide) (fun c_49 => absurd c_49 (by decide)) (fun c_49 => ?_)
            refine lv_aload_n hx hb dX9_both_52 rfl (lv_at hl 2 rfl) ?_
            refine lv_iload hx hb dX9_both_53 (lv_at hl 1 rfl) ?_
            refine lv_iload hx hb dX9_both_55 (lv_at hl 0 rfl) ?_
            refine CI.go (va_runV (As := [.int (nI k), .int (nI q)]) (rest := []) ⟨hx, hb, hml, hown, hts⟩ (c_X9_common  g33 g41 g42 hdd (by omega) hds (by omega) (by omega) _) (cwV 2 hts gX9_both_X9_common rfl rfl rfl (by decide +kernel) ⟨Nat.le_of_ble_eq_true rfl, Nat.le_of_ble_eq_true rfl⟩) ⟨pw_blind, va_recv hK hP (ci := 10) (q0 := 33) rfl g33, fun U hU hW => pw_pre hK hP hD hU hW⟩ rfl rfl hl.1 rfl (lv_room (Nat.le_of_ble_eq_true rfl)) dX9_both_57 ⟨by decide, by decide⟩) hD hS hA (fun r_22 ws_23 H locs hp hP hD hS => ?_)
            obtain ⟨rfl, rfl⟩ := hp
            refine lv_istore (lv' := [(6, .int (nI (comm docs[k].2 docs[q].2))), (5, .int (nI q)), (4, .int (nI k)), (0, .ref m0), (1, .int xa), (2, .int xb), (3, .int (nI 0))]) hx hb dX9_both_60 hl (by decide) rfl (fun ls hl => ?_)
            refine lv_iload_n hx hb dX9_both_62 rfl (lv_at hl 6 rfl) ?_
            refine lv_if_ne (tgt := 71) hx hb dX9_both_63 (by decide) (fun c_63 => absurd (by decide) c_63) (fun c_63 => ?_)
            refine lv_iload hx hb dX9_both_66 (lv_at hl 0 rfl) ?_
            refine lv_goto (tgt := 89) hx hb dX9_both_68 (by decide) ?_
            have g33 : ws_20[33]? = some (m0, .inr (10, [.int (nI ((!bothOk docs xa xb (nI 0)).toNat)), .ref b1, .ref b2, .int (nI len), .int (nI ps), .ref b5, .ref b6, .ref b7, .int (nI nm), .int (nI bt_), .int (nI so), .int (nI wi), .ref b12, .int (nI fm), .ref b14, .ref b15, .ref b16, .int (nI dn), .int (nI ca), .int (nI sta), .ref b20, .ref b21, .ref b22, .ref b23, .ref b24, .int (nI xn), .ref b26, .int (nI bb), .int (nI rr), .int (nI pp), .int (nI qq), .ref b31])) := by rw [both_ok hsl_k hsl_q (by decide)]; exact g33
            exact CI.ret (v := (nI (comm docs[k].2 docs[q].2))) C hK hP hD hS rfl (⟨sta, gl, (by rw [both_at hsl_k hsl_q (by decide), bothV]; first | (rw [if_pos rfl, cmM, gD_at (by omega), gD_at (by omega)]; done) | (rw [if_neg (by decide), if_pos rfl, alM, cmM, gD_at (by omega), gD_at (by omega), hkr.2.1, hqr.2.1]; done)), hsta, hlo, sm, g33, g48⟩) hc0 hs0 dX9_both_89
          · have hset := True.intro
            refine lv_iload_n hx hb dX9_both_47 rfl (lv_at hl 5 rfl) ?_
            refine lv_iconst (v := nI 2) hx hb dX9_both_48 (by decide) ?_
            refine lv_icmp_ge (tgt := 90) hx hb dX9_both_49 (by decide) (fun c_49 => absurd c_49 (by decide)) (fun c_49 => ?_)
            refine lv_aload_n hx hb dX9_both_52 rfl (lv_at hl 2 rfl) ?_
            refine lv_iload hx hb dX9_both_53 (lv_at hl 1 rfl) ?_
            refine lv_iload hx hb dX9_both_55 (lv_at hl 0 rfl) ?_
            refine CI.go (va_runV (As := [.int (nI k), .int (nI q)]) (rest := []) ⟨hx, hb, hml, hown, hts⟩ (c_X9_common  g33 g41 g42 hdd (by omega) hds (by omega) (by omega) _) (cwV 2 hts gX9_both_X9_common rfl rfl rfl (by decide +kernel) ⟨Nat.le_of_ble_eq_true rfl, Nat.le_of_ble_eq_true rfl⟩) ⟨pw_blind, va_recv hK hP (ci := 10) (q0 := 33) rfl g33, fun U hU hW => pw_pre hK hP hD hU hW⟩ rfl rfl hl.1 rfl (lv_room (Nat.le_of_ble_eq_true rfl)) dX9_both_57 ⟨by decide, by decide⟩) hD hS hA (fun r_24 ws_25 H locs hp hP hD hS => ?_)
            obtain ⟨rfl, rfl⟩ := hp
            refine lv_istore (lv' := [(6, .int (nI (comm docs[k].2 docs[q].2))), (5, .int (nI q)), (4, .int (nI k)), (0, .ref m0), (1, .int xa), (2, .int xb), (3, .int (nI 1))]) hx hb dX9_both_60 hl (by decide) rfl (fun ls hl => ?_)
            refine lv_iload_n hx hb dX9_both_62 rfl (lv_at hl 6 rfl) ?_
            refine lv_if_ne (tgt := 71) hx hb dX9_both_63 (by decide) (fun c_63 => ?_) (fun c_63 => absurd c_63 (by decide))
            have hcl := comm_le' docs[k].2 docs[q].2
            refine lv_aload_n hx hb dX9_both_71 rfl (lv_at hl 3 rfl) ?_
            refine va_get (D := D) (ci := 10) (v := .ref b15) (C := RX9) (T := TX9) (N := 32) hx hb hts hin_X9 hown hK hP 33 g33 rfl 15 (by decide) fl_78 (fun _ h9 => h9) rfl dX9_both_72 ?_
            refine lv_iload hx hb dX9_both_75 (lv_at hl 2 rfl) ?_
            refine nx_iald hx hb hK hP 41 1 g41 rfl (k := k) (by omega) (by decide) dX9_both_77 ?_
            refine lv_aload_n hx hb dX9_both_78 rfl (lv_at hl 3 rfl) ?_
            refine va_get (D := D) (ci := 10) (v := .ref b15) (C := RX9) (T := TX9) (N := 32) hx hb hts hin_X9 hown hK hP 33 g33 rfl 15 (by decide) fl_78 (fun _ h9 => h9) rfl dX9_both_79 ?_
            refine lv_iload hx hb dX9_both_82 (lv_at hl 1 rfl) ?_
            refine nx_iald hx hb hK hP 41 1 g41 rfl (k := q) (by omega) (by decide) dX9_both_84 ?_
            refine nx_iadd hx hb dX9_both_85 ?_
            refine lv_iload hx hb dX9_both_86 (lv_at hl 0 rfl) ?_
            refine nx_isub hx hb (by have := hkr.2.1; have := hqr.2.1; omega) dX9_both_88 ?_
            have g33 : ws_20[33]? = some (m0, .inr (10, [.int (nI ((!bothOk docs xa xb (nI 1)).toNat)), .ref b1, .ref b2, .int (nI len), .int (nI ps), .ref b5, .ref b6, .ref b7, .int (nI nm), .int (nI bt_), .int (nI so), .int (nI wi), .ref b12, .int (nI fm), .ref b14, .ref b15, .ref b16, .int (nI dn), .int (nI ca), .int (nI sta), .ref b20, .ref b21, .ref b22, .ref b23, .ref b24, .int (nI xn), .ref b26, .int (nI bb), .int (nI rr), .int (nI pp), .int (nI qq), .ref b31])) := by rw [both_ok hsl_k hsl_q (by decide)]; exact g33
            exact CI.ret (v := (nI (((gm k) + (gm q)) - (comm docs[k].2 docs[q].2)))) C hK hP hD hS rfl (⟨sta, gl, (by rw [both_at hsl_k hsl_q (by decide), bothV]; first | (rw [if_pos rfl, cmM, gD_at (by omega), gD_at (by omega)]; done) | (rw [if_neg (by decide), if_pos rfl, alM, cmM, gD_at (by omega), gD_at (by omega), hkr.2.1, hqr.2.1]; done)), hsta, hlo, sm, g33, g48⟩) hc0 hs0 dX9_both_89
          · have hset := True.intro
            refine lv_iload_n hx hb dX9_both_47 rfl (lv_at hl 5 rfl) ?_
            refine lv_iconst (v := nI 2) hx hb dX9_both_48 (by decide) ?_
            refine lv_icmp_ge (tgt := 90) hx hb dX9_both_49 (by decide) (fun c_49 => ?_) (fun c_49 => absurd (by decide) c_49)
            refine lv_iload_n hx hb dX9_both_90 rfl (lv_at hl 5 rfl) ?_
            refine lv_iconst (v := nI 3) hx hb dX9_both_91 (by decide) ?_
            refine lv_icmp_ne (tgt := 104) hx hb dX9_both_92 (by decide) (fun c_92 => ?_) (fun c_92 => absurd c_92 (by decide))
            refine lv_iload_n hx hb dX9_both_104 rfl (lv_at hl 5 rfl) ?_
            refine lv_iconst (v := nI 4) hx hb dX9_both_105 (by decide) ?_
            refine lv_icmp_ne (tgt := 126) hx hb dX9_both_106 (by decide) (fun c_106 => ?_) (fun c_106 => absurd c_106 (by decide))
            refine lv_aload_n hx hb dX9_both_126 rfl (lv_at hl 2 rfl) ?_
            refine CV.go (va_runV (As := []) (rest := []) ⟨hx, hb, hml, hown, hts⟩ (c_X9_sign  g33 g41 g42 g43 g44 g45 g46 g47 g48 hE hx9 h300 hsm hta hdd hdn h48 hds hsta hlo _) (cwV 0 hts gX9_both_X9_sign rfl rfl rfl (by decide +kernel) ⟨Nat.le_of_ble_eq_true rfl, Nat.le_of_ble_eq_true rfl⟩) ⟨pw_blind, va_recv hK hP (ci := 10) (q0 := 33) rfl g33, fun U hU hW => pw_pre hK hP hD hU hW⟩ rfl rfl hl.1 rfl (lv_room (Nat.le_of_ble_eq_true rfl)) dX9_both_127 ⟨by decide, by decide⟩) hD hS hA (fun ws_27 H locs hp hP hD hS => ?_)
            obtain ⟨gl2, hlo2, sm_28, g33, g48⟩ := hp
            have g40 := sm_28.get g40 (by simp)
            have g41 := sm_28.get g41 (by simp)
            have g42 := sm_28.get g42 (by simp)
            have g43 := sm_28.get g43 (by simp)
            have g44 := sm_28.get g44 (by simp)
            have g45 := sm_28.get g45 (by simp)
            have g46 := sm_28.get g46 (by simp)
            have g47 := sm_28.get g47 (by simp)
            have sm := sm.call sm_28 (by intro k hk; (try simp only at hk ⊢); omega)
            have g33 : ws_27[33]? = some (m0, .inr (10, [.int (nI 0), .ref b1, .ref b2, .int (nI len), .int (nI ps), .ref b5, .ref b6, .ref b7, .int (nI nm), .int (nI bt_), .int (nI so), .int (nI wi), .ref b12, .int (nI fm), .ref b14, .ref b15, .ref b16, .int (nI dn), .int (nI ca), .int (nI 0), .ref b20, .ref b21, .ref b22, .ref b23, .ref b24, .int (nI xn), .ref b26, .int (nI bb), .int (nI rr), .int (nI pp), .int (nI qq), .ref b31])) := g33
            have g48 : ws_27[48]? = some (b26, .inl (cI, 3072, .inl (fun jj => nI (gl2 jj)))) := g48
            have hlx : ∀ t, t < 64 → gl2 (64 * k + t) = sgOf ta tb E (docs.getD k (0, [])).2 t ∧ sgOf ta tb E (docs.getD k (0, [])).2 t ≤ 65521 := fun t ht => ⟨by rw [gD_at (by omega)]; exact hlo2 k (by omega) t ht, sg_le _ _⟩
            have hly : ∀ t, t < 64 → gl2 (64 * q + t) = sgOf ta tb E (docs.getD q (0, [])).2 t ∧ sgOf ta tb E (docs.getD q (0, [])).2 t ≤ 65521 := fun t ht => ⟨by rw [gD_at (by omega)]; exact hlo2 q (by omega) t ht, sg_le _ _⟩
            refine lv_iconst (v := nI 0) hx hb dX9_both_130 (by decide) ?_
            refine lv_istore (lv' := [(6, .int (nI 0)), (5, .int (nI q)), (4, .int (nI k)), (0, .ref m0), (1, .int xa), (2, .int xb), (3, .int (nI 2))]) hx hb dX9_both_131 hl (by decide) rfl (fun ls hl => ?_)
            refine lv_iconst (v := nI 0) hx hb dX9_both_133 (by decide) ?_
            refine lv_istore (lv' := [(7, .int (nI 0)), (6, .int (nI 0)), (5, .int (nI q)), (4, .int (nI k)), (0, .ref m0), (1, .int xa), (2, .int xb), (3, .int (nI 2))]) hx hb dX9_both_134 hl (by decide) rfl (fun ls hl => ?_)
            have lp_136 : ∀ (fuel : Nat) (i : Nat), bb * rr - i < fuel → (i ≤ bb * rr) → ∀ (ws1 : va_W) (H : Heap) (locs : List Loc) (ls : Array Slot), Sm (fun k => k = 33 ∨ k = 48) ws ws1 → ws1[33]? = some (m0, .inr (10, [.int (nI 0), .ref b1, .ref b2, .int (nI len), .int (nI ps), .ref b5, .ref b6, .ref b7, .int (nI nm), .int (nI bt_), .int (nI so), .int (nI wi), .ref b12, .int (nI fm), .ref b14, .ref b15, .ref b16, .int (nI dn), .int (nI ca), .int (nI 0), .ref b20, .ref b21, .ref b22, .ref b23, .ref b24, .int (nI xn), .ref b26, .int (nI bb), .int (nI rr), .int (nI pp), .int (nI qq), .ref b31])) → ws1[40]? = some (b14, .inl (cI, 48, .inl (fun jj => nI (gn jj)))) → ws1[41]? = some (b15, .inl (cI, 48, .inl (fun jj => nI (gm jj)))) → ws1[42]? = some (b16, .inl (cI, 38400, .inl (fun jj => nI (gs jj)))) → ws1[43]? = some (b20, .inl (cI, 64, .inl (fun jj => nI (ta jj)))) → ws1[44]? = some (b21, .inl (cI, 64, .inl (fun jj => nI (tb jj)))) → ws1[45]? = some (b22, .inl (cI, 300, .inl (fun jj => nI (gw jj)))) → ws1[46]? = some (b23, .inl (cI, 300, .inl (fun jj => nI (go jj)))) → ws1[47]? = some (b24, .inl (cI, 300, .inl (fun jj => nI (gt jj)))) → ws1[48]? = some (b26, .inl (cI, 3072, .inl (fun jj => nI (gl2 jj)))) → va_P D vwCl ws1 H → va_D A ws1 → va_S A s.heap H locs → lv_has ls 8 [(0, .ref m0), (1, .int xa), (2, .int xb), (3, .int (nI 2)), (4, .int (nI k)), (5, .int (nI q)), (6, .int (nI (sameM ta tb E docs i k q))), (7, .int (nI i))] → W p l e ({ frames := 4, cells := 0, slots := 0, locals := 100 }) s m ([.ref m0, .int xa, .int xb, .int (nI 2)] : List Value).toArray below meth c H locs 0 0 (ZI D (TY cB cI cJ cO) (fun r ws' => ∃ sta2 : Nat, ∃ gl2 : Nat → Nat, r = bothR ta tb E docs rr bb pp qq xa xb (nI 2) ∧ (sta2 ≤ 1) ∧ (sta2 = 0 → LeastOK gl2 ta tb E docs) ∧ Sm (fun k => k = 33 ∨ k = 48) ws ws' ∧ ws'[33]? = some (m0, .inr (10, [.int (nI ((!bothOk docs xa xb (nI 2)).toNat)), .ref b1, .ref b2, .int (nI len), .int (nI ps), .ref b5, .ref b6, .ref b7, .int (nI nm), .int (nI bt_), .int (nI so), .int (nI wi), .ref b12, .int (nI fm), .ref b14, .ref b15, .ref b16, .int (nI dn), .int (nI ca), .int (nI sta2), .ref b20, .ref b21, .ref b22, .ref b23, .ref b24, .int (nI xn), .ref b26, .int (nI bb), .int (nI rr), .int (nI pp), .int (nI qq), .ref b31])) ∧ ws'[48]? = some (b26, .inl (cI, 3072, .inl (fun jj => nI (gl2 jj))))) below [.ref m0, .int xa, .int xb, .int (nI 2)] s 0 0 A) (F0 m 136 ls []) := by
              intro fuel
              induction fuel with
              | zero => intro i hfu; exact absurd hfu (Nat.not_lt_zero _)
              | succ fuel ih_136 =>
                intro i hfu_136 hi ws1 H locs ls sm g33 g40 g41 g42 g43 g44 g45 g46 g47 g48 hP hD hS hl
                refine lv_iload hx hb dX9_both_136 (lv_at hl 7 rfl) ?_
                refine lv_aload_n hx hb dX9_both_138 rfl (lv_at hl 0 rfl) ?_
                refine va_get (D := D) (ci := 10) (v := .int (nI bb)) (C := RX9) (T := TX9) (N := 32) hx hb hts hin_X9 hown hK hP 33 g33 rfl 27 (by decide) fl_121 (fun _ h9 => h9) rfl dX9_both_139 ?_
                refine lv_aload_n hx hb dX9_both_142 rfl (lv_at hl 0 rfl) ?_
                refine va_get (D := D) (ci := 10) (v := .int (nI rr)) (C := RX9) (T := TX9) (N := 32) hx hb hts hin_X9 hown hK hP 33 g33 rfl 28 (by decide) fl_124 (fun _ h9 => h9) rfl dX9_both_143 ?_
                refine nx_imul hx hb dX9_both_146 ?_
                refine nx_icmp_ge (tgt := 195) hx hb (by omega) (by omega) dX9_both_147 (by decide) (fun c_147 => ?_) (fun c_147 => ?_)
                · refine lv_iload hx hb dX9_both_195 (lv_at hl 6 rfl) ?_
                  have g33 : ws1[33]? = some (m0, .inr (10, [.int (nI ((!bothOk docs xa xb (nI 2)).toNat)), .ref b1, .ref b2, .int (nI len), .int (nI ps), .ref b5, .ref b6, .ref b7, .int (nI nm), .int (nI bt_), .int (nI so), .int (nI wi), .ref b12, .int (nI fm), .ref b14, .ref b15, .ref b16, .int (nI dn), .int (nI ca), .int (nI 0), .ref b20, .ref b21, .ref b22, .ref b23, .ref b24, .int (nI xn), .ref b26, .int (nI bb), .int (nI rr), .int (nI pp), .int (nI qq), .ref b31])) := by rw [both_ok hsl_k hsl_q (by decide)]; exact g33
                  exact CI.ret (v := (nI (sameM ta tb E docs i k q))) C hK hP hD hS rfl (⟨0, gl2, (by rw [both_at hsl_k hsl_q (by decide), show i = bb * rr by omega]; rfl), (Nat.zero_le _), (fun _ => hlo2), sm, g33, g48⟩) hc0 hs0 dX9_both_197
                · refine lv_iload hx hb dX9_both_150 (lv_at hl 6 rfl) ?_
                  refine lv_aload_n hx hb dX9_both_152 rfl (lv_at hl 0 rfl) ?_
                  refine va_get (D := D) (ci := 10) (v := .ref b26) (C := RX9) (T := TX9) (N := 32) hx hb hts hin_X9 hown hK hP 33 g33 rfl 26 (by decide) fl_118 (fun _ h9 => h9) rfl dX9_both_153 ?_
                  refine lv_bipush (v := nI 64) hx hb dX9_both_156 (by decide) ?_
                  refine lv_iload hx hb dX9_both_158 (lv_at hl 4 rfl) ?_
                  refine nx_imul hx hb dX9_both_160 ?_
                  refine lv_iload hx hb dX9_both_161 (lv_at hl 7 rfl) ?_
                  refine nx_iadd hx hb dX9_both_163 ?_
                  refine nx_iald hx hb hK hP 48 1 g48 rfl (k := ((64 * k) + i)) (by omega) (by decide) dX9_both_164 ?_
                  refine lv_aload_n hx hb dX9_both_165 rfl (lv_at hl 0 rfl) ?_
                  refine va_get (D := D) (ci := 10) (v := .ref b26) (C := RX9) (T := TX9) (N := 32) hx hb hts hin_X9 hown hK hP 33 g33 rfl 26 (by decide) fl_118 (fun _ h9 => h9) rfl dX9_both_166 ?_
                  refine lv_bipush (v := nI 64) hx hb dX9_both_169 (by decide) ?_
                  refine lv_iload hx hb dX9_both_171 (lv_at hl 5 rfl) ?_
                  refine nx_imul hx hb dX9_both_173 ?_
                  refine lv_iload hx hb dX9_both_174 (lv_at hl 7 rfl) ?_
                  refine nx_iadd hx hb dX9_both_176 ?_
                  refine nx_iald hx hb hK hP 48 1 g48 rfl (k := ((64 * q) + i)) (by omega) (by decide) dX9_both_177 ?_
                  refine nx_icmp_ne (tgt := 185) hx hb (by have := hlx i (by omega); omega) (by have := hly i (by omega); omega) dX9_both_178 (by decide) (fun c_178 => ?_) (fun c_178 => ?_)
                  · refine lv_iconst (v := nI 0) hx hb dX9_both_185 (by decide) ?_
                    refine nx_iadd hx hb dX9_both_186 ?_
                    refine lv_istore (lv' := [(6, .int (nI ((sameM ta tb E docs i k q) + 0))), (0, .ref m0), (1, .int xa), (2, .int xb), (3, .int (nI 2)), (4, .int (nI k)), (5, .int (nI q)), (7, .int (nI i))]) hx hb dX9_both_187 hl (by decide) rfl (fun ls hl => ?_)
                    refine lv_iinc (v := (nI (i + 1))) (lv' := [(7, .int (nI (i + 1))), (6, .int (nI ((sameM ta tb E docs i k q) + 0))), (0, .ref m0), (1, .int xa), (2, .int xb), (3, .int (nI 2)), (4, .int (nI k)), (5, .int (nI q))]) hx hb dX9_both_189 hl (k := 7) rfl (nx_inc _ 1) (by decide) rfl (fun ls hl => ?_)
                    refine lv_goto (tgt := 136) hx hb dX9_both_192 (by decide) ?_
                    have hl : lv_has ls 8 [(7, .int (nI (i + 1))), (6, .int (nI (sameM ta tb E docs (i + 1) k q))), (0, .ref m0), (1, .int xa), (2, .int xb), (3, .int (nI 2)), (4, .int (nI k)), (5, .int (nI q))] := by rw [← show (sameM ta tb E docs i k q) + 0 = sameM ta tb E docs (i + 1) k q from (by unfold sameM; rw [cntE]; first | (rw [if_pos (by rw [← (hlx i (by omega)).1, ← (hly i (by omega)).1]; exact c_178)]; done) | (rw [if_neg (by rw [← (hlx i (by omega)).1, ← (hly i (by omega)).1]; exact c_178)]; done))]; exact hl
                    exact ih_136 (i + 1) (by omega) (by omega) _ _ _ _ sm g33 g40 g41 g42 g43 g44 g45 g46 g47 g48 hP hD hS (lv_sub hl [2, 3, 4, 5, 6, 7, 1, 0] rfl)
                  · refine lv_iconst (v := nI 1) hx hb dX9_both_181 (by decide) ?_
                    refine lv_goto (tgt := 186) hx hb dX9_both_182 (by decide) ?_
                    refine nx_iadd hx hb dX9_both_186 ?_
                    refine lv_istore (lv' := [(6, .int (nI ((sameM ta tb E docs i k q) + 1))), (0, .ref m0), (1, .int xa), (2, .int xb), (3, .int (nI 2)), (4, .int (nI k)), (5, .int (nI q)), (7, .int (nI i))]) hx hb dX9_both_187 hl (by decide) rfl (fun ls hl => ?_)
                    refine lv_iinc (v := (nI (i + 1))) (lv' := [(7, .int (nI (i + 1))), (6, .int (nI ((sameM ta tb E docs i k q) + 1))), (0, .ref m0), (1, .int xa), (2, .int xb), (3, .int (nI 2)), (4, .int (nI k)), (5, .int (nI q))]) hx hb dX9_both_189 hl (k := 7) rfl (nx_inc _ 1) (by decide) rfl (fun ls hl => ?_)
                    refine lv_goto (tgt := 136) hx hb dX9_both_192 (by decide) ?_
                    have hl : lv_has ls 8 [(7, .int (nI (i + 1))), (6, .int (nI (sameM ta tb E docs (i + 1) k q))), (0, .ref m0), (1, .int xa), (2, .int xb), (3, .int (nI 2)), (4, .int (nI k)), (5, .int (nI q))] := by rw [← show (sameM ta tb E docs i k q) + 1 = sameM ta tb E docs (i + 1) k q from (by unfold sameM; rw [cntE]; first | (rw [if_pos (by rw [← (hlx i (by omega)).1, ← (hly i (by omega)).1]; exact c_178)]; done) | (rw [if_neg (by rw [← (hlx i (by omega)).1, ← (hly i (by omega)).1]; exact c_178)]; done))]; exact hl
                    exact ih_136 (i + 1) (by omega) (by omega) _ _ _ _ sm g33 g40 g41 g42 g43 g44 g45 g46 g47 g48 hP hD hS (lv_sub hl [2, 3, 4, 5, 6, 7, 1, 0] rfl)
            exact lp_136 _ 0 (Nat.lt_succ_self _) (by omega) _ _ _ _ sm g33 g40 g41 g42 g43 g44 g45 g46 g47 g48 hP hD hS (lv_sub hl [4, 5, 6, 7, 3, 2, 1, 0] rfl)
          · have hset := True.intro
            refine lv_iload_n hx hb dX9_both_47 rfl (lv_at hl 5 rfl) ?_
            refine lv_iconst (v := nI 2) hx hb dX9_both_48 (by decide) ?_
            refine lv_icmp_ge (tgt := 90) hx hb dX9_both_49 (by decide) (fun c_49 => ?_) (fun c_49 => absurd (by decide) c_49)
            refine lv_iload_n hx hb dX9_both_90 rfl (lv_at hl 5 rfl) ?_
            refine lv_iconst (v := nI 3) hx hb dX9_both_91 (by decide) ?_
            refine lv_icmp_ne (tgt := 104) hx hb dX9_both_92 (by decide) (fun c_92 => absurd (by decide) c_92) (fun c_92 => ?_)
            refine lv_aload_n hx hb dX9_both_95 rfl (lv_at hl 2 rfl) ?_
            refine lv_iload hx hb dX9_both_96 (lv_at hl 1 rfl) ?_
            refine lv_iload hx hb dX9_both_98 (lv_at hl 0 rfl) ?_
            refine CI.go (va_runV (As := [.int (nI k), .int (nI q)]) (rest := []) ⟨hx, hb, hml, hown, hts⟩ (c_X9_band  g33 g41 g42 g43 g44 g45 g46 g47 g48 hE hx9 h300 hsm hta hdd hdn h48 hds hsta hlo hbr hb64 hr64 (by omega) (by omega) _) (cwV 2 hts gX9_both_X9_band rfl rfl rfl (by decide +kernel) ⟨Nat.le_of_ble_eq_true rfl, Nat.le_of_ble_eq_true rfl⟩) ⟨pw_blind, va_recv hK hP (ci := 10) (q0 := 33) rfl g33, fun U hU hW => pw_pre hK hP hD hU hW⟩ rfl rfl hl.1 rfl (lv_room (Nat.le_of_ble_eq_true rfl)) dX9_both_100 ⟨by decide, by decide⟩) hD hS hA (fun r_29 ws_30 H locs hp hP hD hS => ?_)
            obtain ⟨st1, gl1_, rfl, hsta_gl1_, hlo_gl1_, sm_31, g33, g48⟩ := hp
            have g40 := sm_31.get g40 (by simp)
            have g41 := sm_31.get g41 (by simp)
            have g42 := sm_31.get g42 (by simp)
            have g43 := sm_31.get g43 (by simp)
            have g44 := sm_31.get g44 (by simp)
            have g45 := sm_31.get g45 (by simp)
            have g46 := sm_31.get g46 (by simp)
            have g47 := sm_31.get g47 (by simp)
            have sm := sm.call sm_31 (by intro k hk; (try simp only at hk ⊢); omega)
            have g33 : ws_30[33]? = some (m0, .inr (10, [.int (nI 0), .ref b1, .ref b2, .int (nI len), .int (nI ps), .ref b5, .ref b6, .ref b7, .int (nI nm), .int (nI bt_), .int (nI so), .int (nI wi), .ref b12, .int (nI fm), .ref b14, .ref b15, .ref b16, .int (nI dn), .int (nI ca), .int (nI st1), .ref b20, .ref b21, .ref b22, .ref b23, .ref b24, .int (nI xn), .ref b26, .int (nI bb), .int (nI rr), .int (nI pp), .int (nI qq), .ref b31])) := g33
            have g48 : ws_30[48]? = some (b26, .inl (cI, 3072, .inl (fun jj => nI (gl1_ jj)))) := g48
            have g33 : ws_30[33]? = some (m0, .inr (10, [.int (nI ((!bothOk docs xa xb (nI 3)).toNat)), .ref b1, .ref b2, .int (nI len), .int (nI ps), .ref b5, .ref b6, .ref b7, .int (nI nm), .int (nI bt_), .int (nI so), .int (nI wi), .ref b12, .int (nI fm), .ref b14, .ref b15, .ref b16, .int (nI dn), .int (nI ca), .int (nI st1), .ref b20, .ref b21, .ref b22, .ref b23, .ref b24, .int (nI xn), .ref b26, .int (nI bb), .int (nI rr), .int (nI pp), .int (nI qq), .ref b31])) := by rw [both_ok hsl_k hsl_q (by decide)]; exact g33
            exact CI.ret (v := (optI (bdM ta tb E docs rr bb k q))) C hK hP hD hS rfl (⟨_, _, (by rw [both_at hsl_k hsl_q (by decide)]; rfl), hsta_gl1_, hlo_gl1_, sm, g33, g48⟩) hc0 hs0 dX9_both_103
          · have hset := True.intro
            refine lv_iload_n hx hb dX9_both_47 rfl (lv_at hl 5 rfl) ?_
            refine lv_iconst (v := nI 2) hx hb dX9_both_48 (by decide) ?_
            refine lv_icmp_ge (tgt := 90) hx hb dX9_both_49 (by decide) (fun c_49 => ?_) (fun c_49 => absurd (by decide) c_49)
            refine lv_iload_n hx hb dX9_both_90 rfl (lv_at hl 5 rfl) ?_
            refine lv_iconst (v := nI 3) hx hb dX9_both_91 (by decide) ?_
            refine lv_icmp_ne (tgt := 104) hx hb dX9_both_92 (by decide) (fun c_92 => ?_) (fun c_92 => absurd c_92 (by decide))
            refine lv_iload_n hx hb dX9_both_104 rfl (lv_at hl 5 rfl) ?_
            refine lv_iconst (v := nI 4) hx hb dX9_both_105 (by decide) ?_
            refine lv_icmp_ne (tgt := 126) hx hb dX9_both_106 (by decide) (fun c_106 => absurd (by decide) c_106) (fun c_106 => ?_)
            refine lv_aload_n hx hb dX9_both_109 rfl (lv_at hl 2 rfl) ?_
            refine lv_iload hx hb dX9_both_110 (lv_at hl 1 rfl) ?_
            refine lv_iload hx hb dX9_both_112 (lv_at hl 0 rfl) ?_
            refine CI.go (va_runV (As := [.int (nI k), .int (nI q)]) (rest := []) ⟨hx, hb, hml, hown, hts⟩ (c_X9_areTwins  g33 g41 g42 g43 g44 g45 g46 g47 g48 hE hx9 h300 hsm hta hdd hdn h48 hds hsta hlo hbr hb64 hr64 hp4 hq4 (by omega) (by omega) _) (cwV 2 hts gX9_both_X9_areTwins rfl rfl rfl (by decide +kernel) ⟨Nat.le_of_ble_eq_true rfl, Nat.le_of_ble_eq_true rfl⟩) ⟨pw_blind, va_recv hK hP (ci := 10) (q0 := 33) rfl g33, fun U hU hW => pw_pre hK hP hD hU hW⟩ rfl rfl hl.1 rfl (lv_room (Nat.le_of_ble_eq_true rfl)) dX9_both_114 ⟨by decide, by decide⟩) hD hS hA (fun r_32 ws_33 H locs hp hP hD hS => ?_)
            obtain ⟨st2, gl2_, rfl, hsta_gl2_, hlo_gl2_, sm_34, g33, g48⟩ := hp
            have g40 := sm_34.get g40 (by simp)
            have g41 := sm_34.get g41 (by simp)
            have g42 := sm_34.get g42 (by simp)
            have g43 := sm_34.get g43 (by simp)
            have g44 := sm_34.get g44 (by simp)
            have g45 := sm_34.get g45 (by simp)
            have g46 := sm_34.get g46 (by simp)
            have g47 := sm_34.get g47 (by simp)
            have sm := sm.call sm_34 (by intro k hk; (try simp only at hk ⊢); omega)
            have g33 : ws_33[33]? = some (m0, .inr (10, [.int (nI 0), .ref b1, .ref b2, .int (nI len), .int (nI ps), .ref b5, .ref b6, .ref b7, .int (nI nm), .int (nI bt_), .int (nI so), .int (nI wi), .ref b12, .int (nI fm), .ref b14, .ref b15, .ref b16, .int (nI dn), .int (nI ca), .int (nI st2), .ref b20, .ref b21, .ref b22, .ref b23, .ref b24, .int (nI xn), .ref b26, .int (nI bb), .int (nI rr), .int (nI pp), .int (nI qq), .ref b31])) := g33
            have g48 : ws_33[48]? = some (b26, .inl (cI, 3072, .inl (fun jj => nI (gl2_ jj)))) := g48
            refine nx_if_eq (tgt := 124) hx hb (by cases twM ta tb E docs rr bb pp qq k q <;> decide) dX9_both_117 (by decide) (fun c_117 => ?_) (fun c_117 => ?_)
            · refine lv_iconst (v := nI 0) hx hb dX9_both_124 (by decide) ?_
              have g33 : ws_33[33]? = some (m0, .inr (10, [.int (nI ((!bothOk docs xa xb (nI 4)).toNat)), .ref b1, .ref b2, .int (nI len), .int (nI ps), .ref b5, .ref b6, .ref b7, .int (nI nm), .int (nI bt_), .int (nI so), .int (nI wi), .ref b12, .int (nI fm), .ref b14, .ref b15, .ref b16, .int (nI dn), .int (nI ca), .int (nI st2), .ref b20, .ref b21, .ref b22, .ref b23, .ref b24, .int (nI xn), .ref b26, .int (nI bb), .int (nI rr), .int (nI pp), .int (nI qq), .ref b31])) := by rw [both_ok hsl_k hsl_q (by decide)]; exact g33
              exact CI.ret (v := (nI 0)) C hK hP hD hS rfl (⟨_, _, (by rw [both_at hsl_k hsl_q (by decide)]; show _ = nI (twM ta tb E docs rr bb pp qq k q).toNat; rw [bool0 c_117]; rfl), hsta_gl2_, hlo_gl2_, sm, g33, g48⟩) hc0 hs0 dX9_both_125
            · refine lv_iconst (v := nI 1) hx hb dX9_both_120 (by decide) ?_
              refine lv_goto (tgt := 125) hx hb dX9_both_121 (by decide) ?_
              have g33 : ws_33[33]? = some (m0, .inr (10, [.int (nI ((!bothOk docs xa xb (nI 4)).toNat)), .ref b1, .ref b2, .int (nI len), .int (nI ps), .ref b5, .ref b6, .ref b7, .int (nI nm), .int (nI bt_), .int (nI so), .int (nI wi), .ref b12, .int (nI fm), .ref b14, .ref b15, .ref b16, .int (nI dn), .int (nI ca), .int (nI st2), .ref b20, .ref b21, .ref b22, .ref b23, .ref b24, .int (nI xn), .ref b26, .int (nI bb), .int (nI rr), .int (nI pp), .int (nI qq), .ref b31])) := by rw [both_ok hsl_k hsl_q (by decide)]; exact g33
              exact CI.ret (v := (nI 1)) C hK hP hD hS rfl (⟨_, _, (by rw [both_at hsl_k hsl_q (by decide)]; show _ = nI (twM ta tb E docs rr bb pp qq k q).toNat; rw [bool1 c_117]; rfl), hsta_gl2_, hlo_gl2_, sm, g33, g48⟩) hc0 hs0 dX9_both_125
        · refine lv_iconst (v := nI 1) hx hb dX9_both_34 (by decide) ?_
          refine lv_goto (tgt := 39) hx hb dX9_both_35 (by decide) ?_
          refine CI.go (va_runV (As := [.int (nI 1)]) (rest := []) ⟨hx, hb, hml, hown, hts⟩ (c_X9_throwsIf (b := true) g33  _) (cwV 1 hts gX9_both_X9_throwsIf rfl rfl rfl (by decide +kernel) ⟨Nat.le_of_ble_eq_true rfl, Nat.le_of_ble_eq_true rfl⟩) ⟨pw_blind, va_recv hK hP (ci := 10) (q0 := 33) rfl g33, fun U hU hW => pw_pre hK hP hD hU hW⟩ rfl rfl hl.1 rfl (lv_room (Nat.le_of_ble_eq_true rfl)) dX9_both_39 ⟨by decide, by decide⟩) hD hS hA (fun r_35 ws_36 H locs hp hP hD hS => ?_)
          obtain ⟨rfl, sm_37, g33⟩ := hp
          have g40 := sm_37.get g40 (by simp)
          have g41 := sm_37.get g41 (by simp)
          have g42 := sm_37.get g42 (by simp)
          have g43 := sm_37.get g43 (by simp)
          have g44 := sm_37.get g44 (by simp)
          have g45 := sm_37.get g45 (by simp)
          have g46 := sm_37.get g46 (by simp)
          have g47 := sm_37.get g47 (by simp)
          have g48 := sm_37.get g48 (by simp)
          have sm := sm.call sm_37 (by intro k hk; (try simp only at hk ⊢); omega)
          have g33 : ws_36[33]? = some (m0, .inr (10, [.int (nI 1), .ref b1, .ref b2, .int (nI len), .int (nI ps), .ref b5, .ref b6, .ref b7, .int (nI nm), .int (nI bt_), .int (nI so), .int (nI wi), .ref b12, .int (nI fm), .ref b14, .ref b15, .ref b16, .int (nI dn), .int (nI ca), .int (nI sta), .ref b20, .ref b21, .ref b22, .ref b23, .ref b24, .int (nI xn), .ref b26, .int (nI bb), .int (nI rr), .int (nI pp), .int (nI qq), .ref b31])) := g33
          refine lv_if_eq (tgt := 47) hx hb dX9_both_42 (by decide) (fun c_42 => absurd c_42 (by decide)) (fun c_42 => ?_)
          refine lv_iconst (v := nI 0) hx hb dX9_both_45 (by decide) ?_
          have hno : bothOk docs xa xb ww = false := by first | (rw [bothOk, hsl_k]; rfl) | (rw [bothOk, hsl_q]; simp; done) | (rw [bothOk, isOut_lo c_26]; simp; done) | (rw [bothOk, isOut_hi c_31]; simp; done)
          have g33 : ws_36[33]? = some (m0, .inr (10, [.int (nI ((!bothOk docs xa xb ww).toNat)), .ref b1, .ref b2, .int (nI len), .int (nI ps), .ref b5, .ref b6, .ref b7, .int (nI nm), .int (nI bt_), .int (nI so), .int (nI wi), .ref b12, .int (nI fm), .ref b14, .ref b15, .ref b16, .int (nI dn), .int (nI ca), .int (nI sta), .ref b20, .ref b21, .ref b22, .ref b23, .ref b24, .int (nI xn), .ref b26, .int (nI bb), .int (nI rr), .int (nI pp), .int (nI qq), .ref b31])) := by rw [hno]; exact g33
          exact CI.ret (v := (nI 0)) C hK hP hD hS rfl (⟨sta, gl, (both_no hno).symm, hsta, hlo, sm, g33, g48⟩) hc0 hs0 dX9_both_46
