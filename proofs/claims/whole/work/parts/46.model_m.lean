set_option maxHeartbeats 4000000 in
set_option maxRecDepth 100000 in
theorem c_X9_document {D : va_G} {cB cI cJ cO : ClassId} {l : Launch} {m0 b1 b2 b5 b6 b7 b12 b14 b15 b16 b20 b21 b22 b23 b24 b26 b31 th len ps nm bt_ so wi fm dn ca sta xn bb rr pp qq : Nat} {ta tb gw go gt gn gm gs gl : Nat → Nat} {E : List (Nat × Nat × Nat)} {docs : List (Nat × List Nat)} {fa : Nat → Nat} {xa ww : Int32} {ws : va_W} (g33 : ws[33]? = some (m0, .inr (10, [.int (nI th), .ref b1, .ref b2, .int (nI len), .int (nI ps), .ref b5, .ref b6, .ref b7, .int (nI nm), .int (nI bt_), .int (nI so), .int (nI wi), .ref b12, .int (nI fm), .ref b14, .ref b15, .ref b16, .int (nI dn), .int (nI ca), .int (nI sta), .ref b20, .ref b21, .ref b22, .ref b23, .ref b24, .int (nI xn), .ref b26, .int (nI bb), .int (nI rr), .int (nI pp), .int (nI qq), .ref b31]))) (g40 : ws[40]? = some (b14, .inl (cI, 48, .inl (fun jj => nI (gn jj))))) (g41 : ws[41]? = some (b15, .inl (cI, 48, .inl (fun jj => nI (gm jj))))) (g42 : ws[42]? = some (b16, .inl (cI, 38400, .inl (fun jj => nI (gs jj))))) (g43 : ws[43]? = some (b20, .inl (cI, 64, .inl (fun jj => nI (ta jj))))) (g44 : ws[44]? = some (b21, .inl (cI, 64, .inl (fun jj => nI (tb jj))))) (g45 : ws[45]? = some (b22, .inl (cI, 300, .inl (fun jj => nI (gw jj))))) (g46 : ws[46]? = some (b23, .inl (cI, 300, .inl (fun jj => nI (go jj))))) (g47 : ws[47]? = some (b24, .inl (cI, 300, .inl (fun jj => nI (gt jj))))) (g48 : ws[48]? = some (b26, .inl (cI, 3072, .inl (fun jj => nI (gl jj))))) (g49 : ws[49]? = some (b31, .inl (cI, 48, .inl (fun jj => nI (fa jj))))) (hE : HdE gw go gt E) (hx9 : E.length = xn) (h300 : xn ≤ 300) (hsm : Esm E) (hta : Tab ta tb) (hdd : HdD gn gm gs docs) (hdn : docs.length = dn) (h48 : dn ≤ 48) (hds : Dsm docs) (hsta : sta ≤ 1) (hlo : sta = 0 → LeastOK gl ta tb E docs) (hbr : bb * rr ≤ 64) (hb64 : bb ≤ 64) (hr64 : rr ≤ 64) (hp4 : pp ≤ 10000) (hq4 : qq ≤ 10000) : CI D (TY cB cI cJ cO) l yX9_document wsX9_document ({ frames := 5, cells := 0, slots := 0, locals := 126 }) [.ref m0, .int xa, .int ww] ws (fun r ws' => ∃ sta2 : Nat, ∃ gl2 : Nat → Nat, ∃ fa2 : Nat → Nat, r = docR (twM ta tb E docs rr bb pp qq) docs xa ww ∧ (sta2 ≤ 1) ∧ (sta2 = 0 → LeastOK gl2 ta tb E docs) ∧ Sm (fun k => k = 33 ∨ k = 48 ∨ k = 49) ws ws' ∧ ws'[33]? = some (m0, .inr (10, [.int (nI ((!docOk docs xa ww).toNat)), .ref b1, .ref b2, .int (nI len), .int (nI ps), .ref b5, .ref b6, .ref b7, .int (nI nm), .int (nI bt_), .int (nI so), .int (nI wi), .ref b12, .int (nI fm), .ref b14, .ref b15, .ref b16, .int (nI dn), .int (nI ca), .int (nI sta2), .ref b20, .ref b21, .ref b22, .ref b23, .ref b24, .int (nI xn), .ref b26, .int (nI bb), .int (nI rr), .int (nI pp), .int (nI qq), .ref b31])) ∧ ws'[48]? = some (b26, .inl (cI, 3072, .inl (fun jj => nI (gl2 jj)))) ∧ ws'[49]? = some (b31, .inl (cI, 48, .inl (fun jj => nI (fa2 jj))))) := by
  refine CI.of (cc := cX9_document) (maxL := 6) (ret := (some .int)) (by decide) rfl (Nat.le_of_ble_eq_true rfl) ?_
  intro p e s m below meth c A C hK hP hD hA hS ls hl
  obtain ⟨hx, hb, hr, hml, hts, hown, hlocks, hnm⟩ := id C
  have fl_65 := hts (.fieldLink RX9 65 "TwinFinderModel" "documents" "I") (by decide +kernel)
  have fl_78 := hts (.fieldLink RX9 78 "TwinFinderModel" "many" "[I") (by decide +kernel)
  have fl_81 := hts (.fieldLink RX9 81 "TwinFinderModel" "number" "[I") (by decide +kernel)
  have fl_133 := hts (.fieldLink RX9 133 "TwinFinderModel" "family" "[I") (by decide +kernel)
  have hin_X9 : ∀ w ∈ u_ws RX9 TX9 32, w ∈ wsX9_document := by decide +kernel
  have hl : lv_has ls 6 [(0, .ref m0), (1, .int xa), (2, .int ww)] := hl
  have sm : Sm (fun k => k = 33 ∨ k = 48 ∨ k = 49) ws ws := Sm.rf
  have hc0 : (0 : Nat) ≤ 0 := by decide
  have hs0 : (0 : Nat) ≤ 0 := by decide
  refine lv_aload_n hx hb dX9_document_0 rfl (lv_at hl 0 rfl) ?_
  refine lv_iload_n hx hb dX9_document_1 rfl (lv_at hl 1 rfl) ?_
  refine CI.go (va_runV (As := [.int xa]) (rest := []) ⟨hx, hb, hml, hown, hts⟩ (c_X9_slot  g33 g40 hdd.num (by rw [List.length_map]; exact hdn) h48 _) (cwV 1 hts gX9_document_X9_slot rfl rfl rfl (by decide +kernel) ⟨Nat.le_of_ble_eq_true rfl, Nat.le_of_ble_eq_true rfl⟩) ⟨pw_blind, va_recv hK hP (ci := 10) (q0 := 33) rfl g33, fun U hU hW => pw_pre hK hP hD hU hW⟩ rfl rfl hl.1 rfl (lv_room (Nat.le_of_ble_eq_true rfl)) dX9_document_2 ⟨by decide, by decide⟩) hD hS hA (fun r_1 ws_2 H locs hp hP hD hS => ?_)
  obtain ⟨rfl, rfl⟩ := hp
  rcases hsl_k : slotOf (docs.map (fun d => d.1)) xa with _ | k
  · rw [show optI (slotOf (docs.map (fun d => d.1)) xa) = -1 from by rw [hsl_k]; rfl]
    refine lv_istore_n (lv' := [(3, .int (-1)), (0, .ref m0), (1, .int xa), (2, .int ww)]) hx hb dX9_document_5 rfl hl (by decide) rfl (fun ls hl => ?_)
    refine lv_aload_n hx hb dX9_document_6 rfl (lv_at hl 1 rfl) ?_
    refine lv_iload_n hx hb dX9_document_7 rfl (lv_at hl 0 rfl) ?_
    refine lv_if_lt (tgt := 20) hx hb dX9_document_8 (by decide) (fun c_8 => ?_) (fun c_8 => absurd (by decide) c_8)
    refine lv_iconst (v := nI 1) hx hb dX9_document_20 (by decide) ?_
    refine lv_goto (tgt := 25) hx hb dX9_document_21 (by decide) ?_
    refine CI.go (va_runV (As := [.int (nI 1)]) (rest := []) ⟨hx, hb, hml, hown, hts⟩ (c_X9_throwsIf (b := true) g33  _) (cwV 1 hts gX9_document_X9_throwsIf rfl rfl rfl (by decide +kernel) ⟨Nat.le_of_ble_eq_true rfl, Nat.le_of_ble_eq_true rfl⟩) ⟨pw_blind, va_recv hK hP (ci := 10) (q0 := 33) rfl g33, fun U hU hW => pw_pre hK hP hD hU hW⟩ rfl rfl hl.1 rfl (lv_room (Nat.le_of_ble_eq_true rfl)) dX9_document_25 ⟨by decide, by decide⟩) hD hS hA (fun r_3 ws_4 H locs hp hP hD hS => ?_)
    obtain ⟨rfl, sm_5, g33⟩ := hp
    have g40 := sm_5.get g40 (by simp)
    have g41 := sm_5.get g41 (by simp)
    have g42 := sm_5.get g42 (by simp)
    have g43 := sm_5.get g43 (by simp)
    have g44 := sm_5.get g44 (by simp)
    have g45 := sm_5.get g45 (by simp)
    have g46 := sm_5.get g46 (by simp)
    have g47 := sm_5.get g47 (by simp)
    have g48 := sm_5.get g48 (by simp)
    have g49 := sm_5.get g49 (by simp)
    have sm := sm.call sm_5 (by intro k hk; (try simp only at hk ⊢); omega)
    have g33 : ws_4[33]? = some (m0, .inr (10, [.int (nI 1), .ref b1, .ref b2, .int (nI len), .int (nI ps), .ref b5, .ref b6, .ref b7, .int (nI nm), .int (nI bt_), .int (nI so), .int (nI wi), .ref b12, .int (nI fm), .ref b14, .ref b15, .ref b16, .int (nI dn), .int (nI ca), .int (nI sta), .ref b20, .ref b21, .ref b22, .ref b23, .ref b24, .int (nI xn), .ref b26, .int (nI bb), .int (nI rr), .int (nI pp), .int (nI qq), .ref b31])) := g33
    refine lv_if_eq (tgt := 33) hx hb dX9_document_28 (by decide) (fun c_28 => absurd c_28 (by decide)) (fun c_28 => ?_)
    refine lv_iconst (v := nI 0) hx hb dX9_document_31 (by decide) ?_
    have hno : docOk docs xa ww = false := by first | (rw [docOk, hsl_k]; rfl) | (rw [docOk, isOut_lo c_12]; simp; done) | (rw [docOk, isOut_hi c_17]; simp; done)
    have g33 : ws_4[33]? = some (m0, .inr (10, [.int (nI ((!docOk docs xa ww).toNat)), .ref b1, .ref b2, .int (nI len), .int (nI ps), .ref b5, .ref b6, .ref b7, .int (nI nm), .int (nI bt_), .int (nI so), .int (nI wi), .ref b12, .int (nI fm), .ref b14, .ref b15, .ref b16, .int (nI dn), .int (nI ca), .int (nI sta), .ref b20, .ref b21, .ref b22, .ref b23, .ref b24, .int (nI xn), .ref b26, .int (nI bb), .int (nI rr), .int (nI pp), .int (nI qq), .ref b31])) := by rw [hno]; exact g33
    exact CI.ret (v := (nI 0)) C hK hP hD hS rfl (⟨sta, gl, fa, (doc_no hno).symm, hsta, hlo, sm, g33, g48, g49⟩) hc0 hs0 dX9_document_32
  · rw [show optI (slotOf (docs.map (fun d => d.1)) xa) = nI k from by rw [hsl_k]; rfl]
    have hkn : k < dn := by have := (slotOf_lt hsl_k).1; rw [List.length_map, hdn] at this; exact this
    have hkr := hdd k (by omega)
    have hks := hds docs[k] (List.getElem_mem _)
    refine lv_istore_n (lv' := [(3, .int (nI k)), (0, .ref m0), (1, .int xa), (2, .int ww)]) hx hb dX9_document_5 rfl hl (by decide) rfl (fun ls hl => ?_)
    refine lv_aload_n hx hb dX9_document_6 rfl (lv_at hl 1 rfl) ?_
    refine lv_iload_n hx hb dX9_document_7 rfl (lv_at hl 0 rfl) ?_
    refine nx_if_lt (tgt := 20) hx hb (by omega) dX9_document_8 (by decide) ?_
    refine lv_iload_n hx hb dX9_document_11 rfl (lv_at hl 3 rfl) ?_
    refine lv_if_lt (tgt := 20) hx hb dX9_document_12 (by decide) (fun c_12 => ?_) (fun c_12 => ?_)
    · refine lv_iconst (v := nI 1) hx hb dX9_document_20 (by decide) ?_
      refine lv_goto (tgt := 25) hx hb dX9_document_21 (by decide) ?_
      refine CI.go (va_runV (As := [.int (nI 1)]) (rest := []) ⟨hx, hb, hml, hown, hts⟩ (c_X9_throwsIf (b := true) g33  _) (cwV 1 hts gX9_document_X9_throwsIf rfl rfl rfl (by decide +kernel) ⟨Nat.le_of_ble_eq_true rfl, Nat.le_of_ble_eq_true rfl⟩) ⟨pw_blind, va_recv hK hP (ci := 10) (q0 := 33) rfl g33, fun U hU hW => pw_pre hK hP hD hU hW⟩ rfl rfl hl.1 rfl (lv_room (Nat.le_of_ble_eq_true rfl)) dX9_document_25 ⟨by decide, by decide⟩) hD hS hA (fun r_6 ws_7 H locs hp hP hD hS => ?_)
      obtain ⟨rfl, sm_8, g33⟩ := hp
      have g40 := sm_8.get g40 (by simp)
      have g41 := sm_8.get g41 (by simp)
      have g42 := sm_8.get g42 (by simp)
      have g43 := sm_8.get g43 (by simp)
      have g44 := sm_8.get g44 (by simp)
      have g45 := sm_8.get g45 (by simp)
      have g46 := sm_8.get g46 (by simp)
      have g47 := sm_8.get g47 (by simp)
      have g48 := sm_8.get g48 (by simp)
      have g49 := sm_8.get g49 (by simp)
      have sm := sm.call sm_8 (by intro k hk; (try simp only at hk ⊢); omega)
      have g33 : ws_7[33]? = some (m0, .inr (10, [.int (nI 1), .ref b1, .ref b2, .int (nI len), .int (nI ps), .ref b5, .ref b6, .ref b7, .int (nI nm), .int (nI bt_), .int (nI so), .int (nI wi), .ref b12, .int (nI fm), .ref b14, .ref b15, .ref b16, .int (nI dn), .int (nI ca), .int (nI sta), .ref b20, .ref b21, .ref b22, .ref b23, .ref b24, .int (nI xn), .ref b26, .int (nI bb), .int (nI rr), .int (nI pp), .int (nI qq), .ref b31])) := g33
      refine lv_if_eq (tgt := 33) hx hb dX9_document_28 (by decide) (fun c_28 => absurd c_28 (by decide)) (fun c_28 => ?_)
      refine lv_iconst (v := nI 0) hx hb dX9_document_31 (by decide) ?_
      have hno : docOk docs xa ww = false := by first | (rw [docOk, hsl_k]; rfl) | (rw [docOk, isOut_lo c_12]; simp; done) | (rw [docOk, isOut_hi c_17]; simp; done)
      have g33 : ws_7[33]? = some (m0, .inr (10, [.int (nI ((!docOk docs xa ww).toNat)), .ref b1, .ref b2, .int (nI len), .int (nI ps), .ref b5, .ref b6, .ref b7, .int (nI nm), .int (nI bt_), .int (nI so), .int (nI wi), .ref b12, .int (nI fm), .ref b14, .ref b15, .ref b16, .int (nI dn), .int (nI ca), .int (nI sta), .ref b20, .ref b21, .ref b22, .ref b23, .ref b24, .int (nI xn), .ref b26, .int (nI bb), .int (nI rr), .int (nI pp), .int (nI qq), .ref b31])) := by rw [hno]; exact g33
      exact CI.ret (v := (nI 0)) C hK hP hD hS rfl (⟨sta, gl, fa, (doc_no hno).symm, hsta, hlo, sm, g33, g48, g49⟩) hc0 hs0 dX9_document_32
    · refine lv_iload_n hx hb dX9_document_15 rfl (lv_at hl 3 rfl) ?_
      refine lv_iconst (v := nI 3) hx hb dX9_document_16 (by decide) ?_
      refine lv_icmp_le (tgt := 24) hx hb dX9_document_17 (by decide) (fun c_17 => ?_) (fun c_17 => ?_)
      · obtain ⟨w1, hw1, rfl⟩ : ∃ j : Nat, j ≤ 3 ∧ ww = nI j := nI_of2 (nI_toInt (by decide)) c_12 c_17
        refine lv_iconst (v := nI 0) hx hb dX9_document_24 (by decide) ?_
        refine CI.go (va_runV (As := [.int (nI 0)]) (rest := []) ⟨hx, hb, hml, hown, hts⟩ (c_X9_throwsIf (b := false) g33  _) (cwV 1 hts gX9_document_X9_throwsIf rfl rfl rfl (by decide +kernel) ⟨Nat.le_of_ble_eq_true rfl, Nat.le_of_ble_eq_true rfl⟩) ⟨pw_blind, va_recv hK hP (ci := 10) (q0 := 33) rfl g33, fun U hU hW => pw_pre hK hP hD hU hW⟩ rfl rfl hl.1 rfl (lv_room (Nat.le_of_ble_eq_true rfl)) dX9_document_25 ⟨by decide, by decide⟩) hD hS hA (fun r_9 ws_10 H locs hp hP hD hS => ?_)
        obtain ⟨rfl, sm_11, g33⟩ := hp
        have g40 := sm_11.get g40 (by simp)
        have g41 := sm_11.get g41 (by simp)
        have g42 := sm_11.get g42 (by simp)
        have g43 := sm_11.get g43 (by simp)
        have g44 := sm_11.get g44 (by simp)
        have g45 := sm_11.get g45 (by simp)
        have g46 := sm_11.get g46 (by simp)
        have g47 := sm_11.get g47 (by simp)
        have g48 := sm_11.get g48 (by simp)
        have g49 := sm_11.get g49 (by simp)
        have sm := sm.call sm_11 (by intro k hk; (try simp only at hk ⊢); omega)
        have g33 : ws_10[33]? = some (m0, .inr (10, [.int (nI 0), .ref b1, .ref b2, .int (nI len), .int (nI ps), .ref b5, .ref b6, .ref b7, .int (nI nm), .int (nI bt_), .int (nI so), .int (nI wi), .ref b12, .int (nI fm), .ref b14, .ref b15, .ref b16, .int (nI dn), .int (nI ca), .int (nI sta), .ref b20, .ref b21, .ref b22, .ref b23, .ref b24, .int (nI xn), .ref b26, .int (nI bb), .int (nI rr), .int (nI pp), .int (nI qq), .ref b31])) := g33
        refine lv_if_eq (tgt := 33) hx hb dX9_document_28 (by decide) (fun c_28 => ?_) (fun c_28 => absurd (by decide) c_28)
        rcases (show w1 = 0 ∨ w1 = 1 ∨ w1 = 2 ∨ w1 = 3 by omega) with rfl | rfl | rfl | rfl
        · have hset := True.intro
          refine lv_iload_n hx hb dX9_document_33 rfl (lv_at hl 3 rfl) ?_
          refine lv_if_ne (tgt := 44) hx hb dX9_document_34 (by decide) (fun c_34 => absurd (by decide) c_34) (fun c_34 => ?_)
          refine lv_aload_n hx hb dX9_document_37 rfl (lv_at hl 1 rfl) ?_
          refine va_get (D := D) (ci := 10) (v := .ref b15) (C := RX9) (T := TX9) (N := 32) hx hb hts hin_X9 hown hK hP 33 g33 rfl 15 (by decide) fl_78 (fun _ h9 => h9) rfl dX9_document_38 ?_
          refine lv_iload_n hx hb dX9_document_41 rfl (lv_at hl 0 rfl) ?_
          refine nx_iald hx hb hK hP 41 1 g41 rfl (k := k) (by omega) (by decide) dX9_document_42 ?_
          have g33 : ws_10[33]? = some (m0, .inr (10, [.int (nI ((!docOk docs xa (nI 0)).toNat)), .ref b1, .ref b2, .int (nI len), .int (nI ps), .ref b5, .ref b6, .ref b7, .int (nI nm), .int (nI bt_), .int (nI so), .int (nI wi), .ref b12, .int (nI fm), .ref b14, .ref b15, .ref b16, .int (nI dn), .int (nI ca), .int (nI sta), .ref b20, .ref b21, .ref b22, .ref b23, .ref b24, .int (nI xn), .ref b26, .int (nI bb), .int (nI rr), .int (nI pp), .int (nI qq), .ref b31])) := by rw [doc_ok hsl_k (by decide)]; exact g33
          exact CI.ret (v := (nI (gm k))) C hK hP hD hS rfl (⟨sta, gl, fa, (by rw [doc_at hsl_k (by decide), docV, if_pos rfl, gD_at (by omega), hkr.2.1]), hsta, hlo, sm, g33, g48, g49⟩) hc0 hs0 dX9_document_43
        · have hset := True.intro
          refine lv_iload_n hx hb dX9_document_33 rfl (lv_at hl 3 rfl) ?_
          refine lv_if_ne (tgt := 44) hx hb dX9_document_34 (by decide) (fun c_34 => ?_) (fun c_34 => absurd c_34 (by decide))
          refine lv_iload_n hx hb dX9_document_44 rfl (lv_at hl 3 rfl) ?_
          refine lv_iconst (v := nI 3) hx hb dX9_document_45 (by decide) ?_
          refine lv_icmp_ne (tgt := 99) hx hb dX9_document_46 (by decide) (fun c_46 => ?_) (fun c_46 => absurd c_46 (by decide))
          refine lv_aload_n hx hb dX9_document_99 rfl (lv_at hl 1 rfl) ?_
          refine CV.go (va_runV (As := []) (rest := []) ⟨hx, hb, hml, hown, hts⟩ (c_X9_families  g33 g41 g42 g43 g44 g45 g46 g47 g48 g49 hE hx9 h300 hsm hta hdd hdn h48 hds hsta hlo hbr hb64 hr64 hp4 hq4 _) (cwV 0 hts gX9_document_X9_families rfl rfl rfl (by decide +kernel) ⟨Nat.le_of_ble_eq_true rfl, Nat.le_of_ble_eq_true rfl⟩) ⟨pw_blind, va_recv hK hP (ci := 10) (q0 := 33) rfl g33, fun U hU hW => pw_pre hK hP hD hU hW⟩ rfl rfl hl.1 rfl (lv_room (Nat.le_of_ble_eq_true rfl)) dX9_document_100 ⟨by decide, by decide⟩) hD hS hA (fun ws_13 H locs hp hP hD hS => ?_)
          obtain ⟨stB, glB, fa2, hstB, hloB, hfam, sm_14, g33, g48, g49⟩ := hp
          have g40 := sm_14.get g40 (by simp)
          have g41 := sm_14.get g41 (by simp)
          have g42 := sm_14.get g42 (by simp)
          have g43 := sm_14.get g43 (by simp)
          have g44 := sm_14.get g44 (by simp)
          have g45 := sm_14.get g45 (by simp)
          have g46 := sm_14.get g46 (by simp)
          have g47 := sm_14.get g47 (by simp)
          have sm := sm.call sm_14 (by intro k hk; (try simp only at hk ⊢); omega)
          have g33 : ws_13[33]? = some (m0, .inr (10, [.int (nI 0), .ref b1, .ref b2, .int (nI len), .int (nI ps), .ref b5, .ref b6, .ref b7, .int (nI nm), .int (nI bt_), .int (nI so), .int (nI wi), .ref b12, .int (nI fm), .ref b14, .ref b15, .ref b16, .int (nI dn), .int (nI ca), .int (nI stB), .ref b20, .ref b21, .ref b22, .ref b23, .ref b24, .int (nI xn), .ref b26, .int (nI bb), .int (nI rr), .int (nI pp), .int (nI qq), .ref b31])) := g33
          have g48 : ws_13[48]? = some (b26, .inl (cI, 3072, .inl (fun jj => nI (glB jj)))) := g48
          have g49 : ws_13[49]? = some (b31, .inl (cI, 48, .inl (fun jj => nI (fa2 jj)))) := g49
          have hfam2 : FamOK fa2 docs.length (twM ta tb E docs rr bb pp qq) := by rw [hdn]; exact hfam
          have hfk := (hfam.1 k hkn).1
          have hfe := famC_eq hfam2
          refine lv_iload_n hx hb dX9_document_103 rfl (lv_at hl 3 rfl) ?_
          refine lv_iconst (v := nI 1) hx hb dX9_document_104 (by decide) ?_
          refine lv_icmp_ne (tgt := 122) hx hb dX9_document_105 (by decide) (fun c_105 => absurd (by decide) c_105) (fun c_105 => ?_)
          refine lv_aload_n hx hb dX9_document_108 rfl (lv_at hl 1 rfl) ?_
          refine va_get (D := D) (ci := 10) (v := .ref b14) (C := RX9) (T := TX9) (N := 32) hx hb hts hin_X9 hown hK hP 33 g33 rfl 14 (by decide) fl_81 (fun _ h9 => h9) rfl dX9_document_109 ?_
          refine lv_aload_n hx hb dX9_document_112 rfl (lv_at hl 1 rfl) ?_
          refine va_get (D := D) (ci := 10) (v := .ref b31) (C := RX9) (T := TX9) (N := 32) hx hb hts hin_X9 hown hK hP 33 g33 rfl 31 (by decide) fl_133 (fun _ h9 => h9) rfl dX9_document_113 ?_
          refine lv_iload_n hx hb dX9_document_116 rfl (lv_at hl 0 rfl) ?_
          refine nx_iald hx hb hK hP 49 1 g49 rfl (k := k) (by omega) (by decide) dX9_document_117 ?_
          refine nx_iald hx hb hK hP 40 1 g40 rfl (k := (fa2 k)) (by omega) (by decide) dX9_document_118 ?_
          refine lv_goto (tgt := 132) hx hb dX9_document_119 (by decide) ?_
          have g33 : ws_13[33]? = some (m0, .inr (10, [.int (nI ((!docOk docs xa (nI 1)).toNat)), .ref b1, .ref b2, .int (nI len), .int (nI ps), .ref b5, .ref b6, .ref b7, .int (nI nm), .int (nI bt_), .int (nI so), .int (nI wi), .ref b12, .int (nI fm), .ref b14, .ref b15, .ref b16, .int (nI dn), .int (nI ca), .int (nI stB), .ref b20, .ref b21, .ref b22, .ref b23, .ref b24, .int (nI xn), .ref b26, .int (nI bb), .int (nI rr), .int (nI pp), .int (nI qq), .ref b31])) := by rw [doc_ok hsl_k (by decide)]; exact g33
          exact CI.ret (v := (nI (gn (fa2 k)))) C hK hP hD hS rfl (⟨stB, glB, fa2, (by rw [doc_at hsl_k (by decide), docV, if_neg (by decide)]; first | (rw [if_pos rfl, ← hfe k (by omega), gD_at (by omega), (hdd (fa2 k) (by omega)).1]; done) | (rw [if_neg (by decide), if_pos rfl, ← hfe k (by omega), ← cntF_cong hfe, hdn]; done)), hstB, hloB, sm, g33, g48, g49⟩) hc0 hs0 dX9_document_132
        · have hset := True.intro
          refine lv_iload_n hx hb dX9_document_33 rfl (lv_at hl 3 rfl) ?_
          refine lv_if_ne (tgt := 44) hx hb dX9_document_34 (by decide) (fun c_34 => ?_) (fun c_34 => absurd c_34 (by decide))
          refine lv_iload_n hx hb dX9_document_44 rfl (lv_at hl 3 rfl) ?_
          refine lv_iconst (v := nI 3) hx hb dX9_document_45 (by decide) ?_
          refine lv_icmp_ne (tgt := 99) hx hb dX9_document_46 (by decide) (fun c_46 => ?_) (fun c_46 => absurd c_46 (by decide))
          refine lv_aload_n hx hb dX9_document_99 rfl (lv_at hl 1 rfl) ?_
          refine CV.go (va_runV (As := []) (rest := []) ⟨hx, hb, hml, hown, hts⟩ (c_X9_families  g33 g41 g42 g43 g44 g45 g46 g47 g48 g49 hE hx9 h300 hsm hta hdd hdn h48 hds hsta hlo hbr hb64 hr64 hp4 hq4 _) (cwV 0 hts gX9_document_X9_families rfl rfl rfl (by decide +kernel) ⟨Nat.le_of_ble_eq_true rfl, Nat.le_of_ble_eq_true rfl⟩) ⟨pw_blind, va_recv hK hP (ci := 10) (q0 := 33) rfl g33, fun U hU hW => pw_pre hK hP hD hU hW⟩ rfl rfl hl.1 rfl (lv_room (Nat.le_of_ble_eq_true rfl)) dX9_document_100 ⟨by decide, by decide⟩) hD hS hA (fun ws_16 H locs hp hP hD hS => ?_)
          obtain ⟨stB, glB, fa2, hstB, hloB, hfam, sm_17, g33, g48, g49⟩ := hp
          have g40 := sm_17.get g40 (by simp)
          have g41 := sm_17.get g41 (by simp)
          have g42 := sm_17.get g42 (by simp)
          have g43 := sm_17.get g43 (by simp)
          have g44 := sm_17.get g44 (by simp)
          have g45 := sm_17.get g45 (by simp)
          have g46 := sm_17.get g46 (by simp)
          have g47 := sm_17.get g47 (by simp)
          have sm := sm.call sm_17 (by intro k hk; (try simp only at hk ⊢); omega)
          have g33 : ws_16[33]? = some (m0, .inr (10, [.int (nI 0), .ref b1, .ref b2, .int (nI len), .int (nI ps), .ref b5, .ref b6, .ref b7, .int (nI nm), .int (nI bt_), .int (nI so), .int (nI wi), .ref b12, .int (nI fm), .ref b14, .ref b15, .ref b16, .int (nI dn), .int (nI ca), .int (nI stB), .ref b20, .ref b21, .ref b22, .ref b23, .ref b24, .int (nI xn), .ref b26, .int (nI bb), .int (nI rr), .int (nI pp), .int (nI qq), .ref b31])) := g33
          have g48 : ws_16[48]? = some (b26, .inl (cI, 3072, .inl (fun jj => nI (glB jj)))) := g48
          have g49 : ws_16[49]? = some (b31, .inl (cI, 48, .inl (fun jj => nI (fa2 jj)))) := g49
          have hfam2 : FamOK fa2 docs.length (twM ta tb E docs rr bb pp qq) := by rw [hdn]; exact hfam
          have hfk := (hfam.1 k hkn).1
          have hfe := famC_eq hfam2
          refine lv_iload_n hx hb dX9_document_103 rfl (lv_at hl 3 rfl) ?_
          refine lv_iconst (v := nI 1) hx hb dX9_document_104 (by decide) ?_
          refine lv_icmp_ne (tgt := 122) hx hb dX9_document_105 (by decide) (fun c_105 => ?_) (fun c_105 => absurd c_105 (by decide))
          refine lv_aload_n hx hb dX9_document_122 rfl (lv_at hl 1 rfl) ?_
          refine lv_aload_n hx hb dX9_document_123 rfl (lv_at hl 1 rfl) ?_
          refine va_get (D := D) (ci := 10) (v := .ref b31) (C := RX9) (T := TX9) (N := 32) hx hb hts hin_X9 hown hK hP 33 g33 rfl 31 (by decide) fl_133 (fun _ h9 => h9) rfl dX9_document_124 ?_
          refine lv_iload_n hx hb dX9_document_127 rfl (lv_at hl 0 rfl) ?_
          refine nx_iald hx hb hK hP 49 1 g49 rfl (k := k) (by omega) (by decide) dX9_document_128 ?_
          refine CI.go (va_runV (As := [.int (nI (fa2 k))]) (rest := []) ⟨hx, hb, hml, hown, hts⟩ (c_X9_inFamily  g33 g49 h48 (by omega) (fun t ht => by have := (hfam.1 t ht).1; omega) _) (cwV 1 hts gX9_document_X9_inFamily rfl rfl rfl (by decide +kernel) ⟨Nat.le_of_ble_eq_true rfl, Nat.le_of_ble_eq_true rfl⟩) ⟨pw_blind, va_recv hK hP (ci := 10) (q0 := 33) rfl g33, fun U hU hW => pw_pre hK hP hD hU hW⟩ rfl rfl hl.1 rfl (lv_room (Nat.le_of_ble_eq_true rfl)) dX9_document_129 ⟨by decide, by decide⟩) hD hS hA (fun r_18 ws_19 H locs hp hP hD hS => ?_)
          obtain ⟨rfl, rfl⟩ := hp
          have g33 : ws_16[33]? = some (m0, .inr (10, [.int (nI ((!docOk docs xa (nI 2)).toNat)), .ref b1, .ref b2, .int (nI len), .int (nI ps), .ref b5, .ref b6, .ref b7, .int (nI nm), .int (nI bt_), .int (nI so), .int (nI wi), .ref b12, .int (nI fm), .ref b14, .ref b15, .ref b16, .int (nI dn), .int (nI ca), .int (nI stB), .ref b20, .ref b21, .ref b22, .ref b23, .ref b24, .int (nI xn), .ref b26, .int (nI bb), .int (nI rr), .int (nI pp), .int (nI qq), .ref b31])) := by rw [doc_ok hsl_k (by decide)]; exact g33
          exact CI.ret (v := (nI (cntF fa2 (fa2 k) dn))) C hK hP hD hS rfl (⟨stB, glB, fa2, (by rw [doc_at hsl_k (by decide), docV, if_neg (by decide)]; first | (rw [if_pos rfl, ← hfe k (by omega), gD_at (by omega), (hdd (fa2 k) (by omega)).1]; done) | (rw [if_neg (by decide), if_pos rfl, ← hfe k (by omega), ← cntF_cong hfe, hdn]; done)), hstB, hloB, sm, g33, g48, g49⟩) hc0 hs0 dX9_document_132
        · have hset := True.intro
          refine lv_iload_n hx hb dX9_document_33 rfl (lv_at hl 3 rfl) ?_
          refine lv_if_ne (tgt := 44) hx hb dX9_document_34 (by decide) (fun c_34 => ?_) (fun c_34 => absurd c_34 (by decide))
          refine lv_iload_n hx hb dX9_document_44 rfl (lv_at hl 3 rfl) ?_
          refine lv_iconst (v := nI 3) hx hb dX9_document_45 (by decide) ?_
          refine lv_icmp_ne (tgt := 99) hx hb dX9_document_46 (by decide) (fun c_46 => absurd (by decide) c_46) (fun c_46 => ?_)
          refine lv_iconst (v := nI 0) hx hb dX9_document_49 (by decide) ?_
          refine lv_istore (lv' := [(4, .int (nI 0)), (3, .int (nI k)), (0, .ref m0), (1, .int xa), (2, .int (nI 3))]) hx hb dX9_document_50 hl (by decide) rfl (fun ls hl => ?_)
          refine lv_iconst (v := nI 0) hx hb dX9_document_52 (by decide) ?_
          refine lv_istore (lv' := [(5, .int (nI 0)), (4, .int (nI 0)), (3, .int (nI k)), (0, .ref m0), (1, .int xa), (2, .int (nI 3))]) hx hb dX9_document_53 hl (by decide) rfl (fun ls hl => ?_)
          have lp_55 : ∀ (fuel : Nat) (t stA : Nat) (glA : Nat → Nat), dn - t < fuel → (t ≤ dn) → (stA ≤ 1) → (stA = 0 → LeastOK glA ta tb E docs) → ∀ (ws1 : va_W) (H : Heap) (locs : List Loc) (ls : Array Slot), Sm (fun k => k = 33 ∨ k = 48 ∨ k = 49) ws ws1 → ws1[33]? = some (m0, .inr (10, [.int (nI 0), .ref b1, .ref b2, .int (nI len), .int (nI ps), .ref b5, .ref b6, .ref b7, .int (nI nm), .int (nI bt_), .int (nI so), .int (nI wi), .ref b12, .int (nI fm), .ref b14, .ref b15, .ref b16, .int (nI dn), .int (nI ca), .int (nI stA), .ref b20, .ref b21, .ref b22, .ref b23, .ref b24, .int (nI xn), .ref b26, .int (nI bb), .int (nI rr), .int (nI pp), .int (nI qq), .ref b31])) → ws1[40]? = some (b14, .inl (cI, 48, .inl (fun jj => nI (gn jj)))) → ws1[41]? = some (b15, .inl (cI, 48, .inl (fun jj => nI (gm jj)))) → ws1[42]? = some (b16, .inl (cI, 38400, .inl (fun jj => nI (gs jj)))) → ws1[43]? = some (b20, .inl (cI, 64, .inl (fun jj => nI (ta jj)))) → ws1[44]? = some (b21, .inl (cI, 64, .inl (fun jj => nI (tb jj)))) → ws1[45]? = some (b22, .inl (cI, 300, .inl (fun jj => nI (gw jj)))) → ws1[46]? = some (b23, .inl (cI, 300, .inl (fun jj => nI (go jj)))) → ws1[47]? = some (b24, .inl (cI, 300, .inl (fun jj => nI (gt jj)))) → ws1[48]? = some (b26, .inl (cI, 3072, .inl (fun jj => nI (glA jj)))) → ws1[49]? = some (b31, .inl (cI, 48, .inl (fun jj => nI (fa jj)))) → va_P D vwCl ws1 H → va_D A ws1 → va_S A s.heap H locs → lv_has ls 6 [(0, .ref m0), (1, .int xa), (2, .int (nI 3)), (3, .int (nI k)), (4, .int (nI (cntB (fun t => decide (t ≠ k) && twM ta tb E docs rr bb pp qq k t) t))), (5, .int (nI t))] → W p l e ({ frames := 5, cells := 0, slots := 0, locals := 126 }) s m ([.ref m0, .int xa, .int (nI 3)] : List Value).toArray below meth c H locs 0 0 (ZI D (TY cB cI cJ cO) (fun r ws' => ∃ sta2 : Nat, ∃ gl2 : Nat → Nat, ∃ fa2 : Nat → Nat, r = docR (twM ta tb E docs rr bb pp qq) docs xa (nI 3) ∧ (sta2 ≤ 1) ∧ (sta2 = 0 → LeastOK gl2 ta tb E docs) ∧ Sm (fun k => k = 33 ∨ k = 48 ∨ k = 49) ws ws' ∧ ws'[33]? = some (m0, .inr (10, [.int (nI ((!docOk docs xa (nI 3)).toNat)), .ref b1, .ref b2, .int (nI len), .int (nI ps), .ref b5, .ref b6, .ref b7, .int (nI nm), .int (nI bt_), .int (nI so), .int (nI wi), .ref b12, .int (nI fm), .ref b14, .ref b15, .ref b16, .int (nI dn), .int (nI ca), .int (nI sta2), .ref b20, .ref b21, .ref b22, .ref b23, .ref b24, .int (nI xn), .ref b26, .int (nI bb), .int (nI rr), .int (nI pp), .int (nI qq), .ref b31])) ∧ ws'[48]? = some (b26, .inl (cI, 3072, .inl (fun jj => nI (gl2 jj)))) ∧ ws'[49]? = some (b31, .inl (cI, 48, .inl (fun jj => nI (fa2 jj))))) below [.ref m0, .int xa, .int (nI 3)] s 0 0 A) (F0 m 55 ls []) := by
            intro fuel
            induction fuel with
            | zero => intro t stA glA hfu; exact absurd hfu (Nat.not_lt_zero _)
            | succ fuel ih_55 =>
              intro t stA glA hfu_55 ht hstA hloA ws1 H locs ls sm g33 g40 g41 g42 g43 g44 g45 g46 g47 g48 g49 hP hD hS hl
              refine lv_iload hx hb dX9_document_55 (lv_at hl 5 rfl) ?_
              refine lv_aload_n hx hb dX9_document_57 rfl (lv_at hl 0 rfl) ?_
              refine va_get (D := D) (ci := 10) (v := .int (nI dn)) (C := RX9) (T := TX9) (N := 32) hx hb hts hin_X9 hown hK hP 33 g33 rfl 17 (by decide) fl_65 (fun _ h9 => h9) rfl dX9_document_58 ?_
              refine nx_icmp_ge (tgt := 96) hx hb (by omega) (by omega) dX9_document_61 (by decide) (fun c_61 => ?_) (fun c_61 => ?_)
              · refine lv_iload hx hb dX9_document_96 (lv_at hl 4 rfl) ?_
                have g33 : ws1[33]? = some (m0, .inr (10, [.int (nI ((!docOk docs xa (nI 3)).toNat)), .ref b1, .ref b2, .int (nI len), .int (nI ps), .ref b5, .ref b6, .ref b7, .int (nI nm), .int (nI bt_), .int (nI so), .int (nI wi), .ref b12, .int (nI fm), .ref b14, .ref b15, .ref b16, .int (nI dn), .int (nI ca), .int (nI stA), .ref b20, .ref b21, .ref b22, .ref b23, .ref b24, .int (nI xn), .ref b26, .int (nI bb), .int (nI rr), .int (nI pp), .int (nI qq), .ref b31])) := by rw [doc_ok hsl_k (by decide)]; exact g33
                exact CI.ret (v := (nI (cntB (fun t => decide (t ≠ k) && twM ta tb E docs rr bb pp qq k t) t))) C hK hP hD hS rfl (⟨stA, glA, fa, (by rw [doc_at hsl_k (by decide), docV, if_neg (by decide), if_neg (by decide), if_neg (by decide), show t = docs.length by omega]), hstA, hloA, sm, g33, g48, g49⟩) hc0 hs0 dX9_document_98
              · refine lv_iload hx hb dX9_document_64 (lv_at hl 4 rfl) ?_
                refine lv_iload hx hb dX9_document_66 (lv_at hl 5 rfl) ?_
                refine lv_iload_n hx hb dX9_document_68 rfl (lv_at hl 3 rfl) ?_
                refine nx_icmp_eq (tgt := 86) hx hb (by omega) (by omega) dX9_document_69 (by decide) (fun c_69 => ?_) (fun c_69 => ?_)
                · refine lv_iconst (v := nI 0) hx hb dX9_document_86 (by decide) ?_
                  refine nx_iadd hx hb dX9_document_87 ?_
                  refine lv_istore (lv' := [(4, .int (nI ((cntB (fun t => decide (t ≠ k) && twM ta tb E docs rr bb pp qq k t) t) + 0))), (0, .ref m0), (1, .int xa), (2, .int (nI 3)), (3, .int (nI k)), (5, .int (nI t))]) hx hb dX9_document_88 hl (by decide) rfl (fun ls hl => ?_)
                  refine lv_iinc (v := (nI (t + 1))) (lv' := [(5, .int (nI (t + 1))), (4, .int (nI ((cntB (fun t => decide (t ≠ k) && twM ta tb E docs rr bb pp qq k t) t) + 0))), (0, .ref m0), (1, .int xa), (2, .int (nI 3)), (3, .int (nI k))]) hx hb dX9_document_90 hl (k := 5) rfl (nx_inc _ 1) (by decide) rfl (fun ls hl => ?_)
                  refine lv_goto (tgt := 55) hx hb dX9_document_93 (by decide) ?_
                  have hl : lv_has ls 6 [(5, .int (nI (t + 1))), (4, .int (nI (cntB (fun t => decide (t ≠ k) && twM ta tb E docs rr bb pp qq k t) (t + 1)))), (0, .ref m0), (1, .int xa), (2, .int (nI 3)), (3, .int (nI k))] := by rw [← show (cntB (fun t => decide (t ≠ k) && twM ta tb E docs rr bb pp qq k t) t) + 0 = cntB (fun t => decide (t ≠ k) && twM ta tb E docs rr bb pp qq k t) (t + 1) from (by rw [cntB]; first | (rw [decide_eq_true c_69, bool1 c_79]; rfl) | (rw [decide_eq_true c_69, bool0 c_79]; rfl) | (rw [decide_eq_false (fun h => h c_69)]; rfl))]; exact hl
                  exact ih_55 (t + 1) stA glA (by omega) (by omega) hstA hloA _ _ _ _ sm g33 g40 g41 g42 g43 g44 g45 g46 g47 g48 g49 hP hD hS (lv_sub hl [2, 3, 4, 5, 1, 0] rfl)
                · refine lv_aload_n hx hb dX9_document_72 rfl (lv_at hl 0 rfl) ?_
                  refine lv_iload_n hx hb dX9_document_73 rfl (lv_at hl 3 rfl) ?_
                  refine lv_iload hx hb dX9_document_74 (lv_at hl 5 rfl) ?_
                  refine CI.go (va_runV (As := [.int (nI k), .int (nI t)]) (rest := [.int (nI (cntB (fun t => decide (t ≠ k) && twM ta tb E docs rr bb pp qq k t) t))]) ⟨hx, hb, hml, hown, hts⟩ (c_X9_areTwins  g33 g41 g42 g43 g44 g45 g46 g47 g48 hE hx9 h300 hsm hta hdd hdn h48 hds hstA hloA hbr hb64 hr64 hp4 hq4 (by omega) (by omega) _) (cwV 2 hts gX9_document_X9_areTwins rfl rfl rfl (by decide +kernel) ⟨Nat.le_of_ble_eq_true rfl, Nat.le_of_ble_eq_true rfl⟩) ⟨pw_blind, va_recv hK hP (ci := 10) (q0 := 33) rfl g33, fun U hU hW => pw_pre hK hP hD hU hW⟩ rfl rfl hl.1 rfl (lv_room (Nat.le_of_ble_eq_true rfl)) dX9_document_76 ⟨by decide, by decide⟩) hD hS hA (fun r_20 ws_21 H locs hp hP hD hS => ?_)
                  obtain ⟨stB, glB, rfl, hstB, hloB, sm_22, g33, g48⟩ := hp
                  have g40 := sm_22.get g40 (by simp)
                  have g41 := sm_22.get g41 (by simp)
                  have g42 := sm_22.get g42 (by simp)
                  have g43 := sm_22.get g43 (by simp)
                  have g44 := sm_22.get g44 (by simp)
                  have g45 := sm_22.get g45 (by simp)
                  have g46 := sm_22.get g46 (by simp)
                  have g47 := sm_22.get g47 (by simp)
                  have g49 := sm_22.get g49 (by simp)
                  have sm := sm.call sm_22 (by intro k hk; (try simp only at hk ⊢); omega)
                  have g33 : ws_21[33]? = some (m0, .inr (10, [.int (nI 0), .ref b1, .ref b2, .int (nI len), .int (nI ps), .ref b5, .ref b6, .ref b7, .int (nI nm), .int (nI bt_), .int (nI so), .int (nI wi), .ref b12, .int (nI fm), .ref b14, .ref b15, .ref b16, .int (nI dn), .int (nI ca), .int (nI stB), .ref b20, .ref b21, .ref b22, .ref b23, .ref b24, .int (nI xn), .ref b26, .int (nI bb), .int (nI rr), .int (nI pp), .int (nI qq), .ref b31])) := g33
                  have g48 : ws_21[48]? = some (b26, .inl (cI, 3072, .inl (fun jj => nI (glB jj)))) := g48
                  refine nx_if_eq (tgt := 86) hx hb (by cases twM ta tb E docs rr bb pp qq k t <;> decide) dX9_document_79 (by decide) (fun c_79 => ?_) (fun c_79 => ?_)
                  · refine lv_iconst (v := nI 0) hx hb dX9_document_86 (by decide) ?_
                    refine nx_iadd hx hb dX9_document_87 ?_
                    refine lv_istore (lv' := [(4, .int (nI ((cntB (fun t => decide (t ≠ k) && twM ta tb E docs rr bb pp qq k t) t) + 0))), (0, .ref m0), (1, .int xa), (2, .int (nI 3)), (3, .int (nI k)), (5, .int (nI t))]) hx hb dX9_document_88 hl (by decide) rfl (fun ls hl => ?_)
                    refine lv_iinc (v := (nI (t + 1))) (lv' := [(5, .int (nI (t + 1))), (4, .int (nI ((cntB (fun t => decide (t ≠ k) && twM ta tb E docs rr bb pp qq k t) t) + 0))), (0, .ref m0), (1, .int xa), (2, .int (nI 3)), (3, .int (nI k))]) hx hb dX9_document_90 hl (k := 5) rfl (nx_inc _ 1) (by decide) rfl (fun ls hl => ?_)
                    refine lv_goto (tgt := 55) hx hb dX9_document_93 (by decide) ?_
                    have hl : lv_has ls 6 [(5, .int (nI (t + 1))), (4, .int (nI (cntB (fun t => decide (t ≠ k) && twM ta tb E docs rr bb pp qq k t) (t + 1)))), (0, .ref m0), (1, .int xa), (2, .int (nI 3)), (3, .int (nI k))] := by rw [← show (cntB (fun t => decide (t ≠ k) && twM ta tb E docs rr bb pp qq k t) t) + 0 = cntB (fun t => decide (t ≠ k) && twM ta tb E docs rr bb pp qq k t) (t + 1) from (by rw [cntB]; first | (rw [decide_eq_true c_69, bool1 c_79]; rfl) | (rw [decide_eq_true c_69, bool0 c_79]; rfl) | (rw [decide_eq_false (fun h => h c_69)]; rfl))]; exact hl
                    exact ih_55 (t + 1) stB glB (by omega) (by omega) hstB hloB _ _ _ _ sm g33 g40 g41 g42 g43 g44 g45 g46 g47 g48 g49 hP hD hS (lv_sub hl [2, 3, 4, 5, 1, 0] rfl)
                  · refine lv_iconst (v := nI 1) hx hb dX9_document_82 (by decide) ?_
                    refine lv_goto (tgt := 87) hx hb dX9_document_83 (by decide) ?_
                    refine nx_iadd hx hb dX9_document_87 ?_
                    refine lv_istore (lv' := [(4, .int (nI ((cntB (fun t => decide (t ≠ k) && twM ta tb E docs rr bb pp qq k t) t) + 1))), (0, .ref m0), (1, .int xa), (2, .int (nI 3)), (3, .int (nI k)), (5, .int (nI t))]) hx hb dX9_document_88 hl (by decide) rfl (fun ls hl => ?_)
                    refine lv_iinc (v := (nI (t + 1))) (lv' := [(5, .int (nI (t + 1))), (4, .int (nI ((cntB (fun t => decide (t ≠ k) && twM ta tb E docs rr bb pp qq k t) t) + 1))), (0, .ref m0), (1, .int xa), (2, .int (nI 3)), (3, .int (nI k))]) hx hb dX9_document_90 hl (k := 5) rfl (nx_inc _ 1) (by decide) rfl (fun ls hl => ?_)
                    refine lv_goto (tgt := 55) hx hb dX9_document_93 (by decide) ?_
                    have hl : lv_has ls 6 [(5, .int (nI (t + 1))), (4, .int (nI (cntB (fun t => decide (t ≠ k) && twM ta tb E docs rr bb pp qq k t) (t + 1)))), (0, .ref m0), (1, .int xa), (2, .int (nI 3)), (3, .int (nI k))] := by rw [← show (cntB (fun t => decide (t ≠ k) && twM ta tb E docs rr bb pp qq k t) t) + 1 = cntB (fun t => decide (t ≠ k) && twM ta tb E docs rr bb pp qq k t) (t + 1) from (by rw [cntB]; first | (rw [decide_eq_true c_69, bool1 c_79]; rfl) | (rw [decide_eq_true c_69, bool0 c_79]; rfl) | (rw [decide_eq_false (fun h => h c_69)]; rfl))]; exact hl
                    exact ih_55 (t + 1) stB glB (by omega) (by omega) hstB hloB _ _ _ _ sm g33 g40 g41 g42 g43 g44 g45 g46 g47 g48 g49 hP hD hS (lv_sub hl [2, 3, 4, 5, 1, 0] rfl)
          exact lp_55 _ 0 sta gl (Nat.lt_succ_self _) (Nat.zero_le _) hsta hlo _ _ _ _ sm g33 g40 g41 g42 g43 g44 g45 g46 g47 g48 g49 hP hD hS (lv_sub hl [3, 4, 5, 2, 1, 0] rfl)
      · refine lv_iconst (v := nI 1) hx hb dX9_document_20 (by decide) ?_
        refine lv_goto (tgt := 25) hx hb dX9_document_21 (by decide) ?_
        refine CI.go (va_runV (As := [.int (nI 1)]) (rest := []) ⟨hx, hb, hml, hown, hts⟩ (c_X9_throwsIf (b := true) g33  _) (cwV 1 hts gX9_document_X9_throwsIf rfl rfl rfl (by decide +kernel) ⟨Nat.le_of_ble_eq_true rfl, Nat.le_of_ble_eq_true rfl⟩) ⟨pw_blind, va_recv hK hP (ci := 10) (q0 := 33) rfl g33, fun U hU hW => pw_pre hK hP hD hU hW⟩ rfl rfl hl.1 rfl (lv_room (Nat.le_of_ble_eq_true rfl)) dX9_document_25 ⟨by decide, by decide⟩) hD hS hA (fun r_23 ws_24 H locs hp hP hD hS => ?_)
        obtain ⟨rfl, sm_25, g33⟩ := hp
        have g40 := sm_25.get g40 (by simp)
        have g41 := sm_25.get g41 (by simp)
        have g42 := sm_25.get g42 (by simp)
        have g43 := sm_25.get g43 (by simp)
        have g44 := sm_25.get g44 (by simp)
        have g45 := sm_25.get g45 (by simp)
        have g46 := sm_25.get g46 (by simp)
        have g47 := sm_25.get g47 (by simp)
        have g48 := sm_25.get g48 (by simp)
        have g49 := sm_25.get g49 (by simp)
        have sm := sm.call sm_25 (by intro k hk; (try simp only at hk ⊢); omega)
        have g33 : ws_24[33]? = some (m0, .inr (10, [.int (nI 1), .ref b1, .ref b2, .int (nI len), .int (nI ps), .ref b5, .ref b6, .ref b7, .int (nI nm), .int (nI bt_), .int (nI so), .int (nI wi), .ref b12, .int (nI fm), .ref b14, .ref b15, .ref b16, .int (nI dn), .int (nI ca), .int (nI sta), .ref b20, .ref b21, .ref b22, .ref b23, .ref b24, .int (nI xn), .ref b26, .int (nI bb), .int (nI rr), .int (nI pp), .int (nI qq), .ref b31])) := g33
        refine lv_if_eq (tgt := 33) hx hb dX9_document_28 (by decide) (fun c_28 => absurd c_28 (by decide)) (fun c_28 => ?_)
        refine lv_iconst (v := nI 0) hx hb dX9_document_31 (by decide) ?_
        have hno : docOk docs xa ww = false := by first | (rw [docOk, hsl_k]; rfl) | (rw [docOk, isOut_lo c_12]; simp; done) | (rw [docOk, isOut_hi c_17]; simp; done)
        have g33 : ws_24[33]? = some (m0, .inr (10, [.int (nI ((!docOk docs xa ww).toNat)), .ref b1, .ref b2, .int (nI len), .int (nI ps), .ref b5, .ref b6, .ref b7, .int (nI nm), .int (nI bt_), .int (nI so), .int (nI wi), .ref b12, .int (nI fm), .ref b14, .ref b15, .ref b16, .int (nI dn), .int (nI ca), .int (nI sta), .ref b20, .ref b21, .ref b22, .ref b23, .ref b24, .int (nI xn), .ref b26, .int (nI bb), .int (nI rr), .int (nI pp), .int (nI qq), .ref b31])) := by rw [hno]; exact g33
        exact CI.ret (v := (nI 0)) C hK hP hD hS rfl (⟨sta, gl, fa, (doc_no hno).symm, hsta, hlo, sm, g33, g48, g49⟩) hc0 hs0 dX9_document_32
