def sgOk (docs : List (Nat × List Nat)) (x j : Int32) : Bool := (slotOf (docs.map (fun d => d.1)) x).isSome && !isOut j (nI 0) (nI 63)

set_option maxHeartbeats 4000000 in
set_option maxRecDepth 100000 in
theorem c_X9_isPair {D : va_G} {cB cI cJ cO : ClassId} {l : Launch} {m0 b1 b2 b5 b6 b7 b12 b14 b15 b16 b20 b21 b22 b23 b24 b26 b31 th len ps nm bt_ so wi fm dn ca sta xn bb rr pp qq : Nat} {ta tb gw go gt gn gm gs gl : Nat → Nat} {E : List (Nat × Nat × Nat)} {docs : List (Nat × List Nat)} {kd x y : Nat} {ws : va_W} (g33 : ws[33]? = some (m0, .inr (10, [.int (nI th), .ref b1, .ref b2, .int (nI len), .int (nI ps), .ref b5, .ref b6, .ref b7, .int (nI nm), .int (nI bt_), .int (nI so), .int (nI wi), .ref b12, .int (nI fm), .ref b14, .ref b15, .ref b16, .int (nI dn), .int (nI ca), .int (nI sta), .ref b20, .ref b21, .ref b22, .ref b23, .ref b24, .int (nI xn), .ref b26, .int (nI bb), .int (nI rr), .int (nI pp), .int (nI qq), .ref b31]))) (g41 : ws[41]? = some (b15, .inl (cI, 48, .inl (fun jj => nI (gm jj))))) (g42 : ws[42]? = some (b16, .inl (cI, 38400, .inl (fun jj => nI (gs jj))))) (g43 : ws[43]? = some (b20, .inl (cI, 64, .inl (fun jj => nI (ta jj))))) (g44 : ws[44]? = some (b21, .inl (cI, 64, .inl (fun jj => nI (tb jj))))) (g45 : ws[45]? = some (b22, .inl (cI, 300, .inl (fun jj => nI (gw jj))))) (g46 : ws[46]? = some (b23, .inl (cI, 300, .inl (fun jj => nI (go jj))))) (g47 : ws[47]? = some (b24, .inl (cI, 300, .inl (fun jj => nI (gt jj))))) (g48 : ws[48]? = some (b26, .inl (cI, 3072, .inl (fun jj => nI (gl jj))))) (hE : HdE gw go gt E) (hx9 : E.length = xn) (h300 : xn ≤ 300) (hsm : Esm E) (hta : Tab ta tb) (hdd : HdD gn gm gs docs) (hdn : docs.length = dn) (h48 : dn ≤ 48) (hds : Dsm docs) (hsta : sta ≤ 1) (hlo : sta = 0 → LeastOK gl ta tb E docs) (hbr : bb * rr ≤ 64) (hb64 : bb ≤ 64) (hr64 : rr ≤ 64) (hp4 : pp ≤ 10000) (hq4 : qq ≤ 10000) (hkd : kd < 2 ^ 31) (hxd : x < docs.length) (hyd : y < docs.length) : CI D (TY cB cI cJ cO) l yX9_isPair wsX9_isPair ({ frames := 4, cells := 0, slots := 0, locals := 100 }) [.ref m0, .int (nI kd), .int (nI x), .int (nI y)] ws (fun r ws' => ∃ sta2 : Nat, ∃ gl2 : Nat → Nat, r = nI ((if kd = 0 then (bdM ta tb E docs rr bb x y).isSome else twM ta tb E docs rr bb pp qq x y).toNat) ∧ (sta2 ≤ 1) ∧ (sta2 = 0 → LeastOK gl2 ta tb E docs) ∧ Sm (fun k => k = 33 ∨ k = 48) ws ws' ∧ ws'[33]? = some (m0, .inr (10, [.int (nI th), .ref b1, .ref b2, .int (nI len), .int (nI ps), .ref b5, .ref b6, .ref b7, .int (nI nm), .int (nI bt_), .int (nI so), .int (nI wi), .ref b12, .int (nI fm), .ref b14, .ref b15, .ref b16, .int (nI dn), .int (nI ca), .int (nI sta2), .ref b20, .ref b21, .ref b22, .ref b23, .ref b24, .int (nI xn), .ref b26, .int (nI bb), .int (nI rr), .int (nI pp), .int (nI qq), .ref b31])) ∧ ws'[48]? = some (b26, .inl (cI, 3072, .inl (fun jj => nI (gl2 jj))))) := by
  refine CI.of (cc := cX9_isPair) (maxL := 4) (ret := (some .boolean)) (by decide) rfl (Nat.le_of_ble_eq_true rfl) ?_
  intro p e s m below meth c A C hK hP hD hA hS ls hl
  obtain ⟨hx, hb, hr, hml, hts, hown, hlocks, hnm⟩ := id C
  have hl : lv_has ls 4 [(0, .ref m0), (1, .int (nI kd)), (2, .int (nI x)), (3, .int (nI y))] := hl
  have sm : Sm (fun k => k = 33 ∨ k = 48) ws ws := Sm.rf
  have hc0 : (0 : Nat) ≤ 0 := by decide
  have hs0 : (0 : Nat) ≤ 0 := by decide
  refine lv_iload_n hx hb dX9_isPair_0 rfl (lv_at hl 1 rfl) ?_
  refine nx_if_ne (tgt := 21) hx hb hkd dX9_isPair_1 (by decide) (fun c_1 => ?_) (fun c_1 => ?_)
  · refine lv_aload_n hx hb dX9_isPair_21 rfl (lv_at hl 0 rfl) ?_
    refine lv_iload_n hx hb dX9_isPair_22 rfl (lv_at hl 2 rfl) ?_
    refine lv_iload_n hx hb dX9_isPair_23 rfl (lv_at hl 3 rfl) ?_
    refine CI.go (va_runV (As := [.int (nI x), .int (nI y)]) (rest := []) ⟨hx, hb, hml, hown, hts⟩ (c_X9_areTwins  g33 g41 g42 g43 g44 g45 g46 g47 g48 hE hx9 h300 hsm hta hdd hdn h48 hds hsta hlo hbr hb64 hr64 hp4 hq4 hxd hyd _) (cwV 2 hts gX9_isPair_X9_areTwins rfl rfl rfl (by decide +kernel) ⟨Nat.le_of_ble_eq_true rfl, Nat.le_of_ble_eq_true rfl⟩) ⟨pw_blind, va_recv hK hP (ci := 10) (q0 := 33) rfl g33, fun U hU hW => pw_pre hK hP hD hU hW⟩ rfl rfl hl.1 rfl (lv_room (Nat.le_of_ble_eq_true rfl)) dX9_isPair_24 ⟨by decide, by decide⟩) hD hS hA (fun r_1 ws_2 H locs hp hP hD hS => ?_)
    obtain ⟨st1, gl1_, rfl, hsta_gl1_, hlo_gl1_, sm_3, g33, g48⟩ := hp
    have g41 := sm_3.get g41 (by simp)
    have g42 := sm_3.get g42 (by simp)
    have g43 := sm_3.get g43 (by simp)
    have g44 := sm_3.get g44 (by simp)
    have g45 := sm_3.get g45 (by simp)
    have g46 := sm_3.get g46 (by simp)
    have g47 := sm_3.get g47 (by simp)
    have sm := sm.call sm_3 (by intro k hk; (try simp only at hk ⊢); omega)
    have g33 : ws_2[33]? = some (m0, .inr (10, [.int (nI th), .ref b1, .ref b2, .int (nI len), .int (nI ps), .ref b5, .ref b6, .ref b7, .int (nI nm), .int (nI bt_), .int (nI so), .int (nI wi), .ref b12, .int (nI fm), .ref b14, .ref b15, .ref b16, .int (nI dn), .int (nI ca), .int (nI st1), .ref b20, .ref b21, .ref b22, .ref b23, .ref b24, .int (nI xn), .ref b26, .int (nI bb), .int (nI rr), .int (nI pp), .int (nI qq), .ref b31])) := g33
    have g48 : ws_2[48]? = some (b26, .inl (cI, 3072, .inl (fun jj => nI (gl1_ jj)))) := g48
    exact CI.ret (v := (nI ((twM ta tb E docs rr bb pp qq x y).toNat))) C hK hP hD hS (by first | decide | (cases twM ta tb E docs rr bb pp qq x y <;> decide)) (⟨_, _, (by rw [if_neg (by omega)]), hsta_gl1_, hlo_gl1_, sm, g33, g48⟩) hc0 hs0 dX9_isPair_27
  · refine lv_aload_n hx hb dX9_isPair_4 rfl (lv_at hl 0 rfl) ?_
    refine lv_iload_n hx hb dX9_isPair_5 rfl (lv_at hl 2 rfl) ?_
    refine lv_iload_n hx hb dX9_isPair_6 rfl (lv_at hl 3 rfl) ?_
    refine CI.go (va_runV (As := [.int (nI x), .int (nI y)]) (rest := []) ⟨hx, hb, hml, hown, hts⟩ (c_X9_band  g33 g41 g42 g43 g44 g45 g46 g47 g48 hE hx9 h300 hsm hta hdd hdn h48 hds hsta hlo hbr hb64 hr64 hxd hyd _) (cwV 2 hts gX9_isPair_X9_band rfl rfl rfl (by decide +kernel) ⟨Nat.le_of_ble_eq_true rfl, Nat.le_of_ble_eq_true rfl⟩) ⟨pw_blind, va_recv hK hP (ci := 10) (q0 := 33) rfl g33, fun U hU hW => pw_pre hK hP hD hU hW⟩ rfl rfl hl.1 rfl (lv_room (Nat.le_of_ble_eq_true rfl)) dX9_isPair_7 ⟨by decide, by decide⟩) hD hS hA (fun r_4 ws_5 H locs hp hP hD hS => ?_)
    obtain ⟨st2, gl2_, rfl, hsta_gl2_, hlo_gl2_, sm_6, g33, g48⟩ := hp
    have g41 := sm_6.get g41 (by simp)
    have g42 := sm_6.get g42 (by simp)
    have g43 := sm_6.get g43 (by simp)
    have g44 := sm_6.get g44 (by simp)
    have g45 := sm_6.get g45 (by simp)
    have g46 := sm_6.get g46 (by simp)
    have g47 := sm_6.get g47 (by simp)
    have sm := sm.call sm_6 (by intro k hk; (try simp only at hk ⊢); omega)
    have g33 : ws_5[33]? = some (m0, .inr (10, [.int (nI th), .ref b1, .ref b2, .int (nI len), .int (nI ps), .ref b5, .ref b6, .ref b7, .int (nI nm), .int (nI bt_), .int (nI so), .int (nI wi), .ref b12, .int (nI fm), .ref b14, .ref b15, .ref b16, .int (nI dn), .int (nI ca), .int (nI st2), .ref b20, .ref b21, .ref b22, .ref b23, .ref b24, .int (nI xn), .ref b26, .int (nI bb), .int (nI rr), .int (nI pp), .int (nI qq), .ref b31])) := g33
    have g48 : ws_5[48]? = some (b26, .inl (cI, 3072, .inl (fun jj => nI (gl2_ jj)))) := g48
    rcases hbd : bdM ta tb E docs rr bb x y with _ | q
    · try simp only [optI]
      refine lv_if_lt (tgt := 17) hx hb dX9_isPair_10 (by decide) (fun c_10 => ?_) (fun c_10 => absurd (by decide) c_10)
      refine lv_iconst (v := nI 0) hx hb dX9_isPair_17 (by decide) ?_
      refine lv_goto (tgt := 27) hx hb dX9_isPair_18 (by decide) ?_
      exact CI.ret (v := (nI 0)) C hK hP hD hS (by first | decide | (cases twM ta tb E docs rr bb pp qq x y <;> decide)) (⟨_, _, (by rw [if_pos c_1]; rfl), hsta_gl2_, hlo_gl2_, sm, g33, g48⟩) hc0 hs0 dX9_isPair_27
    · try simp only [optI]
      have hq64 := bandF_lt hbd
      refine nx_if_lt (tgt := 17) hx hb (by omega) dX9_isPair_10 (by decide) ?_
      refine lv_iconst (v := nI 1) hx hb dX9_isPair_13 (by decide) ?_
      refine lv_goto (tgt := 27) hx hb dX9_isPair_14 (by decide) ?_
      exact CI.ret (v := (nI 1)) C hK hP hD hS (by first | decide | (cases twM ta tb E docs rr bb pp qq x y <;> decide)) (⟨_, _, (by rw [if_pos c_1]; rfl), hsta_gl2_, hlo_gl2_, sm, g33, g48⟩) hc0 hs0 dX9_isPair_27
set_option maxHeartbeats 4000000 in
set_option maxRecDepth 100000 in
theorem c_X9_isTold {D : va_G} {cB cI cJ cO : ClassId} {l : Launch} {m0 b1 b2 b5 b6 b7 b12 b14 b15 b16 b20 b21 b22 b23 b24 b26 b31 th len ps nm bt_ so wi fm dn ca sta xn bb rr pp qq : Nat} {fa : Nat → Nat} {kd x : Nat} {ws : va_W} (g33 : ws[33]? = some (m0, .inr (10, [.int (nI th), .ref b1, .ref b2, .int (nI len), .int (nI ps), .ref b5, .ref b6, .ref b7, .int (nI nm), .int (nI bt_), .int (nI so), .int (nI wi), .ref b12, .int (nI fm), .ref b14, .ref b15, .ref b16, .int (nI dn), .int (nI ca), .int (nI sta), .ref b20, .ref b21, .ref b22, .ref b23, .ref b24, .int (nI xn), .ref b26, .int (nI bb), .int (nI rr), .int (nI pp), .int (nI qq), .ref b31]))) (g49 : ws[49]? = some (b31, .inl (cI, 48, .inl (fun jj => nI (fa jj))))) (h48 : dn ≤ 48) (hkd : kd < 2 ^ 31) (hxd : x < dn) (hfa : ∀ k, k < dn → fa k < 2 ^ 31) : CI D (TY cB cI cJ cO) l yX9_isTold wsX9_isTold ({ frames := 1, cells := 0, slots := 0, locals := 23 }) [.ref m0, .int (nI kd), .int (nI x)] ws (fun r ws' => r = nI ((decide (fa x = x) && (decide (kd = 3) || decide (1 < cntF fa x dn))).toNat) ∧ ws = ws') := by
  refine CI.of (cc := cX9_isTold) (maxL := 3) (ret := (some .boolean)) (by decide) rfl (Nat.le_of_ble_eq_true rfl) ?_
  intro p e s m below meth c A C hK hP hD hA hS ls hl
  obtain ⟨hx, hb, hr, hml, hts, hown, hlocks, hnm⟩ := id C
  have fl_133 := hts (.fieldLink RX9 133 "TwinFinderModel" "family" "[I") (by decide +kernel)
  have hin_X9 : ∀ w ∈ u_ws RX9 TX9 32, w ∈ wsX9_isTold := by decide +kernel
  have hl : lv_has ls 3 [(0, .ref m0), (1, .int (nI kd)), (2, .int (nI x))] := hl
  have sm : Sm (fun _ => False) ws ws := Sm.rf
  have hc0 : (0 : Nat) ≤ 0 := by decide
  have hs0 : (0 : Nat) ≤ 0 := by decide
  refine lv_aload_n hx hb dX9_isTold_0 rfl (lv_at hl 0 rfl) ?_
  refine va_get (D := D) (ci := 10) (v := .ref b31) (C := RX9) (T := TX9) (N := 32) hx hb hts hin_X9 hown hK hP 33 g33 rfl 31 (by decide) fl_133 (fun _ h9 => h9) rfl dX9_isTold_1 ?_
  refine lv_iload_n hx hb dX9_isTold_4 rfl (lv_at hl 2 rfl) ?_
  refine nx_iald hx hb hK hP 49 1 g49 rfl (k := x) (by omega) (by decide) dX9_isTold_5 ?_
  refine lv_iload_n hx hb dX9_isTold_6 rfl (lv_at hl 2 rfl) ?_
  refine nx_icmp_ne (tgt := 28) hx hb (hfa x hxd) (by omega) dX9_isTold_7 (by decide) (fun c_7 => ?_) (fun c_7 => ?_)
  · refine lv_iconst (v := nI 0) hx hb dX9_isTold_28 (by decide) ?_
    exact CI.ret (v := (nI 0)) C hK hP hD hS (by decide) (⟨(by first | (rw [decide_eq_true c_7, decide_eq_true c_12]; rfl) | (rw [decide_eq_true c_7, decide_eq_false c_12, decide_eq_true c_21]; rfl) | (rw [decide_eq_true c_7, decide_eq_false c_12, decide_eq_false (Nat.not_lt.mpr c_21)]; rfl) | (rw [decide_eq_false c_7]; rfl)), rfl⟩) hc0 hs0 dX9_isTold_29
  · refine lv_iload_n hx hb dX9_isTold_10 rfl (lv_at hl 1 rfl) ?_
    refine lv_iconst (v := nI 3) hx hb dX9_isTold_11 (by decide) ?_
    refine nx_icmp_eq (tgt := 24) hx hb hkd (by decide) dX9_isTold_12 (by decide) (fun c_12 => ?_) (fun c_12 => ?_)
    · refine lv_iconst (v := nI 1) hx hb dX9_isTold_24 (by decide) ?_
      refine lv_goto (tgt := 29) hx hb dX9_isTold_25 (by decide) ?_
      exact CI.ret (v := (nI 1)) C hK hP hD hS (by decide) (⟨(by first | (rw [decide_eq_true c_7, decide_eq_true c_12]; rfl) | (rw [decide_eq_true c_7, decide_eq_false c_12, decide_eq_true c_21]; rfl) | (rw [decide_eq_true c_7, decide_eq_false c_12, decide_eq_false (Nat.not_lt.mpr c_21)]; rfl) | (rw [decide_eq_false c_7]; rfl)), rfl⟩) hc0 hs0 dX9_isTold_29
    · refine lv_aload_n hx hb dX9_isTold_15 rfl (lv_at hl 0 rfl) ?_
      refine lv_iload_n hx hb dX9_isTold_16 rfl (lv_at hl 2 rfl) ?_
      refine CI.go (va_runV (As := [.int (nI x)]) (rest := []) ⟨hx, hb, hml, hown, hts⟩ (c_X9_inFamily  g33 g49 h48 (by omega) hfa _) (cwV 1 hts gX9_isTold_X9_inFamily rfl rfl rfl (by decide +kernel) ⟨Nat.le_of_ble_eq_true rfl, Nat.le_of_ble_eq_true rfl⟩) ⟨pw_blind, va_recv hK hP (ci := 10) (q0 := 33) rfl g33, fun U hU hW => pw_pre hK hP hD hU hW⟩ rfl rfl hl.1 rfl (lv_room (Nat.le_of_ble_eq_true rfl)) dX9_isTold_17 ⟨by decide, by decide⟩) hD hS hA (fun r_1 ws_2 H locs hp hP hD hS => ?_)
      obtain ⟨rfl, rfl⟩ := hp
      refine lv_iconst (v := nI 1) hx hb dX9_isTold_20 (by decide) ?_
      refine nx_icmp_le (tgt := 28) hx hb (by have := cntF_le fa x dn; omega) (by decide) dX9_isTold_21 (by decide) (fun c_21 => ?_) (fun c_21 => ?_)
      · refine lv_iconst (v := nI 0) hx hb dX9_isTold_28 (by decide) ?_
        exact CI.ret (v := (nI 0)) C hK hP hD hS (by decide) (⟨(by first | (rw [decide_eq_true c_7, decide_eq_true c_12]; rfl) | (rw [decide_eq_true c_7, decide_eq_false c_12, decide_eq_true c_21]; rfl) | (rw [decide_eq_true c_7, decide_eq_false c_12, decide_eq_false (Nat.not_lt.mpr c_21)]; rfl) | (rw [decide_eq_false c_7]; rfl)), rfl⟩) hc0 hs0 dX9_isTold_29
      · refine lv_iconst (v := nI 1) hx hb dX9_isTold_24 (by decide) ?_
        refine lv_goto (tgt := 29) hx hb dX9_isTold_25 (by decide) ?_
        exact CI.ret (v := (nI 1)) C hK hP hD hS (by decide) (⟨(by first | (rw [decide_eq_true c_7, decide_eq_true c_12]; rfl) | (rw [decide_eq_true c_7, decide_eq_false c_12, decide_eq_true c_21]; rfl) | (rw [decide_eq_true c_7, decide_eq_false c_12, decide_eq_false (Nat.not_lt.mpr c_21)]; rfl) | (rw [decide_eq_false c_7]; rfl)), rfl⟩) hc0 hs0 dX9_isTold_29
set_option maxHeartbeats 4000000 in
set_option maxRecDepth 100000 in
theorem c_X9_signature {D : va_G} {cB cI cJ cO : ClassId} {l : Launch} {m0 b1 b2 b5 b6 b7 b12 b14 b15 b16 b20 b21 b22 b23 b24 b26 b31 th len ps nm bt_ so wi fm dn ca sta xn bb rr pp qq : Nat} {ta tb gw go gt gn gm gs gl : Nat → Nat} {E : List (Nat × Nat × Nat)} {docs : List (Nat × List Nat)} {x jj_ : Int32} {ws : va_W} (g33 : ws[33]? = some (m0, .inr (10, [.int (nI th), .ref b1, .ref b2, .int (nI len), .int (nI ps), .ref b5, .ref b6, .ref b7, .int (nI nm), .int (nI bt_), .int (nI so), .int (nI wi), .ref b12, .int (nI fm), .ref b14, .ref b15, .ref b16, .int (nI dn), .int (nI ca), .int (nI sta), .ref b20, .ref b21, .ref b22, .ref b23, .ref b24, .int (nI xn), .ref b26, .int (nI bb), .int (nI rr), .int (nI pp), .int (nI qq), .ref b31]))) (g40 : ws[40]? = some (b14, .inl (cI, 48, .inl (fun jj => nI (gn jj))))) (g41 : ws[41]? = some (b15, .inl (cI, 48, .inl (fun jj => nI (gm jj))))) (g42 : ws[42]? = some (b16, .inl (cI, 38400, .inl (fun jj => nI (gs jj))))) (g43 : ws[43]? = some (b20, .inl (cI, 64, .inl (fun jj => nI (ta jj))))) (g44 : ws[44]? = some (b21, .inl (cI, 64, .inl (fun jj => nI (tb jj))))) (g45 : ws[45]? = some (b22, .inl (cI, 300, .inl (fun jj => nI (gw jj))))) (g46 : ws[46]? = some (b23, .inl (cI, 300, .inl (fun jj => nI (go jj))))) (g47 : ws[47]? = some (b24, .inl (cI, 300, .inl (fun jj => nI (gt jj))))) (g48 : ws[48]? = some (b26, .inl (cI, 3072, .inl (fun jj => nI (gl jj))))) (hE : HdE gw go gt E) (hx9 : E.length = xn) (h300 : xn ≤ 300) (hsm : Esm E) (hta : Tab ta tb) (hdd : HdD gn gm gs docs) (hdn : docs.length = dn) (h48 : dn ≤ 48) (hds : Dsm docs) (hsta : sta ≤ 1) (hlo : sta = 0 → LeastOK gl ta tb E docs) : CI D (TY cB cI cJ cO) l yX9_signature wsX9_signature ({ frames := 2, cells := 0, slots := 0, locals := 51 }) [.ref m0, .int x, .int jj_] ws (fun r ws' => ∃ sta2 : Nat, ∃ gl2 : Nat → Nat, r = (bif (sgOk docs x jj_) then nI (sgOf ta tb E (dset docs (slotOf (docs.map (fun d => d.1)) x)) jj_.toNatClampNeg) else 0) ∧ (sta2 ≤ 1) ∧ (sta2 = 0 → LeastOK gl2 ta tb E docs) ∧ Sm (fun k => k = 33 ∨ k = 48) ws ws' ∧ ws'[33]? = some (m0, .inr (10, [.int (nI ((!sgOk docs x jj_).toNat)), .ref b1, .ref b2, .int (nI len), .int (nI ps), .ref b5, .ref b6, .ref b7, .int (nI nm), .int (nI bt_), .int (nI so), .int (nI wi), .ref b12, .int (nI fm), .ref b14, .ref b15, .ref b16, .int (nI dn), .int (nI ca), .int (nI sta2), .ref b20, .ref b21, .ref b22, .ref b23, .ref b24, .int (nI xn), .ref b26, .int (nI bb), .int (nI rr), .int (nI pp), .int (nI qq), .ref b31])) ∧ ws'[48]? = some (b26, .inl (cI, 3072, .inl (fun jj => nI (gl2 jj))))) := by
  refine CI.of (cc := cX9_signature) (maxL := 4) (ret := (some .int)) (by decide) rfl (Nat.le_of_ble_eq_true rfl) ?_
  intro p e s m below meth c A C hK hP hD hA hS ls hl
  obtain ⟨hx, hb, hr, hml, hts, hown, hlocks, hnm⟩ := id C
  have fl_118 := hts (.fieldLink RX9 118 "TwinFinderModel" "least" "[I") (by decide +kernel)
  have hin_X9 : ∀ w ∈ u_ws RX9 TX9 32, w ∈ wsX9_signature := by decide +kernel
  have hl : lv_has ls 4 [(0, .ref m0), (1, .int x), (2, .int jj_)] := hl
  have sm : Sm (fun k => k = 33 ∨ k = 48) ws ws := Sm.rf
  have hc0 : (0 : Nat) ≤ 0 := by decide
  have hs0 : (0 : Nat) ≤ 0 := by decide
  refine lv_aload_n hx hb dX9_signature_0 rfl (lv_at hl 0 rfl) ?_
  refine lv_iload_n hx hb dX9_signature_1 rfl (lv_at hl 1 rfl) ?_
  refine CI.go (va_runV (As := [.int x]) (rest := []) ⟨hx, hb, hml, hown, hts⟩ (c_X9_slot  g33 g40 hdd.num (by rw [List.length_map]; exact hdn) h48 _) (cwV 1 hts gX9_signature_X9_slot rfl rfl rfl (by decide +kernel) ⟨Nat.le_of_ble_eq_true rfl, Nat.le_of_ble_eq_true rfl⟩) ⟨pw_blind, va_recv hK hP (ci := 10) (q0 := 33) rfl g33, fun U hU hW => pw_pre hK hP hD hU hW⟩ rfl rfl hl.1 rfl (lv_room (Nat.le_of_ble_eq_true rfl)) dX9_signature_2 ⟨by decide, by decide⟩) hD hS hA (fun r_1 ws_2 H locs hp hP hD hS => ?_)
  obtain ⟨rfl, rfl⟩ := hp
  rcases hsl_k : slotOf (docs.map (fun d => d.1)) x with _ | k
  · rw [show optI (slotOf (docs.map (fun d => d.1)) x) = -1 from by rw [hsl_k]; rfl]
    refine lv_istore_n (lv' := [(3, .int (-1)), (0, .ref m0), (1, .int x), (2, .int jj_)]) hx hb dX9_signature_5 rfl hl (by decide) rfl (fun ls hl => ?_)
    refine lv_aload_n hx hb dX9_signature_6 rfl (lv_at hl 1 rfl) ?_
    refine lv_iload_n hx hb dX9_signature_7 rfl (lv_at hl 0 rfl) ?_
    refine lv_if_lt (tgt := 21) hx hb dX9_signature_8 (by decide) (fun c_8 => ?_) (fun c_8 => absurd (by decide) c_8)
    refine lv_iconst (v := nI 1) hx hb dX9_signature_21 (by decide) ?_
    refine lv_goto (tgt := 26) hx hb dX9_signature_22 (by decide) ?_
    refine CI.go (va_runV (As := [.int (nI 1)]) (rest := []) ⟨hx, hb, hml, hown, hts⟩ (c_X9_throwsIf (b := true) g33  _) (cwV 1 hts gX9_signature_X9_throwsIf rfl rfl rfl (by decide +kernel) ⟨Nat.le_of_ble_eq_true rfl, Nat.le_of_ble_eq_true rfl⟩) ⟨pw_blind, va_recv hK hP (ci := 10) (q0 := 33) rfl g33, fun U hU hW => pw_pre hK hP hD hU hW⟩ rfl rfl hl.1 rfl (lv_room (Nat.le_of_ble_eq_true rfl)) dX9_signature_26 ⟨by decide, by decide⟩) hD hS hA (fun r_3 ws_4 H locs hp hP hD hS => ?_)
    obtain ⟨rfl, sm_5, g33⟩ := hp
    have g40 := sm_5.get g40 (by simp)
    have g41 := sm_5.get g41 (by simp)
    have g42 := sm_5.get g42 (by simp)
    have g43 := sm_5.get g43 (by simp)
    have g44 := sm_5.get g44 (by simp)
    have g45 := sm_5.get g45 (by simp)
    have g46 := sm_5.get g46 (by simp)
    have g47 := sm_5.get g47 (by simp)
    have g48 := sm_5.get g48 (by simp)
    have sm := sm.call sm_5 (by intro k hk; (try simp only at hk ⊢); omega)
    have g33 : ws_4[33]? = some (m0, .inr (10, [.int (nI 1), .ref b1, .ref b2, .int (nI len), .int (nI ps), .ref b5, .ref b6, .ref b7, .int (nI nm), .int (nI bt_), .int (nI so), .int (nI wi), .ref b12, .int (nI fm), .ref b14, .ref b15, .ref b16, .int (nI dn), .int (nI ca), .int (nI sta), .ref b20, .ref b21, .ref b22, .ref b23, .ref b24, .int (nI xn), .ref b26, .int (nI bb), .int (nI rr), .int (nI pp), .int (nI qq), .ref b31])) := g33
    refine lv_if_eq (tgt := 34) hx hb dX9_signature_29 (by decide) (fun c_29 => absurd c_29 (by decide)) (fun c_29 => ?_)
    refine lv_iconst (v := nI 0) hx hb dX9_signature_32 (by decide) ?_
    have hno : sgOk docs x jj_ = false := by first | (rw [sgOk, hsl_k]; rfl) | (rw [sgOk, isOut_yes c_18]; simp; done)
    have g33 : ws_4[33]? = some (m0, .inr (10, [.int (nI ((!sgOk docs x jj_).toNat)), .ref b1, .ref b2, .int (nI len), .int (nI ps), .ref b5, .ref b6, .ref b7, .int (nI nm), .int (nI bt_), .int (nI so), .int (nI wi), .ref b12, .int (nI fm), .ref b14, .ref b15, .ref b16, .int (nI dn), .int (nI ca), .int (nI sta), .ref b20, .ref b21, .ref b22, .ref b23, .ref b24, .int (nI xn), .ref b26, .int (nI bb), .int (nI rr), .int (nI pp), .int (nI qq), .ref b31])) := by rw [hno]; exact g33
    exact CI.ret (v := (nI 0)) C hK hP hD hS rfl (⟨sta, gl, (by rw [hno]; rfl), hsta, hlo, sm, g33, g48⟩) hc0 hs0 dX9_signature_33
  · rw [show optI (slotOf (docs.map (fun d => d.1)) x) = nI k from by rw [hsl_k]; rfl]
    have hkn : k < dn := by have := (slotOf_lt hsl_k).1; rw [List.length_map, hdn] at this; exact this
    have hkr := hdd k (by omega)
    have hks := hds docs[k] (List.getElem_mem _)
    refine lv_istore_n (lv' := [(3, .int (nI k)), (0, .ref m0), (1, .int x), (2, .int jj_)]) hx hb dX9_signature_5 rfl hl (by decide) rfl (fun ls hl => ?_)
    refine lv_aload_n hx hb dX9_signature_6 rfl (lv_at hl 1 rfl) ?_
    refine lv_iload_n hx hb dX9_signature_7 rfl (lv_at hl 0 rfl) ?_
    refine nx_if_lt (tgt := 21) hx hb (by omega) dX9_signature_8 (by decide) ?_
    refine lv_iload_n hx hb dX9_signature_11 rfl (lv_at hl 3 rfl) ?_
    refine lv_iconst (v := nI 0) hx hb dX9_signature_12 (by decide) ?_
    refine lv_bipush (v := nI 63) hx hb dX9_signature_13 (by decide) ?_
    refine CI.go (va_runS (As := [.int jj_, .int (nI 0), .int (nI 63)]) (rest := [.ref m0]) ⟨hx, hb, hml, hown, hts⟩ (c_X9_isNone    _) (va_cwS 3 hts gX9_signature_X9_isNone rfl rfl rfl (by decide +kernel) ⟨Nat.le_of_ble_eq_true rfl, Nat.le_of_ble_eq_true rfl⟩) ⟨pw_blind, fun U hU hW => pw_pre hK hP hD hU hW⟩ rfl rfl hl.1 rfl (lv_room (Nat.le_of_ble_eq_true rfl)) dX9_signature_15 ⟨by decide, by decide⟩) hD hS hA (fun r_6 ws_7 H locs hp hP hD hS => ?_)
    obtain ⟨rfl, rfl⟩ := hp
    refine nx_if_eq (tgt := 25) hx hb (by cases isOut jj_ (nI 0) (nI 63) <;> decide) dX9_signature_18 (by decide) (fun c_18 => ?_) (fun c_18 => ?_)
    · refine lv_iconst (v := nI 0) hx hb dX9_signature_25 (by decide) ?_
      refine CI.go (va_runV (As := [.int (nI 0)]) (rest := []) ⟨hx, hb, hml, hown, hts⟩ (c_X9_throwsIf (b := false) g33  _) (cwV 1 hts gX9_signature_X9_throwsIf rfl rfl rfl (by decide +kernel) ⟨Nat.le_of_ble_eq_true rfl, Nat.le_of_ble_eq_true rfl⟩) ⟨pw_blind, va_recv hK hP (ci := 10) (q0 := 33) rfl g33, fun U hU hW => pw_pre hK hP hD hU hW⟩ rfl rfl hl.1 rfl (lv_room (Nat.le_of_ble_eq_true rfl)) dX9_signature_26 ⟨by decide, by decide⟩) hD hS hA (fun r_8 ws_9 H locs hp hP hD hS => ?_)
      obtain ⟨rfl, sm_10, g33⟩ := hp
      have g40 := sm_10.get g40 (by simp)
      have g41 := sm_10.get g41 (by simp)
      have g42 := sm_10.get g42 (by simp)
      have g43 := sm_10.get g43 (by simp)
      have g44 := sm_10.get g44 (by simp)
      have g45 := sm_10.get g45 (by simp)
      have g46 := sm_10.get g46 (by simp)
      have g47 := sm_10.get g47 (by simp)
      have g48 := sm_10.get g48 (by simp)
      have sm := sm.call sm_10 (by intro k hk; (try simp only at hk ⊢); omega)
      have g33 : ws_9[33]? = some (m0, .inr (10, [.int (nI 0), .ref b1, .ref b2, .int (nI len), .int (nI ps), .ref b5, .ref b6, .ref b7, .int (nI nm), .int (nI bt_), .int (nI so), .int (nI wi), .ref b12, .int (nI fm), .ref b14, .ref b15, .ref b16, .int (nI dn), .int (nI ca), .int (nI sta), .ref b20, .ref b21, .ref b22, .ref b23, .ref b24, .int (nI xn), .ref b26, .int (nI bb), .int (nI rr), .int (nI pp), .int (nI qq), .ref b31])) := g33
      refine lv_if_eq (tgt := 34) hx hb dX9_signature_29 (by decide) (fun c_29 => ?_) (fun c_29 => absurd (by decide) c_29)
      refine lv_aload_n hx hb dX9_signature_34 rfl (lv_at hl 1 rfl) ?_
      refine CV.go (va_runV (As := []) (rest := []) ⟨hx, hb, hml, hown, hts⟩ (c_X9_sign  g33 g41 g42 g43 g44 g45 g46 g47 g48 hE hx9 h300 hsm hta hdd hdn h48 hds hsta hlo _) (cwV 0 hts gX9_signature_X9_sign rfl rfl rfl (by decide +kernel) ⟨Nat.le_of_ble_eq_true rfl, Nat.le_of_ble_eq_true rfl⟩) ⟨pw_blind, va_recv hK hP (ci := 10) (q0 := 33) rfl g33, fun U hU hW => pw_pre hK hP hD hU hW⟩ rfl rfl hl.1 rfl (lv_room (Nat.le_of_ble_eq_true rfl)) dX9_signature_35 ⟨by decide, by decide⟩) hD hS hA (fun ws_12 H locs hp hP hD hS => ?_)
      obtain ⟨gl2, hlo2, sm_13, g33, g48⟩ := hp
      have g40 := sm_13.get g40 (by simp)
      have g41 := sm_13.get g41 (by simp)
      have g42 := sm_13.get g42 (by simp)
      have g43 := sm_13.get g43 (by simp)
      have g44 := sm_13.get g44 (by simp)
      have g45 := sm_13.get g45 (by simp)
      have g46 := sm_13.get g46 (by simp)
      have g47 := sm_13.get g47 (by simp)
      have sm := sm.call sm_13 (by intro k hk; (try simp only at hk ⊢); omega)
      have g33 : ws_12[33]? = some (m0, .inr (10, [.int (nI 0), .ref b1, .ref b2, .int (nI len), .int (nI ps), .ref b5, .ref b6, .ref b7, .int (nI nm), .int (nI bt_), .int (nI so), .int (nI wi), .ref b12, .int (nI fm), .ref b14, .ref b15, .ref b16, .int (nI dn), .int (nI ca), .int (nI 0), .ref b20, .ref b21, .ref b22, .ref b23, .ref b24, .int (nI xn), .ref b26, .int (nI bb), .int (nI rr), .int (nI pp), .int (nI qq), .ref b31])) := g33
      have g48 : ws_12[48]? = some (b26, .inl (cI, 3072, .inl (fun jj => nI (gl2 jj)))) := g48
      obtain ⟨j1, -, hj1, rfl⟩ := isOut_no c_18 (by decide) (by decide)
      refine lv_aload_n hx hb dX9_signature_38 rfl (lv_at hl 1 rfl) ?_
      refine va_get (D := D) (ci := 10) (v := .ref b26) (C := RX9) (T := TX9) (N := 32) hx hb hts hin_X9 hown hK hP 33 g33 rfl 26 (by decide) fl_118 (fun _ h9 => h9) rfl dX9_signature_39 ?_
      refine lv_bipush (v := nI 64) hx hb dX9_signature_42 (by decide) ?_
      refine lv_iload_n hx hb dX9_signature_44 rfl (lv_at hl 0 rfl) ?_
      refine nx_imul hx hb dX9_signature_45 ?_
      refine lv_iload_n hx hb dX9_signature_46 rfl (lv_at hl 3 rfl) ?_
      refine nx_iadd hx hb dX9_signature_47 ?_
      refine nx_iald hx hb hK hP 48 1 g48 rfl (k := ((64 * k) + j1)) (by omega) (by decide) dX9_signature_48 ?_
      have hok : sgOk docs x (nI j1) = true := by rw [sgOk, hsl_k, isOut_in (Nat.zero_le _) hj1 (by decide)]; rfl
      have g33 : ws_12[33]? = some (m0, .inr (10, [.int (nI ((!sgOk docs x (nI j1)).toNat)), .ref b1, .ref b2, .int (nI len), .int (nI ps), .ref b5, .ref b6, .ref b7, .int (nI nm), .int (nI bt_), .int (nI so), .int (nI wi), .ref b12, .int (nI fm), .ref b14, .ref b15, .ref b16, .int (nI dn), .int (nI ca), .int (nI 0), .ref b20, .ref b21, .ref b22, .ref b23, .ref b24, .int (nI xn), .ref b26, .int (nI bb), .int (nI rr), .int (nI pp), .int (nI qq), .ref b31])) := by rw [hok]; exact g33
      exact CI.ret (v := (nI (gl2 ((64 * k) + j1)))) C hK hP hD hS rfl (⟨0, gl2, (by rw [hok, hsl_k, dset_at (by omega), nI_clamp (by omega)]; exact congrArg nI (hlo2 k (by omega) j1 (by omega))), (Nat.zero_le _), (fun _ => hlo2), sm, g33, g48⟩) hc0 hs0 dX9_signature_49
    · refine lv_iconst (v := nI 1) hx hb dX9_signature_21 (by decide) ?_
      refine lv_goto (tgt := 26) hx hb dX9_signature_22 (by decide) ?_
      refine CI.go (va_runV (As := [.int (nI 1)]) (rest := []) ⟨hx, hb, hml, hown, hts⟩ (c_X9_throwsIf (b := true) g33  _) (cwV 1 hts gX9_signature_X9_throwsIf rfl rfl rfl (by decide +kernel) ⟨Nat.le_of_ble_eq_true rfl, Nat.le_of_ble_eq_true rfl⟩) ⟨pw_blind, va_recv hK hP (ci := 10) (q0 := 33) rfl g33, fun U hU hW => pw_pre hK hP hD hU hW⟩ rfl rfl hl.1 rfl (lv_room (Nat.le_of_ble_eq_true rfl)) dX9_signature_26 ⟨by decide, by decide⟩) hD hS hA (fun r_14 ws_15 H locs hp hP hD hS => ?_)
      obtain ⟨rfl, sm_16, g33⟩ := hp
      have g40 := sm_16.get g40 (by simp)
      have g41 := sm_16.get g41 (by simp)
      have g42 := sm_16.get g42 (by simp)
      have g43 := sm_16.get g43 (by simp)
      have g44 := sm_16.get g44 (by simp)
      have g45 := sm_16.get g45 (by simp)
      have g46 := sm_16.get g46 (by simp)
      have g47 := sm_16.get g47 (by simp)
      have g48 := sm_16.get g48 (by simp)
      have sm := sm.call sm_16 (by intro k hk; (try simp only at hk ⊢); omega)
      have g33 : ws_15[33]? = some (m0, .inr (10, [.int (nI 1), .ref b1, .ref b2, .int (nI len), .int (nI ps), .ref b5, .ref b6, .ref b7, .int (nI nm), .int (nI bt_), .int (nI so), .int (nI wi), .ref b12, .int (nI fm), .ref b14, .ref b15, .ref b16, .int (nI dn), .int (nI ca), .int (nI sta), .ref b20, .ref b21, .ref b22, .ref b23, .ref b24, .int (nI xn), .ref b26, .int (nI bb), .int (nI rr), .int (nI pp), .int (nI qq), .ref b31])) := g33
      refine lv_if_eq (tgt := 34) hx hb dX9_signature_29 (by decide) (fun c_29 => absurd c_29 (by decide)) (fun c_29 => ?_)
      refine lv_iconst (v := nI 0) hx hb dX9_signature_32 (by decide) ?_
      have hno : sgOk docs x jj_ = false := by first | (rw [sgOk, hsl_k]; rfl) | (rw [sgOk, isOut_yes c_18]; simp; done)
      have g33 : ws_15[33]? = some (m0, .inr (10, [.int (nI ((!sgOk docs x jj_).toNat)), .ref b1, .ref b2, .int (nI len), .int (nI ps), .ref b5, .ref b6, .ref b7, .int (nI nm), .int (nI bt_), .int (nI so), .int (nI wi), .ref b12, .int (nI fm), .ref b14, .ref b15, .ref b16, .int (nI dn), .int (nI ca), .int (nI sta), .ref b20, .ref b21, .ref b22, .ref b23, .ref b24, .int (nI xn), .ref b26, .int (nI bb), .int (nI rr), .int (nI pp), .int (nI qq), .ref b31])) := by rw [hno]; exact g33
      exact CI.ret (v := (nI 0)) C hK hP hD hS rfl (⟨sta, gl, (by rw [hno]; rfl), hsta, hlo, sm, g33, g48⟩) hc0 hs0 dX9_signature_33
