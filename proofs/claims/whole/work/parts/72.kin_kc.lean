set_option maxHeartbeats 4000000 in
set_option maxRecDepth 100000 in
theorem c_X1_learn {D : va_G} {cB cI cJ cO : ClassId} {l : Launch} {e0 bb rr pp qq : Nat} {k0 : Nat} {k1 k4 k7 k8 k9 k10 plc kn : Nat} {k2 k3 k5 k6 sz1 sz2 : Nat} {ad s1 eh nd : Nat} {dd : Nat → DX} {HS : List Nat} {c1 c2 t1 t2 nu tc fa me : Nat → Nat} {ws : va_W} (g20 : ws[20]? = some (e0, .inr (3, [.int (nI bb), .int (nI rr), .int (nI pp), .int (nI qq)]))) (g21 : ws[21]? = some (k0, .inr (2, [.ref k1, .ref k4, .ref k7, .ref k8, .ref k9, .ref k10, .int (nI plc), .int (nI kn)]))) (g22 : ws[22]? = some (k1, .inr (4, [.ref k2, .ref k3, .int (nI sz1)]))) (g23 : ws[23]? = some (k2, .inl (cI, 1128, .inl (fun jj => nI (c1 jj))))) (g24 : ws[24]? = some (k3, .inl (cI, 1128, .inl (fun jj => nI (c2 jj))))) (g25 : ws[25]? = some (k4, .inr (4, [.ref k5, .ref k6, .int (nI sz2)]))) (g26 : ws[26]? = some (k5, .inl (cI, 1128, .inl (fun jj => nI (t1 jj))))) (g27 : ws[27]? = some (k6, .inl (cI, 1128, .inl (fun jj => nI (t2 jj))))) (g28 : ws[28]? = some (k7, .inl (cI, 48, .inl (fun jj => nI (nu jj))))) (g29 : ws[29]? = some (k8, .inl (cI, 48, .inl (fun jj => nI (tc jj))))) (g30 : ws[30]? = some (k9, .inl (cI, 48, .inl (fun jj => nI (fa jj))))) (g31 : ws[31]? = some (k10, .inl (cI, 48, .inl (fun jj => nI (me jj))))) (hLh : LW ws cO ad 17 s1 eh (HS.map (fun t => (dd t).1.2))) (hDW : DW ws cI cJ nd dd) (hHS : ∀ t ∈ HS, t < nd) (h48 : HS.length ≤ 48) (hnd : nd ≤ 48) (hRow : RowOK dd HS) (hbr : bb * rr ≤ 64) (hb64 : bb ≤ 64) (hr64 : rr ≤ 64) (hp4 : pp ≤ 10000) (hq4 : qq ≤ 10000) (hsym : ∀ x y, x < HS.length → y < HS.length → (twH dd HS rr bb pp qq) x y = (twH dd HS rr bb pp qq) y x) (hkn1 : kn ≤ 1) (hkn : kn = 1 → KinOK dd HS rr bb pp qq plc c1 c2 t1 t2 nu tc fa me sz1 sz2) : CV D (TY cB cI cJ cO) l yX1_learn wsX1_learn ({ frames := 4, cells := 0, slots := 0, locals := 91 }) [.ref k0, .ref s1, .ref e0] ws (fun ws' => ∃ plcn : Nat, ∃ sz1n : Nat, ∃ sz2n : Nat, ∃ c1n : Nat → Nat, ∃ c2n : Nat → Nat, ∃ t1n : Nat → Nat, ∃ t2n : Nat → Nat, ∃ nun : Nat → Nat, ∃ tcn : Nat → Nat, ∃ fan : Nat → Nat, ∃ men : Nat → Nat, (KinOK dd HS rr bb pp qq plcn c1n c2n t1n t2n nun tcn fan men sz1n sz2n) ∧ Sm (fun k => k = 21 ∨ k = 22 ∨ k = 23 ∨ k = 24 ∨ k = 25 ∨ k = 26 ∨ k = 27 ∨ k = 28 ∨ k = 29 ∨ k = 30 ∨ k = 31) ws ws' ∧ ws'[21]? = some (k0, .inr (2, [.ref k1, .ref k4, .ref k7, .ref k8, .ref k9, .ref k10, .int (nI plcn), .int (nI 1)])) ∧ ws'[22]? = some (k1, .inr (4, [.ref k2, .ref k3, .int (nI sz1n)])) ∧ ws'[23]? = some (k2, .inl (cI, 1128, .inl (fun jj => nI (c1n jj)))) ∧ ws'[24]? = some (k3, .inl (cI, 1128, .inl (fun jj => nI (c2n jj)))) ∧ ws'[25]? = some (k4, .inr (4, [.ref k5, .ref k6, .int (nI sz2n)])) ∧ ws'[26]? = some (k5, .inl (cI, 1128, .inl (fun jj => nI (t1n jj)))) ∧ ws'[27]? = some (k6, .inl (cI, 1128, .inl (fun jj => nI (t2n jj)))) ∧ ws'[28]? = some (k7, .inl (cI, 48, .inl (fun jj => nI (nun jj)))) ∧ ws'[29]? = some (k8, .inl (cI, 48, .inl (fun jj => nI (tcn jj)))) ∧ ws'[30]? = some (k9, .inl (cI, 48, .inl (fun jj => nI (fan jj)))) ∧ ws'[31]? = some (k10, .inl (cI, 48, .inl (fun jj => nI (men jj))))) := by
  refine CV.of (cc := cX1_learn) (maxL := 5) (ret := none) (by decide) rfl (Nat.le_of_ble_eq_true rfl) ?_
  intro p e s m below meth c A C hK hP hD hA hS ls hl
  obtain ⟨hx, hb, hr, hml, hts, hown, hlocks, hnm⟩ := id C
  have fl_28 := hts (.fieldLink RX1 28 "TwinFinder$Kin" "leader" "[I") (by decide +kernel)
  have fl_31 := hts (.fieldLink RX1 31 "TwinFinder$Kin" "members" "[I") (by decide +kernel)
  have fl_34 := hts (.fieldLink RX1 34 "TwinFinder$Kin" "known" "Z") (by decide +kernel)
  have fl_42 := hts (.fieldLink RX1 42 "TwinFinder$Kin" "places" "I") (by decide +kernel)
  have hin_X1 : ∀ w ∈ u_ws RX1 TX1 8, w ∈ wsX1_learn := by decide +kernel
  have hl : lv_has ls 5 [(0, .ref k0), (1, .ref s1), (2, .ref e0)] := hl
  have sm : Sm (fun k => k = 21 ∨ k = 22 ∨ k = 23 ∨ k = 24 ∨ k = 25 ∨ k = 26 ∨ k = 27 ∨ k = 28 ∨ k = 29 ∨ k = 30 ∨ k = 31) ws ws := Sm.rf
  have hc0 : (0 : Nat) ≤ 0 := by decide
  have hs0 : (0 : Nat) ≤ 0 := by decide
  refine lv_aload_n hx hb dX1_learn_0 rfl (lv_at hl 0 rfl) ?_
  refine va_get (D := D) (ci := 2) (v := .int (nI kn)) (C := RX1) (T := TX1) (N := 8) hx hb hts hin_X1 hown hK hP 21 g21 rfl 7 (by decide) fl_34 (fun _ h9 => h9) rfl dX1_learn_1 ?_
  refine nx_if_eq (tgt := 8) hx hb (by omega) dX1_learn_4 (by decide) (fun c_4 => ?_) (fun c_4 => ?_)
  · refine lv_aload_n hx hb dX1_learn_8 rfl (lv_at hl 0 rfl) ?_
    refine lv_aload_n hx hb dX1_learn_9 rfl (lv_at hl 1 rfl) ?_
    refine CV.go (va_runV (As := [.ref s1]) (rest := []) ⟨hx, hb, hml, hown, hts⟩ (c_X1_begin  g21 g22 g25 g28 g29 g30 g31 hLh hDW hHS h48 _) (cwV 1 hts gX1_learn_X1_begin rfl rfl rfl (by decide +kernel) ⟨Nat.le_of_ble_eq_true rfl, Nat.le_of_ble_eq_true rfl⟩) ⟨pw_blind, va_recv hK hP (ci := 2) (q0 := 21) rfl g21, fun U hU hW => pw_pre hK hP hD hU hW⟩ rfl rfl hl.1 rfl (lv_room (Nat.le_of_ble_eq_true rfl)) dX1_learn_10 ⟨Nat.le_of_ble_eq_true rfl, Nat.le_of_ble_eq_true rfl⟩) hD hS hA (fun ws_2 H locs hp hP hD hS => ?_)
    obtain ⟨nu2, tc2, fa2, me2, hb2, smB, g21, g22, g25, g28, g29, g30, g31⟩ := hp
    have g20 := smB.get g20 (by simp)
    have g23 := smB.get g23 (by simp)
    have g24 := smB.get g24 (by simp)
    have g26 := smB.get g26 (by simp)
    have g27 := smB.get g27 (by simp)
    have sm := sm.call smB (by intro k hk; first | exact False.elim hk | ((try simp only at hk ⊢); omega))
    have g21 : ws_2[21]? = some (k0, .inr (2, [.ref k1, .ref k4, .ref k7, .ref k8, .ref k9, .ref k10, .int (nI (HS.length)), .int (nI kn)])) := g21
    have g22 : ws_2[22]? = some (k1, .inr (4, [.ref k2, .ref k3, .int (nI 0)])) := g22
    have g25 : ws_2[25]? = some (k4, .inr (4, [.ref k5, .ref k6, .int (nI 0)])) := g25
    have g28 : ws_2[28]? = some (k7, .inl (cI, 48, .inl (fun jj => nI (nu2 jj)))) := g28
    have g29 : ws_2[29]? = some (k8, .inl (cI, 48, .inl (fun jj => nI (tc2 jj)))) := g29
    have g30 : ws_2[30]? = some (k9, .inl (cI, 48, .inl (fun jj => nI (fa2 jj)))) := g30
    have g31 : ws_2[31]? = some (k10, .inl (cI, 48, .inl (fun jj => nI (me2 jj)))) := g31
    have hLh := hLh.low smB (by simp) (fun k n f h9 _ hk => by (try simp only at hk); omega)
    have hDW := hDW.low smB (fun k hk => by (try simp only at hk); omega)
    refine lv_iconst (v := nI 0) hx hb dX1_learn_13 (by decide) ?_
    refine lv_istore_n (lv' := [(3, .int (nI 0)), (0, .ref k0), (1, .ref s1), (2, .ref e0)]) hx hb dX1_learn_14 rfl hl (by decide) rfl (fun ls hl => ?_)
    have lp_15 : ∀ (fuel : Nat) (i : Nat) (c1a c2a t1a t2a tca faa : Nat → Nat), HS.length - i < fuel → (i ≤ HS.length) → (PRL c1a c2a ((prO (bdH dd HS rr bb) HS.length i).map (nmH dd HS))) → (PRL t1a t2a ((prO (twH dd HS rr bb pp qq) HS.length i).map (nmH dd HS))) → (∀ k, k < HS.length → tca k = cntP (prO (twH dd HS rr bb pp qq) HS.length i) k) → (FamP faa HS.length (twH dd HS rr bb pp qq) i (i + 1)) → ∀ (ws1 : va_W) (H : Heap) (locs : List Loc) (ls : Array Slot), Sm (fun k => k = 21 ∨ k = 22 ∨ k = 23 ∨ k = 24 ∨ k = 25 ∨ k = 26 ∨ k = 27 ∨ k = 28 ∨ k = 29 ∨ k = 30 ∨ k = 31) ws ws1 → ws1[20]? = some (e0, .inr (3, [.int (nI bb), .int (nI rr), .int (nI pp), .int (nI qq)])) → ws1[21]? = some (k0, .inr (2, [.ref k1, .ref k4, .ref k7, .ref k8, .ref k9, .ref k10, .int (nI (HS.length)), .int (nI kn)])) → ws1[22]? = some (k1, .inr (4, [.ref k2, .ref k3, .int (nI (((prO (bdH dd HS rr bb) HS.length i).map (nmH dd HS)).length))])) → ws1[23]? = some (k2, .inl (cI, 1128, .inl (fun jj => nI (c1a jj)))) → ws1[24]? = some (k3, .inl (cI, 1128, .inl (fun jj => nI (c2a jj)))) → ws1[25]? = some (k4, .inr (4, [.ref k5, .ref k6, .int (nI (((prO (twH dd HS rr bb pp qq) HS.length i).map (nmH dd HS)).length))])) → ws1[26]? = some (k5, .inl (cI, 1128, .inl (fun jj => nI (t1a jj)))) → ws1[27]? = some (k6, .inl (cI, 1128, .inl (fun jj => nI (t2a jj)))) → ws1[28]? = some (k7, .inl (cI, 48, .inl (fun jj => nI (nu2 jj)))) → ws1[29]? = some (k8, .inl (cI, 48, .inl (fun jj => nI (tca jj)))) → ws1[30]? = some (k9, .inl (cI, 48, .inl (fun jj => nI (faa jj)))) → ws1[31]? = some (k10, .inl (cI, 48, .inl (fun jj => nI (me2 jj)))) → (LW ws1 cO ad 17 s1 eh (HS.map (fun t => (dd t).1.2))) → (DW ws1 cI cJ nd dd) → va_P D vwCl ws1 H → va_D A ws1 → va_S A s.heap H locs → lv_has ls 5 [(0, .ref k0), (1, .ref s1), (2, .ref e0), (3, .int (nI i))] → W p l e ({ frames := 4, cells := 0, slots := 0, locals := 91 }) s m ([.ref k0, .ref s1, .ref e0] : List Value).toArray below meth c H locs 0 0 (ZV D (TY cB cI cJ cO) (fun ws' => ∃ plcn : Nat, ∃ sz1n : Nat, ∃ sz2n : Nat, ∃ c1n : Nat → Nat, ∃ c2n : Nat → Nat, ∃ t1n : Nat → Nat, ∃ t2n : Nat → Nat, ∃ nun : Nat → Nat, ∃ tcn : Nat → Nat, ∃ fan : Nat → Nat, ∃ men : Nat → Nat, (KinOK dd HS rr bb pp qq plcn c1n c2n t1n t2n nun tcn fan men sz1n sz2n) ∧ Sm (fun k => k = 21 ∨ k = 22 ∨ k = 23 ∨ k = 24 ∨ k = 25 ∨ k = 26 ∨ k = 27 ∨ k = 28 ∨ k = 29 ∨ k = 30 ∨ k = 31) ws ws' ∧ ws'[21]? = some (k0, .inr (2, [.ref k1, .ref k4, .ref k7, .ref k8, .ref k9, .ref k10, .int (nI plcn), .int (nI 1)])) ∧ ws'[22]? = some (k1, .inr (4, [.ref k2, .ref k3, .int (nI sz1n)])) ∧ ws'[23]? = some (k2, .inl (cI, 1128, .inl (fun jj => nI (c1n jj)))) ∧ ws'[24]? = some (k3, .inl (cI, 1128, .inl (fun jj => nI (c2n jj)))) ∧ ws'[25]? = some (k4, .inr (4, [.ref k5, .ref k6, .int (nI sz2n)])) ∧ ws'[26]? = some (k5, .inl (cI, 1128, .inl (fun jj => nI (t1n jj)))) ∧ ws'[27]? = some (k6, .inl (cI, 1128, .inl (fun jj => nI (t2n jj)))) ∧ ws'[28]? = some (k7, .inl (cI, 48, .inl (fun jj => nI (nun jj)))) ∧ ws'[29]? = some (k8, .inl (cI, 48, .inl (fun jj => nI (tcn jj)))) ∧ ws'[30]? = some (k9, .inl (cI, 48, .inl (fun jj => nI (fan jj)))) ∧ ws'[31]? = some (k10, .inl (cI, 48, .inl (fun jj => nI (men jj))))) below [.ref k0, .ref s1, .ref e0] s 0 0 A) (F0 m 15 ls []) := by
      intro fuel
      induction fuel with
      | zero => intro i c1a c2a t1a t2a tca faa hfu; exact absurd hfu (Nat.not_lt_zero _)
      | succ fuel ih_15 =>
        intro i c1a c2a t1a t2a tca faa hfu_15 hi hCpa hTpa htca hfaa ws1 H locs ls sm g20 g21 g22 g23 g24 g25 g26 g27 g28 g29 g30 g31 hLh hDW hP hD hS hl
        refine lv_iload_n hx hb dX1_learn_15 rfl (lv_at hl 3 rfl) ?_
        refine lv_aload_n hx hb dX1_learn_16 rfl (lv_at hl 0 rfl) ?_
        refine va_get (D := D) (ci := 2) (v := .int (nI (HS.length))) (C := RX1) (T := TX1) (N := 8) hx hb hts hin_X1 hown hK hP 21 g21 rfl 6 (by decide) fl_42 (fun _ h9 => h9) rfl dX1_learn_17 ?_
        refine nx_icmp_ge (tgt := 74) hx hb (by omega) (by omega) dX1_learn_20 (by decide) (fun c_20 => ?_) (fun c_20 => ?_)
        · refine lv_iconst (v := nI 0) hx hb dX1_learn_74 (by decide) ?_
          refine lv_istore_n (lv' := [(3, .int (nI 0)), (0, .ref k0), (1, .ref s1), (2, .ref e0)]) hx hb dX1_learn_75 rfl hl (by decide) rfl (fun ls hl => ?_)
          have lp_76 : ∀ (fuel : Nat) (p_ : Nat) (me1 : Nat → Nat), HS.length - p_ < fuel → (p_ ≤ HS.length) → (∀ k, k < HS.length → me1 k = cntF faa k p_) → ∀ (ws1 : va_W) (H : Heap) (locs : List Loc) (ls : Array Slot), Sm (fun k => k = 21 ∨ k = 22 ∨ k = 23 ∨ k = 24 ∨ k = 25 ∨ k = 26 ∨ k = 27 ∨ k = 28 ∨ k = 29 ∨ k = 30 ∨ k = 31) ws ws1 → ws1[20]? = some (e0, .inr (3, [.int (nI bb), .int (nI rr), .int (nI pp), .int (nI qq)])) → ws1[21]? = some (k0, .inr (2, [.ref k1, .ref k4, .ref k7, .ref k8, .ref k9, .ref k10, .int (nI (HS.length)), .int (nI kn)])) → ws1[22]? = some (k1, .inr (4, [.ref k2, .ref k3, .int (nI (((prO (bdH dd HS rr bb) HS.length i).map (nmH dd HS)).length))])) → ws1[23]? = some (k2, .inl (cI, 1128, .inl (fun jj => nI (c1a jj)))) → ws1[24]? = some (k3, .inl (cI, 1128, .inl (fun jj => nI (c2a jj)))) → ws1[25]? = some (k4, .inr (4, [.ref k5, .ref k6, .int (nI (((prO (twH dd HS rr bb pp qq) HS.length i).map (nmH dd HS)).length))])) → ws1[26]? = some (k5, .inl (cI, 1128, .inl (fun jj => nI (t1a jj)))) → ws1[27]? = some (k6, .inl (cI, 1128, .inl (fun jj => nI (t2a jj)))) → ws1[28]? = some (k7, .inl (cI, 48, .inl (fun jj => nI (nu2 jj)))) → ws1[29]? = some (k8, .inl (cI, 48, .inl (fun jj => nI (tca jj)))) → ws1[30]? = some (k9, .inl (cI, 48, .inl (fun jj => nI (faa jj)))) → ws1[31]? = some (k10, .inl (cI, 48, .inl (fun jj => nI (me1 jj)))) → (LW ws1 cO ad 17 s1 eh (HS.map (fun t => (dd t).1.2))) → (DW ws1 cI cJ nd dd) → va_P D vwCl ws1 H → va_D A ws1 → va_S A s.heap H locs → lv_has ls 5 [(0, .ref k0), (1, .ref s1), (2, .ref e0), (3, .int (nI p_))] → W p l e ({ frames := 4, cells := 0, slots := 0, locals := 91 }) s m ([.ref k0, .ref s1, .ref e0] : List Value).toArray below meth c H locs 0 0 (ZV D (TY cB cI cJ cO) (fun ws' => ∃ plcn : Nat, ∃ sz1n : Nat, ∃ sz2n : Nat, ∃ c1n : Nat → Nat, ∃ c2n : Nat → Nat, ∃ t1n : Nat → Nat, ∃ t2n : Nat → Nat, ∃ nun : Nat → Nat, ∃ tcn : Nat → Nat, ∃ fan : Nat → Nat, ∃ men : Nat → Nat, (KinOK dd HS rr bb pp qq plcn c1n c2n t1n t2n nun tcn fan men sz1n sz2n) ∧ Sm (fun k => k = 21 ∨ k = 22 ∨ k = 23 ∨ k = 24 ∨ k = 25 ∨ k = 26 ∨ k = 27 ∨ k = 28 ∨ k = 29 ∨ k = 30 ∨ k = 31) ws ws' ∧ ws'[21]? = some (k0, .inr (2, [.ref k1, .ref k4, .ref k7, .ref k8, .ref k9, .ref k10, .int (nI plcn), .int (nI 1)])) ∧ ws'[22]? = some (k1, .inr (4, [.ref k2, .ref k3, .int (nI sz1n)])) ∧ ws'[23]? = some (k2, .inl (cI, 1128, .inl (fun jj => nI (c1n jj)))) ∧ ws'[24]? = some (k3, .inl (cI, 1128, .inl (fun jj => nI (c2n jj)))) ∧ ws'[25]? = some (k4, .inr (4, [.ref k5, .ref k6, .int (nI sz2n)])) ∧ ws'[26]? = some (k5, .inl (cI, 1128, .inl (fun jj => nI (t1n jj)))) ∧ ws'[27]? = some (k6, .inl (cI, 1128, .inl (fun jj => nI (t2n jj)))) ∧ ws'[28]? = some (k7, .inl (cI, 48, .inl (fun jj => nI (nun jj)))) ∧ ws'[29]? = some (k8, .inl (cI, 48, .inl (fun jj => nI (tcn jj)))) ∧ ws'[30]? = some (k9, .inl (cI, 48, .inl (fun jj => nI (fan jj)))) ∧ ws'[31]? = some (k10, .inl (cI, 48, .inl (fun jj => nI (men jj))))) below [.ref k0, .ref s1, .ref e0] s 0 0 A) (F0 m 76 ls []) := by
            intro fuel
            induction fuel with
            | zero => intro p_ me1 hfu; exact absurd hfu (Nat.not_lt_zero _)
            | succ fuel ih_76 =>
              intro p_ me1 hfu_76 hp_ hme ws1 H locs ls sm g20 g21 g22 g23 g24 g25 g26 g27 g28 g29 g30 g31 hLh hDW hP hD hS hl
              refine lv_iload_n hx hb dX1_learn_76 rfl (lv_at hl 3 rfl) ?_
              refine lv_aload_n hx hb dX1_learn_77 rfl (lv_at hl 0 rfl) ?_
              refine va_get (D := D) (ci := 2) (v := .int (nI (HS.length))) (C := RX1) (T := TX1) (N := 8) hx hb hts hin_X1 hown hK hP 21 g21 rfl 6 (by decide) fl_42 (fun _ h9 => h9) rfl dX1_learn_78 ?_
              refine nx_icmp_ge (tgt := 105) hx hb (by omega) (by omega) dX1_learn_81 (by decide) (fun c_81 => ?_) (fun c_81 => ?_)
              · refine lv_aload_n hx hb dX1_learn_105 rfl (lv_at hl 0 rfl) ?_
                refine lv_iconst (v := nI 1) hx hb dX1_learn_106 (by decide) ?_
                refine nx_put (D := D) (ci := 2) (v := .int (nI 1)) (ty := .boolean) (C := RX1) (T := TX1) (N := 8) hx hb hts hin_X1 tyX1 tyX1_ok nmX1 hown hK hP hD hS 21 g21 rfl 7 (by decide) fl_34 (fun _ h9 => h9) rfl (by decide +kernel) (by decide) (by decide) (Nat.le_of_ble_eq_true rfl) dX1_learn_107 (fun ws_3 H locs gq up_4 hP hD hS => ?_)
                have go_21 := g21
                have g21 : ws_3[21]? = some (k0, .inr (2, [.ref k1, .ref k4, .ref k7, .ref k8, .ref k9, .ref k10, .int (nI (HS.length)), .int (nI 1)])) := gq
                have g20 := up_4.get g20 (by decide)
                have g22 := up_4.get g22 (by decide)
                have g23 := up_4.get g23 (by decide)
                have g24 := up_4.get g24 (by decide)
                have g25 := up_4.get g25 (by decide)
                have g26 := up_4.get g26 (by decide)
                have g27 := up_4.get g27 (by decide)
                have g28 := up_4.get g28 (by decide)
                have g29 := up_4.get g29 (by decide)
                have g30 := up_4.get g30 (by decide)
                have g31 := up_4.get g31 (by decide)
                have hLh := hLh.up up_4 (fun y9 z9 h9 => by rw [go_21] at h9; cases h9; trivial)
                have hDW := hDW.up0 up_4 (by decide)
                have sm := sm.up up_4 (by simp)
                exact CV.ret C hK hP hD hS (⟨_, _, _, _, _, _, _, _, _, _, _, ⟨rfl, by rw [List.length_map, show i = HS.length by omega], by have h9 := hCpa; rw [show i = HS.length by omega] at h9; exact h9, by rw [List.length_map, show i = HS.length by omega], by have h9 := hTpa; rw [show i = HS.length by omega] at h9; exact h9, fun k t ht => (hb2 k t ht).1, by have h9 := htca; rw [show i = HS.length by omega] at h9; exact h9, hfaa.done (by omega), by have h9 := hme; rw [show p_ = HS.length by omega] at h9; exact h9⟩, sm, g21, g22, g23, g24, g25, g26, g27, g28, g29, g30, g31⟩) hc0 hs0 dX1_learn_110
              · have hfp := (hfaa.1.1 p_ (by omega)).1
                refine lv_aload_n hx hb dX1_learn_84 rfl (lv_at hl 0 rfl) ?_
                refine va_get (D := D) (ci := 2) (v := .ref k10) (C := RX1) (T := TX1) (N := 8) hx hb hts hin_X1 hown hK hP 21 g21 rfl 5 (by decide) fl_31 (fun _ h9 => h9) rfl dX1_learn_85 ?_
                refine lv_aload_n hx hb dX1_learn_88 rfl (lv_at hl 0 rfl) ?_
                refine va_get (D := D) (ci := 2) (v := .ref k9) (C := RX1) (T := TX1) (N := 8) hx hb hts hin_X1 hown hK hP 21 g21 rfl 4 (by decide) fl_28 (fun _ h9 => h9) rfl dX1_learn_89 ?_
                refine lv_iload_n hx hb dX1_learn_92 rfl (lv_at hl 3 rfl) ?_
                refine nx_iald hx hb hK hP 30 1 g30 rfl (k := p_) (by omega) (by decide) dX1_learn_93 ?_
                refine lv_dup2_11 hx hb dX1_learn_94 rfl rfl ?_
                refine nx_iald hx hb hK hP 31 1 g31 rfl (k := (faa p_)) (by omega) (by decide) dX1_learn_95 ?_
                refine lv_iconst (v := nI 1) hx hb dX1_learn_96 (by decide) ?_
                refine nx_iadd hx hb dX1_learn_97 ?_
                refine nx_iastN hx hb hK hP hD hS 31 1 g31 rfl (k := (faa p_)) (by omega) (by decide) dX1_learn_98 (fun ws_5 H locs gq up_6 hP hD hS => ?_)
                have go_31 := g31
                have g31 : ws_5[31]? = some (k10, .inl (cI, 48, .inl (fun jj => nI ((va_up me1 (faa p_) ((me1 (faa p_)) + 1)) jj)))) := gq
                have g20 := up_6.get g20 (by decide)
                have g21 := up_6.get g21 (by decide)
                have g22 := up_6.get g22 (by decide)
                have g23 := up_6.get g23 (by decide)
                have g24 := up_6.get g24 (by decide)
                have g25 := up_6.get g25 (by decide)
                have g26 := up_6.get g26 (by decide)
                have g27 := up_6.get g27 (by decide)
                have g28 := up_6.get g28 (by decide)
                have g29 := up_6.get g29 (by decide)
                have g30 := up_6.get g30 (by decide)
                have hLh := hLh.up up_6 (fun y9 z9 h9 => by rw [go_31] at h9; cases h9; trivial)
                have hDW := hDW.up0 up_6 (by decide)
                have sm := sm.up up_6 (by simp)
                refine lv_iinc (v := (nI (p_ + 1))) (lv' := [(3, .int (nI (p_ + 1))), (0, .ref k0), (1, .ref s1), (2, .ref e0)]) hx hb dX1_learn_99 hl (k := 3) rfl (nx_inc _ 1) (by decide) rfl (fun ls hl => ?_)
                refine lv_goto (tgt := 76) hx hb dX1_learn_102 (by decide) ?_
                exact ih_76 (p_ + 1) _ (by omega) (by omega) (cntF_up hme) _ _ _ _ sm g20 g21 g22 g23 g24 g25 g26 g27 g28 g29 g30 g31 hLh hDW hP hD hS (lv_sub hl [1, 2, 3, 0] rfl)
          exact lp_76 _ 0 me2 (Nat.lt_succ_self _) (Nat.zero_le _) (fun k hk => (hb2 k _ (List.getElem?_eq_getElem hk)).2.2.2) _ _ _ _ sm g20 g21 g22 g23 g24 g25 g26 g27 g28 g29 g30 g31 hLh hDW hP hD hS (lv_sub hl [1, 2, 3, 0] rfl)
        · refine lv_iload_n hx hb dX1_learn_23 rfl (lv_at hl 3 rfl) ?_
          refine lv_iconst (v := nI 1) hx hb dX1_learn_24 (by decide) ?_
          refine nx_iadd hx hb dX1_learn_25 ?_
          refine lv_istore (lv' := [(4, .int (nI (i + 1))), (0, .ref k0), (1, .ref s1), (2, .ref e0), (3, .int (nI i))]) hx hb dX1_learn_26 hl (by decide) rfl (fun ls hl => ?_)
          have lp_28 : ∀ (fuel : Nat) (j : Nat) (c1b c2b t1b t2b tcb fab : Nat → Nat), HS.length - j < fuel → (i < j ∧ j ≤ HS.length) → (PRL c1b c2b ((prO (bdH dd HS rr bb) HS.length i ++ prI (bdH dd HS rr bb) i j).map (nmH dd HS))) → (PRL t1b t2b ((prO (twH dd HS rr bb pp qq) HS.length i ++ prI (twH dd HS rr bb pp qq) i j).map (nmH dd HS))) → (∀ k, k < HS.length → tcb k = cntP (prO (twH dd HS rr bb pp qq) HS.length i ++ prI (twH dd HS rr bb pp qq) i j) k) → (FamP fab HS.length (twH dd HS rr bb pp qq) i j) → ∀ (ws1 : va_W) (H : Heap) (locs : List Loc) (ls : Array Slot), Sm (fun k => k = 21 ∨ k = 22 ∨ k = 23 ∨ k = 24 ∨ k = 25 ∨ k = 26 ∨ k = 27 ∨ k = 28 ∨ k = 29 ∨ k = 30 ∨ k = 31) ws ws1 → ws1[20]? = some (e0, .inr (3, [.int (nI bb), .int (nI rr), .int (nI pp), .int (nI qq)])) → ws1[21]? = some (k0, .inr (2, [.ref k1, .ref k4, .ref k7, .ref k8, .ref k9, .ref k10, .int (nI (HS.length)), .int (nI kn)])) → ws1[22]? = some (k1, .inr (4, [.ref k2, .ref k3, .int (nI (((prO (bdH dd HS rr bb) HS.length i ++ prI (bdH dd HS rr bb) i j).map (nmH dd HS)).length))])) → ws1[23]? = some (k2, .inl (cI, 1128, .inl (fun jj => nI (c1b jj)))) → ws1[24]? = some (k3, .inl (cI, 1128, .inl (fun jj => nI (c2b jj)))) → ws1[25]? = some (k4, .inr (4, [.ref k5, .ref k6, .int (nI (((prO (twH dd HS rr bb pp qq) HS.length i ++ prI (twH dd HS rr bb pp qq) i j).map (nmH dd HS)).length))])) → ws1[26]? = some (k5, .inl (cI, 1128, .inl (fun jj => nI (t1b jj)))) → ws1[27]? = some (k6, .inl (cI, 1128, .inl (fun jj => nI (t2b jj)))) → ws1[28]? = some (k7, .inl (cI, 48, .inl (fun jj => nI (nu2 jj)))) → ws1[29]? = some (k8, .inl (cI, 48, .inl (fun jj => nI (tcb jj)))) → ws1[30]? = some (k9, .inl (cI, 48, .inl (fun jj => nI (fab jj)))) → ws1[31]? = some (k10, .inl (cI, 48, .inl (fun jj => nI (me2 jj)))) → (LW ws1 cO ad 17 s1 eh (HS.map (fun t => (dd t).1.2))) → (DW ws1 cI cJ nd dd) → va_P D vwCl ws1 H → va_D A ws1 → va_S A s.heap H locs → lv_has ls 5 [(0, .ref k0), (1, .ref s1), (2, .ref e0), (3, .int (nI i)), (4, .int (nI j))] → W p l e ({ frames := 4, cells := 0, slots := 0, locals := 91 }) s m ([.ref k0, .ref s1, .ref e0] : List Value).toArray below meth c H locs 0 0 (ZV D (TY cB cI cJ cO) (fun ws' => ∃ plcn : Nat, ∃ sz1n : Nat, ∃ sz2n : Nat, ∃ c1n : Nat → Nat, ∃ c2n : Nat → Nat, ∃ t1n : Nat → Nat, ∃ t2n : Nat → Nat, ∃ nun : Nat → Nat, ∃ tcn : Nat → Nat, ∃ fan : Nat → Nat, ∃ men : Nat → Nat, (KinOK dd HS rr bb pp qq plcn c1n c2n t1n t2n nun tcn fan men sz1n sz2n) ∧ Sm (fun k => k = 21 ∨ k = 22 ∨ k = 23 ∨ k = 24 ∨ k = 25 ∨ k = 26 ∨ k = 27 ∨ k = 28 ∨ k = 29 ∨ k = 30 ∨ k = 31) ws ws' ∧ ws'[21]? = some (k0, .inr (2, [.ref k1, .ref k4, .ref k7, .ref k8, .ref k9, .ref k10, .int (nI plcn), .int (nI 1)])) ∧ ws'[22]? = some (k1, .inr (4, [.ref k2, .ref k3, .int (nI sz1n)])) ∧ ws'[23]? = some (k2, .inl (cI, 1128, .inl (fun jj => nI (c1n jj)))) ∧ ws'[24]? = some (k3, .inl (cI, 1128, .inl (fun jj => nI (c2n jj)))) ∧ ws'[25]? = some (k4, .inr (4, [.ref k5, .ref k6, .int (nI sz2n)])) ∧ ws'[26]? = some (k5, .inl (cI, 1128, .inl (fun jj => nI (t1n jj)))) ∧ ws'[27]? = some (k6, .inl (cI, 1128, .inl (fun jj => nI (t2n jj)))) ∧ ws'[28]? = some (k7, .inl (cI, 48, .inl (fun jj => nI (nun jj)))) ∧ ws'[29]? = some (k8, .inl (cI, 48, .inl (fun jj => nI (tcn jj)))) ∧ ws'[30]? = some (k9, .inl (cI, 48, .inl (fun jj => nI (fan jj)))) ∧ ws'[31]? = some (k10, .inl (cI, 48, .inl (fun jj => nI (men jj))))) below [.ref k0, .ref s1, .ref e0] s 0 0 A) (F0 m 28 ls []) := by
            intro fuel
            induction fuel with
            | zero => intro j c1b c2b t1b t2b tcb fab hfu; exact absurd hfu (Nat.not_lt_zero _)
            | succ fuel ih_28 =>
              intro j c1b c2b t1b t2b tcb fab hfu_28 hj hCpb hTpb htcb hfab ws1 H locs ls sm g20 g21 g22 g23 g24 g25 g26 g27 g28 g29 g30 g31 hLh hDW hP hD hS hl
              refine lv_iload hx hb dX1_learn_28 (lv_at hl 4 rfl) ?_
              refine lv_aload_n hx hb dX1_learn_30 rfl (lv_at hl 0 rfl) ?_
              refine va_get (D := D) (ci := 2) (v := .int (nI (HS.length))) (C := RX1) (T := TX1) (N := 8) hx hb hts hin_X1 hown hK hP 21 g21 rfl 6 (by decide) fl_42 (fun _ h9 => h9) rfl dX1_learn_31 ?_
              refine nx_icmp_ge (tgt := 68) hx hb (by omega) (by omega) dX1_learn_34 (by decide) (fun c_34 => ?_) (fun c_34 => ?_)
              · refine lv_iinc (v := (nI (i + 1))) (lv' := [(3, .int (nI (i + 1))), (0, .ref k0), (1, .ref s1), (2, .ref e0), (4, .int (nI j))]) hx hb dX1_learn_68 hl (k := 3) rfl (nx_inc _ 1) (by decide) rfl (fun ls hl => ?_)
                refine lv_goto (tgt := 15) hx hb dX1_learn_71 (by decide) ?_
                have g22 : ws1[22]? = some (k1, .inr (4, [.ref k2, .ref k3, .int (nI (((prO (bdH dd HS rr bb) HS.length (i + 1)).map (nmH dd HS)).length))])) := by have h9 := g22; rw [show j = HS.length by omega] at h9; rw [prO]; exact h9
                have g25 : ws1[25]? = some (k4, .inr (4, [.ref k5, .ref k6, .int (nI (((prO (twH dd HS rr bb pp qq) HS.length (i + 1)).map (nmH dd HS)).length))])) := by have h9 := g25; rw [show j = HS.length by omega] at h9; rw [prO]; exact h9
                exact ih_15 (i + 1) _ _ _ _ _ _ (by omega) (by omega) (by have h9 := hCpb; rw [show j = HS.length by omega] at h9; exact h9) (by have h9 := hTpb; rw [show j = HS.length by omega] at h9; exact h9) (by have h9 := htcb; rw [show j = HS.length by omega] at h9; exact h9) (hfab.row (by omega)) _ _ _ _ sm g20 g21 g22 g23 g24 g25 g26 g27 g28 g29 g30 g31 hLh hDW hP hD hS (lv_sub hl [1, 2, 3, 0] rfl)
              · obtain ⟨tQ, htQ⟩ : ∃ t, HS[i]? = some t := ⟨_, List.getElem?_eq_getElem (by omega)⟩
                have htlQ : tQ < nd := hHS tQ (List.mem_of_getElem? htQ)
                obtain ⟨⟨⟨pQ, aQ⟩, ⟨x1Q, x2Q, x3Q, x4Q⟩, ⟨nuQ, zQ⟩, fsQ, fnQ, flQ, fhQ⟩, hdxQ⟩ : ∃ z : DX, z = dd tQ := ⟨_, rfl⟩
                have hD5Q := (hDW.1 tQ htlQ).1
                have hP51Q : 51 ≤ pQ := by have h9 := (hDW.1 tQ htlQ).2; rw [← hdxQ] at h9; exact h9
                rw [← hdxQ] at hD5Q
                have gpQ : ws1[pQ]? = some (aQ, .inr (1, [.int (nI tQ), .ref x1Q, .ref x2Q, .ref x3Q, .ref x4Q, .int (nI nuQ), .int (nI zQ)])) := hD5Q.1
                have gpQ_1 : ws1[pQ + 1]? = some (x1Q, .inl (cJ, 94, .inr (.inl fsQ))) := hD5Q.2.1
                have gpQ_2 : ws1[pQ + 2]? = some (x2Q, .inl (cI, 800, .inl (fun jj => nI (fnQ jj)))) := hD5Q.2.2.1
                have gpQ_3 : ws1[pQ + 3]? = some (x3Q, .inl (cI, 64, .inl (fun jj => nI (flQ jj)))) := hD5Q.2.2.2.1
                have gpQ_4 : ws1[pQ + 4]? = some (x4Q, .inl (cI, 48, .inl (fun jj => nI (fhQ jj)))) := hD5Q.2.2.2.2
                obtain ⟨tW, htW⟩ : ∃ t, HS[j]? = some t := ⟨_, List.getElem?_eq_getElem (by omega)⟩
                have htlW : tW < nd := hHS tW (List.mem_of_getElem? htW)
                obtain ⟨⟨⟨pW, aW⟩, ⟨x1W, x2W, x3W, x4W⟩, ⟨nuW, zW⟩, fsW, fnW, flW, fhW⟩, hdxW⟩ : ∃ z : DX, z = dd tW := ⟨_, rfl⟩
                have hD5W := (hDW.1 tW htlW).1
                have hP51W : 51 ≤ pW := by have h9 := (hDW.1 tW htlW).2; rw [← hdxW] at h9; exact h9
                rw [← hdxW] at hD5W
                have gpW : ws1[pW]? = some (aW, .inr (1, [.int (nI tW), .ref x1W, .ref x2W, .ref x3W, .ref x4W, .int (nI nuW), .int (nI zW)])) := hD5W.1
                have gpW_1 : ws1[pW + 1]? = some (x1W, .inl (cJ, 94, .inr (.inl fsW))) := hD5W.2.1
                have gpW_2 : ws1[pW + 2]? = some (x2W, .inl (cI, 800, .inl (fun jj => nI (fnW jj)))) := hD5W.2.2.1
                have gpW_3 : ws1[pW + 3]? = some (x3W, .inl (cI, 64, .inl (fun jj => nI (flW jj)))) := hD5W.2.2.2.1
                have gpW_4 : ws1[pW + 4]? = some (x4W, .inl (cI, 48, .inl (fun jj => nI (fhW jj)))) := hD5W.2.2.2.2
                have hrQ := hRow tQ (List.mem_of_getElem? htQ)
                have hrW := hRow tW (List.mem_of_getElem? htW)
                have hshQ := hrQ.2.2 tW (List.mem_of_getElem? htW)
                rw [← hdxQ] at hrQ hshQ
                rw [← hdxW] at hrW
                have hz1 : zQ ≤ 800 := hrQ.1
                have hz2 : zW ≤ 800 := hrW.1
                have hsh9 : fhQ tW ≤ zQ := hshQ
                have hm1 : fhQ tW * qq ≤ 800 * 10000 := Nat.mul_le_mul (by omega) hq4
                have hm2 : (zQ + zW - fhQ tW) * pp ≤ 1600 * 10000 := Nat.mul_le_mul (by omega) hp4
                have hps := pr_small (f := (bdH dd HS rr bb)) (n := HS.length) (x := i) (t := j) h48 (by omega) (by omega) (by omega)
                have hps2 := pr_small (f := (twH dd HS rr bb pp qq)) (n := HS.length) (x := i) (t := j) h48 (by omega) (by omega) (by omega)
                refine lv_aload_n hx hb dX1_learn_37 rfl (lv_at hl 0 rfl) ?_
                refine lv_iload_n hx hb dX1_learn_38 rfl (lv_at hl 3 rfl) ?_
                refine lv_aload_n hx hb dX1_learn_39 rfl (lv_at hl 1 rfl) ?_
                refine lv_iload_n hx hb dX1_learn_40 rfl (lv_at hl 3 rfl) ?_
                refine CQ.go (va_runV (As := [.int (nI i)]) (rest := [.int (nI i), .ref k0]) ⟨hx, hb, hml, hown, hts⟩ (c_L_get (v := aQ)  hLh (map_at htQ (by rw [← hdxQ])) _) (cwV 1 hts gX1_learn_Jx4a65c_get_915e3 rfl rfl rfl (by decide +kernel) ⟨Nat.le_of_ble_eq_true rfl, Nat.le_of_ble_eq_true rfl⟩) ⟨pw_blind, LW.recv hK hP hLh, fun U hU hW => pw_pre hK hP hD hU hW⟩ rfl rfl hl.1 rfl (lv_room (Nat.le_of_ble_eq_true rfl)) dX1_learn_41 ⟨Nat.le_of_ble_eq_true rfl, Nat.le_of_ble_eq_true rfl⟩) hD hS hA (fun r_7 ws_8 H locs hp hP hD hS => ?_)
                obtain ⟨rfl, rfl⟩ := hp
                refine va_castS hx hb hown (hts (.classLink RX1 52 RX0) (by decide +kernel)) (hK.1 1 _ rfl).2 (va_recv hK hP (ci := 1) (q0 := pQ) rfl gpQ) dX1_learn_44 ?_
                refine lv_iload hx hb dX1_learn_47 (lv_at hl 4 rfl) ?_
                refine lv_aload_n hx hb dX1_learn_49 rfl (lv_at hl 1 rfl) ?_
                refine lv_iload hx hb dX1_learn_50 (lv_at hl 4 rfl) ?_
                refine CQ.go (va_runV (As := [.int (nI j)]) (rest := [.int (nI j), .ref aQ, .int (nI i), .ref k0]) ⟨hx, hb, hml, hown, hts⟩ (c_L_get (v := aW)  hLh (map_at htW (by rw [← hdxW])) _) (cwV 1 hts gX1_learn_Jx4a65c_get_915e3 rfl rfl rfl (by decide +kernel) ⟨Nat.le_of_ble_eq_true rfl, Nat.le_of_ble_eq_true rfl⟩) ⟨pw_blind, LW.recv hK hP hLh, fun U hU hW => pw_pre hK hP hD hU hW⟩ rfl rfl hl.1 rfl (lv_room (Nat.le_of_ble_eq_true rfl)) dX1_learn_52 ⟨Nat.le_of_ble_eq_true rfl, Nat.le_of_ble_eq_true rfl⟩) hD hS hA (fun r_9 ws_10 H locs hp hP hD hS => ?_)
                obtain ⟨rfl, rfl⟩ := hp
                refine va_castS hx hb hown (hts (.classLink RX1 52 RX0) (by decide +kernel)) (hK.1 1 _ rfl).2 (va_recv hK hP (ci := 1) (q0 := pW) rfl gpW) dX1_learn_55 ?_
                refine lv_aload_n hx hb dX1_learn_58 rfl (lv_at hl 2 rfl) ?_
                refine CV.go (va_runV (As := [.int (nI i), .ref aQ, .int (nI j), .ref aW, .ref e0]) (rest := []) ⟨hx, hb, hml, hown, hts⟩ (c_X1_compare  g20 g21 g22 g23 g24 g25 g26 g27 g29 g30 gpQ gpQ_3 gpQ_4 gpW gpW_3 ⟨hP51Q, by omega, by omega, hP51W, by omega⟩ hbr hb64 hr64 hz1 hz2 hrQ.2.1 hrW.2.1 (by omega) (by omega) (by omega) (by omega) h48 (by omega) (by omega) (fun k hk => by have := (hfab.1.1 k hk).1; omega) (by rw [List.length_map]; exact hps) (by rw [List.length_map]; exact hps2) hCpb hTpb _) (cwV 5 hts gX1_learn_X1_compare rfl rfl rfl (by decide +kernel) ⟨Nat.le_of_ble_eq_true rfl, Nat.le_of_ble_eq_true rfl⟩) ⟨pw_blind, va_recv hK hP (ci := 2) (q0 := 21) rfl g21, fun U hU hW => pw_pre hK hP hD hU hW⟩ rfl rfl hl.1 rfl (lv_room (Nat.le_of_ble_eq_true rfl)) dX1_learn_59 ⟨Nat.le_of_ble_eq_true rfl, Nat.le_of_ble_eq_true rfl⟩) hD hS hA (fun ws_12 H locs hp hP hD hS => ?_)
                obtain ⟨c1c, c2c, t1c, t2c, hCp2, hTp2, smC, g22, g23, g24, g25, g26, g27, g29, g30⟩ := hp
                have g20 := smC.get g20 (by simp)
                have g21 := smC.get g21 (by simp)
                have g28 := smC.get g28 (by simp)
                have g31 := smC.get g31 (by simp)
                have gpQ := smC.get gpQ (by intro h9; first | (simp at h9; done) | ((try simp only at h9); omega))
                have gpQ_1 := smC.get gpQ_1 (by intro h9; first | (simp at h9; done) | ((try simp only at h9); omega))
                have gpQ_2 := smC.get gpQ_2 (by intro h9; first | (simp at h9; done) | ((try simp only at h9); omega))
                have gpQ_3 := smC.get gpQ_3 (by intro h9; first | (simp at h9; done) | ((try simp only at h9); omega))
                have gpQ_4 := smC.get gpQ_4 (by intro h9; first | (simp at h9; done) | ((try simp only at h9); omega))
                have gpW := smC.get gpW (by intro h9; first | (simp at h9; done) | ((try simp only at h9); omega))
                have gpW_1 := smC.get gpW_1 (by intro h9; first | (simp at h9; done) | ((try simp only at h9); omega))
                have gpW_2 := smC.get gpW_2 (by intro h9; first | (simp at h9; done) | ((try simp only at h9); omega))
                have gpW_3 := smC.get gpW_3 (by intro h9; first | (simp at h9; done) | ((try simp only at h9); omega))
                have gpW_4 := smC.get gpW_4 (by intro h9; first | (simp at h9; done) | ((try simp only at h9); omega))
                have sm := sm.call smC (by intro k hk; first | exact False.elim hk | ((try simp only at hk ⊢); omega))
                have g22 : ws_12[22]? = some (k1, .inr (4, [.ref k2, .ref k3, .int (nI ((bif (bandF zQ zW flQ flW rr bb).isSome then ((prO (bdH dd HS rr bb) HS.length i ++ prI (bdH dd HS rr bb) i j).map (nmH dd HS)) ++ [(nuQ, nuW)] else ((prO (bdH dd HS rr bb) HS.length i ++ prI (bdH dd HS rr bb) i j).map (nmH dd HS))).length))])) := g22
                have g23 : ws_12[23]? = some (k2, .inl (cI, 1128, .inl (fun jj => nI (c1c jj)))) := g23
                have g24 : ws_12[24]? = some (k3, .inl (cI, 1128, .inl (fun jj => nI (c2c jj)))) := g24
                have g25 : ws_12[25]? = some (k4, .inr (4, [.ref k5, .ref k6, .int (nI ((bif (twinB (bandF zQ zW flQ flW rr bb) (fhQ tW) (zQ + zW - fhQ tW) pp qq) then ((prO (twH dd HS rr bb pp qq) HS.length i ++ prI (twH dd HS rr bb pp qq) i j).map (nmH dd HS)) ++ [(nuQ, nuW)] else ((prO (twH dd HS rr bb pp qq) HS.length i ++ prI (twH dd HS rr bb pp qq) i j).map (nmH dd HS))).length))])) := g25
                have g26 : ws_12[26]? = some (k5, .inl (cI, 1128, .inl (fun jj => nI (t1c jj)))) := g26
                have g27 : ws_12[27]? = some (k6, .inl (cI, 1128, .inl (fun jj => nI (t2c jj)))) := g27
                have g29 : ws_12[29]? = some (k8, .inl (cI, 48, .inl (fun jj => nI (((bif (twinB (bandF zQ zW flQ flW rr bb) (fhQ tW) (zQ + zW - fhQ tW) pp qq) then va_up (va_up tcb i (tcb i + 1)) j (va_up tcb i (tcb i + 1) j + 1) else tcb)) jj)))) := g29
                have g30 : ws_12[30]? = some (k9, .inl (cI, 48, .inl (fun jj => nI (((bif (twinB (bandF zQ zW flQ flW rr bb) (fhQ tW) (zQ + zW - fhQ tW) pp qq) then mrgP fab (max (fab i) (fab j)) (min (fab i) (fab j)) (HS.length) else fab)) jj)))) := g30
                have hLh := hLh.low smC (by simp) (fun k n f h9 _ hk => by (try simp only at hk); omega)
                have hDW := hDW.low smC (fun k hk => by (try simp only at hk); omega)
                refine lv_iinc (v := (nI (j + 1))) (lv' := [(4, .int (nI (j + 1))), (0, .ref k0), (1, .ref s1), (2, .ref e0), (3, .int (nI i))]) hx hb dX1_learn_62 hl (k := 4) rfl (nx_inc _ 1) (by decide) rfl (fun ls hl => ?_)
                refine lv_goto (tgt := 28) hx hb dX1_learn_65 (by decide) ?_
                have eB : (bandF zQ zW flQ flW rr bb).isSome = (bdH dd HS rr bb) i j := by unfold bdH bdR; rw [getD_at htQ, getD_at htW, ← hdxQ, ← hdxW]
                have eT : (twinB (bandF zQ zW flQ flW rr bb) (fhQ tW) (zQ + zW - fhQ tW) pp qq) = (twH dd HS rr bb pp qq) i j := by unfold twH twR bdR; rw [getD_at htQ, getD_at htW, ← hdxQ, ← hdxW]
                have eN : (nuQ, nuW) = (nmH dd HS) (i, j) := by unfold nmH; rw [getD_at htQ, getD_at htW, ← hdxQ, ← hdxW]
                have g22 : ws_12[22]? = some (k1, .inr (4, [.ref k2, .ref k3, .int (nI (((prO (bdH dd HS rr bb) HS.length i ++ prI (bdH dd HS rr bb) i (j + 1)).map (nmH dd HS)).length))])) := by rw [← kin_c (by omega) eB eN]; exact g22
                have g25 : ws_12[25]? = some (k4, .inr (4, [.ref k5, .ref k6, .int (nI (((prO (twH dd HS rr bb pp qq) HS.length i ++ prI (twH dd HS rr bb pp qq) i (j + 1)).map (nmH dd HS)).length))])) := by rw [← kin_c (by omega) eT eN]; exact g25
                exact ih_28 (j + 1) _ _ _ _ _ _ (by omega) (by omega) (by rw [← kin_c (by omega) eB eN]; exact hCp2) (by rw [← kin_c (by omega) eT eN]; exact hTp2) (kin_t (by omega) (by omega) eT htcb) (kin_f (by omega) (by omega) eT (hsym j i (by omega) (by omega)) hfab) _ _ _ _ sm g20 g21 g22 g23 g24 g25 g26 g27 g28 g29 g30 g31 hLh hDW hP hD hS (lv_sub hl [1, 2, 3, 4, 0] rfl)
          have g22 : ws1[22]? = some (k1, .inr (4, [.ref k2, .ref k3, .int (nI (((prO (bdH dd HS rr bb) HS.length i ++ prI (bdH dd HS rr bb) i (i + 1)).map (nmH dd HS)).length))])) := by rw [prI_low (Nat.le_refl _), List.append_nil]; exact g22
          have g25 : ws1[25]? = some (k4, .inr (4, [.ref k5, .ref k6, .int (nI (((prO (twH dd HS rr bb pp qq) HS.length i ++ prI (twH dd HS rr bb pp qq) i (i + 1)).map (nmH dd HS)).length))])) := by rw [prI_low (Nat.le_refl _), List.append_nil]; exact g25
          exact lp_28 _ (i + 1) c1a c2a t1a t2a tca faa (Nat.lt_succ_self _) (by omega) (by rw [prI_low (Nat.le_refl _), List.append_nil]; exact hCpa) (by rw [prI_low (Nat.le_refl _), List.append_nil]; exact hTpa) (by rw [prI_low (Nat.le_refl _), List.append_nil]; exact htca) hfaa _ _ _ _ sm g20 g21 g22 g23 g24 g25 g26 g27 g28 g29 g30 g31 hLh hDW hP hD hS (lv_sub hl [1, 2, 3, 4, 0] rfl)
    exact lp_15 _ 0 c1 c2 t1 t2 tc2 fa2 (Nat.lt_succ_self _) (Nat.zero_le _) PRL.nil PRL.nil (fun k hk => (hb2 k _ (List.getElem?_eq_getElem hk)).2.1) ⟨fam_start _ _ (fun k hk => (hb2 k _ (List.getElem?_eq_getElem hk)).2.2.1), fun a b h1 h2 h3 => by omega⟩ _ _ _ _ sm g20 g21 g22 g23 g24 g25 g26 g27 g28 g29 g30 g31 hLh hDW hP hD hS (lv_sub hl [1, 2, 3, 0] rfl)
  · have g21 : ws[21]? = some (k0, .inr (2, [.ref k1, .ref k4, .ref k7, .ref k8, .ref k9, .ref k10, .int (nI plc), .int (nI 1)])) := by rw [← show kn = 1 by omega]; exact g21
    exact CV.ret C hK hP hD hS (⟨_, _, _, _, _, _, _, _, _, _, _, (hkn (by omega)), sm, g21, g22, g23, g24, g25, g26, g27, g28, g29, g30, g31⟩) hc0 hs0 dX1_learn_7
