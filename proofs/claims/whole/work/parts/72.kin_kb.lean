set_option maxHeartbeats 4000000 in
set_option maxRecDepth 100000 in
theorem c_X1_compare {D : va_G} {cB cI cJ cO : ClassId} {l : Launch} {e0 bb rr pp qq k0 : Nat} {k1 k4 k7 k8 k9 k10 plc kn : Nat} {k2 k3 k5 k6 : Nat} {c1 c2 t1 t2 tc fa : Nat → Nat} {Cn Tn : List (Nat × Nat)} {px px3 px4 ax x1 x2 x3 x4 sx nx zx : Nat} {py py3 ay y1 y2 y3 y4 sy ny zy : Nat} {lx ly kx : Nat → Nat} {i j : Nat} {ws : va_W} (g20 : ws[20]? = some (e0, .inr (3, [.int (nI bb), .int (nI rr), .int (nI pp), .int (nI qq)]))) (g21 : ws[21]? = some (k0, .inr (2, [.ref k1, .ref k4, .ref k7, .ref k8, .ref k9, .ref k10, .int (nI plc), .int (nI kn)]))) (g22 : ws[22]? = some (k1, .inr (4, [.ref k2, .ref k3, .int (nI (Cn.length))]))) (g23 : ws[23]? = some (k2, .inl (cI, 1128, .inl (fun jj => nI (c1 jj))))) (g24 : ws[24]? = some (k3, .inl (cI, 1128, .inl (fun jj => nI (c2 jj))))) (g25 : ws[25]? = some (k4, .inr (4, [.ref k5, .ref k6, .int (nI (Tn.length))]))) (g26 : ws[26]? = some (k5, .inl (cI, 1128, .inl (fun jj => nI (t1 jj))))) (g27 : ws[27]? = some (k6, .inl (cI, 1128, .inl (fun jj => nI (t2 jj))))) (g29 : ws[29]? = some (k8, .inl (cI, 48, .inl (fun jj => nI (tc jj))))) (g30 : ws[30]? = some (k9, .inl (cI, 48, .inl (fun jj => nI (fa jj))))) (gpx : ws[px]? = some (ax, .inr (1, [.int (nI sx), .ref x1, .ref x2, .ref x3, .ref x4, .int (nI nx), .int (nI zx)]))) (gpx3 : ws[px3]? = some (x3, .inl (cI, 64, .inl (fun jj => nI (lx jj))))) (gpx4 : ws[px4]? = some (x4, .inl (cI, 48, .inl (fun jj => nI (kx jj))))) (gpy : ws[py]? = some (ay, .inr (1, [.int (nI sy), .ref y1, .ref y2, .ref y3, .ref y4, .int (nI ny), .int (nI zy)]))) (gpy3 : ws[py3]? = some (y3, .inl (cI, 64, .inl (fun jj => nI (ly jj))))) (h51x : 51 ≤ px ∧ 51 ≤ px3 ∧ 51 ≤ px4 ∧ 51 ≤ py ∧ 51 ≤ py3) (hbr : bb * rr ≤ 64) (hb64 : bb ≤ 64) (hr64 : rr ≤ 64) (hzx : zx ≤ 800) (hzy : zy ≤ 800) (hlx : ∀ k, k < 64 → lx k < 2 ^ 31) (hly : ∀ k, k < 64 → ly k < 2 ^ 31) (hsy : sy < 48) (hley : kx sy ≤ zx + zy) (hm1 : kx sy * qq < 2 ^ 31) (hm2 : (zx + zy - kx sy) * pp < 2 ^ 31) (hpl : plc ≤ 48) (hi : i < plc) (hj : j < plc) (hfa : ∀ k, k < plc → fa k < 48) (hCl : Cn.length < 1128) (hTl : Tn.length < 1128) (hCp : PRL c1 c2 Cn) (hTp : PRL t1 t2 Tn) : CV D (TY cB cI cJ cO) l yX1_compare wsX1_compare ({ frames := 3, cells := 0, slots := 0, locals := 66 }) [.ref k0, .int (nI i), .ref ax, .int (nI j), .ref ay, .ref e0] ws (fun ws' => ∃ c1n : Nat → Nat, ∃ c2n : Nat → Nat, ∃ t1n : Nat → Nat, ∃ t2n : Nat → Nat, (PRL c1n c2n (bif (bandF zx zy lx ly rr bb).isSome then Cn ++ [(nx, ny)] else Cn)) ∧ (PRL t1n t2n (bif (twinB (bandF zx zy lx ly rr bb) (kx sy) (zx + zy - kx sy) pp qq) then Tn ++ [(nx, ny)] else Tn)) ∧ Sm (fun k => k = 22 ∨ k = 23 ∨ k = 24 ∨ k = 25 ∨ k = 26 ∨ k = 27 ∨ k = 29 ∨ k = 30) ws ws' ∧ ws'[22]? = some (k1, .inr (4, [.ref k2, .ref k3, .int (nI ((bif (bandF zx zy lx ly rr bb).isSome then Cn ++ [(nx, ny)] else Cn).length))])) ∧ ws'[23]? = some (k2, .inl (cI, 1128, .inl (fun jj => nI (c1n jj)))) ∧ ws'[24]? = some (k3, .inl (cI, 1128, .inl (fun jj => nI (c2n jj)))) ∧ ws'[25]? = some (k4, .inr (4, [.ref k5, .ref k6, .int (nI ((bif (twinB (bandF zx zy lx ly rr bb) (kx sy) (zx + zy - kx sy) pp qq) then Tn ++ [(nx, ny)] else Tn).length))])) ∧ ws'[26]? = some (k5, .inl (cI, 1128, .inl (fun jj => nI (t1n jj)))) ∧ ws'[27]? = some (k6, .inl (cI, 1128, .inl (fun jj => nI (t2n jj)))) ∧ ws'[29]? = some (k8, .inl (cI, 48, .inl (fun jj => nI (((bif (twinB (bandF zx zy lx ly rr bb) (kx sy) (zx + zy - kx sy) pp qq) then va_up (va_up tc i (tc i + 1)) j (va_up tc i (tc i + 1) j + 1) else tc)) jj)))) ∧ ws'[30]? = some (k9, .inl (cI, 48, .inl (fun jj => nI (((bif (twinB (bandF zx zy lx ly rr bb) (kx sy) (zx + zy - kx sy) pp qq) then mrgP fa (max (fa i) (fa j)) (min (fa i) (fa j)) plc else fa)) jj))))) := by
  refine CV.of (cc := cX1_compare) (maxL := 6) (ret := none) (by decide) rfl (Nat.le_of_ble_eq_true rfl) ?_
  intro p e s m below meth c A C hK hP hD hA hS ls hl
  obtain ⟨hx, hb, hr, hml, hts, hown, hlocks, hnm⟩ := id C
  have fl_12 := hts (.fieldLink RX1 12 "TwinFinder$Kin" "candidates" "LTwinFinder$PairRow;") (by decide +kernel)
  have fl_18 := hts (.fieldLink RX1 18 "TwinFinder$Kin" "twins" "LTwinFinder$PairRow;") (by decide +kernel)
  have fl_25 := hts (.fieldLink RX1 25 "TwinFinder$Kin" "twinCount" "[I") (by decide +kernel)
  have fl_28 := hts (.fieldLink RX1 28 "TwinFinder$Kin" "leader" "[I") (by decide +kernel)
  have fl_70 := hts (.fieldLink RX1 70 "TwinFinder$Document" "number" "I") (by decide +kernel)
  have hin_X0 : ∀ w ∈ u_ws RX0 TX0 7, w ∈ wsX1_compare := by decide +kernel
  have hin_X1 : ∀ w ∈ u_ws RX1 TX1 8, w ∈ wsX1_compare := by decide +kernel
  have hl : lv_has ls 6 [(0, .ref k0), (1, .int (nI i)), (2, .ref ax), (3, .int (nI j)), (4, .ref ay), (5, .ref e0)] := hl
  have sm : Sm (fun k => k = 22 ∨ k = 23 ∨ k = 24 ∨ k = 25 ∨ k = 26 ∨ k = 27 ∨ k = 29 ∨ k = 30) ws ws := Sm.rf
  have hc0 : (0 : Nat) ≤ 0 := by decide
  have hs0 : (0 : Nat) ≤ 0 := by decide
  refine lv_aload hx hb dX1_compare_0 (lv_at hl 5 rfl) ?_
  refine lv_aload_n hx hb dX1_compare_2 rfl (lv_at hl 2 rfl) ?_
  refine lv_aload hx hb dX1_compare_3 (lv_at hl 4 rfl) ?_
  refine CI.go (va_runV (As := [.ref ax, .ref ay]) (rest := []) ⟨hx, hb, hml, hown, hts⟩ (c_X2_firstBand  g20 gpx gpx3 gpy gpy3 hbr hb64 hr64 hzx hzy hlx hly _) (cwV 2 hts gX1_compare_X2_firstBand rfl rfl rfl (by decide +kernel) ⟨Nat.le_of_ble_eq_true rfl, Nat.le_of_ble_eq_true rfl⟩) ⟨pw_blind, va_recv hK hP (ci := 3) (q0 := 20) rfl g20, fun U hU hW => pw_pre hK hP hD hU hW⟩ rfl rfl hl.1 rfl (lv_room (Nat.le_of_ble_eq_true rfl)) dX1_compare_5 ⟨Nat.le_of_ble_eq_true rfl, Nat.le_of_ble_eq_true rfl⟩) hD hS hA (fun r_1 ws_2 H locs hp hP hD hS => ?_)
  obtain ⟨rfl, rfl⟩ := hp
  rcases hfb : bandF zx zy lx ly rr bb with _ | qb
  · try simp only [optI]
    refine lv_iconst (v := -1) hx hb dX1_compare_8 (by decide) ?_
    refine lv_icmp_ne (tgt := 13) hx hb dX1_compare_9 (by decide) (fun c_9 => absurd (by decide) c_9) (fun c_9 => ?_)
    have hbd : (none : Option Nat).isSome = false := rfl
    have htw : (twinB (none : Option Nat) (kx sy) (zx + zy - kx sy) pp qq) = false := rfl
    have g22 : ws[22]? = some (k1, .inr (4, [.ref k2, .ref k3, .int (nI ((bif (none : Option Nat).isSome then Cn ++ [(nx, ny)] else Cn).length))])) := by rw [hbd]; exact g22
    have g25 : ws[25]? = some (k4, .inr (4, [.ref k5, .ref k6, .int (nI ((bif (twinB (none : Option Nat) (kx sy) (zx + zy - kx sy) pp qq) then Tn ++ [(nx, ny)] else Tn).length))])) := by rw [htw]; exact g25
    have g29 : ws[29]? = some (k8, .inl (cI, 48, .inl (fun jj => nI (((bif (twinB (none : Option Nat) (kx sy) (zx + zy - kx sy) pp qq) then va_up (va_up tc i (tc i + 1)) j (va_up tc i (tc i + 1) j + 1) else tc)) jj)))) := by rw [htw]; exact g29
    have g30 : ws[30]? = some (k9, .inl (cI, 48, .inl (fun jj => nI (((bif (twinB (none : Option Nat) (kx sy) (zx + zy - kx sy) pp qq) then mrgP fa (max (fa i) (fa j)) (min (fa i) (fa j)) plc else fa)) jj)))) := by rw [htw]; exact g30
    exact CV.ret C hK hP hD hS (⟨_, _, _, _, (by rw [hbd]; exact hCp), (by rw [htw]; exact hTp), sm, g22, g23, g24, g25, g26, g27, g29, g30⟩) hc0 hs0 dX1_compare_12
  · try simp only [optI]
    have hq64 := bandF_lt hfb
    refine lv_iconst (v := -1) hx hb dX1_compare_8 (by decide) ?_
    refine lv_icmp_ne (tgt := 13) hx hb dX1_compare_9 (by decide) (fun c_9 => ?_) (fun c_9 => ?_)
    · refine lv_aload_n hx hb dX1_compare_13 rfl (lv_at hl 0 rfl) ?_
      refine va_get (D := D) (ci := 2) (v := .ref k1) (C := RX1) (T := TX1) (N := 8) hx hb hts hin_X1 hown hK hP 21 g21 rfl 0 (by decide) fl_12 (fun _ h9 => h9) rfl dX1_compare_14 ?_
      refine lv_aload_n hx hb dX1_compare_17 rfl (lv_at hl 2 rfl) ?_
      refine va_get (D := D) (ci := 1) (v := .int (nI nx)) (C := RX0) (T := TX0) (N := 7) hx hb hts hin_X0 hown hK hP px gpx rfl 5 (by decide) fl_70 (fun _ h9 => h9) rfl dX1_compare_18 ?_
      refine lv_aload hx hb dX1_compare_21 (lv_at hl 4 rfl) ?_
      refine va_get (D := D) (ci := 1) (v := .int (nI ny)) (C := RX0) (T := TX0) (N := 7) hx hb hts hin_X0 hown hK hP py gpy rfl 5 (by decide) fl_70 (fun _ h9 => h9) rfl dX1_compare_23 ?_
      refine CV.go (va_runV (As := [.int (nI nx), .int (nI ny)]) (rest := []) ⟨hx, hb, hml, hown, hts⟩ (c_X3_put (pq := 22) g22 g23 g24 (by omega) _) (cwV 2 hts gX1_compare_X3_put rfl rfl rfl (by decide +kernel) ⟨Nat.le_of_ble_eq_true rfl, Nat.le_of_ble_eq_true rfl⟩) ⟨pw_blind, va_recv hK hP (ci := 4) (q0 := 22) rfl g22, fun U hU hW => pw_pre hK hP hD hU hW⟩ rfl rfl hl.1 rfl (lv_room (Nat.le_of_ble_eq_true rfl)) dX1_compare_26 ⟨Nat.le_of_ble_eq_true rfl, Nat.le_of_ble_eq_true rfl⟩) hD hS hA (fun ws_4 H locs hp hP hD hS => ?_)
      obtain ⟨sm_5, g22, g23, g24⟩ := hp
      have g20 := sm_5.get g20 (by simp)
      have g21 := sm_5.get g21 (by simp)
      have g25 := sm_5.get g25 (by simp)
      have g26 := sm_5.get g26 (by simp)
      have g27 := sm_5.get g27 (by simp)
      have g29 := sm_5.get g29 (by simp)
      have g30 := sm_5.get g30 (by simp)
      have gpx := sm_5.get gpx (by intro h9; first | (simp at h9; done) | ((try simp only at h9); omega))
      have gpx3 := sm_5.get gpx3 (by intro h9; first | (simp at h9; done) | ((try simp only at h9); omega))
      have gpx4 := sm_5.get gpx4 (by intro h9; first | (simp at h9; done) | ((try simp only at h9); omega))
      have gpy := sm_5.get gpy (by intro h9; first | (simp at h9; done) | ((try simp only at h9); omega))
      have gpy3 := sm_5.get gpy3 (by intro h9; first | (simp at h9; done) | ((try simp only at h9); omega))
      have sm := sm.call sm_5 (by intro k hk; first | exact False.elim hk | ((try simp only at hk ⊢); omega))
      have g22 : ws_4[22]? = some (k1, .inr (4, [.ref k2, .ref k3, .int (nI ((Cn.length) + 1))])) := g22
      have g23 : ws_4[23]? = some (k2, .inl (cI, 1128, .inl (fun jj => nI ((va_up c1 (Cn.length) nx) jj)))) := g23
      have g24 : ws_4[24]? = some (k3, .inl (cI, 1128, .inl (fun jj => nI ((va_up c2 (Cn.length) ny) jj)))) := g24
      refine lv_aload hx hb dX1_compare_29 (lv_at hl 5 rfl) ?_
      refine lv_aload_n hx hb dX1_compare_31 rfl (lv_at hl 2 rfl) ?_
      refine lv_aload hx hb dX1_compare_32 (lv_at hl 4 rfl) ?_
      refine CI.go (va_runV (As := [.ref ax, .ref ay]) (rest := []) ⟨hx, hb, hml, hown, hts⟩ (c_X2_areNear  g20 gpx gpx4 gpy hsy hley hm1 hm2 _) (cwV 2 hts gX1_compare_X2_areNear rfl rfl rfl (by decide +kernel) ⟨Nat.le_of_ble_eq_true rfl, Nat.le_of_ble_eq_true rfl⟩) ⟨pw_blind, va_recv hK hP (ci := 3) (q0 := 20) rfl g20, fun U hU hW => pw_pre hK hP hD hU hW⟩ rfl rfl hl.1 rfl (lv_room (Nat.le_of_ble_eq_true rfl)) dX1_compare_34 ⟨Nat.le_of_ble_eq_true rfl, Nat.le_of_ble_eq_true rfl⟩) hD hS hA (fun r_6 ws_7 H locs hp hP hD hS => ?_)
      obtain ⟨rfl, rfl⟩ := hp
      refine nx_if_eq (tgt := 92) hx hb (by exact bn2 _) dX1_compare_37 (by decide) (fun c_37 => ?_) (fun c_37 => ?_)
      · have hbd : (some qb).isSome = true := rfl
        have htw : (twinB (some qb) (kx sy) (zx + zy - kx sy) pp qq) = false := by rw [twinB, bool0 c_37]; rfl
        have g22 : ws_4[22]? = some (k1, .inr (4, [.ref k2, .ref k3, .int (nI ((bif (some qb).isSome then Cn ++ [(nx, ny)] else Cn).length))])) := by rw [hbd]; rw [show (bif true then Cn ++ [(nx, ny)] else Cn) = Cn ++ [(nx, ny)] from rfl, List.length_append]; exact g22
        have g25 : ws_4[25]? = some (k4, .inr (4, [.ref k5, .ref k6, .int (nI ((bif (twinB (some qb) (kx sy) (zx + zy - kx sy) pp qq) then Tn ++ [(nx, ny)] else Tn).length))])) := by rw [htw]; exact g25
        have g29 : ws_4[29]? = some (k8, .inl (cI, 48, .inl (fun jj => nI (((bif (twinB (some qb) (kx sy) (zx + zy - kx sy) pp qq) then va_up (va_up tc i (tc i + 1)) j (va_up tc i (tc i + 1) j + 1) else tc)) jj)))) := by rw [htw]; exact g29
        have g30 : ws_4[30]? = some (k9, .inl (cI, 48, .inl (fun jj => nI (((bif (twinB (some qb) (kx sy) (zx + zy - kx sy) pp qq) then mrgP fa (max (fa i) (fa j)) (min (fa i) (fa j)) plc else fa)) jj)))) := by rw [htw]; exact g30
        exact CV.ret C hK hP hD hS (⟨_, _, _, _, (by rw [hbd]; exact hCp.app), (by rw [htw]; exact hTp), sm, g22, g23, g24, g25, g26, g27, g29, g30⟩) hc0 hs0 dX1_compare_92
      · refine lv_aload_n hx hb dX1_compare_40 rfl (lv_at hl 0 rfl) ?_
        refine va_get (D := D) (ci := 2) (v := .ref k4) (C := RX1) (T := TX1) (N := 8) hx hb hts hin_X1 hown hK hP 21 g21 rfl 1 (by decide) fl_18 (fun _ h9 => h9) rfl dX1_compare_41 ?_
        refine lv_aload_n hx hb dX1_compare_44 rfl (lv_at hl 2 rfl) ?_
        refine va_get (D := D) (ci := 1) (v := .int (nI nx)) (C := RX0) (T := TX0) (N := 7) hx hb hts hin_X0 hown hK hP px gpx rfl 5 (by decide) fl_70 (fun _ h9 => h9) rfl dX1_compare_45 ?_
        refine lv_aload hx hb dX1_compare_48 (lv_at hl 4 rfl) ?_
        refine va_get (D := D) (ci := 1) (v := .int (nI ny)) (C := RX0) (T := TX0) (N := 7) hx hb hts hin_X0 hown hK hP py gpy rfl 5 (by decide) fl_70 (fun _ h9 => h9) rfl dX1_compare_50 ?_
        refine CV.go (va_runV (As := [.int (nI nx), .int (nI ny)]) (rest := []) ⟨hx, hb, hml, hown, hts⟩ (c_X3_put (pq := 25) g25 g26 g27 (by omega) _) (cwV 2 hts gX1_compare_X3_put rfl rfl rfl (by decide +kernel) ⟨Nat.le_of_ble_eq_true rfl, Nat.le_of_ble_eq_true rfl⟩) ⟨pw_blind, va_recv hK hP (ci := 4) (q0 := 25) rfl g25, fun U hU hW => pw_pre hK hP hD hU hW⟩ rfl rfl hl.1 rfl (lv_room (Nat.le_of_ble_eq_true rfl)) dX1_compare_53 ⟨Nat.le_of_ble_eq_true rfl, Nat.le_of_ble_eq_true rfl⟩) hD hS hA (fun ws_9 H locs hp hP hD hS => ?_)
        obtain ⟨sm_10, g25, g26, g27⟩ := hp
        have g20 := sm_10.get g20 (by simp)
        have g21 := sm_10.get g21 (by simp)
        have g22 := sm_10.get g22 (by simp)
        have g23 := sm_10.get g23 (by simp)
        have g24 := sm_10.get g24 (by simp)
        have g29 := sm_10.get g29 (by simp)
        have g30 := sm_10.get g30 (by simp)
        have gpx := sm_10.get gpx (by intro h9; first | (simp at h9; done) | ((try simp only at h9); omega))
        have gpx3 := sm_10.get gpx3 (by intro h9; first | (simp at h9; done) | ((try simp only at h9); omega))
        have gpx4 := sm_10.get gpx4 (by intro h9; first | (simp at h9; done) | ((try simp only at h9); omega))
        have gpy := sm_10.get gpy (by intro h9; first | (simp at h9; done) | ((try simp only at h9); omega))
        have gpy3 := sm_10.get gpy3 (by intro h9; first | (simp at h9; done) | ((try simp only at h9); omega))
        have sm := sm.call sm_10 (by intro k hk; first | exact False.elim hk | ((try simp only at hk ⊢); omega))
        have g25 : ws_9[25]? = some (k4, .inr (4, [.ref k5, .ref k6, .int (nI ((Tn.length) + 1))])) := g25
        have g26 : ws_9[26]? = some (k5, .inl (cI, 1128, .inl (fun jj => nI ((va_up t1 (Tn.length) nx) jj)))) := g26
        have g27 : ws_9[27]? = some (k6, .inl (cI, 1128, .inl (fun jj => nI ((va_up t2 (Tn.length) ny) jj)))) := g27
        refine lv_aload_n hx hb dX1_compare_56 rfl (lv_at hl 0 rfl) ?_
        refine va_get (D := D) (ci := 2) (v := .ref k8) (C := RX1) (T := TX1) (N := 8) hx hb hts hin_X1 hown hK hP 21 g21 rfl 3 (by decide) fl_25 (fun _ h9 => h9) rfl dX1_compare_57 ?_
        refine lv_iload_n hx hb dX1_compare_60 rfl (lv_at hl 1 rfl) ?_
        refine lv_dup2_11 hx hb dX1_compare_61 rfl rfl ?_
        refine nx_iald hx hb hK hP 29 1 g29 rfl (k := i) (by omega) (by decide) dX1_compare_62 ?_
        refine lv_iconst (v := nI 1) hx hb dX1_compare_63 (by decide) ?_
        refine nx_iadd hx hb dX1_compare_64 ?_
        refine nx_iastN hx hb hK hP hD hS 29 1 g29 rfl (k := i) (by omega) (by decide) dX1_compare_65 (fun ws_11 H locs gq up_12 hP hD hS => ?_)
        have g29 : ws_11[29]? = some (k8, .inl (cI, 48, .inl (fun jj => nI ((va_up tc i ((tc i) + 1)) jj)))) := gq
        have g20 := up_12.get g20 (by decide)
        have g21 := up_12.get g21 (by decide)
        have g22 := up_12.get g22 (by decide)
        have g23 := up_12.get g23 (by decide)
        have g24 := up_12.get g24 (by decide)
        have g25 := up_12.get g25 (by decide)
        have g26 := up_12.get g26 (by decide)
        have g27 := up_12.get g27 (by decide)
        have g30 := up_12.get g30 (by decide)
        have gpx := up_12.get gpx (by omega)
        have gpx3 := up_12.get gpx3 (by omega)
        have gpx4 := up_12.get gpx4 (by omega)
        have gpy := up_12.get gpy (by omega)
        have gpy3 := up_12.get gpy3 (by omega)
        have sm := sm.up up_12 (by simp)
        refine lv_aload_n hx hb dX1_compare_66 rfl (lv_at hl 0 rfl) ?_
        refine va_get (D := D) (ci := 2) (v := .ref k8) (C := RX1) (T := TX1) (N := 8) hx hb hts hin_X1 hown hK hP 21 g21 rfl 3 (by decide) fl_25 (fun _ h9 => h9) rfl dX1_compare_67 ?_
        refine lv_iload_n hx hb dX1_compare_70 rfl (lv_at hl 3 rfl) ?_
        refine lv_dup2_11 hx hb dX1_compare_71 rfl rfl ?_
        refine nx_iald hx hb hK hP 29 1 g29 rfl (k := j) (by omega) (by decide) dX1_compare_72 ?_
        refine lv_iconst (v := nI 1) hx hb dX1_compare_73 (by decide) ?_
        refine nx_iadd hx hb dX1_compare_74 ?_
        refine nx_iastN hx hb hK hP hD hS 29 1 g29 rfl (k := j) (by omega) (by decide) dX1_compare_75 (fun ws_13 H locs gq up_14 hP hD hS => ?_)
        have g29 : ws_13[29]? = some (k8, .inl (cI, 48, .inl (fun jj => nI ((va_up (va_up tc i ((tc i) + 1)) j (((va_up tc i ((tc i) + 1)) j) + 1)) jj)))) := gq
        have g20 := up_14.get g20 (by decide)
        have g21 := up_14.get g21 (by decide)
        have g22 := up_14.get g22 (by decide)
        have g23 := up_14.get g23 (by decide)
        have g24 := up_14.get g24 (by decide)
        have g25 := up_14.get g25 (by decide)
        have g26 := up_14.get g26 (by decide)
        have g27 := up_14.get g27 (by decide)
        have g30 := up_14.get g30 (by decide)
        have gpx := up_14.get gpx (by omega)
        have gpx3 := up_14.get gpx3 (by omega)
        have gpx4 := up_14.get gpx4 (by omega)
        have gpy := up_14.get gpy (by omega)
        have gpy3 := up_14.get gpy3 (by omega)
        have sm := sm.up up_14 (by simp)
        refine lv_aload_n hx hb dX1_compare_76 rfl (lv_at hl 0 rfl) ?_
        refine lv_aload_n hx hb dX1_compare_77 rfl (lv_at hl 0 rfl) ?_
        refine va_get (D := D) (ci := 2) (v := .ref k9) (C := RX1) (T := TX1) (N := 8) hx hb hts hin_X1 hown hK hP 21 g21 rfl 4 (by decide) fl_28 (fun _ h9 => h9) rfl dX1_compare_78 ?_
        refine lv_iload_n hx hb dX1_compare_81 rfl (lv_at hl 1 rfl) ?_
        refine nx_iald hx hb hK hP 30 1 g30 rfl (k := i) (by omega) (by decide) dX1_compare_82 ?_
        refine lv_aload_n hx hb dX1_compare_83 rfl (lv_at hl 0 rfl) ?_
        refine va_get (D := D) (ci := 2) (v := .ref k9) (C := RX1) (T := TX1) (N := 8) hx hb hts hin_X1 hown hK hP 21 g21 rfl 4 (by decide) fl_28 (fun _ h9 => h9) rfl dX1_compare_84 ?_
        refine lv_iload_n hx hb dX1_compare_87 rfl (lv_at hl 3 rfl) ?_
        refine nx_iald hx hb hK hP 30 1 g30 rfl (k := j) (by omega) (by decide) dX1_compare_88 ?_
        refine CV.go (va_runV (As := [.int (nI (fa i)), .int (nI (fa j))]) (rest := []) ⟨hx, hb, hml, hown, hts⟩ (c_X1_join  g21 g30 hpl (hfa i hi) (hfa j hj) hfa _) (cwV 2 hts gX1_compare_X1_join rfl rfl rfl (by decide +kernel) ⟨Nat.le_of_ble_eq_true rfl, Nat.le_of_ble_eq_true rfl⟩) ⟨pw_blind, va_recv hK hP (ci := 2) (q0 := 21) rfl g21, fun U hU hW => pw_pre hK hP hD hU hW⟩ rfl rfl hl.1 rfl (lv_room (Nat.le_of_ble_eq_true rfl)) dX1_compare_89 ⟨Nat.le_of_ble_eq_true rfl, Nat.le_of_ble_eq_true rfl⟩) hD hS hA (fun ws_16 H locs hp hP hD hS => ?_)
        obtain ⟨sm_17, g30⟩ := hp
        have g20 := sm_17.get g20 (by simp)
        have g21 := sm_17.get g21 (by simp)
        have g22 := sm_17.get g22 (by simp)
        have g23 := sm_17.get g23 (by simp)
        have g24 := sm_17.get g24 (by simp)
        have g25 := sm_17.get g25 (by simp)
        have g26 := sm_17.get g26 (by simp)
        have g27 := sm_17.get g27 (by simp)
        have g29 := sm_17.get g29 (by simp)
        have gpx := sm_17.get gpx (by intro h9; first | (simp at h9; done) | ((try simp only at h9); omega))
        have gpx3 := sm_17.get gpx3 (by intro h9; first | (simp at h9; done) | ((try simp only at h9); omega))
        have gpx4 := sm_17.get gpx4 (by intro h9; first | (simp at h9; done) | ((try simp only at h9); omega))
        have gpy := sm_17.get gpy (by intro h9; first | (simp at h9; done) | ((try simp only at h9); omega))
        have gpy3 := sm_17.get gpy3 (by intro h9; first | (simp at h9; done) | ((try simp only at h9); omega))
        have sm := sm.call sm_17 (by intro k hk; first | exact False.elim hk | ((try simp only at hk ⊢); omega))
        have g30 : ws_16[30]? = some (k9, .inl (cI, 48, .inl (fun jj => nI ((mrgP fa (max (fa i) (fa j)) (min (fa i) (fa j)) plc) jj)))) := g30
        have hbd : (some qb).isSome = true := rfl
        have htw : (twinB (some qb) (kx sy) (zx + zy - kx sy) pp qq) = true := by rw [twinB, bool1 c_37]; rfl
        have g22 : ws_16[22]? = some (k1, .inr (4, [.ref k2, .ref k3, .int (nI ((bif (some qb).isSome then Cn ++ [(nx, ny)] else Cn).length))])) := by rw [hbd]; rw [show (bif true then Cn ++ [(nx, ny)] else Cn) = Cn ++ [(nx, ny)] from rfl, List.length_append]; exact g22
        have g25 : ws_16[25]? = some (k4, .inr (4, [.ref k5, .ref k6, .int (nI ((bif (twinB (some qb) (kx sy) (zx + zy - kx sy) pp qq) then Tn ++ [(nx, ny)] else Tn).length))])) := by rw [htw]; rw [show (bif true then Tn ++ [(nx, ny)] else Tn) = Tn ++ [(nx, ny)] from rfl, List.length_append]; exact g25
        have g29 : ws_16[29]? = some (k8, .inl (cI, 48, .inl (fun jj => nI (((bif (twinB (some qb) (kx sy) (zx + zy - kx sy) pp qq) then va_up (va_up tc i (tc i + 1)) j (va_up tc i (tc i + 1) j + 1) else tc)) jj)))) := by rw [htw]; exact g29
        have g30 : ws_16[30]? = some (k9, .inl (cI, 48, .inl (fun jj => nI (((bif (twinB (some qb) (kx sy) (zx + zy - kx sy) pp qq) then mrgP fa (max (fa i) (fa j)) (min (fa i) (fa j)) plc else fa)) jj)))) := by rw [htw]; exact g30
        exact CV.ret C hK hP hD hS (⟨_, _, _, _, (by rw [hbd]; exact hCp.app), (by rw [htw]; exact hTp.app), sm, g22, g23, g24, g25, g26, g27, g29, g30⟩) hc0 hs0 dX1_compare_92
    · exact absurd c_9 (nI_nm1 (by omega))
