set_option maxHeartbeats 4000000 in
set_option maxRecDepth 100000 in
theorem c_X5_shareWithAll {D : va_G} {cB cI cJ cO : ClassId} {l : Launch} {ad : Nat} {s0 s1 s2 s3 ca eh es er nd : Nat} {dd : Nat → DX} {HS SS RS : List Nat} {Mf : Nat → Nat → Bool} {tF aF : Nat} {ws : va_W}  (hSW : ShW ws cI cJ cO ad s0 s1 s2 s3 ca eh es er nd dd HS SS RS) (hnd : nd ≤ 48) (hFm : tF ∈ HS) (haF : (dd tF).1.2 = aF) (hM : ∀ t ∈ HS, SetB (dd t).2.2.2.1 (Mf t)) : CV D (TY cB cI cJ cO) l yX5_shareWithAll wsX5_shareWithAll ({ frames := 3, cells := 0, slots := 0, locals := 64 }) [.ref s0, .ref aF] ws (fun ws' => (ShW ws' cI cJ cO ad s0 s1 s2 s3 ca eh es er nd (shA dd tF (fun t => cntB (fun q => Mf tF q && Mf t q) 6016) HS) HS SS RS) ∧ Sm (fun k => 51 ≤ k) ws ws') := by
  refine CV.of (cc := cX5_shareWithAll) (maxL := 5) (ret := none) (by decide) rfl (Nat.le_of_ble_eq_true rfl) ?_
  intro p e s m below meth c A C hK hP hD hA hS ls hl
  obtain ⟨hx, hb, hr, hml, hts, hown, hlocks, hnm⟩ := id C
  have fl_12 := hts (.fieldLink RX5 12 "TwinFinder$Shelf" "here" "Ljava/util/ArrayList;") (by decide +kernel)
  have fl_59 := hts (.fieldLink RX5 59 "TwinFinder$Document" "shared" "[I") (by decide +kernel)
  have fl_63 := hts (.fieldLink RX5 63 "TwinFinder$Document" "slot" "I") (by decide +kernel)
  have hin_X0 : ∀ w ∈ u_ws RX0 TX0 7, w ∈ wsX5_shareWithAll := by decide +kernel
  have hin_X5 : ∀ w ∈ u_ws RX5 TX5 4, w ∈ wsX5_shareWithAll := by decide +kernel
  have hl : lv_has ls 5 [(0, .ref s0), (1, .ref aF)] := hl
  have sm : Sm (fun k => 51 ≤ k) ws ws := Sm.rf
  have hc0 : (0 : Nat) ≤ 0 := by decide
  have hs0 : (0 : Nat) ≤ 0 := by decide
  obtain ⟨c9, hc9⟩ : ∃ v : Nat → Nat, v = (fun t => cntB (fun q => Mf tF q && Mf t q) 6016) := ⟨_, rfl⟩
  have hNd0 := hSW.2.2.2.2.2.2.1
  have htlF : tF < nd := hSW.2.2.2.2.2.2.2.1 tF (List.mem_append_left _ hFm)
  refine lv_iconst (v := nI 0) hx hb dX5_shareWithAll_0 (by decide) ?_
  refine lv_istore_n (lv' := [(2, .int (nI 0)), (0, .ref s0), (1, .ref aF)]) hx hb dX5_shareWithAll_1 rfl hl (by decide) rfl (fun ls hl => ?_)
  have lp_2 : ∀ (fuel : Nat) (i : Nat), HS.length - i < fuel → (i ≤ HS.length) → ∀ (ws1 : va_W) (H : Heap) (locs : List Loc) (ls : Array Slot), Sm (fun k => 51 ≤ k) ws ws1 → (ShW ws1 cI cJ cO ad s0 s1 s2 s3 ca eh es er nd (shA dd tF c9 (HS.take i)) HS SS RS) → va_P D vwCl ws1 H → va_D A ws1 → va_S A s.heap H locs → lv_has ls 5 [(0, .ref s0), (1, .ref aF), (2, .int (nI i))] → W p l e ({ frames := 3, cells := 0, slots := 0, locals := 64 }) s m ([.ref s0, .ref aF] : List Value).toArray below meth c H locs 0 0 (ZV D (TY cB cI cJ cO) (fun ws' => (ShW ws' cI cJ cO ad s0 s1 s2 s3 ca eh es er nd (shA dd tF (fun t => cntB (fun q => Mf tF q && Mf t q) 6016) HS) HS SS RS) ∧ Sm (fun k => 51 ≤ k) ws ws') below [.ref s0, .ref aF] s 0 0 A) (F0 m 2 ls []) := by
    intro fuel
    induction fuel with
    | zero => intro i hfu; exact absurd hfu (Nat.not_lt_zero _)
    | succ fuel ih_2 =>
      intro i hfu_2 hi ws1 H locs ls sm  hSW hP hD hS hl
      obtain ⟨g16, hLh, hLs, hLr, hDW, hEd, hNd, hAll, hndl, hRS, h51⟩ := id hSW
      have hHS : ∀ t ∈ HS, t < nd := fun t h9 => hAll t (List.mem_append_left _ h9)
      refine lv_iload_n hx hb dX5_shareWithAll_2 rfl (lv_at hl 2 rfl) ?_
      refine lv_aload_n hx hb dX5_shareWithAll_3 rfl (lv_at hl 0 rfl) ?_
      refine va_get (D := D) (ci := 6) (v := .ref s1) (C := RX5) (T := TX5) (N := 4) hx hb hts hin_X5 hown hK hP 16 g16 rfl 0 (by decide) fl_12 (fun _ h9 => h9) rfl dX5_shareWithAll_4 ?_
      refine CI.go (va_runV (As := []) (rest := [.int (nI i)]) ⟨hx, hb, hml, hown, hts⟩ (c_L_size   hLh _) (cwV 0 hts gX5_shareWithAll_Jx4a65c_size_8abf5 rfl rfl rfl (by decide +kernel) ⟨Nat.le_of_ble_eq_true rfl, Nat.le_of_ble_eq_true rfl⟩) ⟨pw_blind, LW.recv hK hP hLh, fun U hU hW => pw_pre hK hP hD hU hW⟩ rfl rfl hl.1 rfl (lv_room (Nat.le_of_ble_eq_true rfl)) dX5_shareWithAll_7 ⟨Nat.le_of_ble_eq_true rfl, Nat.le_of_ble_eq_true rfl⟩) hD hS hA (fun r_1 ws_2 H locs hp hP hD hS => ?_)
      obtain ⟨rfl, rfl⟩ := hp
      rw [List.length_map]
      refine nx_icmp_ge (tgt := 60) hx hb (by omega) (by omega) dX5_shareWithAll_10 (by decide) (fun c_10 => ?_) (fun c_10 => ?_)
      · exact CV.ret C hK hP hD hS (⟨(by have h9 := hSW; rw [List.take_of_length_le (by omega), hc9] at h9; exact h9), sm⟩) hc0 hs0 dX5_shareWithAll_60
      · by_cases heq : HS[i]? = some tF
        · have htQ := heq
          have hnt := nd_take hNd0 htQ
          obtain ⟨⟨⟨pG, aG⟩, ⟨x1G, x2G, x3G, x4G⟩, ⟨nuG, zG⟩, fsG, fnG, flG, fhG⟩, hdxG⟩ : ∃ z : DX, z = (shA dd tF c9 (HS.take i)) tF := ⟨_, rfl⟩
          have hD5G := (hDW.1 tF htlF).1
          have hP51G : 51 ≤ pG := by have h9 := (hDW.1 tF htlF).2; rw [← hdxG] at h9; exact h9
          rw [← hdxG] at hD5G
          have gpG : ws1[pG]? = some (aG, .inr (1, [.int (nI tF), .ref x1G, .ref x2G, .ref x3G, .ref x4G, .int (nI nuG), .int (nI zG)])) := hD5G.1
          have gpG_1 : ws1[pG + 1]? = some (x1G, .inl (cJ, 94, .inr (.inl fsG))) := hD5G.2.1
          have gpG_2 : ws1[pG + 2]? = some (x2G, .inl (cI, 800, .inl (fun jj => nI (fnG jj)))) := hD5G.2.2.1
          have gpG_3 : ws1[pG + 3]? = some (x3G, .inl (cI, 64, .inl (fun jj => nI (flG jj)))) := hD5G.2.2.2.1
          have gpG_4 : ws1[pG + 4]? = some (x4G, .inl (cI, 48, .inl (fun jj => nI (fhG jj)))) := hD5G.2.2.2.2
          have haG : aG = aF := by rw [← haF]; have h9 := congrArg (fun z : DX => z.1.2) hdxG; rw [shA_F] at h9; exact h9
          rw [haG] at gpG
          have hsF : fsG = (dd tF).2.2.2.1 := by have h9 := congrArg (fun z : DX => z.2.2.2.1) hdxG; rw [shA_F] at h9; exact h9
          have hfG : fhG = cuF (dd tF).2.2.2.2.2.2 c9 (HS.take i) := by have h9 := congrArg (fun z : DX => z.2.2.2.2.2.2) hdxG; rw [shA_F] at h9; exact h9
          have hq0 := True.intro
          refine lv_aload_n hx hb dX5_shareWithAll_13 rfl (lv_at hl 0 rfl) ?_
          refine va_get (D := D) (ci := 6) (v := .ref s1) (C := RX5) (T := TX5) (N := 4) hx hb hts hin_X5 hown hK hP 16 g16 rfl 0 (by decide) fl_12 (fun _ h9 => h9) rfl dX5_shareWithAll_14 ?_
          refine lv_iload_n hx hb dX5_shareWithAll_17 rfl (lv_at hl 2 rfl) ?_
          refine CQ.go (va_runV (As := [.int (nI i)]) (rest := []) ⟨hx, hb, hml, hown, hts⟩ (c_L_get (v := aF)  hLh (map_at htQ (by rw [← hdxG]; exact haG)) _) (cwV 1 hts gX5_shareWithAll_Jx4a65c_get_915e3 rfl rfl rfl (by decide +kernel) ⟨Nat.le_of_ble_eq_true rfl, Nat.le_of_ble_eq_true rfl⟩) ⟨pw_blind, LW.recv hK hP hLh, fun U hU hW => pw_pre hK hP hD hU hW⟩ rfl rfl hl.1 rfl (lv_room (Nat.le_of_ble_eq_true rfl)) dX5_shareWithAll_18 ⟨Nat.le_of_ble_eq_true rfl, Nat.le_of_ble_eq_true rfl⟩) hD hS hA (fun r_3 ws_4 H locs hp hP hD hS => ?_)
          obtain ⟨rfl, rfl⟩ := hp
          refine va_castS hx hb hown (hts (.classLink RX5 36 RX0) (by decide +kernel)) (hK.1 1 _ rfl).2 (va_recv hK hP (ci := 1) (q0 := pG) rfl gpG) dX5_shareWithAll_21 ?_
          refine lv_astore_n (lv' := [(3, .ref aF), (0, .ref s0), (1, .ref aF), (2, .int (nI i))]) hx hb dX5_shareWithAll_24 rfl hl (by decide) rfl (fun ls hl => ?_)
          refine lv_aload_n hx hb dX5_shareWithAll_25 rfl (lv_at hl 2 rfl) ?_
          refine lv_aload_n hx hb dX5_shareWithAll_26 rfl (lv_at hl 0 rfl) ?_
          refine CI.go (va_runV (As := [.ref aF]) (rest := []) ⟨hx, hb, hml, hown, hts⟩ (c_X0_countShared (px := pG) (py := pG) gpG gpG_1 gpG gpG_1 (by rw [hsF]; exact hM tF hFm) (by rw [hsF]; exact hM tF (List.mem_of_getElem? htQ)) _) (cwV 1 hts gX5_shareWithAll_X0_countShared rfl rfl rfl (by decide +kernel) ⟨Nat.le_of_ble_eq_true rfl, Nat.le_of_ble_eq_true rfl⟩) ⟨pw_blind, va_recv hK hP (ci := 1) (q0 := pG) rfl gpG, fun U hU hW => pw_pre hK hP hD hU hW⟩ rfl rfl hl.1 rfl (lv_room (Nat.le_of_ble_eq_true rfl)) dX5_shareWithAll_27 ⟨Nat.le_of_ble_eq_true rfl, Nat.le_of_ble_eq_true rfl⟩) hD hS hA (fun r_5 ws_6 H locs hp hP hD hS => ?_)
          obtain ⟨rfl, rfl⟩ := hp
          refine lv_istore (lv' := [(4, .int (nI (cntB (fun q => (Mf tF) q && (Mf tF) q) 6016))), (3, .ref aF), (0, .ref s0), (1, .ref aF), (2, .int (nI i))]) hx hb dX5_shareWithAll_30 hl (by decide) rfl (fun ls hl => ?_)
          refine lv_aload_n hx hb dX5_shareWithAll_32 rfl (lv_at hl 3 rfl) ?_
          refine va_get (D := D) (ci := 1) (v := .ref x4G) (C := RX0) (T := TX0) (N := 7) hx hb hts hin_X0 hown hK hP pG gpG rfl 4 (by decide) fl_59 (fun _ h9 => h9) rfl dX5_shareWithAll_33 ?_
          refine lv_aload_n hx hb dX5_shareWithAll_36 rfl (lv_at hl 1 rfl) ?_
          refine va_get (D := D) (ci := 1) (v := .int (nI tF)) (C := RX0) (T := TX0) (N := 7) hx hb hts hin_X0 hown hK hP pG gpG rfl 0 (by decide) fl_63 (fun _ h9 => h9) rfl dX5_shareWithAll_37 ?_
          refine lv_iload hx hb dX5_shareWithAll_40 (lv_at hl 0 rfl) ?_
          refine nx_iastN hx hb hK hP hD hS (pG + 4) 1 gpG_4 rfl (k := tF) (by omega) (by decide) dX5_shareWithAll_42 (fun ws_7 H locs gq up_8 hP hD hS => ?_)
          have gpG_4 : ws_7[pG + 4]? = some (x4G, .inl (cI, 48, .inl (fun jj => nI ((va_up fhG tF (cntB (fun q => (Mf tF) q && (Mf tF) q) 6016)) jj)))) := gq
          have g16 := up_8.get g16 (by omega)
          have gpG := up_8.get gpG (by omega)
          have gpG_1 := up_8.get gpG_1 (by omega)
          have gpG_2 := up_8.get gpG_2 (by omega)
          have gpG_3 := up_8.get gpG_3 (by omega)
          have sm := sm.up up_8 (by first | (simp; done) | ((try simp only); omega))
          have hc9q : cntB (fun q => Mf tF q && Mf tF q) 6016 = c9 tF := by rw [hc9]
          have gpG_4 : ws_7[pG + 4]? = some (x4G, .inl (cI, 48, .inl (fun jj => nI ((cuF (dd tF).2.2.2.2.2.2 c9 (HS.take i ++ [tF])) jj)))) := by rw [← cuF_s, ← hfG, ← hc9q]; exact gpG_4
          have h9x : dsh (dd tF) (cuF (dd tF).2.2.2.2.2.2 c9 (HS.take i ++ [tF])) = ((pG, aF), (x1G, x2G, x3G, x4G), (nuG, zG), fsG, fnG, flG, cuF (dd tF).2.2.2.2.2.2 c9 (HS.take i ++ [tF])) := by rw [← haG]; have h8 := congrArg (fun z : DX => dsh z (cuF (dd tF).2.2.2.2.2.2 c9 (HS.take i ++ [tF]))) (hdxG.trans (shA_F dd tF c9 _)); exact h8.symm
          have hD5n : D5 ws_7 cI cJ tF (dsh (dd tF) (cuF (dd tF).2.2.2.2.2.2 c9 (HS.take i ++ [tF]))) := by rw [h9x]; exact ⟨gpG, gpG_1, gpG_2, gpG_3, gpG_4⟩
          have hSWa := hSW.up1 htlF up_8 (by rw [← hdxG]; show pG ≤ pG + 4 ∧ pG + 4 < pG + 5; omega) hD5n (by rw [shA_F]; rfl)
          refine lv_aload_n hx hb dX5_shareWithAll_43 rfl (lv_at hl 1 rfl) ?_
          refine va_get (D := D) (ci := 1) (v := .ref x4G) (C := RX0) (T := TX0) (N := 7) hx hb hts hin_X0 hown hK hP pG gpG rfl 4 (by decide) fl_59 (fun _ h9 => h9) rfl dX5_shareWithAll_44 ?_
          refine lv_aload_n hx hb dX5_shareWithAll_47 rfl (lv_at hl 3 rfl) ?_
          refine va_get (D := D) (ci := 1) (v := .int (nI tF)) (C := RX0) (T := TX0) (N := 7) hx hb hts hin_X0 hown hK hP pG gpG rfl 0 (by decide) fl_63 (fun _ h9 => h9) rfl dX5_shareWithAll_48 ?_
          refine lv_iload hx hb dX5_shareWithAll_51 (lv_at hl 0 rfl) ?_
          refine nx_iastN hx hb hK hP hD hS (pG + 4) 1 gpG_4 rfl (k := tF) (by omega) (by decide) dX5_shareWithAll_53 (fun ws_9 H locs gq up_10 hP hD hS => ?_)
          have gpG_4 : ws_9[pG + 4]? = some (x4G, .inl (cI, 48, .inl (fun jj => nI ((va_up (cuF (dd tF).2.2.2.2.2.2 c9 (HS.take i ++ [tF])) tF (cntB (fun q => (Mf tF) q && (Mf tF) q) 6016)) jj)))) := gq
          have g16 := up_10.get g16 (by omega)
          have gpG := up_10.get gpG (by omega)
          have gpG_1 := up_10.get gpG_1 (by omega)
          have gpG_2 := up_10.get gpG_2 (by omega)
          have gpG_3 := up_10.get gpG_3 (by omega)
          have sm := sm.up up_10 (by first | (simp; done) | ((try simp only); omega))
          have gpG_4 : ws_9[pG + 4]? = some (x4G, .inl (cI, 48, .inl (fun jj => nI ((cuF (dd tF).2.2.2.2.2.2 c9 (HS.take i ++ [tF])) jj)))) := by have h9 := gpG_4; rw [hc9q, ← cuF_s, va_up2, cuF_s] at h9; exact h9
          have hD5n : D5 ws_9 cI cJ tF (dsh (dd tF) (cuF (dd tF).2.2.2.2.2.2 c9 (HS.take i ++ [tF]))) := by rw [h9x]; exact ⟨gpG, gpG_1, gpG_2, gpG_3, gpG_4⟩
          have hdu : dup (dup (shA dd tF c9 (HS.take i)) tF (dsh (dd tF) (cuF (dd tF).2.2.2.2.2.2 c9 (HS.take i ++ [tF])))) tF (dsh (dd tF) (cuF (dd tF).2.2.2.2.2.2 c9 (HS.take i ++ [tF]))) = shA dd tF c9 (HS.take i ++ [tF]) := by rw [dup_dup]; exact shA_f
          have hSW : ShW ws_9 cI cJ cO ad s0 s1 s2 s3 ca eh es er nd (shA dd tF c9 (HS.take (i + 1))) HS SS RS := by rw [take_s htQ, ← hdu]; exact hSWa.up1 htlF up_10 (by rw [dup_self]; show (dd tF).1.1 ≤ pG + 4 ∧ pG + 4 < (dd tF).1.1 + 5; have h9 := congrArg (fun z : DX => z.1.1) (hdxG.trans (shA_F dd tF c9 _)); have h8 : pG = (dd tF).1.1 := h9; omega) hD5n (by rw [dup_self])
          refine lv_iinc (v := (nI (i + 1))) (lv' := [(2, .int (nI (i + 1))), (4, .int (nI (cntB (fun q => (Mf tF) q && (Mf tF) q) 6016))), (3, .ref aF), (0, .ref s0), (1, .ref aF)]) hx hb dX5_shareWithAll_54 hl (k := 4) rfl (nx_inc _ 1) (by decide) rfl (fun ls hl => ?_)
          refine lv_goto (tgt := 2) hx hb dX5_shareWithAll_57 (by decide) ?_
          exact ih_2 (i + 1) (by omega) (by omega) _ _ _ _ sm  hSW hP hD hS (lv_sub hl [3, 4, 0] rfl)
        · obtain ⟨tQ, htQ⟩ : ∃ t, HS[i]? = some t := ⟨_, List.getElem?_eq_getElem (by omega)⟩
          have htlQ : tQ < nd := hHS tQ (List.mem_of_getElem? htQ)
          have hnt := nd_take hNd0 htQ
          have hne : tQ ≠ tF := fun e9 => heq (by rw [← e9]; exact htQ)
          have hoQ : (shA dd tF c9 (HS.take i)) tQ = dd tQ := shA_o hne hnt
          have hblk := hDW.2 tQ tF htlQ htlF hne
          obtain ⟨⟨⟨pG, aG⟩, ⟨x1G, x2G, x3G, x4G⟩, ⟨nuG, zG⟩, fsG, fnG, flG, fhG⟩, hdxG⟩ : ∃ z : DX, z = (shA dd tF c9 (HS.take i)) tF := ⟨_, rfl⟩
          have hD5G := (hDW.1 tF htlF).1
          have hP51G : 51 ≤ pG := by have h9 := (hDW.1 tF htlF).2; rw [← hdxG] at h9; exact h9
          rw [← hdxG] at hD5G
          have gpG : ws1[pG]? = some (aG, .inr (1, [.int (nI tF), .ref x1G, .ref x2G, .ref x3G, .ref x4G, .int (nI nuG), .int (nI zG)])) := hD5G.1
          have gpG_1 : ws1[pG + 1]? = some (x1G, .inl (cJ, 94, .inr (.inl fsG))) := hD5G.2.1
          have gpG_2 : ws1[pG + 2]? = some (x2G, .inl (cI, 800, .inl (fun jj => nI (fnG jj)))) := hD5G.2.2.1
          have gpG_3 : ws1[pG + 3]? = some (x3G, .inl (cI, 64, .inl (fun jj => nI (flG jj)))) := hD5G.2.2.2.1
          have gpG_4 : ws1[pG + 4]? = some (x4G, .inl (cI, 48, .inl (fun jj => nI (fhG jj)))) := hD5G.2.2.2.2
          have haG : aG = aF := by rw [← haF]; have h9 := congrArg (fun z : DX => z.1.2) hdxG; rw [shA_F] at h9; exact h9
          rw [haG] at gpG
          have hsF : fsG = (dd tF).2.2.2.1 := by have h9 := congrArg (fun z : DX => z.2.2.2.1) hdxG; rw [shA_F] at h9; exact h9
          have hfG : fhG = cuF (dd tF).2.2.2.2.2.2 c9 (HS.take i) := by have h9 := congrArg (fun z : DX => z.2.2.2.2.2.2) hdxG; rw [shA_F] at h9; exact h9
          obtain ⟨⟨⟨pQ, aQ⟩, ⟨x1Q, x2Q, x3Q, x4Q⟩, ⟨nuQ, zQ⟩, fsQ, fnQ, flQ, fhQ⟩, hdxQ⟩ : ∃ z : DX, z = (shA dd tF c9 (HS.take i)) tQ := ⟨_, rfl⟩
          have hD5Q := (hDW.1 tQ htlQ).1
          have hP51Q : 51 ≤ pQ := by have h9 := (hDW.1 tQ htlQ).2; rw [← hdxQ] at h9; exact h9
          rw [← hdxQ] at hD5Q
          have gpQ : ws1[pQ]? = some (aQ, .inr (1, [.int (nI tQ), .ref x1Q, .ref x2Q, .ref x3Q, .ref x4Q, .int (nI nuQ), .int (nI zQ)])) := hD5Q.1
          have gpQ_1 : ws1[pQ + 1]? = some (x1Q, .inl (cJ, 94, .inr (.inl fsQ))) := hD5Q.2.1
          have gpQ_2 : ws1[pQ + 2]? = some (x2Q, .inl (cI, 800, .inl (fun jj => nI (fnQ jj)))) := hD5Q.2.2.1
          have gpQ_3 : ws1[pQ + 3]? = some (x3Q, .inl (cI, 64, .inl (fun jj => nI (flQ jj)))) := hD5Q.2.2.2.1
          have gpQ_4 : ws1[pQ + 4]? = some (x4Q, .inl (cI, 48, .inl (fun jj => nI (fhQ jj)))) := hD5Q.2.2.2.2
          rw [← hdxQ, ← hdxG] at hblk
          have hblk2 : pQ + 5 ≤ pG ∨ pG + 5 ≤ pQ := hblk
          have hsQ : fsQ = (dd tQ).2.2.2.1 := by have h9 := congrArg (fun z : DX => z.2.2.2.1) hdxQ; rw [hoQ] at h9; exact h9
          have hfQ : fhQ = (dd tQ).2.2.2.2.2.2 := by have h9 := congrArg (fun z : DX => z.2.2.2.2.2.2) hdxQ; rw [hoQ] at h9; exact h9
          have haQ : aQ = (dd tQ).1.2 := by have h9 := congrArg (fun z : DX => z.1.2) hdxQ; rw [hoQ] at h9; exact h9
          have hq0 := True.intro
          refine lv_aload_n hx hb dX5_shareWithAll_13 rfl (lv_at hl 0 rfl) ?_
          refine va_get (D := D) (ci := 6) (v := .ref s1) (C := RX5) (T := TX5) (N := 4) hx hb hts hin_X5 hown hK hP 16 g16 rfl 0 (by decide) fl_12 (fun _ h9 => h9) rfl dX5_shareWithAll_14 ?_
          refine lv_iload_n hx hb dX5_shareWithAll_17 rfl (lv_at hl 2 rfl) ?_
          refine CQ.go (va_runV (As := [.int (nI i)]) (rest := []) ⟨hx, hb, hml, hown, hts⟩ (c_L_get (v := aQ)  hLh (map_at htQ (by rw [← hdxQ])) _) (cwV 1 hts gX5_shareWithAll_Jx4a65c_get_915e3 rfl rfl rfl (by decide +kernel) ⟨Nat.le_of_ble_eq_true rfl, Nat.le_of_ble_eq_true rfl⟩) ⟨pw_blind, LW.recv hK hP hLh, fun U hU hW => pw_pre hK hP hD hU hW⟩ rfl rfl hl.1 rfl (lv_room (Nat.le_of_ble_eq_true rfl)) dX5_shareWithAll_18 ⟨Nat.le_of_ble_eq_true rfl, Nat.le_of_ble_eq_true rfl⟩) hD hS hA (fun r_11 ws_12 H locs hp hP hD hS => ?_)
          obtain ⟨rfl, rfl⟩ := hp
          refine va_castS hx hb hown (hts (.classLink RX5 36 RX0) (by decide +kernel)) (hK.1 1 _ rfl).2 (va_recv hK hP (ci := 1) (q0 := pQ) rfl gpQ) dX5_shareWithAll_21 ?_
          refine lv_astore_n (lv' := [(3, .ref aQ), (0, .ref s0), (1, .ref aF), (2, .int (nI i))]) hx hb dX5_shareWithAll_24 rfl hl (by decide) rfl (fun ls hl => ?_)
          refine lv_aload_n hx hb dX5_shareWithAll_25 rfl (lv_at hl 2 rfl) ?_
          refine lv_aload_n hx hb dX5_shareWithAll_26 rfl (lv_at hl 0 rfl) ?_
          refine CI.go (va_runV (As := [.ref aQ]) (rest := []) ⟨hx, hb, hml, hown, hts⟩ (c_X0_countShared (px := pG) (py := pQ) gpG gpG_1 gpQ gpQ_1 (by rw [hsF]; exact hM tF hFm) (by rw [hsQ]; exact hM tQ (List.mem_of_getElem? htQ)) _) (cwV 1 hts gX5_shareWithAll_X0_countShared rfl rfl rfl (by decide +kernel) ⟨Nat.le_of_ble_eq_true rfl, Nat.le_of_ble_eq_true rfl⟩) ⟨pw_blind, va_recv hK hP (ci := 1) (q0 := pG) rfl gpG, fun U hU hW => pw_pre hK hP hD hU hW⟩ rfl rfl hl.1 rfl (lv_room (Nat.le_of_ble_eq_true rfl)) dX5_shareWithAll_27 ⟨Nat.le_of_ble_eq_true rfl, Nat.le_of_ble_eq_true rfl⟩) hD hS hA (fun r_13 ws_14 H locs hp hP hD hS => ?_)
          obtain ⟨rfl, rfl⟩ := hp
          refine lv_istore (lv' := [(4, .int (nI (cntB (fun q => (Mf tF) q && (Mf tQ) q) 6016))), (3, .ref aQ), (0, .ref s0), (1, .ref aF), (2, .int (nI i))]) hx hb dX5_shareWithAll_30 hl (by decide) rfl (fun ls hl => ?_)
          refine lv_aload_n hx hb dX5_shareWithAll_32 rfl (lv_at hl 3 rfl) ?_
          refine va_get (D := D) (ci := 1) (v := .ref x4G) (C := RX0) (T := TX0) (N := 7) hx hb hts hin_X0 hown hK hP pG gpG rfl 4 (by decide) fl_59 (fun _ h9 => h9) rfl dX5_shareWithAll_33 ?_
          refine lv_aload_n hx hb dX5_shareWithAll_36 rfl (lv_at hl 1 rfl) ?_
          refine va_get (D := D) (ci := 1) (v := .int (nI tQ)) (C := RX0) (T := TX0) (N := 7) hx hb hts hin_X0 hown hK hP pQ gpQ rfl 0 (by decide) fl_63 (fun _ h9 => h9) rfl dX5_shareWithAll_37 ?_
          refine lv_iload hx hb dX5_shareWithAll_40 (lv_at hl 0 rfl) ?_
          refine nx_iastN hx hb hK hP hD hS (pG + 4) 1 gpG_4 rfl (k := tQ) (by omega) (by decide) dX5_shareWithAll_42 (fun ws_15 H locs gq up_16 hP hD hS => ?_)
          have gpG_4 : ws_15[pG + 4]? = some (x4G, .inl (cI, 48, .inl (fun jj => nI ((va_up fhG tQ (cntB (fun q => (Mf tF) q && (Mf tQ) q) 6016)) jj)))) := gq
          have g16 := up_16.get g16 (by omega)
          have gpG := up_16.get gpG (by omega)
          have gpG_1 := up_16.get gpG_1 (by omega)
          have gpG_2 := up_16.get gpG_2 (by omega)
          have gpG_3 := up_16.get gpG_3 (by omega)
          have gpQ := up_16.get gpQ (by omega)
          have gpQ_1 := up_16.get gpQ_1 (by omega)
          have gpQ_2 := up_16.get gpQ_2 (by omega)
          have gpQ_3 := up_16.get gpQ_3 (by omega)
          have gpQ_4 := up_16.get gpQ_4 (by omega)
          have sm := sm.up up_16 (by first | (simp; done) | ((try simp only); omega))
          have hc9q : cntB (fun q => Mf tF q && Mf tQ q) 6016 = c9 tQ := by rw [hc9]
          have gpG_4 : ws_15[pG + 4]? = some (x4G, .inl (cI, 48, .inl (fun jj => nI ((cuF (dd tF).2.2.2.2.2.2 c9 (HS.take i ++ [tQ])) jj)))) := by rw [← cuF_s, ← hfG, ← hc9q]; exact gpG_4
          have h9x : dsh (dd tF) (cuF (dd tF).2.2.2.2.2.2 c9 (HS.take i ++ [tQ])) = ((pG, aF), (x1G, x2G, x3G, x4G), (nuG, zG), fsG, fnG, flG, cuF (dd tF).2.2.2.2.2.2 c9 (HS.take i ++ [tQ])) := by rw [← haG]; have h8 := congrArg (fun z : DX => dsh z (cuF (dd tF).2.2.2.2.2.2 c9 (HS.take i ++ [tQ]))) (hdxG.trans (shA_F dd tF c9 _)); exact h8.symm
          have hD5n : D5 ws_15 cI cJ tF (dsh (dd tF) (cuF (dd tF).2.2.2.2.2.2 c9 (HS.take i ++ [tQ]))) := by rw [h9x]; exact ⟨gpG, gpG_1, gpG_2, gpG_3, gpG_4⟩
          have hSWa := hSW.up1 htlF up_16 (by rw [← hdxG]; show pG ≤ pG + 4 ∧ pG + 4 < pG + 5; omega) hD5n (by rw [shA_F]; rfl)
          refine lv_aload_n hx hb dX5_shareWithAll_43 rfl (lv_at hl 1 rfl) ?_
          refine va_get (D := D) (ci := 1) (v := .ref x4Q) (C := RX0) (T := TX0) (N := 7) hx hb hts hin_X0 hown hK hP pQ gpQ rfl 4 (by decide) fl_59 (fun _ h9 => h9) rfl dX5_shareWithAll_44 ?_
          refine lv_aload_n hx hb dX5_shareWithAll_47 rfl (lv_at hl 3 rfl) ?_
          refine va_get (D := D) (ci := 1) (v := .int (nI tF)) (C := RX0) (T := TX0) (N := 7) hx hb hts hin_X0 hown hK hP pG gpG rfl 0 (by decide) fl_63 (fun _ h9 => h9) rfl dX5_shareWithAll_48 ?_
          refine lv_iload hx hb dX5_shareWithAll_51 (lv_at hl 0 rfl) ?_
          refine nx_iastN hx hb hK hP hD hS (pQ + 4) 1 gpQ_4 rfl (k := tF) (by omega) (by decide) dX5_shareWithAll_53 (fun ws_17 H locs gq up_18 hP hD hS => ?_)
          have gpQ_4 : ws_17[pQ + 4]? = some (x4Q, .inl (cI, 48, .inl (fun jj => nI ((va_up fhQ tF (cntB (fun q => (Mf tF) q && (Mf tQ) q) 6016)) jj)))) := gq
          have g16 := up_18.get g16 (by omega)
          have gpG := up_18.get gpG (by omega)
          have gpG_1 := up_18.get gpG_1 (by omega)
          have gpG_2 := up_18.get gpG_2 (by omega)
          have gpG_3 := up_18.get gpG_3 (by omega)
          have gpG_4 := up_18.get gpG_4 (by omega)
          have gpQ := up_18.get gpQ (by omega)
          have gpQ_1 := up_18.get gpQ_1 (by omega)
          have gpQ_2 := up_18.get gpQ_2 (by omega)
          have gpQ_3 := up_18.get gpQ_3 (by omega)
          have sm := sm.up up_18 (by first | (simp; done) | ((try simp only); omega))
          have gpQ_4 : ws_17[pQ + 4]? = some (x4Q, .inl (cI, 48, .inl (fun jj => nI ((va_up (dd tQ).2.2.2.2.2.2 tF (c9 tQ)) jj)))) := by rw [← hfQ, ← hc9q]; exact gpQ_4
          have hD5m : D5 ws_17 cI cJ tQ (dsh (dd tQ) (va_up (dd tQ).2.2.2.2.2.2 tF (c9 tQ))) := by rw [← hoQ, ← hdxQ]; rw [← hfQ] at gpQ_4; exact ⟨gpQ, gpQ_1, gpQ_2, gpQ_3, gpQ_4⟩
          have hoQ2 : dup (shA dd tF c9 (HS.take i)) tF (dsh (dd tF) (cuF (dd tF).2.2.2.2.2.2 c9 (HS.take i ++ [tQ]))) tQ = dd tQ := by rw [dup_ne _ _ hne, hoQ]
          have hSW : ShW ws_17 cI cJ cO ad s0 s1 s2 s3 ca eh es er nd (shA dd tF c9 (HS.take (i + 1))) HS SS RS := by rw [take_s htQ, ← shA_s hne]; exact hSWa.up1 htlQ up_18 (by rw [hoQ2, ← hoQ, ← hdxQ]; show pQ ≤ pQ + 4 ∧ pQ + 4 < pQ + 5; omega) hD5m (by rw [hoQ2]; rfl)
          refine lv_iinc (v := (nI (i + 1))) (lv' := [(2, .int (nI (i + 1))), (4, .int (nI (cntB (fun q => (Mf tF) q && (Mf tQ) q) 6016))), (3, .ref aQ), (0, .ref s0), (1, .ref aF)]) hx hb dX5_shareWithAll_54 hl (k := 4) rfl (nx_inc _ 1) (by decide) rfl (fun ls hl => ?_)
          refine lv_goto (tgt := 2) hx hb dX5_shareWithAll_57 (by decide) ?_
          exact ih_2 (i + 1) (by omega) (by omega) _ _ _ _ sm  hSW hP hD hS (lv_sub hl [3, 4, 0] rfl)
  exact lp_2 _ 0 (Nat.lt_succ_self _) (Nat.zero_le _) _ _ _ _ sm  (by rw [List.take_zero, shA_nil]; exact hSW) hP hD hS (lv_sub hl [1, 2, 0] rfl)
