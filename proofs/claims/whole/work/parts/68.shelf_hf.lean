set_option maxHeartbeats 4000000 in
set_option maxRecDepth 100000 in
theorem c_X5_takeNext {D : va_G} {cB cI cJ cO : ClassId} {l : Launch} {ad mi : Nat} {s0 s1 s2 s3 ca eh es er nd : Nat} {dd : Nat → DX} {HS SS RS : List Nat} {ws : va_W}  (hSW : ShW ws cI cJ cO ad s0 s1 s2 s3 ca eh es er nd dd HS SS RS) (hnd : nd ≤ 48) (h47 : HS.length < 48) : CQX D (TY cB cI cJ cO) l yX5_takeNext wsX5_takeNext ({ frames := 7, cells := 6, slots := 1062, locals := 171 }) ad mi [.ref s0] ws (fun r ws' => ∃ t2 : Nat, ∃ dd2 : Nat → DX, ∃ nd2 : Nat, ∃ SS2 : List Nat, ∃ eh2 : Nat, r = some ((dd2 t2).1.2) ∧ (ShW ws' cI cJ cO ad s0 s1 s2 s3 (ca + 1) eh2 es er nd2 dd2 (HS ++ [t2]) SS2 RS) ∧ ((dd2 t2).2.2.1.1 = ca) ∧ (∀ u ∈ HS, dd2 u = dd u) ∧ (t2 ∉ HS) ∧ (nd2 ≤ 48) ∧ Sm (fun k => k = 16 ∨ k = 17 ∨ k = 18 ∨ 51 ≤ k) ws ws') := by
  refine CQX.of (cc := cX5_takeNext) (maxL := 2) (ret := (some (.object "TwinFinder$Document"))) (by decide) rfl (Nat.le_of_ble_eq_true rfl) ?_
  intro p e s m below meth c A C hK hP hD hA hS hX ls hl
  have hN := hX.1
  obtain ⟨hx, hb, hr, hml, hts, hown, hlocks, hnm⟩ := id C
  have fl_12 := hts (.fieldLink RX5 12 "TwinFinder$Shelf" "here" "Ljava/util/ArrayList;") (by decide +kernel)
  have fl_18 := hts (.fieldLink RX5 18 "TwinFinder$Shelf" "spare" "Ljava/util/ArrayList;") (by decide +kernel)
  have fl_28 := hts (.fieldLink RX5 28 "TwinFinder$Shelf" "came" "I") (by decide +kernel)
  have fl_38 := hts (.fieldLink RX5 38 "TwinFinder$Document" "number" "I") (by decide +kernel)
  have hin_X0 : ∀ w ∈ u_ws RX0 TX0 7, w ∈ wsX5_takeNext := by decide +kernel
  have hin_X5 : ∀ w ∈ u_ws RX5 TX5 4, w ∈ wsX5_takeNext := by decide +kernel
  have hl : lv_has ls 2 [(0, .ref s0)] := hl
  have sm : Sm (fun k => k = 16 ∨ k = 17 ∨ k = 18 ∨ 51 ≤ k) ws ws := Sm.rf
  have hc0 : (0 : Nat) ≤ 6 := by decide
  have hs0 : (0 : Nat) ≤ 1062 := by decide
  obtain ⟨g16, hLh, hLs, hLr, hDW, hEd, hNd, hAll, hndl, hRS, h51⟩ := id hSW
  have hHS : ∀ t ∈ HS, t < nd := fun t h9 => hAll t (List.mem_append_left _ h9)
  have hSS : ∀ t ∈ SS, t < nd := fun t h9 => hAll t (List.mem_append_right _ h9)
  have hf0 := fresh_ad hX hD
  have hDW0 := hDW
  refine lv_aload_n hx hb dX5_takeNext_0 rfl (lv_at hl 0 rfl) ?_
  refine va_get (D := D) (ci := 6) (v := .ref s2) (C := RX5) (T := TX5) (N := 4) hx hb hts hin_X5 hown hK hP 16 g16 rfl 1 (by decide) fl_18 (fun _ h9 => h9) rfl dX5_takeNext_1 ?_
  refine CI.go (va_runV (As := []) (rest := []) ⟨hx, hb, hml, hown, hts⟩ (c_L_isEmpty   hLs _) (cwV 0 hts gX5_takeNext_Jx4a65c_isEmpty_aae02 rfl rfl rfl (by decide +kernel) ⟨Nat.le_of_ble_eq_true rfl, Nat.le_of_ble_eq_true rfl⟩) ⟨pw_blind, LW.recv hK hP hLs, fun U hU hW => pw_pre hK hP hD hU hW⟩ rfl rfl hl.1 rfl (lv_room (Nat.le_of_ble_eq_true rfl)) dX5_takeNext_4 ⟨Nat.le_of_ble_eq_true rfl, Nat.le_of_ble_eq_true rfl⟩) hD hS hA (fun r_1 ws_2 H locs hp hP hD hS => ?_)
  obtain ⟨rfl, rfl⟩ := hp
  rw [List.length_map]
  refine nx_if_eq (tgt := 27) hx hb (by exact bn2 _) dX5_takeNext_7 (by decide) (fun c_7 => ?_) (fun c_7 => ?_)
  · have hS0 : 0 < SS.length := by have h9 := of_decide_eq_false (bool0 c_7); omega
    obtain ⟨tQ, htQ⟩ : ∃ t, SS[SS.length - 1]? = some t := ⟨_, List.getElem?_eq_getElem (by omega)⟩
    have htlQ : tQ < nd := hSS tQ (List.mem_of_getElem? htQ)
    obtain ⟨⟨⟨pQ, aQ⟩, ⟨x1Q, x2Q, x3Q, x4Q⟩, ⟨nuQ, zQ⟩, fsQ, fnQ, flQ, fhQ⟩, hdxQ⟩ : ∃ z : DX, z = dd tQ := ⟨_, rfl⟩
    have hD5Q := (hDW.1 tQ htlQ).1
    have hP51Q : 51 ≤ pQ := by have h9 := (hDW.1 tQ htlQ).2; rw [← hdxQ] at h9; exact h9
    rw [← hdxQ] at hD5Q
    have gpQ : ws[pQ]? = some (aQ, .inr (1, [.int (nI tQ), .ref x1Q, .ref x2Q, .ref x3Q, .ref x4Q, .int (nI nuQ), .int (nI zQ)])) := hD5Q.1
    have gpQ_1 : ws[pQ + 1]? = some (x1Q, .inl (cJ, 94, .inr (.inl fsQ))) := hD5Q.2.1
    have gpQ_2 : ws[pQ + 2]? = some (x2Q, .inl (cI, 800, .inl (fun jj => nI (fnQ jj)))) := hD5Q.2.2.1
    have gpQ_3 : ws[pQ + 3]? = some (x3Q, .inl (cI, 64, .inl (fun jj => nI (flQ jj)))) := hD5Q.2.2.2.1
    have gpQ_4 : ws[pQ + 4]? = some (x4Q, .inl (cI, 48, .inl (fun jj => nI (fhQ jj)))) := hD5Q.2.2.2.2
    have hSe := er_last htQ
    have hpm : (HS ++ [tQ] ++ SS.eraseIdx (SS.length - 1)).Perm (HS ++ SS) := by rw [List.append_assoc]; refine List.Perm.append_left _ (List.Perm.trans List.perm_append_comm (List.Perm.of_eq hSe.symm))
    have hl1 := hpm.nodup_iff.mpr hNd
    have hl2 : ∀ u ∈ HS ++ [tQ] ++ SS.eraseIdx (SS.length - 1), u < nd := fun u hu => hAll u (hpm.mem_iff.mp hu)
    have hl3 : nd = (HS ++ [tQ]).length + (SS.eraseIdx (SS.length - 1)).length := by rw [hndl, ← List.length_append, ← hpm.length_eq, List.length_append]
    have htnH : tQ ∉ HS := fun h9 => (List.nodup_append.mp hNd).2.2 tQ h9 tQ (List.mem_of_getElem? htQ) rfl
    refine lv_aload_n hx hb dX5_takeNext_27 rfl (lv_at hl 0 rfl) ?_
    refine va_get (D := D) (ci := 6) (v := .ref s2) (C := RX5) (T := TX5) (N := 4) hx hb hts hin_X5 hown hK hP 16 g16 rfl 1 (by decide) fl_18 (fun _ h9 => h9) rfl dX5_takeNext_28 ?_
    refine lv_aload_n hx hb dX5_takeNext_31 rfl (lv_at hl 0 rfl) ?_
    refine va_get (D := D) (ci := 6) (v := .ref s2) (C := RX5) (T := TX5) (N := 4) hx hb hts hin_X5 hown hK hP 16 g16 rfl 1 (by decide) fl_18 (fun _ h9 => h9) rfl dX5_takeNext_32 ?_
    refine CI.go (va_runV (As := []) (rest := [.ref s2]) ⟨hx, hb, hml, hown, hts⟩ (c_L_size   hLs _) (cwV 0 hts gX5_takeNext_Jx4a65c_size_8abf5 rfl rfl rfl (by decide +kernel) ⟨Nat.le_of_ble_eq_true rfl, Nat.le_of_ble_eq_true rfl⟩) ⟨pw_blind, LW.recv hK hP hLs, fun U hU hW => pw_pre hK hP hD hU hW⟩ rfl rfl hl.1 rfl (lv_room (Nat.le_of_ble_eq_true rfl)) dX5_takeNext_35 ⟨Nat.le_of_ble_eq_true rfl, Nat.le_of_ble_eq_true rfl⟩) hD hS hA (fun r_3 ws_4 H locs hp hP hD hS => ?_)
    obtain ⟨rfl, rfl⟩ := hp
    rw [List.length_map]
    refine lv_iconst (v := nI 1) hx hb dX5_takeNext_38 (by decide) ?_
    refine nx_isub hx hb (by omega) dX5_takeNext_39 ?_
    refine CQ.go (va_runV (As := [.int (nI (SS.length - 1))]) (rest := []) ⟨hx, hb, hml, hown, hts⟩ (c_L_remove (v := aQ)  hLs (map_at htQ (by rw [← hdxQ])) (hDW.din hSS) _) (cwV 1 hts gX5_takeNext_Jx4a65c_remove_915e3 rfl rfl rfl (by decide +kernel) ⟨Nat.le_of_ble_eq_true rfl, Nat.le_of_ble_eq_true rfl⟩) ⟨pwx_blind, LW.recv hK hP hLs, fun U hU hW => pwx_pre hX hA hS hK hP hD hU hW⟩ rfl rfl hl.1 rfl (lv_room (Nat.le_of_ble_eq_true rfl)) dX5_takeNext_40 ⟨Nat.le_of_ble_eq_true rfl, Nat.le_of_ble_eq_true rfl⟩) hD hS hA (fun r_5 ws_6 H locs hp hP hD hS => ?_)
    obtain ⟨rfl, hLs2, hel9, smR⟩ := hp
    have g16 := smR.get g16 (nq g16 (by omega) (fun n9 f9 => by simp))
    have gpQ := smR.get gpQ (nq gpQ (by omega) (fun n9 f9 => by simp))
    have gpQ_1 := smR.get gpQ_1 (nq gpQ_1 (by omega) (fun n9 f9 => by simp))
    have gpQ_2 := smR.get gpQ_2 (nq gpQ_2 (by omega) (fun n9 f9 => by simp))
    have gpQ_3 := smR.get gpQ_3 (nq gpQ_3 (by omega) (fun n9 f9 => by simp))
    have gpQ_4 := smR.get gpQ_4 (nq gpQ_4 (by omega) (fun n9 f9 => by simp))
    have sm := sm.call smR (fun k hk => hk.elim (fun h9 => by (try simp only); omega) (fun h9 => by have h8 := h9.1; (try simp only); omega))
    have hLh := hLh.frame smR (by decide) (by decide) (hLh.he hf0 hEd.1) (by decide)
    have hLr := hLr.frame smR (by decide) (by decide) (hLr.he hf0 (fun e9 => e9.trans (hEd.2.2 e9.symm))) (by decide)
    have hDW := hDW.frame smR (by decide)
    have hf0 := fresh_ad hX hD
    have hLs : LW ws_6 cO ad 18 s2 es ((SS.eraseIdx (SS.length - 1)).map (fun t => (dd t).1.2)) := by rw [← map_er]; exact hLs2
    refine va_castS hx hb hown (hts (.classLink RX5 36 RX0) (by decide +kernel)) (hK.1 1 _ rfl).2 (va_recv hK hP (ci := 1) (q0 := pQ) rfl gpQ) dX5_takeNext_43 ?_
    refine lv_astore_n (lv' := [(1, .ref aQ), (0, .ref s0)]) hx hb dX5_takeNext_46 rfl hl (by decide) rfl (fun ls hl => ?_)
    refine lv_aload_n hx hb dX5_takeNext_47 rfl (lv_at hl 0 rfl) ?_
    refine lv_aload_n hx hb dX5_takeNext_48 rfl (lv_at hl 1 rfl) ?_
    refine va_get (D := D) (ci := 6) (v := .int (nI ca)) (C := RX5) (T := TX5) (N := 4) hx hb hts hin_X5 hown hK hP 16 g16 rfl 3 (by decide) fl_28 (fun _ h9 => h9) rfl dX5_takeNext_49 ?_
    refine nx_put (D := D) (ci := 1) (v := .int (nI ca)) (ty := .int) (C := RX0) (T := TX0) (N := 7) hx hb hts hin_X0 tyX0 tyX0_ok nmX0 hown hK hP hD hS pQ gpQ rfl 5 (by decide) fl_38 (fun _ h9 => h9) rfl (by decide +kernel) rfl rfl (Nat.le_of_ble_eq_true rfl) dX5_takeNext_52 (fun ws_7 H locs gq up_8 hP hD hS => ?_)
    have go_pQ := gpQ
    have gpQ : ws_7[pQ]? = some (aQ, .inr (1, [.int (nI tQ), .ref x1Q, .ref x2Q, .ref x3Q, .ref x4Q, .int (nI ca), .int (nI zQ)])) := gq
    have g16 := up_8.get g16 (by omega)
    have gpQ_1 := up_8.get gpQ_1 (by omega)
    have gpQ_2 := up_8.get gpQ_2 (by omega)
    have gpQ_3 := up_8.get gpQ_3 (by omega)
    have gpQ_4 := up_8.get gpQ_4 (by omega)
    have hLh := hLh.up up_8 (fun y9 z9 h9 => by rw [go_pQ] at h9; cases h9; trivial)
    have hLs := hLs.up up_8 (fun y9 z9 h9 => by rw [go_pQ] at h9; cases h9; trivial)
    have hLr := hLr.up up_8 (fun y9 z9 h9 => by rw [go_pQ] at h9; cases h9; trivial)
    have sm := sm.up up_8 (by first | (simp; done) | ((try simp only); omega))
    have hdt9 := hdxQ.symm
    have hDW : DW ws_7 cI cJ nd (dup dd tQ (dnm (dd tQ) ca)) := hDW.up1 (by omega) up_8 (by rw [hdt9]; show pQ ≤ pQ ∧ pQ < pQ + 5; omega) (by rw [hdt9]; exact ⟨gpQ, gpQ_1, gpQ_2, gpQ_3, gpQ_4⟩) rfl
    refine lv_aload_n hx hb dX5_takeNext_55 rfl (lv_at hl 1 rfl) ?_
    refine lv_dup hx hb dX5_takeNext_56 rfl ?_
    refine va_get (D := D) (ci := 6) (v := .int (nI ca)) (C := RX5) (T := TX5) (N := 4) hx hb hts hin_X5 hown hK hP 16 g16 rfl 3 (by decide) fl_28 (fun _ h9 => h9) rfl dX5_takeNext_57 ?_
    refine lv_iconst (v := nI 1) hx hb dX5_takeNext_60 (by decide) ?_
    refine nx_iadd hx hb dX5_takeNext_61 ?_
    refine nx_put (D := D) (ci := 6) (v := .int (nI (ca + 1))) (ty := .int) (C := RX5) (T := TX5) (N := 4) hx hb hts hin_X5 tyX5 tyX5_ok nmX5 hown hK hP hD hS 16 g16 rfl 3 (by decide) fl_28 (fun _ h9 => h9) rfl (by decide +kernel) rfl rfl (Nat.le_of_ble_eq_true rfl) dX5_takeNext_62 (fun ws_9 H locs gq up_10 hP hD hS => ?_)
    have go_16 := g16
    have g16 : ws_9[16]? = some (s0, .inr (6, [.ref s1, .ref s2, .ref s3, .int (nI (ca + 1))])) := gq
    have gpQ := up_10.get gpQ (by omega)
    have gpQ_1 := up_10.get gpQ_1 (by omega)
    have gpQ_2 := up_10.get gpQ_2 (by omega)
    have gpQ_3 := up_10.get gpQ_3 (by omega)
    have gpQ_4 := up_10.get gpQ_4 (by omega)
    have hLh := hLh.up up_10 (fun y9 z9 h9 => by rw [go_16] at h9; cases h9; trivial)
    have hLs := hLs.up up_10 (fun y9 z9 h9 => by rw [go_16] at h9; cases h9; trivial)
    have hLr := hLr.up up_10 (fun y9 z9 h9 => by rw [go_16] at h9; cases h9; trivial)
    have hDW := hDW.up0 up_10 (by decide)
    have sm := sm.up up_10 (by first | (simp; done) | ((try simp only); omega))
    have hf0 := fresh_ad hX hD
    have hdin : DIn ws_9 (HS.map (fun t => (dd t).1.2)) := by have h9 := hDW.din (HS := HS) (fun u hu => by have := hHS u hu; omega); rw [map_cg (dd := dd) (fun u hu => by rw [dup_ne _ _ (fun e9 => htnH (by rw [← e9]; exact hu))])] at h9; exact h9
    refine lv_aload_n hx hb dX5_takeNext_65 rfl (lv_at hl 1 rfl) ?_
    refine va_get (D := D) (ci := 6) (v := .ref s1) (C := RX5) (T := TX5) (N := 4) hx hb hts hin_X5 hown hK hP 16 g16 rfl 0 (by decide) fl_12 (fun _ h9 => h9) rfl dX5_takeNext_66 ?_
    refine lv_aload_n hx hb dX5_takeNext_69 rfl (lv_at hl 0 rfl) ?_
    refine CI.go (va_runV (As := [.ref aQ]) (rest := []) ⟨hx, hb, hml, hown, hts⟩ (c_L_add   hLh gpQ (by rw [List.length_map]; omega) hdin (by decide) (by have h8 := sm.1; omega) _) (cwV 1 hts gX5_takeNext_Jx4a65c_add_9ea2d rfl rfl rfl (by decide +kernel) ⟨Nat.le_of_ble_eq_true rfl, Nat.le_of_ble_eq_true rfl⟩) ⟨pwx_blind, LW.recv hK hP hLh, fun U hU hW => pwx_pre hX hA hS hK hP hD hU hW⟩ rfl rfl hl.1 rfl (lv_room (Nat.le_of_ble_eq_true rfl)) dX5_takeNext_70 ⟨Nat.le_of_ble_eq_true rfl, Nat.le_of_ble_eq_true rfl⟩) hD hS hA (fun r_11 ws_12 H locs hp hP hD hS => ?_)
    obtain ⟨eh2, rfl, hLh2, he2, hel8, smR⟩ := hp
    have g16 := smR.get g16 (nq g16 (by omega) (fun n9 f9 => by simp))
    have gpQ := smR.get gpQ (nq gpQ (by omega) (fun n9 f9 => by simp))
    have gpQ_1 := smR.get gpQ_1 (nq gpQ_1 (by omega) (fun n9 f9 => by simp))
    have gpQ_2 := smR.get gpQ_2 (nq gpQ_2 (by omega) (fun n9 f9 => by simp))
    have gpQ_3 := smR.get gpQ_3 (nq gpQ_3 (by omega) (fun n9 f9 => by simp))
    have gpQ_4 := smR.get gpQ_4 (nq gpQ_4 (by omega) (fun n9 f9 => by simp))
    have sm := sm.call smR (fun k hk => hk.elim (fun h9 => by (try simp only); omega) (fun h9 => by have h8 := h9.1; (try simp only); omega))
    refine W.widen (k := 1) (n := 49) (Nat.le_of_ble_eq_true rfl) (Nat.le_of_ble_eq_true rfl) ?_
    have hEd1 := hLs.ed he2 (fun e9 => e9.trans (hEd.1 e9.symm))
    have hEd2 := hLr.ed he2 (fun e9 => e9.trans (hEd.2.1 e9.symm))
    have hLs := hLs.frame smR (by decide) (by decide) (hLs.he hf0 (fun e9 => e9.trans (hEd.1 e9.symm))) (by decide)
    have hLr := hLr.frame smR (by decide) (by decide) (hLr.he hf0 (fun e9 => e9.trans (hEd.2.1 e9.symm))) (by decide)
    have hDW := hDW.frame smR (by decide)
    have hf0 := fresh_ad hX hD
    refine lv_pop hx hb dX5_takeNext_73 rfl ?_
    refine lv_aload_n hx hb dX5_takeNext_74 rfl (lv_at hl 0 rfl) ?_
    exact CQ.ret (v := some aQ) C hK hP hD hS (Or.inl ⟨_, rfl⟩) (⟨tQ, (dup dd tQ (dnm (dd tQ) ca)), nd, (SS.eraseIdx (SS.length - 1)), eh2, (by rw [dup_self]; show some aQ = some (dd tQ).1.2; rw [hdt9]), (ShW.taken (nd := nd) (dd := dd) g16 (by rw [dup_self]; show LW _ cO ad 17 s1 eh2 (HS.map (fun t => (dd t).1.2) ++ [(dd tQ).1.2]); rw [hdt9]; exact hLh2) hLs hLr hDW ⟨fun e9 => e9.trans (hEd1 e9.symm), fun e9 => e9.trans (hEd2 e9.symm), hEd.2.2⟩ hl1 hl2 hl3 hRS (by omega) (by have h8 := sm.1; omega) (fun u hu => by by_cases e9 : u = tQ; {subst e9; rw [dup_self]; rfl}; {rw [dup_ne _ _ e9]}) hHS (fun u hu => hSS u (List.mem_of_mem_eraseIdx hu))), (by rw [dup_self]; rfl), (fun u hu => dup_ne _ _ (fun e9 => htnH (by rw [← e9]; exact hu))), htnH, (by omega), sm⟩) (by decide) (by decide) dX5_takeNext_75
  · refine nx_new (ci := 1) (fs := [.int (nI 0), .null, .null, .null, .null, .int (nI 0), .int (nI 0)]) (C := RX0) (T := TX0) (N := 7) hx hb hts hin_X0 tyX0 tyX0_ok hown (hts (.classLink RX5 36 RX0) (by decide +kernel)) (hts (.instantiable RX0 7) (by decide +kernel)) (hts (.initialized RX0) (by decide +kernel)) hK hP hD hS hA rfl (fun j hj => by rcases (show j = 0 ∨ j = 1 ∨ j = 2 ∨ j = 3 ∨ j = 4 ∨ j = 5 ∨ j = 6 by omega) with rfl | rfl | rfl | rfl | rfl | rfl | rfl <;> rfl) (Nat.le_of_ble_eq_true rfl) (Nat.le_of_ble_eq_true rfl) dX5_takeNext_10 (fun q_13 ws_14 H gq ps_15 hP hD hS => ?_)
    obtain ⟨dp_16, hlen⟩ : ∃ k, ws.length = k := ⟨_, rfl⟩
    have hl0 := sm.1
    rw [hlen] at gq
    have hp_16 := gl_lt g16
    have g16 := ps_15.get g16
    have hLh := hLh.ps ps_15
    have hLs := hLs.ps ps_15
    have hLr := hLr.ps ps_15
    have hDW := hDW.ps ps_15
    have gdp_16 : ws_14[dp_16]? = some (q_13, .inr (1, [.int (nI 0), .null, .null, .null, .null, .int (nI 0), .int (nI 0)])) := gq
    have hlen : ws_14.length = dp_16 + 1 := by have h9 := ps_15.1; omega
    have sm := sm.ps ps_15
    refine W.widen (k := 1) (n := 7) (by first | decide | omega) (by first | decide | omega) ?_
    refine lv_dup hx hb dX5_takeNext_13 rfl ?_
    refine lv_aload_n hx hb dX5_takeNext_14 rfl (lv_at hl 0 rfl) ?_
    refine va_get (D := D) (ci := 6) (v := .ref s1) (C := RX5) (T := TX5) (N := 4) hx hb hts hin_X5 hown hK hP 16 g16 rfl 0 (by decide) fl_12 (fun _ h9 => h9) rfl dX5_takeNext_15 ?_
    refine CI.go (va_runV (As := []) (rest := [.ref q_13, .ref q_13]) ⟨hx, hb, hml, hown, hts⟩ (c_L_size   hLh _) (cwV 0 hts gX5_takeNext_Jx4a65c_size_8abf5 rfl rfl rfl (by decide +kernel) ⟨Nat.le_of_ble_eq_true rfl, Nat.le_of_ble_eq_true rfl⟩) ⟨pw_blind, LW.recv hK hP hLh, fun U hU hW => pw_pre hK hP hD hU hW⟩ rfl rfl hl.1 rfl (lv_room (Nat.le_of_ble_eq_true rfl)) dX5_takeNext_18 ⟨Nat.le_of_ble_eq_true rfl, Nat.le_of_ble_eq_true rfl⟩) hD hS hA (fun r_17 ws_18 H locs hp hP hD hS => ?_)
    obtain ⟨rfl, rfl⟩ := hp
    rw [List.length_map]
    have god := gdp_16
    have hdpe : ws.length = dp_16 := by have h9 := ps_15.1; omega
    have hp_16 := gl_lt g16
    have hp_dp_16 := gl_lt gdp_16
    refine CV.go (va_runI (As := [.int (nI (HS.length))]) (rest := [.ref q_13]) ⟨hx, hb, hml, hown, hts⟩ (c_X0_init (pq := dp_16) gdp_16 hlen _) (cwI 1 hts gX5_takeNext_X0_init rfl rfl rfl (hts (.initialized RX0) (by decide +kernel)) (hts (.methodLink RX5 45 yX0_init) (by decide +kernel)) (hts (.instanceMethod yX0_init) (by decide +kernel)) rfl (by decide +kernel) ⟨Nat.le_of_ble_eq_true rfl, Nat.le_of_ble_eq_true rfl⟩) ⟨pw_blind, fun U hU hW => pw_pre hK hP hD hU hW⟩ rfl rfl hl.1 rfl (lv_room (Nat.le_of_ble_eq_true rfl)) dX5_takeNext_21 ⟨Nat.le_of_ble_eq_true rfl, Nat.le_of_ble_eq_true rfl⟩) hD hS hA (fun ws_20 H locs hp hP hD hS => ?_)
    obtain ⟨x1N, x2N, x3N, x4N, f_21, smI, gdp_16, gdp_16_1, gdp_16_2, gdp_16_3, gdp_16_4⟩ := hp
    have g16 := smI.get g16 (by intro h9; first | (simp at h9; done) | ((try simp only at h9); omega))
    have sm := sm.calln smI (by intro k hk; first | exact False.elim hk | ((try simp only at hk ⊢); omega))
    have gdp_16 : ws_20[dp_16]? = some (q_13, .inr (1, [.int (nI ((HS.length))), .ref x1N, .ref x2N, .ref x3N, .ref x4N, .int (nI 0), .int (nI 0)])) := gdp_16
    have gdp_16_1 : ws_20[dp_16 + 1]? = some (x1N, .inl (cJ, 94, .inr (.inl (fun _ => 0)))) := gdp_16_1
    have gdp_16_2 : ws_20[dp_16 + 2]? = some (x2N, .inl (cI, 800, .inl (fun jj => nI ((fun _ => 0) jj)))) := gdp_16_2
    have gdp_16_3 : ws_20[dp_16 + 3]? = some (x3N, .inl (cI, 64, .inl (fun jj => nI ((fun _ => 0) jj)))) := gdp_16_3
    have gdp_16_4 : ws_20[dp_16 + 4]? = some (x4N, .inl (cI, 48, .inl (fun jj => nI ((fun _ => 0) jj)))) := gdp_16_4
    have hlen : ws_20.length = dp_16 + 5 := f_21
    refine W.widen (k := 5) (n := 1013) (Nat.le_of_ble_eq_true rfl) (Nat.le_of_ble_eq_true rfl) ?_
    have hLh := hLh.one smI (fun y9 z9 h9 => by rw [god] at h9; cases h9; trivial)
    have hLs := hLs.one smI (fun y9 z9 h9 => by rw [god] at h9; cases h9; trivial)
    have hLr := hLr.one smI (fun y9 z9 h9 => by rw [god] at h9; cases h9; trivial)
    have hz0 : SS = [] := List.length_eq_zero_iff.mp (of_decide_eq_true (bool1 c_7))
    have hn0 : HS.length = nd := by rw [hndl, hz0]; rfl
    obtain ⟨de, hde⟩ : ∃ de : Nat → DX, de = dup dd nd ((dp_16, q_13), (x1N, x2N, x3N, x4N), (0, 0), fun _ => 0, fun _ => 0, fun _ => 0, fun _ => 0) := ⟨_, rfl⟩
    have hDW : DW ws_20 cI cJ (nd + 1) de := by rw [hde]; exact DW.new hDW0 (Sm.calln (K := fun _ => False) (Sm.ps Sm.rf ps_15) smI (fun k hk => Or.inr (by (try simp only at hk); omega))) (fun k hk => hk.elim) ⟨by rw [← hn0]; exact gdp_16, gdp_16_1, gdp_16_2, gdp_16_3, gdp_16_4⟩ hdpe.symm h51
    have hdt : de nd = ((dp_16, q_13), (x1N, x2N, x3N, x4N), (0, 0), fun _ => 0, fun _ => 0, fun _ => 0, fun _ => 0) := by rw [hde, dup_self]
    have hdo : ∀ u, u < nd → de u = dd u := fun u hu => by rw [hde, dup_ne _ _ (by omega)]
    refine lv_goto (tgt := 46) hx hb dX5_takeNext_24 (by decide) ?_
    refine lv_astore_n (lv' := [(1, .ref q_13), (0, .ref s0)]) hx hb dX5_takeNext_46 rfl hl (by decide) rfl (fun ls hl => ?_)
    refine lv_aload_n hx hb dX5_takeNext_47 rfl (lv_at hl 0 rfl) ?_
    refine lv_aload_n hx hb dX5_takeNext_48 rfl (lv_at hl 1 rfl) ?_
    refine va_get (D := D) (ci := 6) (v := .int (nI ca)) (C := RX5) (T := TX5) (N := 4) hx hb hts hin_X5 hown hK hP 16 g16 rfl 3 (by decide) fl_28 (fun _ h9 => h9) rfl dX5_takeNext_49 ?_
    refine nx_put (D := D) (ci := 1) (v := .int (nI ca)) (ty := .int) (C := RX0) (T := TX0) (N := 7) hx hb hts hin_X0 tyX0 tyX0_ok nmX0 hown hK hP hD hS dp_16 gdp_16 rfl 5 (by decide) fl_38 (fun _ h9 => h9) rfl (by decide +kernel) rfl rfl (Nat.le_of_ble_eq_true rfl) dX5_takeNext_52 (fun ws_22 H locs gq up_23 hP hD hS => ?_)
    have go_dp_16 := gdp_16
    have gdp_16 : ws_22[dp_16]? = some (q_13, .inr (1, [.int (nI ((HS.length))), .ref x1N, .ref x2N, .ref x3N, .ref x4N, .int (nI ca), .int (nI 0)])) := gq
    have g16 := up_23.get g16 (by omega)
    have gdp_16_1 := up_23.get gdp_16_1 (by omega)
    have gdp_16_2 := up_23.get gdp_16_2 (by omega)
    have gdp_16_3 := up_23.get gdp_16_3 (by omega)
    have gdp_16_4 := up_23.get gdp_16_4 (by omega)
    have hLh := hLh.up up_23 (fun y9 z9 h9 => by rw [go_dp_16] at h9; cases h9; trivial)
    have hLs := hLs.up up_23 (fun y9 z9 h9 => by rw [go_dp_16] at h9; cases h9; trivial)
    have hLr := hLr.up up_23 (fun y9 z9 h9 => by rw [go_dp_16] at h9; cases h9; trivial)
    have hlen := up_23.1.trans hlen
    have sm := sm.up up_23 (by first | (simp; done) | ((try simp only); omega))
    have hdt9 := hdt
    have hDW : DW ws_22 cI cJ (nd + 1) (dup de nd (dnm (de nd) ca)) := hDW.up1 (by omega) up_23 (by rw [hdt9]; show dp_16 ≤ dp_16 ∧ dp_16 < dp_16 + 5; omega) (by rw [hdt9]; exact ⟨by rw [← hn0]; exact gdp_16, gdp_16_1, gdp_16_2, gdp_16_3, gdp_16_4⟩) rfl
    refine lv_aload_n hx hb dX5_takeNext_55 rfl (lv_at hl 1 rfl) ?_
    refine lv_dup hx hb dX5_takeNext_56 rfl ?_
    refine va_get (D := D) (ci := 6) (v := .int (nI ca)) (C := RX5) (T := TX5) (N := 4) hx hb hts hin_X5 hown hK hP 16 g16 rfl 3 (by decide) fl_28 (fun _ h9 => h9) rfl dX5_takeNext_57 ?_
    refine lv_iconst (v := nI 1) hx hb dX5_takeNext_60 (by decide) ?_
    refine nx_iadd hx hb dX5_takeNext_61 ?_
    refine nx_put (D := D) (ci := 6) (v := .int (nI (ca + 1))) (ty := .int) (C := RX5) (T := TX5) (N := 4) hx hb hts hin_X5 tyX5 tyX5_ok nmX5 hown hK hP hD hS 16 g16 rfl 3 (by decide) fl_28 (fun _ h9 => h9) rfl (by decide +kernel) rfl rfl (Nat.le_of_ble_eq_true rfl) dX5_takeNext_62 (fun ws_24 H locs gq up_25 hP hD hS => ?_)
    have go_16 := g16
    have g16 : ws_24[16]? = some (s0, .inr (6, [.ref s1, .ref s2, .ref s3, .int (nI (ca + 1))])) := gq
    have gdp_16 := up_25.get gdp_16 (by omega)
    have gdp_16_1 := up_25.get gdp_16_1 (by omega)
    have gdp_16_2 := up_25.get gdp_16_2 (by omega)
    have gdp_16_3 := up_25.get gdp_16_3 (by omega)
    have gdp_16_4 := up_25.get gdp_16_4 (by omega)
    have hLh := hLh.up up_25 (fun y9 z9 h9 => by rw [go_16] at h9; cases h9; trivial)
    have hLs := hLs.up up_25 (fun y9 z9 h9 => by rw [go_16] at h9; cases h9; trivial)
    have hLr := hLr.up up_25 (fun y9 z9 h9 => by rw [go_16] at h9; cases h9; trivial)
    have hDW := hDW.up0 up_25 (by decide)
    have hlen := up_25.1.trans hlen
    have sm := sm.up up_25 (by first | (simp; done) | ((try simp only); omega))
    have hf0 := fresh_ad hX hD
    have hdin : DIn ws_24 (HS.map (fun t => (dd t).1.2)) := by have h9 := hDW.din (HS := HS) (fun u hu => by have := hHS u hu; omega); rw [map_cg (dd := dd) (fun u hu => by rw [dup_ne _ _ (by have := hHS u hu; omega), hdo u (hHS u hu)])] at h9; exact h9
    refine lv_aload_n hx hb dX5_takeNext_65 rfl (lv_at hl 1 rfl) ?_
    refine va_get (D := D) (ci := 6) (v := .ref s1) (C := RX5) (T := TX5) (N := 4) hx hb hts hin_X5 hown hK hP 16 g16 rfl 0 (by decide) fl_12 (fun _ h9 => h9) rfl dX5_takeNext_66 ?_
    refine lv_aload_n hx hb dX5_takeNext_69 rfl (lv_at hl 0 rfl) ?_
    refine CI.go (va_runV (As := [.ref q_13]) (rest := []) ⟨hx, hb, hml, hown, hts⟩ (c_L_add   hLh gdp_16 (by rw [List.length_map]; omega) hdin (by decide) (by have h8 := sm.1; omega) _) (cwV 1 hts gX5_takeNext_Jx4a65c_add_9ea2d rfl rfl rfl (by decide +kernel) ⟨Nat.le_of_ble_eq_true rfl, Nat.le_of_ble_eq_true rfl⟩) ⟨pwx_blind, LW.recv hK hP hLh, fun U hU hW => pwx_pre hX hA hS hK hP hD hU hW⟩ rfl rfl hl.1 rfl (lv_room (Nat.le_of_ble_eq_true rfl)) dX5_takeNext_70 ⟨Nat.le_of_ble_eq_true rfl, Nat.le_of_ble_eq_true rfl⟩) hD hS hA (fun r_26 ws_27 H locs hp hP hD hS => ?_)
    obtain ⟨eh2, rfl, hLh2, he2, hel8, smR⟩ := hp
    have g16 := smR.get g16 (nq g16 (by omega) (fun n9 f9 => by simp))
    have gdp_16 := smR.get gdp_16 (nq gdp_16 (by omega) (fun n9 f9 => by simp))
    have gdp_16_1 := smR.get gdp_16_1 (nq gdp_16_1 (by omega) (fun n9 f9 => by simp))
    have gdp_16_2 := smR.get gdp_16_2 (nq gdp_16_2 (by omega) (fun n9 f9 => by simp))
    have gdp_16_3 := smR.get gdp_16_3 (nq gdp_16_3 (by omega) (fun n9 f9 => by simp))
    have gdp_16_4 := smR.get gdp_16_4 (nq gdp_16_4 (by omega) (fun n9 f9 => by simp))
    have sm := sm.calln smR (fun k hk => hk.elim (fun h9 => Or.inl (by (try simp only); omega)) (fun h9 => Or.inl (by have h8 := h9.1; (try simp only); omega)))
    refine W.widen (k := 6) (n := 1062) (Nat.le_of_ble_eq_true rfl) (Nat.le_of_ble_eq_true rfl) ?_
    have hEd1 := hLs.ed he2 (fun e9 => e9.trans (hEd.1 e9.symm))
    have hEd2 := hLr.ed he2 (fun e9 => e9.trans (hEd.2.1 e9.symm))
    have hLs := hLs.frame smR (by decide) (by decide) (hLs.he hf0 (fun e9 => e9.trans (hEd.1 e9.symm))) (by decide)
    have hLr := hLr.frame smR (by decide) (by decide) (hLr.he hf0 (fun e9 => e9.trans (hEd.2.1 e9.symm))) (by decide)
    have hDW := hDW.frame smR (by decide)
    have hf0 := fresh_ad hX hD
    refine lv_pop hx hb dX5_takeNext_73 rfl ?_
    refine lv_aload_n hx hb dX5_takeNext_74 rfl (lv_at hl 0 rfl) ?_
    exact CQ.ret (v := some q_13) C hK hP hD hS (Or.inl ⟨_, rfl⟩) (⟨nd, (dup de nd (dnm (de nd) ca)), (nd + 1), SS, eh2, (by rw [dup_self]; show some q_13 = some (de nd).1.2; rw [hdt9]), (ShW.taken (nd := nd) (dd := dd) g16 (by rw [dup_self]; show LW _ cO ad 17 s1 eh2 (HS.map (fun t => (dd t).1.2) ++ [(de nd).1.2]); rw [hdt9]; exact hLh2) hLs hLr hDW ⟨fun e9 => e9.trans (hEd1 e9.symm), fun e9 => e9.trans (hEd2 e9.symm), hEd.2.2⟩ (by rw [hz0, List.append_nil]; refine List.nodup_append.mpr ⟨(List.nodup_append.mp hNd).1, by simp, fun u hu v hv => ?_⟩; rw [List.mem_singleton.mp hv]; have := hHS u hu; omega) (by rw [hz0, List.append_nil]; intro u hu; rcases List.mem_append.mp hu with hu | hu; {have := hHS u hu; omega}; {rw [List.mem_singleton.mp hu]; omega}) (by rw [hz0, List.length_append, hn0]; rfl) hRS (by omega) (by have h8 := sm.1; omega) (fun u hu => by rw [dup_ne _ _ (by omega), hdo u hu]) hHS hSS), (by rw [dup_self]; rfl), (fun u hu => by rw [dup_ne _ _ (by have := hHS u hu; omega), hdo u (hHS u hu)]), (fun h9 => by have := hHS nd h9; omega), (by omega), sm⟩) (by decide) (by decide) dX5_takeNext_75
