set_option maxHeartbeats 4000000 in
set_option maxRecDepth 100000 in
theorem c_X5_putAllAway {D : va_G} {cB cI cJ cO : ClassId} {l : Launch} {ad mi : Nat} {s0 s1 s2 s3 ca eh es er nd : Nat} {dd : Nat → DX} {HS SS RS : List Nat} {ws : va_W}  (hSW : ShW ws cI cJ cO ad s0 s1 s2 s3 ca eh es er nd dd HS SS RS) (hnd : nd ≤ 48) : CIX D (TY cB cI cJ cO) l yX5_putAllAway wsX5_putAllAway ({ frames := 7, cells := 48, slots := 2352, locals := 171 }) ad mi [.ref s0] ws (fun r ws' => ∃ es2 : Nat, r = nI (HS.length) ∧ (ShW ws' cI cJ cO ad s0 s1 s2 s3 0 eh es2 er nd dd [] (SS ++ HS) RS) ∧ Sm (fun k => k = 16 ∨ k = 17 ∨ k = 18 ∨ 51 ≤ k) ws ws') := by
  refine CIX.of (cc := cX5_putAllAway) (maxL := 3) (ret := (some .int)) (by decide) rfl (Nat.le_of_ble_eq_true rfl) ?_
  intro p e s m below meth c A C hK hP hD hA hS hX ls hl
  have hN := hX.1
  obtain ⟨hx, hb, hr, hml, hts, hown, hlocks, hnm⟩ := id C
  have fl_12 := hts (.fieldLink RX5 12 "TwinFinder$Shelf" "here" "Ljava/util/ArrayList;") (by decide +kernel)
  have fl_18 := hts (.fieldLink RX5 18 "TwinFinder$Shelf" "spare" "Ljava/util/ArrayList;") (by decide +kernel)
  have fl_28 := hts (.fieldLink RX5 28 "TwinFinder$Shelf" "came" "I") (by decide +kernel)
  have hin_X5 : ∀ w ∈ u_ws RX5 TX5 4, w ∈ wsX5_putAllAway := by decide +kernel
  have hl : lv_has ls 3 [(0, .ref s0)] := hl
  have sm : Sm (fun k => k = 16 ∨ k = 17 ∨ k = 18 ∨ 51 ≤ k) ws ws := Sm.rf
  have hc0 : (0 : Nat) ≤ 48 := by decide
  have hs0 : (0 : Nat) ≤ 2352 := by decide
  obtain ⟨g16, hLh, hLs, hLr, hDW, hEd, hNd, hAll, hndl, hRS, h51⟩ := id hSW
  have hHS : ∀ t ∈ HS, t < nd := fun t h9 => hAll t (List.mem_append_left _ h9)
  have hSS : ∀ t ∈ SS, t < nd := fun t h9 => hAll t (List.mem_append_right _ h9)
  have hf0 := fresh_ad hX hD
  refine lv_aload_n hx hb dX5_putAllAway_0 rfl (lv_at hl 0 rfl) ?_
  refine va_get (D := D) (ci := 6) (v := .ref s1) (C := RX5) (T := TX5) (N := 4) hx hb hts hin_X5 hown hK hP 16 g16 rfl 0 (by decide) fl_12 (fun _ h9 => h9) rfl dX5_putAllAway_1 ?_
  refine CI.go (va_runV (As := []) (rest := []) ⟨hx, hb, hml, hown, hts⟩ (c_L_size   hLh _) (cwV 0 hts gX5_putAllAway_Jx4a65c_size_8abf5 rfl rfl rfl (by decide +kernel) ⟨Nat.le_of_ble_eq_true rfl, Nat.le_of_ble_eq_true rfl⟩) ⟨pw_blind, LW.recv hK hP hLh, fun U hU hW => pw_pre hK hP hD hU hW⟩ rfl rfl hl.1 rfl (lv_room (Nat.le_of_ble_eq_true rfl)) dX5_putAllAway_4 ⟨Nat.le_of_ble_eq_true rfl, Nat.le_of_ble_eq_true rfl⟩) hD hS hA (fun r_1 ws_2 H locs hp hP hD hS => ?_)
  obtain ⟨rfl, rfl⟩ := hp
  rw [List.length_map]
  refine lv_istore_n (lv' := [(1, .int (nI (HS.length))), (0, .ref s0)]) hx hb dX5_putAllAway_7 rfl hl (by decide) rfl (fun ls hl => ?_)
  refine lv_iconst (v := nI 0) hx hb dX5_putAllAway_8 (by decide) ?_
  refine lv_istore_n (lv' := [(2, .int (nI 0)), (1, .int (nI (HS.length))), (0, .ref s0)]) hx hb dX5_putAllAway_9 rfl hl (by decide) rfl (fun ls hl => ?_)
  have lp_10 : ∀ (fuel : Nat) (i es1 : Nat), HS.length - i < fuel → (i ≤ HS.length) → (eh = es1 → eh = ad) → (er = es1 → er = ad) → ∀ (ws1 : va_W) (H : Heap) (locs : List Loc) (ls : Array Slot), Sm (fun k => k = 16 ∨ k = 17 ∨ k = 18 ∨ 51 ≤ k) ws ws1 → ws1[16]? = some (s0, .inr (6, [.ref s1, .ref s2, .ref s3, .int (nI ca)])) → (LW ws1 cO ad 17 s1 eh ((HS).map (fun t => (dd t).1.2))) → (LW ws1 cO ad 18 s2 es1 ((SS ++ HS.take i).map (fun t => (dd t).1.2))) → (LW ws1 cO ad 19 s3 er ((RS).map (fun t => (dd t).1.2))) → (DW ws1 cI cJ nd dd) → (51 ≤ ws1.length) → (FreshA ws1 ad) → va_P D vwCl ws1 H → va_D A ws1 → va_S A s.heap H locs → lv_has ls 3 [(0, .ref s0), (1, .int (nI (HS.length))), (2, .int (nI i))] → W p l e ({ frames := 7, cells := 48, slots := 2352, locals := 171 }) s m ([.ref s0] : List Value).toArray below meth c H locs (i) (49 * i) (ZI D (TY cB cI cJ cO) (fun r ws' => ∃ es2 : Nat, r = nI (HS.length) ∧ (ShW ws' cI cJ cO ad s0 s1 s2 s3 0 eh es2 er nd dd [] (SS ++ HS) RS) ∧ Sm (fun k => k = 16 ∨ k = 17 ∨ k = 18 ∨ 51 ≤ k) ws ws') below [.ref s0] s 48 2352 A) (F0 m 10 ls []) := by
    intro fuel
    induction fuel with
    | zero => intro i es1 hfu; exact absurd hfu (Nat.not_lt_zero _)
    | succ fuel ih_10 =>
      intro i es1 hfu_10 hi hEd1 hEd3 ws1 H locs ls sm g16 hLh hLs hLr hDW h51 hf0 hP hD hS hl
      refine lv_iload_n hx hb dX5_putAllAway_10 rfl (lv_at hl 2 rfl) ?_
      refine lv_iload_n hx hb dX5_putAllAway_11 rfl (lv_at hl 1 rfl) ?_
      refine nx_icmp_ge (tgt := 40) hx hb (by omega) (by omega) dX5_putAllAway_12 (by decide) (fun c_12 => ?_) (fun c_12 => ?_)
      · refine lv_aload_n hx hb dX5_putAllAway_40 rfl (lv_at hl 0 rfl) ?_
        refine va_get (D := D) (ci := 6) (v := .ref s1) (C := RX5) (T := TX5) (N := 4) hx hb hts hin_X5 hown hK hP 16 g16 rfl 0 (by decide) fl_12 (fun _ h9 => h9) rfl dX5_putAllAway_41 ?_
        refine CV.go (va_runV (As := []) (rest := []) ⟨hx, hb, hml, hown, hts⟩ (c_L_clear   hLh (hDW.din hHS) _) (cwV 0 hts gX5_putAllAway_Jx4a65c_clear_da8c8 rfl rfl rfl (by decide +kernel) ⟨Nat.le_of_ble_eq_true rfl, Nat.le_of_ble_eq_true rfl⟩) ⟨pwx_blind, LW.recv hK hP hLh, fun U hU hW => pwx_pre hX hA hS hK hP hD hU hW⟩ rfl rfl hl.1 rfl (lv_room (Nat.le_of_ble_eq_true rfl)) dX5_putAllAway_44 ⟨by show i + 0 ≤ 48; omega, by show 49 * i + 0 ≤ 2352; omega⟩) hD hS hA (fun ws_4 H locs hp hP hD hS => ?_)
        obtain ⟨hLh2, hel7, smR⟩ := hp
        have g16 := smR.get g16 (nq g16 (by omega) (fun n9 f9 => by simp))
        have sm := sm.call smR (fun k hk => hk.elim (fun h9 => by (try simp only); omega) (fun h9 => by have h8 := h9.1; (try simp only); omega))
        have hLs := hLs.frame smR (by decide) (by decide) (hLs.he hf0 (fun e9 => e9.trans (hEd1 e9.symm))) (by decide)
        have hLr := hLr.frame smR (by decide) (by decide) (hLr.he hf0 (fun e9 => e9.trans (hEd.2.1 e9.symm))) (by decide)
        have hDW := hDW.frame smR (by decide)
        have h51 := Nat.le_trans h51 smR.1
        have hLh : LW ws_4 cO ad 17 s1 eh (([] : List Nat).map (fun t => (dd t).1.2)) := hLh2
        refine lv_aload_n hx hb dX5_putAllAway_47 rfl (lv_at hl 0 rfl) ?_
        refine lv_iconst (v := nI 0) hx hb dX5_putAllAway_48 (by decide) ?_
        refine nx_put (D := D) (ci := 6) (v := .int (nI 0)) (ty := .int) (C := RX5) (T := TX5) (N := 4) hx hb hts hin_X5 tyX5 tyX5_ok nmX5 hown hK hP hD hS 16 g16 rfl 3 (by decide) fl_28 (fun _ h9 => h9) rfl (by decide +kernel) rfl rfl (Nat.le_of_ble_eq_true rfl) dX5_putAllAway_49 (fun ws_5 H locs gq up_6 hP hD hS => ?_)
        have go_16 := g16
        have g16 : ws_5[16]? = some (s0, .inr (6, [.ref s1, .ref s2, .ref s3, .int (nI 0)])) := gq
        have hLh := hLh.up up_6 (fun y9 z9 h9 => by rw [go_16] at h9; cases h9; trivial)
        have hLs := hLs.up up_6 (fun y9 z9 h9 => by rw [go_16] at h9; cases h9; trivial)
        have hLr := hLr.up up_6 (fun y9 z9 h9 => by rw [go_16] at h9; cases h9; trivial)
        have hDW := hDW.up0 up_6 (by decide)
        have sm := sm.up up_6 (by first | (simp; done) | ((try simp only); omega))
        refine lv_iload_n hx hb dX5_putAllAway_52 rfl (lv_at hl 1 rfl) ?_
        exact CI.ret (v := (nI HS.length)) C hK hP hD hS rfl (⟨es1, rfl, (by obtain ⟨l1, l2, l3⟩ := sw_all hNd hAll hndl; exact ⟨g16, hLh, by rw [show HS.take i = HS from List.take_of_length_le (by omega)] at hLs; exact hLs, hLr, hDW, ⟨hEd1, hEd.2.1, fun e9 => e9.trans (hEd3 e9.symm)⟩, l1, l2, l3, hRS, by have h8 := sm.1; omega⟩), sm⟩) (by show i ≤ 48; omega) (by show 49 * i ≤ 2352; omega) dX5_putAllAway_53
      · have hAll2 : ∀ t ∈ SS ++ HS.take i, t < nd := fun t h9 => (List.mem_append.mp h9).elim (hSS t) (fun h8 => hHS t (List.mem_of_mem_take h8))
        have hEd1o := hEd1
        have hEd3o := hEd3
        obtain ⟨tQ, htQ⟩ : ∃ t, HS[i]? = some t := ⟨_, List.getElem?_eq_getElem (by omega)⟩
        have htlQ : tQ < nd := hHS tQ (List.mem_of_getElem? htQ)
        obtain ⟨⟨⟨pQ, aQ⟩, ⟨x1Q, x2Q, x3Q, x4Q⟩, ⟨nuQ, zQ⟩, fsQ, fnQ, flQ, fhQ⟩, hdxQ⟩ : ∃ z : DX, z = dd tQ := ⟨_, rfl⟩
        have hD5Q := (hDW.1 tQ htlQ).1
        have hP51Q : 51 ≤ pQ := by have h9 := (hDW.1 tQ htlQ).2; rw [← hdxQ] at h9; exact h9
        rw [← hdxQ] at hD5Q
        have gpQ : ws1[pQ]? = some (aQ, .inr (1, [.int (nI tQ), .ref x1Q, .ref x2Q, .ref x3Q, .ref x4Q, .int (nI nuQ), .int (nI zQ)])) := hD5Q.1
        have gpQ_1 : ws1[pQ + 1]? = some (x1Q, .inl (cJ, 94, .inr (.inl fsQ))) := hD5Q.2.1
        have gpQ_2 : ws1[pQ + 2]? = some (x2Q, .inl (cI, 800, .inl (fun jj => nI (fnQ jj)))) := hD5Q.2.2.1
        have gpQ_3 : ws1[pQ + 3]? = some (x3Q, .inl (cI, 64, .inl (fun jj => nI (flQ jj)))) := hD5Q.2.2.2.1
        have gpQ_4 : ws1[pQ + 4]? = some (x4Q, .inl (cI, 48, .inl (fun jj => nI (fhQ jj)))) := hD5Q.2.2.2.2
        refine lv_aload_n hx hb dX5_putAllAway_15 rfl (lv_at hl 0 rfl) ?_
        refine va_get (D := D) (ci := 6) (v := .ref s2) (C := RX5) (T := TX5) (N := 4) hx hb hts hin_X5 hown hK hP 16 g16 rfl 1 (by decide) fl_18 (fun _ h9 => h9) rfl dX5_putAllAway_16 ?_
        refine lv_aload_n hx hb dX5_putAllAway_19 rfl (lv_at hl 0 rfl) ?_
        refine va_get (D := D) (ci := 6) (v := .ref s1) (C := RX5) (T := TX5) (N := 4) hx hb hts hin_X5 hown hK hP 16 g16 rfl 0 (by decide) fl_12 (fun _ h9 => h9) rfl dX5_putAllAway_20 ?_
        refine lv_iload_n hx hb dX5_putAllAway_23 rfl (lv_at hl 2 rfl) ?_
        refine CQ.go (va_runV (As := [.int (nI i)]) (rest := [.ref s2]) ⟨hx, hb, hml, hown, hts⟩ (c_L_get   hLh (map_at htQ (by rw [← hdxQ])) _) (cwV 1 hts gX5_putAllAway_Jx4a65c_get_915e3 rfl rfl rfl (by decide +kernel) ⟨Nat.le_of_ble_eq_true rfl, Nat.le_of_ble_eq_true rfl⟩) ⟨pw_blind, LW.recv hK hP hLh, fun U hU hW => pw_pre hK hP hD hU hW⟩ rfl rfl hl.1 rfl (lv_room (Nat.le_of_ble_eq_true rfl)) dX5_putAllAway_24 ⟨by show i + 0 ≤ 48; omega, by show 49 * i + 0 ≤ 2352; omega⟩) hD hS hA (fun r_7 ws_8 H locs hp hP hD hS => ?_)
        obtain ⟨rfl, rfl⟩ := hp
        refine va_castS hx hb hown (hts (.classLink RX5 36 RX0) (by decide +kernel)) (hK.1 1 _ rfl).2 (va_recv hK hP (ci := 1) (q0 := pQ) rfl gpQ) dX5_putAllAway_27 ?_
        refine CI.go (va_runV (As := [.ref aQ]) (rest := []) ⟨hx, hb, hml, hown, hts⟩ (c_L_add   hLs gpQ (by rw [List.length_map, List.length_append, List.length_take]; omega) (hDW.din (fun t h9 => hAll2 t h9)) (by decide) h51 _) (cwV 1 hts gX5_putAllAway_Jx4a65c_add_9ea2d rfl rfl rfl (by decide +kernel) ⟨Nat.le_of_ble_eq_true rfl, Nat.le_of_ble_eq_true rfl⟩) ⟨pwx_blind, LW.recv hK hP hLs, fun U hU hW => pwx_pre hX hA hS hK hP hD hU hW⟩ rfl rfl hl.1 rfl (lv_room (Nat.le_of_ble_eq_true rfl)) dX5_putAllAway_30 ⟨by show i + 1 ≤ 48; omega, by show 49 * i + 49 ≤ 2352; omega⟩) hD hS hA (fun r_9 ws_10 H locs hp hP hD hS => ?_)
        obtain ⟨es2, rfl, hLs2, he2, hel8, smR⟩ := hp
        have g16 := smR.get g16 (nq g16 (by omega) (fun n9 f9 => by simp))
        have gpQ := smR.get gpQ (nq gpQ (by omega) (fun n9 f9 => by simp))
        have gpQ_1 := smR.get gpQ_1 (nq gpQ_1 (by omega) (fun n9 f9 => by simp))
        have gpQ_2 := smR.get gpQ_2 (nq gpQ_2 (by omega) (fun n9 f9 => by simp))
        have gpQ_3 := smR.get gpQ_3 (nq gpQ_3 (by omega) (fun n9 f9 => by simp))
        have gpQ_4 := smR.get gpQ_4 (nq gpQ_4 (by omega) (fun n9 f9 => by simp))
        have sm := sm.call smR (fun k hk => hk.elim (fun h9 => by (try simp only); omega) (fun h9 => by have h8 := h9.1; (try simp only); omega))
        have hEd1 := hLh.ed he2 hEd1
        have hEd3 := hLr.ed he2 hEd3
        have hLh := hLh.frame smR (by decide) (by decide) (hLh.he hf0 hEd1o) (by decide)
        have hLr := hLr.frame smR (by decide) (by decide) (hLr.he hf0 hEd3o) (by decide)
        have hDW := hDW.frame smR (by decide)
        have hf0 := fresh_ad hX hD
        have h51 := Nat.le_trans h51 smR.1
        have hLs : LW ws_10 cO ad 18 s2 es2 ((SS ++ HS.take (i + 1)).map (fun t => (dd t).1.2)) := by rw [take_s htQ, ← List.append_assoc, ← map_ap (by rw [← hdxQ])]; exact hLs2
        refine lv_pop hx hb dX5_putAllAway_33 rfl ?_
        refine lv_iinc (v := (nI (i + 1))) (lv' := [(2, .int (nI (i + 1))), (0, .ref s0), (1, .int (nI (HS.length)))]) hx hb dX5_putAllAway_34 hl (k := 2) rfl (nx_inc _ 1) (by decide) rfl (fun ls hl => ?_)
        refine lv_goto (tgt := 10) hx hb dX5_putAllAway_37 (by decide) ?_
        refine W.widen (k := (i + 1)) (n := (49 * (i + 1))) (by first | exact Nat.le_refl _ | omega) (by first | exact Nat.le_refl _ | omega) ?_
        exact ih_10 (i + 1) es2 (by omega) (by omega) hEd1 hEd3 _ _ _ _ sm g16 hLh hLs hLr hDW h51 hf0 hP hD hS (lv_sub hl [1, 2, 0] rfl)
  refine W.widen (k := 0) (n := (49 * 0)) (by first | exact Nat.le_refl _ | omega) (by first | exact Nat.le_refl _ | omega) ?_
  exact lp_10 _ 0 es (Nat.lt_succ_self _) (Nat.zero_le _) hEd.1 (fun e9 => e9.trans (hEd.2.2 e9.symm)) _ _ _ _ sm g16 hLh (by rw [List.take_zero, List.append_nil]; exact hLs) hLr hDW h51 hf0 hP hD hS (lv_sub hl [2, 1, 0] rfl)
