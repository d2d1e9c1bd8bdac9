set_option maxHeartbeats 4000000 in
set_option maxRecDepth 100000 in
theorem c_X0_countShared {D : va_G} {cB cI cJ cO : ClassId} {l : Launch} {px dx sx x1_ x2_ x3_ x4_ nx zx : Nat} {py dy sy y1_ y2_ y3_ y4_ ny zy : Nat} {fx fy : Nat → Int64} {Mx My : Nat → Bool} {ws : va_W} (gpx : ws[px]? = some (dx, .inr (1, [.int (nI sx), .ref x1_, .ref x2_, .ref x3_, .ref x4_, .int (nI nx), .int (nI zx)]))) (gpx_1 : ws[px + 1]? = some (x1_, .inl (cJ, 94, .inr (.inl fx)))) (gpy : ws[py]? = some (dy, .inr (1, [.int (nI sy), .ref y1_, .ref y2_, .ref y3_, .ref y4_, .int (nI ny), .int (nI zy)]))) (gpy_1 : ws[py + 1]? = some (y1_, .inl (cJ, 94, .inr (.inl fy)))) (hsx : SetB fx Mx) (hsy : SetB fy My) : CI D (TY cB cI cJ cO) l yX0_countShared wsX0_countShared ({ frames := 1, cells := 0, slots := 0, locals := 21 }) [.ref dx, .ref dy] ws (fun r ws' => r = nI (cntB (fun q => Mx q && My q) 6016) ∧ ws = ws') := by
  refine CI.of (cc := cX0_countShared) (maxL := 4) (ret := (some .int)) (by decide) rfl (Nat.le_of_ble_eq_true rfl) ?_
  intro p e s m below meth c A C hK hP hD hA hS ls hl
  obtain ⟨hx, hb, hr, hml, hts, hown, hlocks, hnm⟩ := id C
  have fl_9 := hts (.fieldLink RX0 9 "TwinFinder$Document" "set" "[J") (by decide +kernel)
  have hin_X0 : ∀ w ∈ u_ws RX0 TX0 7, w ∈ wsX0_countShared := by decide +kernel
  have hl : lv_has ls 4 [(0, .ref dx), (1, .ref dy)] := hl
  have sm : Sm (fun _ => False) ws ws := Sm.rf
  have hc0 : (0 : Nat) ≤ 0 := by decide
  have hs0 : (0 : Nat) ≤ 0 := by decide
  refine lv_iconst (v := nI 0) hx hb dX0_countShared_0 (by decide) ?_
  refine lv_istore_n (lv' := [(2, .int (nI 0)), (0, .ref dx), (1, .ref dy)]) hx hb dX0_countShared_1 rfl hl (by decide) rfl (fun ls hl => ?_)
  refine lv_iconst (v := nI 0) hx hb dX0_countShared_2 (by decide) ?_
  refine lv_istore_n (lv' := [(3, .int (nI 0)), (2, .int (nI 0)), (0, .ref dx), (1, .ref dy)]) hx hb dX0_countShared_3 rfl hl (by decide) rfl (fun ls hl => ?_)
  have lp_4 : ∀ (fuel : Nat) (w_ : Nat), 94 - w_ < fuel → (w_ ≤ 94) → ∀ (H : Heap) (locs : List Loc) (ls : Array Slot),  va_P D vwCl ws H → va_D A ws → va_S A s.heap H locs → lv_has ls 4 [(0, .ref dx), (1, .ref dy), (2, .int (nI (cntB (fun q => Mx q && My q) (64 * w_)))), (3, .int (nI w_))] → W p l e ({ frames := 1, cells := 0, slots := 0, locals := 21 }) s m ([.ref dx, .ref dy] : List Value).toArray below meth c H locs 0 0 (ZI D (TY cB cI cJ cO) (fun r ws' => r = nI (cntB (fun q => Mx q && My q) 6016) ∧ ws = ws') below [.ref dx, .ref dy] s 0 0 A) (F0 m 4 ls []) := by
    intro fuel
    induction fuel with
    | zero => intro w_ hfu; exact absurd hfu (Nat.not_lt_zero _)
    | succ fuel ih_4 =>
      intro w_ hfu_4 hw H locs ls hP hD hS hl
      refine lv_iload_n hx hb dX0_countShared_4 rfl (lv_at hl 3 rfl) ?_
      refine lv_bipush (v := nI 94) hx hb dX0_countShared_5 (by decide) ?_
      refine nx_icmp_ge (tgt := 35) hx hb (by omega) (by omega) dX0_countShared_7 (by decide) (fun c_7 => ?_) (fun c_7 => ?_)
      · refine lv_iload_n hx hb dX0_countShared_35 rfl (lv_at hl 2 rfl) ?_
        exact CI.ret (v := (nI (cntB (fun q => Mx q && My q) (64 * w_)))) C hK hP hD hS rfl (⟨(by rw [show w_ = 94 by omega]), rfl⟩) hc0 hs0 dX0_countShared_36
      · refine lv_iload_n hx hb dX0_countShared_10 rfl (lv_at hl 2 rfl) ?_
        refine lv_aload_n hx hb dX0_countShared_11 rfl (lv_at hl 0 rfl) ?_
        refine va_get (D := D) (ci := 1) (v := .ref x1_) (C := RX0) (T := TX0) (N := 7) hx hb hts hin_X0 hown hK hP px gpx rfl 1 (by decide) fl_9 (fun _ h9 => h9) rfl dX0_countShared_12 ?_
        refine lv_iload_n hx hb dX0_countShared_15 rfl (lv_at hl 3 rfl) ?_
        refine nx_lald hx hb hK hP (px + 1) 2 gpx_1 rfl (k := w_) (by omega) (by decide) dX0_countShared_16 ?_
        refine lv_aload_n hx hb dX0_countShared_17 rfl (lv_at hl 1 rfl) ?_
        refine va_get (D := D) (ci := 1) (v := .ref y1_) (C := RX0) (T := TX0) (N := 7) hx hb hts hin_X0 hown hK hP py gpy rfl 1 (by decide) fl_9 (fun _ h9 => h9) rfl dX0_countShared_18 ?_
        refine lv_iload_n hx hb dX0_countShared_21 rfl (lv_at hl 3 rfl) ?_
        refine nx_lald hx hb hK hP (py + 1) 2 gpy_1 rfl (k := w_) (by omega) (by decide) dX0_countShared_22 ?_
        refine lv_land hx hb dX0_countShared_23 ?_
        refine CI.go (va_runS (As := [.long ((fx w_) &&& (fy w_))]) (rest := [.int (nI (cntB (fun q => Mx q && My q) (64 * w_)))]) ⟨hx, hb, hml, hown, hts⟩ (c_J13_bitCount_95d88    _) (va_cwS 1 hts gX0_countShared_J13_bitCount_95d88 rfl rfl rfl (by decide +kernel) ⟨Nat.le_of_ble_eq_true rfl, Nat.le_of_ble_eq_true rfl⟩) ⟨pw_blind, fun U hU hW => pw_pre hK hP hD hU hW⟩ rfl rfl hl.1 rfl (lv_room (Nat.le_of_ble_eq_true rfl)) dX0_countShared_24 ⟨Nat.le_of_ble_eq_true rfl, Nat.le_of_ble_eq_true rfl⟩) hD hS hA (fun r_1 ws_2 H locs hp hP hD hS => ?_)
        obtain ⟨rfl, rfl⟩ := hp
        refine nx_iadd hx hb dX0_countShared_27 ?_
        refine lv_istore_n (lv' := [(2, .int (nI ((cntB (fun q => Mx q && My q) (64 * w_)) + (cntB (lbit (fx w_ &&& fy w_)) 64)))), (0, .ref dx), (1, .ref dy), (3, .int (nI w_))]) hx hb dX0_countShared_28 rfl hl (by decide) rfl (fun ls hl => ?_)
        refine lv_iinc (v := (nI (w_ + 1))) (lv' := [(3, .int (nI (w_ + 1))), (2, .int (nI ((cntB (fun q => Mx q && My q) (64 * w_)) + (cntB (lbit (fx w_ &&& fy w_)) 64)))), (0, .ref dx), (1, .ref dy)]) hx hb dX0_countShared_29 hl (k := 3) rfl (nx_inc _ 1) (by decide) rfl (fun ls hl => ?_)
        refine lv_goto (tgt := 4) hx hb dX0_countShared_32 (by decide) ?_
        have hl : lv_has ls 4 [(3, .int (nI (w_ + 1))), (2, .int (nI (cntB (fun q => Mx q && My q) (64 * (w_ + 1))))), (0, .ref dx), (1, .ref dy)] := by rw [← show (cntB (fun q => Mx q && My q) (64 * w_)) + (cntB (lbit (fx w_ &&& fy w_)) 64) = cntB (fun q => Mx q && My q) (64 * (w_ + 1)) from (cnt_words hsx hsy (by omega)).symm]; exact hl
        exact ih_4 (w_ + 1) (by omega) (by omega) _ _ _  hP hD hS (lv_sub hl [2, 3, 1, 0] rfl)
  exact lp_4 _ 0 (Nat.lt_succ_self _) (by decide) _ _ _  hP hD hS (lv_sub hl [2, 3, 1, 0] rfl)
