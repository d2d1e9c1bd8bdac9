theorem nI_nm1 {q : Nat} (h : q < 2 ^ 31) : ¬ nI q = -1 := fun e => by
  have h1 := nI_pos' h
  rw [e] at h1
  exact absurd h1 (by decide)
theorem mul_sm {a b : Nat} (h1 : a ≤ 1600) (h2 : b ≤ 1601) : a * b < 2 ^ 31 := by
  have := Nat.mul_le_mul h1 h2
  omega
theorem bandF_lt {zx zy r b q : Nat} {f g : Nat → Nat} (h : bandF zx zy f g r b = some q) : q < b := by
  unfold bandF at h
  split at h
  · cases h
  · rw [fstB, List.find?_range_eq_some] at h
    exact List.mem_range.mp h.2.1
theorem bool0 {b : Bool} (h : b.toNat = 0) : b = false := by cases b with
  | false => rfl
  | true => cases h
theorem bool1 {b : Bool} (h : 0 < b.toNat) : b = true := by cases b with
  | true => rfl
  | false => cases h
theorem fb_m {bb rr i : Nat} (h : bb * rr ≤ 64) (hi : i < bb) : i * rr + rr ≤ 64 := by
  have h1 : (i + 1) * rr ≤ bb * rr := Nat.mul_le_mul_right _ hi
  rw [Nat.succ_mul] at h1
  omega

set_option maxHeartbeats 4000000 in
set_option maxRecDepth 100000 in
theorem c_X2_takeBands {D : va_G} {cB cI cJ cO : ClassId} {l : Launch} {e0 bb rr pp qq : Nat} {b r_ : Int32} {ws : va_W} (g20 : ws[20]? = some (e0, .inr (3, [.int (nI bb), .int (nI rr), .int (nI pp), .int (nI qq)])))  : CI D (TY cB cI cJ cO) l yX2_takeBands wsX2_takeBands ({ frames := 0, cells := 0, slots := 0, locals := 0 }) [.ref e0, .int b, .int r_] ws (fun r ws' => r = nI ((bandOk b r_).toNat) ∧ Sm (fun k => k = 20) ws ws' ∧ ws'[20]? = some (e0, .inr (3, [.int (nI (bandN b r_ bb)), .int (nI (bandN2 b r_ rr)), .int (nI pp), .int (nI qq)]))) := by
  refine CI.of (cc := cX2_takeBands) (maxL := 3) (ret := (some .boolean)) (by decide) rfl (Nat.le_of_ble_eq_true rfl) ?_
  intro p e s m below meth c A C hK hP hD hA hS ls hl
  obtain ⟨hx, hb, hr, hml, hts, hown, hlocks, hnm⟩ := id C
  have fl_9 := hts (.fieldLink RX2 9 "TwinFinder$Measure" "bandCount" "I") (by decide +kernel)
  have fl_15 := hts (.fieldLink RX2 15 "TwinFinder$Measure" "rowCount" "I") (by decide +kernel)
  have hin_X2 : ∀ w ∈ u_ws RX2 TX2 4, w ∈ wsX2_takeBands := by decide +kernel
  have hl : lv_has ls 3 [(0, .ref e0), (1, .int b), (2, .int r_)] := hl
  have sm : Sm (fun k => k = 20) ws ws := Sm.rf
  have hc0 : (0 : Nat) ≤ 0 := by decide
  have hs0 : (0 : Nat) ≤ 0 := by decide
  refine lv_iload_n hx hb dX2_takeBands_0 rfl (lv_at hl 1 rfl) ?_
  refine lv_iconst (v := nI 1) hx hb dX2_takeBands_1 (by decide) ?_
  refine lv_icmp_lt (tgt := 30) hx hb dX2_takeBands_2 (by decide) (fun c_2 => ?_) (fun c_2 => ?_)
  · refine lv_iconst (v := nI 0) hx hb dX2_takeBands_30 (by decide) ?_
    have hno : bandOk b r_ = false := by simp [bandOk, c_2]
    have g20 : ws[20]? = some (e0, .inr (3, [.int (nI (bandN b r_ bb)), .int (nI (bandN2 b r_ rr)), .int (nI pp), .int (nI qq)])) := by rw [bandN, bandN2, hno]; exact g20
    exact CI.ret (v := (nI 0)) C hK hP hD hS (by decide) (⟨(by rw [hno]; rfl), sm, g20⟩) hc0 hs0 dX2_takeBands_31
  · refine lv_iload_n hx hb dX2_takeBands_5 rfl (lv_at hl 2 rfl) ?_
    refine lv_iconst (v := nI 1) hx hb dX2_takeBands_6 (by decide) ?_
    refine lv_icmp_lt (tgt := 30) hx hb dX2_takeBands_7 (by decide) (fun c_7 => ?_) (fun c_7 => ?_)
    · refine lv_iconst (v := nI 0) hx hb dX2_takeBands_30 (by decide) ?_
      have hno : bandOk b r_ = false := by simp [bandOk, c_2, c_7]
      have g20 : ws[20]? = some (e0, .inr (3, [.int (nI (bandN b r_ bb)), .int (nI (bandN2 b r_ rr)), .int (nI pp), .int (nI qq)])) := by rw [bandN, bandN2, hno]; exact g20
      exact CI.ret (v := (nI 0)) C hK hP hD hS (by decide) (⟨(by rw [hno]; rfl), sm, g20⟩) hc0 hs0 dX2_takeBands_31
    · refine lv_iload_n hx hb dX2_takeBands_10 rfl (lv_at hl 1 rfl) ?_
      refine lv_bipush (v := nI 64) hx hb dX2_takeBands_11 (by decide) ?_
      refine lv_icmp_gt (tgt := 30) hx hb dX2_takeBands_13 (by decide) (fun c_13 => ?_) (fun c_13 => ?_)
      · refine lv_iconst (v := nI 0) hx hb dX2_takeBands_30 (by decide) ?_
        have hno : bandOk b r_ = false := by simp [bandOk, c_2, c_7, c_13]
        have g20 : ws[20]? = some (e0, .inr (3, [.int (nI (bandN b r_ bb)), .int (nI (bandN2 b r_ rr)), .int (nI pp), .int (nI qq)])) := by rw [bandN, bandN2, hno]; exact g20
        exact CI.ret (v := (nI 0)) C hK hP hD hS (by decide) (⟨(by rw [hno]; rfl), sm, g20⟩) hc0 hs0 dX2_takeBands_31
      · refine lv_iload_n hx hb dX2_takeBands_16 rfl (lv_at hl 2 rfl) ?_
        refine lv_bipush (v := nI 64) hx hb dX2_takeBands_17 (by decide) ?_
        refine lv_icmp_gt (tgt := 30) hx hb dX2_takeBands_19 (by decide) (fun c_19 => ?_) (fun c_19 => ?_)
        · refine lv_iconst (v := nI 0) hx hb dX2_takeBands_30 (by decide) ?_
          have hno : bandOk b r_ = false := by simp [bandOk, c_2, c_7, c_13, c_19]
          have g20 : ws[20]? = some (e0, .inr (3, [.int (nI (bandN b r_ bb)), .int (nI (bandN2 b r_ rr)), .int (nI pp), .int (nI qq)])) := by rw [bandN, bandN2, hno]; exact g20
          exact CI.ret (v := (nI 0)) C hK hP hD hS (by decide) (⟨(by rw [hno]; rfl), sm, g20⟩) hc0 hs0 dX2_takeBands_31
        · refine lv_iload_n hx hb dX2_takeBands_22 rfl (lv_at hl 1 rfl) ?_
          refine lv_iload_n hx hb dX2_takeBands_23 rfl (lv_at hl 2 rfl) ?_
          refine lv_imul hx hb dX2_takeBands_24 ?_
          refine lv_bipush (v := nI 64) hx hb dX2_takeBands_25 (by decide) ?_
          refine lv_icmp_le (tgt := 32) hx hb dX2_takeBands_27 (by decide) (fun c_27 => ?_) (fun c_27 => ?_)
          · refine lv_aload_n hx hb dX2_takeBands_32 rfl (lv_at hl 0 rfl) ?_
            refine lv_iload_n hx hb dX2_takeBands_33 rfl (lv_at hl 1 rfl) ?_
            refine nx_put (D := D) (ci := 3) (v := .int b) (ty := .int) (C := RX2) (T := TX2) (N := 4) hx hb hts hin_X2 tyX2 tyX2_ok nmX2 hown hK hP hD hS 20 g20 rfl 0 (by decide) fl_9 (fun _ h9 => h9) rfl (by decide +kernel) rfl rfl (Nat.le_of_ble_eq_true rfl) dX2_takeBands_34 (fun ws_1 H locs gq up_2 hP hD hS => ?_)
            have g20 : ws_1[20]? = some (e0, .inr (3, [.int b, .int (nI rr), .int (nI pp), .int (nI qq)])) := gq
            have sm := sm.up up_2 (by simp)
            refine lv_aload_n hx hb dX2_takeBands_37 rfl (lv_at hl 0 rfl) ?_
            refine lv_iload_n hx hb dX2_takeBands_38 rfl (lv_at hl 2 rfl) ?_
            refine nx_put (D := D) (ci := 3) (v := .int r_) (ty := .int) (C := RX2) (T := TX2) (N := 4) hx hb hts hin_X2 tyX2 tyX2_ok nmX2 hown hK hP hD hS 20 g20 rfl 1 (by decide) fl_15 (fun _ h9 => h9) rfl (by decide +kernel) rfl rfl (Nat.le_of_ble_eq_true rfl) dX2_takeBands_39 (fun ws_3 H locs gq up_4 hP hD hS => ?_)
            have g20 : ws_3[20]? = some (e0, .inr (3, [.int b, .int r_, .int (nI pp), .int (nI qq)])) := gq
            have sm := sm.up up_4 (by simp)
            refine lv_iconst (v := nI 1) hx hb dX2_takeBands_42 (by decide) ?_
            have hok : bandOk b r_ = true := by simp [bandOk, c_2, c_7, c_13, c_19, c_27]
            have g20 : ws_3[20]? = some (e0, .inr (3, [.int (nI (bandN b r_ bb)), .int (nI (bandN2 b r_ rr)), .int (nI pp), .int (nI qq)])) := by rw [bandN, bandN2, hok, if_pos rfl, if_pos rfl, nI_back1 c_2, nI_back1 c_7]; exact g20
            exact CI.ret (v := (nI 1)) C hK hP hD hS (by decide) (⟨(by rw [hok]; rfl), sm, g20⟩) hc0 hs0 dX2_takeBands_43
          · refine lv_iconst (v := nI 0) hx hb dX2_takeBands_30 (by decide) ?_
            have hno : bandOk b r_ = false := by simp [bandOk, c_2, c_7, c_13, c_19, c_27]
            have g20 : ws[20]? = some (e0, .inr (3, [.int (nI (bandN b r_ bb)), .int (nI (bandN2 b r_ rr)), .int (nI pp), .int (nI qq)])) := by rw [bandN, bandN2, hno]; exact g20
            exact CI.ret (v := (nI 0)) C hK hP hD hS (by decide) (⟨(by rw [hno]; rfl), sm, g20⟩) hc0 hs0 dX2_takeBands_31
set_option maxHeartbeats 4000000 in
set_option maxRecDepth 100000 in
theorem c_X2_takeThreshold {D : va_G} {cB cI cJ cO : ClassId} {l : Launch} {e0 bb rr pp qq : Nat} {p1 q1 : Int32} {ws : va_W} (g20 : ws[20]? = some (e0, .inr (3, [.int (nI bb), .int (nI rr), .int (nI pp), .int (nI qq)])))  : CI D (TY cB cI cJ cO) l yX2_takeThreshold wsX2_takeThreshold ({ frames := 0, cells := 0, slots := 0, locals := 0 }) [.ref e0, .int p1, .int q1] ws (fun r ws' => r = nI ((thrOk p1 q1).toNat) ∧ Sm (fun k => k = 20) ws ws' ∧ ws'[20]? = some (e0, .inr (3, [.int (nI bb), .int (nI rr), .int (nI (thrN p1 q1 pp)), .int (nI (thrN2 p1 q1 qq))]))) := by
  refine CI.of (cc := cX2_takeThreshold) (maxL := 3) (ret := (some .boolean)) (by decide) rfl (Nat.le_of_ble_eq_true rfl) ?_
  intro p e s m below meth c A C hK hP hD hA hS ls hl
  obtain ⟨hx, hb, hr, hml, hts, hown, hlocks, hnm⟩ := id C
  have fl_18 := hts (.fieldLink RX2 18 "TwinFinder$Measure" "p" "I") (by decide +kernel)
  have fl_21 := hts (.fieldLink RX2 21 "TwinFinder$Measure" "q" "I") (by decide +kernel)
  have hin_X2 : ∀ w ∈ u_ws RX2 TX2 4, w ∈ wsX2_takeThreshold := by decide +kernel
  have hl : lv_has ls 3 [(0, .ref e0), (1, .int p1), (2, .int q1)] := hl
  have sm : Sm (fun k => k = 20) ws ws := Sm.rf
  have hc0 : (0 : Nat) ≤ 0 := by decide
  have hs0 : (0 : Nat) ≤ 0 := by decide
  refine lv_iload_n hx hb dX2_takeThreshold_0 rfl (lv_at hl 1 rfl) ?_
  refine lv_if_lt (tgt := 21) hx hb dX2_takeThreshold_1 (by decide) (fun c_1 => ?_) (fun c_1 => ?_)
  · refine lv_iconst (v := nI 0) hx hb dX2_takeThreshold_21 (by decide) ?_
    have hno : thrOk p1 q1 = false := by simp [thrOk, c_1]
    have g20 : ws[20]? = some (e0, .inr (3, [.int (nI bb), .int (nI rr), .int (nI (thrN p1 q1 pp)), .int (nI (thrN2 p1 q1 qq))])) := by rw [thrN, thrN2, hno]; exact g20
    exact CI.ret (v := (nI 0)) C hK hP hD hS (by decide) (⟨(by rw [hno]; rfl), sm, g20⟩) hc0 hs0 dX2_takeThreshold_22
  · refine lv_iload_n hx hb dX2_takeThreshold_4 rfl (lv_at hl 1 rfl) ?_
    refine lv_iload_n hx hb dX2_takeThreshold_5 rfl (lv_at hl 2 rfl) ?_
    refine lv_icmp_gt (tgt := 21) hx hb dX2_takeThreshold_6 (by decide) (fun c_6 => ?_) (fun c_6 => ?_)
    · refine lv_iconst (v := nI 0) hx hb dX2_takeThreshold_21 (by decide) ?_
      have hno : thrOk p1 q1 = false := by simp [thrOk, c_1, c_6]
      have g20 : ws[20]? = some (e0, .inr (3, [.int (nI bb), .int (nI rr), .int (nI (thrN p1 q1 pp)), .int (nI (thrN2 p1 q1 qq))])) := by rw [thrN, thrN2, hno]; exact g20
      exact CI.ret (v := (nI 0)) C hK hP hD hS (by decide) (⟨(by rw [hno]; rfl), sm, g20⟩) hc0 hs0 dX2_takeThreshold_22
    · refine lv_iload_n hx hb dX2_takeThreshold_9 rfl (lv_at hl 2 rfl) ?_
      refine lv_iconst (v := nI 1) hx hb dX2_takeThreshold_10 (by decide) ?_
      refine lv_icmp_lt (tgt := 21) hx hb dX2_takeThreshold_11 (by decide) (fun c_11 => ?_) (fun c_11 => ?_)
      · refine lv_iconst (v := nI 0) hx hb dX2_takeThreshold_21 (by decide) ?_
        have hno : thrOk p1 q1 = false := by simp [thrOk, c_1, c_6, c_11]
        have g20 : ws[20]? = some (e0, .inr (3, [.int (nI bb), .int (nI rr), .int (nI (thrN p1 q1 pp)), .int (nI (thrN2 p1 q1 qq))])) := by rw [thrN, thrN2, hno]; exact g20
        exact CI.ret (v := (nI 0)) C hK hP hD hS (by decide) (⟨(by rw [hno]; rfl), sm, g20⟩) hc0 hs0 dX2_takeThreshold_22
      · refine lv_iload_n hx hb dX2_takeThreshold_14 rfl (lv_at hl 2 rfl) ?_
        refine lv_sipush (v := nI 10000) hx hb dX2_takeThreshold_15 (by decide) ?_
        refine lv_icmp_le (tgt := 23) hx hb dX2_takeThreshold_18 (by decide) (fun c_18 => ?_) (fun c_18 => ?_)
        · refine lv_aload_n hx hb dX2_takeThreshold_23 rfl (lv_at hl 0 rfl) ?_
          refine lv_iload_n hx hb dX2_takeThreshold_24 rfl (lv_at hl 1 rfl) ?_
          refine nx_put (D := D) (ci := 3) (v := .int p1) (ty := .int) (C := RX2) (T := TX2) (N := 4) hx hb hts hin_X2 tyX2 tyX2_ok nmX2 hown hK hP hD hS 20 g20 rfl 2 (by decide) fl_18 (fun _ h9 => h9) rfl (by decide +kernel) rfl rfl (Nat.le_of_ble_eq_true rfl) dX2_takeThreshold_25 (fun ws_1 H locs gq up_2 hP hD hS => ?_)
          have g20 : ws_1[20]? = some (e0, .inr (3, [.int (nI bb), .int (nI rr), .int p1, .int (nI qq)])) := gq
          have sm := sm.up up_2 (by simp)
          refine lv_aload_n hx hb dX2_takeThreshold_28 rfl (lv_at hl 0 rfl) ?_
          refine lv_iload_n hx hb dX2_takeThreshold_29 rfl (lv_at hl 2 rfl) ?_
          refine nx_put (D := D) (ci := 3) (v := .int q1) (ty := .int) (C := RX2) (T := TX2) (N := 4) hx hb hts hin_X2 tyX2 tyX2_ok nmX2 hown hK hP hD hS 20 g20 rfl 3 (by decide) fl_21 (fun _ h9 => h9) rfl (by decide +kernel) rfl rfl (Nat.le_of_ble_eq_true rfl) dX2_takeThreshold_30 (fun ws_3 H locs gq up_4 hP hD hS => ?_)
          have g20 : ws_3[20]? = some (e0, .inr (3, [.int (nI bb), .int (nI rr), .int p1, .int q1])) := gq
          have sm := sm.up up_4 (by simp)
          refine lv_iconst (v := nI 1) hx hb dX2_takeThreshold_33 (by decide) ?_
          have hok : thrOk p1 q1 = true := by simp [thrOk, c_1, c_6, c_11, c_18]
          have g20 : ws_3[20]? = some (e0, .inr (3, [.int (nI bb), .int (nI rr), .int (nI (thrN p1 q1 pp)), .int (nI (thrN2 p1 q1 qq))])) := by rw [thrN, thrN2, hok, if_pos rfl, if_pos rfl, nI_back c_1, nI_back1 c_11]; exact g20
          exact CI.ret (v := (nI 1)) C hK hP hD hS (by decide) (⟨(by rw [hok]; rfl), sm, g20⟩) hc0 hs0 dX2_takeThreshold_34
        · refine lv_iconst (v := nI 0) hx hb dX2_takeThreshold_21 (by decide) ?_
          have hno : thrOk p1 q1 = false := by simp [thrOk, c_1, c_6, c_11, c_18]
          have g20 : ws[20]? = some (e0, .inr (3, [.int (nI bb), .int (nI rr), .int (nI (thrN p1 q1 pp)), .int (nI (thrN2 p1 q1 qq))])) := by rw [thrN, thrN2, hno]; exact g20
          exact CI.ret (v := (nI 0)) C hK hP hD hS (by decide) (⟨(by rw [hno]; rfl), sm, g20⟩) hc0 hs0 dX2_takeThreshold_22
set_option maxHeartbeats 4000000 in
set_option maxRecDepth 100000 in
theorem c_X2_common {D : va_G} {cB cI cJ cO : ClassId} {l : Launch} {e0 : Nat} {px px4 ax x1 x2 x3 x4 sx nx zx : Nat} {py ay y1 y2 y3 y4 sy ny zy : Nat} {kx : Nat → Nat} {ws : va_W} (gpx : ws[px]? = some (ax, .inr (1, [.int (nI sx), .ref x1, .ref x2, .ref x3, .ref x4, .int (nI nx), .int (nI zx)]))) (gpx4 : ws[px4]? = some (x4, .inl (cI, 48, .inl (fun j => nI (kx j))))) (gpy : ws[py]? = some (ay, .inr (1, [.int (nI sy), .ref y1, .ref y2, .ref y3, .ref y4, .int (nI ny), .int (nI zy)]))) (hsy : sy < 48) : CI D (TY cB cI cJ cO) l yX2_common wsX2_common ({ frames := 0, cells := 0, slots := 0, locals := 0 }) [.ref e0, .ref ax, .ref ay] ws (fun r ws' => r = nI (kx sy) ∧ ws = ws') := by
  refine CI.of (cc := cX2_common) (maxL := 3) (ret := (some .int)) (by decide) rfl (Nat.le_of_ble_eq_true rfl) ?_
  intro p e s m below meth c A C hK hP hD hA hS ls hl
  obtain ⟨hx, hb, hr, hml, hts, hown, hlocks, hnm⟩ := id C
  have fl_24 := hts (.fieldLink RX2 24 "TwinFinder$Document" "shared" "[I") (by decide +kernel)
  have fl_30 := hts (.fieldLink RX2 30 "TwinFinder$Document" "slot" "I") (by decide +kernel)
  have hin_X0 : ∀ w ∈ u_ws RX0 TX0 7, w ∈ wsX2_common := by decide +kernel
  have hl : lv_has ls 3 [(0, .ref e0), (1, .ref ax), (2, .ref ay)] := hl
  have sm : Sm (fun _ => False) ws ws := Sm.rf
  have hc0 : (0 : Nat) ≤ 0 := by decide
  have hs0 : (0 : Nat) ≤ 0 := by decide
  refine lv_aload_n hx hb dX2_common_0 rfl (lv_at hl 1 rfl) ?_
  refine va_get (D := D) (ci := 1) (v := .ref x4) (C := RX0) (T := TX0) (N := 7) hx hb hts hin_X0 hown hK hP px gpx rfl 4 (by decide) fl_24 (fun _ h9 => h9) rfl dX2_common_1 ?_
  refine lv_aload_n hx hb dX2_common_4 rfl (lv_at hl 2 rfl) ?_
  refine va_get (D := D) (ci := 1) (v := .int (nI sy)) (C := RX0) (T := TX0) (N := 7) hx hb hts hin_X0 hown hK hP py gpy rfl 0 (by decide) fl_30 (fun _ h9 => h9) rfl dX2_common_5 ?_
  refine nx_iald hx hb hK hP px4 1 gpx4 rfl (k := sy) (by omega) (by decide) dX2_common_8 ?_
  exact CI.ret (v := (nI (kx sy))) C hK hP hD hS rfl (⟨rfl, rfl⟩) hc0 hs0 dX2_common_9
set_option maxHeartbeats 4000000 in
set_option maxRecDepth 100000 in
theorem c_X2_all {D : va_G} {cB cI cJ cO : ClassId} {l : Launch} {e0 bb rr pp qq : Nat} {px px4 ax x1 x2 x3 x4 sx nx zx : Nat} {py ay y1 y2 y3 y4 sy ny zy : Nat} {kx : Nat → Nat} {ws : va_W} (g20 : ws[20]? = some (e0, .inr (3, [.int (nI bb), .int (nI rr), .int (nI pp), .int (nI qq)]))) (gpx : ws[px]? = some (ax, .inr (1, [.int (nI sx), .ref x1, .ref x2, .ref x3, .ref x4, .int (nI nx), .int (nI zx)]))) (gpx4 : ws[px4]? = some (x4, .inl (cI, 48, .inl (fun j => nI (kx j))))) (gpy : ws[py]? = some (ay, .inr (1, [.int (nI sy), .ref y1, .ref y2, .ref y3, .ref y4, .int (nI ny), .int (nI zy)]))) (hsy : sy < 48) (hley : kx sy ≤ zx + zy) : CI D (TY cB cI cJ cO) l yX2_all wsX2_all ({ frames := 1, cells := 0, slots := 0, locals := 22 }) [.ref e0, .ref ax, .ref ay] ws (fun r ws' => r = nI (zx + zy - kx sy) ∧ ws = ws') := by
  refine CI.of (cc := cX2_all) (maxL := 3) (ret := (some .int)) (by decide) rfl (Nat.le_of_ble_eq_true rfl) ?_
  intro p e s m below meth c A C hK hP hD hA hS ls hl
  obtain ⟨hx, hb, hr, hml, hts, hown, hlocks, hnm⟩ := id C
  have fl_33 := hts (.fieldLink RX2 33 "TwinFinder$Document" "size" "I") (by decide +kernel)
  have hin_X0 : ∀ w ∈ u_ws RX0 TX0 7, w ∈ wsX2_all := by decide +kernel
  have hl : lv_has ls 3 [(0, .ref e0), (1, .ref ax), (2, .ref ay)] := hl
  have sm : Sm (fun _ => False) ws ws := Sm.rf
  have hc0 : (0 : Nat) ≤ 0 := by decide
  have hs0 : (0 : Nat) ≤ 0 := by decide
  refine lv_aload_n hx hb dX2_all_0 rfl (lv_at hl 1 rfl) ?_
  refine va_get (D := D) (ci := 1) (v := .int (nI zx)) (C := RX0) (T := TX0) (N := 7) hx hb hts hin_X0 hown hK hP px gpx rfl 6 (by decide) fl_33 (fun _ h9 => h9) rfl dX2_all_1 ?_
  refine lv_aload_n hx hb dX2_all_4 rfl (lv_at hl 2 rfl) ?_
  refine va_get (D := D) (ci := 1) (v := .int (nI zy)) (C := RX0) (T := TX0) (N := 7) hx hb hts hin_X0 hown hK hP py gpy rfl 6 (by decide) fl_33 (fun _ h9 => h9) rfl dX2_all_5 ?_
  refine nx_iadd hx hb dX2_all_8 ?_
  refine lv_aload_n hx hb dX2_all_9 rfl (lv_at hl 0 rfl) ?_
  refine lv_aload_n hx hb dX2_all_10 rfl (lv_at hl 1 rfl) ?_
  refine lv_aload_n hx hb dX2_all_11 rfl (lv_at hl 2 rfl) ?_
  refine CI.go (va_runV (As := [.ref ax, .ref ay]) (rest := [.int (nI (zx + zy))]) ⟨hx, hb, hml, hown, hts⟩ (c_X2_common  gpx gpx4 gpy hsy _) (cwV 2 hts gX2_all_X2_common rfl rfl rfl (by decide +kernel) ⟨Nat.le_of_ble_eq_true rfl, Nat.le_of_ble_eq_true rfl⟩) ⟨pw_blind, va_recv hK hP (ci := 3) (q0 := 20) rfl g20, fun U hU hW => pw_pre hK hP hD hU hW⟩ rfl rfl hl.1 rfl (lv_room (Nat.le_of_ble_eq_true rfl)) dX2_all_12 ⟨by decide, by decide⟩) hD hS hA (fun r_1 ws_2 H locs hp hP hD hS => ?_)
  obtain ⟨rfl, rfl⟩ := hp
  refine nx_isub hx hb (by omega) dX2_all_15 ?_
  exact CI.ret (v := (nI ((zx + zy) - (kx sy)))) C hK hP hD hS rfl (⟨rfl, rfl⟩) hc0 hs0 dX2_all_16
set_option maxHeartbeats 4000000 in
set_option maxRecDepth 100000 in
theorem c_X2_sameImages {D : va_G} {cB cI cJ cO : ClassId} {l : Launch} {e0 bb rr pp qq : Nat} {px px3 ax x1 x2 x3 x4 sx nx zx : Nat} {py py3 ay y1 y2 y3 y4 sy ny zy : Nat} {lx ly : Nat → Nat} {ws : va_W} (g20 : ws[20]? = some (e0, .inr (3, [.int (nI bb), .int (nI rr), .int (nI pp), .int (nI qq)]))) (gpx : ws[px]? = some (ax, .inr (1, [.int (nI sx), .ref x1, .ref x2, .ref x3, .ref x4, .int (nI nx), .int (nI zx)]))) (gpx3 : ws[px3]? = some (x3, .inl (cI, 64, .inl (fun j => nI (lx j))))) (gpy : ws[py]? = some (ay, .inr (1, [.int (nI sy), .ref y1, .ref y2, .ref y3, .ref y4, .int (nI ny), .int (nI zy)]))) (gpy3 : ws[py3]? = some (y3, .inl (cI, 64, .inl (fun j => nI (ly j))))) (hbr : bb * rr ≤ 64) (hlx : ∀ k, k < 64 → lx k < 2 ^ 31) (hly : ∀ k, k < 64 → ly k < 2 ^ 31) : CI D (TY cB cI cJ cO) l yX2_sameImages wsX2_sameImages ({ frames := 0, cells := 0, slots := 0, locals := 0 }) [.ref e0, .ref ax, .ref ay] ws (fun r ws' => r = nI (cntE lx ly (bb * rr)) ∧ ws = ws') := by
  refine CI.of (cc := cX2_sameImages) (maxL := 5) (ret := (some .int)) (by decide) rfl (Nat.le_of_ble_eq_true rfl) ?_
  intro p e s m below meth c A C hK hP hD hA hS ls hl
  obtain ⟨hx, hb, hr, hml, hts, hown, hlocks, hnm⟩ := id C
  have fl_9 := hts (.fieldLink RX2 9 "TwinFinder$Measure" "bandCount" "I") (by decide +kernel)
  have fl_15 := hts (.fieldLink RX2 15 "TwinFinder$Measure" "rowCount" "I") (by decide +kernel)
  have fl_40 := hts (.fieldLink RX2 40 "TwinFinder$Document" "least" "[I") (by decide +kernel)
  have hin_X0 : ∀ w ∈ u_ws RX0 TX0 7, w ∈ wsX2_sameImages := by decide +kernel
  have hin_X2 : ∀ w ∈ u_ws RX2 TX2 4, w ∈ wsX2_sameImages := by decide +kernel
  have hl : lv_has ls 5 [(0, .ref e0), (1, .ref ax), (2, .ref ay)] := hl
  have sm : Sm (fun _ => False) ws ws := Sm.rf
  have hc0 : (0 : Nat) ≤ 0 := by decide
  have hs0 : (0 : Nat) ≤ 0 := by decide
  refine lv_iconst (v := nI 0) hx hb dX2_sameImages_0 (by decide) ?_
  refine lv_istore_n (lv' := [(3, .int (nI 0)), (0, .ref e0), (1, .ref ax), (2, .ref ay)]) hx hb dX2_sameImages_1 rfl hl (by decide) rfl (fun ls hl => ?_)
  refine lv_iconst (v := nI 0) hx hb dX2_sameImages_2 (by decide) ?_
  refine lv_istore (lv' := [(4, .int (nI 0)), (3, .int (nI 0)), (0, .ref e0), (1, .ref ax), (2, .ref ay)]) hx hb dX2_sameImages_3 hl (by decide) rfl (fun ls hl => ?_)
  have lp_5 : ∀ (fuel : Nat) (i : Nat), bb * rr - i < fuel → (i ≤ bb * rr) → ∀ (H : Heap) (locs : List Loc) (ls : Array Slot),  va_P D vwCl ws H → va_D A ws → va_S A s.heap H locs → lv_has ls 5 [(0, .ref e0), (1, .ref ax), (2, .ref ay), (3, .int (nI (cntE lx ly i))), (4, .int (nI i))] → W p l e ({ frames := 0, cells := 0, slots := 0, locals := 0 }) s m ([.ref e0, .ref ax, .ref ay] : List Value).toArray below meth c H locs 0 0 (ZI D (TY cB cI cJ cO) (fun r ws' => r = nI (cntE lx ly (bb * rr)) ∧ ws = ws') below [.ref e0, .ref ax, .ref ay] s 0 0 A) (F0 m 5 ls []) := by
    intro fuel
    induction fuel with
    | zero => intro i hfu; exact absurd hfu (Nat.not_lt_zero _)
    | succ fuel ih_5 =>
      intro i hfu_5 hi H locs ls hP hD hS hl
      refine lv_iload hx hb dX2_sameImages_5 (lv_at hl 4 rfl) ?_
      refine lv_aload_n hx hb dX2_sameImages_7 rfl (lv_at hl 0 rfl) ?_
      refine va_get (D := D) (ci := 3) (v := .int (nI bb)) (C := RX2) (T := TX2) (N := 4) hx hb hts hin_X2 hown hK hP 20 g20 rfl 0 (by decide) fl_9 (fun _ h9 => h9) rfl dX2_sameImages_8 ?_
      refine lv_aload_n hx hb dX2_sameImages_11 rfl (lv_at hl 0 rfl) ?_
      refine va_get (D := D) (ci := 3) (v := .int (nI rr)) (C := RX2) (T := TX2) (N := 4) hx hb hts hin_X2 hown hK hP 20 g20 rfl 1 (by decide) fl_15 (fun _ h9 => h9) rfl dX2_sameImages_12 ?_
      refine nx_imul hx hb dX2_sameImages_15 ?_
      refine nx_icmp_ge (tgt := 45) hx hb (by omega) (by omega) dX2_sameImages_16 (by decide) (fun c_16 => ?_) (fun c_16 => ?_)
      · refine lv_iload_n hx hb dX2_sameImages_45 rfl (lv_at hl 3 rfl) ?_
        exact CI.ret (v := (nI (cntE lx ly i))) C hK hP hD hS rfl (⟨(by rw [show i = bb * rr by omega]), rfl⟩) hc0 hs0 dX2_sameImages_46
      · refine lv_aload_n hx hb dX2_sameImages_19 rfl (lv_at hl 1 rfl) ?_
        refine va_get (D := D) (ci := 1) (v := .ref x3) (C := RX0) (T := TX0) (N := 7) hx hb hts hin_X0 hown hK hP px gpx rfl 3 (by decide) fl_40 (fun _ h9 => h9) rfl dX2_sameImages_20 ?_
        refine lv_iload hx hb dX2_sameImages_23 (lv_at hl 4 rfl) ?_
        refine nx_iald hx hb hK hP px3 1 gpx3 rfl (k := i) (by omega) (by decide) dX2_sameImages_25 ?_
        refine lv_aload_n hx hb dX2_sameImages_26 rfl (lv_at hl 2 rfl) ?_
        refine va_get (D := D) (ci := 1) (v := .ref y3) (C := RX0) (T := TX0) (N := 7) hx hb hts hin_X0 hown hK hP py gpy rfl 3 (by decide) fl_40 (fun _ h9 => h9) rfl dX2_sameImages_27 ?_
        refine lv_iload hx hb dX2_sameImages_30 (lv_at hl 4 rfl) ?_
        refine nx_iald hx hb hK hP py3 1 gpy3 rfl (k := i) (by omega) (by decide) dX2_sameImages_32 ?_
        refine nx_icmp_ne (tgt := 39) hx hb (hlx i (by omega)) (hly i (by omega)) dX2_sameImages_33 (by decide) (fun c_33 => ?_) (fun c_33 => ?_)
        · refine lv_iinc (v := (nI (i + 1))) (lv' := [(4, .int (nI (i + 1))), (0, .ref e0), (1, .ref ax), (2, .ref ay), (3, .int (nI (cntE lx ly i)))]) hx hb dX2_sameImages_39 hl (k := 4) rfl (nx_inc _ 1) (by decide) rfl (fun ls hl => ?_)
          refine lv_goto (tgt := 5) hx hb dX2_sameImages_42 (by decide) ?_
          have hl : lv_has ls 5 [(4, .int (nI (i + 1))), (0, .ref e0), (1, .ref ax), (2, .ref ay), (3, .int (nI (cntE lx ly (i + 1))))] := by rw [← show cntE lx ly i = cntE lx ly (i + 1) from (by rw [cntE]; first | (rw [if_pos c_33]; done) | (rw [if_neg c_33]; rfl))]; exact hl
          exact ih_5 (i + 1) (by omega) (by omega) _ _ _  hP hD hS (lv_sub hl [1, 2, 3, 4, 0] rfl)
        · refine lv_iinc (v := (nI ((cntE lx ly i) + 1))) (lv' := [(3, .int (nI ((cntE lx ly i) + 1))), (0, .ref e0), (1, .ref ax), (2, .ref ay), (4, .int (nI i))]) hx hb dX2_sameImages_36 hl (k := 3) rfl (nx_inc _ 1) (by decide) rfl (fun ls hl => ?_)
          refine lv_iinc (v := (nI (i + 1))) (lv' := [(4, .int (nI (i + 1))), (3, .int (nI ((cntE lx ly i) + 1))), (0, .ref e0), (1, .ref ax), (2, .ref ay)]) hx hb dX2_sameImages_39 hl (k := 4) rfl (nx_inc _ 1) (by decide) rfl (fun ls hl => ?_)
          refine lv_goto (tgt := 5) hx hb dX2_sameImages_42 (by decide) ?_
          have hl : lv_has ls 5 [(4, .int (nI (i + 1))), (3, .int (nI (cntE lx ly (i + 1)))), (0, .ref e0), (1, .ref ax), (2, .ref ay)] := by rw [← show (cntE lx ly i) + 1 = cntE lx ly (i + 1) from (by rw [cntE]; first | (rw [if_pos c_33]; done) | (rw [if_neg c_33]; rfl))]; exact hl
          exact ih_5 (i + 1) (by omega) (by omega) _ _ _  hP hD hS (lv_sub hl [2, 3, 4, 1, 0] rfl)
  exact lp_5 _ 0 (Nat.lt_succ_self _) (by omega) _ _ _  hP hD hS (lv_sub hl [2, 3, 4, 1, 0] rfl)
set_option maxHeartbeats 4000000 in
set_option maxRecDepth 100000 in
theorem c_X2_agree {D : va_G} {cB cI cJ cO : ClassId} {l : Launch} {e0 bb rr pp qq : Nat} {px px3 ax x1 x2 x3 x4 sx nx zx : Nat} {py py3 ay y1 y2 y3 y4 sy ny zy : Nat} {lx ly : Nat → Nat} {fr : Nat} {ws : va_W} (g20 : ws[20]? = some (e0, .inr (3, [.int (nI bb), .int (nI rr), .int (nI pp), .int (nI qq)]))) (gpx : ws[px]? = some (ax, .inr (1, [.int (nI sx), .ref x1, .ref x2, .ref x3, .ref x4, .int (nI nx), .int (nI zx)]))) (gpx3 : ws[px3]? = some (x3, .inl (cI, 64, .inl (fun j => nI (lx j))))) (gpy : ws[py]? = some (ay, .inr (1, [.int (nI sy), .ref y1, .ref y2, .ref y3, .ref y4, .int (nI ny), .int (nI zy)]))) (gpy3 : ws[py3]? = some (y3, .inl (cI, 64, .inl (fun j => nI (ly j))))) (hbr : fr + rr ≤ 64) (hlx : ∀ k, k < 64 → lx k < 2 ^ 31) (hly : ∀ k, k < 64 → ly k < 2 ^ 31) : CI D (TY cB cI cJ cO) l yX2_agree wsX2_agree ({ frames := 0, cells := 0, slots := 0, locals := 0 }) [.ref e0, .ref ax, .ref ay, .int (nI fr)] ws (fun r ws' => r = nI ((agr lx ly fr rr).toNat) ∧ ws = ws') := by
  refine CI.of (cc := cX2_agree) (maxL := 5) (ret := (some .boolean)) (by decide) rfl (Nat.le_of_ble_eq_true rfl) ?_
  intro p e s m below meth c A C hK hP hD hA hS ls hl
  obtain ⟨hx, hb, hr, hml, hts, hown, hlocks, hnm⟩ := id C
  have fl_15 := hts (.fieldLink RX2 15 "TwinFinder$Measure" "rowCount" "I") (by decide +kernel)
  have fl_40 := hts (.fieldLink RX2 40 "TwinFinder$Document" "least" "[I") (by decide +kernel)
  have hin_X0 : ∀ w ∈ u_ws RX0 TX0 7, w ∈ wsX2_agree := by decide +kernel
  have hin_X2 : ∀ w ∈ u_ws RX2 TX2 4, w ∈ wsX2_agree := by decide +kernel
  have hl : lv_has ls 5 [(0, .ref e0), (1, .ref ax), (2, .ref ay), (3, .int (nI fr))] := hl
  have sm : Sm (fun _ => False) ws ws := Sm.rf
  have hc0 : (0 : Nat) ≤ 0 := by decide
  have hs0 : (0 : Nat) ≤ 0 := by decide
  refine lv_iload_n hx hb dX2_agree_0 rfl (lv_at hl 3 rfl) ?_
  refine lv_istore (lv' := [(4, .int (nI fr)), (0, .ref e0), (1, .ref ax), (2, .ref ay), (3, .int (nI fr))]) hx hb dX2_agree_1 hl (by decide) rfl (fun ls hl => ?_)
  have lp_3 : ∀ (fuel : Nat) (i : Nat), rr - i < fuel → (i ≤ rr) → (∀ k, k < i → lx (fr + k) = ly (fr + k)) → ∀ (H : Heap) (locs : List Loc) (ls : Array Slot),  va_P D vwCl ws H → va_D A ws → va_S A s.heap H locs → lv_has ls 5 [(0, .ref e0), (1, .ref ax), (2, .ref ay), (3, .int (nI fr)), (4, .int (nI (fr + i)))] → W p l e ({ frames := 0, cells := 0, slots := 0, locals := 0 }) s m ([.ref e0, .ref ax, .ref ay, .int (nI fr)] : List Value).toArray below meth c H locs 0 0 (ZI D (TY cB cI cJ cO) (fun r ws' => r = nI ((agr lx ly fr rr).toNat) ∧ ws = ws') below [.ref e0, .ref ax, .ref ay, .int (nI fr)] s 0 0 A) (F0 m 3 ls []) := by
    intro fuel
    induction fuel with
    | zero => intro i hfu; exact absurd hfu (Nat.not_lt_zero _)
    | succ fuel ih_3 =>
      intro i hfu_3 hi hag H locs ls hP hD hS hl
      refine lv_iload hx hb dX2_agree_3 (lv_at hl 4 rfl) ?_
      refine lv_iload_n hx hb dX2_agree_5 rfl (lv_at hl 3 rfl) ?_
      refine lv_aload_n hx hb dX2_agree_6 rfl (lv_at hl 0 rfl) ?_
      refine va_get (D := D) (ci := 3) (v := .int (nI rr)) (C := RX2) (T := TX2) (N := 4) hx hb hts hin_X2 hown hK hP 20 g20 rfl 1 (by decide) fl_15 (fun _ h9 => h9) rfl dX2_agree_7 ?_
      refine nx_iadd hx hb dX2_agree_10 ?_
      refine nx_icmp_ge (tgt := 39) hx hb (by omega) (by omega) dX2_agree_11 (by decide) (fun c_11 => ?_) (fun c_11 => ?_)
      · refine lv_iconst (v := nI 1) hx hb dX2_agree_39 (by decide) ?_
        exact CI.ret (v := (nI 1)) C hK hP hD hS (by decide) (⟨(by rw [agr_t (fun k hk => hag k (by omega))]; rfl), rfl⟩) hc0 hs0 dX2_agree_40
      · refine lv_aload_n hx hb dX2_agree_14 rfl (lv_at hl 1 rfl) ?_
        refine va_get (D := D) (ci := 1) (v := .ref x3) (C := RX0) (T := TX0) (N := 7) hx hb hts hin_X0 hown hK hP px gpx rfl 3 (by decide) fl_40 (fun _ h9 => h9) rfl dX2_agree_15 ?_
        refine lv_iload hx hb dX2_agree_18 (lv_at hl 4 rfl) ?_
        refine nx_iald hx hb hK hP px3 1 gpx3 rfl (k := (fr + i)) (by omega) (by decide) dX2_agree_20 ?_
        refine lv_aload_n hx hb dX2_agree_21 rfl (lv_at hl 2 rfl) ?_
        refine va_get (D := D) (ci := 1) (v := .ref y3) (C := RX0) (T := TX0) (N := 7) hx hb hts hin_X0 hown hK hP py gpy rfl 3 (by decide) fl_40 (fun _ h9 => h9) rfl dX2_agree_22 ?_
        refine lv_iload hx hb dX2_agree_25 (lv_at hl 4 rfl) ?_
        refine nx_iald hx hb hK hP py3 1 gpy3 rfl (k := (fr + i)) (by omega) (by decide) dX2_agree_27 ?_
        refine nx_icmp_eq (tgt := 33) hx hb (hlx _ (by omega)) (hly _ (by omega)) dX2_agree_28 (by decide) (fun c_28 => ?_) (fun c_28 => ?_)
        · refine lv_iinc (v := (nI ((fr + i) + 1))) (lv' := [(4, .int (nI ((fr + i) + 1))), (0, .ref e0), (1, .ref ax), (2, .ref ay), (3, .int (nI fr))]) hx hb dX2_agree_33 hl (k := 4) rfl (nx_inc _ 1) (by decide) rfl (fun ls hl => ?_)
          refine lv_goto (tgt := 3) hx hb dX2_agree_36 (by decide) ?_
          exact ih_3 (i + 1) (by omega) (by omega) (lt_s hag c_28) _ _ _  hP hD hS (lv_sub hl [1, 2, 3, 4, 0] rfl)
        · refine lv_iconst (v := nI 0) hx hb dX2_agree_31 (by decide) ?_
          exact CI.ret (v := (nI 0)) C hK hP hD hS (by decide) (⟨(by rw [agr_f (k := i) (by omega) c_28]; rfl), rfl⟩) hc0 hs0 dX2_agree_32
  exact lp_3 _ 0 (Nat.lt_succ_self _) (Nat.zero_le _) (fun k hk => absurd hk (Nat.not_lt_zero k)) _ _ _  hP hD hS (lv_sub hl [1, 2, 3, 4, 0] rfl)
set_option maxHeartbeats 4000000 in
set_option maxRecDepth 100000 in
theorem c_X2_firstBand {D : va_G} {cB cI cJ cO : ClassId} {l : Launch} {e0 bb rr pp qq : Nat} {px px3 ax x1 x2 x3 x4 sx nx zx : Nat} {py py3 ay y1 y2 y3 y4 sy ny zy : Nat} {lx ly : Nat → Nat} {ws : va_W} (g20 : ws[20]? = some (e0, .inr (3, [.int (nI bb), .int (nI rr), .int (nI pp), .int (nI qq)]))) (gpx : ws[px]? = some (ax, .inr (1, [.int (nI sx), .ref x1, .ref x2, .ref x3, .ref x4, .int (nI nx), .int (nI zx)]))) (gpx3 : ws[px3]? = some (x3, .inl (cI, 64, .inl (fun j => nI (lx j))))) (gpy : ws[py]? = some (ay, .inr (1, [.int (nI sy), .ref y1, .ref y2, .ref y3, .ref y4, .int (nI ny), .int (nI zy)]))) (gpy3 : ws[py3]? = some (y3, .inl (cI, 64, .inl (fun j => nI (ly j))))) (hbr : bb * rr ≤ 64) (hb64 : bb ≤ 64) (hr64 : rr ≤ 64) (hzx : zx ≤ 800) (hzy : zy ≤ 800) (hlx : ∀ k, k < 64 → lx k < 2 ^ 31) (hly : ∀ k, k < 64 → ly k < 2 ^ 31) : CI D (TY cB cI cJ cO) l yX2_firstBand wsX2_firstBand ({ frames := 1, cells := 0, slots := 0, locals := 24 }) [.ref e0, .ref ax, .ref ay] ws (fun r ws' => r = optI (bandF zx zy lx ly rr bb) ∧ ws = ws') := by
  refine CI.of (cc := cX2_firstBand) (maxL := 4) (ret := (some .int)) (by decide) rfl (Nat.le_of_ble_eq_true rfl) ?_
  intro p e s m below meth c A C hK hP hD hA hS ls hl
  obtain ⟨hx, hb, hr, hml, hts, hown, hlocks, hnm⟩ := id C
  have fl_9 := hts (.fieldLink RX2 9 "TwinFinder$Measure" "bandCount" "I") (by decide +kernel)
  have fl_15 := hts (.fieldLink RX2 15 "TwinFinder$Measure" "rowCount" "I") (by decide +kernel)
  have fl_33 := hts (.fieldLink RX2 33 "TwinFinder$Document" "size" "I") (by decide +kernel)
  have hin_X0 : ∀ w ∈ u_ws RX0 TX0 7, w ∈ wsX2_firstBand := by decide +kernel
  have hin_X2 : ∀ w ∈ u_ws RX2 TX2 4, w ∈ wsX2_firstBand := by decide +kernel
  have hl : lv_has ls 4 [(0, .ref e0), (1, .ref ax), (2, .ref ay)] := hl
  have sm : Sm (fun _ => False) ws ws := Sm.rf
  have hc0 : (0 : Nat) ≤ 0 := by decide
  have hs0 : (0 : Nat) ≤ 0 := by decide
  refine lv_aload_n hx hb dX2_firstBand_0 rfl (lv_at hl 1 rfl) ?_
  refine va_get (D := D) (ci := 1) (v := .int (nI zx)) (C := RX0) (T := TX0) (N := 7) hx hb hts hin_X0 hown hK hP px gpx rfl 6 (by decide) fl_33 (fun _ h9 => h9) rfl dX2_firstBand_1 ?_
  refine nx_if_eq (tgt := 14) hx hb (by omega) dX2_firstBand_4 (by decide) (fun c_4 => ?_) (fun c_4 => ?_)
  · refine lv_iconst (v := -1) hx hb dX2_firstBand_14 (by decide) ?_
    exact CI.ret (v := (-1)) C hK hP hD hS rfl (⟨(by rw [bandF, if_pos (by omega)]; rfl), rfl⟩) hc0 hs0 dX2_firstBand_15
  · refine lv_aload_n hx hb dX2_firstBand_7 rfl (lv_at hl 2 rfl) ?_
    refine va_get (D := D) (ci := 1) (v := .int (nI zy)) (C := RX0) (T := TX0) (N := 7) hx hb hts hin_X0 hown hK hP py gpy rfl 6 (by decide) fl_33 (fun _ h9 => h9) rfl dX2_firstBand_8 ?_
    refine nx_if_ne (tgt := 16) hx hb (by omega) dX2_firstBand_11 (by decide) (fun c_11 => ?_) (fun c_11 => ?_)
    · refine lv_iconst (v := nI 0) hx hb dX2_firstBand_16 (by decide) ?_
      refine lv_istore_n (lv' := [(3, .int (nI 0)), (0, .ref e0), (1, .ref ax), (2, .ref ay)]) hx hb dX2_firstBand_17 rfl hl (by decide) rfl (fun ls hl => ?_)
      have lp_18 : ∀ (fuel : Nat) (i : Nat), bb - i < fuel → (i ≤ bb) → (∀ k, k < i → agr lx ly (k * rr) rr = false) → ∀ (H : Heap) (locs : List Loc) (ls : Array Slot),  va_P D vwCl ws H → va_D A ws → va_S A s.heap H locs → lv_has ls 4 [(0, .ref e0), (1, .ref ax), (2, .ref ay), (3, .int (nI i))] → W p l e ({ frames := 1, cells := 0, slots := 0, locals := 24 }) s m ([.ref e0, .ref ax, .ref ay] : List Value).toArray below meth c H locs 0 0 (ZI D (TY cB cI cJ cO) (fun r ws' => r = optI (bandF zx zy lx ly rr bb) ∧ ws = ws') below [.ref e0, .ref ax, .ref ay] s 0 0 A) (F0 m 18 ls []) := by
        intro fuel
        induction fuel with
        | zero => intro i hfu; exact absurd hfu (Nat.not_lt_zero _)
        | succ fuel ih_18 =>
          intro i hfu_18 hi hno H locs ls hP hD hS hl
          refine lv_iload_n hx hb dX2_firstBand_18 rfl (lv_at hl 3 rfl) ?_
          refine lv_aload_n hx hb dX2_firstBand_19 rfl (lv_at hl 0 rfl) ?_
          refine va_get (D := D) (ci := 3) (v := .int (nI bb)) (C := RX2) (T := TX2) (N := 4) hx hb hts hin_X2 hown hK hP 20 g20 rfl 0 (by decide) fl_9 (fun _ h9 => h9) rfl dX2_firstBand_20 ?_
          refine nx_icmp_ge (tgt := 49) hx hb (by omega) (by omega) dX2_firstBand_23 (by decide) (fun c_23 => ?_) (fun c_23 => ?_)
          · refine lv_iconst (v := -1) hx hb dX2_firstBand_49 (by decide) ?_
            exact CI.ret (v := (-1)) C hK hP hD hS rfl (⟨(by rw [bandF, if_neg (by omega), fstB_none (fun j hj => hno j (by omega))]; rfl), rfl⟩) hc0 hs0 dX2_firstBand_50
          · refine lv_aload_n hx hb dX2_firstBand_26 rfl (lv_at hl 0 rfl) ?_
            refine lv_aload_n hx hb dX2_firstBand_27 rfl (lv_at hl 1 rfl) ?_
            refine lv_aload_n hx hb dX2_firstBand_28 rfl (lv_at hl 2 rfl) ?_
            refine lv_iload_n hx hb dX2_firstBand_29 rfl (lv_at hl 3 rfl) ?_
            refine lv_aload_n hx hb dX2_firstBand_30 rfl (lv_at hl 0 rfl) ?_
            refine va_get (D := D) (ci := 3) (v := .int (nI rr)) (C := RX2) (T := TX2) (N := 4) hx hb hts hin_X2 hown hK hP 20 g20 rfl 1 (by decide) fl_15 (fun _ h9 => h9) rfl dX2_firstBand_31 ?_
            refine nx_imul hx hb dX2_firstBand_34 ?_
            refine CI.go (va_runV (As := [.ref ax, .ref ay, .int (nI (i * rr))]) (rest := []) ⟨hx, hb, hml, hown, hts⟩ (c_X2_agree  g20 gpx gpx3 gpy gpy3 (fb_m hbr (by omega)) hlx hly _) (cwV 3 hts gX2_firstBand_X2_agree rfl rfl rfl (by decide +kernel) ⟨Nat.le_of_ble_eq_true rfl, Nat.le_of_ble_eq_true rfl⟩) ⟨pw_blind, va_recv hK hP (ci := 3) (q0 := 20) rfl g20, fun U hU hW => pw_pre hK hP hD hU hW⟩ rfl rfl hl.1 rfl (lv_room (Nat.le_of_ble_eq_true rfl)) dX2_firstBand_35 ⟨by decide, by decide⟩) hD hS hA (fun r_1 ws_2 H locs hp hP hD hS => ?_)
            obtain ⟨rfl, rfl⟩ := hp
            refine nx_if_eq (tgt := 43) hx hb (by cases agr lx ly (i * rr) rr <;> decide) dX2_firstBand_38 (by decide) (fun c_38 => ?_) (fun c_38 => ?_)
            · have hag0 : agr lx ly (i * rr) rr = false := bool0 c_38
              refine lv_iinc (v := (nI (i + 1))) (lv' := [(3, .int (nI (i + 1))), (0, .ref e0), (1, .ref ax), (2, .ref ay)]) hx hb dX2_firstBand_43 hl (k := 3) rfl (nx_inc _ 1) (by decide) rfl (fun ls hl => ?_)
              refine lv_goto (tgt := 18) hx hb dX2_firstBand_46 (by decide) ?_
              exact ih_18 (i + 1) (by omega) (by omega) (lt_s hno hag0) _ _ _  hP hD hS (lv_sub hl [1, 2, 3, 0] rfl)
            · have hag1 : agr lx ly (i * rr) rr = true := bool1 c_38
              refine lv_iload_n hx hb dX2_firstBand_41 rfl (lv_at hl 3 rfl) ?_
              exact CI.ret (v := (nI i)) C hK hP hD hS rfl (⟨(by rw [bandF, if_neg (by omega), fstB_some (by omega) hag1 hno]; rfl), rfl⟩) hc0 hs0 dX2_firstBand_42
      exact lp_18 _ 0 (Nat.lt_succ_self _) (Nat.zero_le _) (fun k hk => absurd hk (Nat.not_lt_zero k)) _ _ _  hP hD hS (lv_sub hl [1, 2, 3, 0] rfl)
    · refine lv_iconst (v := -1) hx hb dX2_firstBand_14 (by decide) ?_
      exact CI.ret (v := (-1)) C hK hP hD hS rfl (⟨(by rw [bandF, if_pos (by omega)]; rfl), rfl⟩) hc0 hs0 dX2_firstBand_15
set_option maxHeartbeats 4000000 in
set_option maxRecDepth 100000 in
theorem c_X2_areNear {D : va_G} {cB cI cJ cO : ClassId} {l : Launch} {e0 bb rr pp qq : Nat} {px px4 ax x1 x2 x3 x4 sx nx zx : Nat} {py ay y1 y2 y3 y4 sy ny zy : Nat} {kx : Nat → Nat} {ws : va_W} (g20 : ws[20]? = some (e0, .inr (3, [.int (nI bb), .int (nI rr), .int (nI pp), .int (nI qq)]))) (gpx : ws[px]? = some (ax, .inr (1, [.int (nI sx), .ref x1, .ref x2, .ref x3, .ref x4, .int (nI nx), .int (nI zx)]))) (gpx4 : ws[px4]? = some (x4, .inl (cI, 48, .inl (fun j => nI (kx j))))) (gpy : ws[py]? = some (ay, .inr (1, [.int (nI sy), .ref y1, .ref y2, .ref y3, .ref y4, .int (nI ny), .int (nI zy)]))) (hsy : sy < 48) (hley : kx sy ≤ zx + zy) (hm1 : kx sy * qq < 2 ^ 31) (hm2 : (zx + zy - kx sy) * pp < 2 ^ 31) : CI D (TY cB cI cJ cO) l yX2_areNear wsX2_areNear ({ frames := 2, cells := 0, slots := 0, locals := 44 }) [.ref e0, .ref ax, .ref ay] ws (fun r ws' => r = nI ((nearB (kx sy) (zx + zy - kx sy) pp qq).toNat) ∧ ws = ws') := by
  refine CI.of (cc := cX2_areNear) (maxL := 3) (ret := (some .boolean)) (by decide) rfl (Nat.le_of_ble_eq_true rfl) ?_
  intro p e s m below meth c A C hK hP hD hA hS ls hl
  obtain ⟨hx, hb, hr, hml, hts, hown, hlocks, hnm⟩ := id C
  have fl_18 := hts (.fieldLink RX2 18 "TwinFinder$Measure" "p" "I") (by decide +kernel)
  have fl_21 := hts (.fieldLink RX2 21 "TwinFinder$Measure" "q" "I") (by decide +kernel)
  have hin_X2 : ∀ w ∈ u_ws RX2 TX2 4, w ∈ wsX2_areNear := by decide +kernel
  have hl : lv_has ls 3 [(0, .ref e0), (1, .ref ax), (2, .ref ay)] := hl
  have sm : Sm (fun _ => False) ws ws := Sm.rf
  have hc0 : (0 : Nat) ≤ 0 := by decide
  have hs0 : (0 : Nat) ≤ 0 := by decide
  refine lv_aload_n hx hb dX2_areNear_0 rfl (lv_at hl 0 rfl) ?_
  refine lv_aload_n hx hb dX2_areNear_1 rfl (lv_at hl 1 rfl) ?_
  refine lv_aload_n hx hb dX2_areNear_2 rfl (lv_at hl 2 rfl) ?_
  refine CI.go (va_runV (As := [.ref ax, .ref ay]) (rest := []) ⟨hx, hb, hml, hown, hts⟩ (c_X2_common  gpx gpx4 gpy hsy _) (cwV 2 hts gX2_areNear_X2_common rfl rfl rfl (by decide +kernel) ⟨Nat.le_of_ble_eq_true rfl, Nat.le_of_ble_eq_true rfl⟩) ⟨pw_blind, va_recv hK hP (ci := 3) (q0 := 20) rfl g20, fun U hU hW => pw_pre hK hP hD hU hW⟩ rfl rfl hl.1 rfl (lv_room (Nat.le_of_ble_eq_true rfl)) dX2_areNear_3 ⟨by decide, by decide⟩) hD hS hA (fun r_1 ws_2 H locs hp hP hD hS => ?_)
  obtain ⟨rfl, rfl⟩ := hp
  refine lv_aload_n hx hb dX2_areNear_6 rfl (lv_at hl 0 rfl) ?_
  refine va_get (D := D) (ci := 3) (v := .int (nI qq)) (C := RX2) (T := TX2) (N := 4) hx hb hts hin_X2 hown hK hP 20 g20 rfl 3 (by decide) fl_21 (fun _ h9 => h9) rfl dX2_areNear_7 ?_
  refine nx_imul hx hb dX2_areNear_10 ?_
  refine lv_aload_n hx hb dX2_areNear_11 rfl (lv_at hl 0 rfl) ?_
  refine lv_aload_n hx hb dX2_areNear_12 rfl (lv_at hl 1 rfl) ?_
  refine lv_aload_n hx hb dX2_areNear_13 rfl (lv_at hl 2 rfl) ?_
  refine CI.go (va_runV (As := [.ref ax, .ref ay]) (rest := [.int (nI ((kx sy) * qq))]) ⟨hx, hb, hml, hown, hts⟩ (c_X2_all  g20 gpx gpx4 gpy hsy hley _) (cwV 2 hts gX2_areNear_X2_all rfl rfl rfl (by decide +kernel) ⟨Nat.le_of_ble_eq_true rfl, Nat.le_of_ble_eq_true rfl⟩) ⟨pw_blind, va_recv hK hP (ci := 3) (q0 := 20) rfl g20, fun U hU hW => pw_pre hK hP hD hU hW⟩ rfl rfl hl.1 rfl (lv_room (Nat.le_of_ble_eq_true rfl)) dX2_areNear_14 ⟨by decide, by decide⟩) hD hS hA (fun r_3 ws_4 H locs hp hP hD hS => ?_)
  obtain ⟨rfl, rfl⟩ := hp
  refine lv_aload_n hx hb dX2_areNear_17 rfl (lv_at hl 0 rfl) ?_
  refine va_get (D := D) (ci := 3) (v := .int (nI pp)) (C := RX2) (T := TX2) (N := 4) hx hb hts hin_X2 hown hK hP 20 g20 rfl 2 (by decide) fl_18 (fun _ h9 => h9) rfl dX2_areNear_18 ?_
  refine nx_imul hx hb dX2_areNear_21 ?_
  refine nx_icmp_lt (tgt := 29) hx hb hm1 hm2 dX2_areNear_22 (by decide) (fun c_22 => ?_) (fun c_22 => ?_)
  · refine lv_iconst (v := nI 0) hx hb dX2_areNear_29 (by decide) ?_
    exact CI.ret (v := (nI 0)) C hK hP hD hS (by decide) (⟨(by rw [nearB, decide_eq_false (Nat.not_le.mpr c_22)]; rfl), rfl⟩) hc0 hs0 dX2_areNear_30
  · refine lv_iconst (v := nI 1) hx hb dX2_areNear_25 (by decide) ?_
    refine lv_goto (tgt := 30) hx hb dX2_areNear_26 (by decide) ?_
    exact CI.ret (v := (nI 1)) C hK hP hD hS (by decide) (⟨(by rw [nearB, decide_eq_true c_22]; rfl), rfl⟩) hc0 hs0 dX2_areNear_30
set_option maxHeartbeats 4000000 in
set_option maxRecDepth 100000 in
theorem c_X2_areTwins {D : va_G} {cB cI cJ cO : ClassId} {l : Launch} {e0 bb rr pp qq : Nat} {px px3 px4 ax x1 x2 x3 x4 sx nx zx : Nat} {py py3 ay y1 y2 y3 y4 sy ny zy : Nat} {lx ly kx : Nat → Nat} {ws : va_W} (g20 : ws[20]? = some (e0, .inr (3, [.int (nI bb), .int (nI rr), .int (nI pp), .int (nI qq)]))) (gpx : ws[px]? = some (ax, .inr (1, [.int (nI sx), .ref x1, .ref x2, .ref x3, .ref x4, .int (nI nx), .int (nI zx)]))) (gpx3 : ws[px3]? = some (x3, .inl (cI, 64, .inl (fun j => nI (lx j))))) (gpx4 : ws[px4]? = some (x4, .inl (cI, 48, .inl (fun j => nI (kx j))))) (gpy : ws[py]? = some (ay, .inr (1, [.int (nI sy), .ref y1, .ref y2, .ref y3, .ref y4, .int (nI ny), .int (nI zy)]))) (gpy3 : ws[py3]? = some (y3, .inl (cI, 64, .inl (fun j => nI (ly j))))) (hbr : bb * rr ≤ 64) (hb64 : bb ≤ 64) (hr64 : rr ≤ 64) (hzx : zx ≤ 800) (hzy : zy ≤ 800) (hlx : ∀ k, k < 64 → lx k < 2 ^ 31) (hly : ∀ k, k < 64 → ly k < 2 ^ 31) (hsy : sy < 48) (hley : kx sy ≤ zx + zy) (hm1 : kx sy * qq < 2 ^ 31) (hm2 : (zx + zy - kx sy) * pp < 2 ^ 31) : CI D (TY cB cI cJ cO) l yX2_areTwins wsX2_areTwins ({ frames := 3, cells := 0, slots := 0, locals := 66 }) [.ref e0, .ref ax, .ref ay] ws (fun r ws' => r = nI ((twinB (bandF zx zy lx ly rr bb) (kx sy) (zx + zy - kx sy) pp qq).toNat) ∧ ws = ws') := by
  refine CI.of (cc := cX2_areTwins) (maxL := 3) (ret := (some .boolean)) (by decide) rfl (Nat.le_of_ble_eq_true rfl) ?_
  intro p e s m below meth c A C hK hP hD hA hS ls hl
  obtain ⟨hx, hb, hr, hml, hts, hown, hlocks, hnm⟩ := id C
  have hl : lv_has ls 3 [(0, .ref e0), (1, .ref ax), (2, .ref ay)] := hl
  have sm : Sm (fun _ => False) ws ws := Sm.rf
  have hc0 : (0 : Nat) ≤ 0 := by decide
  have hs0 : (0 : Nat) ≤ 0 := by decide
  refine lv_aload_n hx hb dX2_areTwins_0 rfl (lv_at hl 0 rfl) ?_
  refine lv_aload_n hx hb dX2_areTwins_1 rfl (lv_at hl 1 rfl) ?_
  refine lv_aload_n hx hb dX2_areTwins_2 rfl (lv_at hl 2 rfl) ?_
  refine CI.go (va_runV (As := [.ref ax, .ref ay]) (rest := []) ⟨hx, hb, hml, hown, hts⟩ (c_X2_firstBand  g20 gpx gpx3 gpy gpy3 hbr hb64 hr64 hzx hzy hlx hly _) (cwV 2 hts gX2_areTwins_X2_firstBand rfl rfl rfl (by decide +kernel) ⟨Nat.le_of_ble_eq_true rfl, Nat.le_of_ble_eq_true rfl⟩) ⟨pw_blind, va_recv hK hP (ci := 3) (q0 := 20) rfl g20, fun U hU hW => pw_pre hK hP hD hU hW⟩ rfl rfl hl.1 rfl (lv_room (Nat.le_of_ble_eq_true rfl)) dX2_areTwins_3 ⟨by decide, by decide⟩) hD hS hA (fun r_1 ws_2 H locs hp hP hD hS => ?_)
  obtain ⟨rfl, rfl⟩ := hp
  rcases hfb : bandF zx zy lx ly rr bb with _ | q
  · refine lv_iconst (v := -1) hx hb dX2_areTwins_6 (by decide) ?_
    refine lv_icmp_eq (tgt := 23) hx hb dX2_areTwins_7 (by decide) (fun c_7 => ?_) (fun c_7 => absurd (by decide) c_7)
    refine lv_iconst (v := nI 0) hx hb dX2_areTwins_23 (by decide) ?_
    exact CI.ret (v := (nI 0)) C hK hP hD hS (by decide) (⟨(by first | rfl | (rw [twinB, bool0 c_16]; rfl)), rfl⟩) hc0 hs0 dX2_areTwins_24
  · have hq64 := bandF_lt hfb
    refine lv_iconst (v := -1) hx hb dX2_areTwins_6 (by decide) ?_
    refine lv_icmp_eq (tgt := 23) hx hb dX2_areTwins_7 (by decide) (fun c_7 => ?_) (fun c_7 => ?_)
    · exact absurd c_7 (nI_nm1 (by omega))
    · refine lv_aload_n hx hb dX2_areTwins_10 rfl (lv_at hl 0 rfl) ?_
      refine lv_aload_n hx hb dX2_areTwins_11 rfl (lv_at hl 1 rfl) ?_
      refine lv_aload_n hx hb dX2_areTwins_12 rfl (lv_at hl 2 rfl) ?_
      refine CI.go (va_runV (As := [.ref ax, .ref ay]) (rest := []) ⟨hx, hb, hml, hown, hts⟩ (c_X2_areNear  g20 gpx gpx4 gpy hsy hley hm1 hm2 _) (cwV 2 hts gX2_areTwins_X2_areNear rfl rfl rfl (by decide +kernel) ⟨Nat.le_of_ble_eq_true rfl, Nat.le_of_ble_eq_true rfl⟩) ⟨pw_blind, va_recv hK hP (ci := 3) (q0 := 20) rfl g20, fun U hU hW => pw_pre hK hP hD hU hW⟩ rfl rfl hl.1 rfl (lv_room (Nat.le_of_ble_eq_true rfl)) dX2_areTwins_13 ⟨by decide, by decide⟩) hD hS hA (fun r_3 ws_4 H locs hp hP hD hS => ?_)
      obtain ⟨rfl, rfl⟩ := hp
      refine nx_if_eq (tgt := 23) hx hb (by cases nearB (kx sy) (zx + zy - kx sy) pp qq <;> decide) dX2_areTwins_16 (by decide) (fun c_16 => ?_) (fun c_16 => ?_)
      · refine lv_iconst (v := nI 0) hx hb dX2_areTwins_23 (by decide) ?_
        exact CI.ret (v := (nI 0)) C hK hP hD hS (by decide) (⟨(by first | rfl | (rw [twinB, bool0 c_16]; rfl)), rfl⟩) hc0 hs0 dX2_areTwins_24
      · refine lv_iconst (v := nI 1) hx hb dX2_areTwins_19 (by decide) ?_
        refine lv_goto (tgt := 24) hx hb dX2_areTwins_20 (by decide) ?_
        exact CI.ret (v := (nI 1)) C hK hP hD hS (by decide) (⟨(by rw [twinB, bool1 c_16]; rfl), rfl⟩) hc0 hs0 dX2_areTwins_24
set_option maxHeartbeats 4000000 in
set_option maxRecDepth 100000 in
theorem c_X2_isNearer {D : va_G} {cB cI cJ cO : ClassId} {l : Launch} {e0 bb rr pp qq : Nat} {px px4 ax x1 x2 x3 x4 sx nx zx : Nat} {py ay y1 y2 y3 y4 sy ny zy : Nat} {pu au u1 u2 u3 u4 su nu zu : Nat} {kx : Nat → Nat} {ws : va_W} (g20 : ws[20]? = some (e0, .inr (3, [.int (nI bb), .int (nI rr), .int (nI pp), .int (nI qq)]))) (gpx : ws[px]? = some (ax, .inr (1, [.int (nI sx), .ref x1, .ref x2, .ref x3, .ref x4, .int (nI nx), .int (nI zx)]))) (gpx4 : ws[px4]? = some (x4, .inl (cI, 48, .inl (fun j => nI (kx j))))) (gpy : ws[py]? = some (ay, .inr (1, [.int (nI sy), .ref y1, .ref y2, .ref y3, .ref y4, .int (nI ny), .int (nI zy)]))) (gpu : ws[pu]? = some (au, .inr (1, [.int (nI su), .ref u1, .ref u2, .ref u3, .ref u4, .int (nI nu), .int (nI zu)]))) (hsy : sy < 48) (hsu : su < 48) (hley : kx sy ≤ zx + zy) (hleu : kx su ≤ zx + zu) (hzx : zx ≤ 800) (hzy : zy ≤ 800) (hzu : zu ≤ 800) : CI D (TY cB cI cJ cO) l yX2_isNearer wsX2_isNearer ({ frames := 2, cells := 0, slots := 0, locals := 44 }) [.ref e0, .ref ax, .ref ay, .ref au] ws (fun r ws' => r = nI ((nrB (kx sy) (zx + zy - kx sy) (kx su) (zx + zu - kx su)).toNat) ∧ ws = ws') := by
  refine CI.of (cc := cX2_isNearer) (maxL := 4) (ret := (some .boolean)) (by decide) rfl (Nat.le_of_ble_eq_true rfl) ?_
  intro p e s m below meth c A C hK hP hD hA hS ls hl
  obtain ⟨hx, hb, hr, hml, hts, hown, hlocks, hnm⟩ := id C
  have hl : lv_has ls 4 [(0, .ref e0), (1, .ref ax), (2, .ref ay), (3, .ref au)] := hl
  have sm : Sm (fun _ => False) ws ws := Sm.rf
  have hc0 : (0 : Nat) ≤ 0 := by decide
  have hs0 : (0 : Nat) ≤ 0 := by decide
  refine lv_aload_n hx hb dX2_isNearer_0 rfl (lv_at hl 0 rfl) ?_
  refine lv_aload_n hx hb dX2_isNearer_1 rfl (lv_at hl 1 rfl) ?_
  refine lv_aload_n hx hb dX2_isNearer_2 rfl (lv_at hl 2 rfl) ?_
  refine CI.go (va_runV (As := [.ref ax, .ref ay]) (rest := []) ⟨hx, hb, hml, hown, hts⟩ (c_X2_common  gpx gpx4 gpy hsy _) (cwV 2 hts gX2_isNearer_X2_common rfl rfl rfl (by decide +kernel) ⟨Nat.le_of_ble_eq_true rfl, Nat.le_of_ble_eq_true rfl⟩) ⟨pw_blind, va_recv hK hP (ci := 3) (q0 := 20) rfl g20, fun U hU hW => pw_pre hK hP hD hU hW⟩ rfl rfl hl.1 rfl (lv_room (Nat.le_of_ble_eq_true rfl)) dX2_isNearer_3 ⟨by decide, by decide⟩) hD hS hA (fun r_1 ws_2 H locs hp hP hD hS => ?_)
  obtain ⟨rfl, rfl⟩ := hp
  refine lv_iconst (v := nI 1) hx hb dX2_isNearer_6 (by decide) ?_
  refine lv_aload_n hx hb dX2_isNearer_7 rfl (lv_at hl 0 rfl) ?_
  refine lv_aload_n hx hb dX2_isNearer_8 rfl (lv_at hl 1 rfl) ?_
  refine lv_aload_n hx hb dX2_isNearer_9 rfl (lv_at hl 3 rfl) ?_
  refine CI.go (va_runV (As := [.ref ax, .ref au]) (rest := [.int (nI 1), .int (nI (kx sy))]) ⟨hx, hb, hml, hown, hts⟩ (c_X2_all  g20 gpx gpx4 gpu hsu hleu _) (cwV 2 hts gX2_isNearer_X2_all rfl rfl rfl (by decide +kernel) ⟨Nat.le_of_ble_eq_true rfl, Nat.le_of_ble_eq_true rfl⟩) ⟨pw_blind, va_recv hK hP (ci := 3) (q0 := 20) rfl g20, fun U hU hW => pw_pre hK hP hD hU hW⟩ rfl rfl hl.1 rfl (lv_room (Nat.le_of_ble_eq_true rfl)) dX2_isNearer_10 ⟨by decide, by decide⟩) hD hS hA (fun r_3 ws_4 H locs hp hP hD hS => ?_)
  obtain ⟨rfl, rfl⟩ := hp
  refine va_mmax hx hb (hml.trans hl.1.symm) hown (hts (.methodLink RX2 57 Lib.Math.max.name) (by decide +kernel)) (hts (.static Lib.Math.max.name) (by decide +kernel)) (hts (.initialized "java/lang/Math") (by decide +kernel)) (hts (.code Lib.Math.max.name Lib.Math.max.code 2 (some .int)) (by decide +kernel)) (Nat.le_of_ble_eq_true rfl) (Nat.le_of_ble_eq_true rfl) (Nat.le_of_ble_eq_true rfl) (Nat.le_of_ble_eq_true rfl) dX2_isNearer_13 ?_
  rw [nI_max (by omega) (by omega)]
  refine nx_imul hx hb dX2_isNearer_16 ?_
  refine lv_aload_n hx hb dX2_isNearer_17 rfl (lv_at hl 0 rfl) ?_
  refine lv_aload_n hx hb dX2_isNearer_18 rfl (lv_at hl 1 rfl) ?_
  refine lv_aload_n hx hb dX2_isNearer_19 rfl (lv_at hl 3 rfl) ?_
  refine CI.go (va_runV (As := [.ref ax, .ref au]) (rest := [.int (nI ((kx sy) * (max 1 (zx + zu - kx su))))]) ⟨hx, hb, hml, hown, hts⟩ (c_X2_common  gpx gpx4 gpu hsu _) (cwV 2 hts gX2_isNearer_X2_common rfl rfl rfl (by decide +kernel) ⟨Nat.le_of_ble_eq_true rfl, Nat.le_of_ble_eq_true rfl⟩) ⟨pw_blind, va_recv hK hP (ci := 3) (q0 := 20) rfl g20, fun U hU hW => pw_pre hK hP hD hU hW⟩ rfl rfl hl.1 rfl (lv_room (Nat.le_of_ble_eq_true rfl)) dX2_isNearer_20 ⟨by decide, by decide⟩) hD hS hA (fun r_5 ws_6 H locs hp hP hD hS => ?_)
  obtain ⟨rfl, rfl⟩ := hp
  refine lv_iconst (v := nI 1) hx hb dX2_isNearer_23 (by decide) ?_
  refine lv_aload_n hx hb dX2_isNearer_24 rfl (lv_at hl 0 rfl) ?_
  refine lv_aload_n hx hb dX2_isNearer_25 rfl (lv_at hl 1 rfl) ?_
  refine lv_aload_n hx hb dX2_isNearer_26 rfl (lv_at hl 2 rfl) ?_
  refine CI.go (va_runV (As := [.ref ax, .ref ay]) (rest := [.int (nI 1), .int (nI (kx su)), .int (nI ((kx sy) * (max 1 (zx + zu - kx su))))]) ⟨hx, hb, hml, hown, hts⟩ (c_X2_all  g20 gpx gpx4 gpy hsy hley _) (cwV 2 hts gX2_isNearer_X2_all rfl rfl rfl (by decide +kernel) ⟨Nat.le_of_ble_eq_true rfl, Nat.le_of_ble_eq_true rfl⟩) ⟨pw_blind, va_recv hK hP (ci := 3) (q0 := 20) rfl g20, fun U hU hW => pw_pre hK hP hD hU hW⟩ rfl rfl hl.1 rfl (lv_room (Nat.le_of_ble_eq_true rfl)) dX2_isNearer_27 ⟨by decide, by decide⟩) hD hS hA (fun r_7 ws_8 H locs hp hP hD hS => ?_)
  obtain ⟨rfl, rfl⟩ := hp
  refine va_mmax hx hb (hml.trans hl.1.symm) hown (hts (.methodLink RX2 57 Lib.Math.max.name) (by decide +kernel)) (hts (.static Lib.Math.max.name) (by decide +kernel)) (hts (.initialized "java/lang/Math") (by decide +kernel)) (hts (.code Lib.Math.max.name Lib.Math.max.code 2 (some .int)) (by decide +kernel)) (Nat.le_of_ble_eq_true rfl) (Nat.le_of_ble_eq_true rfl) (Nat.le_of_ble_eq_true rfl) (Nat.le_of_ble_eq_true rfl) dX2_isNearer_30 ?_
  rw [nI_max (by omega) (by omega)]
  refine nx_imul hx hb dX2_isNearer_33 ?_
  refine nx_icmp_le (tgt := 41) hx hb (mul_sm (by omega) (by omega)) (mul_sm (by omega) (by omega)) dX2_isNearer_34 (by decide) (fun c_34 => ?_) (fun c_34 => ?_)
  · refine lv_iconst (v := nI 0) hx hb dX2_isNearer_41 (by decide) ?_
    exact CI.ret (v := (nI 0)) C hK hP hD hS (by decide) (⟨(by rw [nrB, decide_eq_false (Nat.not_lt.mpr c_34)]; rfl), rfl⟩) hc0 hs0 dX2_isNearer_42
  · refine lv_iconst (v := nI 1) hx hb dX2_isNearer_37 (by decide) ?_
    refine lv_goto (tgt := 42) hx hb dX2_isNearer_38 (by decide) ?_
    exact CI.ret (v := (nI 1)) C hK hP hD hS (by decide) (⟨(by rw [nrB, decide_eq_true c_34]; rfl), rfl⟩) hc0 hs0 dX2_isNearer_42
