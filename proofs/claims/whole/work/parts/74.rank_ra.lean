set_option maxHeartbeats 4000000 in
set_option maxRecDepth 100000 in
theorem c_X5_rankOf {D : va_G} {cB cI cJ cO : ClassId} {l : Launch} {e0 bb rr pp qq s0 s1 s2 s3 ca ad er nd : Nat} {dd : Nat → DX} {HS RS : List Nat} {tO tX bO bX : Nat} {ws : va_W} (g20 : ws[20]? = some (e0, .inr (3, [.int (nI bb), .int (nI rr), .int (nI pp), .int (nI qq)]))) (g16 : ws[16]? = some (s0, .inr (6, [.ref s1, .ref s2, .ref s3, .int (nI ca)]))) (hLr : LW ws cO ad 19 s3 er (RS.map (fun t => (dd t).1.2))) (hDW : DW ws cI cJ nd dd) (hnd : nd ≤ 48) (hRow : RowOK dd HS) (hHS : ∀ t ∈ HS, t < nd) (hRS : ∀ t ∈ RS, t ∈ HS) (hOm : tO ∈ HS) (hXm : tX ∈ HS) (hbO : (dd tO).1.2 = bO) (hbX : (dd tX).1.2 = bX) : CI D (TY cB cI cJ cO) l yX5_rankOf wsX5_rankOf ({ frames := 3, cells := 0, slots := 0, locals := 67 }) [.ref s0, .ref bO, .ref bX, .ref e0] ws (fun r ws' => r = nI (rnk (fun k => nrR dd tX tO (RS.getD k 0)) RS.length) ∧ ws = ws') := by
  refine CI.of (cc := cX5_rankOf) (maxL := 5) (ret := (some .int)) (by decide) rfl (Nat.le_of_ble_eq_true rfl) ?_
  intro p e s m below meth c A C hK hP hD hA hS ls hl
  obtain ⟨hx, hb, hr, hml, hts, hown, hlocks, hnm⟩ := id C
  have fl_21 := hts (.fieldLink RX5 21 "TwinFinder$Shelf" "ranked" "Ljava/util/ArrayList;") (by decide +kernel)
  have hin_X5 : ∀ w ∈ u_ws RX5 TX5 4, w ∈ wsX5_rankOf := by decide +kernel
  have hl : lv_has ls 5 [(0, .ref s0), (1, .ref bO), (2, .ref bX), (3, .ref e0)] := hl
  have sm : Sm (fun _ => False) ws ws := Sm.rf
  have hc0 : (0 : Nat) ≤ 0 := by decide
  have hs0 : (0 : Nat) ≤ 0 := by decide
  have hl49 := hLr.len
  rw [List.length_map] at hl49
  obtain ⟨⟨⟨pO, aO⟩, ⟨x1O, x2O, x3O, x4O⟩, ⟨nuO, zO⟩, fsO, fnO, flO, fhO⟩, hdxO⟩ : ∃ z : DX, z = dd tO := ⟨_, rfl⟩
  have hD5O := (hDW.1 tO (hHS tO hOm)).1
  have hP51O : 51 ≤ pO := by have h9 := (hDW.1 tO (hHS tO hOm)).2; rw [← hdxO] at h9; exact h9
  rw [← hdxO] at hD5O
  have gpO : ws[pO]? = some (aO, .inr (1, [.int (nI tO), .ref x1O, .ref x2O, .ref x3O, .ref x4O, .int (nI nuO), .int (nI zO)])) := hD5O.1
  have gpO_1 : ws[pO + 1]? = some (x1O, .inl (cJ, 94, .inr (.inl fsO))) := hD5O.2.1
  have gpO_2 : ws[pO + 2]? = some (x2O, .inl (cI, 800, .inl (fun jj => nI (fnO jj)))) := hD5O.2.2.1
  have gpO_3 : ws[pO + 3]? = some (x3O, .inl (cI, 64, .inl (fun jj => nI (flO jj)))) := hD5O.2.2.2.1
  have gpO_4 : ws[pO + 4]? = some (x4O, .inl (cI, 48, .inl (fun jj => nI (fhO jj)))) := hD5O.2.2.2.2
  have haaO : aO = bO := by rw [← hbO, ← hdxO]
  rw [haaO] at gpO
  obtain ⟨⟨⟨pX, aX⟩, ⟨x1X, x2X, x3X, x4X⟩, ⟨nuX, zX⟩, fsX, fnX, flX, fhX⟩, hdxX⟩ : ∃ z : DX, z = dd tX := ⟨_, rfl⟩
  have hD5X := (hDW.1 tX (hHS tX hXm)).1
  have hP51X : 51 ≤ pX := by have h9 := (hDW.1 tX (hHS tX hXm)).2; rw [← hdxX] at h9; exact h9
  rw [← hdxX] at hD5X
  have gpX : ws[pX]? = some (aX, .inr (1, [.int (nI tX), .ref x1X, .ref x2X, .ref x3X, .ref x4X, .int (nI nuX), .int (nI zX)])) := hD5X.1
  have gpX_1 : ws[pX + 1]? = some (x1X, .inl (cJ, 94, .inr (.inl fsX))) := hD5X.2.1
  have gpX_2 : ws[pX + 2]? = some (x2X, .inl (cI, 800, .inl (fun jj => nI (fnX jj)))) := hD5X.2.2.1
  have gpX_3 : ws[pX + 3]? = some (x3X, .inl (cI, 64, .inl (fun jj => nI (flX jj)))) := hD5X.2.2.2.1
  have gpX_4 : ws[pX + 4]? = some (x4X, .inl (cI, 48, .inl (fun jj => nI (fhX jj)))) := hD5X.2.2.2.2
  have haaX : aX = bX := by rw [← hbX, ← hdxX]
  rw [haaX] at gpX
  have hrO := hRow tO hOm
  rw [← hdxO] at hrO
  have hzO : zO ≤ 800 := hrO.1
  have hrX := hRow tX hXm
  rw [← hdxX] at hrX
  have hzX : zX ≤ 800 := hrX.1
  have hsO : fhX tO ≤ zX := by have h9 := (hRow tX hXm).2.2 tO hOm; rw [← hdxX] at h9; exact h9
  refine lv_aload_n hx hb dX5_rankOf_0 rfl (lv_at hl 0 rfl) ?_
  refine va_get (D := D) (ci := 6) (v := .ref s3) (C := RX5) (T := TX5) (N := 4) hx hb hts hin_X5 hown hK hP 16 g16 rfl 2 (by decide) fl_21 (fun _ h9 => h9) rfl dX5_rankOf_1 ?_
  refine CI.go (va_runV (As := []) (rest := []) ⟨hx, hb, hml, hown, hts⟩ (c_L_size   hLr _) (cwV 0 hts gX5_rankOf_Jx4a65c_size_8abf5 rfl rfl rfl (by decide +kernel) ⟨Nat.le_of_ble_eq_true rfl, Nat.le_of_ble_eq_true rfl⟩) ⟨pw_blind, LW.recv hK hP hLr, fun U hU hW => pw_pre hK hP hD hU hW⟩ rfl rfl hl.1 rfl (lv_room (Nat.le_of_ble_eq_true rfl)) dX5_rankOf_4 ⟨Nat.le_of_ble_eq_true rfl, Nat.le_of_ble_eq_true rfl⟩) hD hS hA (fun r_1 ws_2 H locs hp hP hD hS => ?_)
  obtain ⟨rfl, rfl⟩ := hp
  rw [List.length_map]
  refine lv_istore (lv' := [(4, .int (nI (RS.length))), (0, .ref s0), (1, .ref bO), (2, .ref bX), (3, .ref e0)]) hx hb dX5_rankOf_7 hl (by decide) rfl (fun ls hl => ?_)
  have lp_9 : ∀ (fuel : Nat) (k : Nat), k < fuel → (k ≤ RS.length) → (rnk (fun k => nrR dd tX tO (RS.getD k 0)) RS.length = rnk (fun k => nrR dd tX tO (RS.getD k 0)) k) → ∀ (H : Heap) (locs : List Loc) (ls : Array Slot),  va_P D vwCl ws H → va_D A ws → va_S A s.heap H locs → lv_has ls 5 [(0, .ref s0), (1, .ref bO), (2, .ref bX), (3, .ref e0), (4, .int (nI k))] → W p l e ({ frames := 3, cells := 0, slots := 0, locals := 67 }) s m ([.ref s0, .ref bO, .ref bX, .ref e0] : List Value).toArray below meth c H locs 0 0 (ZI D (TY cB cI cJ cO) (fun r ws' => r = nI (rnk (fun k => nrR dd tX tO (RS.getD k 0)) RS.length) ∧ ws = ws') below [.ref s0, .ref bO, .ref bX, .ref e0] s 0 0 A) (F0 m 9 ls []) := by
    intro fuel
    induction fuel with
    | zero => intro k hfu; exact absurd hfu (Nat.not_lt_zero _)
    | succ fuel ih_9 =>
      intro k hfu_9 hk hrk H locs ls hP hD hS hl
      refine lv_iload hx hb dX5_rankOf_9 (lv_at hl 4 rfl) ?_
      refine nx_if_le (tgt := 46) hx hb (by omega) dX5_rankOf_11 (by decide) (fun c_11 => ?_) (fun c_11 => ?_)
      · refine lv_iconst (v := nI 0) hx hb dX5_rankOf_46 (by decide) ?_
        exact CI.ret (v := (nI 0)) C hK hP hD hS rfl (⟨(by rw [hrk, show k = 0 by omega]; rfl), rfl⟩) hc0 hs0 dX5_rankOf_47
      · obtain ⟨tU, htU⟩ : ∃ t, RS[k - 1]? = some t := ⟨_, List.getElem?_eq_getElem (by omega)⟩
        have hUm : tU ∈ HS := hRS tU (List.mem_of_getElem? htU)
        obtain ⟨⟨⟨pU, aU⟩, ⟨x1U, x2U, x3U, x4U⟩, ⟨nuU, zU⟩, fsU, fnU, flU, fhU⟩, hdxU⟩ : ∃ z : DX, z = dd tU := ⟨_, rfl⟩
        have hD5U := (hDW.1 tU (hHS tU hUm)).1
        have hP51U : 51 ≤ pU := by have h9 := (hDW.1 tU (hHS tU hUm)).2; rw [← hdxU] at h9; exact h9
        rw [← hdxU] at hD5U
        have gpU : ws[pU]? = some (aU, .inr (1, [.int (nI tU), .ref x1U, .ref x2U, .ref x3U, .ref x4U, .int (nI nuU), .int (nI zU)])) := hD5U.1
        have gpU_1 : ws[pU + 1]? = some (x1U, .inl (cJ, 94, .inr (.inl fsU))) := hD5U.2.1
        have gpU_2 : ws[pU + 2]? = some (x2U, .inl (cI, 800, .inl (fun jj => nI (fnU jj)))) := hD5U.2.2.1
        have gpU_3 : ws[pU + 3]? = some (x3U, .inl (cI, 64, .inl (fun jj => nI (flU jj)))) := hD5U.2.2.2.1
        have gpU_4 : ws[pU + 4]? = some (x4U, .inl (cI, 48, .inl (fun jj => nI (fhU jj)))) := hD5U.2.2.2.2
        have hrU := hRow tU hUm
        rw [← hdxU] at hrU
        have hzU : zU ≤ 800 := hrU.1
        have hsU : fhX tU ≤ zX := by have h9 := (hRow tX hXm).2.2 tU hUm; rw [← hdxX] at h9; exact h9
        have hlO := hHS tO hOm
        have hlU := hHS tU hUm
        have hfr : nrB (fhX tO) (zX + zO - fhX tO) (fhX tU) (zX + zU - fhX tU) = (fun k => nrR dd tX tO (RS.getD k 0)) (k - 1) := by show _ = nrR dd tX tO (RS.getD (k - 1) 0); rw [getD_at htU]; unfold nrR; rw [← hdxX, ← hdxO, ← hdxU]
        refine lv_aload_n hx hb dX5_rankOf_14 rfl (lv_at hl 3 rfl) ?_
        refine lv_aload_n hx hb dX5_rankOf_15 rfl (lv_at hl 2 rfl) ?_
        refine lv_aload_n hx hb dX5_rankOf_16 rfl (lv_at hl 1 rfl) ?_
        refine lv_aload_n hx hb dX5_rankOf_17 rfl (lv_at hl 0 rfl) ?_
        refine va_get (D := D) (ci := 6) (v := .ref s3) (C := RX5) (T := TX5) (N := 4) hx hb hts hin_X5 hown hK hP 16 g16 rfl 2 (by decide) fl_21 (fun _ h9 => h9) rfl dX5_rankOf_18 ?_
        refine lv_iload hx hb dX5_rankOf_21 (lv_at hl 4 rfl) ?_
        refine lv_iconst (v := nI 1) hx hb dX5_rankOf_23 (by decide) ?_
        refine nx_isub hx hb (by omega) dX5_rankOf_24 ?_
        refine CQ.go (va_runV (As := [.int (nI (k - 1))]) (rest := [.ref bO, .ref bX, .ref e0]) ⟨hx, hb, hml, hown, hts⟩ (c_L_get (v := aU)  hLr (map_at htU (by rw [← hdxU])) _) (cwV 1 hts gX5_rankOf_Jx4a65c_get_915e3 rfl rfl rfl (by decide +kernel) ⟨Nat.le_of_ble_eq_true rfl, Nat.le_of_ble_eq_true rfl⟩) ⟨pw_blind, LW.recv hK hP hLr, fun U hU hW => pw_pre hK hP hD hU hW⟩ rfl rfl hl.1 rfl (lv_room (Nat.le_of_ble_eq_true rfl)) dX5_rankOf_25 ⟨Nat.le_of_ble_eq_true rfl, Nat.le_of_ble_eq_true rfl⟩) hD hS hA (fun r_3 ws_4 H locs hp hP hD hS => ?_)
        obtain ⟨rfl, rfl⟩ := hp
        refine va_castS hx hb hown (hts (.classLink RX5 36 RX0) (by decide +kernel)) (hK.1 1 _ rfl).2 (va_recv hK hP (ci := 1) (q0 := pU) rfl gpU) dX5_rankOf_28 ?_
        refine CI.go (va_runV (As := [.ref bX, .ref bO, .ref aU]) (rest := []) ⟨hx, hb, hml, hown, hts⟩ (c_X2_isNearer  g20 gpX gpX_4 gpO gpU (by omega) (by omega) (by omega) (by omega) hzX hzO hzU _) (cwV 3 hts gX5_rankOf_X2_isNearer rfl rfl rfl (by decide +kernel) ⟨Nat.le_of_ble_eq_true rfl, Nat.le_of_ble_eq_true rfl⟩) ⟨pw_blind, va_recv hK hP (ci := 3) (q0 := 20) rfl g20, fun U hU hW => pw_pre hK hP hD hU hW⟩ rfl rfl hl.1 rfl (lv_room (Nat.le_of_ble_eq_true rfl)) dX5_rankOf_31 ⟨Nat.le_of_ble_eq_true rfl, Nat.le_of_ble_eq_true rfl⟩) hD hS hA (fun r_5 ws_6 H locs hp hP hD hS => ?_)
        obtain ⟨rfl, rfl⟩ := hp
        refine nx_if_ne (tgt := 40) hx hb (by exact bn2 _) dX5_rankOf_34 (by decide) (fun c_34 => ?_) (fun c_34 => ?_)
        · refine lv_iinc (v := (nI (k - 1))) (lv' := [(4, .int (nI (k - 1))), (0, .ref s0), (1, .ref bO), (2, .ref bX), (3, .ref e0)]) hx hb dX5_rankOf_40 hl (k := 4) rfl (nx_dec (n := 1) (by omega)) (by decide) rfl (fun ls hl => ?_)
          refine lv_goto (tgt := 9) hx hb dX5_rankOf_43 (by decide) ?_
          exact ih_9 (k - 1) (by omega) (by omega) (by rw [hrk]; have h9 := rnk_t (f := (fun k => nrR dd tX tO (RS.getD k 0))) (r := k - 1) (hfr.symm.trans (bool1 c_34)); rw [show k - 1 + 1 = k by omega] at h9; exact h9) _ _ _  hP hD hS (lv_sub hl [1, 2, 3, 4, 0] rfl)
        · refine lv_iload hx hb dX5_rankOf_37 (lv_at hl 4 rfl) ?_
          exact CI.ret (v := (nI k)) C hK hP hD hS rfl (⟨(by rw [hrk]; have h9 := rnk_f (f := (fun k => nrR dd tX tO (RS.getD k 0))) (r := k - 1) (hfr.symm.trans (bool0 c_34)); rw [show k - 1 + 1 = k by omega] at h9; rw [h9]), rfl⟩) hc0 hs0 dX5_rankOf_39
  exact lp_9 _ RS.length (Nat.lt_succ_self _) (Nat.le_refl _) rfl _ _ _  hP hD hS (lv_sub hl [1, 2, 3, 4, 0] rfl)
