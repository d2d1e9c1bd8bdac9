set_option maxHeartbeats 4000000 in
set_option maxRecDepth 100000 in
theorem c_X9_add {D : va_G} {cB cI cJ cO : ClassId} {l : Launch} {m0 b1 b2 b5 b6 b7 b12 b14 b15 b16 b20 b21 b22 b23 b24 b26 b31 th len ps nm bt_ so wi fm dn ca sta xn bb rr pp qq : Nat} {f fp lf : Nat → Int32} {ff zf fr gn gm gs : Nat → Nat} {T : List Int32} {sh : List (List Int32)} {docs : List (Nat × List Nat)} {ws : va_W} (g33 : ws[33]? = some (m0, .inr (10, [.int (nI th), .ref b1, .ref b2, .int (nI len), .int (nI ps), .ref b5, .ref b6, .ref b7, .int (nI nm), .int (nI bt_), .int (nI so), .int (nI wi), .ref b12, .int (nI fm), .ref b14, .ref b15, .ref b16, .int (nI dn), .int (nI ca), .int (nI sta), .ref b20, .ref b21, .ref b22, .ref b23, .ref b24, .int (nI xn), .ref b26, .int (nI bb), .int (nI rr), .int (nI pp), .int (nI qq), .ref b31]))) (g34 : ws[34]? = some (b1, .inl (cB, 800, .inl f))) (g35 : ws[35]? = some (b2, .inl (cB, 801, .inl fp))) (g36 : ws[36]? = some (b5, .inl (cB, 50800, .inl lf))) (g37 : ws[37]? = some (b6, .inl (cI, 6800, .inl (fun jj => nI (ff jj))))) (g38 : ws[38]? = some (b7, .inl (cI, 6800, .inl (fun jj => nI (zf jj))))) (g39 : ws[39]? = some (b12, .inl (cI, 801, .inl (fun jj => nI (fr jj))))) (g40 : ws[40]? = some (b14, .inl (cI, 48, .inl (fun jj => nI (gn jj))))) (g41 : ws[41]? = some (b15, .inl (cI, 48, .inl (fun jj => nI (gm jj))))) (g42 : ws[42]? = some (b16, .inl (cI, 38400, .inl (fun jj => nI (gs jj))))) (hT : Hd f T) (hlen : T.length = len) (h800 : len ≤ 800) (hst : StM sh lf ff zf) (hsn : sh.length = nm) (hbt : sh.flatten.length = bt_) (hn6 : nm ≤ 6000) (hb5 : bt_ ≤ 50000) (hw1 : 1 ≤ wi) (hw9 : wi ≤ 9) (hs1 : so ≤ 1) (hdd : HdD gn gm gs docs) (hdn : docs.length = dn) (h48 : dn ≤ 48) (hds : Dsm docs) (hca : ca ≤ 400) : CI D (TY cB cI cJ cO) l yX9_add wsX9_add ({ frames := 3, cells := 0, slots := 0, locals := 73 }) [.ref m0] ws (fun r ws' => ∃ fq : Nat → Int32, ∃ lf2 : Nat → Int32, ∃ ff2 : Nat → Nat, ∃ zf2 : Nat → Nat, ∃ fr2 : Nat → Nat, ∃ gn2 : Nat → Nat, ∃ gm2 : Nat → Nat, ∃ gs2 : Nat → Nat, ∃ fm2 : Nat, r = adR so wi T sh docs ca ∧ (Hd fq (plainOf T)) ∧ (StM (adS so wi T sh docs ca) lf2 ff2 zf2) ∧ (HdD gn2 gm2 gs2 (adD so wi T sh docs ca)) ∧ Sm (fun k => k = 33 ∨ k = 35 ∨ k = 36 ∨ k = 37 ∨ k = 38 ∨ k = 39 ∨ k = 40 ∨ k = 41 ∨ k = 42) ws ws' ∧ ws'[33]? = some (m0, .inr (10, [.int (nI 0), .ref b1, .ref b2, .int (nI 0), .int (nI ((plainOf T).length)), .ref b5, .ref b6, .ref b7, .int (nI ((adS so wi T sh docs ca).length)), .int (nI ((adS so wi T sh docs ca).flatten.length)), .int (nI so), .int (nI wi), .ref b12, .int (nI fm2), .ref b14, .ref b15, .ref b16, .int (nI ((adD so wi T sh docs ca).length)), .int (nI (ca + (adOk so wi T sh docs ca).toNat)), .int (nI (bif adOk so wi T sh docs ca then 1 else sta)), .ref b20, .ref b21, .ref b22, .ref b23, .ref b24, .int (nI xn), .ref b26, .int (nI bb), .int (nI rr), .int (nI pp), .int (nI qq), .ref b31])) ∧ ws'[35]? = some (b2, .inl (cB, 801, .inl fq)) ∧ ws'[36]? = some (b5, .inl (cB, 50800, .inl lf2)) ∧ ws'[37]? = some (b6, .inl (cI, 6800, .inl (fun jj => nI (ff2 jj)))) ∧ ws'[38]? = some (b7, .inl (cI, 6800, .inl (fun jj => nI (zf2 jj)))) ∧ ws'[39]? = some (b12, .inl (cI, 801, .inl (fun jj => nI (fr2 jj)))) ∧ ws'[40]? = some (b14, .inl (cI, 48, .inl (fun jj => nI (gn2 jj)))) ∧ ws'[41]? = some (b15, .inl (cI, 48, .inl (fun jj => nI (gm2 jj)))) ∧ ws'[42]? = some (b16, .inl (cI, 38400, .inl (fun jj => nI (gs2 jj))))) := by
  refine CI.of (cc := cX9_add) (maxL := 4) (ret := (some .int)) (by decide) rfl (Nat.le_of_ble_eq_true rfl) ?_
  intro p e s m below meth c A C hK hP hD hA hS ls hl
  obtain ⟨hx, hb, hr, hml, hts, hown, hlocks, hnm⟩ := id C
  have fl_1 := hts (.fieldLink RX9 1 "TwinFinderModel" "thrown" "I") (by decide +kernel)
  have fl_7 := hts (.fieldLink RX9 7 "TwinFinderModel" "length" "I") (by decide +kernel)
  have fl_24 := hts (.fieldLink RX9 24 "TwinFinderModel" "numbers" "I") (by decide +kernel)
  have fl_41 := hts (.fieldLink RX9 41 "TwinFinderModel" "bytes" "I") (by decide +kernel)
  have fl_45 := hts (.fieldLink RX9 45 "TwinFinderModel" "freshMany" "I") (by decide +kernel)
  have fl_48 := hts (.fieldLink RX9 48 "TwinFinderModel" "fresh" "[I") (by decide +kernel)
  have fl_65 := hts (.fieldLink RX9 65 "TwinFinderModel" "documents" "I") (by decide +kernel)
  have fl_68 := hts (.fieldLink RX9 68 "TwinFinderModel" "came" "I") (by decide +kernel)
  have fl_75 := hts (.fieldLink RX9 75 "TwinFinderModel" "set" "[I") (by decide +kernel)
  have fl_78 := hts (.fieldLink RX9 78 "TwinFinderModel" "many" "[I") (by decide +kernel)
  have fl_81 := hts (.fieldLink RX9 81 "TwinFinderModel" "number" "[I") (by decide +kernel)
  have fl_84 := hts (.fieldLink RX9 84 "TwinFinderModel" "stale" "Z") (by decide +kernel)
  have hin_X9 : ∀ w ∈ u_ws RX9 TX9 32, w ∈ wsX9_add := by decide +kernel
  have hl : lv_has ls 4 [(0, .ref m0)] := hl
  have sm : Sm (fun k => k = 33 ∨ k = 35 ∨ k = 36 ∨ k = 37 ∨ k = 38 ∨ k = 39 ∨ k = 40 ∨ k = 41 ∨ k = 42) ws ws := Sm.rf
  have hc0 : (0 : Nat) ≤ 0 := by decide
  have hs0 : (0 : Nat) ≤ 0 := by decide
  refine lv_aload_n hx hb dX9_add_0 rfl (lv_at hl 0 rfl) ?_
  refine lv_iconst (v := nI 0) hx hb dX9_add_1 (by decide) ?_
  refine nx_put (D := D) (ci := 10) (v := .int (nI 0)) (ty := .int) (C := RX9) (T := TX9) (N := 32) hx hb hts hin_X9 tyX9 tyX9_ok nmX9 hown hK hP hD hS 33 g33 rfl 0 (by decide) fl_1 (fun _ h9 => h9) rfl (by decide +kernel) rfl rfl (Nat.le_of_ble_eq_true rfl) dX9_add_2 (fun ws_1 H locs gq up_2 hP hD hS => ?_)
  have g33 : ws_1[33]? = some (m0, .inr (10, [.int (nI 0), .ref b1, .ref b2, .int (nI len), .int (nI ps), .ref b5, .ref b6, .ref b7, .int (nI nm), .int (nI bt_), .int (nI so), .int (nI wi), .ref b12, .int (nI fm), .ref b14, .ref b15, .ref b16, .int (nI dn), .int (nI ca), .int (nI sta), .ref b20, .ref b21, .ref b22, .ref b23, .ref b24, .int (nI xn), .ref b26, .int (nI bb), .int (nI rr), .int (nI pp), .int (nI qq), .ref b31])) := gq
  have g34 := up_2.get g34 (by decide)
  have g35 := up_2.get g35 (by decide)
  have g36 := up_2.get g36 (by decide)
  have g37 := up_2.get g37 (by decide)
  have g38 := up_2.get g38 (by decide)
  have g39 := up_2.get g39 (by decide)
  have g40 := up_2.get g40 (by decide)
  have g41 := up_2.get g41 (by decide)
  have g42 := up_2.get g42 (by decide)
  have sm := sm.up up_2 (by simp)
  refine lv_aload_n hx hb dX9_add_5 rfl (lv_at hl 0 rfl) ?_
  refine CV.go (va_runV (As := []) (rest := []) ⟨hx, hb, hml, hown, hts⟩ (c_X9_makePlain  g33 g34 g35 hT hlen h800 _) (cwV 0 hts gX9_add_X9_makePlain rfl rfl rfl (by decide +kernel) ⟨Nat.le_of_ble_eq_true rfl, Nat.le_of_ble_eq_true rfl⟩) ⟨pw_blind, va_recv hK hP (ci := 10) (q0 := 33) rfl g33, fun U hU hW => pw_pre hK hP hD hU hW⟩ rfl rfl hl.1 rfl (lv_room (Nat.le_of_ble_eq_true rfl)) dX9_add_6 ⟨Nat.le_of_ble_eq_true rfl, Nat.le_of_ble_eq_true rfl⟩) hD hS hA (fun ws_4 H locs hp hP hD hS => ?_)
  obtain ⟨fq, hq, sm_5, g33, g35⟩ := hp
  have g34 := sm_5.get g34 (by simp)
  have g36 := sm_5.get g36 (by simp)
  have g37 := sm_5.get g37 (by simp)
  have g38 := sm_5.get g38 (by simp)
  have g39 := sm_5.get g39 (by simp)
  have g40 := sm_5.get g40 (by simp)
  have g41 := sm_5.get g41 (by simp)
  have g42 := sm_5.get g42 (by simp)
  have sm := sm.call sm_5 (by intro k hk; (try simp only at hk ⊢); omega)
  have g33 : ws_4[33]? = some (m0, .inr (10, [.int (nI 0), .ref b1, .ref b2, .int (nI len), .int (nI ((plainOf T).length)), .ref b5, .ref b6, .ref b7, .int (nI nm), .int (nI bt_), .int (nI so), .int (nI wi), .ref b12, .int (nI fm), .ref b14, .ref b15, .ref b16, .int (nI dn), .int (nI ca), .int (nI sta), .ref b20, .ref b21, .ref b22, .ref b23, .ref b24, .int (nI xn), .ref b26, .int (nI bb), .int (nI rr), .int (nI pp), .int (nI qq), .ref b31])) := g33
  have g35 : ws_4[35]? = some (b2, .inl (cB, 801, .inl fq)) := g35
  refine lv_aload_n hx hb dX9_add_9 rfl (lv_at hl 0 rfl) ?_
  refine lv_iconst (v := nI 0) hx hb dX9_add_10 (by decide) ?_
  refine nx_put (D := D) (ci := 10) (v := .int (nI 0)) (ty := .int) (C := RX9) (T := TX9) (N := 32) hx hb hts hin_X9 tyX9 tyX9_ok nmX9 hown hK hP hD hS 33 g33 rfl 3 (by decide) fl_7 (fun _ h9 => h9) rfl (by decide +kernel) rfl rfl (Nat.le_of_ble_eq_true rfl) dX9_add_11 (fun ws_6 H locs gq up_7 hP hD hS => ?_)
  have g33 : ws_6[33]? = some (m0, .inr (10, [.int (nI 0), .ref b1, .ref b2, .int (nI 0), .int (nI ((plainOf T).length)), .ref b5, .ref b6, .ref b7, .int (nI nm), .int (nI bt_), .int (nI so), .int (nI wi), .ref b12, .int (nI fm), .ref b14, .ref b15, .ref b16, .int (nI dn), .int (nI ca), .int (nI sta), .ref b20, .ref b21, .ref b22, .ref b23, .ref b24, .int (nI xn), .ref b26, .int (nI bb), .int (nI rr), .int (nI pp), .int (nI qq), .ref b31])) := gq
  have g34 := up_7.get g34 (by decide)
  have g35 := up_7.get g35 (by decide)
  have g36 := up_7.get g36 (by decide)
  have g37 := up_7.get g37 (by decide)
  have g38 := up_7.get g38 (by decide)
  have g39 := up_7.get g39 (by decide)
  have g40 := up_7.get g40 (by decide)
  have g41 := up_7.get g41 (by decide)
  have g42 := up_7.get g42 (by decide)
  have sm := sm.up up_7 (by simp)
  have hpl8 : (plainOf T).length ≤ 800 := by have := plainOf_len T; omega
  refine lv_aload_n hx hb dX9_add_14 rfl (lv_at hl 0 rfl) ?_
  refine va_get (D := D) (ci := 10) (v := .int (nI dn)) (C := RX9) (T := TX9) (N := 32) hx hb hts hin_X9 hown hK hP 33 g33 rfl 17 (by decide) fl_65 (fun _ h9 => h9) rfl dX9_add_15 ?_
  refine lv_bipush (v := nI 48) hx hb dX9_add_18 (by decide) ?_
  refine nx_icmp_eq (tgt := 33) hx hb (by omega) (by omega) dX9_add_20 (by decide) (fun c_20 => ?_) (fun c_20 => ?_)
  · refine lv_iconst (v := -1) hx hb dX9_add_33 (by decide) ?_
    have hfull : docs.length = 48 ∨ ca = 400 := by omega
    have hf0 : adOk so wi T sh docs ca = false := ad_full hfull
    have hno := ad_no hf0
    have g33 : ws_6[33]? = some (m0, .inr (10, [.int (nI 0), .ref b1, .ref b2, .int (nI 0), .int (nI ((plainOf T).length)), .ref b5, .ref b6, .ref b7, .int (nI ((adS so wi T sh docs ca).length)), .int (nI ((adS so wi T sh docs ca).flatten.length)), .int (nI so), .int (nI wi), .ref b12, .int (nI fm), .ref b14, .ref b15, .ref b16, .int (nI ((adD so wi T sh docs ca).length)), .int (nI (ca + (adOk so wi T sh docs ca).toNat)), .int (nI (bif adOk so wi T sh docs ca then 1 else sta)), .ref b20, .ref b21, .ref b22, .ref b23, .ref b24, .int (nI xn), .ref b26, .int (nI bb), .int (nI rr), .int (nI pp), .int (nI qq), .ref b31])) := by rw [hno.1, hno.2, hf0, hsn, hbt, hdn]; exact g33
    exact CI.ret (v := (-1)) C hK hP hD hS rfl (⟨fq, lf, ff, zf, fr, gn, gm, gs, fm, (adR_no hf0).symm, hq, (by rw [hno.1]; exact hst), (by rw [hno.2]; exact hdd), sm, g33, g35, g36, g37, g38, g39, g40, g41, g42⟩) hc0 hs0 dX9_add_34
  · refine lv_aload_n hx hb dX9_add_23 rfl (lv_at hl 0 rfl) ?_
    refine va_get (D := D) (ci := 10) (v := .int (nI ca)) (C := RX9) (T := TX9) (N := 32) hx hb hts hin_X9 hown hK hP 33 g33 rfl 18 (by decide) fl_68 (fun _ h9 => h9) rfl dX9_add_24 ?_
    refine lv_sipush (v := nI 400) hx hb dX9_add_27 (by decide) ?_
    refine nx_icmp_ne (tgt := 35) hx hb (by omega) (by omega) dX9_add_30 (by decide) (fun c_30 => ?_) (fun c_30 => ?_)
    · refine lv_aload_n hx hb dX9_add_35 rfl (lv_at hl 0 rfl) ?_
      refine va_get (D := D) (ci := 10) (v := .int (nI nm)) (C := RX9) (T := TX9) (N := 32) hx hb hts hin_X9 hown hK hP 33 g33 rfl 8 (by decide) fl_24 (fun _ h9 => h9) rfl dX9_add_36 ?_
      refine lv_istore_n (lv' := [(1, .int (nI nm)), (0, .ref m0)]) hx hb dX9_add_39 rfl hl (by decide) rfl (fun ls hl => ?_)
      refine lv_aload_n hx hb dX9_add_40 rfl (lv_at hl 1 rfl) ?_
      refine va_get (D := D) (ci := 10) (v := .int (nI bt_)) (C := RX9) (T := TX9) (N := 32) hx hb hts hin_X9 hown hK hP 33 g33 rfl 9 (by decide) fl_41 (fun _ h9 => h9) rfl dX9_add_41 ?_
      refine lv_istore_n (lv' := [(2, .int (nI bt_)), (1, .int (nI nm)), (0, .ref m0)]) hx hb dX9_add_44 rfl hl (by decide) rfl (fun ls hl => ?_)
      refine lv_aload_n hx hb dX9_add_45 rfl (lv_at hl 2 rfl) ?_
      refine CI.go (va_runV (As := []) (rest := []) ⟨hx, hb, hml, hown, hts⟩ (c_X9_all  g33 g35 g36 g37 g38 g39 hst hsn hbt hn6 hb5 hq rfl hpl8 (plain_ok T).1 (plain_ok T).2 hw1 hw9 hs1 _) (cwV 0 hts gX9_add_X9_all rfl rfl rfl (by decide +kernel) ⟨Nat.le_of_ble_eq_true rfl, Nat.le_of_ble_eq_true rfl⟩) ⟨pw_blind, va_recv hK hP (ci := 10) (q0 := 33) rfl g33, fun U hU hW => pw_pre hK hP hD hU hW⟩ rfl rfl hl.1 rfl (lv_room (Nat.le_of_ble_eq_true rfl)) dX9_add_46 ⟨Nat.le_of_ble_eq_true rfl, Nat.le_of_ble_eq_true rfl⟩) hD hS hA (fun r_8 ws_9 H locs hp hP hD hS => ?_)
      obtain ⟨lf2, ff2, zf2, fr2, rfl, hst2, hfr2, hok2, sm_10, g33, g36, g37, g38, g39⟩ := hp
      have g34 := sm_10.get g34 (by simp)
      have g35 := sm_10.get g35 (by simp)
      have g40 := sm_10.get g40 (by simp)
      have g41 := sm_10.get g41 (by simp)
      have g42 := sm_10.get g42 (by simp)
      have sm := sm.call sm_10 (by intro k hk; (try simp only at hk ⊢); omega)
      have g33 : ws_9[33]? = some (m0, .inr (10, [.int (nI 0), .ref b1, .ref b2, .int (nI 0), .int (nI (((plainOf T).length))), .ref b5, .ref b6, .ref b7, .int (nI ((runA sh (spanL so wi (plainOf T))).1.length)), .int (nI ((runA sh (spanL so wi (plainOf T))).1.flatten.length)), .int (nI so), .int (nI wi), .ref b12, .int (nI ((runA sh (spanL so wi (plainOf T))).2.1.length)), .ref b14, .ref b15, .ref b16, .int (nI dn), .int (nI ca), .int (nI sta), .ref b20, .ref b21, .ref b22, .ref b23, .ref b24, .int (nI xn), .ref b26, .int (nI bb), .int (nI rr), .int (nI pp), .int (nI qq), .ref b31])) := g33
      have g36 : ws_9[36]? = some (b5, .inl (cB, 50800, .inl lf2)) := g36
      have g37 : ws_9[37]? = some (b6, .inl (cI, 6800, .inl (fun jj => nI (ff2 jj)))) := g37
      have g38 : ws_9[38]? = some (b7, .inl (cI, 6800, .inl (fun jj => nI (zf2 jj)))) := g38
      have g39 : ws_9[39]? = some (b12, .inl (cI, 801, .inl (fun jj => nI (fr2 jj)))) := g39
      refine nx_if_ne (tgt := 64) hx hb (by exact bn2 _) dX9_add_49 (by decide) (fun c_49 => ?_) (fun c_49 => ?_)
      · refine lv_iconst (v := nI 0) hx hb dX9_add_64 (by decide) ?_
        refine lv_istore_n (lv' := [(3, .int (nI 0)), (2, .int (nI bt_)), (1, .int (nI nm)), (0, .ref m0)]) hx hb dX9_add_65 rfl hl (by decide) rfl (fun ls hl => ?_)
        have lp_66 : ∀ (fuel : Nat) (k : Nat), (runA sh (spanL so wi (plainOf T))).2.1.length - k < fuel → (k ≤ (runA sh (spanL so wi (plainOf T))).2.1.length) → ∀ (ws1 : va_W) (H : Heap) (locs : List Loc) (ls : Array Slot), Sm (fun k => k = 33 ∨ k = 35 ∨ k = 36 ∨ k = 37 ∨ k = 38 ∨ k = 39 ∨ k = 40 ∨ k = 41 ∨ k = 42) ws ws1 → ws1[33]? = some (m0, .inr (10, [.int (nI 0), .ref b1, .ref b2, .int (nI 0), .int (nI (((plainOf T).length))), .ref b5, .ref b6, .ref b7, .int (nI ((runA sh (spanL so wi (plainOf T))).1.length)), .int (nI ((runA sh (spanL so wi (plainOf T))).1.flatten.length)), .int (nI so), .int (nI wi), .ref b12, .int (nI ((runA sh (spanL so wi (plainOf T))).2.1.length)), .ref b14, .ref b15, .ref b16, .int (nI dn), .int (nI ca), .int (nI sta), .ref b20, .ref b21, .ref b22, .ref b23, .ref b24, .int (nI xn), .ref b26, .int (nI bb), .int (nI rr), .int (nI pp), .int (nI qq), .ref b31])) → ws1[34]? = some (b1, .inl (cB, 800, .inl f)) → ws1[35]? = some (b2, .inl (cB, 801, .inl fq)) → ws1[36]? = some (b5, .inl (cB, 50800, .inl lf2)) → ws1[37]? = some (b6, .inl (cI, 6800, .inl (fun jj => nI (ff2 jj)))) → ws1[38]? = some (b7, .inl (cI, 6800, .inl (fun jj => nI (zf2 jj)))) → ws1[39]? = some (b12, .inl (cI, 801, .inl (fun jj => nI (fr2 jj)))) → ws1[40]? = some (b14, .inl (cI, 48, .inl (fun jj => nI (gn jj)))) → ws1[41]? = some (b15, .inl (cI, 48, .inl (fun jj => nI (gm jj)))) → ws1[42]? = some (b16, .inl (cI, 38400, .inl (fun jj => nI ((cpS gs fr2 (800 * dn) k) jj)))) → va_P D vwCl ws1 H → va_D A ws1 → va_S A s.heap H locs → lv_has ls 4 [(0, .ref m0), (3, .int (nI k))] → W p l e ({ frames := 3, cells := 0, slots := 0, locals := 73 }) s m ([.ref m0] : List Value).toArray below meth c H locs 0 0 (ZI D (TY cB cI cJ cO) (fun r ws' => ∃ fq : Nat → Int32, ∃ lf2 : Nat → Int32, ∃ ff2 : Nat → Nat, ∃ zf2 : Nat → Nat, ∃ fr2 : Nat → Nat, ∃ gn2 : Nat → Nat, ∃ gm2 : Nat → Nat, ∃ gs2 : Nat → Nat, ∃ fm2 : Nat, r = adR so wi T sh docs ca ∧ (Hd fq (plainOf T)) ∧ (StM (adS so wi T sh docs ca) lf2 ff2 zf2) ∧ (HdD gn2 gm2 gs2 (adD so wi T sh docs ca)) ∧ Sm (fun k => k = 33 ∨ k = 35 ∨ k = 36 ∨ k = 37 ∨ k = 38 ∨ k = 39 ∨ k = 40 ∨ k = 41 ∨ k = 42) ws ws' ∧ ws'[33]? = some (m0, .inr (10, [.int (nI 0), .ref b1, .ref b2, .int (nI 0), .int (nI ((plainOf T).length)), .ref b5, .ref b6, .ref b7, .int (nI ((adS so wi T sh docs ca).length)), .int (nI ((adS so wi T sh docs ca).flatten.length)), .int (nI so), .int (nI wi), .ref b12, .int (nI fm2), .ref b14, .ref b15, .ref b16, .int (nI ((adD so wi T sh docs ca).length)), .int (nI (ca + (adOk so wi T sh docs ca).toNat)), .int (nI (bif adOk so wi T sh docs ca then 1 else sta)), .ref b20, .ref b21, .ref b22, .ref b23, .ref b24, .int (nI xn), .ref b26, .int (nI bb), .int (nI rr), .int (nI pp), .int (nI qq), .ref b31])) ∧ ws'[35]? = some (b2, .inl (cB, 801, .inl fq)) ∧ ws'[36]? = some (b5, .inl (cB, 50800, .inl lf2)) ∧ ws'[37]? = some (b6, .inl (cI, 6800, .inl (fun jj => nI (ff2 jj)))) ∧ ws'[38]? = some (b7, .inl (cI, 6800, .inl (fun jj => nI (zf2 jj)))) ∧ ws'[39]? = some (b12, .inl (cI, 801, .inl (fun jj => nI (fr2 jj)))) ∧ ws'[40]? = some (b14, .inl (cI, 48, .inl (fun jj => nI (gn2 jj)))) ∧ ws'[41]? = some (b15, .inl (cI, 48, .inl (fun jj => nI (gm2 jj)))) ∧ ws'[42]? = some (b16, .inl (cI, 38400, .inl (fun jj => nI (gs2 jj))))) below [.ref m0] s 0 0 A) (F0 m 66 ls []) := by
          intro fuel
          induction fuel with
          | zero => intro k hfu; exact absurd hfu (Nat.not_lt_zero _)
          | succ fuel ih_66 =>
            intro k hfu_66 hk ws1 H locs ls sm g33 g34 g35 g36 g37 g38 g39 g40 g41 g42 hP hD hS hl
            refine lv_iload_n hx hb dX9_add_66 rfl (lv_at hl 1 rfl) ?_
            refine lv_aload_n hx hb dX9_add_67 rfl (lv_at hl 0 rfl) ?_
            refine va_get (D := D) (ci := 10) (v := .int (nI ((runA sh (spanL so wi (plainOf T))).2.1.length))) (C := RX9) (T := TX9) (N := 32) hx hb hts hin_X9 hown hK hP 33 g33 rfl 13 (by decide) fl_45 (fun _ h9 => h9) rfl dX9_add_68 ?_
            refine nx_icmp_ge (tgt := 101) hx hb (by have := hok2.2.2.1; omega) (by have := hok2.2.2.1; omega) dX9_add_71 (by decide) (fun c_71 => ?_) (fun c_71 => ?_)
            · refine lv_aload_n hx hb dX9_add_101 rfl (lv_at hl 0 rfl) ?_
              refine va_get (D := D) (ci := 10) (v := .ref b15) (C := RX9) (T := TX9) (N := 32) hx hb hts hin_X9 hown hK hP 33 g33 rfl 15 (by decide) fl_78 (fun _ h9 => h9) rfl dX9_add_102 ?_
              refine lv_aload_n hx hb dX9_add_105 rfl (lv_at hl 0 rfl) ?_
              refine va_get (D := D) (ci := 10) (v := .int (nI dn)) (C := RX9) (T := TX9) (N := 32) hx hb hts hin_X9 hown hK hP 33 g33 rfl 17 (by decide) fl_65 (fun _ h9 => h9) rfl dX9_add_106 ?_
              refine lv_aload_n hx hb dX9_add_109 rfl (lv_at hl 0 rfl) ?_
              refine va_get (D := D) (ci := 10) (v := .int (nI ((runA sh (spanL so wi (plainOf T))).2.1.length))) (C := RX9) (T := TX9) (N := 32) hx hb hts hin_X9 hown hK hP 33 g33 rfl 13 (by decide) fl_45 (fun _ h9 => h9) rfl dX9_add_110 ?_
              refine nx_iastN hx hb hK hP hD hS 41 1 g41 rfl (k := dn) (by omega) (by decide) dX9_add_113 (fun ws_11 H locs gq up_12 hP hD hS => ?_)
              have g41 : ws_11[41]? = some (b15, .inl (cI, 48, .inl (fun jj => nI ((va_up gm dn ((runA sh (spanL so wi (plainOf T))).2.1.length)) jj)))) := gq
              have g33 := up_12.get g33 (by decide)
              have g34 := up_12.get g34 (by decide)
              have g35 := up_12.get g35 (by decide)
              have g36 := up_12.get g36 (by decide)
              have g37 := up_12.get g37 (by decide)
              have g38 := up_12.get g38 (by decide)
              have g39 := up_12.get g39 (by decide)
              have g40 := up_12.get g40 (by decide)
              have g42 := up_12.get g42 (by decide)
              have sm := sm.up up_12 (by simp)
              refine lv_aload_n hx hb dX9_add_114 rfl (lv_at hl 0 rfl) ?_
              refine va_get (D := D) (ci := 10) (v := .ref b14) (C := RX9) (T := TX9) (N := 32) hx hb hts hin_X9 hown hK hP 33 g33 rfl 14 (by decide) fl_81 (fun _ h9 => h9) rfl dX9_add_115 ?_
              refine lv_aload_n hx hb dX9_add_118 rfl (lv_at hl 0 rfl) ?_
              refine va_get (D := D) (ci := 10) (v := .int (nI dn)) (C := RX9) (T := TX9) (N := 32) hx hb hts hin_X9 hown hK hP 33 g33 rfl 17 (by decide) fl_65 (fun _ h9 => h9) rfl dX9_add_119 ?_
              refine lv_aload_n hx hb dX9_add_122 rfl (lv_at hl 0 rfl) ?_
              refine va_get (D := D) (ci := 10) (v := .int (nI ca)) (C := RX9) (T := TX9) (N := 32) hx hb hts hin_X9 hown hK hP 33 g33 rfl 18 (by decide) fl_68 (fun _ h9 => h9) rfl dX9_add_123 ?_
              refine nx_iastN hx hb hK hP hD hS 40 1 g40 rfl (k := dn) (by omega) (by decide) dX9_add_126 (fun ws_13 H locs gq up_14 hP hD hS => ?_)
              have g40 : ws_13[40]? = some (b14, .inl (cI, 48, .inl (fun jj => nI ((va_up gn dn ca) jj)))) := gq
              have g33 := up_14.get g33 (by decide)
              have g34 := up_14.get g34 (by decide)
              have g35 := up_14.get g35 (by decide)
              have g36 := up_14.get g36 (by decide)
              have g37 := up_14.get g37 (by decide)
              have g38 := up_14.get g38 (by decide)
              have g39 := up_14.get g39 (by decide)
              have g41 := up_14.get g41 (by decide)
              have g42 := up_14.get g42 (by decide)
              have sm := sm.up up_14 (by simp)
              refine lv_aload_n hx hb dX9_add_127 rfl (lv_at hl 0 rfl) ?_
              refine lv_dup hx hb dX9_add_128 rfl ?_
              refine va_get (D := D) (ci := 10) (v := .int (nI dn)) (C := RX9) (T := TX9) (N := 32) hx hb hts hin_X9 hown hK hP 33 g33 rfl 17 (by decide) fl_65 (fun _ h9 => h9) rfl dX9_add_129 ?_
              refine lv_iconst (v := nI 1) hx hb dX9_add_132 (by decide) ?_
              refine nx_iadd hx hb dX9_add_133 ?_
              refine nx_put (D := D) (ci := 10) (v := .int (nI (dn + 1))) (ty := .int) (C := RX9) (T := TX9) (N := 32) hx hb hts hin_X9 tyX9 tyX9_ok nmX9 hown hK hP hD hS 33 g33 rfl 17 (by decide) fl_65 (fun _ h9 => h9) rfl (by decide +kernel) rfl rfl (Nat.le_of_ble_eq_true rfl) dX9_add_134 (fun ws_15 H locs gq up_16 hP hD hS => ?_)
              have g33 : ws_15[33]? = some (m0, .inr (10, [.int (nI 0), .ref b1, .ref b2, .int (nI 0), .int (nI (((plainOf T).length))), .ref b5, .ref b6, .ref b7, .int (nI ((runA sh (spanL so wi (plainOf T))).1.length)), .int (nI ((runA sh (spanL so wi (plainOf T))).1.flatten.length)), .int (nI so), .int (nI wi), .ref b12, .int (nI ((runA sh (spanL so wi (plainOf T))).2.1.length)), .ref b14, .ref b15, .ref b16, .int (nI (dn + 1)), .int (nI ca), .int (nI sta), .ref b20, .ref b21, .ref b22, .ref b23, .ref b24, .int (nI xn), .ref b26, .int (nI bb), .int (nI rr), .int (nI pp), .int (nI qq), .ref b31])) := gq
              have g34 := up_16.get g34 (by decide)
              have g35 := up_16.get g35 (by decide)
              have g36 := up_16.get g36 (by decide)
              have g37 := up_16.get g37 (by decide)
              have g38 := up_16.get g38 (by decide)
              have g39 := up_16.get g39 (by decide)
              have g40 := up_16.get g40 (by decide)
              have g41 := up_16.get g41 (by decide)
              have g42 := up_16.get g42 (by decide)
              have sm := sm.up up_16 (by simp)
              refine lv_aload_n hx hb dX9_add_137 rfl (lv_at hl 0 rfl) ?_
              refine lv_dup hx hb dX9_add_138 rfl ?_
              refine va_get (D := D) (ci := 10) (v := .int (nI ca)) (C := RX9) (T := TX9) (N := 32) hx hb hts hin_X9 hown hK hP 33 g33 rfl 18 (by decide) fl_68 (fun _ h9 => h9) rfl dX9_add_139 ?_
              refine lv_iconst (v := nI 1) hx hb dX9_add_142 (by decide) ?_
              refine nx_iadd hx hb dX9_add_143 ?_
              refine nx_put (D := D) (ci := 10) (v := .int (nI (ca + 1))) (ty := .int) (C := RX9) (T := TX9) (N := 32) hx hb hts hin_X9 tyX9 tyX9_ok nmX9 hown hK hP hD hS 33 g33 rfl 18 (by decide) fl_68 (fun _ h9 => h9) rfl (by decide +kernel) rfl rfl (Nat.le_of_ble_eq_true rfl) dX9_add_144 (fun ws_17 H locs gq up_18 hP hD hS => ?_)
              have g33 : ws_17[33]? = some (m0, .inr (10, [.int (nI 0), .ref b1, .ref b2, .int (nI 0), .int (nI (((plainOf T).length))), .ref b5, .ref b6, .ref b7, .int (nI ((runA sh (spanL so wi (plainOf T))).1.length)), .int (nI ((runA sh (spanL so wi (plainOf T))).1.flatten.length)), .int (nI so), .int (nI wi), .ref b12, .int (nI ((runA sh (spanL so wi (plainOf T))).2.1.length)), .ref b14, .ref b15, .ref b16, .int (nI (dn + 1)), .int (nI (ca + 1)), .int (nI sta), .ref b20, .ref b21, .ref b22, .ref b23, .ref b24, .int (nI xn), .ref b26, .int (nI bb), .int (nI rr), .int (nI pp), .int (nI qq), .ref b31])) := gq
              have g34 := up_18.get g34 (by decide)
              have g35 := up_18.get g35 (by decide)
              have g36 := up_18.get g36 (by decide)
              have g37 := up_18.get g37 (by decide)
              have g38 := up_18.get g38 (by decide)
              have g39 := up_18.get g39 (by decide)
              have g40 := up_18.get g40 (by decide)
              have g41 := up_18.get g41 (by decide)
              have g42 := up_18.get g42 (by decide)
              have sm := sm.up up_18 (by simp)
              refine lv_aload_n hx hb dX9_add_147 rfl (lv_at hl 0 rfl) ?_
              refine lv_iconst (v := nI 1) hx hb dX9_add_148 (by decide) ?_
              refine nx_put (D := D) (ci := 10) (v := .int (nI 1)) (ty := .boolean) (C := RX9) (T := TX9) (N := 32) hx hb hts hin_X9 tyX9 tyX9_ok nmX9 hown hK hP hD hS 33 g33 rfl 19 (by decide) fl_84 (fun _ h9 => h9) rfl (by decide +kernel) (by decide) (by decide) (Nat.le_of_ble_eq_true rfl) dX9_add_149 (fun ws_19 H locs gq up_20 hP hD hS => ?_)
              have g33 : ws_19[33]? = some (m0, .inr (10, [.int (nI 0), .ref b1, .ref b2, .int (nI 0), .int (nI (((plainOf T).length))), .ref b5, .ref b6, .ref b7, .int (nI ((runA sh (spanL so wi (plainOf T))).1.length)), .int (nI ((runA sh (spanL so wi (plainOf T))).1.flatten.length)), .int (nI so), .int (nI wi), .ref b12, .int (nI ((runA sh (spanL so wi (plainOf T))).2.1.length)), .ref b14, .ref b15, .ref b16, .int (nI (dn + 1)), .int (nI (ca + 1)), .int (nI 1), .ref b20, .ref b21, .ref b22, .ref b23, .ref b24, .int (nI xn), .ref b26, .int (nI bb), .int (nI rr), .int (nI pp), .int (nI qq), .ref b31])) := gq
              have g34 := up_20.get g34 (by decide)
              have g35 := up_20.get g35 (by decide)
              have g36 := up_20.get g36 (by decide)
              have g37 := up_20.get g37 (by decide)
              have g38 := up_20.get g38 (by decide)
              have g39 := up_20.get g39 (by decide)
              have g40 := up_20.get g40 (by decide)
              have g41 := up_20.get g41 (by decide)
              have g42 := up_20.get g42 (by decide)
              have sm := sm.up up_20 (by simp)
              refine lv_aload_n hx hb dX9_add_152 rfl (lv_at hl 0 rfl) ?_
              refine va_get (D := D) (ci := 10) (v := .int (nI (ca + 1))) (C := RX9) (T := TX9) (N := 32) hx hb hts hin_X9 hown hK hP 33 g33 rfl 18 (by decide) fl_68 (fun _ h9 => h9) rfl dX9_add_153 ?_
              refine lv_iconst (v := nI 1) hx hb dX9_add_156 (by decide) ?_
              refine nx_isub hx hb (by omega) dX9_add_157 ?_
              have hyes : adOk so wi T sh docs ca = true := ad_t (by omega) (by omega) (bool1 c_49)
              have hya := ad_yes hyes
              have hcp : True := True.intro
              have hle9 : (adD so wi T sh docs ca).length = dn + 1 := by rw [hya.2, List.length_append, hdn]; rfl
              have g33 : ws_19[33]? = some (m0, .inr (10, [.int (nI 0), .ref b1, .ref b2, .int (nI 0), .int (nI ((plainOf T).length)), .ref b5, .ref b6, .ref b7, .int (nI ((adS so wi T sh docs ca).length)), .int (nI ((adS so wi T sh docs ca).flatten.length)), .int (nI so), .int (nI wi), .ref b12, .int (nI ((runA sh (spanL so wi (plainOf T))).2.1.length)), .ref b14, .ref b15, .ref b16, .int (nI ((adD so wi T sh docs ca).length)), .int (nI (ca + (adOk so wi T sh docs ca).toNat)), .int (nI (bif adOk so wi T sh docs ca then 1 else sta)), .ref b20, .ref b21, .ref b22, .ref b23, .ref b24, .int (nI xn), .ref b26, .int (nI bb), .int (nI rr), .int (nI pp), .int (nI qq), .ref b31])) := by rw [hle9, hya.1, hyes]; exact g33
              exact CI.ret (v := (nI ((ca + 1) - 1))) C hK hP hD hS rfl (⟨fq, lf2, ff2, zf2, fr2, _, _, _, _, (adR_yes hyes).symm, hq, (by rw [hya.1]; exact hst2), (by rw [hya.2]; have h9 := hdd.app (ca := ca) hds hfr2; rw [hdn] at h9; rw [show k = (runA sh (spanL so wi (plainOf T))).2.1.length by omega]; exact h9), sm, g33, g35, g36, g37, g38, g39, g40, g41, g42⟩) hc0 hs0 dX9_add_158
            · refine lv_aload_n hx hb dX9_add_74 rfl (lv_at hl 0 rfl) ?_
              refine va_get (D := D) (ci := 10) (v := .ref b16) (C := RX9) (T := TX9) (N := 32) hx hb hts hin_X9 hown hK hP 33 g33 rfl 16 (by decide) fl_75 (fun _ h9 => h9) rfl dX9_add_75 ?_
              refine lv_sipush (v := nI 800) hx hb dX9_add_78 (by decide) ?_
              refine lv_aload_n hx hb dX9_add_81 rfl (lv_at hl 0 rfl) ?_
              refine va_get (D := D) (ci := 10) (v := .int (nI dn)) (C := RX9) (T := TX9) (N := 32) hx hb hts hin_X9 hown hK hP 33 g33 rfl 17 (by decide) fl_65 (fun _ h9 => h9) rfl dX9_add_82 ?_
              refine nx_imul hx hb dX9_add_85 ?_
              refine lv_iload_n hx hb dX9_add_86 rfl (lv_at hl 1 rfl) ?_
              refine nx_iadd hx hb dX9_add_87 ?_
              refine lv_aload_n hx hb dX9_add_88 rfl (lv_at hl 0 rfl) ?_
              refine va_get (D := D) (ci := 10) (v := .ref b12) (C := RX9) (T := TX9) (N := 32) hx hb hts hin_X9 hown hK hP 33 g33 rfl 12 (by decide) fl_48 (fun _ h9 => h9) rfl dX9_add_89 ?_
              refine lv_iload_n hx hb dX9_add_92 rfl (lv_at hl 1 rfl) ?_
              refine nx_iald hx hb hK hP 39 1 g39 rfl (k := k) (by have := hok2.2.2.1; omega) (by decide) dX9_add_93 ?_
              refine nx_iastN hx hb hK hP hD hS 42 1 g42 rfl (k := ((800 * dn) + k)) (by have := hok2.2.2.1; omega) (by decide) dX9_add_94 (fun ws_21 H locs gq up_22 hP hD hS => ?_)
              have g42 : ws_21[42]? = some (b16, .inl (cI, 38400, .inl (fun jj => nI ((va_up (cpS gs fr2 (800 * dn) k) ((800 * dn) + k) (fr2 k)) jj)))) := gq
              have g33 := up_22.get g33 (by decide)
              have g34 := up_22.get g34 (by decide)
              have g35 := up_22.get g35 (by decide)
              have g36 := up_22.get g36 (by decide)
              have g37 := up_22.get g37 (by decide)
              have g38 := up_22.get g38 (by decide)
              have g39 := up_22.get g39 (by decide)
              have g40 := up_22.get g40 (by decide)
              have g41 := up_22.get g41 (by decide)
              have sm := sm.up up_22 (by simp)
              refine lv_iinc (v := (nI (k + 1))) (lv' := [(3, .int (nI (k + 1))), (0, .ref m0)]) hx hb dX9_add_95 hl (k := 1) rfl (nx_inc _ 1) (by decide) rfl (fun ls hl => ?_)
              refine lv_goto (tgt := 66) hx hb dX9_add_98 (by decide) ?_
              have g42 : ws_21[42]? = some (b16, .inl (cI, 38400, .inl (fun jj => nI ((cpS gs fr2 (800 * dn) (k + 1)) jj)))) := by rw [← cpS_s]; exact g42
              exact ih_66 (k + 1) (by omega) (by omega) _ _ _ _ sm g33 g34 g35 g36 g37 g38 g39 g40 g41 g42 hP hD hS (lv_sub hl [1, 0] rfl)
        have g42 : ws_9[42]? = some (b16, .inl (cI, 38400, .inl (fun jj => nI ((cpS gs fr2 (800 * dn) 0) jj)))) := by rw [cpS_0]; exact g42
        exact lp_66 _ 0 (Nat.lt_succ_self _) (Nat.zero_le _) _ _ _ _ sm g33 g34 g35 g36 g37 g38 g39 g40 g41 g42 hP hD hS (lv_sub hl [3, 0] rfl)
      · have hpre : ∃ M, (runA sh (spanL so wi (plainOf T))).1 = sh ++ M := runA_pre (q := (sh, [], true))
        refine lv_aload_n hx hb dX9_add_52 rfl (lv_at hl 2 rfl) ?_
        refine lv_iload_n hx hb dX9_add_53 rfl (lv_at hl 1 rfl) ?_
        refine nx_put (D := D) (ci := 10) (v := .int (nI nm)) (ty := .int) (C := RX9) (T := TX9) (N := 32) hx hb hts hin_X9 tyX9 tyX9_ok nmX9 hown hK hP hD hS 33 g33 rfl 8 (by decide) fl_24 (fun _ h9 => h9) rfl (by decide +kernel) rfl rfl (Nat.le_of_ble_eq_true rfl) dX9_add_54 (fun ws_23 H locs gq up_24 hP hD hS => ?_)
        have g33 : ws_23[33]? = some (m0, .inr (10, [.int (nI 0), .ref b1, .ref b2, .int (nI 0), .int (nI (((plainOf T).length))), .ref b5, .ref b6, .ref b7, .int (nI nm), .int (nI ((runA sh (spanL so wi (plainOf T))).1.flatten.length)), .int (nI so), .int (nI wi), .ref b12, .int (nI ((runA sh (spanL so wi (plainOf T))).2.1.length)), .ref b14, .ref b15, .ref b16, .int (nI dn), .int (nI ca), .int (nI sta), .ref b20, .ref b21, .ref b22, .ref b23, .ref b24, .int (nI xn), .ref b26, .int (nI bb), .int (nI rr), .int (nI pp), .int (nI qq), .ref b31])) := gq
        have g34 := up_24.get g34 (by decide)
        have g35 := up_24.get g35 (by decide)
        have g36 := up_24.get g36 (by decide)
        have g37 := up_24.get g37 (by decide)
        have g38 := up_24.get g38 (by decide)
        have g39 := up_24.get g39 (by decide)
        have g40 := up_24.get g40 (by decide)
        have g41 := up_24.get g41 (by decide)
        have g42 := up_24.get g42 (by decide)
        have sm := sm.up up_24 (by simp)
        refine lv_aload_n hx hb dX9_add_57 rfl (lv_at hl 2 rfl) ?_
        refine lv_iload_n hx hb dX9_add_58 rfl (lv_at hl 0 rfl) ?_
        refine nx_put (D := D) (ci := 10) (v := .int (nI bt_)) (ty := .int) (C := RX9) (T := TX9) (N := 32) hx hb hts hin_X9 tyX9 tyX9_ok nmX9 hown hK hP hD hS 33 g33 rfl 9 (by decide) fl_41 (fun _ h9 => h9) rfl (by decide +kernel) rfl rfl (Nat.le_of_ble_eq_true rfl) dX9_add_59 (fun ws_25 H locs gq up_26 hP hD hS => ?_)
        have g33 : ws_25[33]? = some (m0, .inr (10, [.int (nI 0), .ref b1, .ref b2, .int (nI 0), .int (nI (((plainOf T).length))), .ref b5, .ref b6, .ref b7, .int (nI nm), .int (nI bt_), .int (nI so), .int (nI wi), .ref b12, .int (nI ((runA sh (spanL so wi (plainOf T))).2.1.length)), .ref b14, .ref b15, .ref b16, .int (nI dn), .int (nI ca), .int (nI sta), .ref b20, .ref b21, .ref b22, .ref b23, .ref b24, .int (nI xn), .ref b26, .int (nI bb), .int (nI rr), .int (nI pp), .int (nI qq), .ref b31])) := gq
        have g34 := up_26.get g34 (by decide)
        have g35 := up_26.get g35 (by decide)
        have g36 := up_26.get g36 (by decide)
        have g37 := up_26.get g37 (by decide)
        have g38 := up_26.get g38 (by decide)
        have g39 := up_26.get g39 (by decide)
        have g40 := up_26.get g40 (by decide)
        have g41 := up_26.get g41 (by decide)
        have g42 := up_26.get g42 (by decide)
        have sm := sm.up up_26 (by simp)
        refine lv_iconst (v := -1) hx hb dX9_add_62 (by decide) ?_
        have hno : adOk so wi T sh docs ca = false := ad_f (bool0 c_49)
        have g33 : ws_25[33]? = some (m0, .inr (10, [.int (nI 0), .ref b1, .ref b2, .int (nI 0), .int (nI ((plainOf T).length)), .ref b5, .ref b6, .ref b7, .int (nI ((adS so wi T sh docs ca).length)), .int (nI ((adS so wi T sh docs ca).flatten.length)), .int (nI so), .int (nI wi), .ref b12, .int (nI ((runA sh (spanL so wi (plainOf T))).2.1.length)), .ref b14, .ref b15, .ref b16, .int (nI ((adD so wi T sh docs ca).length)), .int (nI (ca + (adOk so wi T sh docs ca).toNat)), .int (nI (bif adOk so wi T sh docs ca then 1 else sta)), .ref b20, .ref b21, .ref b22, .ref b23, .ref b24, .int (nI xn), .ref b26, .int (nI bb), .int (nI rr), .int (nI pp), .int (nI qq), .ref b31])) := by rw [(ad_no hno).1, (ad_no hno).2, hno, hsn, hbt, hdn]; exact g33
        exact CI.ret (v := (-1)) C hK hP hD hS rfl (⟨fq, lf2, ff2, zf2, fr2, gn, gm, gs, _, (adR_no hno).symm, hq, (by rw [(ad_no hno).1]; obtain ⟨M, hM⟩ := hpre; rw [hM] at hst2; exact hst2.pre), (by rw [(ad_no hno).2]; exact hdd), sm, g33, g35, g36, g37, g38, g39, g40, g41, g42⟩) hc0 hs0 dX9_add_63
    · refine lv_iconst (v := -1) hx hb dX9_add_33 (by decide) ?_
      have hfull : docs.length = 48 ∨ ca = 400 := by omega
      have hf0 : adOk so wi T sh docs ca = false := ad_full hfull
      have hno := ad_no hf0
      have g33 : ws_6[33]? = some (m0, .inr (10, [.int (nI 0), .ref b1, .ref b2, .int (nI 0), .int (nI ((plainOf T).length)), .ref b5, .ref b6, .ref b7, .int (nI ((adS so wi T sh docs ca).length)), .int (nI ((adS so wi T sh docs ca).flatten.length)), .int (nI so), .int (nI wi), .ref b12, .int (nI fm), .ref b14, .ref b15, .ref b16, .int (nI ((adD so wi T sh docs ca).length)), .int (nI (ca + (adOk so wi T sh docs ca).toNat)), .int (nI (bif adOk so wi T sh docs ca then 1 else sta)), .ref b20, .ref b21, .ref b22, .ref b23, .ref b24, .int (nI xn), .ref b26, .int (nI bb), .int (nI rr), .int (nI pp), .int (nI qq), .ref b31])) := by rw [hno.1, hno.2, hf0, hsn, hbt, hdn]; exact g33
      exact CI.ret (v := (-1)) C hK hP hD hS rfl (⟨fq, lf, ff, zf, fr, gn, gm, gs, fm, (adR_no hf0).symm, hq, (by rw [hno.1]; exact hst), (by rw [hno.2]; exact hdd), sm, g33, g35, g36, g37, g38, g39, g40, g41, g42⟩) hc0 hs0 dX9_add_34
