set_option maxHeartbeats 4000000 in
set_option maxRecDepth 100000 in
theorem c_X9_band {D : va_G} {cB cI cJ cO : ClassId} {l : Launch} {m0 b1 b2 b5 b6 b7 b12 b14 b15 b16 b20 b21 b22 b23 b24 b26 b31 th len ps nm bt_ so wi fm dn ca sta xn bb rr pp qq : Nat} {ta tb gw go gt gn gm gs gl : Nat → Nat} {E : List (Nat × Nat × Nat)} {docs : List (Nat × List Nat)} {x y : Nat} {ws : va_W} (g33 : ws[33]? = some (m0, .inr (10, [.int (nI th), .ref b1, .ref b2, .int (nI len), .int (nI ps), .ref b5, .ref b6, .ref b7, .int (nI nm), .int (nI bt_), .int (nI so), .int (nI wi), .ref b12, .int (nI fm), .ref b14, .ref b15, .ref b16, .int (nI dn), .int (nI ca), .int (nI sta), .ref b20, .ref b21, .ref b22, .ref b23, .ref b24, .int (nI xn), .ref b26, .int (nI bb), .int (nI rr), .int (nI pp), .int (nI qq), .ref b31]))) (g41 : ws[41]? = some (b15, .inl (cI, 48, .inl (fun jj => nI (gm jj))))) (g42 : ws[42]? = some (b16, .inl (cI, 38400, .inl (fun jj => nI (gs jj))))) (g43 : ws[43]? = some (b20, .inl (cI, 64, .inl (fun jj => nI (ta jj))))) (g44 : ws[44]? = some (b21, .inl (cI, 64, .inl (fun jj => nI (tb jj))))) (g45 : ws[45]? = some (b22, .inl (cI, 300, .inl (fun jj => nI (gw jj))))) (g46 : ws[46]? = some (b23, .inl (cI, 300, .inl (fun jj => nI (go jj))))) (g47 : ws[47]? = some (b24, .inl (cI, 300, .inl (fun jj => nI (gt jj))))) (g48 : ws[48]? = some (b26, .inl (cI, 3072, .inl (fun jj => nI (gl jj))))) (hE : HdE gw go gt E) (hx9 : E.length = xn) (h300 : xn ≤ 300) (hsm : Esm E) (hta : Tab ta tb) (hdd : HdD gn gm gs docs) (hdn : docs.length = dn) (h48 : dn ≤ 48) (hds : Dsm docs) (hsta : sta ≤ 1) (hlo : sta = 0 → LeastOK gl ta tb E docs) (hbr : bb * rr ≤ 64) (hb64 : bb ≤ 64) (hr64 : rr ≤ 64) (hxd : x < docs.length) (hyd : y < docs.length) : CI D (TY cB cI cJ cO) l yX9_band wsX9_band ({ frames := 2, cells := 0, slots := 0, locals := 51 }) [.ref m0, .int (nI x), .int (nI y)] ws (fun r ws' => ∃ sta2 : Nat, ∃ gl2 : Nat → Nat, r = optI (bdM ta tb E docs rr bb x y) ∧ (sta2 ≤ 1) ∧ (sta2 = 0 → LeastOK gl2 ta tb E docs) ∧ Sm (fun k => k = 33 ∨ k = 48) ws ws' ∧ ws'[33]? = some (m0, .inr (10, [.int (nI th), .ref b1, .ref b2, .int (nI len), .int (nI ps), .ref b5, .ref b6, .ref b7, .int (nI nm), .int (nI bt_), .int (nI so), .int (nI wi), .ref b12, .int (nI fm), .ref b14, .ref b15, .ref b16, .int (nI dn), .int (nI ca), .int (nI sta2), .ref b20, .ref b21, .ref b22, .ref b23, .ref b24, .int (nI xn), .ref b26, .int (nI bb), .int (nI rr), .int (nI pp), .int (nI qq), .ref b31])) ∧ ws'[48]? = some (b26, .inl (cI, 3072, .inl (fun jj => nI (gl2 jj))))) := by
  refine CI.of (cc := cX9_band) (maxL := 6) (ret := (some .int)) (by decide) rfl (Nat.le_of_ble_eq_true rfl) ?_
  intro p e s m below meth c A C hK hP hD hA hS ls hl
  obtain ⟨hx, hb, hr, hml, hts, hown, hlocks, hnm⟩ := id C
  have fl_78 := hts (.fieldLink RX9 78 "TwinFinderModel" "many" "[I") (by decide +kernel)
  have fl_118 := hts (.fieldLink RX9 118 "TwinFinderModel" "least" "[I") (by decide +kernel)
  have fl_121 := hts (.fieldLink RX9 121 "TwinFinderModel" "bands" "I") (by decide +kernel)
  have fl_124 := hts (.fieldLink RX9 124 "TwinFinderModel" "rows" "I") (by decide +kernel)
  have hin_X9 : ∀ w ∈ u_ws RX9 TX9 32, w ∈ wsX9_band := by decide +kernel
  have hl : lv_has ls 6 [(0, .ref m0), (1, .int (nI x)), (2, .int (nI y))] := hl
  have sm : Sm (fun k => k = 33 ∨ k = 48) ws ws := Sm.rf
  have hc0 : (0 : Nat) ≤ 0 := by decide
  have hs0 : (0 : Nat) ≤ 0 := by decide
  have hxm : gm x = docs[x].2.length := (hdd x hxd).2.1
  have hym : gm y = docs[y].2.length := (hdd y hyd).2.1
  have hxs := (hds docs[x] (List.getElem_mem _)).2.1
  have hys := (hds docs[y] (List.getElem_mem _)).2.1
  refine lv_aload_n hx hb dX9_band_0 rfl (lv_at hl 0 rfl) ?_
  refine va_get (D := D) (ci := 10) (v := .ref b15) (C := RX9) (T := TX9) (N := 32) hx hb hts hin_X9 hown hK hP 33 g33 rfl 15 (by decide) fl_78 (fun _ h9 => h9) rfl dX9_band_1 ?_
  refine lv_iload_n hx hb dX9_band_4 rfl (lv_at hl 1 rfl) ?_
  refine nx_iald hx hb hK hP 41 1 g41 rfl (k := x) (by omega) (by decide) dX9_band_5 ?_
  refine nx_if_eq (tgt := 18) hx hb (by omega) dX9_band_6 (by decide) (fun c_6 => ?_) (fun c_6 => ?_)
  · refine lv_iconst (v := -1) hx hb dX9_band_18 (by decide) ?_
    exact CI.ret (v := (-1)) C hK hP hD hS rfl (⟨sta, gl, (by rw [bdM, gD_at hxd, gD_at hyd, bandF, if_pos (by omega)]; rfl), hsta, hlo, sm, g33, g48⟩) hc0 hs0 dX9_band_19
  · refine lv_aload_n hx hb dX9_band_9 rfl (lv_at hl 0 rfl) ?_
    refine va_get (D := D) (ci := 10) (v := .ref b15) (C := RX9) (T := TX9) (N := 32) hx hb hts hin_X9 hown hK hP 33 g33 rfl 15 (by decide) fl_78 (fun _ h9 => h9) rfl dX9_band_10 ?_
    refine lv_iload_n hx hb dX9_band_13 rfl (lv_at hl 2 rfl) ?_
    refine nx_iald hx hb hK hP 41 1 g41 rfl (k := y) (by omega) (by decide) dX9_band_14 ?_
    refine nx_if_ne (tgt := 20) hx hb (by omega) dX9_band_15 (by decide) (fun c_15 => ?_) (fun c_15 => ?_)
    · refine lv_aload_n hx hb dX9_band_20 rfl (lv_at hl 0 rfl) ?_
      refine CV.go (va_runV (As := []) (rest := []) ⟨hx, hb, hml, hown, hts⟩ (c_X9_sign  g33 g41 g42 g43 g44 g45 g46 g47 g48 hE hx9 h300 hsm hta hdd hdn h48 hds hsta hlo _) (cwV 0 hts gX9_band_X9_sign rfl rfl rfl (by decide +kernel) ⟨Nat.le_of_ble_eq_true rfl, Nat.le_of_ble_eq_true rfl⟩) ⟨pw_blind, va_recv hK hP (ci := 10) (q0 := 33) rfl g33, fun U hU hW => pw_pre hK hP hD hU hW⟩ rfl rfl hl.1 rfl (lv_room (Nat.le_of_ble_eq_true rfl)) dX9_band_21 ⟨by decide, by decide⟩) hD hS hA (fun ws_2 H locs hp hP hD hS => ?_)
      obtain ⟨gl2, hlo2, sm_3, g33, g48⟩ := hp
      have g41 := sm_3.get g41 (by simp)
      have g42 := sm_3.get g42 (by simp)
      have g43 := sm_3.get g43 (by simp)
      have g44 := sm_3.get g44 (by simp)
      have g45 := sm_3.get g45 (by simp)
      have g46 := sm_3.get g46 (by simp)
      have g47 := sm_3.get g47 (by simp)
      have sm := sm.call sm_3 (by intro k hk; (try simp only at hk ⊢); omega)
      have g33 : ws_2[33]? = some (m0, .inr (10, [.int (nI th), .ref b1, .ref b2, .int (nI len), .int (nI ps), .ref b5, .ref b6, .ref b7, .int (nI nm), .int (nI bt_), .int (nI so), .int (nI wi), .ref b12, .int (nI fm), .ref b14, .ref b15, .ref b16, .int (nI dn), .int (nI ca), .int (nI 0), .ref b20, .ref b21, .ref b22, .ref b23, .ref b24, .int (nI xn), .ref b26, .int (nI bb), .int (nI rr), .int (nI pp), .int (nI qq), .ref b31])) := g33
      have g48 : ws_2[48]? = some (b26, .inl (cI, 3072, .inl (fun jj => nI (gl2 jj)))) := g48
      have hlx : ∀ k, k < 64 → gl2 (64 * x + k) = sgOf ta tb E docs[x].2 k ∧ sgOf ta tb E docs[x].2 k ≤ 65521 := fun k hk => ⟨hlo2 x hxd k hk, sg_le _ _⟩
      have hly : ∀ k, k < 64 → gl2 (64 * y + k) = sgOf ta tb E docs[y].2 k ∧ sgOf ta tb E docs[y].2 k ≤ 65521 := fun k hk => ⟨hlo2 y hyd k hk, sg_le _ _⟩
      refine lv_iconst (v := nI 0) hx hb dX9_band_24 (by decide) ?_
      refine lv_istore_n (lv' := [(3, .int (nI 0)), (0, .ref m0), (1, .int (nI x)), (2, .int (nI y))]) hx hb dX9_band_25 rfl hl (by decide) rfl (fun ls hl => ?_)
      have lp_26 : ∀ (fuel : Nat) (u : Nat), bb - u < fuel → (u ≤ bb) → (∀ k, k < u → agr (sgOf ta tb E docs[x].2) (sgOf ta tb E docs[y].2) (k * rr) rr = false) → ∀ (ws1 : va_W) (H : Heap) (locs : List Loc) (ls : Array Slot), Sm (fun k => k = 33 ∨ k = 48) ws ws1 → ws1[33]? = some (m0, .inr (10, [.int (nI th), .ref b1, .ref b2, .int (nI len), .int (nI ps), .ref b5, .ref b6, .ref b7, .int (nI nm), .int (nI bt_), .int (nI so), .int (nI wi), .ref b12, .int (nI fm), .ref b14, .ref b15, .ref b16, .int (nI dn), .int (nI ca), .int (nI 0), .ref b20, .ref b21, .ref b22, .ref b23, .ref b24, .int (nI xn), .ref b26, .int (nI bb), .int (nI rr), .int (nI pp), .int (nI qq), .ref b31])) → ws1[41]? = some (b15, .inl (cI, 48, .inl (fun jj => nI (gm jj)))) → ws1[42]? = some (b16, .inl (cI, 38400, .inl (fun jj => nI (gs jj)))) → ws1[43]? = some (b20, .inl (cI, 64, .inl (fun jj => nI (ta jj)))) → ws1[44]? = some (b21, .inl (cI, 64, .inl (fun jj => nI (tb jj)))) → ws1[45]? = some (b22, .inl (cI, 300, .inl (fun jj => nI (gw jj)))) → ws1[46]? = some (b23, .inl (cI, 300, .inl (fun jj => nI (go jj)))) → ws1[47]? = some (b24, .inl (cI, 300, .inl (fun jj => nI (gt jj)))) → ws1[48]? = some (b26, .inl (cI, 3072, .inl (fun jj => nI (gl2 jj)))) → va_P D vwCl ws1 H → va_D A ws1 → va_S A s.heap H locs → lv_has ls 6 [(0, .ref m0), (1, .int (nI x)), (2, .int (nI y)), (3, .int (nI u))] → W p l e ({ frames := 2, cells := 0, slots := 0, locals := 51 }) s m ([.ref m0, .int (nI x), .int (nI y)] : List Value).toArray below meth c H locs 0 0 (ZI D (TY cB cI cJ cO) (fun r ws' => ∃ sta2 : Nat, ∃ gl2 : Nat → Nat, r = optI (bdM ta tb E docs rr bb x y) ∧ (sta2 ≤ 1) ∧ (sta2 = 0 → LeastOK gl2 ta tb E docs) ∧ Sm (fun k => k = 33 ∨ k = 48) ws ws' ∧ ws'[33]? = some (m0, .inr (10, [.int (nI th), .ref b1, .ref b2, .int (nI len), .int (nI ps), .ref b5, .ref b6, .ref b7, .int (nI nm), .int (nI bt_), .int (nI so), .int (nI wi), .ref b12, .int (nI fm), .ref b14, .ref b15, .ref b16, .int (nI dn), .int (nI ca), .int (nI sta2), .ref b20, .ref b21, .ref b22, .ref b23, .ref b24, .int (nI xn), .ref b26, .int (nI bb), .int (nI rr), .int (nI pp), .int (nI qq), .ref b31])) ∧ ws'[48]? = some (b26, .inl (cI, 3072, .inl (fun jj => nI (gl2 jj))))) below [.ref m0, .int (nI x), .int (nI y)] s 0 0 A) (F0 m 26 ls []) := by
        intro fuel
        induction fuel with
        | zero => intro u hfu; exact absurd hfu (Nat.not_lt_zero _)
        | succ fuel ih_26 =>
          intro u hfu_26 hu hno ws1 H locs ls sm g33 g41 g42 g43 g44 g45 g46 g47 g48 hP hD hS hl
          refine lv_iload_n hx hb dX9_band_26 rfl (lv_at hl 3 rfl) ?_
          refine lv_aload_n hx hb dX9_band_27 rfl (lv_at hl 0 rfl) ?_
          refine va_get (D := D) (ci := 10) (v := .int (nI bb)) (C := RX9) (T := TX9) (N := 32) hx hb hts hin_X9 hown hK hP 33 g33 rfl 27 (by decide) fl_121 (fun _ h9 => h9) rfl dX9_band_28 ?_
          refine nx_icmp_ge (tgt := 119) hx hb (by omega) (by omega) dX9_band_31 (by decide) (fun c_31 => ?_) (fun c_31 => ?_)
          · refine lv_iconst (v := -1) hx hb dX9_band_119 (by decide) ?_
            exact CI.ret (v := (-1)) C hK hP hD hS rfl (⟨0, gl2, (by rw [bdM, gD_at hxd, gD_at hyd, bandF, if_neg (by omega), fstB_none (fun j hj => hno j (by omega))]; rfl), (Nat.zero_le _), (fun _ => hlo2), sm, g33, g48⟩) hc0 hs0 dX9_band_120
          · have hub := fb_m hbr c_31
            refine lv_iconst (v := nI 1) hx hb dX9_band_34 (by decide) ?_
            refine lv_istore (lv' := [(4, .int (nI 1)), (0, .ref m0), (1, .int (nI x)), (2, .int (nI y)), (3, .int (nI u))]) hx hb dX9_band_35 hl (by decide) rfl (fun ls hl => ?_)
            refine lv_iload_n hx hb dX9_band_37 rfl (lv_at hl 4 rfl) ?_
            refine lv_aload_n hx hb dX9_band_38 rfl (lv_at hl 1 rfl) ?_
            refine va_get (D := D) (ci := 10) (v := .int (nI rr)) (C := RX9) (T := TX9) (N := 32) hx hb hts hin_X9 hown hK hP 33 g33 rfl 28 (by decide) fl_124 (fun _ h9 => h9) rfl dX9_band_39 ?_
            refine nx_imul hx hb dX9_band_42 ?_
            refine lv_istore (lv' := [(5, .int (nI (u * rr))), (4, .int (nI 1)), (0, .ref m0), (1, .int (nI x)), (2, .int (nI y)), (3, .int (nI u))]) hx hb dX9_band_43 hl (by decide) rfl (fun ls hl => ?_)
            have lp_45 : ∀ (fuel : Nat) (j : Nat) (b : Bool), rr - j < fuel → (j ≤ rr) → (b = true → ∀ k, k < j → sgOf ta tb E docs[x].2 (u * rr + k) = sgOf ta tb E docs[y].2 (u * rr + k)) → (b = false → agr (sgOf ta tb E docs[x].2) (sgOf ta tb E docs[y].2) (u * rr) rr = false) → ∀ (ws1 : va_W) (H : Heap) (locs : List Loc) (ls : Array Slot), Sm (fun k => k = 33 ∨ k = 48) ws ws1 → ws1[33]? = some (m0, .inr (10, [.int (nI th), .ref b1, .ref b2, .int (nI len), .int (nI ps), .ref b5, .ref b6, .ref b7, .int (nI nm), .int (nI bt_), .int (nI so), .int (nI wi), .ref b12, .int (nI fm), .ref b14, .ref b15, .ref b16, .int (nI dn), .int (nI ca), .int (nI 0), .ref b20, .ref b21, .ref b22, .ref b23, .ref b24, .int (nI xn), .ref b26, .int (nI bb), .int (nI rr), .int (nI pp), .int (nI qq), .ref b31])) → ws1[41]? = some (b15, .inl (cI, 48, .inl (fun jj => nI (gm jj)))) → ws1[42]? = some (b16, .inl (cI, 38400, .inl (fun jj => nI (gs jj)))) → ws1[43]? = some (b20, .inl (cI, 64, .inl (fun jj => nI (ta jj)))) → ws1[44]? = some (b21, .inl (cI, 64, .inl (fun jj => nI (tb jj)))) → ws1[45]? = some (b22, .inl (cI, 300, .inl (fun jj => nI (gw jj)))) → ws1[46]? = some (b23, .inl (cI, 300, .inl (fun jj => nI (go jj)))) → ws1[47]? = some (b24, .inl (cI, 300, .inl (fun jj => nI (gt jj)))) → ws1[48]? = some (b26, .inl (cI, 3072, .inl (fun jj => nI (gl2 jj)))) → va_P D vwCl ws1 H → va_D A ws1 → va_S A s.heap H locs → lv_has ls 6 [(0, .ref m0), (1, .int (nI x)), (2, .int (nI y)), (3, .int (nI u)), (4, .int (nI (b.toNat))), (5, .int (nI (u * rr + j)))] → W p l e ({ frames := 2, cells := 0, slots := 0, locals := 51 }) s m ([.ref m0, .int (nI x), .int (nI y)] : List Value).toArray below meth c H locs 0 0 (ZI D (TY cB cI cJ cO) (fun r ws' => ∃ sta2 : Nat, ∃ gl2 : Nat → Nat, r = optI (bdM ta tb E docs rr bb x y) ∧ (sta2 ≤ 1) ∧ (sta2 = 0 → LeastOK gl2 ta tb E docs) ∧ Sm (fun k => k = 33 ∨ k = 48) ws ws' ∧ ws'[33]? = some (m0, .inr (10, [.int (nI th), .ref b1, .ref b2, .int (nI len), .int (nI ps), .ref b5, .ref b6, .ref b7, .int (nI nm), .int (nI bt_), .int (nI so), .int (nI wi), .ref b12, .int (nI fm), .ref b14, .ref b15, .ref b16, .int (nI dn), .int (nI ca), .int (nI sta2), .ref b20, .ref b21, .ref b22, .ref b23, .ref b24, .int (nI xn), .ref b26, .int (nI bb), .int (nI rr), .int (nI pp), .int (nI qq), .ref b31])) ∧ ws'[48]? = some (b26, .inl (cI, 3072, .inl (fun jj => nI (gl2 jj))))) below [.ref m0, .int (nI x), .int (nI y)] s 0 0 A) (F0 m 45 ls []) := by
              intro fuel
              induction fuel with
              | zero => intro j b hfu; exact absurd hfu (Nat.not_lt_zero _)
              | succ fuel ih_45 =>
                intro j b hfu_45 hj hbt hbf ws1 H locs ls sm g33 g41 g42 g43 g44 g45 g46 g47 g48 hP hD hS hl
                refine lv_iload hx hb dX9_band_45 (lv_at hl 5 rfl) ?_
                refine lv_iload_n hx hb dX9_band_47 rfl (lv_at hl 3 rfl) ?_
                refine lv_aload_n hx hb dX9_band_48 rfl (lv_at hl 0 rfl) ?_
                refine va_get (D := D) (ci := 10) (v := .int (nI rr)) (C := RX9) (T := TX9) (N := 32) hx hb hts hin_X9 hown hK hP 33 g33 rfl 28 (by decide) fl_124 (fun _ h9 => h9) rfl dX9_band_49 ?_
                refine nx_imul hx hb dX9_band_52 ?_
                refine lv_aload_n hx hb dX9_band_53 rfl (lv_at hl 0 rfl) ?_
                refine va_get (D := D) (ci := 10) (v := .int (nI rr)) (C := RX9) (T := TX9) (N := 32) hx hb hts hin_X9 hown hK hP 33 g33 rfl 28 (by decide) fl_124 (fun _ h9 => h9) rfl dX9_band_54 ?_
                refine nx_iadd hx hb dX9_band_57 ?_
                refine nx_icmp_ge (tgt := 106) hx hb (by have := fb_m hbr c_31; omega) (by have := fb_m hbr c_31; omega) dX9_band_58 (by decide) (fun c_58 => ?_) (fun c_58 => ?_)
                · refine lv_iload hx hb dX9_band_106 (lv_at hl 4 rfl) ?_
                  refine nx_if_eq (tgt := 113) hx hb (by cases b <;> decide) dX9_band_108 (by decide) (fun c_108 => ?_) (fun c_108 => ?_)
                  · refine lv_iinc (v := (nI (u + 1))) (lv' := [(3, .int (nI (u + 1))), (0, .ref m0), (1, .int (nI x)), (2, .int (nI y)), (4, .int (nI (b.toNat))), (5, .int (nI (u * rr + j)))]) hx hb dX9_band_113 hl (k := 3) rfl (nx_inc _ 1) (by decide) rfl (fun ls hl => ?_)
                    refine lv_goto (tgt := 26) hx hb dX9_band_116 (by decide) ?_
                    exact ih_26 (u + 1) (by omega) (by omega) (lt_s hno (hbf (bool0 c_108))) _ _ _ _ sm g33 g41 g42 g43 g44 g45 g46 g47 g48 hP hD hS (lv_sub hl [1, 2, 3, 0] rfl)
                  · refine lv_iload_n hx hb dX9_band_111 rfl (lv_at hl 3 rfl) ?_
                    exact CI.ret (v := (nI u)) C hK hP hD hS rfl (⟨0, gl2, (by rw [bdM, gD_at hxd, gD_at hyd, bandF, if_neg (by omega), fstB_some (by omega) (agr_t (fun k hk => hbt (bool1 c_108) k (by first | omega | exact absurd (bool1 c_108) (by rw [bool0 c_63]; decide)))) hno]; rfl), (Nat.zero_le _), (fun _ => hlo2), sm, g33, g48⟩) hc0 hs0 dX9_band_112
                · refine lv_iload hx hb dX9_band_61 (lv_at hl 4 rfl) ?_
                  refine nx_if_eq (tgt := 106) hx hb (by cases b <;> decide) dX9_band_63 (by decide) (fun c_63 => ?_) (fun c_63 => ?_)
                  · refine lv_iload hx hb dX9_band_106 (lv_at hl 4 rfl) ?_
                    refine nx_if_eq (tgt := 113) hx hb (by cases b <;> decide) dX9_band_108 (by decide) (fun c_108 => ?_) (fun c_108 => ?_)
                    · refine lv_iinc (v := (nI (u + 1))) (lv' := [(3, .int (nI (u + 1))), (0, .ref m0), (1, .int (nI x)), (2, .int (nI y)), (4, .int (nI (b.toNat))), (5, .int (nI (u * rr + j)))]) hx hb dX9_band_113 hl (k := 3) rfl (nx_inc _ 1) (by decide) rfl (fun ls hl => ?_)
                      refine lv_goto (tgt := 26) hx hb dX9_band_116 (by decide) ?_
                      exact ih_26 (u + 1) (by omega) (by omega) (lt_s hno (hbf (bool0 c_108))) _ _ _ _ sm g33 g41 g42 g43 g44 g45 g46 g47 g48 hP hD hS (lv_sub hl [1, 2, 3, 0] rfl)
                    · refine lv_iload_n hx hb dX9_band_111 rfl (lv_at hl 3 rfl) ?_
                      exact CI.ret (v := (nI u)) C hK hP hD hS rfl (⟨0, gl2, (by rw [bdM, gD_at hxd, gD_at hyd, bandF, if_neg (by omega), fstB_some (by omega) (agr_t (fun k hk => hbt (bool1 c_108) k (by first | omega | exact absurd (bool1 c_108) (by rw [bool0 c_63]; decide)))) hno]; rfl), (Nat.zero_le _), (fun _ => hlo2), sm, g33, g48⟩) hc0 hs0 dX9_band_112
                  · refine lv_aload_n hx hb dX9_band_66 rfl (lv_at hl 0 rfl) ?_
                    refine va_get (D := D) (ci := 10) (v := .ref b26) (C := RX9) (T := TX9) (N := 32) hx hb hts hin_X9 hown hK hP 33 g33 rfl 26 (by decide) fl_118 (fun _ h9 => h9) rfl dX9_band_67 ?_
                    refine lv_bipush (v := nI 64) hx hb dX9_band_70 (by decide) ?_
                    refine lv_iload_n hx hb dX9_band_72 rfl (lv_at hl 1 rfl) ?_
                    refine nx_imul hx hb dX9_band_73 ?_
                    refine lv_iload hx hb dX9_band_74 (lv_at hl 5 rfl) ?_
                    refine nx_iadd hx hb dX9_band_76 ?_
                    refine nx_iald hx hb hK hP 48 1 g48 rfl (k := ((64 * x) + (u * rr + j))) (by have := fb_m hbr c_31; omega) (by decide) dX9_band_77 ?_
                    refine lv_aload_n hx hb dX9_band_78 rfl (lv_at hl 0 rfl) ?_
                    refine va_get (D := D) (ci := 10) (v := .ref b26) (C := RX9) (T := TX9) (N := 32) hx hb hts hin_X9 hown hK hP 33 g33 rfl 26 (by decide) fl_118 (fun _ h9 => h9) rfl dX9_band_79 ?_
                    refine lv_bipush (v := nI 64) hx hb dX9_band_82 (by decide) ?_
                    refine lv_iload_n hx hb dX9_band_84 rfl (lv_at hl 2 rfl) ?_
                    refine nx_imul hx hb dX9_band_85 ?_
                    refine lv_iload hx hb dX9_band_86 (lv_at hl 5 rfl) ?_
                    refine nx_iadd hx hb dX9_band_88 ?_
                    refine nx_iald hx hb hK hP 48 1 g48 rfl (k := ((64 * y) + (u * rr + j))) (by have := fb_m hbr c_31; omega) (by decide) dX9_band_89 ?_
                    refine nx_icmp_ne (tgt := 97) hx hb (by have := hlx (u * rr + j) (by have := fb_m hbr c_31; omega); omega) (by have := hly (u * rr + j) (by have := fb_m hbr c_31; omega); omega) dX9_band_90 (by decide) (fun c_90 => ?_) (fun c_90 => ?_)
                    · refine lv_iconst (v := nI 0) hx hb dX9_band_97 (by decide) ?_
                      refine lv_istore (lv' := [(4, .int (nI 0)), (0, .ref m0), (1, .int (nI x)), (2, .int (nI y)), (3, .int (nI u)), (5, .int (nI (u * rr + j)))]) hx hb dX9_band_98 hl (by decide) rfl (fun ls hl => ?_)
                      refine lv_iinc (v := (nI ((u * rr + j) + 1))) (lv' := [(5, .int (nI ((u * rr + j) + 1))), (4, .int (nI 0)), (0, .ref m0), (1, .int (nI x)), (2, .int (nI y)), (3, .int (nI u))]) hx hb dX9_band_100 hl (k := 5) rfl (nx_inc _ 1) (by decide) rfl (fun ls hl => ?_)
                      refine lv_goto (tgt := 45) hx hb dX9_band_103 (by decide) ?_
                      exact ih_45 (j + 1) false (by omega) (by omega) (fun h => absurd h (by decide)) (fun _ => agr_f (k := j) (by omega) (fun h => c_90 (by rw [(hlx _ (by omega)).1, (hly _ (by omega)).1]; exact h))) _ _ _ _ sm g33 g41 g42 g43 g44 g45 g46 g47 g48 hP hD hS (lv_sub hl [2, 3, 4, 5, 1, 0] rfl)
                    · refine lv_iconst (v := nI 1) hx hb dX9_band_93 (by decide) ?_
                      refine lv_goto (tgt := 98) hx hb dX9_band_94 (by decide) ?_
                      refine lv_istore (lv' := [(4, .int (nI 1)), (0, .ref m0), (1, .int (nI x)), (2, .int (nI y)), (3, .int (nI u)), (5, .int (nI (u * rr + j)))]) hx hb dX9_band_98 hl (by decide) rfl (fun ls hl => ?_)
                      refine lv_iinc (v := (nI ((u * rr + j) + 1))) (lv' := [(5, .int (nI ((u * rr + j) + 1))), (4, .int (nI 1)), (0, .ref m0), (1, .int (nI x)), (2, .int (nI y)), (3, .int (nI u))]) hx hb dX9_band_100 hl (k := 5) rfl (nx_inc _ 1) (by decide) rfl (fun ls hl => ?_)
                      refine lv_goto (tgt := 45) hx hb dX9_band_103 (by decide) ?_
                      exact ih_45 (j + 1) true (by omega) (by omega) (fun _ => lt_s (hbt (bool1 c_63)) (by rw [← (hlx _ (by omega)).1, ← (hly _ (by omega)).1]; exact c_90)) (fun h => absurd h (by decide)) _ _ _ _ sm g33 g41 g42 g43 g44 g45 g46 g47 g48 hP hD hS (lv_sub hl [2, 3, 4, 5, 1, 0] rfl)
            exact lp_45 _ 0 true (Nat.lt_succ_self _) (Nat.zero_le _) (fun _ k hk => absurd hk (Nat.not_lt_zero k)) (fun h => absurd h (by decide)) _ _ _ _ sm g33 g41 g42 g43 g44 g45 g46 g47 g48 hP hD hS (lv_sub hl [2, 3, 4, 5, 1, 0] rfl)
      exact lp_26 _ 0 (Nat.lt_succ_self _) (Nat.zero_le _) (fun k hk => absurd hk (Nat.not_lt_zero k)) _ _ _ _ sm g33 g41 g42 g43 g44 g45 g46 g47 g48 hP hD hS (lv_sub hl [1, 2, 3, 0] rfl)
    · refine lv_iconst (v := -1) hx hb dX9_band_18 (by decide) ?_
      exact CI.ret (v := (-1)) C hK hP hD hS rfl (⟨sta, gl, (by rw [bdM, gD_at hxd, gD_at hyd, bandF, if_pos (by omega)]; rfl), hsta, hlo, sm, g33, g48⟩) hc0 hs0 dX9_band_19
set_option maxHeartbeats 4000000 in
set_option maxRecDepth 100000 in
theorem c_X9_areTwins {D : va_G} {cB cI cJ cO : ClassId} {l : Launch} {m0 b1 b2 b5 b6 b7 b12 b14 b15 b16 b20 b21 b22 b23 b24 b26 b31 th len ps nm bt_ so wi fm dn ca sta xn bb rr pp qq : Nat} {ta tb gw go gt gn gm gs gl : Nat → Nat} {E : List (Nat × Nat × Nat)} {docs : List (Nat × List Nat)} {x y : Nat} {ws : va_W} (g33 : ws[33]? = some (m0, .inr (10, [.int (nI th), .ref b1, .ref b2, .int (nI len), .int (nI ps), .ref b5, .ref b6, .ref b7, .int (nI nm), .int (nI bt_), .int (nI so), .int (nI wi), .ref b12, .int (nI fm), .ref b14, .ref b15, .ref b16, .int (nI dn), .int (nI ca), .int (nI sta), .ref b20, .ref b21, .ref b22, .ref b23, .ref b24, .int (nI xn), .ref b26, .int (nI bb), .int (nI rr), .int (nI pp), .int (nI qq), .ref b31]))) (g41 : ws[41]? = some (b15, .inl (cI, 48, .inl (fun jj => nI (gm jj))))) (g42 : ws[42]? = some (b16, .inl (cI, 38400, .inl (fun jj => nI (gs jj))))) (g43 : ws[43]? = some (b20, .inl (cI, 64, .inl (fun jj => nI (ta jj))))) (g44 : ws[44]? = some (b21, .inl (cI, 64, .inl (fun jj => nI (tb jj))))) (g45 : ws[45]? = some (b22, .inl (cI, 300, .inl (fun jj => nI (gw jj))))) (g46 : ws[46]? = some (b23, .inl (cI, 300, .inl (fun jj => nI (go jj))))) (g47 : ws[47]? = some (b24, .inl (cI, 300, .inl (fun jj => nI (gt jj))))) (g48 : ws[48]? = some (b26, .inl (cI, 3072, .inl (fun jj => nI (gl jj))))) (hE : HdE gw go gt E) (hx9 : E.length = xn) (h300 : xn ≤ 300) (hsm : Esm E) (hta : Tab ta tb) (hdd : HdD gn gm gs docs) (hdn : docs.length = dn) (h48 : dn ≤ 48) (hds : Dsm docs) (hsta : sta ≤ 1) (hlo : sta = 0 → LeastOK gl ta tb E docs) (hbr : bb * rr ≤ 64) (hb64 : bb ≤ 64) (hr64 : rr ≤ 64) (hp4 : pp ≤ 10000) (hq4 : qq ≤ 10000) (hxd : x < docs.length) (hyd : y < docs.length) : CI D (TY cB cI cJ cO) l yX9_areTwins wsX9_areTwins ({ frames := 3, cells := 0, slots := 0, locals := 76 }) [.ref m0, .int (nI x), .int (nI y)] ws (fun r ws' => ∃ sta2 : Nat, ∃ gl2 : Nat → Nat, r = nI ((twM ta tb E docs rr bb pp qq x y).toNat) ∧ (sta2 ≤ 1) ∧ (sta2 = 0 → LeastOK gl2 ta tb E docs) ∧ Sm (fun k => k = 33 ∨ k = 48) ws ws' ∧ ws'[33]? = some (m0, .inr (10, [.int (nI th), .ref b1, .ref b2, .int (nI len), .int (nI ps), .ref b5, .ref b6, .ref b7, .int (nI nm), .int (nI bt_), .int (nI so), .int (nI wi), .ref b12, .int (nI fm), .ref b14, .ref b15, .ref b16, .int (nI dn), .int (nI ca), .int (nI sta2), .ref b20, .ref b21, .ref b22, .ref b23, .ref b24, .int (nI xn), .ref b26, .int (nI bb), .int (nI rr), .int (nI pp), .int (nI qq), .ref b31])) ∧ ws'[48]? = some (b26, .inl (cI, 3072, .inl (fun jj => nI (gl2 jj))))) := by
  refine CI.of (cc := cX9_areTwins) (maxL := 5) (ret := (some .boolean)) (by decide) rfl (Nat.le_of_ble_eq_true rfl) ?_
  intro p e s m below meth c A C hK hP hD hA hS ls hl
  obtain ⟨hx, hb, hr, hml, hts, hown, hlocks, hnm⟩ := id C
  have fl_78 := hts (.fieldLink RX9 78 "TwinFinderModel" "many" "[I") (by decide +kernel)
  have fl_127 := hts (.fieldLink RX9 127 "TwinFinderModel" "p" "I") (by decide +kernel)
  have fl_130 := hts (.fieldLink RX9 130 "TwinFinderModel" "q" "I") (by decide +kernel)
  have hin_X9 : ∀ w ∈ u_ws RX9 TX9 32, w ∈ wsX9_areTwins := by decide +kernel
  have hl : lv_has ls 5 [(0, .ref m0), (1, .int (nI x)), (2, .int (nI y))] := hl
  have sm : Sm (fun k => k = 33 ∨ k = 48) ws ws := Sm.rf
  have hc0 : (0 : Nat) ≤ 0 := by decide
  have hs0 : (0 : Nat) ≤ 0 := by decide
  have hxm : gm x = docs[x].2.length := (hdd x hxd).2.1
  have hym : gm y = docs[y].2.length := (hdd y hyd).2.1
  have hxs := (hds docs[x] (List.getElem_mem _)).2.1
  have hys := (hds docs[y] (List.getElem_mem _)).2.1
  have hcl := comm_le' docs[x].2 docs[y].2
  have hcm : cmM docs x y = comm docs[x].2 docs[y].2 := by rw [cmM, gD_at hxd, gD_at hyd]
  have hal : alM docs x y = gm x + gm y - comm docs[x].2 docs[y].2 := by rw [alM, hcm, gD_at hxd, gD_at hyd, hxm, hym]
  have hm1 : comm docs[x].2 docs[y].2 * qq ≤ 800 * 10000 := Nat.mul_le_mul (by omega) hq4
  have hm2 : (gm x + gm y - comm docs[x].2 docs[y].2) * pp ≤ 1600 * 10000 := Nat.mul_le_mul (by omega) hp4
  refine lv_aload_n hx hb dX9_areTwins_0 rfl (lv_at hl 0 rfl) ?_
  refine lv_iload_n hx hb dX9_areTwins_1 rfl (lv_at hl 1 rfl) ?_
  refine lv_iload_n hx hb dX9_areTwins_2 rfl (lv_at hl 2 rfl) ?_
  refine CI.go (va_runV (As := [.int (nI x), .int (nI y)]) (rest := []) ⟨hx, hb, hml, hown, hts⟩ (c_X9_band  g33 g41 g42 g43 g44 g45 g46 g47 g48 hE hx9 h300 hsm hta hdd hdn h48 hds hsta hlo hbr hb64 hr64 hxd hyd _) (cwV 2 hts gX9_areTwins_X9_band rfl rfl rfl (by decide +kernel) ⟨Nat.le_of_ble_eq_true rfl, Nat.le_of_ble_eq_true rfl⟩) ⟨pw_blind, va_recv hK hP (ci := 10) (q0 := 33) rfl g33, fun U hU hW => pw_pre hK hP hD hU hW⟩ rfl rfl hl.1 rfl (lv_room (Nat.le_of_ble_eq_true rfl)) dX9_areTwins_3 ⟨by decide, by decide⟩) hD hS hA (fun r_1 ws_2 H locs hp hP hD hS => ?_)
  obtain ⟨st1, gl1_, rfl, hsta_gl1_, hlo_gl1_, sm_3, g33, g48⟩ := hp
  have g41 := sm_3.get g41 (by simp)
  have g42 := sm_3.get g42 (by simp)
  have g43 := sm_3.get g43 (by simp)
  have g44 := sm_3.get g44 (by simp)
  have g45 := sm_3.get g45 (by simp)
  have g46 := sm_3.get g46 (by simp)
  have g47 := sm_3.get g47 (by simp)
  have sm := sm.call sm_3 (by intro k hk; (try simp only at hk ⊢); omega)
  have g33 : ws_2[33]? = some (m0, .inr (10, [.int (nI th), .ref b1, .ref b2, .int (nI len), .int (nI ps), .ref b5, .ref b6, .ref b7, .int (nI nm), .int (nI bt_), .int (nI so), .int (nI wi), .ref b12, .int (nI fm), .ref b14, .ref b15, .ref b16, .int (nI dn), .int (nI ca), .int (nI st1), .ref b20, .ref b21, .ref b22, .ref b23, .ref b24, .int (nI xn), .ref b26, .int (nI bb), .int (nI rr), .int (nI pp), .int (nI qq), .ref b31])) := g33
  have g48 : ws_2[48]? = some (b26, .inl (cI, 3072, .inl (fun jj => nI (gl1_ jj)))) := g48
  rcases hbd : bdM ta tb E docs rr bb x y with _ | q
  · try simp only [optI]
    refine lv_if_ge (tgt := 11) hx hb dX9_areTwins_6 (by decide) (fun c_6 => absurd c_6 (by decide)) (fun c_6 => ?_)
    refine lv_iconst (v := nI 0) hx hb dX9_areTwins_9 (by decide) ?_
    exact CI.ret (v := (nI 0)) C hK hP hD hS (by decide) (⟨_, _, (by rw [twM, hbd]; rfl), hsta_gl1_, hlo_gl1_, sm, g33, g48⟩) hc0 hs0 dX9_areTwins_10
  · try simp only [optI]
    have hq64 := bandF_lt hbd
    refine nx_if_ge (tgt := 11) hx hb (by omega) dX9_areTwins_6 (by decide) ?_
    refine lv_aload_n hx hb dX9_areTwins_11 rfl (lv_at hl 0 rfl) ?_
    refine lv_iload_n hx hb dX9_areTwins_12 rfl (lv_at hl 1 rfl) ?_
    refine lv_iload_n hx hb dX9_areTwins_13 rfl (lv_at hl 2 rfl) ?_
    refine CI.go (va_runV (As := [.int (nI x), .int (nI y)]) (rest := []) ⟨hx, hb, hml, hown, hts⟩ (c_X9_common  g33 g41 g42 hdd (by omega) hds hxd hyd _) (cwV 2 hts gX9_areTwins_X9_common rfl rfl rfl (by decide +kernel) ⟨Nat.le_of_ble_eq_true rfl, Nat.le_of_ble_eq_true rfl⟩) ⟨pw_blind, va_recv hK hP (ci := 10) (q0 := 33) rfl g33, fun U hU hW => pw_pre hK hP hD hU hW⟩ rfl rfl hl.1 rfl (lv_room (Nat.le_of_ble_eq_true rfl)) dX9_areTwins_14 ⟨by decide, by decide⟩) hD hS hA (fun r_4 ws_5 H locs hp hP hD hS => ?_)
    obtain ⟨rfl, rfl⟩ := hp
    refine lv_i2l (v := lN (comm docs[x].2 docs[y].2)) hx hb dX9_areTwins_17 (nI_l (by omega)) ?_
    refine lv_lstore_n (lv' := [(3, .long (lN (comm docs[x].2 docs[y].2))), (0, .ref m0), (1, .int (nI x)), (2, .int (nI y))]) hx hb dX9_areTwins_18 rfl hl (by decide) rfl (fun ls hl => ?_)
    refine lv_lload_n hx hb dX9_areTwins_19 rfl (lv_at hl 0 rfl) ?_
    refine lv_aload_n hx hb dX9_areTwins_20 rfl (lv_at hl 1 rfl) ?_
    refine va_get (D := D) (ci := 10) (v := .int (nI qq)) (C := RX9) (T := TX9) (N := 32) hx hb hts hin_X9 hown hK hP 33 g33 rfl 30 (by decide) fl_130 (fun _ h9 => h9) rfl dX9_areTwins_21 ?_
    refine lv_i2l (v := lN (qq)) hx hb dX9_areTwins_24 (nI_l (by omega)) ?_
    refine nx_lmul hx hb dX9_areTwins_25 ?_
    refine lv_aload_n hx hb dX9_areTwins_26 rfl (lv_at hl 1 rfl) ?_
    refine va_get (D := D) (ci := 10) (v := .ref b15) (C := RX9) (T := TX9) (N := 32) hx hb hts hin_X9 hown hK hP 33 g33 rfl 15 (by decide) fl_78 (fun _ h9 => h9) rfl dX9_areTwins_27 ?_
    refine lv_iload_n hx hb dX9_areTwins_30 rfl (lv_at hl 2 rfl) ?_
    refine nx_iald hx hb hK hP 41 1 g41 rfl (k := x) (by omega) (by decide) dX9_areTwins_31 ?_
    refine lv_aload_n hx hb dX9_areTwins_32 rfl (lv_at hl 1 rfl) ?_
    refine va_get (D := D) (ci := 10) (v := .ref b15) (C := RX9) (T := TX9) (N := 32) hx hb hts hin_X9 hown hK hP 33 g33 rfl 15 (by decide) fl_78 (fun _ h9 => h9) rfl dX9_areTwins_33 ?_
    refine lv_iload_n hx hb dX9_areTwins_36 rfl (lv_at hl 3 rfl) ?_
    refine nx_iald hx hb hK hP 41 1 g41 rfl (k := y) (by omega) (by decide) dX9_areTwins_37 ?_
    refine nx_iadd hx hb dX9_areTwins_38 ?_
    refine lv_i2l (v := lN ((gm x) + (gm y))) hx hb dX9_areTwins_39 (nI_l (by omega)) ?_
    refine lv_lload_n hx hb dX9_areTwins_40 rfl (lv_at hl 0 rfl) ?_
    refine nx_lsub hx hb (by omega) dX9_areTwins_41 ?_
    refine lv_aload_n hx hb dX9_areTwins_42 rfl (lv_at hl 1 rfl) ?_
    refine va_get (D := D) (ci := 10) (v := .int (nI pp)) (C := RX9) (T := TX9) (N := 32) hx hb hts hin_X9 hown hK hP 33 g33 rfl 29 (by decide) fl_127 (fun _ h9 => h9) rfl dX9_areTwins_43 ?_
    refine lv_i2l (v := lN (pp)) hx hb dX9_areTwins_46 (nI_l (by omega)) ?_
    refine nx_lmul hx hb dX9_areTwins_47 ?_
    refine W.lcmp hx hb dX9_areTwins_48 ?_
    refine lv_if_lt (tgt := 56) hx hb dX9_areTwins_49 (by decide) (fun c_49 => ?_) (fun c_49 => ?_)
    · have c_49 := lgc_lt_t (by omega) (by omega) c_49
      refine lv_iconst (v := nI 0) hx hb dX9_areTwins_56 (by decide) ?_
      exact CI.ret (v := (nI 0)) C hK hP hD hS (by decide) (⟨_, _, (by rw [twM, hbd, hcm, hal, twinB, nearB, decide_eq_false (Nat.not_le.mpr c_49)]; rfl), hsta_gl1_, hlo_gl1_, sm, g33, g48⟩) hc0 hs0 dX9_areTwins_57
    · have c_49 := lgc_lt_f (by omega) (by omega) c_49
      refine lv_iconst (v := nI 1) hx hb dX9_areTwins_52 (by decide) ?_
      refine lv_goto (tgt := 57) hx hb dX9_areTwins_53 (by decide) ?_
      exact CI.ret (v := (nI 1)) C hK hP hD hS (by decide) (⟨_, _, (by rw [twM, hbd, hcm, hal, twinB, nearB, decide_eq_true c_49]; rfl), hsta_gl1_, hlo_gl1_, sm, g33, g48⟩) hc0 hs0 dX9_areTwins_57
