theorem mul_big {a b : Nat} (h1 : a ≤ 1600) (h2 : b ≤ 1600) : a * b < 2 ^ 63 := by
  have := Nat.mul_le_mul h1 h2
  omega

set_option maxHeartbeats 4000000 in
set_option maxRecDepth 100000 in
theorem c_X9_isNearer {D : va_G} {cB cI cJ cO : ClassId} {l : Launch} {m0 b1 b2 b5 b6 b7 b12 b14 b15 b16 b20 b21 b22 b23 b24 b26 b31 th len ps nm bt_ so wi fm dn ca sta xn bb rr pp qq : Nat} {gn gm gs : Nat → Nat} {docs : List (Nat × List Nat)} {x y u : Nat} {ws : va_W} (g33 : ws[33]? = some (m0, .inr (10, [.int (nI th), .ref b1, .ref b2, .int (nI len), .int (nI ps), .ref b5, .ref b6, .ref b7, .int (nI nm), .int (nI bt_), .int (nI so), .int (nI wi), .ref b12, .int (nI fm), .ref b14, .ref b15, .ref b16, .int (nI dn), .int (nI ca), .int (nI sta), .ref b20, .ref b21, .ref b22, .ref b23, .ref b24, .int (nI xn), .ref b26, .int (nI bb), .int (nI rr), .int (nI pp), .int (nI qq), .ref b31]))) (g41 : ws[41]? = some (b15, .inl (cI, 48, .inl (fun jj => nI (gm jj))))) (g42 : ws[42]? = some (b16, .inl (cI, 38400, .inl (fun jj => nI (gs jj))))) (hdd : HdD gn gm gs docs) (h48 : docs.length ≤ 48) (hds : Dsm docs) (hxd : x < docs.length) (hyd : y < docs.length) (hud : u < docs.length) : CI D (TY cB cI cJ cO) l yX9_isNearer wsX9_isNearer ({ frames := 1, cells := 0, slots := 0, locals := 25 }) [.ref m0, .int (nI x), .int (nI y), .int (nI u)] ws (fun r ws' => r = nI ((nrB (cmM docs x y) (alM docs x y) (cmM docs x u) (alM docs x u) || (decide (cmM docs x y * max 1 (alM docs x u) = cmM docs x u * max 1 (alM docs x y)) && decide (y < u))).toNat) ∧ ws = ws') := by
  refine CI.of (cc := cX9_isNearer) (maxL := 12) (ret := (some .boolean)) (by decide) rfl (Nat.le_of_ble_eq_true rfl) ?_
  intro p e s m below meth c A C hK hP hD hA hS ls hl
  obtain ⟨hx, hb, hr, hml, hts, hown, hlocks, hnm⟩ := id C
  have fl_78 := hts (.fieldLink RX9 78 "TwinFinderModel" "many" "[I") (by decide +kernel)
  have hin_X9 : ∀ w ∈ u_ws RX9 TX9 32, w ∈ wsX9_isNearer := by decide +kernel
  have hl : lv_has ls 12 [(0, .ref m0), (1, .int (nI x)), (2, .int (nI y)), (3, .int (nI u))] := hl
  have sm : Sm (fun _ => False) ws ws := Sm.rf
  have hc0 : (0 : Nat) ≤ 0 := by decide
  have hs0 : (0 : Nat) ≤ 0 := by decide
  have hxm : gm x = docs[x].2.length := (hdd x hxd).2.1
  have hym : gm y = docs[y].2.length := (hdd y hyd).2.1
  have hum : gm u = docs[u].2.length := (hdd u hud).2.1
  have hxs := (hds docs[x] (List.getElem_mem _)).2.1
  have hys := (hds docs[y] (List.getElem_mem _)).2.1
  have hus := (hds docs[u] (List.getElem_mem _)).2.1
  obtain ⟨c1, hc1⟩ : ∃ q, q = comm docs[x].2 docs[y].2 := ⟨_, rfl⟩
  obtain ⟨c2, hc2⟩ : ∃ q, q = comm docs[x].2 docs[u].2 := ⟨_, rfl⟩
  have hcl1 : c1 ≤ docs[x].2.length := by rw [hc1]; exact comm_le' _ _
  have hcl2 : c2 ≤ docs[x].2.length := by rw [hc2]; exact comm_le' _ _
  have hcm1 : cmM docs x y = c1 := by rw [cmM, gD_at hxd, gD_at hyd, hc1]
  have hcm2 : cmM docs x u = c2 := by rw [cmM, gD_at hxd, gD_at hud, hc2]
  have hal1 : alM docs x y = gm x + gm y - c1 := by rw [alM, hcm1, gD_at hxd, gD_at hyd, hxm, hym]
  have hal2 : alM docs x u = gm x + gm u - c2 := by rw [alM, hcm2, gD_at hxd, gD_at hud, hxm, hum]
  rw [hcm1, hcm2, hal1, hal2]
  refine lv_aload_n hx hb dX9_isNearer_0 rfl (lv_at hl 0 rfl) ?_
  refine lv_iload_n hx hb dX9_isNearer_1 rfl (lv_at hl 1 rfl) ?_
  refine lv_iload_n hx hb dX9_isNearer_2 rfl (lv_at hl 2 rfl) ?_
  refine CI.go (va_runV (As := [.int (nI x), .int (nI y)]) (rest := []) ⟨hx, hb, hml, hown, hts⟩ (c_X9_common  g33 g41 g42 hdd h48 hds hxd hyd _) (cwV 2 hts gX9_isNearer_X9_common rfl rfl rfl (by decide +kernel) ⟨Nat.le_of_ble_eq_true rfl, Nat.le_of_ble_eq_true rfl⟩) ⟨pw_blind, va_recv hK hP (ci := 10) (q0 := 33) rfl g33, fun U hU hW => pw_pre hK hP hD hU hW⟩ rfl rfl hl.1 rfl (lv_room (Nat.le_of_ble_eq_true rfl)) dX9_isNearer_3 ⟨by decide, by decide⟩) hD hS hA (fun r_1 ws_2 H locs hp hP hD hS => ?_)
  obtain ⟨rfl, rfl⟩ := hp
  rw [← hc1]
  refine lv_i2l (v := lN (c1)) hx hb dX9_isNearer_6 (nI_l (by omega)) ?_
  refine lv_lstore (lv' := [(4, .long (lN (c1))), (0, .ref m0), (1, .int (nI x)), (2, .int (nI y)), (3, .int (nI u))]) hx hb dX9_isNearer_7 hl (by decide) rfl (fun ls hl => ?_)
  refine lv_aload_n hx hb dX9_isNearer_9 rfl (lv_at hl 1 rfl) ?_
  refine va_get (D := D) (ci := 10) (v := .ref b15) (C := RX9) (T := TX9) (N := 32) hx hb hts hin_X9 hown hK hP 33 g33 rfl 15 (by decide) fl_78 (fun _ h9 => h9) rfl dX9_isNearer_10 ?_
  refine lv_iload_n hx hb dX9_isNearer_13 rfl (lv_at hl 2 rfl) ?_
  refine nx_iald hx hb hK hP 41 1 g41 rfl (k := x) (by omega) (by decide) dX9_isNearer_14 ?_
  refine lv_aload_n hx hb dX9_isNearer_15 rfl (lv_at hl 1 rfl) ?_
  refine va_get (D := D) (ci := 10) (v := .ref b15) (C := RX9) (T := TX9) (N := 32) hx hb hts hin_X9 hown hK hP 33 g33 rfl 15 (by decide) fl_78 (fun _ h9 => h9) rfl dX9_isNearer_16 ?_
  refine lv_iload_n hx hb dX9_isNearer_19 rfl (lv_at hl 3 rfl) ?_
  refine nx_iald hx hb hK hP 41 1 g41 rfl (k := y) (by omega) (by decide) dX9_isNearer_20 ?_
  refine nx_iadd hx hb dX9_isNearer_21 ?_
  refine lv_i2l (v := lN ((gm x) + (gm y))) hx hb dX9_isNearer_22 (nI_l (by omega)) ?_
  refine lv_lload hx hb dX9_isNearer_23 (lv_at hl 0 rfl) ?_
  refine nx_lsub hx hb (by omega) dX9_isNearer_25 ?_
  refine lv_lstore (lv' := [(6, .long (lN (((gm x) + (gm y)) - c1))), (4, .long (lN (c1))), (0, .ref m0), (1, .int (nI x)), (2, .int (nI y)), (3, .int (nI u))]) hx hb dX9_isNearer_26 hl (by decide) rfl (fun ls hl => ?_)
  refine lv_aload_n hx hb dX9_isNearer_28 rfl (lv_at hl 2 rfl) ?_
  refine lv_iload_n hx hb dX9_isNearer_29 rfl (lv_at hl 3 rfl) ?_
  refine lv_iload_n hx hb dX9_isNearer_30 rfl (lv_at hl 5 rfl) ?_
  refine CI.go (va_runV (As := [.int (nI x), .int (nI u)]) (rest := []) ⟨hx, hb, hml, hown, hts⟩ (c_X9_common  g33 g41 g42 hdd h48 hds hxd hud _) (cwV 2 hts gX9_isNearer_X9_common rfl rfl rfl (by decide +kernel) ⟨Nat.le_of_ble_eq_true rfl, Nat.le_of_ble_eq_true rfl⟩) ⟨pw_blind, va_recv hK hP (ci := 10) (q0 := 33) rfl g33, fun U hU hW => pw_pre hK hP hD hU hW⟩ rfl rfl hl.1 rfl (lv_room (Nat.le_of_ble_eq_true rfl)) dX9_isNearer_31 ⟨by decide, by decide⟩) hD hS hA (fun r_3 ws_4 H locs hp hP hD hS => ?_)
  obtain ⟨rfl, rfl⟩ := hp
  rw [← hc2]
  refine lv_i2l (v := lN (c2)) hx hb dX9_isNearer_34 (nI_l (by omega)) ?_
  refine lv_lstore (lv' := [(8, .long (lN (c2))), (6, .long (lN (((gm x) + (gm y)) - c1))), (4, .long (lN (c1))), (0, .ref m0), (1, .int (nI x)), (2, .int (nI y)), (3, .int (nI u))]) hx hb dX9_isNearer_35 hl (by decide) rfl (fun ls hl => ?_)
  refine lv_aload_n hx hb dX9_isNearer_37 rfl (lv_at hl 3 rfl) ?_
  refine va_get (D := D) (ci := 10) (v := .ref b15) (C := RX9) (T := TX9) (N := 32) hx hb hts hin_X9 hown hK hP 33 g33 rfl 15 (by decide) fl_78 (fun _ h9 => h9) rfl dX9_isNearer_38 ?_
  refine lv_iload_n hx hb dX9_isNearer_41 rfl (lv_at hl 4 rfl) ?_
  refine nx_iald hx hb hK hP 41 1 g41 rfl (k := x) (by omega) (by decide) dX9_isNearer_42 ?_
  refine lv_aload_n hx hb dX9_isNearer_43 rfl (lv_at hl 3 rfl) ?_
  refine va_get (D := D) (ci := 10) (v := .ref b15) (C := RX9) (T := TX9) (N := 32) hx hb hts hin_X9 hown hK hP 33 g33 rfl 15 (by decide) fl_78 (fun _ h9 => h9) rfl dX9_isNearer_44 ?_
  refine lv_iload_n hx hb dX9_isNearer_47 rfl (lv_at hl 6 rfl) ?_
  refine nx_iald hx hb hK hP 41 1 g41 rfl (k := u) (by omega) (by decide) dX9_isNearer_48 ?_
  refine nx_iadd hx hb dX9_isNearer_49 ?_
  refine lv_i2l (v := lN ((gm x) + (gm u))) hx hb dX9_isNearer_50 (nI_l (by omega)) ?_
  refine lv_lload hx hb dX9_isNearer_51 (lv_at hl 0 rfl) ?_
  refine nx_lsub hx hb (by omega) dX9_isNearer_53 ?_
  refine lv_lstore (lv' := [(10, .long (lN (((gm x) + (gm u)) - c2))), (8, .long (lN (c2))), (6, .long (lN (((gm x) + (gm y)) - c1))), (4, .long (lN (c1))), (0, .ref m0), (1, .int (nI x)), (2, .int (nI y)), (3, .int (nI u))]) hx hb dX9_isNearer_54 hl (by decide) rfl (fun ls hl => ?_)
  refine lv_lload hx hb dX9_isNearer_56 (lv_at hl 2 rfl) ?_
  refine lv_lconst (v := lN 0) hx hb dX9_isNearer_58 (by decide) ?_
  refine W.lcmp hx hb dX9_isNearer_59 ?_
  refine lv_if_ne (tgt := 66) hx hb dX9_isNearer_60 (by decide) (fun c_60 => ?_) (fun c_60 => ?_)
  · have c_60 := lgc_ne_t (by omega) (by omega) c_60
    refine lv_lload hx hb dX9_isNearer_66 (lv_at hl 0 rfl) ?_
    refine lv_lconst (v := lN 0) hx hb dX9_isNearer_68 (by decide) ?_
    refine W.lcmp hx hb dX9_isNearer_69 ?_
    refine lv_if_ne (tgt := 76) hx hb dX9_isNearer_70 (by decide) (fun c_70 => ?_) (fun c_70 => ?_)
    · have c_70 := lgc_ne_t (by omega) (by omega) c_70
      refine lv_lload hx hb dX9_isNearer_76 (lv_at hl 3 rfl) ?_
      refine lv_lload hx hb dX9_isNearer_78 (lv_at hl 0 rfl) ?_
      refine nx_lmul hx hb dX9_isNearer_80 ?_
      refine lv_lload hx hb dX9_isNearer_81 (lv_at hl 1 rfl) ?_
      refine lv_lload hx hb dX9_isNearer_83 (lv_at hl 2 rfl) ?_
      refine nx_lmul hx hb dX9_isNearer_85 ?_
      refine W.lcmp hx hb dX9_isNearer_86 ?_
      refine lv_if_gt (tgt := 109) hx hb dX9_isNearer_87 (by decide) (fun c_87 => ?_) (fun c_87 => ?_)
      · have c_87 := lgc_gt_t (mul_big (by omega) (by omega)) (mul_big (by omega) (by omega)) c_87
        refine lv_iconst (v := nI 1) hx hb dX9_isNearer_109 (by decide) ?_
        refine lv_goto (tgt := 114) hx hb dX9_isNearer_110 (by decide) ?_
        have hmx1 : max 1 (gm x + gm y - c1) = ((gm x) + (gm y)) - c1 := by omega
        have hmx2 : max 1 (gm x + gm u - c2) = ((gm x) + (gm u)) - c2 := by omega
        exact CI.ret (v := (nI 1)) C hK hP hD hS (by decide) (⟨(by rw [nrB, hmx1, hmx2]; first | (rw [decide_eq_true c_87]; rfl) | (rw [decide_eq_false (Nat.not_lt.mpr c_87), decide_eq_true c_101, decide_eq_true c_106]; rfl) | (rw [decide_eq_false (Nat.not_lt.mpr c_87), decide_eq_true c_101, decide_eq_false (Nat.not_lt.mpr c_106)]; rfl) | (rw [decide_eq_false (Nat.not_lt.mpr c_87), decide_eq_false c_101]; rfl)), rfl⟩) hc0 hs0 dX9_isNearer_114
      · have c_87 := lgc_gt_f (mul_big (by omega) (by omega)) (mul_big (by omega) (by omega)) c_87
        refine lv_lload hx hb dX9_isNearer_90 (lv_at hl 3 rfl) ?_
        refine lv_lload hx hb dX9_isNearer_92 (lv_at hl 0 rfl) ?_
        refine nx_lmul hx hb dX9_isNearer_94 ?_
        refine lv_lload hx hb dX9_isNearer_95 (lv_at hl 1 rfl) ?_
        refine lv_lload hx hb dX9_isNearer_97 (lv_at hl 2 rfl) ?_
        refine nx_lmul hx hb dX9_isNearer_99 ?_
        refine W.lcmp hx hb dX9_isNearer_100 ?_
        refine lv_if_ne (tgt := 113) hx hb dX9_isNearer_101 (by decide) (fun c_101 => ?_) (fun c_101 => ?_)
        · have c_101 := lgc_ne_t (mul_big (by omega) (by omega)) (mul_big (by omega) (by omega)) c_101
          refine lv_iconst (v := nI 0) hx hb dX9_isNearer_113 (by decide) ?_
          have hmx1 : max 1 (gm x + gm y - c1) = ((gm x) + (gm y)) - c1 := by omega
          have hmx2 : max 1 (gm x + gm u - c2) = ((gm x) + (gm u)) - c2 := by omega
          exact CI.ret (v := (nI 0)) C hK hP hD hS (by decide) (⟨(by rw [nrB, hmx1, hmx2]; first | (rw [decide_eq_true c_87]; rfl) | (rw [decide_eq_false (Nat.not_lt.mpr c_87), decide_eq_true c_101, decide_eq_true c_106]; rfl) | (rw [decide_eq_false (Nat.not_lt.mpr c_87), decide_eq_true c_101, decide_eq_false (Nat.not_lt.mpr c_106)]; rfl) | (rw [decide_eq_false (Nat.not_lt.mpr c_87), decide_eq_false c_101]; rfl)), rfl⟩) hc0 hs0 dX9_isNearer_114
        · have c_101 := lgc_ne_f (mul_big (by omega) (by omega)) (mul_big (by omega) (by omega)) c_101
          refine lv_iload_n hx hb dX9_isNearer_104 rfl (lv_at hl 6 rfl) ?_
          refine lv_iload_n hx hb dX9_isNearer_105 rfl (lv_at hl 7 rfl) ?_
          refine nx_icmp_ge (tgt := 113) hx hb (by omega) (by omega) dX9_isNearer_106 (by decide) (fun c_106 => ?_) (fun c_106 => ?_)
          · refine lv_iconst (v := nI 0) hx hb dX9_isNearer_113 (by decide) ?_
            have hmx1 : max 1 (gm x + gm y - c1) = ((gm x) + (gm y)) - c1 := by omega
            have hmx2 : max 1 (gm x + gm u - c2) = ((gm x) + (gm u)) - c2 := by omega
            exact CI.ret (v := (nI 0)) C hK hP hD hS (by decide) (⟨(by rw [nrB, hmx1, hmx2]; first | (rw [decide_eq_true c_87]; rfl) | (rw [decide_eq_false (Nat.not_lt.mpr c_87), decide_eq_true c_101, decide_eq_true c_106]; rfl) | (rw [decide_eq_false (Nat.not_lt.mpr c_87), decide_eq_true c_101, decide_eq_false (Nat.not_lt.mpr c_106)]; rfl) | (rw [decide_eq_false (Nat.not_lt.mpr c_87), decide_eq_false c_101]; rfl)), rfl⟩) hc0 hs0 dX9_isNearer_114
          · refine lv_iconst (v := nI 1) hx hb dX9_isNearer_109 (by decide) ?_
            refine lv_goto (tgt := 114) hx hb dX9_isNearer_110 (by decide) ?_
            have hmx1 : max 1 (gm x + gm y - c1) = ((gm x) + (gm y)) - c1 := by omega
            have hmx2 : max 1 (gm x + gm u - c2) = ((gm x) + (gm u)) - c2 := by omega
            exact CI.ret (v := (nI 1)) C hK hP hD hS (by decide) (⟨(by rw [nrB, hmx1, hmx2]; first | (rw [decide_eq_true c_87]; rfl) | (rw [decide_eq_false (Nat.not_lt.mpr c_87), decide_eq_true c_101, decide_eq_true c_106]; rfl) | (rw [decide_eq_false (Nat.not_lt.mpr c_87), decide_eq_true c_101, decide_eq_false (Nat.not_lt.mpr c_106)]; rfl) | (rw [decide_eq_false (Nat.not_lt.mpr c_87), decide_eq_false c_101]; rfl)), rfl⟩) hc0 hs0 dX9_isNearer_114
    · have c_70 := lgc_ne_f (by omega) (by omega) c_70
      refine lv_lconst (v := lN 1) hx hb dX9_isNearer_73 (by decide) ?_
      refine lv_lstore (lv' := [(10, .long (lN (1))), (8, .long (lN (c2))), (6, .long (lN (((gm x) + (gm y)) - c1))), (4, .long (lN (c1))), (0, .ref m0), (1, .int (nI x)), (2, .int (nI y)), (3, .int (nI u))]) hx hb dX9_isNearer_74 hl (by decide) rfl (fun ls hl => ?_)
      refine lv_lload hx hb dX9_isNearer_76 (lv_at hl 3 rfl) ?_
      refine lv_lload hx hb dX9_isNearer_78 (lv_at hl 0 rfl) ?_
      refine nx_lmul hx hb dX9_isNearer_80 ?_
      refine lv_lload hx hb dX9_isNearer_81 (lv_at hl 1 rfl) ?_
      refine lv_lload hx hb dX9_isNearer_83 (lv_at hl 2 rfl) ?_
      refine nx_lmul hx hb dX9_isNearer_85 ?_
      refine W.lcmp hx hb dX9_isNearer_86 ?_
      refine lv_if_gt (tgt := 109) hx hb dX9_isNearer_87 (by decide) (fun c_87 => ?_) (fun c_87 => ?_)
      · have c_87 := lgc_gt_t (mul_big (by omega) (by omega)) (mul_big (by omega) (by omega)) c_87
        refine lv_iconst (v := nI 1) hx hb dX9_isNearer_109 (by decide) ?_
        refine lv_goto (tgt := 114) hx hb dX9_isNearer_110 (by decide) ?_
        have hmx1 : max 1 (gm x + gm y - c1) = ((gm x) + (gm y)) - c1 := by omega
        have hmx2 : max 1 (gm x + gm u - c2) = 1 := by omega
        exact CI.ret (v := (nI 1)) C hK hP hD hS (by decide) (⟨(by rw [nrB, hmx1, hmx2]; first | (rw [decide_eq_true c_87]; rfl) | (rw [decide_eq_false (Nat.not_lt.mpr c_87), decide_eq_true c_101, decide_eq_true c_106]; rfl) | (rw [decide_eq_false (Nat.not_lt.mpr c_87), decide_eq_true c_101, decide_eq_false (Nat.not_lt.mpr c_106)]; rfl) | (rw [decide_eq_false (Nat.not_lt.mpr c_87), decide_eq_false c_101]; rfl)), rfl⟩) hc0 hs0 dX9_isNearer_114
      · have c_87 := lgc_gt_f (mul_big (by omega) (by omega)) (mul_big (by omega) (by omega)) c_87
        refine lv_lload hx hb dX9_isNearer_90 (lv_at hl 3 rfl) ?_
        refine lv_lload hx hb dX9_isNearer_92 (lv_at hl 0 rfl) ?_
        refine nx_lmul hx hb dX9_isNearer_94 ?_
        refine lv_lload hx hb dX9_isNearer_95 (lv_at hl 1 rfl) ?_
        refine lv_lload hx hb dX9_isNearer_97 (lv_at hl 2 rfl) ?_
        refine nx_lmul hx hb dX9_isNearer_99 ?_
        refine W.lcmp hx hb dX9_isNearer_100 ?_
        refine lv_if_ne (tgt := 113) hx hb dX9_isNearer_101 (by decide) (fun c_101 => ?_) (fun c_101 => ?_)
        · have c_101 := lgc_ne_t (mul_big (by omega) (by omega)) (mul_big (by omega) (by omega)) c_101
          refine lv_iconst (v := nI 0) hx hb dX9_isNearer_113 (by decide) ?_
          have hmx1 : max 1 (gm x + gm y - c1) = ((gm x) + (gm y)) - c1 := by omega
          have hmx2 : max 1 (gm x + gm u - c2) = 1 := by omega
          exact CI.ret (v := (nI 0)) C hK hP hD hS (by decide) (⟨(by rw [nrB, hmx1, hmx2]; first | (rw [decide_eq_true c_87]; rfl) | (rw [decide_eq_false (Nat.not_lt.mpr c_87), decide_eq_true c_101, decide_eq_true c_106]; rfl) | (rw [decide_eq_false (Nat.not_lt.mpr c_87), decide_eq_true c_101, decide_eq_false (Nat.not_lt.mpr c_106)]; rfl) | (rw [decide_eq_false (Nat.not_lt.mpr c_87), decide_eq_false c_101]; rfl)), rfl⟩) hc0 hs0 dX9_isNearer_114
        · have c_101 := lgc_ne_f (mul_big (by omega) (by omega)) (mul_big (by omega) (by omega)) c_101
          refine lv_iload_n hx hb dX9_isNearer_104 rfl (lv_at hl 6 rfl) ?_
          refine lv_iload_n hx hb dX9_isNearer_105 rfl (lv_at hl 7 rfl) ?_
          refine nx_icmp_ge (tgt := 113) hx hb (by omega) (by omega) dX9_isNearer_106 (by decide) (fun c_106 => ?_) (fun c_106 => ?_)
          · refine lv_iconst (v := nI 0) hx hb dX9_isNearer_113 (by decide) ?_
            have hmx1 : max 1 (gm x + gm y - c1) = ((gm x) + (gm y)) - c1 := by omega
            have hmx2 : max 1 (gm x + gm u - c2) = 1 := by omega
            exact CI.ret (v := (nI 0)) C hK hP hD hS (by decide) (⟨(by rw [nrB, hmx1, hmx2]; first | (rw [decide_eq_true c_87]; rfl) | (rw [decide_eq_false (Nat.not_lt.mpr c_87), decide_eq_true c_101, decide_eq_true c_106]; rfl) | (rw [decide_eq_false (Nat.not_lt.mpr c_87), decide_eq_true c_101, decide_eq_false (Nat.not_lt.mpr c_106)]; rfl) | (rw [decide_eq_false (Nat.not_lt.mpr c_87), decide_eq_false c_101]; rfl)), rfl⟩) hc0 hs0 dX9_isNearer_114
          · refine lv_iconst (v := nI 1) hx hb dX9_isNearer_109 (by decide) ?_
            refine lv_goto (tgt := 114) hx hb dX9_isNearer_110 (by decide) ?_
            have hmx1 : max 1 (gm x + gm y - c1) = ((gm x) + (gm y)) - c1 := by omega
            have hmx2 : max 1 (gm x + gm u - c2) = 1 := by omega
            exact CI.ret (v := (nI 1)) C hK hP hD hS (by decide) (⟨(by rw [nrB, hmx1, hmx2]; first | (rw [decide_eq_true c_87]; rfl) | (rw [decide_eq_false (Nat.not_lt.mpr c_87), decide_eq_true c_101, decide_eq_true c_106]; rfl) | (rw [decide_eq_false (Nat.not_lt.mpr c_87), decide_eq_true c_101, decide_eq_false (Nat.not_lt.mpr c_106)]; rfl) | (rw [decide_eq_false (Nat.not_lt.mpr c_87), decide_eq_false c_101]; rfl)), rfl⟩) hc0 hs0 dX9_isNearer_114
  · have c_60 := lgc_ne_f (by omega) (by omega) c_60
    refine lv_lconst (v := lN 1) hx hb dX9_isNearer_63 (by decide) ?_
    refine lv_lstore (lv' := [(6, .long (lN (1))), (10, .long (lN (((gm x) + (gm u)) - c2))), (8, .long (lN (c2))), (4, .long (lN (c1))), (0, .ref m0), (1, .int (nI x)), (2, .int (nI y)), (3, .int (nI u))]) hx hb dX9_isNearer_64 hl (by decide) rfl (fun ls hl => ?_)
    refine lv_lload hx hb dX9_isNearer_66 (lv_at hl 1 rfl) ?_
    refine lv_lconst (v := lN 0) hx hb dX9_isNearer_68 (by decide) ?_
    refine W.lcmp hx hb dX9_isNearer_69 ?_
    refine lv_if_ne (tgt := 76) hx hb dX9_isNearer_70 (by decide) (fun c_70 => ?_) (fun c_70 => ?_)
    · have c_70 := lgc_ne_t (by omega) (by omega) c_70
      refine lv_lload hx hb dX9_isNearer_76 (lv_at hl 3 rfl) ?_
      refine lv_lload hx hb dX9_isNearer_78 (lv_at hl 1 rfl) ?_
      refine nx_lmul hx hb dX9_isNearer_80 ?_
      refine lv_lload hx hb dX9_isNearer_81 (lv_at hl 2 rfl) ?_
      refine lv_lload hx hb dX9_isNearer_83 (lv_at hl 0 rfl) ?_
      refine nx_lmul hx hb dX9_isNearer_85 ?_
      refine W.lcmp hx hb dX9_isNearer_86 ?_
      refine lv_if_gt (tgt := 109) hx hb dX9_isNearer_87 (by decide) (fun c_87 => ?_) (fun c_87 => ?_)
      · have c_87 := lgc_gt_t (mul_big (by omega) (by omega)) (mul_big (by omega) (by omega)) c_87
        refine lv_iconst (v := nI 1) hx hb dX9_isNearer_109 (by decide) ?_
        refine lv_goto (tgt := 114) hx hb dX9_isNearer_110 (by decide) ?_
        have hmx1 : max 1 (gm x + gm y - c1) = 1 := by omega
        have hmx2 : max 1 (gm x + gm u - c2) = ((gm x) + (gm u)) - c2 := by omega
        exact CI.ret (v := (nI 1)) C hK hP hD hS (by decide) (⟨(by rw [nrB, hmx1, hmx2]; first | (rw [decide_eq_true c_87]; rfl) | (rw [decide_eq_false (Nat.not_lt.mpr c_87), decide_eq_true c_101, decide_eq_true c_106]; rfl) | (rw [decide_eq_false (Nat.not_lt.mpr c_87), decide_eq_true c_101, decide_eq_false (Nat.not_lt.mpr c_106)]; rfl) | (rw [decide_eq_false (Nat.not_lt.mpr c_87), decide_eq_false c_101]; rfl)), rfl⟩) hc0 hs0 dX9_isNearer_114
      · have c_87 := lgc_gt_f (mul_big (by omega) (by omega)) (mul_big (by omega) (by omega)) c_87
        refine lv_lload hx hb dX9_isNearer_90 (lv_at hl 3 rfl) ?_
        refine lv_lload hx hb dX9_isNearer_92 (lv_at hl 1 rfl) ?_
        refine nx_lmul hx hb dX9_isNearer_94 ?_
        refine lv_lload hx hb dX9_isNearer_95 (lv_at hl 2 rfl) ?_
        refine lv_lload hx hb dX9_isNearer_97 (lv_at hl 0 rfl) ?_
        refine nx_lmul hx hb dX9_isNearer_99 ?_
        refine W.lcmp hx hb dX9_isNearer_100 ?_
        refine lv_if_ne (tgt := 113) hx hb dX9_isNearer_101 (by decide) (fun c_101 => ?_) (fun c_101 => ?_)
        · have c_101 := lgc_ne_t (mul_big (by omega) (by omega)) (mul_big (by omega) (by omega)) c_101
          refine lv_iconst (v := nI 0) hx hb dX9_isNearer_113 (by decide) ?_
          have hmx1 : max 1 (gm x + gm y - c1) = 1 := by omega
          have hmx2 : max 1 (gm x + gm u - c2) = ((gm x) + (gm u)) - c2 := by omega
          exact CI.ret (v := (nI 0)) C hK hP hD hS (by decide) (⟨(by rw [nrB, hmx1, hmx2]; first | (rw [decide_eq_true c_87]; rfl) | (rw [decide_eq_false (Nat.not_lt.mpr c_87), decide_eq_true c_101, decide_eq_true c_106]; rfl) | (rw [decide_eq_false (Nat.not_lt.mpr c_87), decide_eq_true c_101, decide_eq_false (Nat.not_lt.mpr c_106)]; rfl) | (rw [decide_eq_false (Nat.not_lt.mpr c_87), decide_eq_false c_101]; rfl)), rfl⟩) hc0 hs0 dX9_isNearer_114
        · have c_101 := lgc_ne_f (mul_big (by omega) (by omega)) (mul_big (by omega) (by omega)) c_101
          refine lv_iload_n hx hb dX9_isNearer_104 rfl (lv_at hl 6 rfl) ?_
          refine lv_iload_n hx hb dX9_isNearer_105 rfl (lv_at hl 7 rfl) ?_
          refine nx_icmp_ge (tgt := 113) hx hb (by omega) (by omega) dX9_isNearer_106 (by decide) (fun c_106 => ?_) (fun c_106 => ?_)
          · refine lv_iconst (v := nI 0) hx hb dX9_isNearer_113 (by decide) ?_
            have hmx1 : max 1 (gm x + gm y - c1) = 1 := by omega
            have hmx2 : max 1 (gm x + gm u - c2) = ((gm x) + (gm u)) - c2 := by omega
            exact CI.ret (v := (nI 0)) C hK hP hD hS (by decide) (⟨(by rw [nrB, hmx1, hmx2]; first | (rw [decide_eq_true c_87]; rfl) | (rw [decide_eq_false (Nat.not_lt.mpr c_87), decide_eq_true c_101, decide_eq_true c_106]; rfl) | (rw [decide_eq_false (Nat.not_lt.mpr c_87), decide_eq_true c_101, decide_eq_false (Nat.not_lt.mpr c_106)]; rfl) | (rw [decide_eq_false (Nat.not_lt.mpr c_87), decide_eq_false c_101]; rfl)), rfl⟩) hc0 hs0 dX9_isNearer_114
          · refine lv_iconst (v := nI 1) hx hb dX9_isNearer_109 (by decide) ?_
            refine lv_goto (tgt := 114) hx hb dX9_isNearer_110 (by decide) ?_
            have hmx1 : max 1 (gm x + gm y - c1) = 1 := by omega
            have hmx2 : max 1 (gm x + gm u - c2) = ((gm x) + (gm u)) - c2 := by omega
            exact CI.ret (v := (nI 1)) C hK hP hD hS (by decide) (⟨(by rw [nrB, hmx1, hmx2]; first | (rw [decide_eq_true c_87]; rfl) | (rw [decide_eq_false (Nat.not_lt.mpr c_87), decide_eq_true c_101, decide_eq_true c_106]; rfl) | (rw [decide_eq_false (Nat.not_lt.mpr c_87), decide_eq_true c_101, decide_eq_false (Nat.not_lt.mpr c_106)]; rfl) | (rw [decide_eq_false (Nat.not_lt.mpr c_87), decide_eq_false c_101]; rfl)), rfl⟩) hc0 hs0 dX9_isNearer_114
    · have c_70 := lgc_ne_f (by omega) (by omega) c_70
      refine lv_lconst (v := lN 1) hx hb dX9_isNearer_73 (by decide) ?_
      refine lv_lstore (lv' := [(10, .long (lN (1))), (6, .long (lN (1))), (8, .long (lN (c2))), (4, .long (lN (c1))), (0, .ref m0), (1, .int (nI x)), (2, .int (nI y)), (3, .int (nI u))]) hx hb dX9_isNearer_74 hl (by decide) rfl (fun ls hl => ?_)
      refine lv_lload hx hb dX9_isNearer_76 (lv_at hl 3 rfl) ?_
      refine lv_lload hx hb dX9_isNearer_78 (lv_at hl 0 rfl) ?_
      refine nx_lmul hx hb dX9_isNearer_80 ?_
      refine lv_lload hx hb dX9_isNearer_81 (lv_at hl 2 rfl) ?_
      refine lv_lload hx hb dX9_isNearer_83 (lv_at hl 1 rfl) ?_
      refine nx_lmul hx hb dX9_isNearer_85 ?_
      refine W.lcmp hx hb dX9_isNearer_86 ?_
      refine lv_if_gt (tgt := 109) hx hb dX9_isNearer_87 (by decide) (fun c_87 => ?_) (fun c_87 => ?_)
      · have c_87 := lgc_gt_t (mul_big (by omega) (by omega)) (mul_big (by omega) (by omega)) c_87
        refine lv_iconst (v := nI 1) hx hb dX9_isNearer_109 (by decide) ?_
        refine lv_goto (tgt := 114) hx hb dX9_isNearer_110 (by decide) ?_
        have hmx1 : max 1 (gm x + gm y - c1) = 1 := by omega
        have hmx2 : max 1 (gm x + gm u - c2) = 1 := by omega
        exact CI.ret (v := (nI 1)) C hK hP hD hS (by decide) (⟨(by rw [nrB, hmx1, hmx2]; first | (rw [decide_eq_true c_87]; rfl) | (rw [decide_eq_false (Nat.not_lt.mpr c_87), decide_eq_true c_101, decide_eq_true c_106]; rfl) | (rw [decide_eq_false (Nat.not_lt.mpr c_87), decide_eq_true c_101, decide_eq_false (Nat.not_lt.mpr c_106)]; rfl) | (rw [decide_eq_false (Nat.not_lt.mpr c_87), decide_eq_false c_101]; rfl)), rfl⟩) hc0 hs0 dX9_isNearer_114
      · have c_87 := lgc_gt_f (mul_big (by omega) (by omega)) (mul_big (by omega) (by omega)) c_87
        refine lv_lload hx hb dX9_isNearer_90 (lv_at hl 3 rfl) ?_
        refine lv_lload hx hb dX9_isNearer_92 (lv_at hl 0 rfl) ?_
        refine nx_lmul hx hb dX9_isNearer_94 ?_
        refine lv_lload hx hb dX9_isNearer_95 (lv_at hl 2 rfl) ?_
        refine lv_lload hx hb dX9_isNearer_97 (lv_at hl 1 rfl) ?_
        refine nx_lmul hx hb dX9_isNearer_99 ?_
        refine W.lcmp hx hb dX9_isNearer_100 ?_
        refine lv_if_ne (tgt := 113) hx hb dX9_isNearer_101 (by decide) (fun c_101 => ?_) (fun c_101 => ?_)
        · have c_101 := lgc_ne_t (mul_big (by omega) (by omega)) (mul_big (by omega) (by omega)) c_101
          refine lv_iconst (v := nI 0) hx hb dX9_isNearer_113 (by decide) ?_
          have hmx1 : max 1 (gm x + gm y - c1) = 1 := by omega
          have hmx2 : max 1 (gm x + gm u - c2) = 1 := by omega
          exact CI.ret (v := (nI 0)) C hK hP hD hS (by decide) (⟨(by rw [nrB, hmx1, hmx2]; first | (rw [decide_eq_true c_87]; rfl) | (rw [decide_eq_false (Nat.not_lt.mpr c_87), decide_eq_true c_101, decide_eq_true c_106]; rfl) | (rw [decide_eq_false (Nat.not_lt.mpr c_87), decide_eq_true c_101, decide_eq_false (Nat.not_lt.mpr c_106)]; rfl) | (rw [decide_eq_false (Nat.not_lt.mpr c_87), decide_eq_false c_101]; rfl)), rfl⟩) hc0 hs0 dX9_isNearer_114
        · have c_101 := lgc_ne_f (mul_big (by omega) (by omega)) (mul_big (by omega) (by omega)) c_101
          refine lv_iload_n hx hb dX9_isNearer_104 rfl (lv_at hl 6 rfl) ?_
          refine lv_iload_n hx hb dX9_isNearer_105 rfl (lv_at hl 7 rfl) ?_
          refine nx_icmp_ge (tgt := 113) hx hb (by omega) (by omega) dX9_isNearer_106 (by decide) (fun c_106 => ?_) (fun c_106 => ?_)
          · refine lv_iconst (v := nI 0) hx hb dX9_isNearer_113 (by decide) ?_
            have hmx1 : max 1 (gm x + gm y - c1) = 1 := by omega
            have hmx2 : max 1 (gm x + gm u - c2) = 1 := by omega
            exact CI.ret (v := (nI 0)) C hK hP hD hS (by decide) (⟨(by rw [nrB, hmx1, hmx2]; first | (rw [decide_eq_true c_87]; rfl) | (rw [decide_eq_false (Nat.not_lt.mpr c_87), decide_eq_true c_101, decide_eq_true c_106]; rfl) | (rw [decide_eq_false (Nat.not_lt.mpr c_87), decide_eq_true c_101, decide_eq_false (Nat.not_lt.mpr c_106)]; rfl) | (rw [decide_eq_false (Nat.not_lt.mpr c_87), decide_eq_false c_101]; rfl)), rfl⟩) hc0 hs0 dX9_isNearer_114
          · refine lv_iconst (v := nI 1) hx hb dX9_isNearer_109 (by decide) ?_
            refine lv_goto (tgt := 114) hx hb dX9_isNearer_110 (by decide) ?_
            have hmx1 : max 1 (gm x + gm y - c1) = 1 := by omega
            have hmx2 : max 1 (gm x + gm u - c2) = 1 := by omega
            exact CI.ret (v := (nI 1)) C hK hP hD hS (by decide) (⟨(by rw [nrB, hmx1, hmx2]; first | (rw [decide_eq_true c_87]; rfl) | (rw [decide_eq_false (Nat.not_lt.mpr c_87), decide_eq_true c_101, decide_eq_true c_106]; rfl) | (rw [decide_eq_false (Nat.not_lt.mpr c_87), decide_eq_true c_101, decide_eq_false (Nat.not_lt.mpr c_106)]; rfl) | (rw [decide_eq_false (Nat.not_lt.mpr c_87), decide_eq_false c_101]; rfl)), rfl⟩) hc0 hs0 dX9_isNearer_114
