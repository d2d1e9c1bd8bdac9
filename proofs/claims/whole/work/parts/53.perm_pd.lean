set_option maxHeartbeats 4000000 in
set_option maxRecDepth 100000 in
theorem c_X4_move {D : va_G} {cB cI cJ cO : ClassId} {l : Launch} {d0 d1 d2 d3 d4 d5 mv kp : Nat} {mk mi : Nat → Nat} {K : List (Nat × Nat)} {key im : Nat} {ws : va_W} (g10 : ws[10]? = some (d0, .inr (5, [.ref d1, .ref d2, .ref d3, .ref d4, .ref d5, .int (nI mv), .int (nI kp)]))) (g14 : ws[14]? = some (d4, .inl (cI, 600, .inl (fun jj => nI (mk jj))))) (g15 : ws[15]? = some (d5, .inl (cI, 600, .inl (fun jj => nI (mi jj))))) (hHK : HdK mk mi K) (hKl : K.length = mv) (hKr : KRise K) (hks : ∀ e ∈ K, e.1 < 2 ^ 31) (h600 : mv < 600) (hky : key < 2 ^ 31) : CV D (TY cB cI cJ cO) l yX4_move wsX4_move ({ frames := 1, cells := 0, slots := 0, locals := 23 }) [.ref d0, .int (nI key), .int (nI im)] ws (fun ws' => ∃ mk2 : Nat → Nat, ∃ mi2 : Nat → Nat, (HdK mk2 mi2 (insK key im K)) ∧ Sm (fun k => k = 10 ∨ k = 14 ∨ k = 15) ws ws' ∧ ws'[10]? = some (d0, .inr (5, [.ref d1, .ref d2, .ref d3, .ref d4, .ref d5, .int (nI ((insK key im K).length)), .int (nI kp)])) ∧ ws'[14]? = some (d4, .inl (cI, 600, .inl (fun jj => nI (mk2 jj)))) ∧ ws'[15]? = some (d5, .inl (cI, 600, .inl (fun jj => nI (mi2 jj))))) := by
  refine CV.of (cc := cX4_move) (maxL := 5) (ret := none) (by decide) rfl (Nat.le_of_ble_eq_true rfl) ?_
  intro p e s m below meth c A C hK hP hD hA hS ls hl
  obtain ⟨hx, hb, hr, hml, hts, hown, hlocks, hnm⟩ := id C
  have fl_21 := hts (.fieldLink RX4 21 "TwinFinder$Permutations" "movedKey" "[I") (by decide +kernel)
  have fl_24 := hts (.fieldLink RX4 24 "TwinFinder$Permutations" "movedImage" "[I") (by decide +kernel)
  have fl_58 := hts (.fieldLink RX4 58 "TwinFinder$Permutations" "moved" "I") (by decide +kernel)
  have hin_X4 : ∀ w ∈ u_ws RX4 TX4 7, w ∈ wsX4_move := by decide +kernel
  have hl : lv_has ls 5 [(0, .ref d0), (1, .int (nI key)), (2, .int (nI im))] := hl
  have sm : Sm (fun k => k = 10 ∨ k = 14 ∨ k = 15) ws ws := Sm.rf
  have hc0 : (0 : Nat) ≤ 0 := by decide
  have hs0 : (0 : Nat) ≤ 0 := by decide
  obtain ⟨cc_, hLB⟩ := LB_ex hKr key
  have hlb1 := hLB.1
  refine lv_aload_n hx hb dX4_move_0 rfl (lv_at hl 0 rfl) ?_
  refine lv_iload_n hx hb dX4_move_1 rfl (lv_at hl 1 rfl) ?_
  refine CI.go (va_runV (As := [.int (nI key)]) (rest := []) ⟨hx, hb, hml, hown, hts⟩ (c_X4_placeFor  g10 g14 (fun i hi => (hHK i hi).1) hKl (by omega) hLB hky hks _) (cwV 1 hts gX4_move_X4_placeFor rfl rfl rfl (by decide +kernel) ⟨Nat.le_of_ble_eq_true rfl, Nat.le_of_ble_eq_true rfl⟩) ⟨pw_blind, va_recv hK hP (ci := 5) (q0 := 10) rfl g10, fun U hU hW => pw_pre hK hP hD hU hW⟩ rfl rfl hl.1 rfl (lv_room (Nat.le_of_ble_eq_true rfl)) dX4_move_2 ⟨Nat.le_of_ble_eq_true rfl, Nat.le_of_ble_eq_true rfl⟩) hD hS hA (fun r_1 ws_2 H locs hp hP hD hS => ?_)
  obtain ⟨rfl, rfl⟩ := hp
  refine lv_istore_n (lv' := [(3, .int (nI cc_)), (0, .ref d0), (1, .int (nI key)), (2, .int (nI im))]) hx hb dX4_move_5 rfl hl (by decide) rfl (fun ls hl => ?_)
  refine lv_iload_n hx hb dX4_move_6 rfl (lv_at hl 0 rfl) ?_
  refine lv_aload_n hx hb dX4_move_7 rfl (lv_at hl 1 rfl) ?_
  refine va_get (D := D) (ci := 5) (v := .int (nI mv)) (C := RX4) (T := TX4) (N := 7) hx hb hts hin_X4 hown hK hP 10 g10 rfl 5 (by decide) fl_58 (fun _ h9 => h9) rfl dX4_move_8 ?_
  refine nx_icmp_ge (tgt := 34) hx hb (by omega) (by omega) dX4_move_11 (by decide) (fun c_11 => ?_) (fun c_11 => ?_)
  · refine lv_aload_n hx hb dX4_move_34 rfl (lv_at hl 1 rfl) ?_
    refine va_get (D := D) (ci := 5) (v := .int (nI mv)) (C := RX4) (T := TX4) (N := 7) hx hb hts hin_X4 hown hK hP 10 g10 rfl 5 (by decide) fl_58 (fun _ h9 => h9) rfl dX4_move_35 ?_
    refine lv_aload_n hx hb dX4_move_38 rfl (lv_at hl 1 rfl) ?_
    refine va_get (D := D) (ci := 5) (v := .ref d4) (C := RX4) (T := TX4) (N := 7) hx hb hts hin_X4 hown hK hP 10 g10 rfl 3 (by decide) fl_21 (fun _ h9 => h9) rfl dX4_move_39 ?_
    refine va_alen (v := nI 600) hx hb hK hP 14 1 g14 rfl rfl dX4_move_42 ?_
    refine nx_icmp_ge (tgt := 120) hx hb (by omega) (by decide) dX4_move_43 (by decide) (fun c_43 => ?_) (fun c_43 => ?_)
    · omega
    · refine lv_aload_n hx hb dX4_move_46 rfl (lv_at hl 1 rfl) ?_
      refine va_get (D := D) (ci := 5) (v := .int (nI mv)) (C := RX4) (T := TX4) (N := 7) hx hb hts hin_X4 hown hK hP 10 g10 rfl 5 (by decide) fl_58 (fun _ h9 => h9) rfl dX4_move_47 ?_
      refine lv_istore (lv' := [(4, .int (nI mv)), (3, .int (nI cc_)), (0, .ref d0), (1, .int (nI key)), (2, .int (nI im))]) hx hb dX4_move_50 hl (by decide) rfl (fun ls hl => ?_)
      have lp_52 : ∀ (fuel : Nat) (i : Nat), i < fuel → (cc_ ≤ i ∧ i ≤ mv) → ∀ (ws1 : va_W) (H : Heap) (locs : List Loc) (ls : Array Slot), Sm (fun k => k = 10 ∨ k = 14 ∨ k = 15) ws ws1 → ws1[10]? = some (d0, .inr (5, [.ref d1, .ref d2, .ref d3, .ref d4, .ref d5, .int (nI mv), .int (nI kp)])) → ws1[14]? = some (d4, .inl (cI, 600, .inl (fun jj => nI ((shU mk mv i) jj)))) → ws1[15]? = some (d5, .inl (cI, 600, .inl (fun jj => nI ((shU mi mv i) jj)))) → va_P D vwCl ws1 H → va_D A ws1 → va_S A s.heap H locs → lv_has ls 5 [(0, .ref d0), (1, .int (nI key)), (2, .int (nI im)), (3, .int (nI cc_)), (4, .int (nI i))] → W p l e ({ frames := 1, cells := 0, slots := 0, locals := 23 }) s m ([.ref d0, .int (nI key), .int (nI im)] : List Value).toArray below meth c H locs 0 0 (ZV D (TY cB cI cJ cO) (fun ws' => ∃ mk2 : Nat → Nat, ∃ mi2 : Nat → Nat, (HdK mk2 mi2 (insK key im K)) ∧ Sm (fun k => k = 10 ∨ k = 14 ∨ k = 15) ws ws' ∧ ws'[10]? = some (d0, .inr (5, [.ref d1, .ref d2, .ref d3, .ref d4, .ref d5, .int (nI ((insK key im K).length)), .int (nI kp)])) ∧ ws'[14]? = some (d4, .inl (cI, 600, .inl (fun jj => nI (mk2 jj)))) ∧ ws'[15]? = some (d5, .inl (cI, 600, .inl (fun jj => nI (mi2 jj))))) below [.ref d0, .int (nI key), .int (nI im)] s 0 0 A) (F0 m 52 ls []) := by
        intro fuel
        induction fuel with
        | zero => intro i hfu; exact absurd hfu (Nat.not_lt_zero _)
        | succ fuel ih_52 =>
          intro i hfu_52 hi ws1 H locs ls sm g10 g14 g15 hP hD hS hl
          refine lv_iload hx hb dX4_move_52 (lv_at hl 4 rfl) ?_
          refine lv_iload_n hx hb dX4_move_54 rfl (lv_at hl 3 rfl) ?_
          refine nx_icmp_le (tgt := 96) hx hb (by omega) (by omega) dX4_move_55 (by decide) (fun c_55 => ?_) (fun c_55 => ?_)
          · refine lv_aload_n hx hb dX4_move_96 rfl (lv_at hl 0 rfl) ?_
            refine va_get (D := D) (ci := 5) (v := .ref d4) (C := RX4) (T := TX4) (N := 7) hx hb hts hin_X4 hown hK hP 10 g10 rfl 3 (by decide) fl_21 (fun _ h9 => h9) rfl dX4_move_97 ?_
            refine lv_iload_n hx hb dX4_move_100 rfl (lv_at hl 3 rfl) ?_
            refine lv_iload_n hx hb dX4_move_101 rfl (lv_at hl 1 rfl) ?_
            refine nx_iastN hx hb hK hP hD hS 14 1 g14 rfl (k := cc_) (by omega) (by decide) dX4_move_102 (fun ws_3 H locs gq up_4 hP hD hS => ?_)
            have g14 : ws_3[14]? = some (d4, .inl (cI, 600, .inl (fun jj => nI ((va_up (shU mk mv i) cc_ key) jj)))) := gq
            have g10 := up_4.get g10 (by decide)
            have g15 := up_4.get g15 (by decide)
            have sm := sm.up up_4 (by simp)
            refine lv_aload_n hx hb dX4_move_103 rfl (lv_at hl 0 rfl) ?_
            refine va_get (D := D) (ci := 5) (v := .ref d5) (C := RX4) (T := TX4) (N := 7) hx hb hts hin_X4 hown hK hP 10 g10 rfl 4 (by decide) fl_24 (fun _ h9 => h9) rfl dX4_move_104 ?_
            refine lv_iload_n hx hb dX4_move_107 rfl (lv_at hl 3 rfl) ?_
            refine lv_iload_n hx hb dX4_move_108 rfl (lv_at hl 2 rfl) ?_
            refine nx_iastN hx hb hK hP hD hS 15 1 g15 rfl (k := cc_) (by omega) (by decide) dX4_move_109 (fun ws_5 H locs gq up_6 hP hD hS => ?_)
            have g15 : ws_5[15]? = some (d5, .inl (cI, 600, .inl (fun jj => nI ((va_up (shU mi mv i) cc_ im) jj)))) := gq
            have g10 := up_6.get g10 (by decide)
            have g14 := up_6.get g14 (by decide)
            have sm := sm.up up_6 (by simp)
            refine lv_aload_n hx hb dX4_move_110 rfl (lv_at hl 0 rfl) ?_
            refine lv_dup hx hb dX4_move_111 rfl ?_
            refine va_get (D := D) (ci := 5) (v := .int (nI mv)) (C := RX4) (T := TX4) (N := 7) hx hb hts hin_X4 hown hK hP 10 g10 rfl 5 (by decide) fl_58 (fun _ h9 => h9) rfl dX4_move_112 ?_
            refine lv_iconst (v := nI 1) hx hb dX4_move_115 (by decide) ?_
            refine nx_iadd hx hb dX4_move_116 ?_
            refine nx_put (D := D) (ci := 5) (v := .int (nI (mv + 1))) (ty := .int) (C := RX4) (T := TX4) (N := 7) hx hb hts hin_X4 tyX4 tyX4_ok nmX4 hown hK hP hD hS 10 g10 rfl 5 (by decide) fl_58 (fun _ h9 => h9) rfl (by decide +kernel) rfl rfl (Nat.le_of_ble_eq_true rfl) dX4_move_117 (fun ws_7 H locs gq up_8 hP hD hS => ?_)
            have g10 : ws_7[10]? = some (d0, .inr (5, [.ref d1, .ref d2, .ref d3, .ref d4, .ref d5, .int (nI (mv + 1)), .int (nI kp)])) := gq
            have g14 := up_8.get g14 (by decide)
            have g15 := up_8.get g15 (by decide)
            have sm := sm.up up_8 (by simp)
            have hins := lb_at (v := im) hKr hLB (fun h9 => by first | (have := h9; omega) | (rw [← (hHK _ h9).1]; exact c_21))
            have hil : (K.take cc_ ++ (key, im) :: K.drop cc_).length = mv + 1 := by rw [← hKl]; simp; omega
            have g10 : ws_7[10]? = some (d0, .inr (5, [.ref d1, .ref d2, .ref d3, .ref d4, .ref d5, .int (nI ((insK key im K).length)), .int (nI kp)])) := by rw [hins, hil]; exact g10
            exact CV.ret C hK hP hD hS (⟨_, _, (by rw [hins]; have h9 := hHK.ins (t := cc_) (key := key) (v := im) (by omega); rw [hKl] at h9; rw [show i = cc_ by omega]; exact h9), sm, g10, g14, g15⟩) hc0 hs0 dX4_move_120
          · refine lv_aload_n hx hb dX4_move_58 rfl (lv_at hl 0 rfl) ?_
            refine va_get (D := D) (ci := 5) (v := .ref d4) (C := RX4) (T := TX4) (N := 7) hx hb hts hin_X4 hown hK hP 10 g10 rfl 3 (by decide) fl_21 (fun _ h9 => h9) rfl dX4_move_59 ?_
            refine lv_iload hx hb dX4_move_62 (lv_at hl 4 rfl) ?_
            refine lv_aload_n hx hb dX4_move_64 rfl (lv_at hl 0 rfl) ?_
            refine va_get (D := D) (ci := 5) (v := .ref d4) (C := RX4) (T := TX4) (N := 7) hx hb hts hin_X4 hown hK hP 10 g10 rfl 3 (by decide) fl_21 (fun _ h9 => h9) rfl dX4_move_65 ?_
            refine lv_iload hx hb dX4_move_68 (lv_at hl 4 rfl) ?_
            refine lv_iconst (v := nI 1) hx hb dX4_move_70 (by decide) ?_
            refine nx_isub hx hb (by omega) dX4_move_71 ?_
            refine nx_iald hx hb hK hP 14 1 g14 rfl (k := (i - 1)) (by omega) (by decide) dX4_move_72 ?_
            refine nx_iastN hx hb hK hP hD hS 14 1 g14 rfl (k := i) (by omega) (by decide) dX4_move_73 (fun ws_9 H locs gq up_10 hP hD hS => ?_)
            have g14 : ws_9[14]? = some (d4, .inl (cI, 600, .inl (fun jj => nI ((va_up (shU mk mv i) i ((shU mk mv i) (i - 1))) jj)))) := gq
            have g10 := up_10.get g10 (by decide)
            have g15 := up_10.get g15 (by decide)
            have sm := sm.up up_10 (by simp)
            refine lv_aload_n hx hb dX4_move_74 rfl (lv_at hl 0 rfl) ?_
            refine va_get (D := D) (ci := 5) (v := .ref d5) (C := RX4) (T := TX4) (N := 7) hx hb hts hin_X4 hown hK hP 10 g10 rfl 4 (by decide) fl_24 (fun _ h9 => h9) rfl dX4_move_75 ?_
            refine lv_iload hx hb dX4_move_78 (lv_at hl 4 rfl) ?_
            refine lv_aload_n hx hb dX4_move_80 rfl (lv_at hl 0 rfl) ?_
            refine va_get (D := D) (ci := 5) (v := .ref d5) (C := RX4) (T := TX4) (N := 7) hx hb hts hin_X4 hown hK hP 10 g10 rfl 4 (by decide) fl_24 (fun _ h9 => h9) rfl dX4_move_81 ?_
            refine lv_iload hx hb dX4_move_84 (lv_at hl 4 rfl) ?_
            refine lv_iconst (v := nI 1) hx hb dX4_move_86 (by decide) ?_
            refine nx_isub hx hb (by omega) dX4_move_87 ?_
            refine nx_iald hx hb hK hP 15 1 g15 rfl (k := (i - 1)) (by omega) (by decide) dX4_move_88 ?_
            refine nx_iastN hx hb hK hP hD hS 15 1 g15 rfl (k := i) (by omega) (by decide) dX4_move_89 (fun ws_11 H locs gq up_12 hP hD hS => ?_)
            have g15 : ws_11[15]? = some (d5, .inl (cI, 600, .inl (fun jj => nI ((va_up (shU mi mv i) i ((shU mi mv i) (i - 1))) jj)))) := gq
            have g10 := up_12.get g10 (by decide)
            have g14 := up_12.get g14 (by decide)
            have sm := sm.up up_12 (by simp)
            refine lv_iinc (v := (nI (i - 1))) (lv' := [(4, .int (nI (i - 1))), (0, .ref d0), (1, .int (nI key)), (2, .int (nI im)), (3, .int (nI cc_))]) hx hb dX4_move_90 hl (k := 4) rfl (nx_dec (n := 1) (by omega)) (by decide) rfl (fun ls hl => ?_)
            refine lv_goto (tgt := 52) hx hb dX4_move_93 (by decide) ?_
            have g14 : ws_11[14]? = some (d4, .inl (cI, 600, .inl (fun jj => nI ((shU mk mv (i - 1)) jj)))) := by have h9 := shU_s (fr := mk) (n := mv) (i := i - 1) (by omega); rw [show i - 1 + 1 = i by omega] at h9; rw [← h9]; exact g14
            have g15 : ws_11[15]? = some (d5, .inl (cI, 600, .inl (fun jj => nI ((shU mi mv (i - 1)) jj)))) := by have h9 := shU_s (fr := mi) (n := mv) (i := i - 1) (by omega); rw [show i - 1 + 1 = i by omega] at h9; rw [← h9]; exact g15
            exact ih_52 (i - 1) (by omega) (by omega) _ _ _ _ sm g10 g14 g15 hP hD hS (lv_sub hl [1, 2, 3, 4, 0] rfl)
      have g14 : ws[14]? = some (d4, .inl (cI, 600, .inl (fun jj => nI ((shU mk mv mv) jj)))) := by rw [shU_n]; exact g14
      have g15 : ws[15]? = some (d5, .inl (cI, 600, .inl (fun jj => nI ((shU mi mv mv) jj)))) := by rw [shU_n]; exact g15
      exact lp_52 _ mv (Nat.lt_succ_self _) (by omega) _ _ _ _ sm g10 g14 g15 hP hD hS (lv_sub hl [2, 3, 4, 1, 0] rfl)
  · refine lv_aload_n hx hb dX4_move_14 rfl (lv_at hl 1 rfl) ?_
    refine va_get (D := D) (ci := 5) (v := .ref d4) (C := RX4) (T := TX4) (N := 7) hx hb hts hin_X4 hown hK hP 10 g10 rfl 3 (by decide) fl_21 (fun _ h9 => h9) rfl dX4_move_15 ?_
    refine lv_iload_n hx hb dX4_move_18 rfl (lv_at hl 0 rfl) ?_
    refine nx_iald hx hb hK hP 14 1 g14 rfl (k := cc_) (by omega) (by decide) dX4_move_19 ?_
    refine lv_iload_n hx hb dX4_move_20 rfl (lv_at hl 2 rfl) ?_
    refine nx_icmp_ne (tgt := 34) hx hb (by rw [(hHK _ (by omega)).1]; exact hks _ (List.getElem_mem _)) hky dX4_move_21 (by decide) (fun c_21 => ?_) (fun c_21 => ?_)
    · refine lv_aload_n hx hb dX4_move_34 rfl (lv_at hl 1 rfl) ?_
      refine va_get (D := D) (ci := 5) (v := .int (nI mv)) (C := RX4) (T := TX4) (N := 7) hx hb hts hin_X4 hown hK hP 10 g10 rfl 5 (by decide) fl_58 (fun _ h9 => h9) rfl dX4_move_35 ?_
      refine lv_aload_n hx hb dX4_move_38 rfl (lv_at hl 1 rfl) ?_
      refine va_get (D := D) (ci := 5) (v := .ref d4) (C := RX4) (T := TX4) (N := 7) hx hb hts hin_X4 hown hK hP 10 g10 rfl 3 (by decide) fl_21 (fun _ h9 => h9) rfl dX4_move_39 ?_
      refine va_alen (v := nI 600) hx hb hK hP 14 1 g14 rfl rfl dX4_move_42 ?_
      refine nx_icmp_ge (tgt := 120) hx hb (by omega) (by decide) dX4_move_43 (by decide) (fun c_43 => ?_) (fun c_43 => ?_)
      · omega
      · refine lv_aload_n hx hb dX4_move_46 rfl (lv_at hl 1 rfl) ?_
        refine va_get (D := D) (ci := 5) (v := .int (nI mv)) (C := RX4) (T := TX4) (N := 7) hx hb hts hin_X4 hown hK hP 10 g10 rfl 5 (by decide) fl_58 (fun _ h9 => h9) rfl dX4_move_47 ?_
        refine lv_istore (lv' := [(4, .int (nI mv)), (3, .int (nI cc_)), (0, .ref d0), (1, .int (nI key)), (2, .int (nI im))]) hx hb dX4_move_50 hl (by decide) rfl (fun ls hl => ?_)
        have lp_52 : ∀ (fuel : Nat) (i : Nat), i < fuel → (cc_ ≤ i ∧ i ≤ mv) → ∀ (ws1 : va_W) (H : Heap) (locs : List Loc) (ls : Array Slot), Sm (fun k => k = 10 ∨ k = 14 ∨ k = 15) ws ws1 → ws1[10]? = some (d0, .inr (5, [.ref d1, .ref d2, .ref d3, .ref d4, .ref d5, .int (nI mv), .int (nI kp)])) → ws1[14]? = some (d4, .inl (cI, 600, .inl (fun jj => nI ((shU mk mv i) jj)))) → ws1[15]? = some (d5, .inl (cI, 600, .inl (fun jj => nI ((shU mi mv i) jj)))) → va_P D vwCl ws1 H → va_D A ws1 → va_S A s.heap H locs → lv_has ls 5 [(0, .ref d0), (1, .int (nI key)), (2, .int (nI im)), (3, .int (nI cc_)), (4, .int (nI i))] → W p l e ({ frames := 1, cells := 0, slots := 0, locals := 23 }) s m ([.ref d0, .int (nI key), .int (nI im)] : List Value).toArray below meth c H locs 0 0 (ZV D (TY cB cI cJ cO) (fun ws' => ∃ mk2 : Nat → Nat, ∃ mi2 : Nat → Nat, (HdK mk2 mi2 (insK key im K)) ∧ Sm (fun k => k = 10 ∨ k = 14 ∨ k = 15) ws ws' ∧ ws'[10]? = some (d0, .inr (5, [.ref d1, .ref d2, .ref d3, .ref d4, .ref d5, .int (nI ((insK key im K).length)), .int (nI kp)])) ∧ ws'[14]? = some (d4, .inl (cI, 600, .inl (fun jj => nI (mk2 jj)))) ∧ ws'[15]? = some (d5, .inl (cI, 600, .inl (fun jj => nI (mi2 jj))))) below [.ref d0, .int (nI key), .int (nI im)] s 0 0 A) (F0 m 52 ls []) := by
          intro fuel
          induction fuel with
          | zero => intro i hfu; exact absurd hfu (Nat.not_lt_zero _)
          | succ fuel ih_52 =>
            intro i hfu_52 hi ws1 H locs ls sm g10 g14 g15 hP hD hS hl
            refine lv_iload hx hb dX4_move_52 (lv_at hl 4 rfl) ?_
            refine lv_iload_n hx hb dX4_move_54 rfl (lv_at hl 3 rfl) ?_
            refine nx_icmp_le (tgt := 96) hx hb (by omega) (by omega) dX4_move_55 (by decide) (fun c_55 => ?_) (fun c_55 => ?_)
            · refine lv_aload_n hx hb dX4_move_96 rfl (lv_at hl 0 rfl) ?_
              refine va_get (D := D) (ci := 5) (v := .ref d4) (C := RX4) (T := TX4) (N := 7) hx hb hts hin_X4 hown hK hP 10 g10 rfl 3 (by decide) fl_21 (fun _ h9 => h9) rfl dX4_move_97 ?_
              refine lv_iload_n hx hb dX4_move_100 rfl (lv_at hl 3 rfl) ?_
              refine lv_iload_n hx hb dX4_move_101 rfl (lv_at hl 1 rfl) ?_
              refine nx_iastN hx hb hK hP hD hS 14 1 g14 rfl (k := cc_) (by omega) (by decide) dX4_move_102 (fun ws_13 H locs gq up_14 hP hD hS => ?_)
              have g14 : ws_13[14]? = some (d4, .inl (cI, 600, .inl (fun jj => nI ((va_up (shU mk mv i) cc_ key) jj)))) := gq
              have g10 := up_14.get g10 (by decide)
              have g15 := up_14.get g15 (by decide)
              have sm := sm.up up_14 (by simp)
              refine lv_aload_n hx hb dX4_move_103 rfl (lv_at hl 0 rfl) ?_
              refine va_get (D := D) (ci := 5) (v := .ref d5) (C := RX4) (T := TX4) (N := 7) hx hb hts hin_X4 hown hK hP 10 g10 rfl 4 (by decide) fl_24 (fun _ h9 => h9) rfl dX4_move_104 ?_
              refine lv_iload_n hx hb dX4_move_107 rfl (lv_at hl 3 rfl) ?_
              refine lv_iload_n hx hb dX4_move_108 rfl (lv_at hl 2 rfl) ?_
              refine nx_iastN hx hb hK hP hD hS 15 1 g15 rfl (k := cc_) (by omega) (by decide) dX4_move_109 (fun ws_15 H locs gq up_16 hP hD hS => ?_)
              have g15 : ws_15[15]? = some (d5, .inl (cI, 600, .inl (fun jj => nI ((va_up (shU mi mv i) cc_ im) jj)))) := gq
              have g10 := up_16.get g10 (by decide)
              have g14 := up_16.get g14 (by decide)
              have sm := sm.up up_16 (by simp)
              refine lv_aload_n hx hb dX4_move_110 rfl (lv_at hl 0 rfl) ?_
              refine lv_dup hx hb dX4_move_111 rfl ?_
              refine va_get (D := D) (ci := 5) (v := .int (nI mv)) (C := RX4) (T := TX4) (N := 7) hx hb hts hin_X4 hown hK hP 10 g10 rfl 5 (by decide) fl_58 (fun _ h9 => h9) rfl dX4_move_112 ?_
              refine lv_iconst (v := nI 1) hx hb dX4_move_115 (by decide) ?_
              refine nx_iadd hx hb dX4_move_116 ?_
              refine nx_put (D := D) (ci := 5) (v := .int (nI (mv + 1))) (ty := .int) (C := RX4) (T := TX4) (N := 7) hx hb hts hin_X4 tyX4 tyX4_ok nmX4 hown hK hP hD hS 10 g10 rfl 5 (by decide) fl_58 (fun _ h9 => h9) rfl (by decide +kernel) rfl rfl (Nat.le_of_ble_eq_true rfl) dX4_move_117 (fun ws_17 H locs gq up_18 hP hD hS => ?_)
              have g10 : ws_17[10]? = some (d0, .inr (5, [.ref d1, .ref d2, .ref d3, .ref d4, .ref d5, .int (nI (mv + 1)), .int (nI kp)])) := gq
              have g14 := up_18.get g14 (by decide)
              have g15 := up_18.get g15 (by decide)
              have sm := sm.up up_18 (by simp)
              have hins := lb_at (v := im) hKr hLB (fun h9 => by first | (have := h9; omega) | (rw [← (hHK _ h9).1]; exact c_21))
              have hil : (K.take cc_ ++ (key, im) :: K.drop cc_).length = mv + 1 := by rw [← hKl]; simp; omega
              have g10 : ws_17[10]? = some (d0, .inr (5, [.ref d1, .ref d2, .ref d3, .ref d4, .ref d5, .int (nI ((insK key im K).length)), .int (nI kp)])) := by rw [hins, hil]; exact g10
              exact CV.ret C hK hP hD hS (⟨_, _, (by rw [hins]; have h9 := hHK.ins (t := cc_) (key := key) (v := im) (by omega); rw [hKl] at h9; rw [show i = cc_ by omega]; exact h9), sm, g10, g14, g15⟩) hc0 hs0 dX4_move_120
            · refine lv_aload_n hx hb dX4_move_58 rfl (lv_at hl 0 rfl) ?_
              refine va_get (D := D) (ci := 5) (v := .ref d4) (C := RX4) (T := TX4) (N := 7) hx hb hts hin_X4 hown hK hP 10 g10 rfl 3 (by decide) fl_21 (fun _ h9 => h9) rfl dX4_move_59 ?_
              refine lv_iload hx hb dX4_move_62 (lv_at hl 4 rfl) ?_
              refine lv_aload_n hx hb dX4_move_64 rfl (lv_at hl 0 rfl) ?_
              refine va_get (D := D) (ci := 5) (v := .ref d4) (C := RX4) (T := TX4) (N := 7) hx hb hts hin_X4 hown hK hP 10 g10 rfl 3 (by decide) fl_21 (fun _ h9 => h9) rfl dX4_move_65 ?_
              refine lv_iload hx hb dX4_move_68 (lv_at hl 4 rfl) ?_
              refine lv_iconst (v := nI 1) hx hb dX4_move_70 (by decide) ?_
              refine nx_isub hx hb (by omega) dX4_move_71 ?_
              refine nx_iald hx hb hK hP 14 1 g14 rfl (k := (i - 1)) (by omega) (by decide) dX4_move_72 ?_
              refine nx_iastN hx hb hK hP hD hS 14 1 g14 rfl (k := i) (by omega) (by decide) dX4_move_73 (fun ws_19 H locs gq up_20 hP hD hS => ?_)
              have g14 : ws_19[14]? = some (d4, .inl (cI, 600, .inl (fun jj => nI ((va_up (shU mk mv i) i ((shU mk mv i) (i - 1))) jj)))) := gq
              have g10 := up_20.get g10 (by decide)
              have g15 := up_20.get g15 (by decide)
              have sm := sm.up up_20 (by simp)
              refine lv_aload_n hx hb dX4_move_74 rfl (lv_at hl 0 rfl) ?_
              refine va_get (D := D) (ci := 5) (v := .ref d5) (C := RX4) (T := TX4) (N := 7) hx hb hts hin_X4 hown hK hP 10 g10 rfl 4 (by decide) fl_24 (fun _ h9 => h9) rfl dX4_move_75 ?_
              refine lv_iload hx hb dX4_move_78 (lv_at hl 4 rfl) ?_
              refine lv_aload_n hx hb dX4_move_80 rfl (lv_at hl 0 rfl) ?_
              refine va_get (D := D) (ci := 5) (v := .ref d5) (C := RX4) (T := TX4) (N := 7) hx hb hts hin_X4 hown hK hP 10 g10 rfl 4 (by decide) fl_24 (fun _ h9 => h9) rfl dX4_move_81 ?_
              refine lv_iload hx hb dX4_move_84 (lv_at hl 4 rfl) ?_
              refine lv_iconst (v := nI 1) hx hb dX4_move_86 (by decide) ?_
              refine nx_isub hx hb (by omega) dX4_move_87 ?_
              refine nx_iald hx hb hK hP 15 1 g15 rfl (k := (i - 1)) (by omega) (by decide) dX4_move_88 ?_
              refine nx_iastN hx hb hK hP hD hS 15 1 g15 rfl (k := i) (by omega) (by decide) dX4_move_89 (fun ws_21 H locs gq up_22 hP hD hS => ?_)
              have g15 : ws_21[15]? = some (d5, .inl (cI, 600, .inl (fun jj => nI ((va_up (shU mi mv i) i ((shU mi mv i) (i - 1))) jj)))) := gq
              have g10 := up_22.get g10 (by decide)
              have g14 := up_22.get g14 (by decide)
              have sm := sm.up up_22 (by simp)
              refine lv_iinc (v := (nI (i - 1))) (lv' := [(4, .int (nI (i - 1))), (0, .ref d0), (1, .int (nI key)), (2, .int (nI im)), (3, .int (nI cc_))]) hx hb dX4_move_90 hl (k := 4) rfl (nx_dec (n := 1) (by omega)) (by decide) rfl (fun ls hl => ?_)
              refine lv_goto (tgt := 52) hx hb dX4_move_93 (by decide) ?_
              have g14 : ws_21[14]? = some (d4, .inl (cI, 600, .inl (fun jj => nI ((shU mk mv (i - 1)) jj)))) := by have h9 := shU_s (fr := mk) (n := mv) (i := i - 1) (by omega); rw [show i - 1 + 1 = i by omega] at h9; rw [← h9]; exact g14
              have g15 : ws_21[15]? = some (d5, .inl (cI, 600, .inl (fun jj => nI ((shU mi mv (i - 1)) jj)))) := by have h9 := shU_s (fr := mi) (n := mv) (i := i - 1) (by omega); rw [show i - 1 + 1 = i by omega] at h9; rw [← h9]; exact g15
              exact ih_52 (i - 1) (by omega) (by omega) _ _ _ _ sm g10 g14 g15 hP hD hS (lv_sub hl [1, 2, 3, 4, 0] rfl)
        have g14 : ws[14]? = some (d4, .inl (cI, 600, .inl (fun jj => nI ((shU mk mv mv) jj)))) := by rw [shU_n]; exact g14
        have g15 : ws[15]? = some (d5, .inl (cI, 600, .inl (fun jj => nI ((shU mi mv mv) jj)))) := by rw [shU_n]; exact g15
        exact lp_52 _ mv (Nat.lt_succ_self _) (by omega) _ _ _ _ sm g10 g14 g15 hP hD hS (lv_sub hl [2, 3, 4, 1, 0] rfl)
    · refine lv_aload_n hx hb dX4_move_24 rfl (lv_at hl 1 rfl) ?_
      refine va_get (D := D) (ci := 5) (v := .ref d5) (C := RX4) (T := TX4) (N := 7) hx hb hts hin_X4 hown hK hP 10 g10 rfl 4 (by decide) fl_24 (fun _ h9 => h9) rfl dX4_move_25 ?_
      refine lv_iload_n hx hb dX4_move_28 rfl (lv_at hl 0 rfl) ?_
      refine lv_iload_n hx hb dX4_move_29 rfl (lv_at hl 3 rfl) ?_
      refine nx_iastN hx hb hK hP hD hS 15 1 g15 rfl (k := cc_) (by omega) (by decide) dX4_move_30 (fun ws_23 H locs gq up_24 hP hD hS => ?_)
      have g15 : ws_23[15]? = some (d5, .inl (cI, 600, .inl (fun jj => nI ((va_up mi cc_ im) jj)))) := gq
      have g10 := up_24.get g10 (by decide)
      have g14 := up_24.get g14 (by decide)
      have sm := sm.up up_24 (by simp)
      refine lv_goto (tgt := 120) hx hb dX4_move_31 (by decide) ?_
      have hkk : (K[cc_]'(by omega)).1 = key := by rw [← (hHK _ (by omega)).1]; exact c_21
      have hins := lb_hit (v := im) hLB (by omega) hkk
      have g10 : ws_23[10]? = some (d0, .inr (5, [.ref d1, .ref d2, .ref d3, .ref d4, .ref d5, .int (nI ((insK key im K).length)), .int (nI kp)])) := by rw [hins, List.length_set, hKl]; exact g10
      exact CV.ret C hK hP hD hS (⟨_, _, (by rw [hins]; exact hHK.set (by omega) hkk), sm, g10, g14, g15⟩) hc0 hs0 dX4_move_120
