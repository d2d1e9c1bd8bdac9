set_option maxHeartbeats 4000000 in
set_option maxRecDepth 100000 in
theorem c_X0_fillWith {D : va_G} {cB cI cJ cO : ClassId} {l : Launch} {px dx sx x1_ x2_ x3_ x4_ nx zx : Nat} {al : Nat} {fs : Nat → Int64} {fn fa_ : Nat → Nat} {A_ : List Nat} {NN : Nat} {ws : va_W} (gpx : ws[px]? = some (dx, .inr (1, [.int (nI sx), .ref x1_, .ref x2_, .ref x3_, .ref x4_, .int (nI nx), .int (nI zx)]))) (gpx_1 : ws[px + 1]? = some (x1_, .inl (cJ, 94, .inr (.inl fs)))) (gpx_2 : ws[px + 2]? = some (x2_, .inl (cI, 800, .inl (fun jj => nI (fn jj))))) (g32 : ws[32]? = some (al, .inl (cI, 800, .inl (fun jj => nI (fa_ jj))))) (hpx : 32 < px) (hfa : HdN fa_ A_) (hA8 : A_.length ≤ 800) (hA6 : ∀ x ∈ A_, x < 6000) (hNN : NN ≤ 6000) : CV D (TY cB cI cJ cO) l yX0_fillWith wsX0_fillWith ({ frames := 0, cells := 0, slots := 0, locals := 0 }) [.ref dx, .ref al, .int (nI (A_.length)), .int (nI NN)] ws (fun ws' => ∃ fs2 : Nat → Int64, ∃ fn2 : Nat → Nat, (SetB fs2 (fun q => A_.contains q)) ∧ (HdN fn2 (selN A_ NN)) ∧ Sm (fun k => k = px ∨ k = px + 1 ∨ k = px + 2) ws ws' ∧ ws'[px]? = some (dx, .inr (1, [.int (nI sx), .ref x1_, .ref x2_, .ref x3_, .ref x4_, .int (nI nx), .int (nI ((selN A_ NN).length))])) ∧ ws'[px + 1]? = some (x1_, .inl (cJ, 94, .inr (.inl fs2))) ∧ ws'[px + 2]? = some (x2_, .inl (cI, 800, .inl (fun jj => nI (fn2 jj))))) := by
  refine CV.of (cc := cX0_fillWith) (maxL := 5) (ret := none) (by decide) rfl (Nat.le_of_ble_eq_true rfl) ?_
  intro p e s m below meth c A C hK hP hD hA hS ls hl
  obtain ⟨hx, hb, hr, hml, hts, hown, hlocks, hnm⟩ := id C
  have fl_9 := hts (.fieldLink RX0 9 "TwinFinder$Document" "set" "[J") (by decide +kernel)
  have fl_15 := hts (.fieldLink RX0 15 "TwinFinder$Document" "numbers" "[I") (by decide +kernel)
  have fl_29 := hts (.fieldLink RX0 29 "TwinFinder$Document" "size" "I") (by decide +kernel)
  have hin_X0 : ∀ w ∈ u_ws RX0 TX0 7, w ∈ wsX0_fillWith := by decide +kernel
  have hl : lv_has ls 5 [(0, .ref dx), (1, .ref al), (2, .int (nI (A_.length))), (3, .int (nI NN))] := hl
  have sm : Sm (fun k => k = px ∨ k = px + 1 ∨ k = px + 2) ws ws := Sm.rf
  have hc0 : (0 : Nat) ≤ 0 := by decide
  have hs0 : (0 : Nat) ≤ 0 := by decide
  refine lv_iconst (v := nI 0) hx hb dX0_fillWith_0 (by decide) ?_
  refine lv_istore (lv' := [(4, .int (nI 0)), (0, .ref dx), (1, .ref al), (2, .int (nI (A_.length))), (3, .int (nI NN))]) hx hb dX0_fillWith_1 hl (by decide) rfl (fun ls hl => ?_)
  have lp_3 : ∀ (fuel : Nat) (w_ : Nat) (f1 : Nat → Int64), 94 - w_ < fuel → (w_ ≤ 94) → (∀ w, w < w_ → f1 w = lN 0) → ∀ (ws1 : va_W) (H : Heap) (locs : List Loc) (ls : Array Slot), Sm (fun k => k = px ∨ k = px + 1 ∨ k = px + 2) ws ws1 → ws1[px]? = some (dx, .inr (1, [.int (nI sx), .ref x1_, .ref x2_, .ref x3_, .ref x4_, .int (nI nx), .int (nI zx)])) → ws1[px + 1]? = some (x1_, .inl (cJ, 94, .inr (.inl f1))) → ws1[px + 2]? = some (x2_, .inl (cI, 800, .inl (fun jj => nI (fn jj)))) → ws1[32]? = some (al, .inl (cI, 800, .inl (fun jj => nI (fa_ jj)))) → va_P D vwCl ws1 H → va_D A ws1 → va_S A s.heap H locs → lv_has ls 5 [(0, .ref dx), (1, .ref al), (2, .int (nI (A_.length))), (3, .int (nI NN)), (4, .int (nI w_))] → W p l e ({ frames := 0, cells := 0, slots := 0, locals := 0 }) s m ([.ref dx, .ref al, .int (nI (A_.length)), .int (nI NN)] : List Value).toArray below meth c H locs 0 0 (ZV D (TY cB cI cJ cO) (fun ws' => ∃ fs2 : Nat → Int64, ∃ fn2 : Nat → Nat, (SetB fs2 (fun q => A_.contains q)) ∧ (HdN fn2 (selN A_ NN)) ∧ Sm (fun k => k = px ∨ k = px + 1 ∨ k = px + 2) ws ws' ∧ ws'[px]? = some (dx, .inr (1, [.int (nI sx), .ref x1_, .ref x2_, .ref x3_, .ref x4_, .int (nI nx), .int (nI ((selN A_ NN).length))])) ∧ ws'[px + 1]? = some (x1_, .inl (cJ, 94, .inr (.inl fs2))) ∧ ws'[px + 2]? = some (x2_, .inl (cI, 800, .inl (fun jj => nI (fn2 jj))))) below [.ref dx, .ref al, .int (nI (A_.length)), .int (nI NN)] s 0 0 A) (F0 m 3 ls []) := by
    intro fuel
    induction fuel with
    | zero => intro w_ f1 hfu; exact absurd hfu (Nat.not_lt_zero _)
    | succ fuel ih_3 =>
      intro w_ f1 hfu_3 hw hz ws1 H locs ls sm gpx gpx_1 gpx_2 g32 hP hD hS hl
      refine lv_iload hx hb dX0_fillWith_3 (lv_at hl 4 rfl) ?_
      refine lv_bipush (v := nI 94) hx hb dX0_fillWith_5 (by decide) ?_
      refine nx_icmp_ge (tgt := 24) hx hb (by omega) (by omega) dX0_fillWith_7 (by decide) (fun c_7 => ?_) (fun c_7 => ?_)
      · refine lv_iconst (v := nI 0) hx hb dX0_fillWith_24 (by decide) ?_
        refine lv_istore (lv' := [(4, .int (nI 0)), (0, .ref dx), (1, .ref al), (2, .int (nI (A_.length))), (3, .int (nI NN))]) hx hb dX0_fillWith_25 hl (by decide) rfl (fun ls hl => ?_)
        have lp_27 : ∀ (fuel : Nat) (i : Nat) (f2 : Nat → Int64), A_.length - i < fuel → (i ≤ A_.length) → (SetB f2 (fun q => (A_.take i).contains q)) → ∀ (ws1 : va_W) (H : Heap) (locs : List Loc) (ls : Array Slot), Sm (fun k => k = px ∨ k = px + 1 ∨ k = px + 2) ws ws1 → ws1[px]? = some (dx, .inr (1, [.int (nI sx), .ref x1_, .ref x2_, .ref x3_, .ref x4_, .int (nI nx), .int (nI zx)])) → ws1[px + 1]? = some (x1_, .inl (cJ, 94, .inr (.inl f2))) → ws1[px + 2]? = some (x2_, .inl (cI, 800, .inl (fun jj => nI (fn jj)))) → ws1[32]? = some (al, .inl (cI, 800, .inl (fun jj => nI (fa_ jj)))) → va_P D vwCl ws1 H → va_D A ws1 → va_S A s.heap H locs → lv_has ls 5 [(0, .ref dx), (1, .ref al), (2, .int (nI (A_.length))), (3, .int (nI NN)), (4, .int (nI i))] → W p l e ({ frames := 0, cells := 0, slots := 0, locals := 0 }) s m ([.ref dx, .ref al, .int (nI (A_.length)), .int (nI NN)] : List Value).toArray below meth c H locs 0 0 (ZV D (TY cB cI cJ cO) (fun ws' => ∃ fs2 : Nat → Int64, ∃ fn2 : Nat → Nat, (SetB fs2 (fun q => A_.contains q)) ∧ (HdN fn2 (selN A_ NN)) ∧ Sm (fun k => k = px ∨ k = px + 1 ∨ k = px + 2) ws ws' ∧ ws'[px]? = some (dx, .inr (1, [.int (nI sx), .ref x1_, .ref x2_, .ref x3_, .ref x4_, .int (nI nx), .int (nI ((selN A_ NN).length))])) ∧ ws'[px + 1]? = some (x1_, .inl (cJ, 94, .inr (.inl fs2))) ∧ ws'[px + 2]? = some (x2_, .inl (cI, 800, .inl (fun jj => nI (fn2 jj))))) below [.ref dx, .ref al, .int (nI (A_.length)), .int (nI NN)] s 0 0 A) (F0 m 27 ls []) := by
          intro fuel
          induction fuel with
          | zero => intro i f2 hfu; exact absurd hfu (Nat.not_lt_zero _)
          | succ fuel ih_27 =>
            intro i f2 hfu_27 hi hs2 ws1 H locs ls sm gpx gpx_1 gpx_2 g32 hP hD hS hl
            refine lv_iload hx hb dX0_fillWith_27 (lv_at hl 4 rfl) ?_
            refine lv_iload_n hx hb dX0_fillWith_29 rfl (lv_at hl 2 rfl) ?_
            refine nx_icmp_ge (tgt := 63) hx hb (by omega) (by omega) dX0_fillWith_30 (by decide) (fun c_30 => ?_) (fun c_30 => ?_)
            · refine lv_aload_n hx hb dX0_fillWith_63 rfl (lv_at hl 0 rfl) ?_
              refine lv_iconst (v := nI 0) hx hb dX0_fillWith_64 (by decide) ?_
              refine nx_put (D := D) (ci := 1) (v := .int (nI 0)) (ty := .int) (C := RX0) (T := TX0) (N := 7) hx hb hts hin_X0 tyX0 tyX0_ok nmX0 hown hK hP hD hS px gpx rfl 6 (by decide) fl_29 (fun _ h9 => h9) rfl (by decide +kernel) rfl rfl (Nat.le_of_ble_eq_true rfl) dX0_fillWith_65 (fun ws_1 H locs gq up_2 hP hD hS => ?_)
              have gpx : ws_1[px]? = some (dx, .inr (1, [.int (nI sx), .ref x1_, .ref x2_, .ref x3_, .ref x4_, .int (nI nx), .int (nI 0)])) := gq
              have gpx_1 := up_2.get gpx_1 (by omega)
              have gpx_2 := up_2.get gpx_2 (by omega)
              have g32 := up_2.get g32 (by omega)
              have sm := sm.up up_2 (by simp)
              have hs2 : SetB f2 (fun q => A_.contains q) := by have h9 := hs2; rw [List.take_of_length_le (by omega)] at h9; exact h9
              refine lv_iconst (v := nI 0) hx hb dX0_fillWith_68 (by decide) ?_
              refine lv_istore (lv' := [(4, .int (nI 0)), (0, .ref dx), (1, .ref al), (2, .int (nI (A_.length))), (3, .int (nI NN))]) hx hb dX0_fillWith_69 hl (by decide) rfl (fun ls hl => ?_)
              have lp_71 : ∀ (fuel : Nat) (n9 : Nat) (fn1 : Nat → Nat), NN - n9 < fuel → (n9 ≤ NN) → (HdN fn1 (selN A_ n9)) → ∀ (ws1 : va_W) (H : Heap) (locs : List Loc) (ls : Array Slot), Sm (fun k => k = px ∨ k = px + 1 ∨ k = px + 2) ws ws1 → ws1[px]? = some (dx, .inr (1, [.int (nI sx), .ref x1_, .ref x2_, .ref x3_, .ref x4_, .int (nI nx), .int (nI ((selN A_ n9).length))])) → ws1[px + 1]? = some (x1_, .inl (cJ, 94, .inr (.inl f2))) → ws1[px + 2]? = some (x2_, .inl (cI, 800, .inl (fun jj => nI (fn1 jj)))) → ws1[32]? = some (al, .inl (cI, 800, .inl (fun jj => nI (fa_ jj)))) → va_P D vwCl ws1 H → va_D A ws1 → va_S A s.heap H locs → lv_has ls 5 [(0, .ref dx), (1, .ref al), (2, .int (nI (A_.length))), (3, .int (nI NN)), (4, .int (nI n9))] → W p l e ({ frames := 0, cells := 0, slots := 0, locals := 0 }) s m ([.ref dx, .ref al, .int (nI (A_.length)), .int (nI NN)] : List Value).toArray below meth c H locs 0 0 (ZV D (TY cB cI cJ cO) (fun ws' => ∃ fs2 : Nat → Int64, ∃ fn2 : Nat → Nat, (SetB fs2 (fun q => A_.contains q)) ∧ (HdN fn2 (selN A_ NN)) ∧ Sm (fun k => k = px ∨ k = px + 1 ∨ k = px + 2) ws ws' ∧ ws'[px]? = some (dx, .inr (1, [.int (nI sx), .ref x1_, .ref x2_, .ref x3_, .ref x4_, .int (nI nx), .int (nI ((selN A_ NN).length))])) ∧ ws'[px + 1]? = some (x1_, .inl (cJ, 94, .inr (.inl fs2))) ∧ ws'[px + 2]? = some (x2_, .inl (cI, 800, .inl (fun jj => nI (fn2 jj))))) below [.ref dx, .ref al, .int (nI (A_.length)), .int (nI NN)] s 0 0 A) (F0 m 71 ls []) := by
                intro fuel
                induction fuel with
                | zero => intro n9 fn1 hfu; exact absurd hfu (Nat.not_lt_zero _)
                | succ fuel ih_71 =>
                  intro n9 fn1 hfu_71 hn9 hfn1 ws1 H locs ls sm gpx gpx_1 gpx_2 g32 hP hD hS hl
                  refine lv_iload hx hb dX0_fillWith_71 (lv_at hl 4 rfl) ?_
                  refine lv_iload_n hx hb dX0_fillWith_73 rfl (lv_at hl 3 rfl) ?_
                  refine nx_icmp_ge (tgt := 137) hx hb (by omega) (by omega) dX0_fillWith_74 (by decide) (fun c_74 => ?_) (fun c_74 => ?_)
                  · have gpx : ws1[px]? = some (dx, .inr (1, [.int (nI sx), .ref x1_, .ref x2_, .ref x3_, .ref x4_, .int (nI nx), .int (nI ((selN A_ NN).length))])) := by rw [← show n9 = NN by omega]; exact gpx
                    exact CV.ret C hK hP hD hS (⟨_, _, hs2, (by rw [← show n9 = NN by omega]; exact hfn1), sm, gpx, gpx_1, gpx_2⟩) hc0 hs0 dX0_fillWith_137
                  · refine lv_aload_n hx hb dX0_fillWith_77 rfl (lv_at hl 0 rfl) ?_
                    refine va_get (D := D) (ci := 1) (v := .ref x1_) (C := RX0) (T := TX0) (N := 7) hx hb hts hin_X0 hown hK hP px gpx rfl 1 (by decide) fl_9 (fun _ h9 => h9) rfl dX0_fillWith_78 ?_
                    refine lv_iload hx hb dX0_fillWith_81 (lv_at hl 4 rfl) ?_
                    refine lv_bipush (v := nI 6) hx hb dX0_fillWith_83 (by decide) ?_
                    refine lv_ishr hx hb dX0_fillWith_85 ?_
                    rw [nI_shr6 (by omega)]
                    refine nx_lald hx hb hK hP (px + 1) 2 gpx_1 rfl (k := (n9 / 64)) (by omega) (by decide) dX0_fillWith_86 ?_
                    refine lv_iload hx hb dX0_fillWith_87 (lv_at hl 4 rfl) ?_
                    refine lv_bipush (v := nI 63) hx hb dX0_fillWith_89 (by decide) ?_
                    refine lv_iand hx hb dX0_fillWith_91 ?_
                    rw [nI_and63 (by omega)]
                    refine lv_lushr hx hb dX0_fillWith_92 rfl ?_
                    refine lv_lconst (v := lN 1) hx hb dX0_fillWith_93 (by decide) ?_
                    refine lv_land hx hb dX0_fillWith_94 ?_
                    rw [lbit_test _ (by omega)]
                    refine lv_lconst (v := lN 0) hx hb dX0_fillWith_95 (by decide) ?_
                    refine W.lcmp hx hb dX0_fillWith_96 ?_
                    refine lv_if_eq (tgt := 131) hx hb dX0_fillWith_97 (by decide) (fun c_97 => ?_) (fun c_97 => ?_)
                    · have c_97 := lgc_eq_t (Nat.lt_trans (bn2 _) (by decide)) (by decide) c_97
                      refine lv_iinc (v := (nI (n9 + 1))) (lv' := [(4, .int (nI (n9 + 1))), (0, .ref dx), (1, .ref al), (2, .int (nI (A_.length))), (3, .int (nI NN))]) hx hb dX0_fillWith_131 hl (k := 4) rfl (nx_inc _ 1) (by decide) rfl (fun ls hl => ?_)
                      refine lv_goto (tgt := 71) hx hb dX0_fillWith_134 (by decide) ?_
                      have hse : selN A_ (n9 + 1) = selN A_ n9 := by rw [selN_s, if_neg (by rw [← hs2.at (n := n9) (by omega), bool0 c_97]; decide), List.append_nil]
                      have gpx : ws1[px]? = some (dx, .inr (1, [.int (nI sx), .ref x1_, .ref x2_, .ref x3_, .ref x4_, .int (nI nx), .int (nI ((selN A_ (n9 + 1)).length))])) := by rw [hse]; exact gpx
                      exact ih_71 (n9 + 1) fn1 (by omega) (by omega) (by rw [hse]; exact hfn1) _ _ _ _ sm gpx gpx_1 gpx_2 g32 hP hD hS (lv_sub hl [1, 2, 3, 4, 0] rfl)
                    · have c_97 := lgc_eq_f (Nat.lt_trans (bn2 _) (by decide)) (by decide) c_97
                      have hct : A_.contains n9 = true := by rw [← hs2.at (n := n9) (by omega)]; exact bool1 (by omega)
                      have hsl := selN_lt hct
                      refine lv_aload_n hx hb dX0_fillWith_100 rfl (lv_at hl 0 rfl) ?_
                      refine va_get (D := D) (ci := 1) (v := .int (nI ((selN A_ n9).length))) (C := RX0) (T := TX0) (N := 7) hx hb hts hin_X0 hown hK hP px gpx rfl 6 (by decide) fl_29 (fun _ h9 => h9) rfl dX0_fillWith_101 ?_
                      refine lv_sipush (v := nI 800) hx hb dX0_fillWith_104 (by decide) ?_
                      refine nx_icmp_ge (tgt := 131) hx hb (by have := selN_len (A := A_) (n := n9); omega) (by omega) dX0_fillWith_107 (by decide) (fun c_107 => ?_) (fun c_107 => ?_)
                      · omega
                      · refine lv_aload_n hx hb dX0_fillWith_110 rfl (lv_at hl 0 rfl) ?_
                        refine va_get (D := D) (ci := 1) (v := .ref x2_) (C := RX0) (T := TX0) (N := 7) hx hb hts hin_X0 hown hK hP px gpx rfl 2 (by decide) fl_15 (fun _ h9 => h9) rfl dX0_fillWith_111 ?_
                        refine lv_aload_n hx hb dX0_fillWith_114 rfl (lv_at hl 0 rfl) ?_
                        refine va_get (D := D) (ci := 1) (v := .int (nI ((selN A_ n9).length))) (C := RX0) (T := TX0) (N := 7) hx hb hts hin_X0 hown hK hP px gpx rfl 6 (by decide) fl_29 (fun _ h9 => h9) rfl dX0_fillWith_115 ?_
                        refine lv_iload hx hb dX0_fillWith_118 (lv_at hl 4 rfl) ?_
                        refine nx_iastN hx hb hK hP hD hS (px + 2) 1 gpx_2 rfl (k := ((selN A_ n9).length)) (by omega) (by decide) dX0_fillWith_120 (fun ws_3 H locs gq up_4 hP hD hS => ?_)
                        have gpx_2 : ws_3[px + 2]? = some (x2_, .inl (cI, 800, .inl (fun jj => nI ((va_up fn1 ((selN A_ n9).length) n9) jj)))) := gq
                        have gpx := up_4.get gpx (by omega)
                        have gpx_1 := up_4.get gpx_1 (by omega)
                        have g32 := up_4.get g32 (by omega)
                        have sm := sm.up up_4 (by simp)
                        refine lv_aload_n hx hb dX0_fillWith_121 rfl (lv_at hl 0 rfl) ?_
                        refine lv_dup hx hb dX0_fillWith_122 rfl ?_
                        refine va_get (D := D) (ci := 1) (v := .int (nI ((selN A_ n9).length))) (C := RX0) (T := TX0) (N := 7) hx hb hts hin_X0 hown hK hP px gpx rfl 6 (by decide) fl_29 (fun _ h9 => h9) rfl dX0_fillWith_123 ?_
                        refine lv_iconst (v := nI 1) hx hb dX0_fillWith_126 (by decide) ?_
                        refine nx_iadd hx hb dX0_fillWith_127 ?_
                        refine nx_put (D := D) (ci := 1) (v := .int (nI (((selN A_ n9).length) + 1))) (ty := .int) (C := RX0) (T := TX0) (N := 7) hx hb hts hin_X0 tyX0 tyX0_ok nmX0 hown hK hP hD hS px gpx rfl 6 (by decide) fl_29 (fun _ h9 => h9) rfl (by decide +kernel) rfl rfl (Nat.le_of_ble_eq_true rfl) dX0_fillWith_128 (fun ws_5 H locs gq up_6 hP hD hS => ?_)
                        have gpx : ws_5[px]? = some (dx, .inr (1, [.int (nI sx), .ref x1_, .ref x2_, .ref x3_, .ref x4_, .int (nI nx), .int (nI (((selN A_ n9).length) + 1))])) := gq
                        have gpx_1 := up_6.get gpx_1 (by omega)
                        have gpx_2 := up_6.get gpx_2 (by omega)
                        have g32 := up_6.get g32 (by omega)
                        have sm := sm.up up_6 (by simp)
                        refine lv_iinc (v := (nI (n9 + 1))) (lv' := [(4, .int (nI (n9 + 1))), (0, .ref dx), (1, .ref al), (2, .int (nI (A_.length))), (3, .int (nI NN))]) hx hb dX0_fillWith_131 hl (k := 4) rfl (nx_inc _ 1) (by decide) rfl (fun ls hl => ?_)
                        refine lv_goto (tgt := 71) hx hb dX0_fillWith_134 (by decide) ?_
                        have hse : selN A_ (n9 + 1) = selN A_ n9 ++ [n9] := by rw [selN_s, if_pos hct]
                        have gpx : ws_5[px]? = some (dx, .inr (1, [.int (nI sx), .ref x1_, .ref x2_, .ref x3_, .ref x4_, .int (nI nx), .int (nI ((selN A_ (n9 + 1)).length))])) := by rw [hse, List.length_append]; exact gpx
                        exact ih_71 (n9 + 1) _ (by omega) (by omega) (by rw [hse]; exact hfn1.upd) _ _ _ _ sm gpx gpx_1 gpx_2 g32 hP hD hS (lv_sub hl [1, 2, 3, 4, 0] rfl)
              exact lp_71 _ 0 fn (Nat.lt_succ_self _) (Nat.zero_le _) HdN.nil _ _ _ _ sm gpx gpx_1 gpx_2 g32 hP hD hS (lv_sub hl [1, 2, 3, 4, 0] rfl)
            · have hai : fa_ i = A_[i] := hfa.at (by omega)
              have hab : fa_ i < 6000 := by rw [hai]; exact hA6 _ (List.getElem_mem _)
              refine lv_aload_n hx hb dX0_fillWith_33 rfl (lv_at hl 0 rfl) ?_
              refine va_get (D := D) (ci := 1) (v := .ref x1_) (C := RX0) (T := TX0) (N := 7) hx hb hts hin_X0 hown hK hP px gpx rfl 1 (by decide) fl_9 (fun _ h9 => h9) rfl dX0_fillWith_34 ?_
              refine lv_aload_n hx hb dX0_fillWith_37 rfl (lv_at hl 1 rfl) ?_
              refine lv_iload hx hb dX0_fillWith_38 (lv_at hl 4 rfl) ?_
              refine nx_iald hx hb hK hP 32 1 g32 rfl (k := i) (by omega) (by decide) dX0_fillWith_40 ?_
              refine lv_bipush (v := nI 6) hx hb dX0_fillWith_41 (by decide) ?_
              refine lv_ishr hx hb dX0_fillWith_43 ?_
              rw [nI_shr6 (by omega)]
              refine lv_dup2_11 hx hb dX0_fillWith_44 rfl rfl ?_
              refine nx_lald hx hb hK hP (px + 1) 2 gpx_1 rfl (k := (fa_ i / 64)) (by omega) (by decide) dX0_fillWith_45 ?_
              refine lv_lconst (v := lN 1) hx hb dX0_fillWith_46 (by decide) ?_
              refine lv_aload_n hx hb dX0_fillWith_47 rfl (lv_at hl 1 rfl) ?_
              refine lv_iload hx hb dX0_fillWith_48 (lv_at hl 4 rfl) ?_
              refine nx_iald hx hb hK hP 32 1 g32 rfl (k := i) (by omega) (by decide) dX0_fillWith_50 ?_
              refine lv_bipush (v := nI 63) hx hb dX0_fillWith_51 (by decide) ?_
              refine lv_iand hx hb dX0_fillWith_53 ?_
              rw [nI_and63 (by omega)]
              refine lv_lshl hx hb dX0_fillWith_54 rfl ?_
              refine lv_lor hx hb dX0_fillWith_55 ?_
              refine nx_last hx hb hK hP hD hS (px + 1) 2 gpx_1 rfl (k := (fa_ i / 64)) (by omega) (by decide) dX0_fillWith_56 (fun ws_7 H locs gq up_8 hP hD hS => ?_)
              have gpx_1 : ws_7[px + 1]? = some (x1_, .inl (cJ, 94, .inr (.inl (vp_updL f2 (fa_ i / 64) ((f2 (fa_ i / 64)) ||| ((lN 1) <<< ((nI (fa_ i % 64)).toInt64 &&& 63))))))) := gq
              have gpx := up_8.get gpx (by omega)
              have gpx_2 := up_8.get gpx_2 (by omega)
              have g32 := up_8.get g32 (by omega)
              have sm := sm.up up_8 (by simp)
              refine lv_iinc (v := (nI (i + 1))) (lv' := [(4, .int (nI (i + 1))), (0, .ref dx), (1, .ref al), (2, .int (nI (A_.length))), (3, .int (nI NN))]) hx hb dX0_fillWith_57 hl (k := 4) rfl (nx_inc _ 1) (by decide) rfl (fun ls hl => ?_)
              refine lv_goto (tgt := 27) hx hb dX0_fillWith_60 (by decide) ?_
              exact ih_27 (i + 1) _ (by omega) (by omega) (hs2.put (a := fa_ i) (by omega) (fun q => by rw [hai]; exact cont_take (by omega))) _ _ _ _ sm gpx gpx_1 gpx_2 g32 hP hD hS (lv_sub hl [1, 2, 3, 4, 0] rfl)
        exact lp_27 _ 0 _ (Nat.lt_succ_self _) (Nat.zero_le _) (fun w hw9 i hi => by rw [hz w (by omega)]; exact lbit_0 i) _ _ _ _ sm gpx gpx_1 gpx_2 g32 hP hD hS (lv_sub hl [1, 2, 3, 4, 0] rfl)
      · refine lv_aload_n hx hb dX0_fillWith_10 rfl (lv_at hl 0 rfl) ?_
        refine va_get (D := D) (ci := 1) (v := .ref x1_) (C := RX0) (T := TX0) (N := 7) hx hb hts hin_X0 hown hK hP px gpx rfl 1 (by decide) fl_9 (fun _ h9 => h9) rfl dX0_fillWith_11 ?_
        refine lv_iload hx hb dX0_fillWith_14 (lv_at hl 4 rfl) ?_
        refine lv_lconst (v := lN 0) hx hb dX0_fillWith_16 (by decide) ?_
        refine nx_last hx hb hK hP hD hS (px + 1) 2 gpx_1 rfl (k := w_) (by omega) (by decide) dX0_fillWith_17 (fun ws_9 H locs gq up_10 hP hD hS => ?_)
        have gpx_1 : ws_9[px + 1]? = some (x1_, .inl (cJ, 94, .inr (.inl (vp_updL f1 w_ (lN 0))))) := gq
        have gpx := up_10.get gpx (by omega)
        have gpx_2 := up_10.get gpx_2 (by omega)
        have g32 := up_10.get g32 (by omega)
        have sm := sm.up up_10 (by simp)
        refine lv_iinc (v := (nI (w_ + 1))) (lv' := [(4, .int (nI (w_ + 1))), (0, .ref dx), (1, .ref al), (2, .int (nI (A_.length))), (3, .int (nI NN))]) hx hb dX0_fillWith_18 hl (k := 4) rfl (nx_inc _ 1) (by decide) rfl (fun ls hl => ?_)
        refine lv_goto (tgt := 3) hx hb dX0_fillWith_21 (by decide) ?_
        exact ih_3 (w_ + 1) _ (by omega) (by omega) (lt_s (fun w hw9 => by simp only [vp_updL]; rw [if_neg (by omega)]; exact hz w hw9) (by simp [vp_updL])) _ _ _ _ sm gpx gpx_1 gpx_2 g32 hP hD hS (lv_sub hl [1, 2, 3, 4, 0] rfl)
  exact lp_3 _ 0 fs (Nat.lt_succ_self _) (Nat.zero_le _) (fun w hw => absurd hw (Nat.not_lt_zero w)) _ _ _ _ sm gpx gpx_1 gpx_2 g32 hP hD hS (lv_sub hl [1, 2, 3, 4, 0] rfl)
