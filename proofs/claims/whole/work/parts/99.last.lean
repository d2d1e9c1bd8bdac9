set_option maxHeartbeats 4000000 in
set_option maxRecDepth 100000 in
theorem c_X9_sign {D : va_G} {cB cI cJ cO : ClassId} {l : Launch} {m0 b1 b2 b5 b6 b7 b12 b14 b15 b16 b20 b21 b22 b23 b24 b26 b31 th len ps nm bt_ so wi fm dn ca sta xn bb rr pp qq : Nat} {ta tb gw go gt gn gm gs gl : Nat → Nat} {E : List (Nat × Nat × Nat)} {docs : List (Nat × List Nat)} {ws : va_W} (g33 : ws[33]? = some (m0, .inr (10, [.int (nI th), .ref b1, .ref b2, .int (nI len), .int (nI ps), .ref b5, .ref b6, .ref b7, .int (nI nm), .int (nI bt_), .int (nI so), .int (nI wi), .ref b12, .int (nI fm), .ref b14, .ref b15, .ref b16, .int (nI dn), .int (nI ca), .int (nI sta), .ref b20, .ref b21, .ref b22, .ref b23, .ref b24, .int (nI xn), .ref b26, .int (nI bb), .int (nI rr), .int (nI pp), .int (nI qq), .ref b31]))) (g41 : ws[41]? = some (b15, .inl (cI, 48, .inl (fun jj => nI (gm jj))))) (g42 : ws[42]? = some (b16, .inl (cI, 38400, .inl (fun jj => nI (gs jj))))) (g43 : ws[43]? = some (b20, .inl (cI, 64, .inl (fun jj => nI (ta jj))))) (g44 : ws[44]? = some (b21, .inl (cI, 64, .inl (fun jj => nI (tb jj))))) (g45 : ws[45]? = some (b22, .inl (cI, 300, .inl (fun jj => nI (gw jj))))) (g46 : ws[46]? = some (b23, .inl (cI, 300, .inl (fun jj => nI (go jj))))) (g47 : ws[47]? = some (b24, .inl (cI, 300, .inl (fun jj => nI (gt jj))))) (g48 : ws[48]? = some (b26, .inl (cI, 3072, .inl (fun jj => nI (gl jj))))) (hE : HdE gw go gt E) (hx9 : E.length = xn) (h300 : xn ≤ 300) (hsm : Esm E) (hta : Tab ta tb) (hdd : HdD gn gm gs docs) (hdn : docs.length = dn) (h48 : dn ≤ 48) (hds : Dsm docs) (hsta : sta ≤ 1) (hlo : sta = 0 → LeastOK gl ta tb E docs) : CV D (TY cB cI cJ cO) l yX9_sign wsX9_sign ({ frames := 1, cells := 0, slots := 0, locals := 24 }) [.ref m0] ws (fun ws' => ∃ gl2 : Nat → Nat, LeastOK gl2 ta tb E docs ∧ Sm (fun k => k = 33 ∨ k = 48) ws ws' ∧ ws'[33]? = some (m0, .inr (10, [.int (nI th), .ref b1, .ref b2, .int (nI len), .int (nI ps), .ref b5, .ref b6, .ref b7, .int (nI nm), .int (nI bt_), .int (nI so), .int (nI wi), .ref b12, .int (nI fm), .ref b14, .ref b15, .ref b16, .int (nI dn), .int (nI ca), .int (nI 0), .ref b20, .ref b21, .ref b22, .ref b23, .ref b24, .int (nI xn), .ref b26, .int (nI bb), .int (nI rr), .int (nI pp), .int (nI qq), .ref b31])) ∧ ws'[48]? = some (b26, .inl (cI, 3072, .inl (fun jj => nI (gl2 jj))))) := by
  refine CV.of (cc := cX9_sign) (maxL := 8) (ret := none) (by decide) rfl (Nat.le_of_ble_eq_true rfl) ?_
  intro p e s m below meth c A C hK hP hD hA hS ls hl
  obtain ⟨hx, hb, hr, hml, hts, hown, hlocks, hnm⟩ := id C
  have fl_65 := hts (.fieldLink RX9 65 "TwinFinderModel" "documents" "I") (by decide +kernel)
  have fl_75 := hts (.fieldLink RX9 75 "TwinFinderModel" "set" "[I") (by decide +kernel)
  have fl_78 := hts (.fieldLink RX9 78 "TwinFinderModel" "many" "[I") (by decide +kernel)
  have fl_84 := hts (.fieldLink RX9 84 "TwinFinderModel" "stale" "Z") (by decide +kernel)
  have fl_103 := hts (.fieldLink RX9 103 "TwinFinderModel" "times" "[I") (by decide +kernel)
  have fl_106 := hts (.fieldLink RX9 106 "TwinFinderModel" "more" "[I") (by decide +kernel)
  have fl_109 := hts (.fieldLink RX9 109 "TwinFinderModel" "whose" "[I") (by decide +kernel)
  have fl_118 := hts (.fieldLink RX9 118 "TwinFinderModel" "least" "[I") (by decide +kernel)
  have fl_141 := hts (.fieldLink RX9 141 "TwinFinderModel" "exchanges" "I") (by decide +kernel)
  have hin_X9 : ∀ w ∈ u_ws RX9 TX9 32, w ∈ wsX9_sign := by decide +kernel
  have hl : lv_has ls 8 [(0, .ref m0)] := hl
  have sm : Sm (fun k => k = 33 ∨ k = 48) ws ws := Sm.rf
  have hc0 : (0 : Nat) ≤ 0 := by decide
  have hs0 : (0 : Nat) ≤ 0 := by decide
  refine lv_aload_n hx hb dX9_sign_0 rfl (lv_at hl 0 rfl) ?_
  refine va_get (D := D) (ci := 10) (v := .int (nI sta)) (C := RX9) (T := TX9) (N := 32) hx hb hts hin_X9 hown hK hP 33 g33 rfl 19 (by decide) fl_84 (fun _ h9 => h9) rfl dX9_sign_1 ?_
  refine nx_if_ne (tgt := 8) hx hb (by omega) dX9_sign_4 (by decide) (fun c_4 => ?_) (fun c_4 => ?_)
  · refine lv_aload_n hx hb dX9_sign_8 rfl (lv_at hl 0 rfl) ?_
    refine lv_iconst (v := nI 0) hx hb dX9_sign_9 (by decide) ?_
    refine nx_put (D := D) (ci := 10) (v := .int (nI 0)) (ty := .boolean) (C := RX9) (T := TX9) (N := 32) hx hb hts hin_X9 tyX9 tyX9_ok nmX9 hown hK hP hD hS 33 g33 rfl 19 (by decide) fl_84 (fun _ h9 => h9) rfl (by decide +kernel) (by decide) (by decide) (Nat.le_of_ble_eq_true rfl) dX9_sign_10 (fun ws_1 H locs gq up_2 hP hD hS => ?_)
    have g33 : ws_1[33]? = some (m0, .inr (10, [.int (nI th), .ref b1, .ref b2, .int (nI len), .int (nI ps), .ref b5, .ref b6, .ref b7, .int (nI nm), .int (nI bt_), .int (nI so), .int (nI wi), .ref b12, .int (nI fm), .ref b14, .ref b15, .ref b16, .int (nI dn), .int (nI ca), .int (nI 0), .ref b20, .ref b21, .ref b22, .ref b23, .ref b24, .int (nI xn), .ref b26, .int (nI bb), .int (nI rr), .int (nI pp), .int (nI qq), .ref b31])) := gq
    have g41 := up_2.get g41 (by decide)
    have g42 := up_2.get g42 (by decide)
    have g43 := up_2.get g43 (by decide)
    have g44 := up_2.get g44 (by decide)
    have g45 := up_2.get g45 (by decide)
    have g46 := up_2.get g46 (by decide)
    have g47 := up_2.get g47 (by decide)
    have g48 := up_2.get g48 (by decide)
    have sm := sm.up up_2 (by simp)
    refine lv_iconst (v := nI 0) hx hb dX9_sign_13 (by decide) ?_
    refine lv_istore_n (lv' := [(1, .int (nI 0)), (0, .ref m0)]) hx hb dX9_sign_14 rfl hl (by decide) rfl (fun ls hl => ?_)
    have lp_15 : ∀ (fuel : Nat) (j : Nat) (gl2 : Nat → Nat), 64 - j < fuel → (j ≤ 64) → (LPr gl2 ta tb E docs j 0) → ∀ (ws1 : va_W) (H : Heap) (locs : List Loc) (ls : Array Slot), Sm (fun k => k = 33 ∨ k = 48) ws ws1 → ws1[33]? = some (m0, .inr (10, [.int (nI th), .ref b1, .ref b2, .int (nI len), .int (nI ps), .ref b5, .ref b6, .ref b7, .int (nI nm), .int (nI bt_), .int (nI so), .int (nI wi), .ref b12, .int (nI fm), .ref b14, .ref b15, .ref b16, .int (nI dn), .int (nI ca), .int (nI 0), .ref b20, .ref b21, .ref b22, .ref b23, .ref b24, .int (nI xn), .ref b26, .int (nI bb), .int (nI rr), .int (nI pp), .int (nI qq), .ref b31])) → ws1[41]? = some (b15, .inl (cI, 48, .inl (fun jj => nI (gm jj)))) → ws1[42]? = some (b16, .inl (cI, 38400, .inl (fun jj => nI (gs jj)))) → ws1[43]? = some (b20, .inl (cI, 64, .inl (fun jj => nI (ta jj)))) → ws1[44]? = some (b21, .inl (cI, 64, .inl (fun jj => nI (tb jj)))) → ws1[45]? = some (b22, .inl (cI, 300, .inl (fun jj => nI (gw jj)))) → ws1[46]? = some (b23, .inl (cI, 300, .inl (fun jj => nI (go jj)))) → ws1[47]? = some (b24, .inl (cI, 300, .inl (fun jj => nI (gt jj)))) → ws1[48]? = some (b26, .inl (cI, 3072, .inl (fun jj => nI (gl2 jj)))) → va_P D vwCl ws1 H → va_D A ws1 → va_S A s.heap H locs → lv_has ls 8 [(0, .ref m0), (1, .int (nI j))] → W p l e ({ frames := 1, cells := 0, slots := 0, locals := 24 }) s m ([.ref m0] : List Value).toArray below meth c H locs 0 0 (ZV D (TY cB cI cJ cO) (fun ws' => ∃ gl2 : Nat → Nat, LeastOK gl2 ta tb E docs ∧ Sm (fun k => k = 33 ∨ k = 48) ws ws' ∧ ws'[33]? = some (m0, .inr (10, [.int (nI th), .ref b1, .ref b2, .int (nI len), .int (nI ps), .ref b5, .ref b6, .ref b7, .int (nI nm), .int (nI bt_), .int (nI so), .int (nI wi), .ref b12, .int (nI fm), .ref b14, .ref b15, .ref b16, .int (nI dn), .int (nI ca), .int (nI 0), .ref b20, .ref b21, .ref b22, .ref b23, .ref b24, .int (nI xn), .ref b26, .int (nI bb), .int (nI rr), .int (nI pp), .int (nI qq), .ref b31])) ∧ ws'[48]? = some (b26, .inl (cI, 3072, .inl (fun jj => nI (gl2 jj))))) below [.ref m0] s 0 0 A) (F0 m 15 ls []) := by
      intro fuel
      induction fuel with
      | zero => intro j gl2 hfu; exact absurd hfu (Nat.not_lt_zero _)
      | succ fuel ih_15 =>
        intro j gl2 hfu_15 hj hLP ws1 H locs ls sm g33 g41 g42 g43 g44 g45 g46 g47 g48 hP hD hS hl
        refine lv_iload_n hx hb dX9_sign_15 rfl (lv_at hl 1 rfl) ?_
        refine lv_bipush (v := nI 64) hx hb dX9_sign_16 (by decide) ?_
        refine nx_icmp_ge (tgt := 189) hx hb (by omega) (by omega) dX9_sign_18 (by decide) (fun c_18 => ?_) (fun c_18 => ?_)
        · exact CV.ret C hK hP hD hS (⟨gl2, (hLP.done (by omega)), sm, g33, g48⟩) hc0 hs0 dX9_sign_189
        · refine lv_iconst (v := nI 0) hx hb dX9_sign_21 (by decide) ?_
          refine lv_istore_n (lv' := [(2, .int (nI 0)), (0, .ref m0), (1, .int (nI j))]) hx hb dX9_sign_22 rfl hl (by decide) rfl (fun ls hl => ?_)
          refine lv_iconst (v := nI 0) hx hb dX9_sign_23 (by decide) ?_
          refine lv_istore_n (lv' := [(3, .int (nI 0)), (2, .int (nI 0)), (0, .ref m0), (1, .int (nI j))]) hx hb dX9_sign_24 rfl hl (by decide) rfl (fun ls hl => ?_)
          have lp_25 : ∀ (fuel : Nat) (k : Nat) (b : Bool), xn - k < fuel → (k ≤ xn) → (b = (E.take k).any (fun e => e.1 == j)) → ∀ (ws1 : va_W) (H : Heap) (locs : List Loc) (ls : Array Slot), Sm (fun k => k = 33 ∨ k = 48) ws ws1 → ws1[33]? = some (m0, .inr (10, [.int (nI th), .ref b1, .ref b2, .int (nI len), .int (nI ps), .ref b5, .ref b6, .ref b7, .int (nI nm), .int (nI bt_), .int (nI so), .int (nI wi), .ref b12, .int (nI fm), .ref b14, .ref b15, .ref b16, .int (nI dn), .int (nI ca), .int (nI 0), .ref b20, .ref b21, .ref b22, .ref b23, .ref b24, .int (nI xn), .ref b26, .int (nI bb), .int (nI rr), .int (nI pp), .int (nI qq), .ref b31])) → ws1[41]? = some (b15, .inl (cI, 48, .inl (fun jj => nI (gm jj)))) → ws1[42]? = some (b16, .inl (cI, 38400, .inl (fun jj => nI (gs jj)))) → ws1[43]? = some (b20, .inl (cI, 64, .inl (fun jj => nI (ta jj)))) → ws1[44]? = some (b21, .inl (cI, 64, .inl (fun jj => nI (tb jj)))) → ws1[45]? = some (b22, .inl (cI, 300, .inl (fun jj => nI (gw jj)))) → ws1[46]? = some (b23, .inl (cI, 300, .inl (fun jj => nI (go jj)))) → ws1[47]? = some (b24, .inl (cI, 300, .inl (fun jj => nI (gt jj)))) → ws1[48]? = some (b26, .inl (cI, 3072, .inl (fun jj => nI (gl2 jj)))) → va_P D vwCl ws1 H → va_D A ws1 → va_S A s.heap H locs → lv_has ls 8 [(0, .ref m0), (1, .int (nI j)), (2, .int (nI (b.toNat))), (3, .int (nI k))] → W p l e ({ frames := 1, cells := 0, slots := 0, locals := 24 }) s m ([.ref m0] : List Value).toArray below meth c H locs 0 0 (ZV D (TY cB cI cJ cO) (fun ws' => ∃ gl2 : Nat → Nat, LeastOK gl2 ta tb E docs ∧ Sm (fun k => k = 33 ∨ k = 48) ws ws' ∧ ws'[33]? = some (m0, .inr (10, [.int (nI th), .ref b1, .ref b2, .int (nI len), .int (nI ps), .ref b5, .ref b6, .ref b7, .int (nI nm), .int (nI bt_), .int (nI so), .int (nI wi), .ref b12, .int (nI fm), .ref b14, .ref b15, .ref b16, .int (nI dn), .int (nI ca), .int (nI 0), .ref b20, .ref b21, .ref b22, .ref b23, .ref b24, .int (nI xn), .ref b26, .int (nI bb), .int (nI rr), .int (nI pp), .int (nI qq), .ref b31])) ∧ ws'[48]? = some (b26, .inl (cI, 3072, .inl (fun jj => nI (gl2 jj))))) below [.ref m0] s 0 0 A) (F0 m 25 ls []) := by
            intro fuel
            induction fuel with
            | zero => intro k b hfu; exact absurd hfu (Nat.not_lt_zero _)
            | succ fuel ih_25 =>
              intro k b hfu_25 hk hb9 ws1 H locs ls sm g33 g41 g42 g43 g44 g45 g46 g47 g48 hP hD hS hl
              refine lv_iload_n hx hb dX9_sign_25 rfl (lv_at hl 3 rfl) ?_
              refine lv_aload_n hx hb dX9_sign_26 rfl (lv_at hl 0 rfl) ?_
              refine va_get (D := D) (ci := 10) (v := .int (nI xn)) (C := RX9) (T := TX9) (N := 32) hx hb hts hin_X9 hown hK hP 33 g33 rfl 25 (by decide) fl_141 (fun _ h9 => h9) rfl dX9_sign_27 ?_
              refine nx_icmp_ge (tgt := 59) hx hb (by omega) (by omega) dX9_sign_30 (by decide) (fun c_30 => ?_) (fun c_30 => ?_)
              · refine lv_iconst (v := nI 0) hx hb dX9_sign_59 (by decide) ?_
                refine lv_istore_n (lv' := [(3, .int (nI 0)), (0, .ref m0), (1, .int (nI j)), (2, .int (nI (b.toNat)))]) hx hb dX9_sign_60 rfl hl (by decide) rfl (fun ls hl => ?_)
                have lp_61 : ∀ (fuel : Nat) (u : Nat) (gl3 : Nat → Nat), dn - u < fuel → (u ≤ dn) → (LPr gl3 ta tb E docs j u) → ∀ (ws1 : va_W) (H : Heap) (locs : List Loc) (ls : Array Slot), Sm (fun k => k = 33 ∨ k = 48) ws ws1 → ws1[33]? = some (m0, .inr (10, [.int (nI th), .ref b1, .ref b2, .int (nI len), .int (nI ps), .ref b5, .ref b6, .ref b7, .int (nI nm), .int (nI bt_), .int (nI so), .int (nI wi), .ref b12, .int (nI fm), .ref b14, .ref b15, .ref b16, .int (nI dn), .int (nI ca), .int (nI 0), .ref b20, .ref b21, .ref b22, .ref b23, .ref b24, .int (nI xn), .ref b26, .int (nI bb), .int (nI rr), .int (nI pp), .int (nI qq), .ref b31])) → ws1[41]? = some (b15, .inl (cI, 48, .inl (fun jj => nI (gm jj)))) → ws1[42]? = some (b16, .inl (cI, 38400, .inl (fun jj => nI (gs jj)))) → ws1[43]? = some (b20, .inl (cI, 64, .inl (fun jj => nI (ta jj)))) → ws1[44]? = some (b21, .inl (cI, 64, .inl (fun jj => nI (tb jj)))) → ws1[45]? = some (b22, .inl (cI, 300, .inl (fun jj => nI (gw jj)))) → ws1[46]? = some (b23, .inl (cI, 300, .inl (fun jj => nI (go jj)))) → ws1[47]? = some (b24, .inl (cI, 300, .inl (fun jj => nI (gt jj)))) → ws1[48]? = some (b26, .inl (cI, 3072, .inl (fun jj => nI (gl3 jj)))) → va_P D vwCl ws1 H → va_D A ws1 → va_S A s.heap H locs → lv_has ls 8 [(0, .ref m0), (1, .int (nI j)), (2, .int (nI (b.toNat))), (3, .int (nI u))] → W p l e ({ frames := 1, cells := 0, slots := 0, locals := 24 }) s m ([.ref m0] : List Value).toArray below meth c H locs 0 0 (ZV D (TY cB cI cJ cO) (fun ws' => ∃ gl2 : Nat → Nat, LeastOK gl2 ta tb E docs ∧ Sm (fun k => k = 33 ∨ k = 48) ws ws' ∧ ws'[33]? = some (m0, .inr (10, [.int (nI th), .ref b1, .ref b2, .int (nI len), .int (nI ps), .ref b5, .ref b6, .ref b7, .int (nI nm), .int (nI bt_), .int (nI so), .int (nI wi), .ref b12, .int (nI fm), .ref b14, .ref b15, .ref b16, .int (nI dn), .int (nI ca), .int (nI 0), .ref b20, .ref b21, .ref b22, .ref b23, .ref b24, .int (nI xn), .ref b26, .int (nI bb), .int (nI rr), .int (nI pp), .int (nI qq), .ref b31])) ∧ ws'[48]? = some (b26, .inl (cI, 3072, .inl (fun jj => nI (gl2 jj))))) below [.ref m0] s 0 0 A) (F0 m 61 ls []) := by
                  intro fuel
                  induction fuel with
                  | zero => intro u gl3 hfu; exact absurd hfu (Nat.not_lt_zero _)
                  | succ fuel ih_61 =>
                    intro u gl3 hfu_61 hu hLP3 ws1 H locs ls sm g33 g41 g42 g43 g44 g45 g46 g47 g48 hP hD hS hl
                    refine lv_iload_n hx hb dX9_sign_61 rfl (lv_at hl 3 rfl) ?_
                    refine lv_aload_n hx hb dX9_sign_62 rfl (lv_at hl 0 rfl) ?_
                    refine va_get (D := D) (ci := 10) (v := .int (nI dn)) (C := RX9) (T := TX9) (N := 32) hx hb hts hin_X9 hown hK hP 33 g33 rfl 17 (by decide) fl_65 (fun _ h9 => h9) rfl dX9_sign_63 ?_
                    refine nx_icmp_ge (tgt := 183) hx hb (by omega) (by omega) dX9_sign_66 (by decide) (fun c_66 => ?_) (fun c_66 => ?_)
                    · refine lv_iinc (v := (nI (j + 1))) (lv' := [(1, .int (nI (j + 1))), (0, .ref m0), (2, .int (nI (b.toNat))), (3, .int (nI u))]) hx hb dX9_sign_183 hl (k := 1) rfl (nx_inc _ 1) (by decide) rfl (fun ls hl => ?_)
                      refine lv_goto (tgt := 15) hx hb dX9_sign_186 (by decide) ?_
                      exact ih_15 (j + 1) gl3 (by omega) (by omega) (hLP3.next (by omega)) _ _ _ _ sm g33 g41 g42 g43 g44 g45 g46 g47 g48 hP hD hS (lv_sub hl [1, 0] rfl)
                    · have hul : gm u = docs[u].2.length := (hdd u (by omega)).2.1
                      have hus := hds docs[u] (List.getElem_mem _)
                      have hus2 : ∀ q (hq : q < docs[u].2.length), gs (800 * u + q) = docs[u].2[q] := fun q hq => (hdd u (by omega)).2.2 q hq
                      have hus3 : ∀ q (hq : q < docs[u].2.length), gs (800 * u + q) < 6000 := fun q hq => by rw [hus2 q hq]; exact hus.2.2.2 _ (List.getElem_mem _)
                      have hta2 := hta j (by omega)
                      refine lv_ldc (v := nI 65521) hx hb hown (hts (.constant RX9 149 65521) (by decide +kernel)) dX9_sign_69 ?_
                      refine lv_istore (lv' := [(4, .int (nI 65521)), (0, .ref m0), (1, .int (nI j)), (2, .int (nI (b.toNat))), (3, .int (nI u))]) hx hb dX9_sign_71 hl (by decide) rfl (fun ls hl => ?_)
                      refine lv_iconst (v := nI 0) hx hb dX9_sign_73 (by decide) ?_
                      refine lv_istore (lv' := [(5, .int (nI 0)), (4, .int (nI 65521)), (0, .ref m0), (1, .int (nI j)), (2, .int (nI (b.toNat))), (3, .int (nI u))]) hx hb dX9_sign_74 hl (by decide) rfl (fun ls hl => ?_)
                      have lp_76 : ∀ (fuel : Nat) (q v : Nat), docs[u].2.length - q < fuel → (q ≤ docs[u].2.length) → (v = sgOf ta tb E (docs[u].2.take q) j) → (v ≤ 65521) → ∀ (ws1 : va_W) (H : Heap) (locs : List Loc) (ls : Array Slot), Sm (fun k => k = 33 ∨ k = 48) ws ws1 → ws1[33]? = some (m0, .inr (10, [.int (nI th), .ref b1, .ref b2, .int (nI len), .int (nI ps), .ref b5, .ref b6, .ref b7, .int (nI nm), .int (nI bt_), .int (nI so), .int (nI wi), .ref b12, .int (nI fm), .ref b14, .ref b15, .ref b16, .int (nI dn), .int (nI ca), .int (nI 0), .ref b20, .ref b21, .ref b22, .ref b23, .ref b24, .int (nI xn), .ref b26, .int (nI bb), .int (nI rr), .int (nI pp), .int (nI qq), .ref b31])) → ws1[41]? = some (b15, .inl (cI, 48, .inl (fun jj => nI (gm jj)))) → ws1[42]? = some (b16, .inl (cI, 38400, .inl (fun jj => nI (gs jj)))) → ws1[43]? = some (b20, .inl (cI, 64, .inl (fun jj => nI (ta jj)))) → ws1[44]? = some (b21, .inl (cI, 64, .inl (fun jj => nI (tb jj)))) → ws1[45]? = some (b22, .inl (cI, 300, .inl (fun jj => nI (gw jj)))) → ws1[46]? = some (b23, .inl (cI, 300, .inl (fun jj => nI (go jj)))) → ws1[47]? = some (b24, .inl (cI, 300, .inl (fun jj => nI (gt jj)))) → ws1[48]? = some (b26, .inl (cI, 3072, .inl (fun jj => nI (gl3 jj)))) → va_P D vwCl ws1 H → va_D A ws1 → va_S A s.heap H locs → lv_has ls 8 [(0, .ref m0), (1, .int (nI j)), (2, .int (nI (b.toNat))), (3, .int (nI u)), (4, .int (nI v)), (5, .int (nI q))] → W p l e ({ frames := 1, cells := 0, slots := 0, locals := 24 }) s m ([.ref m0] : List Value).toArray below meth c H locs 0 0 (ZV D (TY cB cI cJ cO) (fun ws' => ∃ gl2 : Nat → Nat, LeastOK gl2 ta tb E docs ∧ Sm (fun k => k = 33 ∨ k = 48) ws ws' ∧ ws'[33]? = some (m0, .inr (10, [.int (nI th), .ref b1, .ref b2, .int (nI len), .int (nI ps), .ref b5, .ref b6, .ref b7, .int (nI nm), .int (nI bt_), .int (nI so), .int (nI wi), .ref b12, .int (nI fm), .ref b14, .ref b15, .ref b16, .int (nI dn), .int (nI ca), .int (nI 0), .ref b20, .ref b21, .ref b22, .ref b23, .ref b24, .int (nI xn), .ref b26, .int (nI bb), .int (nI rr), .int (nI pp), .int (nI qq), .ref b31])) ∧ ws'[48]? = some (b26, .inl (cI, 3072, .inl (fun jj => nI (gl2 jj))))) below [.ref m0] s 0 0 A) (F0 m 76 ls []) := by
                        intro fuel
                        induction fuel with
                        | zero => intro q v hfu; exact absurd hfu (Nat.not_lt_zero _)
                        | succ fuel ih_76 =>
                          intro q v hfu_76 hq hv9 hvl ws1 H locs ls sm g33 g41 g42 g43 g44 g45 g46 g47 g48 hP hD hS hl
                          refine lv_iload hx hb dX9_sign_76 (lv_at hl 5 rfl) ?_
                          refine lv_aload_n hx hb dX9_sign_78 rfl (lv_at hl 0 rfl) ?_
                          refine va_get (D := D) (ci := 10) (v := .ref b15) (C := RX9) (T := TX9) (N := 32) hx hb hts hin_X9 hown hK hP 33 g33 rfl 15 (by decide) fl_78 (fun _ h9 => h9) rfl dX9_sign_79 ?_
                          refine lv_iload_n hx hb dX9_sign_82 rfl (lv_at hl 3 rfl) ?_
                          refine nx_iald hx hb hK hP 41 1 g41 rfl (k := u) (by omega) (by decide) dX9_sign_83 ?_
                          refine nx_icmp_ge (tgt := 164) hx hb (by omega) (by omega) dX9_sign_84 (by decide) (fun c_84 => ?_) (fun c_84 => ?_)
                          · refine lv_aload_n hx hb dX9_sign_164 rfl (lv_at hl 0 rfl) ?_
                            refine va_get (D := D) (ci := 10) (v := .ref b26) (C := RX9) (T := TX9) (N := 32) hx hb hts hin_X9 hown hK hP 33 g33 rfl 26 (by decide) fl_118 (fun _ h9 => h9) rfl dX9_sign_165 ?_
                            refine lv_bipush (v := nI 64) hx hb dX9_sign_168 (by decide) ?_
                            refine lv_iload_n hx hb dX9_sign_170 rfl (lv_at hl 3 rfl) ?_
                            refine nx_imul hx hb dX9_sign_171 ?_
                            refine lv_iload_n hx hb dX9_sign_172 rfl (lv_at hl 1 rfl) ?_
                            refine nx_iadd hx hb dX9_sign_173 ?_
                            refine lv_iload hx hb dX9_sign_174 (lv_at hl 4 rfl) ?_
                            refine nx_iastN hx hb hK hP hD hS 48 1 g48 rfl (k := ((64 * u) + j)) (by omega) (by decide) dX9_sign_176 (fun ws_3 H locs gq up_4 hP hD hS => ?_)
                            have g48 : ws_3[48]? = some (b26, .inl (cI, 3072, .inl (fun jj => nI ((va_up gl3 ((64 * u) + j) v) jj)))) := gq
                            have g33 := up_4.get g33 (by decide)
                            have g41 := up_4.get g41 (by decide)
                            have g42 := up_4.get g42 (by decide)
                            have g43 := up_4.get g43 (by decide)
                            have g44 := up_4.get g44 (by decide)
                            have g45 := up_4.get g45 (by decide)
                            have g46 := up_4.get g46 (by decide)
                            have g47 := up_4.get g47 (by decide)
                            have sm := sm.up up_4 (by simp)
                            refine lv_iinc (v := (nI (u + 1))) (lv' := [(3, .int (nI (u + 1))), (0, .ref m0), (1, .int (nI j)), (2, .int (nI (b.toNat))), (4, .int (nI v)), (5, .int (nI q))]) hx hb dX9_sign_177 hl (k := 3) rfl (nx_inc _ 1) (by decide) rfl (fun ls hl => ?_)
                            refine lv_goto (tgt := 61) hx hb dX9_sign_180 (by decide) ?_
                            exact ih_61 (u + 1) _ (by omega) (by omega) (hLP3.put (by omega) (by omega) (by rw [hv9, List.take_of_length_le (by omega)])) _ _ _ _ sm g33 g41 g42 g43 g44 g45 g46 g47 g48 hP hD hS (lv_sub hl [1, 2, 3, 0] rfl)
                          · refine lv_aload_n hx hb dX9_sign_87 rfl (lv_at hl 0 rfl) ?_
                            refine va_get (D := D) (ci := 10) (v := .ref b16) (C := RX9) (T := TX9) (N := 32) hx hb hts hin_X9 hown hK hP 33 g33 rfl 16 (by decide) fl_75 (fun _ h9 => h9) rfl dX9_sign_88 ?_
                            refine lv_sipush (v := nI 800) hx hb dX9_sign_91 (by decide) ?_
                            refine lv_iload_n hx hb dX9_sign_94 rfl (lv_at hl 3 rfl) ?_
                            refine nx_imul hx hb dX9_sign_95 ?_
                            refine lv_iload hx hb dX9_sign_96 (lv_at hl 5 rfl) ?_
                            refine nx_iadd hx hb dX9_sign_98 ?_
                            refine nx_iald hx hb hK hP 42 1 g42 rfl (k := ((800 * u) + q)) (by omega) (by decide) dX9_sign_99 ?_
                            refine lv_istore (lv' := [(6, .int (nI (gs ((800 * u) + q)))), (0, .ref m0), (1, .int (nI j)), (2, .int (nI (b.toNat))), (3, .int (nI u)), (4, .int (nI v)), (5, .int (nI q))]) hx hb dX9_sign_100 hl (by decide) rfl (fun ls hl => ?_)
                            refine lv_iload_n hx hb dX9_sign_102 rfl (lv_at hl 3 rfl) ?_
                            refine nx_if_eq (tgt := 116) hx hb (by cases b <;> decide) dX9_sign_103 (by decide) (fun c_103 => ?_) (fun c_103 => ?_)
                            · refine lv_aload_n hx hb dX9_sign_116 rfl (lv_at hl 1 rfl) ?_
                              refine va_get (D := D) (ci := 10) (v := .ref b20) (C := RX9) (T := TX9) (N := 32) hx hb hts hin_X9 hown hK hP 33 g33 rfl 20 (by decide) fl_103 (fun _ h9 => h9) rfl dX9_sign_117 ?_
                              refine lv_iload_n hx hb dX9_sign_120 rfl (lv_at hl 2 rfl) ?_
                              refine nx_iald hx hb hK hP 43 1 g43 rfl (k := j) (by omega) (by decide) dX9_sign_121 ?_
                              refine lv_i2l (v := lN (ta j)) hx hb dX9_sign_122 (nI_l (by omega)) ?_
                              refine lv_iload hx hb dX9_sign_123 (lv_at hl 0 rfl) ?_
                              refine lv_i2l (v := lN (gs ((800 * u) + q))) hx hb dX9_sign_125 (nI_l (by have := hus3 q (by omega); omega)) ?_
                              refine nx_lmul hx hb dX9_sign_126 ?_
                              refine lv_aload_n hx hb dX9_sign_127 rfl (lv_at hl 1 rfl) ?_
                              refine va_get (D := D) (ci := 10) (v := .ref b21) (C := RX9) (T := TX9) (N := 32) hx hb hts hin_X9 hown hK hP 33 g33 rfl 21 (by decide) fl_106 (fun _ h9 => h9) rfl dX9_sign_128 ?_
                              refine lv_iload_n hx hb dX9_sign_131 rfl (lv_at hl 2 rfl) ?_
                              refine nx_iald hx hb hK hP 44 1 g44 rfl (k := j) (by omega) (by decide) dX9_sign_132 ?_
                              refine lv_i2l (v := lN (tb j)) hx hb dX9_sign_133 (nI_l (by omega)) ?_
                              refine nx_ladd hx hb dX9_sign_134 ?_
                              refine lv_ldc2 (v := lN 65521) hx hb hown (hts (.constantLong RX9 144 65521) (by decide +kernel)) dX9_sign_135 ?_
                              refine nx_lrem hx hb (img_b hta2 (by have := hus3 q (by omega); omega)) dX9_sign_138 ?_
                              refine lv_l2i (v := nI ((((ta j) * (gs ((800 * u) + q))) + (tb j)) % 65521)) hx hb dX9_sign_139 (lN_i _) ?_
                              have hb0 : b = false := bool0 c_103
                              have hy9 : (((ta j) * (gs ((800 * u) + q))) + (tb j)) % 65521 = imgOf ta tb E j (gs (800 * u + q)) := (img_0 (any_no (by rw [← List.take_of_length_le (show E.length ≤ k by omega), ← hb9]; exact hb0))).symm
                              have hyl := imgOf_lt (ta := ta) (tb := tb) (E := E) (j := j) (x := gs (800 * u + q))
                              refine lv_istore (lv' := [(7, .int (nI ((((ta j) * (gs ((800 * u) + q))) + (tb j)) % 65521))), (6, .int (nI (gs ((800 * u) + q)))), (0, .ref m0), (1, .int (nI j)), (2, .int (nI (b.toNat))), (3, .int (nI u)), (4, .int (nI v)), (5, .int (nI q))]) hx hb dX9_sign_140 hl (by decide) rfl (fun ls hl => ?_)
                              refine lv_iload hx hb dX9_sign_142 (lv_at hl 0 rfl) ?_
                              refine lv_iload hx hb dX9_sign_144 (lv_at hl 6 rfl) ?_
                              refine nx_icmp_ge (tgt := 154) hx hb (by omega) (by omega) dX9_sign_146 (by decide) (fun c_146 => ?_) (fun c_146 => ?_)
                              · have hmn : v = min v (imgOf ta tb E j (gs (800 * u + q))) := by rw [← hy9, Nat.min_eq_left (by omega)]
                                refine lv_iload hx hb dX9_sign_154 (lv_at hl 6 rfl) ?_
                                refine lv_istore (lv' := [(4, .int (nI v)), (7, .int (nI ((((ta j) * (gs ((800 * u) + q))) + (tb j)) % 65521))), (6, .int (nI (gs ((800 * u) + q)))), (0, .ref m0), (1, .int (nI j)), (2, .int (nI (b.toNat))), (3, .int (nI u)), (5, .int (nI q))]) hx hb dX9_sign_156 hl (by decide) rfl (fun ls hl => ?_)
                                refine lv_iinc (v := (nI (q + 1))) (lv' := [(5, .int (nI (q + 1))), (4, .int (nI v)), (7, .int (nI ((((ta j) * (gs ((800 * u) + q))) + (tb j)) % 65521))), (6, .int (nI (gs ((800 * u) + q)))), (0, .ref m0), (1, .int (nI j)), (2, .int (nI (b.toNat))), (3, .int (nI u))]) hx hb dX9_sign_158 hl (k := 7) rfl (nx_inc _ 1) (by decide) rfl (fun ls hl => ?_)
                                refine lv_goto (tgt := 76) hx hb dX9_sign_161 (by decide) ?_
                                exact ih_76 (q + 1) _ (by omega) (by omega) (by rw [sg_take (by omega), ← hv9, ← hus2 q (by omega)]; exact hmn) (by omega) _ _ _ _ sm g33 g41 g42 g43 g44 g45 g46 g47 g48 hP hD hS (lv_sub hl [4, 5, 6, 7, 1, 0] rfl)
                              · have hmn : (((ta j) * (gs ((800 * u) + q))) + (tb j)) % 65521 = min v (imgOf ta tb E j (gs (800 * u + q))) := by rw [← hy9, Nat.min_eq_right (by omega)]
                                refine lv_iload hx hb dX9_sign_149 (lv_at hl 0 rfl) ?_
                                refine lv_goto (tgt := 156) hx hb dX9_sign_151 (by decide) ?_
                                refine lv_istore (lv' := [(4, .int (nI ((((ta j) * (gs ((800 * u) + q))) + (tb j)) % 65521))), (7, .int (nI ((((ta j) * (gs ((800 * u) + q))) + (tb j)) % 65521))), (6, .int (nI (gs ((800 * u) + q)))), (0, .ref m0), (1, .int (nI j)), (2, .int (nI (b.toNat))), (3, .int (nI u)), (5, .int (nI q))]) hx hb dX9_sign_156 hl (by decide) rfl (fun ls hl => ?_)
                                refine lv_iinc (v := (nI (q + 1))) (lv' := [(5, .int (nI (q + 1))), (4, .int (nI ((((ta j) * (gs ((800 * u) + q))) + (tb j)) % 65521))), (7, .int (nI ((((ta j) * (gs ((800 * u) + q))) + (tb j)) % 65521))), (6, .int (nI (gs ((800 * u) + q)))), (0, .ref m0), (1, .int (nI j)), (2, .int (nI (b.toNat))), (3, .int (nI u))]) hx hb dX9_sign_158 hl (k := 7) rfl (nx_inc _ 1) (by decide) rfl (fun ls hl => ?_)
                                refine lv_goto (tgt := 76) hx hb dX9_sign_161 (by decide) ?_
                                exact ih_76 (q + 1) _ (by omega) (by omega) (by rw [sg_take (by omega), ← hv9, ← hus2 q (by omega)]; exact hmn) (by omega) _ _ _ _ sm g33 g41 g42 g43 g44 g45 g46 g47 g48 hP hD hS (lv_sub hl [4, 5, 6, 7, 1, 0] rfl)
                            · refine lv_aload_n hx hb dX9_sign_106 rfl (lv_at hl 1 rfl) ?_
                              refine lv_iload_n hx hb dX9_sign_107 rfl (lv_at hl 2 rfl) ?_
                              refine lv_iload hx hb dX9_sign_108 (lv_at hl 0 rfl) ?_
                              refine CI.go (va_runV (As := [.int (nI j), .int (nI (gs ((800 * u) + q)))]) (rest := []) ⟨hx, hb, hml, hown, hts⟩ (c_X9_imageOf  g33 g43 g44 g45 g46 g47 hE hx9 h300 hsm hta (by omega) (by have := hus3 q (by omega); omega) _) (cwV 2 hts gX9_sign_X9_imageOf rfl rfl rfl (by decide +kernel) ⟨Nat.le_of_ble_eq_true rfl, Nat.le_of_ble_eq_true rfl⟩) ⟨pw_blind, va_recv hK hP (ci := 10) (q0 := 33) rfl g33, fun U hU hW => pw_pre hK hP hD hU hW⟩ rfl rfl hl.1 rfl (lv_room (Nat.le_of_ble_eq_true rfl)) dX9_sign_110 ⟨by decide, by decide⟩) hD hS hA (fun r_5 ws_6 H locs hp hP hD hS => ?_)
                              obtain ⟨rfl, rfl⟩ := hp
                              refine lv_goto (tgt := 140) hx hb dX9_sign_113 (by decide) ?_
                              have hy9 : imgOf ta tb E j (gs (800 * u + q)) = imgOf ta tb E j (gs (800 * u + q)) := rfl
                              have hyl := imgOf_lt (ta := ta) (tb := tb) (E := E) (j := j) (x := gs (800 * u + q))
                              refine lv_istore (lv' := [(7, .int (nI (imgOf ta tb E j (gs (800 * u + q))))), (6, .int (nI (gs ((800 * u) + q)))), (0, .ref m0), (1, .int (nI j)), (2, .int (nI (b.toNat))), (3, .int (nI u)), (4, .int (nI v)), (5, .int (nI q))]) hx hb dX9_sign_140 hl (by decide) rfl (fun ls hl => ?_)
                              refine lv_iload hx hb dX9_sign_142 (lv_at hl 0 rfl) ?_
                              refine lv_iload hx hb dX9_sign_144 (lv_at hl 6 rfl) ?_
                              refine nx_icmp_ge (tgt := 154) hx hb (by omega) (by omega) dX9_sign_146 (by decide) (fun c_146 => ?_) (fun c_146 => ?_)
                              · have hmn : v = min v (imgOf ta tb E j (gs (800 * u + q))) := by rw [← hy9, Nat.min_eq_left (by omega)]
                                refine lv_iload hx hb dX9_sign_154 (lv_at hl 6 rfl) ?_
                                refine lv_istore (lv' := [(4, .int (nI v)), (7, .int (nI (imgOf ta tb E j (gs (800 * u + q))))), (6, .int (nI (gs ((800 * u) + q)))), (0, .ref m0), (1, .int (nI j)), (2, .int (nI (b.toNat))), (3, .int (nI u)), (5, .int (nI q))]) hx hb dX9_sign_156 hl (by decide) rfl (fun ls hl => ?_)
                                refine lv_iinc (v := (nI (q + 1))) (lv' := [(5, .int (nI (q + 1))), (4, .int (nI v)), (7, .int (nI (imgOf ta tb E j (gs (800 * u + q))))), (6, .int (nI (gs ((800 * u) + q)))), (0, .ref m0), (1, .int (nI j)), (2, .int (nI (b.toNat))), (3, .int (nI u))]) hx hb dX9_sign_158 hl (k := 7) rfl (nx_inc _ 1) (by decide) rfl (fun ls hl => ?_)
                                refine lv_goto (tgt := 76) hx hb dX9_sign_161 (by decide) ?_
                                exact ih_76 (q + 1) _ (by omega) (by omega) (by rw [sg_take (by omega), ← hv9, ← hus2 q (by omega)]; exact hmn) (by omega) _ _ _ _ sm g33 g41 g42 g43 g44 g45 g46 g47 g48 hP hD hS (lv_sub hl [4, 5, 6, 7, 1, 0] rfl)
                              · have hmn : imgOf ta tb E j (gs (800 * u + q)) = min v (imgOf ta tb E j (gs (800 * u + q))) := by rw [← hy9, Nat.min_eq_right (by omega)]
                                refine lv_iload hx hb dX9_sign_149 (lv_at hl 0 rfl) ?_
                                refine lv_goto (tgt := 156) hx hb dX9_sign_151 (by decide) ?_
                                refine lv_istore (lv' := [(4, .int (nI (imgOf ta tb E j (gs (800 * u + q))))), (7, .int (nI (imgOf ta tb E j (gs (800 * u + q))))), (6, .int (nI (gs ((800 * u) + q)))), (0, .ref m0), (1, .int (nI j)), (2, .int (nI (b.toNat))), (3, .int (nI u)), (5, .int (nI q))]) hx hb dX9_sign_156 hl (by decide) rfl (fun ls hl => ?_)
                                refine lv_iinc (v := (nI (q + 1))) (lv' := [(5, .int (nI (q + 1))), (4, .int (nI (imgOf ta tb E j (gs (800 * u + q))))), (7, .int (nI (imgOf ta tb E j (gs (800 * u + q))))), (6, .int (nI (gs ((800 * u) + q)))), (0, .ref m0), (1, .int (nI j)), (2, .int (nI (b.toNat))), (3, .int (nI u))]) hx hb dX9_sign_158 hl (k := 7) rfl (nx_inc _ 1) (by decide) rfl (fun ls hl => ?_)
                                refine lv_goto (tgt := 76) hx hb dX9_sign_161 (by decide) ?_
                                exact ih_76 (q + 1) _ (by omega) (by omega) (by rw [sg_take (by omega), ← hv9, ← hus2 q (by omega)]; exact hmn) (by omega) _ _ _ _ sm g33 g41 g42 g43 g44 g45 g46 g47 g48 hP hD hS (lv_sub hl [4, 5, 6, 7, 1, 0] rfl)
                      exact lp_76 _ 0 65521 (Nat.lt_succ_self _) (Nat.zero_le _) rfl (Nat.le_refl _) _ _ _ _ sm g33 g41 g42 g43 g44 g45 g46 g47 g48 hP hD hS (lv_sub hl [2, 3, 4, 5, 1, 0] rfl)
                exact lp_61 _ 0 gl2 (Nat.lt_succ_self _) (Nat.zero_le _) hLP _ _ _ _ sm g33 g41 g42 g43 g44 g45 g46 g47 g48 hP hD hS (lv_sub hl [1, 2, 3, 0] rfl)
              · refine lv_iload_n hx hb dX9_sign_33 rfl (lv_at hl 2 rfl) ?_
                refine nx_if_ne (tgt := 47) hx hb (by cases b <;> decide) dX9_sign_34 (by decide) (fun c_34 => ?_) (fun c_34 => ?_)
                · refine lv_iconst (v := nI 1) hx hb dX9_sign_47 (by decide) ?_
                  refine lv_goto (tgt := 52) hx hb dX9_sign_48 (by decide) ?_
                  refine lv_istore_n (lv' := [(2, .int (nI 1)), (0, .ref m0), (1, .int (nI j)), (3, .int (nI k))]) hx hb dX9_sign_52 rfl hl (by decide) rfl (fun ls hl => ?_)
                  refine lv_iinc (v := (nI (k + 1))) (lv' := [(3, .int (nI (k + 1))), (2, .int (nI 1)), (0, .ref m0), (1, .int (nI j))]) hx hb dX9_sign_53 hl (k := 3) rfl (nx_inc _ 1) (by decide) rfl (fun ls hl => ?_)
                  refine lv_goto (tgt := 25) hx hb dX9_sign_56 (by decide) ?_
                  have h3 := hE k (by omega)
                  exact ih_25 (k + 1) true (by omega) (by omega) (by rw [any_take (by omega), ← hb9]; first | (rw [bool1 c_34]; rfl) | (rw [bool0 c_34, ← h3.1]; simp [c_44])) _ _ _ _ sm g33 g41 g42 g43 g44 g45 g46 g47 g48 hP hD hS (lv_sub hl [2, 3, 1, 0] rfl)
                · refine lv_aload_n hx hb dX9_sign_37 rfl (lv_at hl 0 rfl) ?_
                  refine va_get (D := D) (ci := 10) (v := .ref b22) (C := RX9) (T := TX9) (N := 32) hx hb hts hin_X9 hown hK hP 33 g33 rfl 22 (by decide) fl_109 (fun _ h9 => h9) rfl dX9_sign_38 ?_
                  refine lv_iload_n hx hb dX9_sign_41 rfl (lv_at hl 3 rfl) ?_
                  refine nx_iald hx hb hK hP 45 1 g45 rfl (k := k) (by omega) (by decide) dX9_sign_42 ?_
                  refine lv_iload_n hx hb dX9_sign_43 rfl (lv_at hl 1 rfl) ?_
                  refine nx_icmp_ne (tgt := 51) hx hb (by have := hE k (by omega); have := hsm E[k] (List.getElem_mem _); omega) (by omega) dX9_sign_44 (by decide) (fun c_44 => ?_) (fun c_44 => ?_)
                  · refine lv_iconst (v := nI 0) hx hb dX9_sign_51 (by decide) ?_
                    refine lv_istore_n (lv' := [(2, .int (nI 0)), (0, .ref m0), (1, .int (nI j)), (3, .int (nI k))]) hx hb dX9_sign_52 rfl hl (by decide) rfl (fun ls hl => ?_)
                    refine lv_iinc (v := (nI (k + 1))) (lv' := [(3, .int (nI (k + 1))), (2, .int (nI 0)), (0, .ref m0), (1, .int (nI j))]) hx hb dX9_sign_53 hl (k := 3) rfl (nx_inc _ 1) (by decide) rfl (fun ls hl => ?_)
                    refine lv_goto (tgt := 25) hx hb dX9_sign_56 (by decide) ?_
                    have h3 := hE k (by omega)
                    exact ih_25 (k + 1) false (by omega) (by omega) (by rw [any_take (by omega), ← hb9]; first | (rw [bool1 c_34]; rfl) | (rw [bool0 c_34, ← h3.1]; simp [c_44])) _ _ _ _ sm g33 g41 g42 g43 g44 g45 g46 g47 g48 hP hD hS (lv_sub hl [2, 3, 1, 0] rfl)
                  · refine lv_iconst (v := nI 1) hx hb dX9_sign_47 (by decide) ?_
                    refine lv_goto (tgt := 52) hx hb dX9_sign_48 (by decide) ?_
                    refine lv_istore_n (lv' := [(2, .int (nI 1)), (0, .ref m0), (1, .int (nI j)), (3, .int (nI k))]) hx hb dX9_sign_52 rfl hl (by decide) rfl (fun ls hl => ?_)
                    refine lv_iinc (v := (nI (k + 1))) (lv' := [(3, .int (nI (k + 1))), (2, .int (nI 1)), (0, .ref m0), (1, .int (nI j))]) hx hb dX9_sign_53 hl (k := 3) rfl (nx_inc _ 1) (by decide) rfl (fun ls hl => ?_)
                    refine lv_goto (tgt := 25) hx hb dX9_sign_56 (by decide) ?_
                    have h3 := hE k (by omega)
                    exact ih_25 (k + 1) true (by omega) (by omega) (by rw [any_take (by omega), ← hb9]; first | (rw [bool1 c_34]; rfl) | (rw [bool0 c_34, ← h3.1]; simp [c_44])) _ _ _ _ sm g33 g41 g42 g43 g44 g45 g46 g47 g48 hP hD hS (lv_sub hl [2, 3, 1, 0] rfl)
          exact lp_25 _ 0 false (Nat.lt_succ_self _) (Nat.zero_le _) rfl _ _ _ _ sm g33 g41 g42 g43 g44 g45 g46 g47 g48 hP hD hS (lv_sub hl [2, 3, 1, 0] rfl)
    exact lp_15 _ 0 gl (Nat.lt_succ_self _) (Nat.zero_le _) LPr.start _ _ _ _ sm g33 g41 g42 g43 g44 g45 g46 g47 g48 hP hD hS (lv_sub hl [1, 0] rfl)
  · have g33 : ws[33]? = some (m0, .inr (10, [.int (nI th), .ref b1, .ref b2, .int (nI len), .int (nI ps), .ref b5, .ref b6, .ref b7, .int (nI nm), .int (nI bt_), .int (nI so), .int (nI wi), .ref b12, .int (nI fm), .ref b14, .ref b15, .ref b16, .int (nI dn), .int (nI ca), .int (nI 0), .ref b20, .ref b21, .ref b22, .ref b23, .ref b24, .int (nI xn), .ref b26, .int (nI bb), .int (nI rr), .int (nI pp), .int (nI qq), .ref b31])) := by rw [← show sta = 0 by omega]; exact g33
    exact CV.ret C hK hP hD hS (⟨gl, (hlo (by omega)), sm, g33, g48⟩) hc0 hs0 dX9_sign_7
