set_option maxHeartbeats 4000000 in
set_option maxRecDepth 100000 in
theorem c_X9_families {D : va_G} {cB cI cJ cO : ClassId} {l : Launch} {m0 b1 b2 b5 b6 b7 b12 b14 b15 b16 b20 b21 b22 b23 b24 b26 b31 th len ps nm bt_ so wi fm dn ca sta xn bb rr pp qq : Nat} {ta tb gw go gt gn gm gs gl : Nat → Nat} {E : List (Nat × Nat × Nat)} {docs : List (Nat × List Nat)} {fa : Nat → Nat} {ws : va_W} (g33 : ws[33]? = some (m0, .inr (10, [.int (nI th), .ref b1, .ref b2, .int (nI len), .int (nI ps), .ref b5, .ref b6, .ref b7, .int (nI nm), .int (nI bt_), .int (nI so), .int (nI wi), .ref b12, .int (nI fm), .ref b14, .ref b15, .ref b16, .int (nI dn), .int (nI ca), .int (nI sta), .ref b20, .ref b21, .ref b22, .ref b23, .ref b24, .int (nI xn), .ref b26, .int (nI bb), .int (nI rr), .int (nI pp), .int (nI qq), .ref b31]))) (g41 : ws[41]? = some (b15, .inl (cI, 48, .inl (fun jj => nI (gm jj))))) (g42 : ws[42]? = some (b16, .inl (cI, 38400, .inl (fun jj => nI (gs jj))))) (g43 : ws[43]? = some (b20, .inl (cI, 64, .inl (fun jj => nI (ta jj))))) (g44 : ws[44]? = some (b21, .inl (cI, 64, .inl (fun jj => nI (tb jj))))) (g45 : ws[45]? = some (b22, .inl (cI, 300, .inl (fun jj => nI (gw jj))))) (g46 : ws[46]? = some (b23, .inl (cI, 300, .inl (fun jj => nI (go jj))))) (g47 : ws[47]? = some (b24, .inl (cI, 300, .inl (fun jj => nI (gt jj))))) (g48 : ws[48]? = some (b26, .inl (cI, 3072, .inl (fun jj => nI (gl jj))))) (g49 : ws[49]? = some (b31, .inl (cI, 48, .inl (fun jj => nI (fa jj))))) (hE : HdE gw go gt E) (hx9 : E.length = xn) (h300 : xn ≤ 300) (hsm : Esm E) (hta : Tab ta tb) (hdd : HdD gn gm gs docs) (hdn : docs.length = dn) (h48 : dn ≤ 48) (hds : Dsm docs) (hsta : sta ≤ 1) (hlo : sta = 0 → LeastOK gl ta tb E docs) (hbr : bb * rr ≤ 64) (hb64 : bb ≤ 64) (hr64 : rr ≤ 64) (hp4 : pp ≤ 10000) (hq4 : qq ≤ 10000) : CV D (TY cB cI cJ cO) l yX9_families wsX9_families ({ frames := 4, cells := 0, slots := 0, locals := 100 }) [.ref m0] ws (fun ws' => ∃ sta2 : Nat, ∃ gl2 : Nat → Nat, ∃ fa2 : Nat → Nat, (sta2 ≤ 1) ∧ (sta2 = 0 → LeastOK gl2 ta tb E docs) ∧ (FamOK fa2 dn (twM ta tb E docs rr bb pp qq)) ∧ Sm (fun k => k = 33 ∨ k = 48 ∨ k = 49) ws ws' ∧ ws'[33]? = some (m0, .inr (10, [.int (nI th), .ref b1, .ref b2, .int (nI len), .int (nI ps), .ref b5, .ref b6, .ref b7, .int (nI nm), .int (nI bt_), .int (nI so), .int (nI wi), .ref b12, .int (nI fm), .ref b14, .ref b15, .ref b16, .int (nI dn), .int (nI ca), .int (nI sta2), .ref b20, .ref b21, .ref b22, .ref b23, .ref b24, .int (nI xn), .ref b26, .int (nI bb), .int (nI rr), .int (nI pp), .int (nI qq), .ref b31])) ∧ ws'[48]? = some (b26, .inl (cI, 3072, .inl (fun jj => nI (gl2 jj)))) ∧ ws'[49]? = some (b31, .inl (cI, 48, .inl (fun jj => nI (fa2 jj))))) := by
  refine CV.of (cc := cX9_families) (maxL := 7) (ret := none) (by decide) rfl (Nat.le_of_ble_eq_true rfl) ?_
  intro p e s m below meth c A C hK hP hD hA hS ls hl
  obtain ⟨hx, hb, hr, hml, hts, hown, hlocks, hnm⟩ := id C
  have fl_65 := hts (.fieldLink RX9 65 "TwinFinderModel" "documents" "I") (by decide +kernel)
  have fl_133 := hts (.fieldLink RX9 133 "TwinFinderModel" "family" "[I") (by decide +kernel)
  have hin_X9 : ∀ w ∈ u_ws RX9 TX9 32, w ∈ wsX9_families := by decide +kernel
  have hl : lv_has ls 7 [(0, .ref m0)] := hl
  have sm : Sm (fun k => k = 33 ∨ k = 48 ∨ k = 49) ws ws := Sm.rf
  have hc0 : (0 : Nat) ≤ 0 := by decide
  have hs0 : (0 : Nat) ≤ 0 := by decide
  refine lv_iconst (v := nI 0) hx hb dX9_families_0 (by decide) ?_
  refine lv_istore_n (lv' := [(1, .int (nI 0)), (0, .ref m0)]) hx hb dX9_families_1 rfl hl (by decide) rfl (fun ls hl => ?_)
  have lp_2 : ∀ (fuel : Nat) (i : Nat) (fa1 : Nat → Nat), dn - i < fuel → (i ≤ dn) → (∀ k, k < i → fa1 k = k) → ∀ (ws1 : va_W) (H : Heap) (locs : List Loc) (ls : Array Slot), Sm (fun k => k = 33 ∨ k = 48 ∨ k = 49) ws ws1 → ws1[33]? = some (m0, .inr (10, [.int (nI th), .ref b1, .ref b2, .int (nI len), .int (nI ps), .ref b5, .ref b6, .ref b7, .int (nI nm), .int (nI bt_), .int (nI so), .int (nI wi), .ref b12, .int (nI fm), .ref b14, .ref b15, .ref b16, .int (nI dn), .int (nI ca), .int (nI sta), .ref b20, .ref b21, .ref b22, .ref b23, .ref b24, .int (nI xn), .ref b26, .int (nI bb), .int (nI rr), .int (nI pp), .int (nI qq), .ref b31])) → ws1[41]? = some (b15, .inl (cI, 48, .inl (fun jj => nI (gm jj)))) → ws1[42]? = some (b16, .inl (cI, 38400, .inl (fun jj => nI (gs jj)))) → ws1[43]? = some (b20, .inl (cI, 64, .inl (fun jj => nI (ta jj)))) → ws1[44]? = some (b21, .inl (cI, 64, .inl (fun jj => nI (tb jj)))) → ws1[45]? = some (b22, .inl (cI, 300, .inl (fun jj => nI (gw jj)))) → ws1[46]? = some (b23, .inl (cI, 300, .inl (fun jj => nI (go jj)))) → ws1[47]? = some (b24, .inl (cI, 300, .inl (fun jj => nI (gt jj)))) → ws1[48]? = some (b26, .inl (cI, 3072, .inl (fun jj => nI (gl jj)))) → ws1[49]? = some (b31, .inl (cI, 48, .inl (fun jj => nI (fa1 jj)))) → va_P D vwCl ws1 H → va_D A ws1 → va_S A s.heap H locs → lv_has ls 7 [(0, .ref m0), (1, .int (nI i))] → W p l e ({ frames := 4, cells := 0, slots := 0, locals := 100 }) s m ([.ref m0] : List Value).toArray below meth c H locs 0 0 (ZV D (TY cB cI cJ cO) (fun ws' => ∃ sta2 : Nat, ∃ gl2 : Nat → Nat, ∃ fa2 : Nat → Nat, (sta2 ≤ 1) ∧ (sta2 = 0 → LeastOK gl2 ta tb E docs) ∧ (FamOK fa2 dn (twM ta tb E docs rr bb pp qq)) ∧ Sm (fun k => k = 33 ∨ k = 48 ∨ k = 49) ws ws' ∧ ws'[33]? = some (m0, .inr (10, [.int (nI th), .ref b1, .ref b2, .int (nI len), .int (nI ps), .ref b5, .ref b6, .ref b7, .int (nI nm), .int (nI bt_), .int (nI so), .int (nI wi), .ref b12, .int (nI fm), .ref b14, .ref b15, .ref b16, .int (nI dn), .int (nI ca), .int (nI sta2), .ref b20, .ref b21, .ref b22, .ref b23, .ref b24, .int (nI xn), .ref b26, .int (nI bb), .int (nI rr), .int (nI pp), .int (nI qq), .ref b31])) ∧ ws'[48]? = some (b26, .inl (cI, 3072, .inl (fun jj => nI (gl2 jj)))) ∧ ws'[49]? = some (b31, .inl (cI, 48, .inl (fun jj => nI (fa2 jj))))) below [.ref m0] s 0 0 A) (F0 m 2 ls []) := by
    intro fuel
    induction fuel with
    | zero => intro i fa1 hfu; exact absurd hfu (Nat.not_lt_zero _)
    | succ fuel ih_2 =>
      intro i fa1 hfu_2 hi hfi ws1 H locs ls sm g33 g41 g42 g43 g44 g45 g46 g47 g48 g49 hP hD hS hl
      refine lv_iload_n hx hb dX9_families_2 rfl (lv_at hl 1 rfl) ?_
      refine lv_aload_n hx hb dX9_families_3 rfl (lv_at hl 0 rfl) ?_
      refine va_get (D := D) (ci := 10) (v := .int (nI dn)) (C := RX9) (T := TX9) (N := 32) hx hb hts hin_X9 hown hK hP 33 g33 rfl 17 (by decide) fl_65 (fun _ h9 => h9) rfl dX9_families_4 ?_
      refine nx_icmp_ge (tgt := 23) hx hb (by omega) (by omega) dX9_families_7 (by decide) (fun c_7 => ?_) (fun c_7 => ?_)
      · refine lv_iconst (v := nI 1) hx hb dX9_families_23 (by decide) ?_
        refine lv_istore_n (lv' := [(1, .int (nI 1)), (0, .ref m0)]) hx hb dX9_families_24 rfl hl (by decide) rfl (fun ls hl => ?_)
        have lp_25 : ∀ (fuel : Nat) (d1 : Bool) (faA : Nat → Nat) (stA : Nat) (glA : Nat → Nat), 2 * roots faA dn + d1.toNat < fuel → (FamI faA dn (twM ta tb E docs rr bb pp qq)) → (d1 = false → ∀ a b, a < dn → b < a → twM ta tb E docs rr bb pp qq a b = true → faA a = faA b) → (stA ≤ 1) → (stA = 0 → LeastOK glA ta tb E docs) → ∀ (ws1 : va_W) (H : Heap) (locs : List Loc) (ls : Array Slot), Sm (fun k => k = 33 ∨ k = 48 ∨ k = 49) ws ws1 → ws1[33]? = some (m0, .inr (10, [.int (nI th), .ref b1, .ref b2, .int (nI len), .int (nI ps), .ref b5, .ref b6, .ref b7, .int (nI nm), .int (nI bt_), .int (nI so), .int (nI wi), .ref b12, .int (nI fm), .ref b14, .ref b15, .ref b16, .int (nI dn), .int (nI ca), .int (nI stA), .ref b20, .ref b21, .ref b22, .ref b23, .ref b24, .int (nI xn), .ref b26, .int (nI bb), .int (nI rr), .int (nI pp), .int (nI qq), .ref b31])) → ws1[41]? = some (b15, .inl (cI, 48, .inl (fun jj => nI (gm jj)))) → ws1[42]? = some (b16, .inl (cI, 38400, .inl (fun jj => nI (gs jj)))) → ws1[43]? = some (b20, .inl (cI, 64, .inl (fun jj => nI (ta jj)))) → ws1[44]? = some (b21, .inl (cI, 64, .inl (fun jj => nI (tb jj)))) → ws1[45]? = some (b22, .inl (cI, 300, .inl (fun jj => nI (gw jj)))) → ws1[46]? = some (b23, .inl (cI, 300, .inl (fun jj => nI (go jj)))) → ws1[47]? = some (b24, .inl (cI, 300, .inl (fun jj => nI (gt jj)))) → ws1[48]? = some (b26, .inl (cI, 3072, .inl (fun jj => nI (glA jj)))) → ws1[49]? = some (b31, .inl (cI, 48, .inl (fun jj => nI (faA jj)))) → va_P D vwCl ws1 H → va_D A ws1 → va_S A s.heap H locs → lv_has ls 7 [(0, .ref m0), (1, .int (nI (d1.toNat)))] → W p l e ({ frames := 4, cells := 0, slots := 0, locals := 100 }) s m ([.ref m0] : List Value).toArray below meth c H locs 0 0 (ZV D (TY cB cI cJ cO) (fun ws' => ∃ sta2 : Nat, ∃ gl2 : Nat → Nat, ∃ fa2 : Nat → Nat, (sta2 ≤ 1) ∧ (sta2 = 0 → LeastOK gl2 ta tb E docs) ∧ (FamOK fa2 dn (twM ta tb E docs rr bb pp qq)) ∧ Sm (fun k => k = 33 ∨ k = 48 ∨ k = 49) ws ws' ∧ ws'[33]? = some (m0, .inr (10, [.int (nI th), .ref b1, .ref b2, .int (nI len), .int (nI ps), .ref b5, .ref b6, .ref b7, .int (nI nm), .int (nI bt_), .int (nI so), .int (nI wi), .ref b12, .int (nI fm), .ref b14, .ref b15, .ref b16, .int (nI dn), .int (nI ca), .int (nI sta2), .ref b20, .ref b21, .ref b22, .ref b23, .ref b24, .int (nI xn), .ref b26, .int (nI bb), .int (nI rr), .int (nI pp), .int (nI qq), .ref b31])) ∧ ws'[48]? = some (b26, .inl (cI, 3072, .inl (fun jj => nI (gl2 jj)))) ∧ ws'[49]? = some (b31, .inl (cI, 48, .inl (fun jj => nI (fa2 jj))))) below [.ref m0] s 0 0 A) (F0 m 25 ls []) := by
          intro fuel
          induction fuel with
          | zero => intro d1 faA stA glA hfu; exact absurd hfu (Nat.not_lt_zero _)
          | succ fuel ih_25 =>
            intro d1 faA stA glA hfu_25 hI1 hc1 hsta_glA hlo_glA ws1 H locs ls sm g33 g41 g42 g43 g44 g45 g46 g47 g48 g49 hP hD hS hl
            refine lv_iload_n hx hb dX9_families_25 rfl (lv_at hl 1 rfl) ?_
            refine nx_if_eq (tgt := 195) hx hb (by cases d1 <;> decide) dX9_families_26 (by decide) (fun c_26 => ?_) (fun c_26 => ?_)
            · exact CV.ret C hK hP hD hS (⟨_, _, faA, hsta_glA, hlo_glA, ⟨hI1.1, hc1 (bool0 c_26), hI1.2⟩, sm, g33, g48, g49⟩) hc0 hs0 dX9_families_195
            · refine lv_iconst (v := nI 0) hx hb dX9_families_29 (by decide) ?_
              refine lv_istore_n (lv' := [(1, .int (nI 0)), (0, .ref m0)]) hx hb dX9_families_30 rfl hl (by decide) rfl (fun ls hl => ?_)
              refine lv_iconst (v := nI 0) hx hb dX9_families_31 (by decide) ?_
              refine lv_istore_n (lv' := [(2, .int (nI 0)), (1, .int (nI 0)), (0, .ref m0)]) hx hb dX9_families_32 rfl hl (by decide) rfl (fun ls hl => ?_)
              have lp_33 : ∀ (fuel : Nat) (u : Nat) (d2 : Bool) (fa2 : Nat → Nat) (stB : Nat) (glB : Nat → Nat), dn - u < fuel → (u ≤ dn) → (FamI fa2 dn (twM ta tb E docs rr bb pp qq)) → (d2 = true → roots fa2 dn < roots faA dn) → (d2 = false → roots fa2 dn ≤ roots faA dn ∧ ∀ a b, a < u → b < a → twM ta tb E docs rr bb pp qq a b = true → fa2 a = fa2 b) → (stB ≤ 1) → (stB = 0 → LeastOK glB ta tb E docs) → ∀ (ws1 : va_W) (H : Heap) (locs : List Loc) (ls : Array Slot), Sm (fun k => k = 33 ∨ k = 48 ∨ k = 49) ws ws1 → ws1[33]? = some (m0, .inr (10, [.int (nI th), .ref b1, .ref b2, .int (nI len), .int (nI ps), .ref b5, .ref b6, .ref b7, .int (nI nm), .int (nI bt_), .int (nI so), .int (nI wi), .ref b12, .int (nI fm), .ref b14, .ref b15, .ref b16, .int (nI dn), .int (nI ca), .int (nI stB), .ref b20, .ref b21, .ref b22, .ref b23, .ref b24, .int (nI xn), .ref b26, .int (nI bb), .int (nI rr), .int (nI pp), .int (nI qq), .ref b31])) → ws1[41]? = some (b15, .inl (cI, 48, .inl (fun jj => nI (gm jj)))) → ws1[42]? = some (b16, .inl (cI, 38400, .inl (fun jj => nI (gs jj)))) → ws1[43]? = some (b20, .inl (cI, 64, .inl (fun jj => nI (ta jj)))) → ws1[44]? = some (b21, .inl (cI, 64, .inl (fun jj => nI (tb jj)))) → ws1[45]? = some (b22, .inl (cI, 300, .inl (fun jj => nI (gw jj)))) → ws1[46]? = some (b23, .inl (cI, 300, .inl (fun jj => nI (go jj)))) → ws1[47]? = some (b24, .inl (cI, 300, .inl (fun jj => nI (gt jj)))) → ws1[48]? = some (b26, .inl (cI, 3072, .inl (fun jj => nI (glB jj)))) → ws1[49]? = some (b31, .inl (cI, 48, .inl (fun jj => nI (fa2 jj)))) → va_P D vwCl ws1 H → va_D A ws1 → va_S A s.heap H locs → lv_has ls 7 [(0, .ref m0), (1, .int (nI (d2.toNat))), (2, .int (nI u))] → W p l e ({ frames := 4, cells := 0, slots := 0, locals := 100 }) s m ([.ref m0] : List Value).toArray below meth c H locs 0 0 (ZV D (TY cB cI cJ cO) (fun ws' => ∃ sta2 : Nat, ∃ gl2 : Nat → Nat, ∃ fa2 : Nat → Nat, (sta2 ≤ 1) ∧ (sta2 = 0 → LeastOK gl2 ta tb E docs) ∧ (FamOK fa2 dn (twM ta tb E docs rr bb pp qq)) ∧ Sm (fun k => k = 33 ∨ k = 48 ∨ k = 49) ws ws' ∧ ws'[33]? = some (m0, .inr (10, [.int (nI th), .ref b1, .ref b2, .int (nI len), .int (nI ps), .ref b5, .ref b6, .ref b7, .int (nI nm), .int (nI bt_), .int (nI so), .int (nI wi), .ref b12, .int (nI fm), .ref b14, .ref b15, .ref b16, .int (nI dn), .int (nI ca), .int (nI sta2), .ref b20, .ref b21, .ref b22, .ref b23, .ref b24, .int (nI xn), .ref b26, .int (nI bb), .int (nI rr), .int (nI pp), .int (nI qq), .ref b31])) ∧ ws'[48]? = some (b26, .inl (cI, 3072, .inl (fun jj => nI (gl2 jj)))) ∧ ws'[49]? = some (b31, .inl (cI, 48, .inl (fun jj => nI (fa2 jj))))) below [.ref m0] s 0 0 A) (F0 m 33 ls []) := by
                intro fuel
                induction fuel with
                | zero => intro u d2 fa2 stB glB hfu; exact absurd hfu (Nat.not_lt_zero _)
                | succ fuel ih_33 =>
                  intro u d2 fa2 stB glB hfu_33 hu hI2 hc21 hc20 hsta_glB hlo_glB ws1 H locs ls sm g33 g41 g42 g43 g44 g45 g46 g47 g48 g49 hP hD hS hl
                  refine lv_iload_n hx hb dX9_families_33 rfl (lv_at hl 2 rfl) ?_
                  refine lv_aload_n hx hb dX9_families_34 rfl (lv_at hl 0 rfl) ?_
                  refine va_get (D := D) (ci := 10) (v := .int (nI dn)) (C := RX9) (T := TX9) (N := 32) hx hb hts hin_X9 hown hK hP 33 g33 rfl 17 (by decide) fl_65 (fun _ h9 => h9) rfl dX9_families_35 ?_
                  refine nx_icmp_ge (tgt := 192) hx hb (by omega) (by omega) dX9_families_38 (by decide) (fun c_38 => ?_) (fun c_38 => ?_)
                  · refine lv_goto (tgt := 25) hx hb dX9_families_192 (by decide) ?_
                    exact ih_25 d2 fa2 stB glB (by cases d2 with | true => (have := hc21 rfl; simp at *; omega) | false => (have := (hc20 rfl).1; simp at *; omega)) hI2 (fun h a b ha hb => (hc20 h).2 a b (by omega) hb) hsta_glB hlo_glB _ _ _ _ sm g33 g41 g42 g43 g44 g45 g46 g47 g48 g49 hP hD hS (lv_sub hl [0, 1] rfl)
                  · refine lv_iconst (v := nI 0) hx hb dX9_families_41 (by decide) ?_
                    refine lv_istore_n (lv' := [(3, .int (nI 0)), (0, .ref m0), (1, .int (nI (d2.toNat))), (2, .int (nI u))]) hx hb dX9_families_42 rfl hl (by decide) rfl (fun ls hl => ?_)
                    have lp_43 : ∀ (fuel : Nat) (v : Nat) (d3 : Bool) (fa3 : Nat → Nat) (stC : Nat) (glC : Nat → Nat), u - v < fuel → (v ≤ u) → (FamI fa3 dn (twM ta tb E docs rr bb pp qq)) → (d3 = true → roots fa3 dn < roots faA dn) → (d3 = false → roots fa3 dn ≤ roots faA dn ∧ (∀ a b, a < u → b < a → twM ta tb E docs rr bb pp qq a b = true → fa3 a = fa3 b) ∧ ∀ b, b < v → twM ta tb E docs rr bb pp qq u b = true → fa3 u = fa3 b) → (stC ≤ 1) → (stC = 0 → LeastOK glC ta tb E docs) → ∀ (ws1 : va_W) (H : Heap) (locs : List Loc) (ls : Array Slot), Sm (fun k => k = 33 ∨ k = 48 ∨ k = 49) ws ws1 → ws1[33]? = some (m0, .inr (10, [.int (nI th), .ref b1, .ref b2, .int (nI len), .int (nI ps), .ref b5, .ref b6, .ref b7, .int (nI nm), .int (nI bt_), .int (nI so), .int (nI wi), .ref b12, .int (nI fm), .ref b14, .ref b15, .ref b16, .int (nI dn), .int (nI ca), .int (nI stC), .ref b20, .ref b21, .ref b22, .ref b23, .ref b24, .int (nI xn), .ref b26, .int (nI bb), .int (nI rr), .int (nI pp), .int (nI qq), .ref b31])) → ws1[41]? = some (b15, .inl (cI, 48, .inl (fun jj => nI (gm jj)))) → ws1[42]? = some (b16, .inl (cI, 38400, .inl (fun jj => nI (gs jj)))) → ws1[43]? = some (b20, .inl (cI, 64, .inl (fun jj => nI (ta jj)))) → ws1[44]? = some (b21, .inl (cI, 64, .inl (fun jj => nI (tb jj)))) → ws1[45]? = some (b22, .inl (cI, 300, .inl (fun jj => nI (gw jj)))) → ws1[46]? = some (b23, .inl (cI, 300, .inl (fun jj => nI (go jj)))) → ws1[47]? = some (b24, .inl (cI, 300, .inl (fun jj => nI (gt jj)))) → ws1[48]? = some (b26, .inl (cI, 3072, .inl (fun jj => nI (glC jj)))) → ws1[49]? = some (b31, .inl (cI, 48, .inl (fun jj => nI (fa3 jj)))) → va_P D vwCl ws1 H → va_D A ws1 → va_S A s.heap H locs → lv_has ls 7 [(0, .ref m0), (1, .int (nI (d3.toNat))), (2, .int (nI u)), (3, .int (nI v))] → W p l e ({ frames := 4, cells := 0, slots := 0, locals := 100 }) s m ([.ref m0] : List Value).toArray below meth c H locs 0 0 (ZV D (TY cB cI cJ cO) (fun ws' => ∃ sta2 : Nat, ∃ gl2 : Nat → Nat, ∃ fa2 : Nat → Nat, (sta2 ≤ 1) ∧ (sta2 = 0 → LeastOK gl2 ta tb E docs) ∧ (FamOK fa2 dn (twM ta tb E docs rr bb pp qq)) ∧ Sm (fun k => k = 33 ∨ k = 48 ∨ k = 49) ws ws' ∧ ws'[33]? = some (m0, .inr (10, [.int (nI th), .ref b1, .ref b2, .int (nI len), .int (nI ps), .ref b5, .ref b6, .ref b7, .int (nI nm), .int (nI bt_), .int (nI so), .int (nI wi), .ref b12, .int (nI fm), .ref b14, .ref b15, .ref b16, .int (nI dn), .int (nI ca), .int (nI sta2), .ref b20, .ref b21, .ref b22, .ref b23, .ref b24, .int (nI xn), .ref b26, .int (nI bb), .int (nI rr), .int (nI pp), .int (nI qq), .ref b31])) ∧ ws'[48]? = some (b26, .inl (cI, 3072, .inl (fun jj => nI (gl2 jj)))) ∧ ws'[49]? = some (b31, .inl (cI, 48, .inl (fun jj => nI (fa2 jj))))) below [.ref m0] s 0 0 A) (F0 m 43 ls []) := by
                      intro fuel
                      induction fuel with
                      | zero => intro v d3 fa3 stC glC hfu; exact absurd hfu (Nat.not_lt_zero _)
                      | succ fuel ih_43 =>
                        intro v d3 fa3 stC glC hfu_43 hv hI3 hc31 hc30 hsta_glC hlo_glC ws1 H locs ls sm g33 g41 g42 g43 g44 g45 g46 g47 g48 g49 hP hD hS hl
                        refine lv_iload_n hx hb dX9_families_43 rfl (lv_at hl 3 rfl) ?_
                        refine lv_iload_n hx hb dX9_families_44 rfl (lv_at hl 2 rfl) ?_
                        refine nx_icmp_ge (tgt := 186) hx hb (by omega) (by omega) dX9_families_45 (by decide) (fun c_45 => ?_) (fun c_45 => ?_)
                        · refine lv_iinc (v := (nI (u + 1))) (lv' := [(2, .int (nI (u + 1))), (0, .ref m0), (1, .int (nI (d3.toNat))), (3, .int (nI v))]) hx hb dX9_families_186 hl (k := 2) rfl (nx_inc _ 1) (by decide) rfl (fun ls hl => ?_)
                          refine lv_goto (tgt := 33) hx hb dX9_families_189 (by decide) ?_
                          exact ih_33 (u + 1) d3 fa3 stC glC (by omega) (by omega) hI3 hc31 (fun h => ⟨(hc30 h).1, fun a b ha hb h9 => (Nat.lt_or_eq_of_le (Nat.le_of_lt_succ ha)).elim (fun q => (hc30 h).2.1 a b q hb h9) (fun q => by subst q; exact (hc30 h).2.2 b (by omega) h9)⟩) hsta_glC hlo_glC _ _ _ _ sm g33 g41 g42 g43 g44 g45 g46 g47 g48 g49 hP hD hS (lv_sub hl [1, 2, 0] rfl)
                        · have hfu := (hI3.1 u (by omega)).1
                          have hfv := (hI3.1 v (by omega)).1
                          refine lv_aload_n hx hb dX9_families_48 rfl (lv_at hl 0 rfl) ?_
                          refine va_get (D := D) (ci := 10) (v := .ref b31) (C := RX9) (T := TX9) (N := 32) hx hb hts hin_X9 hown hK hP 33 g33 rfl 31 (by decide) fl_133 (fun _ h9 => h9) rfl dX9_families_49 ?_
                          refine lv_iload_n hx hb dX9_families_52 rfl (lv_at hl 2 rfl) ?_
                          refine nx_iald hx hb hK hP 49 1 g49 rfl (k := u) (by omega) (by decide) dX9_families_53 ?_
                          refine lv_aload_n hx hb dX9_families_54 rfl (lv_at hl 0 rfl) ?_
                          refine va_get (D := D) (ci := 10) (v := .ref b31) (C := RX9) (T := TX9) (N := 32) hx hb hts hin_X9 hown hK hP 33 g33 rfl 31 (by decide) fl_133 (fun _ h9 => h9) rfl dX9_families_55 ?_
                          refine lv_iload_n hx hb dX9_families_58 rfl (lv_at hl 3 rfl) ?_
                          refine nx_iald hx hb hK hP 49 1 g49 rfl (k := v) (by omega) (by decide) dX9_families_59 ?_
                          refine nx_icmp_eq (tgt := 180) hx hb (by omega) (by omega) dX9_families_60 (by decide) (fun c_60 => ?_) (fun c_60 => ?_)
                          · refine lv_iinc (v := (nI (v + 1))) (lv' := [(3, .int (nI (v + 1))), (0, .ref m0), (1, .int (nI (d3.toNat))), (2, .int (nI u))]) hx hb dX9_families_180 hl (k := 3) rfl (nx_inc _ 1) (by decide) rfl (fun ls hl => ?_)
                            refine lv_goto (tgt := 43) hx hb dX9_families_183 (by decide) ?_
                            exact ih_43 (v + 1) d3 fa3 stC glC (by omega) (by omega) hI3 hc31 (fun h => ⟨(hc30 h).1, (hc30 h).2.1, lt_s (hc30 h).2.2 (fun h9 => by first | exact c_60 | (rw [bool0 c_69] at h9; cases h9))⟩) hsta_glC hlo_glC _ _ _ _ sm g33 g41 g42 g43 g44 g45 g46 g47 g48 g49 hP hD hS (lv_sub hl [1, 2, 3, 0] rfl)
                          · refine lv_aload_n hx hb dX9_families_63 rfl (lv_at hl 0 rfl) ?_
                            refine lv_iload_n hx hb dX9_families_64 rfl (lv_at hl 2 rfl) ?_
                            refine lv_iload_n hx hb dX9_families_65 rfl (lv_at hl 3 rfl) ?_
                            refine CI.go (va_runV (As := [.int (nI u), .int (nI v)]) (rest := []) ⟨hx, hb, hml, hown, hts⟩ (c_X9_areTwins  g33 g41 g42 g43 g44 g45 g46 g47 g48 hE hx9 h300 hsm hta hdd hdn h48 hds hsta_glC hlo_glC hbr hb64 hr64 hp4 hq4 (by omega) (by omega) _) (cwV 2 hts gX9_families_X9_areTwins rfl rfl rfl (by decide +kernel) ⟨Nat.le_of_ble_eq_true rfl, Nat.le_of_ble_eq_true rfl⟩) ⟨pw_blind, va_recv hK hP (ci := 10) (q0 := 33) rfl g33, fun U hU hW => pw_pre hK hP hD hU hW⟩ rfl rfl hl.1 rfl (lv_room (Nat.le_of_ble_eq_true rfl)) dX9_families_66 ⟨by decide, by decide⟩) hD hS hA (fun r_1 ws_2 H locs hp hP hD hS => ?_)
                            obtain ⟨st1, gl1_, rfl, hsta_gl1_, hlo_gl1_, sm_3, g33, g48⟩ := hp
                            have g41 := sm_3.get g41 (by simp)
                            have g42 := sm_3.get g42 (by simp)
                            have g43 := sm_3.get g43 (by simp)
                            have g44 := sm_3.get g44 (by simp)
                            have g45 := sm_3.get g45 (by simp)
                            have g46 := sm_3.get g46 (by simp)
                            have g47 := sm_3.get g47 (by simp)
                            have g49 := sm_3.get g49 (by simp)
                            have sm := sm.call sm_3 (by intro k hk; (try simp only at hk ⊢); omega)
                            have g33 : ws_2[33]? = some (m0, .inr (10, [.int (nI th), .ref b1, .ref b2, .int (nI len), .int (nI ps), .ref b5, .ref b6, .ref b7, .int (nI nm), .int (nI bt_), .int (nI so), .int (nI wi), .ref b12, .int (nI fm), .ref b14, .ref b15, .ref b16, .int (nI dn), .int (nI ca), .int (nI st1), .ref b20, .ref b21, .ref b22, .ref b23, .ref b24, .int (nI xn), .ref b26, .int (nI bb), .int (nI rr), .int (nI pp), .int (nI qq), .ref b31])) := g33
                            have g48 : ws_2[48]? = some (b26, .inl (cI, 3072, .inl (fun jj => nI (gl1_ jj)))) := g48
                            refine nx_if_ne (tgt := 75) hx hb (by cases twM ta tb E docs rr bb pp qq u v <;> decide) dX9_families_69 (by decide) (fun c_69 => ?_) (fun c_69 => ?_)
                            · refine lv_aload_n hx hb dX9_families_75 rfl (lv_at hl 0 rfl) ?_
                              refine va_get (D := D) (ci := 10) (v := .ref b31) (C := RX9) (T := TX9) (N := 32) hx hb hts hin_X9 hown hK hP 33 g33 rfl 31 (by decide) fl_133 (fun _ h9 => h9) rfl dX9_families_76 ?_
                              refine lv_iload_n hx hb dX9_families_79 rfl (lv_at hl 2 rfl) ?_
                              refine nx_iald hx hb hK hP 49 1 g49 rfl (k := u) (by omega) (by decide) dX9_families_80 ?_
                              refine lv_aload_n hx hb dX9_families_81 rfl (lv_at hl 0 rfl) ?_
                              refine va_get (D := D) (ci := 10) (v := .ref b31) (C := RX9) (T := TX9) (N := 32) hx hb hts hin_X9 hown hK hP 33 g33 rfl 31 (by decide) fl_133 (fun _ h9 => h9) rfl dX9_families_82 ?_
                              refine lv_iload_n hx hb dX9_families_85 rfl (lv_at hl 3 rfl) ?_
                              refine nx_iald hx hb hK hP 49 1 g49 rfl (k := v) (by omega) (by decide) dX9_families_86 ?_
                              refine nx_icmp_ge (tgt := 99) hx hb (by omega) (by omega) dX9_families_87 (by decide) (fun c_87 => ?_) (fun c_87 => ?_)
                              · refine lv_aload_n hx hb dX9_families_99 rfl (lv_at hl 0 rfl) ?_
                                refine va_get (D := D) (ci := 10) (v := .ref b31) (C := RX9) (T := TX9) (N := 32) hx hb hts hin_X9 hown hK hP 33 g33 rfl 31 (by decide) fl_133 (fun _ h9 => h9) rfl dX9_families_100 ?_
                                refine lv_iload_n hx hb dX9_families_103 rfl (lv_at hl 3 rfl) ?_
                                refine nx_iald hx hb hK hP 49 1 g49 rfl (k := v) (by omega) (by decide) dX9_families_104 ?_
                                refine lv_istore (lv' := [(4, .int (nI (fa3 v))), (0, .ref m0), (1, .int (nI (d3.toNat))), (2, .int (nI u)), (3, .int (nI v))]) hx hb dX9_families_105 hl (by decide) rfl (fun ls hl => ?_)
                                refine lv_aload_n hx hb dX9_families_107 rfl (lv_at hl 1 rfl) ?_
                                refine va_get (D := D) (ci := 10) (v := .ref b31) (C := RX9) (T := TX9) (N := 32) hx hb hts hin_X9 hown hK hP 33 g33 rfl 31 (by decide) fl_133 (fun _ h9 => h9) rfl dX9_families_108 ?_
                                refine lv_iload_n hx hb dX9_families_111 rfl (lv_at hl 3 rfl) ?_
                                refine nx_iald hx hb hK hP 49 1 g49 rfl (k := u) (by omega) (by decide) dX9_families_112 ?_
                                refine lv_aload_n hx hb dX9_families_113 rfl (lv_at hl 1 rfl) ?_
                                refine va_get (D := D) (ci := 10) (v := .ref b31) (C := RX9) (T := TX9) (N := 32) hx hb hts hin_X9 hown hK hP 33 g33 rfl 31 (by decide) fl_133 (fun _ h9 => h9) rfl dX9_families_114 ?_
                                refine lv_iload_n hx hb dX9_families_117 rfl (lv_at hl 4 rfl) ?_
                                refine nx_iald hx hb hK hP 49 1 g49 rfl (k := v) (by omega) (by decide) dX9_families_118 ?_
                                refine nx_icmp_ge (tgt := 131) hx hb (by omega) (by omega) dX9_families_119 (by decide) (fun c_119 => ?_) (fun c_119 => ?_)
                                · refine lv_aload_n hx hb dX9_families_131 rfl (lv_at hl 1 rfl) ?_
                                  refine va_get (D := D) (ci := 10) (v := .ref b31) (C := RX9) (T := TX9) (N := 32) hx hb hts hin_X9 hown hK hP 33 g33 rfl 31 (by decide) fl_133 (fun _ h9 => h9) rfl dX9_families_132 ?_
                                  refine lv_iload_n hx hb dX9_families_135 rfl (lv_at hl 3 rfl) ?_
                                  refine nx_iald hx hb hK hP 49 1 g49 rfl (k := u) (by omega) (by decide) dX9_families_136 ?_
                                  refine lv_istore (lv' := [(5, .int (nI (fa3 u))), (4, .int (nI (fa3 v))), (0, .ref m0), (1, .int (nI (d3.toNat))), (2, .int (nI u)), (3, .int (nI v))]) hx hb dX9_families_137 hl (by decide) rfl (fun ls hl => ?_)
                                  refine lv_iconst (v := nI 0) hx hb dX9_families_139 (by decide) ?_
                                  refine lv_istore (lv' := [(6, .int (nI 0)), (5, .int (nI (fa3 u))), (4, .int (nI (fa3 v))), (0, .ref m0), (1, .int (nI (d3.toNat))), (2, .int (nI u)), (3, .int (nI v))]) hx hb dX9_families_140 hl (by decide) rfl (fun ls hl => ?_)
                                  have lp_142 : ∀ (fuel : Nat) (k : Nat), dn - k < fuel → (k ≤ dn) → ∀ (ws1 : va_W) (H : Heap) (locs : List Loc) (ls : Array Slot), Sm (fun k => k = 33 ∨ k = 48 ∨ k = 49) ws ws1 → ws1[33]? = some (m0, .inr (10, [.int (nI th), .ref b1, .ref b2, .int (nI len), .int (nI ps), .ref b5, .ref b6, .ref b7, .int (nI nm), .int (nI bt_), .int (nI so), .int (nI wi), .ref b12, .int (nI fm), .ref b14, .ref b15, .ref b16, .int (nI dn), .int (nI ca), .int (nI st1), .ref b20, .ref b21, .ref b22, .ref b23, .ref b24, .int (nI xn), .ref b26, .int (nI bb), .int (nI rr), .int (nI pp), .int (nI qq), .ref b31])) → ws1[41]? = some (b15, .inl (cI, 48, .inl (fun jj => nI (gm jj)))) → ws1[42]? = some (b16, .inl (cI, 38400, .inl (fun jj => nI (gs jj)))) → ws1[43]? = some (b20, .inl (cI, 64, .inl (fun jj => nI (ta jj)))) → ws1[44]? = some (b21, .inl (cI, 64, .inl (fun jj => nI (tb jj)))) → ws1[45]? = some (b22, .inl (cI, 300, .inl (fun jj => nI (gw jj)))) → ws1[46]? = some (b23, .inl (cI, 300, .inl (fun jj => nI (go jj)))) → ws1[47]? = some (b24, .inl (cI, 300, .inl (fun jj => nI (gt jj)))) → ws1[48]? = some (b26, .inl (cI, 3072, .inl (fun jj => nI (gl1_ jj)))) → ws1[49]? = some (b31, .inl (cI, 48, .inl (fun jj => nI ((mrgP fa3 (fa3 u) (fa3 v) k) jj)))) → va_P D vwCl ws1 H → va_D A ws1 → va_S A s.heap H locs → lv_has ls 7 [(0, .ref m0), (1, .int (nI (d3.toNat))), (2, .int (nI u)), (3, .int (nI v)), (4, .int (nI (fa3 v))), (5, .int (nI (fa3 u))), (6, .int (nI k))] → W p l e ({ frames := 4, cells := 0, slots := 0, locals := 100 }) s m ([.ref m0] : List Value).toArray below meth c H locs 0 0 (ZV D (TY cB cI cJ cO) (fun ws' => ∃ sta2 : Nat, ∃ gl2 : Nat → Nat, ∃ fa2 : Nat → Nat, (sta2 ≤ 1) ∧ (sta2 = 0 → LeastOK gl2 ta tb E docs) ∧ (FamOK fa2 dn (twM ta tb E docs rr bb pp qq)) ∧ Sm (fun k => k = 33 ∨ k = 48 ∨ k = 49) ws ws' ∧ ws'[33]? = some (m0, .inr (10, [.int (nI th), .ref b1, .ref b2, .int (nI len), .int (nI ps), .ref b5, .ref b6, .ref b7, .int (nI nm), .int (nI bt_), .int (nI so), .int (nI wi), .ref b12, .int (nI fm), .ref b14, .ref b15, .ref b16, .int (nI dn), .int (nI ca), .int (nI sta2), .ref b20, .ref b21, .ref b22, .ref b23, .ref b24, .int (nI xn), .ref b26, .int (nI bb), .int (nI rr), .int (nI pp), .int (nI qq), .ref b31])) ∧ ws'[48]? = some (b26, .inl (cI, 3072, .inl (fun jj => nI (gl2 jj)))) ∧ ws'[49]? = some (b31, .inl (cI, 48, .inl (fun jj => nI (fa2 jj))))) below [.ref m0] s 0 0 A) (F0 m 142 ls []) := by
                                    intro fuel
                                    induction fuel with
                                    | zero => intro k hfu; exact absurd hfu (Nat.not_lt_zero _)
                                    | succ fuel ih_142 =>
                                      intro k hfu_142 hk ws1 H locs ls sm g33 g41 g42 g43 g44 g45 g46 g47 g48 g49 hP hD hS hl
                                      refine lv_iload hx hb dX9_families_142 (lv_at hl 6 rfl) ?_
                                      refine lv_aload_n hx hb dX9_families_144 rfl (lv_at hl 0 rfl) ?_
                                      refine va_get (D := D) (ci := 10) (v := .int (nI dn)) (C := RX9) (T := TX9) (N := 32) hx hb hts hin_X9 hown hK hP 33 g33 rfl 17 (by decide) fl_65 (fun _ h9 => h9) rfl dX9_families_145 ?_
                                      refine nx_icmp_ge (tgt := 178) hx hb (by omega) (by omega) dX9_families_148 (by decide) (fun c_148 => ?_) (fun c_148 => ?_)
                                      · refine lv_iconst (v := nI 1) hx hb dX9_families_178 (by decide) ?_
                                        refine lv_istore_n (lv' := [(1, .int (nI 1)), (0, .ref m0), (2, .int (nI u)), (3, .int (nI v)), (4, .int (nI (fa3 v))), (5, .int (nI (fa3 u))), (6, .int (nI k))]) hx hb dX9_families_179 rfl hl (by decide) rfl (fun ls hl => ?_)
                                        refine lv_iinc (v := (nI (v + 1))) (lv' := [(3, .int (nI (v + 1))), (1, .int (nI 1)), (0, .ref m0), (2, .int (nI u)), (4, .int (nI (fa3 v))), (5, .int (nI (fa3 u))), (6, .int (nI k))]) hx hb dX9_families_180 hl (k := 3) rfl (nx_inc _ 1) (by decide) rfl (fun ls hl => ?_)
                                        refine lv_goto (tgt := 43) hx hb dX9_families_183 (by decide) ?_
                                        have hmg := fam_merge hI3 (x := u) (y := v) (by omega) (by omega) (bool1 c_69) (hi := fa3 u) (lo := fa3 v) (by omega) (by omega) (fb := mrgP fa3 (fa3 u) (fa3 v) k) (fun q hq => by unfold mrgP mrg; by_cases h9 : fa3 q = fa3 u <;> simp [h9] <;> omega)
                                        exact ih_43 (v + 1) true (mrgP fa3 (fa3 u) (fa3 v) k) st1 gl1_ (by omega) (by omega) hmg.1 (fun _ => by have := hmg.2; cases d3 with | true => have := hc31 rfl; omega | false => have := (hc30 rfl).1; omega) (fun h => absurd h (by decide)) hsta_gl1_ hlo_gl1_ _ _ _ _ sm g33 g41 g42 g43 g44 g45 g46 g47 g48 g49 hP hD hS (lv_sub hl [2, 1, 3, 0] rfl)
                                      · have hfk := (hI3.1 k (by omega)).1
                                        have hmk : (mrgP fa3 (fa3 u) (fa3 v) k) k ≤ 48 := by rw [mrgP_at]; omega
                                        refine lv_aload_n hx hb dX9_families_151 rfl (lv_at hl 0 rfl) ?_
                                        refine va_get (D := D) (ci := 10) (v := .ref b31) (C := RX9) (T := TX9) (N := 32) hx hb hts hin_X9 hown hK hP 33 g33 rfl 31 (by decide) fl_133 (fun _ h9 => h9) rfl dX9_families_152 ?_
                                        refine lv_iload hx hb dX9_families_155 (lv_at hl 6 rfl) ?_
                                        refine nx_iald hx hb hK hP 49 1 g49 rfl (k := k) (by omega) (by decide) dX9_families_157 ?_
                                        refine lv_iload hx hb dX9_families_158 (lv_at hl 5 rfl) ?_
                                        refine nx_icmp_ne (tgt := 172) hx hb (by omega) (by omega) dX9_families_160 (by decide) (fun c_160 => ?_) (fun c_160 => ?_)
                                        · refine lv_iinc (v := (nI (k + 1))) (lv' := [(6, .int (nI (k + 1))), (0, .ref m0), (1, .int (nI (d3.toNat))), (2, .int (nI u)), (3, .int (nI v)), (4, .int (nI (fa3 v))), (5, .int (nI (fa3 u)))]) hx hb dX9_families_172 hl (k := 6) rfl (nx_inc _ 1) (by decide) rfl (fun ls hl => ?_)
                                          refine lv_goto (tgt := 142) hx hb dX9_families_175 (by decide) ?_
                                          have g49 : ws1[49]? = some (b31, .inl (cI, 48, .inl (fun jj => nI ((mrgP fa3 (fa3 u) (fa3 v) (k + 1)) jj)))) := by rw [← mrgP_f (by rw [← mrgP_at (fa := fa3) (hi := (fa3 u)) (lo := (fa3 v)) (i := k)]; exact c_160)]; exact g49
                                          exact ih_142 (k + 1) (by omega) (by omega) _ _ _ _ sm g33 g41 g42 g43 g44 g45 g46 g47 g48 g49 hP hD hS (lv_sub hl [1, 2, 3, 4, 5, 6, 0] rfl)
                                        · refine lv_aload_n hx hb dX9_families_163 rfl (lv_at hl 0 rfl) ?_
                                          refine va_get (D := D) (ci := 10) (v := .ref b31) (C := RX9) (T := TX9) (N := 32) hx hb hts hin_X9 hown hK hP 33 g33 rfl 31 (by decide) fl_133 (fun _ h9 => h9) rfl dX9_families_164 ?_
                                          refine lv_iload hx hb dX9_families_167 (lv_at hl 6 rfl) ?_
                                          refine lv_iload hx hb dX9_families_169 (lv_at hl 4 rfl) ?_
                                          refine nx_iastN hx hb hK hP hD hS 49 1 g49 rfl (k := k) (by omega) (by decide) dX9_families_171 (fun ws_4 H locs gq up_5 hP hD hS => ?_)
                                          have g49 : ws_4[49]? = some (b31, .inl (cI, 48, .inl (fun jj => nI ((va_up (mrgP fa3 (fa3 u) (fa3 v) k) k (fa3 v)) jj)))) := gq
                                          have g33 := up_5.get g33 (by decide)
                                          have g41 := up_5.get g41 (by decide)
                                          have g42 := up_5.get g42 (by decide)
                                          have g43 := up_5.get g43 (by decide)
                                          have g44 := up_5.get g44 (by decide)
                                          have g45 := up_5.get g45 (by decide)
                                          have g46 := up_5.get g46 (by decide)
                                          have g47 := up_5.get g47 (by decide)
                                          have g48 := up_5.get g48 (by decide)
                                          have sm := sm.up up_5 (by simp)
                                          refine lv_iinc (v := (nI (k + 1))) (lv' := [(6, .int (nI (k + 1))), (0, .ref m0), (1, .int (nI (d3.toNat))), (2, .int (nI u)), (3, .int (nI v)), (4, .int (nI (fa3 v))), (5, .int (nI (fa3 u)))]) hx hb dX9_families_172 hl (k := 6) rfl (nx_inc _ 1) (by decide) rfl (fun ls hl => ?_)
                                          refine lv_goto (tgt := 142) hx hb dX9_families_175 (by decide) ?_
                                          have g49 : ws_4[49]? = some (b31, .inl (cI, 48, .inl (fun jj => nI ((mrgP fa3 (fa3 u) (fa3 v) (k + 1)) jj)))) := by rw [← mrgP_t (by rw [← mrgP_at (fa := fa3) (hi := (fa3 u)) (lo := (fa3 v)) (i := k)]; exact c_160)]; exact g49
                                          exact ih_142 (k + 1) (by omega) (by omega) _ _ _ _ sm g33 g41 g42 g43 g44 g45 g46 g47 g48 g49 hP hD hS (lv_sub hl [1, 2, 3, 4, 5, 6, 0] rfl)
                                  have g49 : ws_2[49]? = some (b31, .inl (cI, 48, .inl (fun jj => nI ((mrgP fa3 (fa3 u) (fa3 v) 0) jj)))) := by rw [mrgP_0]; exact g49
                                  exact lp_142 _ 0 (Nat.lt_succ_self _) (by omega) _ _ _ _ sm g33 g41 g42 g43 g44 g45 g46 g47 g48 g49 hP hD hS (lv_sub hl [3, 4, 5, 6, 2, 1, 0] rfl)
                                · omega
                              · refine lv_aload_n hx hb dX9_families_90 rfl (lv_at hl 0 rfl) ?_
                                refine va_get (D := D) (ci := 10) (v := .ref b31) (C := RX9) (T := TX9) (N := 32) hx hb hts hin_X9 hown hK hP 33 g33 rfl 31 (by decide) fl_133 (fun _ h9 => h9) rfl dX9_families_91 ?_
                                refine lv_iload_n hx hb dX9_families_94 rfl (lv_at hl 2 rfl) ?_
                                refine nx_iald hx hb hK hP 49 1 g49 rfl (k := u) (by omega) (by decide) dX9_families_95 ?_
                                refine lv_goto (tgt := 105) hx hb dX9_families_96 (by decide) ?_
                                refine lv_istore (lv' := [(4, .int (nI (fa3 u))), (0, .ref m0), (1, .int (nI (d3.toNat))), (2, .int (nI u)), (3, .int (nI v))]) hx hb dX9_families_105 hl (by decide) rfl (fun ls hl => ?_)
                                refine lv_aload_n hx hb dX9_families_107 rfl (lv_at hl 1 rfl) ?_
                                refine va_get (D := D) (ci := 10) (v := .ref b31) (C := RX9) (T := TX9) (N := 32) hx hb hts hin_X9 hown hK hP 33 g33 rfl 31 (by decide) fl_133 (fun _ h9 => h9) rfl dX9_families_108 ?_
                                refine lv_iload_n hx hb dX9_families_111 rfl (lv_at hl 3 rfl) ?_
                                refine nx_iald hx hb hK hP 49 1 g49 rfl (k := u) (by omega) (by decide) dX9_families_112 ?_
                                refine lv_aload_n hx hb dX9_families_113 rfl (lv_at hl 1 rfl) ?_
                                refine va_get (D := D) (ci := 10) (v := .ref b31) (C := RX9) (T := TX9) (N := 32) hx hb hts hin_X9 hown hK hP 33 g33 rfl 31 (by decide) fl_133 (fun _ h9 => h9) rfl dX9_families_114 ?_
                                refine lv_iload_n hx hb dX9_families_117 rfl (lv_at hl 4 rfl) ?_
                                refine nx_iald hx hb hK hP 49 1 g49 rfl (k := v) (by omega) (by decide) dX9_families_118 ?_
                                refine nx_icmp_ge (tgt := 131) hx hb (by omega) (by omega) dX9_families_119 (by decide) (fun c_119 => ?_) (fun c_119 => ?_)
                                · omega
                                · refine lv_aload_n hx hb dX9_families_122 rfl (lv_at hl 1 rfl) ?_
                                  refine va_get (D := D) (ci := 10) (v := .ref b31) (C := RX9) (T := TX9) (N := 32) hx hb hts hin_X9 hown hK hP 33 g33 rfl 31 (by decide) fl_133 (fun _ h9 => h9) rfl dX9_families_123 ?_
                                  refine lv_iload_n hx hb dX9_families_126 rfl (lv_at hl 4 rfl) ?_
                                  refine nx_iald hx hb hK hP 49 1 g49 rfl (k := v) (by omega) (by decide) dX9_families_127 ?_
                                  refine lv_goto (tgt := 137) hx hb dX9_families_128 (by decide) ?_
                                  refine lv_istore (lv' := [(5, .int (nI (fa3 v))), (4, .int (nI (fa3 u))), (0, .ref m0), (1, .int (nI (d3.toNat))), (2, .int (nI u)), (3, .int (nI v))]) hx hb dX9_families_137 hl (by decide) rfl (fun ls hl => ?_)
                                  refine lv_iconst (v := nI 0) hx hb dX9_families_139 (by decide) ?_
                                  refine lv_istore (lv' := [(6, .int (nI 0)), (5, .int (nI (fa3 v))), (4, .int (nI (fa3 u))), (0, .ref m0), (1, .int (nI (d3.toNat))), (2, .int (nI u)), (3, .int (nI v))]) hx hb dX9_families_140 hl (by decide) rfl (fun ls hl => ?_)
                                  have lp_142 : ∀ (fuel : Nat) (k : Nat), dn - k < fuel → (k ≤ dn) → ∀ (ws1 : va_W) (H : Heap) (locs : List Loc) (ls : Array Slot), Sm (fun k => k = 33 ∨ k = 48 ∨ k = 49) ws ws1 → ws1[33]? = some (m0, .inr (10, [.int (nI th), .ref b1, .ref b2, .int (nI len), .int (nI ps), .ref b5, .ref b6, .ref b7, .int (nI nm), .int (nI bt_), .int (nI so), .int (nI wi), .ref b12, .int (nI fm), .ref b14, .ref b15, .ref b16, .int (nI dn), .int (nI ca), .int (nI st1), .ref b20, .ref b21, .ref b22, .ref b23, .ref b24, .int (nI xn), .ref b26, .int (nI bb), .int (nI rr), .int (nI pp), .int (nI qq), .ref b31])) → ws1[41]? = some (b15, .inl (cI, 48, .inl (fun jj => nI (gm jj)))) → ws1[42]? = some (b16, .inl (cI, 38400, .inl (fun jj => nI (gs jj)))) → ws1[43]? = some (b20, .inl (cI, 64, .inl (fun jj => nI (ta jj)))) → ws1[44]? = some (b21, .inl (cI, 64, .inl (fun jj => nI (tb jj)))) → ws1[45]? = some (b22, .inl (cI, 300, .inl (fun jj => nI (gw jj)))) → ws1[46]? = some (b23, .inl (cI, 300, .inl (fun jj => nI (go jj)))) → ws1[47]? = some (b24, .inl (cI, 300, .inl (fun jj => nI (gt jj)))) → ws1[48]? = some (b26, .inl (cI, 3072, .inl (fun jj => nI (gl1_ jj)))) → ws1[49]? = some (b31, .inl (cI, 48, .inl (fun jj => nI ((mrgP fa3 (fa3 v) (fa3 u) k) jj)))) → va_P D vwCl ws1 H → va_D A ws1 → va_S A s.heap H locs → lv_has ls 7 [(0, .ref m0), (1, .int (nI (d3.toNat))), (2, .int (nI u)), (3, .int (nI v)), (4, .int (nI (fa3 u))), (5, .int (nI (fa3 v))), (6, .int (nI k))] → W p l e ({ frames := 4, cells := 0, slots := 0, locals := 100 }) s m ([.ref m0] : List Value).toArray below meth c H locs 0 0 (ZV D (TY cB cI cJ cO) (fun ws' => ∃ sta2 : Nat, ∃ gl2 : Nat → Nat, ∃ fa2 : Nat → Nat, (sta2 ≤ 1) ∧ (sta2 = 0 → LeastOK gl2 ta tb E docs) ∧ (FamOK fa2 dn (twM ta tb E docs rr bb pp qq)) ∧ Sm (fun k => k = 33 ∨ k = 48 ∨ k = 49) ws ws' ∧ ws'[33]? = some (m0, .inr (10, [.int (nI th), .ref b1, .ref b2, .int (nI len), .int (nI ps), .ref b5, .ref b6, .ref b7, .int (nI nm), .int (nI bt_), .int (nI so), .int (nI wi), .ref b12, .int (nI fm), .ref b14, .ref b15, .ref b16, .int (nI dn), .int (nI ca), .int (nI sta2), .ref b20, .ref b21, .ref b22, .ref b23, .ref b24, .int (nI xn), .ref b26, .int (nI bb), .int (nI rr), .int (nI pp), .int (nI qq), .ref b31])) ∧ ws'[48]? = some (b26, .inl (cI, 3072, .inl (fun jj => nI (gl2 jj)))) ∧ ws'[49]? = some (b31, .inl (cI, 48, .inl (fun jj => nI (fa2 jj))))) below [.ref m0] s 0 0 A) (F0 m 142 ls []) := by
                                    intro fuel
                                    induction fuel with
                                    | zero => intro k hfu; exact absurd hfu (Nat.not_lt_zero _)
                                    | succ fuel ih_142 =>
                                      intro k hfu_142 hk ws1 H locs ls sm g33 g41 g42 g43 g44 g45 g46 g47 g48 g49 hP hD hS hl
                                      refine lv_iload hx hb dX9_families_142 (lv_at hl 6 rfl) ?_
                                      refine lv_aload_n hx hb dX9_families_144 rfl (lv_at hl 0 rfl) ?_
                                      refine va_get (D := D) (ci := 10) (v := .int (nI dn)) (C := RX9) (T := TX9) (N := 32) hx hb hts hin_X9 hown hK hP 33 g33 rfl 17 (by decide) fl_65 (fun _ h9 => h9) rfl dX9_families_145 ?_
                                      refine nx_icmp_ge (tgt := 178) hx hb (by omega) (by omega) dX9_families_148 (by decide) (fun c_148 => ?_) (fun c_148 => ?_)
                                      · refine lv_iconst (v := nI 1) hx hb dX9_families_178 (by decide) ?_
                                        refine lv_istore_n (lv' := [(1, .int (nI 1)), (0, .ref m0), (2, .int (nI u)), (3, .int (nI v)), (4, .int (nI (fa3 u))), (5, .int (nI (fa3 v))), (6, .int (nI k))]) hx hb dX9_families_179 rfl hl (by decide) rfl (fun ls hl => ?_)
                                        refine lv_iinc (v := (nI (v + 1))) (lv' := [(3, .int (nI (v + 1))), (1, .int (nI 1)), (0, .ref m0), (2, .int (nI u)), (4, .int (nI (fa3 u))), (5, .int (nI (fa3 v))), (6, .int (nI k))]) hx hb dX9_families_180 hl (k := 3) rfl (nx_inc _ 1) (by decide) rfl (fun ls hl => ?_)
                                        refine lv_goto (tgt := 43) hx hb dX9_families_183 (by decide) ?_
                                        have hmg := fam_merge hI3 (x := u) (y := v) (by omega) (by omega) (bool1 c_69) (hi := fa3 v) (lo := fa3 u) (by omega) (by omega) (fb := mrgP fa3 (fa3 v) (fa3 u) k) (fun q hq => by unfold mrgP mrg; by_cases h9 : fa3 q = fa3 v <;> simp [h9] <;> omega)
                                        exact ih_43 (v + 1) true (mrgP fa3 (fa3 v) (fa3 u) k) st1 gl1_ (by omega) (by omega) hmg.1 (fun _ => by have := hmg.2; cases d3 with | true => have := hc31 rfl; omega | false => have := (hc30 rfl).1; omega) (fun h => absurd h (by decide)) hsta_gl1_ hlo_gl1_ _ _ _ _ sm g33 g41 g42 g43 g44 g45 g46 g47 g48 g49 hP hD hS (lv_sub hl [2, 1, 3, 0] rfl)
                                      · have hfk := (hI3.1 k (by omega)).1
                                        have hmk : (mrgP fa3 (fa3 v) (fa3 u) k) k ≤ 48 := by rw [mrgP_at]; omega
                                        refine lv_aload_n hx hb dX9_families_151 rfl (lv_at hl 0 rfl) ?_
                                        refine va_get (D := D) (ci := 10) (v := .ref b31) (C := RX9) (T := TX9) (N := 32) hx hb hts hin_X9 hown hK hP 33 g33 rfl 31 (by decide) fl_133 (fun _ h9 => h9) rfl dX9_families_152 ?_
                                        refine lv_iload hx hb dX9_families_155 (lv_at hl 6 rfl) ?_
                                        refine nx_iald hx hb hK hP 49 1 g49 rfl (k := k) (by omega) (by decide) dX9_families_157 ?_
                                        refine lv_iload hx hb dX9_families_158 (lv_at hl 5 rfl) ?_
                                        refine nx_icmp_ne (tgt := 172) hx hb (by omega) (by omega) dX9_families_160 (by decide) (fun c_160 => ?_) (fun c_160 => ?_)
                                        · refine lv_iinc (v := (nI (k + 1))) (lv' := [(6, .int (nI (k + 1))), (0, .ref m0), (1, .int (nI (d3.toNat))), (2, .int (nI u)), (3, .int (nI v)), (4, .int (nI (fa3 u))), (5, .int (nI (fa3 v)))]) hx hb dX9_families_172 hl (k := 6) rfl (nx_inc _ 1) (by decide) rfl (fun ls hl => ?_)
                                          refine lv_goto (tgt := 142) hx hb dX9_families_175 (by decide) ?_
                                          have g49 : ws1[49]? = some (b31, .inl (cI, 48, .inl (fun jj => nI ((mrgP fa3 (fa3 v) (fa3 u) (k + 1)) jj)))) := by rw [← mrgP_f (by rw [← mrgP_at (fa := fa3) (hi := (fa3 v)) (lo := (fa3 u)) (i := k)]; exact c_160)]; exact g49
                                          exact ih_142 (k + 1) (by omega) (by omega) _ _ _ _ sm g33 g41 g42 g43 g44 g45 g46 g47 g48 g49 hP hD hS (lv_sub hl [1, 2, 3, 4, 5, 6, 0] rfl)
                                        · refine lv_aload_n hx hb dX9_families_163 rfl (lv_at hl 0 rfl) ?_
                                          refine va_get (D := D) (ci := 10) (v := .ref b31) (C := RX9) (T := TX9) (N := 32) hx hb hts hin_X9 hown hK hP 33 g33 rfl 31 (by decide) fl_133 (fun _ h9 => h9) rfl dX9_families_164 ?_
                                          refine lv_iload hx hb dX9_families_167 (lv_at hl 6 rfl) ?_
                                          refine lv_iload hx hb dX9_families_169 (lv_at hl 4 rfl) ?_
                                          refine nx_iastN hx hb hK hP hD hS 49 1 g49 rfl (k := k) (by omega) (by decide) dX9_families_171 (fun ws_6 H locs gq up_7 hP hD hS => ?_)
                                          have g49 : ws_6[49]? = some (b31, .inl (cI, 48, .inl (fun jj => nI ((va_up (mrgP fa3 (fa3 v) (fa3 u) k) k (fa3 u)) jj)))) := gq
                                          have g33 := up_7.get g33 (by decide)
                                          have g41 := up_7.get g41 (by decide)
                                          have g42 := up_7.get g42 (by decide)
                                          have g43 := up_7.get g43 (by decide)
                                          have g44 := up_7.get g44 (by decide)
                                          have g45 := up_7.get g45 (by decide)
                                          have g46 := up_7.get g46 (by decide)
                                          have g47 := up_7.get g47 (by decide)
                                          have g48 := up_7.get g48 (by decide)
                                          have sm := sm.up up_7 (by simp)
                                          refine lv_iinc (v := (nI (k + 1))) (lv' := [(6, .int (nI (k + 1))), (0, .ref m0), (1, .int (nI (d3.toNat))), (2, .int (nI u)), (3, .int (nI v)), (4, .int (nI (fa3 u))), (5, .int (nI (fa3 v)))]) hx hb dX9_families_172 hl (k := 6) rfl (nx_inc _ 1) (by decide) rfl (fun ls hl => ?_)
                                          refine lv_goto (tgt := 142) hx hb dX9_families_175 (by decide) ?_
                                          have g49 : ws_6[49]? = some (b31, .inl (cI, 48, .inl (fun jj => nI ((mrgP fa3 (fa3 v) (fa3 u) (k + 1)) jj)))) := by rw [← mrgP_t (by rw [← mrgP_at (fa := fa3) (hi := (fa3 v)) (lo := (fa3 u)) (i := k)]; exact c_160)]; exact g49
                                          exact ih_142 (k + 1) (by omega) (by omega) _ _ _ _ sm g33 g41 g42 g43 g44 g45 g46 g47 g48 g49 hP hD hS (lv_sub hl [1, 2, 3, 4, 5, 6, 0] rfl)
                                  have g49 : ws_2[49]? = some (b31, .inl (cI, 48, .inl (fun jj => nI ((mrgP fa3 (fa3 v) (fa3 u) 0) jj)))) := by rw [mrgP_0]; exact g49
                                  exact lp_142 _ 0 (Nat.lt_succ_self _) (by omega) _ _ _ _ sm g33 g41 g42 g43 g44 g45 g46 g47 g48 g49 hP hD hS (lv_sub hl [3, 4, 5, 6, 2, 1, 0] rfl)
                            · refine lv_goto (tgt := 180) hx hb dX9_families_72 (by decide) ?_
                              refine lv_iinc (v := (nI (v + 1))) (lv' := [(3, .int (nI (v + 1))), (0, .ref m0), (1, .int (nI (d3.toNat))), (2, .int (nI u))]) hx hb dX9_families_180 hl (k := 3) rfl (nx_inc _ 1) (by decide) rfl (fun ls hl => ?_)
                              refine lv_goto (tgt := 43) hx hb dX9_families_183 (by decide) ?_
                              exact ih_43 (v + 1) d3 fa3 st1 gl1_ (by omega) (by omega) hI3 hc31 (fun h => ⟨(hc30 h).1, (hc30 h).2.1, lt_s (hc30 h).2.2 (fun h9 => by first | exact c_60 | (rw [bool0 c_69] at h9; cases h9))⟩) hsta_gl1_ hlo_gl1_ _ _ _ _ sm g33 g41 g42 g43 g44 g45 g46 g47 g48 g49 hP hD hS (lv_sub hl [1, 2, 3, 0] rfl)
                    exact lp_43 _ 0 d2 fa2 stB glB (Nat.lt_succ_self _) (Nat.zero_le _) hI2 hc21 (fun h => ⟨(hc20 h).1, (hc20 h).2, fun b hb => absurd hb (Nat.not_lt_zero b)⟩) hsta_glB hlo_glB _ _ _ _ sm g33 g41 g42 g43 g44 g45 g46 g47 g48 g49 hP hD hS (lv_sub hl [1, 2, 3, 0] rfl)
              exact lp_33 _ 0 false faA stA glA (Nat.lt_succ_self _) (Nat.zero_le _) hI1 (fun h => absurd h (by decide)) (fun _ => ⟨Nat.le_refl _, fun a b ha => absurd ha (Nat.not_lt_zero a)⟩) hsta_glA hlo_glA _ _ _ _ sm g33 g41 g42 g43 g44 g45 g46 g47 g48 g49 hP hD hS (lv_sub hl [2, 1, 0] rfl)
        exact lp_25 _ true fa1 sta gl (Nat.lt_succ_self _) (fam_start dn _ (fun k hk => hfi k (by omega))) (fun h => absurd h (by decide)) hsta hlo _ _ _ _ sm g33 g41 g42 g43 g44 g45 g46 g47 g48 g49 hP hD hS (lv_sub hl [1, 0] rfl)
      · refine lv_aload_n hx hb dX9_families_10 rfl (lv_at hl 0 rfl) ?_
        refine va_get (D := D) (ci := 10) (v := .ref b31) (C := RX9) (T := TX9) (N := 32) hx hb hts hin_X9 hown hK hP 33 g33 rfl 31 (by decide) fl_133 (fun _ h9 => h9) rfl dX9_families_11 ?_
        refine lv_iload_n hx hb dX9_families_14 rfl (lv_at hl 1 rfl) ?_
        refine lv_iload_n hx hb dX9_families_15 rfl (lv_at hl 1 rfl) ?_
        refine nx_iastN hx hb hK hP hD hS 49 1 g49 rfl (k := i) (by omega) (by decide) dX9_families_16 (fun ws_8 H locs gq up_9 hP hD hS => ?_)
        have g49 : ws_8[49]? = some (b31, .inl (cI, 48, .inl (fun jj => nI ((va_up fa1 i i) jj)))) := gq
        have g33 := up_9.get g33 (by decide)
        have g41 := up_9.get g41 (by decide)
        have g42 := up_9.get g42 (by decide)
        have g43 := up_9.get g43 (by decide)
        have g44 := up_9.get g44 (by decide)
        have g45 := up_9.get g45 (by decide)
        have g46 := up_9.get g46 (by decide)
        have g47 := up_9.get g47 (by decide)
        have g48 := up_9.get g48 (by decide)
        have sm := sm.up up_9 (by simp)
        refine lv_iinc (v := (nI (i + 1))) (lv' := [(1, .int (nI (i + 1))), (0, .ref m0)]) hx hb dX9_families_17 hl (k := 1) rfl (nx_inc _ 1) (by decide) rfl (fun ls hl => ?_)
        refine lv_goto (tgt := 2) hx hb dX9_families_20 (by decide) ?_
        exact ih_2 (i + 1) _ (by omega) (by omega) (lt_s (fun k hk => by rw [va_up_ne _ _ (by omega)]; exact hfi k hk) (va_up_self _ _ _)) _ _ _ _ sm g33 g41 g42 g43 g44 g45 g46 g47 g48 g49 hP hD hS (lv_sub hl [1, 0] rfl)
  exact lp_2 _ 0 fa (Nat.lt_succ_self _) (Nat.zero_le _) (fun k hk => absurd hk (Nat.not_lt_zero k)) _ _ _ _ sm g33 g41 g42 g43 g44 g45 g46 g47 g48 g49 hP hD hS (lv_sub hl [1, 0] rfl)
