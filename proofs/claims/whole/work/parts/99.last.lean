theorem rm_step {gn gm gs : Nat → Nat} {docs : List (Nat × List Nat)} {k q i : Nat} (hk : k < docs.length) (hkq : k ≤ q) (hq : q + 1 < docs.length) (hds : Dsm docs) (hi : i = docs[q + 1].2.length) (hlo : ∀ a (ha : a < (docs.eraseIdx k).length), a < q → RowD gn gm gs a (docs.eraseIdx k)[a]) (hhi : ∀ a (ha : a < docs.length), q ≤ a → RowD gn gm gs a docs[a]) :
    (∀ a (ha : a < (docs.eraseIdx k).length), a < q + 1 → RowD (va_up gn q (gn (q + 1))) (va_up gm q (gm (q + 1))) (cp8 gs q i) a (docs.eraseIdx k)[a]) ∧ (∀ a (ha : a < docs.length), q + 1 ≤ a → RowD (va_up gn q (gn (q + 1))) (va_up gm q (gm (q + 1))) (cp8 gs q i) a docs[a]) := by
  have h8 : ∀ d ∈ docs, d.2.length ≤ 800 := fun d hd => (hds d hd).2.1
  have hi8 : i ≤ 800 := by rw [hi]; exact h8 _ (List.getElem_mem _)
  refine ⟨fun a ha h => ?_, fun a ha h => ?_⟩
  · by_cases e : a = q
    · subst e
      have h1 := hhi (a + 1) hq (by omega)
      have e2 : (docs.eraseIdx k)[a] = docs[a + 1] := by rw [rmD_get hk ha, dif_neg (by omega)]
      rw [e2]
      refine ⟨by rw [va_up_self]; exact h1.1, by rw [va_up_self]; exact h1.2.1, fun t ht => ?_⟩
      rw [cp8_in (by omega)]
      exact h1.2.2 t ht
    · have h1 := hlo a ha (by omega)
      have hl : (docs.eraseIdx k)[a].2.length ≤ 800 := h8 _ (List.mem_of_mem_eraseIdx (List.getElem_mem _))
      exact h1.of_eq (va_up_ne _ _ e) (va_up_ne _ _ e) (fun t ht => cp8_out (by omega))
  · have h1 := hhi a ha (by omega)
    exact h1.of_eq (va_up_ne _ _ (by omega)) (va_up_ne _ _ (by omega)) (fun t ht => cp8_out (by omega))

set_option maxHeartbeats 4000000 in
set_option maxRecDepth 100000 in
theorem c_X9_remove {D : va_G} {cB cI cJ cO : ClassId} {l : Launch} {m0 b1 b2 b5 b6 b7 b12 b14 b15 b16 b20 b21 b22 b23 b24 b26 b31 th len ps nm bt_ so wi fm dn ca sta xn bb rr pp qq : Nat} {gn gm gs : Nat → Nat} {docs : List (Nat × List Nat)} {x : Int32} {ws : va_W} (g33 : ws[33]? = some (m0, .inr (10, [.int (nI th), .ref b1, .ref b2, .int (nI len), .int (nI ps), .ref b5, .ref b6, .ref b7, .int (nI nm), .int (nI bt_), .int (nI so), .int (nI wi), .ref b12, .int (nI fm), .ref b14, .ref b15, .ref b16, .int (nI dn), .int (nI ca), .int (nI sta), .ref b20, .ref b21, .ref b22, .ref b23, .ref b24, .int (nI xn), .ref b26, .int (nI bb), .int (nI rr), .int (nI pp), .int (nI qq), .ref b31]))) (g40 : ws[40]? = some (b14, .inl (cI, 48, .inl (fun jj => nI (gn jj))))) (g41 : ws[41]? = some (b15, .inl (cI, 48, .inl (fun jj => nI (gm jj))))) (g42 : ws[42]? = some (b16, .inl (cI, 38400, .inl (fun jj => nI (gs jj))))) (hdd : HdD gn gm gs docs) (hdn : docs.length = dn) (h48 : dn ≤ 48) (hds : Dsm docs) : CI D (TY cB cI cJ cO) l yX9_remove wsX9_remove ({ frames := 1, cells := 0, slots := 0, locals := 22 }) [.ref m0, .int x] ws (fun r ws' => ∃ gn2 : Nat → Nat, ∃ gm2 : Nat → Nat, ∃ gs2 : Nat → Nat, r = nI ((slotOf (docs.map (fun d => d.1)) x).isSome.toNat) ∧ (HdD gn2 gm2 gs2 (rmD docs (slotOf (docs.map (fun d => d.1)) x))) ∧ Sm (fun k => k = 33 ∨ k = 40 ∨ k = 41 ∨ k = 42) ws ws' ∧ ws'[33]? = some (m0, .inr (10, [.int (nI 0), .ref b1, .ref b2, .int (nI len), .int (nI ps), .ref b5, .ref b6, .ref b7, .int (nI nm), .int (nI bt_), .int (nI so), .int (nI wi), .ref b12, .int (nI fm), .ref b14, .ref b15, .ref b16, .int (nI ((rmD docs (slotOf (docs.map (fun d => d.1)) x)).length)), .int (nI ca), .int (nI (bif (slotOf (docs.map (fun d => d.1)) x).isSome then 1 else sta)), .ref b20, .ref b21, .ref b22, .ref b23, .ref b24, .int (nI xn), .ref b26, .int (nI bb), .int (nI rr), .int (nI pp), .int (nI qq), .ref b31])) ∧ ws'[40]? = some (b14, .inl (cI, 48, .inl (fun jj => nI (gn2 jj)))) ∧ ws'[41]? = some (b15, .inl (cI, 48, .inl (fun jj => nI (gm2 jj)))) ∧ ws'[42]? = some (b16, .inl (cI, 38400, .inl (fun jj => nI (gs2 jj))))) := by
  refine CI.of (cc := cX9_remove) (maxL := 5) (ret := (some .boolean)) (by decide) rfl (Nat.le_of_ble_eq_true rfl) ?_
  intro p e s m below meth c A C hK hP hD hA hS ls hl
  obtain ⟨hx, hb, hr, hml, hts, hown, hlocks, hnm⟩ := id C
  have fl_1 := hts (.fieldLink RX9 1 "TwinFinderModel" "thrown" "I") (by decide +kernel)
  have fl_65 := hts (.fieldLink RX9 65 "TwinFinderModel" "documents" "I") (by decide +kernel)
  have fl_75 := hts (.fieldLink RX9 75 "TwinFinderModel" "set" "[I") (by decide +kernel)
  have fl_78 := hts (.fieldLink RX9 78 "TwinFinderModel" "many" "[I") (by decide +kernel)
  have fl_81 := hts (.fieldLink RX9 81 "TwinFinderModel" "number" "[I") (by decide +kernel)
  have fl_84 := hts (.fieldLink RX9 84 "TwinFinderModel" "stale" "Z") (by decide +kernel)
  have hin_X9 : ∀ w ∈ u_ws RX9 TX9 32, w ∈ wsX9_remove := by decide +kernel
  have hl : lv_has ls 5 [(0, .ref m0), (1, .int x)] := hl
  have sm : Sm (fun k => k = 33 ∨ k = 40 ∨ k = 41 ∨ k = 42) ws ws := Sm.rf
  have hc0 : (0 : Nat) ≤ 0 := by decide
  have hs0 : (0 : Nat) ≤ 0 := by decide
  refine lv_aload_n hx hb dX9_remove_0 rfl (lv_at hl 0 rfl) ?_
  refine lv_iconst (v := nI 0) hx hb dX9_remove_1 (by decide) ?_
  refine nx_put (D := D) (ci := 10) (v := .int (nI 0)) (ty := .int) (C := RX9) (T := TX9) (N := 32) hx hb hts hin_X9 tyX9 tyX9_ok nmX9 hown hK hP hD hS 33 g33 rfl 0 (by decide) fl_1 (fun _ h9 => h9) rfl (by decide +kernel) rfl rfl (Nat.le_of_ble_eq_true rfl) dX9_remove_2 (fun ws_1 H locs gq up_2 hP hD hS => ?_)
  have g33 : ws_1[33]? = some (m0, .inr (10, [.int (nI 0), .ref b1, .ref b2, .int (nI len), .int (nI ps), .ref b5, .ref b6, .ref b7, .int (nI nm), .int (nI bt_), .int (nI so), .int (nI wi), .ref b12, .int (nI fm), .ref b14, .ref b15, .ref b16, .int (nI dn), .int (nI ca), .int (nI sta), .ref b20, .ref b21, .ref b22, .ref b23, .ref b24, .int (nI xn), .ref b26, .int (nI bb), .int (nI rr), .int (nI pp), .int (nI qq), .ref b31])) := gq
  have g40 := up_2.get g40 (by decide)
  have g41 := up_2.get g41 (by decide)
  have g42 := up_2.get g42 (by decide)
  have sm := sm.up up_2 (by simp)
  refine lv_aload_n hx hb dX9_remove_5 rfl (lv_at hl 0 rfl) ?_
  refine lv_iload_n hx hb dX9_remove_6 rfl (lv_at hl 1 rfl) ?_
  refine CI.go (va_runV (As := [.int x]) (rest := []) ⟨hx, hb, hml, hown, hts⟩ (c_X9_slot  g33 g40 hdd.num (by rw [List.length_map]; exact hdn) h48 _) (cwV 1 hts gX9_remove_X9_slot rfl rfl rfl (by decide +kernel) ⟨Nat.le_of_ble_eq_true rfl, Nat.le_of_ble_eq_true rfl⟩) ⟨pw_blind, va_recv hK hP (ci := 10) (q0 := 33) rfl g33, fun U hU hW => pw_pre hK hP hD hU hW⟩ rfl rfl hl.1 rfl (lv_room (Nat.le_of_ble_eq_true rfl)) dX9_remove_7 ⟨by decide, by decide⟩) hD hS hA (fun r_3 ws_4 H locs hp hP hD hS => ?_)
  obtain ⟨rfl, rfl⟩ := hp
  rcases hsl_k : slotOf (docs.map (fun d => d.1)) x with _ | k
  · rw [show optI (slotOf (docs.map (fun d => d.1)) x) = -1 from by rw [hsl_k]; rfl]
    refine lv_istore_n (lv' := [(2, .int (-1)), (0, .ref m0), (1, .int x)]) hx hb dX9_remove_10 rfl hl (by decide) rfl (fun ls hl => ?_)
    refine lv_iload_n hx hb dX9_remove_11 rfl (lv_at hl 0 rfl) ?_
    refine lv_if_ge (tgt := 17) hx hb dX9_remove_12 (by decide) (fun c_12 => absurd c_12 (by decide)) (fun c_12 => ?_)
    refine lv_iconst (v := nI 0) hx hb dX9_remove_15 (by decide) ?_
    have g33 : ws_1[33]? = some (m0, .inr (10, [.int (nI 0), .ref b1, .ref b2, .int (nI len), .int (nI ps), .ref b5, .ref b6, .ref b7, .int (nI nm), .int (nI bt_), .int (nI so), .int (nI wi), .ref b12, .int (nI fm), .ref b14, .ref b15, .ref b16, .int (nI ((rmD docs (slotOf (docs.map (fun d => d.1)) x)).length)), .int (nI ca), .int (nI (bif (slotOf (docs.map (fun d => d.1)) x).isSome then 1 else sta)), .ref b20, .ref b21, .ref b22, .ref b23, .ref b24, .int (nI xn), .ref b26, .int (nI bb), .int (nI rr), .int (nI pp), .int (nI qq), .ref b31])) := by rw [hsl_k, show (rmD docs none).length = dn from hdn]; exact g33
    exact CI.ret (v := (nI 0)) C hK hP hD hS (by decide) (⟨gn, gm, gs, (by rw [hsl_k]; rfl), (by rw [hsl_k]; exact hdd), sm, g33, g40, g41, g42⟩) hc0 hs0 dX9_remove_16
  · rw [show optI (slotOf (docs.map (fun d => d.1)) x) = nI k from by rw [hsl_k]; rfl]
    have hkn : k < dn := by have := (slotOf_lt hsl_k).1; rw [List.length_map, hdn] at this; exact this
    have hkr := hdd k (by omega)
    have hks := hds docs[k] (List.getElem_mem _)
    refine lv_istore_n (lv' := [(2, .int (nI k)), (0, .ref m0), (1, .int x)]) hx hb dX9_remove_10 rfl hl (by decide) rfl (fun ls hl => ?_)
    refine lv_iload_n hx hb dX9_remove_11 rfl (lv_at hl 0 rfl) ?_
    refine nx_if_ge (tgt := 17) hx hb (by omega) dX9_remove_12 (by decide) ?_
    refine lv_aload_n hx hb dX9_remove_17 rfl (lv_at hl 1 rfl) ?_
    refine lv_dup hx hb dX9_remove_18 rfl ?_
    refine va_get (D := D) (ci := 10) (v := .int (nI dn)) (C := RX9) (T := TX9) (N := 32) hx hb hts hin_X9 hown hK hP 33 g33 rfl 17 (by decide) fl_65 (fun _ h9 => h9) rfl dX9_remove_19 ?_
    refine lv_iconst (v := nI 1) hx hb dX9_remove_22 (by decide) ?_
    refine nx_isub hx hb (by omega) dX9_remove_23 ?_
    refine nx_put (D := D) (ci := 10) (v := .int (nI (dn - 1))) (ty := .int) (C := RX9) (T := TX9) (N := 32) hx hb hts hin_X9 tyX9 tyX9_ok nmX9 hown hK hP hD hS 33 g33 rfl 17 (by decide) fl_65 (fun _ h9 => h9) rfl (by decide +kernel) rfl rfl (Nat.le_of_ble_eq_true rfl) dX9_remove_24 (fun ws_5 H locs gq up_6 hP hD hS => ?_)
    have g33 : ws_5[33]? = some (m0, .inr (10, [.int (nI 0), .ref b1, .ref b2, .int (nI len), .int (nI ps), .ref b5, .ref b6, .ref b7, .int (nI nm), .int (nI bt_), .int (nI so), .int (nI wi), .ref b12, .int (nI fm), .ref b14, .ref b15, .ref b16, .int (nI (dn - 1)), .int (nI ca), .int (nI sta), .ref b20, .ref b21, .ref b22, .ref b23, .ref b24, .int (nI xn), .ref b26, .int (nI bb), .int (nI rr), .int (nI pp), .int (nI qq), .ref b31])) := gq
    have g40 := up_6.get g40 (by decide)
    have g41 := up_6.get g41 (by decide)
    have g42 := up_6.get g42 (by decide)
    have sm := sm.up up_6 (by simp)
    refine lv_iload_n hx hb dX9_remove_27 rfl (lv_at hl 0 rfl) ?_
    refine lv_istore_n (lv' := [(3, .int (nI k)), (2, .int (nI k)), (0, .ref m0), (1, .int x)]) hx hb dX9_remove_28 rfl hl (by decide) rfl (fun ls hl => ?_)
    have lp_29 : ∀ (fuel : Nat) (q : Nat) (gn2 gm2 gs2 : Nat → Nat), dn - 1 - q < fuel → (k ≤ q ∧ q ≤ dn - 1) → (∀ a (ha : a < (docs.eraseIdx k).length), a < q → RowD gn2 gm2 gs2 a (docs.eraseIdx k)[a]) → (∀ a (ha : a < docs.length), q ≤ a → RowD gn2 gm2 gs2 a docs[a]) → ∀ (ws1 : va_W) (H : Heap) (locs : List Loc) (ls : Array Slot), Sm (fun k => k = 33 ∨ k = 40 ∨ k = 41 ∨ k = 42) ws ws1 → ws1[33]? = some (m0, .inr (10, [.int (nI 0), .ref b1, .ref b2, .int (nI len), .int (nI ps), .ref b5, .ref b6, .ref b7, .int (nI nm), .int (nI bt_), .int (nI so), .int (nI wi), .ref b12, .int (nI fm), .ref b14, .ref b15, .ref b16, .int (nI (dn - 1)), .int (nI ca), .int (nI sta), .ref b20, .ref b21, .ref b22, .ref b23, .ref b24, .int (nI xn), .ref b26, .int (nI bb), .int (nI rr), .int (nI pp), .int (nI qq), .ref b31])) → ws1[40]? = some (b14, .inl (cI, 48, .inl (fun jj => nI (gn2 jj)))) → ws1[41]? = some (b15, .inl (cI, 48, .inl (fun jj => nI (gm2 jj)))) → ws1[42]? = some (b16, .inl (cI, 38400, .inl (fun jj => nI (gs2 jj)))) → va_P D vwCl ws1 H → va_D A ws1 → va_S A s.heap H locs → lv_has ls 5 [(0, .ref m0), (1, .int x), (2, .int (nI k)), (3, .int (nI q))] → W p l e ({ frames := 1, cells := 0, slots := 0, locals := 22 }) s m ([.ref m0, .int x] : List Value).toArray below meth c H locs 0 0 (ZI D (TY cB cI cJ cO) (fun r ws' => ∃ gn2 : Nat → Nat, ∃ gm2 : Nat → Nat, ∃ gs2 : Nat → Nat, r = nI ((slotOf (docs.map (fun d => d.1)) x).isSome.toNat) ∧ (HdD gn2 gm2 gs2 (rmD docs (slotOf (docs.map (fun d => d.1)) x))) ∧ Sm (fun k => k = 33 ∨ k = 40 ∨ k = 41 ∨ k = 42) ws ws' ∧ ws'[33]? = some (m0, .inr (10, [.int (nI 0), .ref b1, .ref b2, .int (nI len), .int (nI ps), .ref b5, .ref b6, .ref b7, .int (nI nm), .int (nI bt_), .int (nI so), .int (nI wi), .ref b12, .int (nI fm), .ref b14, .ref b15, .ref b16, .int (nI ((rmD docs (slotOf (docs.map (fun d => d.1)) x)).length)), .int (nI ca), .int (nI (bif (slotOf (docs.map (fun d => d.1)) x).isSome then 1 else sta)), .ref b20, .ref b21, .ref b22, .ref b23, .ref b24, .int (nI xn), .ref b26, .int (nI bb), .int (nI rr), .int (nI pp), .int (nI qq), .ref b31])) ∧ ws'[40]? = some (b14, .inl (cI, 48, .inl (fun jj => nI (gn2 jj)))) ∧ ws'[41]? = some (b15, .inl (cI, 48, .inl (fun jj => nI (gm2 jj)))) ∧ ws'[42]? = some (b16, .inl (cI, 38400, .inl (fun jj => nI (gs2 jj))))) below [.ref m0, .int x] s 0 0 A) (F0 m 29 ls []) := by
      intro fuel
      induction fuel with
      | zero => intro q gn2 gm2 gs2 hfu; exact absurd hfu (Nat.not_lt_zero _)
      | succ fuel ih_29 =>
        intro q gn2 gm2 gs2 hfu_29 hq hlo hhi ws1 H locs ls sm g33 g40 g41 g42 hP hD hS hl
        refine lv_iload_n hx hb dX9_remove_29 rfl (lv_at hl 3 rfl) ?_
        refine lv_aload_n hx hb dX9_remove_30 rfl (lv_at hl 0 rfl) ?_
        refine va_get (D := D) (ci := 10) (v := .int (nI (dn - 1))) (C := RX9) (T := TX9) (N := 32) hx hb hts hin_X9 hown hK hP 33 g33 rfl 17 (by decide) fl_65 (fun _ h9 => h9) rfl dX9_remove_31 ?_
        refine nx_icmp_ge (tgt := 119) hx hb (by omega) (by omega) dX9_remove_34 (by decide) (fun c_34 => ?_) (fun c_34 => ?_)
        · refine lv_aload_n hx hb dX9_remove_119 rfl (lv_at hl 0 rfl) ?_
          refine lv_iconst (v := nI 1) hx hb dX9_remove_120 (by decide) ?_
          refine nx_put (D := D) (ci := 10) (v := .int (nI 1)) (ty := .boolean) (C := RX9) (T := TX9) (N := 32) hx hb hts hin_X9 tyX9 tyX9_ok nmX9 hown hK hP hD hS 33 g33 rfl 19 (by decide) fl_84 (fun _ h9 => h9) rfl (by decide +kernel) (by decide) (by decide) (Nat.le_of_ble_eq_true rfl) dX9_remove_121 (fun ws_7 H locs gq up_8 hP hD hS => ?_)
          have g33 : ws_7[33]? = some (m0, .inr (10, [.int (nI 0), .ref b1, .ref b2, .int (nI len), .int (nI ps), .ref b5, .ref b6, .ref b7, .int (nI nm), .int (nI bt_), .int (nI so), .int (nI wi), .ref b12, .int (nI fm), .ref b14, .ref b15, .ref b16, .int (nI (dn - 1)), .int (nI ca), .int (nI 1), .ref b20, .ref b21, .ref b22, .ref b23, .ref b24, .int (nI xn), .ref b26, .int (nI bb), .int (nI rr), .int (nI pp), .int (nI qq), .ref b31])) := gq
          have g40 := up_8.get g40 (by decide)
          have g41 := up_8.get g41 (by decide)
          have g42 := up_8.get g42 (by decide)
          have sm := sm.up up_8 (by simp)
          refine lv_iconst (v := nI 1) hx hb dX9_remove_124 (by decide) ?_
          have hel : (docs.eraseIdx k).length = dn - 1 := by rw [List.length_eraseIdx_of_lt (by omega), hdn]
          have g33 : ws_7[33]? = some (m0, .inr (10, [.int (nI 0), .ref b1, .ref b2, .int (nI len), .int (nI ps), .ref b5, .ref b6, .ref b7, .int (nI nm), .int (nI bt_), .int (nI so), .int (nI wi), .ref b12, .int (nI fm), .ref b14, .ref b15, .ref b16, .int (nI ((rmD docs (slotOf (docs.map (fun d => d.1)) x)).length)), .int (nI ca), .int (nI (bif (slotOf (docs.map (fun d => d.1)) x).isSome then 1 else sta)), .ref b20, .ref b21, .ref b22, .ref b23, .ref b24, .int (nI xn), .ref b26, .int (nI bb), .int (nI rr), .int (nI pp), .int (nI qq), .ref b31])) := by rw [hsl_k, show (rmD docs (some k)).length = dn - 1 from hel]; exact g33
          exact CI.ret (v := (nI 1)) C hK hP hD hS (by decide) (⟨_, _, _, (by rw [hsl_k]; rfl), (by rw [hsl_k]; exact fun a ha => hlo a ha (by have h9 : a < (docs.eraseIdx k).length := ha; rw [List.length_eraseIdx_of_lt (by omega)] at h9; omega)), sm, g33, g40, g41, g42⟩) hc0 hs0 dX9_remove_125
        · refine lv_aload_n hx hb dX9_remove_37 rfl (lv_at hl 0 rfl) ?_
          refine va_get (D := D) (ci := 10) (v := .ref b14) (C := RX9) (T := TX9) (N := 32) hx hb hts hin_X9 hown hK hP 33 g33 rfl 14 (by decide) fl_81 (fun _ h9 => h9) rfl dX9_remove_38 ?_
          refine lv_iload_n hx hb dX9_remove_41 rfl (lv_at hl 3 rfl) ?_
          refine lv_aload_n hx hb dX9_remove_42 rfl (lv_at hl 0 rfl) ?_
          refine va_get (D := D) (ci := 10) (v := .ref b14) (C := RX9) (T := TX9) (N := 32) hx hb hts hin_X9 hown hK hP 33 g33 rfl 14 (by decide) fl_81 (fun _ h9 => h9) rfl dX9_remove_43 ?_
          refine lv_iload_n hx hb dX9_remove_46 rfl (lv_at hl 3 rfl) ?_
          refine lv_iconst (v := nI 1) hx hb dX9_remove_47 (by decide) ?_
          refine nx_iadd hx hb dX9_remove_48 ?_
          refine nx_iald hx hb hK hP 40 1 g40 rfl (k := (q + 1)) (by omega) (by decide) dX9_remove_49 ?_
          refine nx_iastN hx hb hK hP hD hS 40 1 g40 rfl (k := q) (by omega) (by decide) dX9_remove_50 (fun ws_9 H locs gq up_10 hP hD hS => ?_)
          have g40 : ws_9[40]? = some (b14, .inl (cI, 48, .inl (fun jj => nI ((va_up gn2 q (gn2 (q + 1))) jj)))) := gq
          have g33 := up_10.get g33 (by decide)
          have g41 := up_10.get g41 (by decide)
          have g42 := up_10.get g42 (by decide)
          have sm := sm.up up_10 (by simp)
          refine lv_aload_n hx hb dX9_remove_51 rfl (lv_at hl 0 rfl) ?_
          refine va_get (D := D) (ci := 10) (v := .ref b15) (C := RX9) (T := TX9) (N := 32) hx hb hts hin_X9 hown hK hP 33 g33 rfl 15 (by decide) fl_78 (fun _ h9 => h9) rfl dX9_remove_52 ?_
          refine lv_iload_n hx hb dX9_remove_55 rfl (lv_at hl 3 rfl) ?_
          refine lv_aload_n hx hb dX9_remove_56 rfl (lv_at hl 0 rfl) ?_
          refine va_get (D := D) (ci := 10) (v := .ref b15) (C := RX9) (T := TX9) (N := 32) hx hb hts hin_X9 hown hK hP 33 g33 rfl 15 (by decide) fl_78 (fun _ h9 => h9) rfl dX9_remove_57 ?_
          refine lv_iload_n hx hb dX9_remove_60 rfl (lv_at hl 3 rfl) ?_
          refine lv_iconst (v := nI 1) hx hb dX9_remove_61 (by decide) ?_
          refine nx_iadd hx hb dX9_remove_62 ?_
          refine nx_iald hx hb hK hP 41 1 g41 rfl (k := (q + 1)) (by omega) (by decide) dX9_remove_63 ?_
          refine nx_iastN hx hb hK hP hD hS 41 1 g41 rfl (k := q) (by omega) (by decide) dX9_remove_64 (fun ws_11 H locs gq up_12 hP hD hS => ?_)
          have g41 : ws_11[41]? = some (b15, .inl (cI, 48, .inl (fun jj => nI ((va_up gm2 q (gm2 (q + 1))) jj)))) := gq
          have g33 := up_12.get g33 (by decide)
          have g40 := up_12.get g40 (by decide)
          have g42 := up_12.get g42 (by decide)
          have sm := sm.up up_12 (by simp)
          have hmq : va_up gm2 q (gm2 (q + 1)) q = gm2 (q + 1) := va_up_self _ _ _
          have hq1 := hhi (q + 1) (by omega) (by omega)
          have hq2 := (hds docs[q + 1] (List.getElem_mem _)).2.1
          have hq3 := hq1.2.1
          refine lv_iconst (v := nI 0) hx hb dX9_remove_65 (by decide) ?_
          refine lv_istore (lv' := [(4, .int (nI 0)), (0, .ref m0), (1, .int x), (2, .int (nI k)), (3, .int (nI q))]) hx hb dX9_remove_66 hl (by decide) rfl (fun ls hl => ?_)
          have lp_68 : ∀ (fuel : Nat) (i : Nat), gm2 (q + 1) - i < fuel → (i ≤ gm2 (q + 1)) → ∀ (ws1 : va_W) (H : Heap) (locs : List Loc) (ls : Array Slot), Sm (fun k => k = 33 ∨ k = 40 ∨ k = 41 ∨ k = 42) ws ws1 → ws1[33]? = some (m0, .inr (10, [.int (nI 0), .ref b1, .ref b2, .int (nI len), .int (nI ps), .ref b5, .ref b6, .ref b7, .int (nI nm), .int (nI bt_), .int (nI so), .int (nI wi), .ref b12, .int (nI fm), .ref b14, .ref b15, .ref b16, .int (nI (dn - 1)), .int (nI ca), .int (nI sta), .ref b20, .ref b21, .ref b22, .ref b23, .ref b24, .int (nI xn), .ref b26, .int (nI bb), .int (nI rr), .int (nI pp), .int (nI qq), .ref b31])) → ws1[40]? = some (b14, .inl (cI, 48, .inl (fun jj => nI ((va_up gn2 q (gn2 (q + 1))) jj)))) → ws1[41]? = some (b15, .inl (cI, 48, .inl (fun jj => nI ((va_up gm2 q (gm2 (q + 1))) jj)))) → ws1[42]? = some (b16, .inl (cI, 38400, .inl (fun jj => nI ((cp8 gs2 q i) jj)))) → va_P D vwCl ws1 H → va_D A ws1 → va_S A s.heap H locs → lv_has ls 5 [(0, .ref m0), (1, .int x), (2, .int (nI k)), (3, .int (nI q)), (4, .int (nI i))] → W p l e ({ frames := 1, cells := 0, slots := 0, locals := 22 }) s m ([.ref m0, .int x] : List Value).toArray below meth c H locs 0 0 (ZI D (TY cB cI cJ cO) (fun r ws' => ∃ gn2 : Nat → Nat, ∃ gm2 : Nat → Nat, ∃ gs2 : Nat → Nat, r = nI ((slotOf (docs.map (fun d => d.1)) x).isSome.toNat) ∧ (HdD gn2 gm2 gs2 (rmD docs (slotOf (docs.map (fun d => d.1)) x))) ∧ Sm (fun k => k = 33 ∨ k = 40 ∨ k = 41 ∨ k = 42) ws ws' ∧ ws'[33]? = some (m0, .inr (10, [.int (nI 0), .ref b1, .ref b2, .int (nI len), .int (nI ps), .ref b5, .ref b6, .ref b7, .int (nI nm), .int (nI bt_), .int (nI so), .int (nI wi), .ref b12, .int (nI fm), .ref b14, .ref b15, .ref b16, .int (nI ((rmD docs (slotOf (docs.map (fun d => d.1)) x)).length)), .int (nI ca), .int (nI (bif (slotOf (docs.map (fun d => d.1)) x).isSome then 1 else sta)), .ref b20, .ref b21, .ref b22, .ref b23, .ref b24, .int (nI xn), .ref b26, .int (nI bb), .int (nI rr), .int (nI pp), .int (nI qq), .ref b31])) ∧ ws'[40]? = some (b14, .inl (cI, 48, .inl (fun jj => nI (gn2 jj)))) ∧ ws'[41]? = some (b15, .inl (cI, 48, .inl (fun jj => nI (gm2 jj)))) ∧ ws'[42]? = some (b16, .inl (cI, 38400, .inl (fun jj => nI (gs2 jj))))) below [.ref m0, .int x] s 0 0 A) (F0 m 68 ls []) := by
            intro fuel
            induction fuel with
            | zero => intro i hfu; exact absurd hfu (Nat.not_lt_zero _)
            | succ fuel ih_68 =>
              intro i hfu_68 hi ws1 H locs ls sm g33 g40 g41 g42 hP hD hS hl
              refine lv_iload hx hb dX9_remove_68 (lv_at hl 4 rfl) ?_
              refine lv_aload_n hx hb dX9_remove_70 rfl (lv_at hl 0 rfl) ?_
              refine va_get (D := D) (ci := 10) (v := .ref b15) (C := RX9) (T := TX9) (N := 32) hx hb hts hin_X9 hown hK hP 33 g33 rfl 15 (by decide) fl_78 (fun _ h9 => h9) rfl dX9_remove_71 ?_
              refine lv_iload_n hx hb dX9_remove_74 rfl (lv_at hl 3 rfl) ?_
              refine nx_iald hx hb hK hP 41 1 g41 rfl (k := q) (by omega) (by decide) dX9_remove_75 ?_
              refine nx_icmp_ge (tgt := 113) hx hb (by omega) (by omega) dX9_remove_76 (by decide) (fun c_76 => ?_) (fun c_76 => ?_)
              · refine lv_iinc (v := (nI (q + 1))) (lv' := [(3, .int (nI (q + 1))), (0, .ref m0), (1, .int x), (2, .int (nI k)), (4, .int (nI i))]) hx hb dX9_remove_113 hl (k := 3) rfl (nx_inc _ 1) (by decide) rfl (fun ls hl => ?_)
                refine lv_goto (tgt := 29) hx hb dX9_remove_116 (by decide) ?_
                have hst := rm_step (gn := gn2) (gm := gm2) (gs := gs2) (docs := docs) (k := k) (q := q) (i := i) (by omega) hq.1 (by omega) hds (by omega) hlo hhi
                exact ih_29 (q + 1) _ _ _ (by omega) (by omega) hst.1 hst.2 _ _ _ _ sm g33 g40 g41 g42 hP hD hS (lv_sub hl [1, 2, 3, 0] rfl)
              · refine lv_aload_n hx hb dX9_remove_79 rfl (lv_at hl 0 rfl) ?_
                refine va_get (D := D) (ci := 10) (v := .ref b16) (C := RX9) (T := TX9) (N := 32) hx hb hts hin_X9 hown hK hP 33 g33 rfl 16 (by decide) fl_75 (fun _ h9 => h9) rfl dX9_remove_80 ?_
                refine lv_sipush (v := nI 800) hx hb dX9_remove_83 (by decide) ?_
                refine lv_iload_n hx hb dX9_remove_86 rfl (lv_at hl 3 rfl) ?_
                refine nx_imul hx hb dX9_remove_87 ?_
                refine lv_iload hx hb dX9_remove_88 (lv_at hl 4 rfl) ?_
                refine nx_iadd hx hb dX9_remove_90 ?_
                refine lv_aload_n hx hb dX9_remove_91 rfl (lv_at hl 0 rfl) ?_
                refine va_get (D := D) (ci := 10) (v := .ref b16) (C := RX9) (T := TX9) (N := 32) hx hb hts hin_X9 hown hK hP 33 g33 rfl 16 (by decide) fl_75 (fun _ h9 => h9) rfl dX9_remove_92 ?_
                refine lv_sipush (v := nI 800) hx hb dX9_remove_95 (by decide) ?_
                refine lv_iload_n hx hb dX9_remove_98 rfl (lv_at hl 3 rfl) ?_
                refine lv_iconst (v := nI 1) hx hb dX9_remove_99 (by decide) ?_
                refine nx_iadd hx hb dX9_remove_100 ?_
                refine nx_imul hx hb dX9_remove_101 ?_
                refine lv_iload hx hb dX9_remove_102 (lv_at hl 4 rfl) ?_
                refine nx_iadd hx hb dX9_remove_104 ?_
                refine nx_iald hx hb hK hP 42 1 g42 rfl (k := ((800 * (q + 1)) + i)) (by omega) (by decide) dX9_remove_105 ?_
                refine nx_iastN hx hb hK hP hD hS 42 1 g42 rfl (k := ((800 * q) + i)) (by omega) (by decide) dX9_remove_106 (fun ws_13 H locs gq up_14 hP hD hS => ?_)
                have g42 : ws_13[42]? = some (b16, .inl (cI, 38400, .inl (fun jj => nI ((va_up (cp8 gs2 q i) ((800 * q) + i) ((cp8 gs2 q i) ((800 * (q + 1)) + i))) jj)))) := gq
                have g33 := up_14.get g33 (by decide)
                have g40 := up_14.get g40 (by decide)
                have g41 := up_14.get g41 (by decide)
                have sm := sm.up up_14 (by simp)
                refine lv_iinc (v := (nI (i + 1))) (lv' := [(4, .int (nI (i + 1))), (0, .ref m0), (1, .int x), (2, .int (nI k)), (3, .int (nI q))]) hx hb dX9_remove_107 hl (k := 4) rfl (nx_inc _ 1) (by decide) rfl (fun ls hl => ?_)
                refine lv_goto (tgt := 68) hx hb dX9_remove_110 (by decide) ?_
                have g42 : ws_13[42]? = some (b16, .inl (cI, 38400, .inl (fun jj => nI ((cp8 gs2 q (i + 1)) jj)))) := by rw [← cp8_s (by omega)]; exact g42
                exact ih_68 (i + 1) (by omega) (by omega) _ _ _ _ sm g33 g40 g41 g42 hP hD hS (lv_sub hl [1, 2, 3, 4, 0] rfl)
          have g42 : ws_11[42]? = some (b16, .inl (cI, 38400, .inl (fun jj => nI ((cp8 gs2 q 0) jj)))) := by rw [cp8_0]; exact g42
          exact lp_68 _ 0 (Nat.lt_succ_self _) (Nat.zero_le _) _ _ _ _ sm g33 g40 g41 g42 hP hD hS (lv_sub hl [1, 2, 3, 4, 0] rfl)
    exact lp_29 _ k gn gm gs (Nat.lt_succ_self _) ⟨Nat.le_refl _, by omega⟩ (fun a ha h => by rw [rmD_get (by omega) ha, dif_pos h]; exact hdd a (by omega)) (fun a ha _ => hdd a ha) _ _ _ _ sm g33 g40 g41 g42 hP hD hS (lv_sub hl [2, 3, 1, 0] rfl)
