set_option maxHeartbeats 4000000 in
set_option maxRecDepth 100000 in
theorem c_X8_renewImages {D : va_G} {cB cI cJ cO : ClassId} {l : Launch} {z0 a1 t0 d0 e0 k0 al so wi : Nat} {k1 k4 k7 k8 k9 k10 plc kn : Nat} {d1 d2 d3 d4 d5 mv kp : Nat} {ta tb cn mk mi : Nat → Nat} {K : List (Nat × Nat)} {E : List (Nat × Nat × Nat)} {ad : Nat} {s0 s1 s2 s3 ca eh es er nd : Nat} {dd : Nat → DX} {HS SS RS : List Nat} {dL : Nat → List Nat} {j : Nat} {ws : va_W} (g0 : ws[0]? = some (z0, .inr (9, [.ref a1, .ref t0, .ref d0, .ref s0, .ref e0, .ref k0, .ref al, .int (nI so), .int (nI wi)]))) (g21 : ws[21]? = some (k0, .inr (2, [.ref k1, .ref k4, .ref k7, .ref k8, .ref k9, .ref k10, .int (nI plc), .int (nI kn)]))) (g10 : ws[10]? = some (d0, .inr (5, [.ref d1, .ref d2, .ref d3, .ref d4, .ref d5, .int (nI mv), .int (nI kp)]))) (g11 : ws[11]? = some (d1, .inl (cI, 64, .inl (fun jj => nI (ta jj))))) (g12 : ws[12]? = some (d2, .inl (cI, 64, .inl (fun jj => nI (tb jj))))) (g13 : ws[13]? = some (d3, .inl (cI, 64, .inl (fun jj => nI (cn jj))))) (g14 : ws[14]? = some (d4, .inl (cI, 600, .inl (fun jj => nI (mk jj))))) (g15 : ws[15]? = some (d5, .inl (cI, 600, .inl (fun jj => nI (mi jj))))) (hHK : HdK mk mi K) (hKl : K.length = mv) (h600 : mv ≤ 600) (hPC : PermC ta tb cn K E) (hta : Tab ta tb) (hE3 : E.length ≤ 300) (hSW : ShW ws cI cJ cO ad s0 s1 s2 s3 ca eh es er nd dd HS SS RS) (hnd : nd ≤ 48) (hj : j < 64) (hdL : ∀ t ∈ HS, DOk (dd t) (dL t)) : CV D (TY cB cI cJ cO) l yX8_renewImages wsX8_renewImages ({ frames := 3, cells := 0, slots := 0, locals := 71 }) [.ref z0, .int (nI j)] ws (fun ws' => (ShW ws' cI cJ cO ad s0 s1 s2 s3 ca eh es er nd (rnA dd j (fun t => sgOf ta tb E (dL t) j) HS) HS SS RS) ∧ Sm (fun k => k = 21 ∨ 51 ≤ k) ws ws' ∧ ws'[21]? = some (k0, .inr (2, [.ref k1, .ref k4, .ref k7, .ref k8, .ref k9, .ref k10, .int (nI plc), .int (nI 0)]))) := by
  refine CV.of (cc := cX8_renewImages) (maxL := 4) (ret := none) (by decide) rfl (Nat.le_of_ble_eq_true rfl) ?_
  intro p e s m below meth c A C hK hP hD hA hS ls hl
  obtain ⟨hx, hb, hr, hml, hts, hown, hlocks, hnm⟩ := id C
  have fl_26 := hts (.fieldLink RX8 26 "TwinFinder" "permutations" "LTwinFinder$Permutations;") (by decide +kernel)
  have fl_33 := hts (.fieldLink RX8 33 "TwinFinder" "shelf" "LTwinFinder$Shelf;") (by decide +kernel)
  have fl_47 := hts (.fieldLink RX8 47 "TwinFinder" "kin" "LTwinFinder$Kin;") (by decide +kernel)
  have fl_104 := hts (.fieldLink RX8 104 "TwinFinder$Document" "least" "[I") (by decide +kernel)
  have fl_115 := hts (.fieldLink RX8 115 "TwinFinder$Kin" "known" "Z") (by decide +kernel)
  have fl_168 := hts (.fieldLink RX8 168 "TwinFinder$Shelf" "here" "Ljava/util/ArrayList;") (by decide +kernel)
  have hin_X0 : ∀ w ∈ u_ws RX0 TX0 7, w ∈ wsX8_renewImages := by decide +kernel
  have hin_X1 : ∀ w ∈ u_ws RX1 TX1 8, w ∈ wsX8_renewImages := by decide +kernel
  have hin_X5 : ∀ w ∈ u_ws RX5 TX5 4, w ∈ wsX8_renewImages := by decide +kernel
  have hin_X8 : ∀ w ∈ u_ws RX8 TX8 9, w ∈ wsX8_renewImages := by decide +kernel
  have hl : lv_has ls 4 [(0, .ref z0), (1, .int (nI j))] := hl
  have sm : Sm (fun k => k = 21 ∨ 51 ≤ k) ws ws := Sm.rf
  have hc0 : (0 : Nat) ≤ 0 := by decide
  have hs0 : (0 : Nat) ≤ 0 := by decide
  obtain ⟨v, hvd⟩ : ∃ v : Nat → Nat, v = fun t => sgOf ta tb E (dL t) j := ⟨_, rfl⟩
  have hNd0 := hSW.2.2.2.2.2.2.1
  refine lv_iconst (v := nI 0) hx hb dX8_renewImages_0 (by decide) ?_
  refine lv_istore_n (lv' := [(2, .int (nI 0)), (0, .ref z0), (1, .int (nI j))]) hx hb dX8_renewImages_1 rfl hl (by decide) rfl (fun ls hl => ?_)
  have lp_2 : ∀ (fuel : Nat) (i : Nat), HS.length - i < fuel → (i ≤ HS.length) → ∀ (ws1 : va_W) (H : Heap) (locs : List Loc) (ls : Array Slot), Sm (fun k => k = 21 ∨ 51 ≤ k) ws ws1 → ws1[0]? = some (z0, .inr (9, [.ref a1, .ref t0, .ref d0, .ref s0, .ref e0, .ref k0, .ref al, .int (nI so), .int (nI wi)])) → ws1[21]? = some (k0, .inr (2, [.ref k1, .ref k4, .ref k7, .ref k8, .ref k9, .ref k10, .int (nI plc), .int (nI kn)])) → ws1[10]? = some (d0, .inr (5, [.ref d1, .ref d2, .ref d3, .ref d4, .ref d5, .int (nI mv), .int (nI kp)])) → ws1[11]? = some (d1, .inl (cI, 64, .inl (fun jj => nI (ta jj)))) → ws1[12]? = some (d2, .inl (cI, 64, .inl (fun jj => nI (tb jj)))) → ws1[13]? = some (d3, .inl (cI, 64, .inl (fun jj => nI (cn jj)))) → ws1[14]? = some (d4, .inl (cI, 600, .inl (fun jj => nI (mk jj)))) → ws1[15]? = some (d5, .inl (cI, 600, .inl (fun jj => nI (mi jj)))) → (ShW ws1 cI cJ cO ad s0 s1 s2 s3 ca eh es er nd (rnA dd j v (HS.take i)) HS SS RS) → va_P D vwCl ws1 H → va_D A ws1 → va_S A s.heap H locs → lv_has ls 4 [(0, .ref z0), (1, .int (nI j)), (2, .int (nI i))] → W p l e ({ frames := 3, cells := 0, slots := 0, locals := 71 }) s m ([.ref z0, .int (nI j)] : List Value).toArray below meth c H locs 0 0 (ZV D (TY cB cI cJ cO) (fun ws' => (ShW ws' cI cJ cO ad s0 s1 s2 s3 ca eh es er nd (rnA dd j (fun t => sgOf ta tb E (dL t) j) HS) HS SS RS) ∧ Sm (fun k => k = 21 ∨ 51 ≤ k) ws ws' ∧ ws'[21]? = some (k0, .inr (2, [.ref k1, .ref k4, .ref k7, .ref k8, .ref k9, .ref k10, .int (nI plc), .int (nI 0)]))) below [.ref z0, .int (nI j)] s 0 0 A) (F0 m 2 ls []) := by
    intro fuel
    induction fuel with
    | zero => intro i hfu; exact absurd hfu (Nat.not_lt_zero _)
    | succ fuel ih_2 =>
      intro i hfu_2 hi ws1 H locs ls sm g0 g21 g10 g11 g12 g13 g14 g15 hSW hP hD hS hl
      obtain ⟨g16, hLh, hLs, hLr, hDW, hEd, hNd, hAll, hndl, hRS, h51⟩ := id hSW
      have hHS : ∀ t ∈ HS, t < nd := fun t h9 => hAll t (List.mem_append_left _ h9)
      refine lv_iload_n hx hb dX8_renewImages_2 rfl (lv_at hl 2 rfl) ?_
      refine lv_aload_n hx hb dX8_renewImages_3 rfl (lv_at hl 0 rfl) ?_
      refine va_get (D := D) (ci := 9) (v := .ref s0) (C := RX8) (T := TX8) (N := 9) hx hb hts hin_X8 hown hK hP 0 g0 rfl 3 (by decide) fl_33 (fun _ h9 => h9) rfl dX8_renewImages_4 ?_
      refine va_get (D := D) (ci := 6) (v := .ref s1) (C := RX5) (T := TX5) (N := 4) hx hb hts hin_X5 hown hK hP 16 g16 rfl 0 (by decide) fl_168 (fun _ h9 => h9) rfl dX8_renewImages_7 ?_
      refine CI.go (va_runV (As := []) (rest := [.int (nI i)]) ⟨hx, hb, hml, hown, hts⟩ (c_L_size   hLh _) (cwV 0 hts gX8_renewImages_Jx4a65c_size_8abf5 rfl rfl rfl (by decide +kernel) ⟨Nat.le_of_ble_eq_true rfl, Nat.le_of_ble_eq_true rfl⟩) ⟨pw_blind, LW.recv hK hP hLh, fun U hU hW => pw_pre hK hP hD hU hW⟩ rfl rfl hl.1 rfl (lv_room (Nat.le_of_ble_eq_true rfl)) dX8_renewImages_10 ⟨Nat.le_of_ble_eq_true rfl, Nat.le_of_ble_eq_true rfl⟩) hD hS hA (fun r_1 ws_2 H locs hp hP hD hS => ?_)
      obtain ⟨rfl, rfl⟩ := hp
      rw [List.length_map]
      refine nx_icmp_ge (tgt := 52) hx hb (by omega) (by omega) dX8_renewImages_13 (by decide) (fun c_13 => ?_) (fun c_13 => ?_)
      · refine lv_aload_n hx hb dX8_renewImages_52 rfl (lv_at hl 0 rfl) ?_
        refine va_get (D := D) (ci := 9) (v := .ref k0) (C := RX8) (T := TX8) (N := 9) hx hb hts hin_X8 hown hK hP 0 g0 rfl 5 (by decide) fl_47 (fun _ h9 => h9) rfl dX8_renewImages_53 ?_
        refine lv_iconst (v := nI 0) hx hb dX8_renewImages_56 (by decide) ?_
        refine nx_put (D := D) (ci := 2) (v := .int (nI 0)) (ty := .boolean) (C := RX1) (T := TX1) (N := 8) hx hb hts hin_X1 tyX1 tyX1_ok nmX1 hown hK hP hD hS 21 g21 rfl 7 (by decide) fl_115 (fun _ h9 => h9) rfl (by decide +kernel) (by decide) (by decide) (Nat.le_of_ble_eq_true rfl) dX8_renewImages_57 (fun ws_3 H locs gq up_4 hP hD hS => ?_)
        have g21 : ws_3[21]? = some (k0, .inr (2, [.ref k1, .ref k4, .ref k7, .ref k8, .ref k9, .ref k10, .int (nI plc), .int (nI 0)])) := gq
        have g0 := up_4.get g0 (by decide)
        have g10 := up_4.get g10 (by decide)
        have g11 := up_4.get g11 (by decide)
        have g12 := up_4.get g12 (by decide)
        have g13 := up_4.get g13 (by decide)
        have g14 := up_4.get g14 (by decide)
        have g15 := up_4.get g15 (by decide)
        have g16 := up_4.get g16 (by decide)
        have sm := sm.up up_4 (by first | (simp; done) | ((try simp only); omega))
        have hSW : ShW ws_3 cI cJ cO ad s0 s1 s2 s3 ca eh es er nd (rnA dd j (fun t => sgOf ta tb E (dL t) j) HS) HS SS RS := by have h9 := hSW; rw [List.take_of_length_le (by omega), hvd] at h9; exact h9.low (K := fun k => k = 21) ⟨Nat.le_of_eq up_4.1.symm, fun k _ hn => up_4.2 k hn⟩ (fun k hk => by (try simp only at hk); omega)
        exact CV.ret C hK hP hD hS (⟨hSW, sm, g21⟩) hc0 hs0 dX8_renewImages_60
      · obtain ⟨tQ, htQ⟩ : ∃ t, HS[i]? = some t := ⟨_, List.getElem?_eq_getElem (by omega)⟩
        have htlQ : tQ < nd := hHS tQ (List.mem_of_getElem? htQ)
        have hrn : (rnA dd j v (HS.take i)) tQ = dd tQ := by rw [rnA, if_neg (nd_take hNd0 htQ)]
        obtain ⟨⟨⟨pQ, aQ⟩, ⟨x1Q, x2Q, x3Q, x4Q⟩, ⟨nuQ, zQ⟩, fsQ, fnQ, flQ, fhQ⟩, hdxQ⟩ : ∃ z : DX, z = (rnA dd j v (HS.take i)) tQ := ⟨_, rfl⟩
        have hD5Q := (hDW.1 tQ htlQ).1
        have hP51Q : 51 ≤ pQ := by have h9 := (hDW.1 tQ htlQ).2; rw [← hdxQ] at h9; exact h9
        rw [← hdxQ] at hD5Q
        have gpQ : ws1[pQ]? = some (aQ, .inr (1, [.int (nI tQ), .ref x1Q, .ref x2Q, .ref x3Q, .ref x4Q, .int (nI nuQ), .int (nI zQ)])) := hD5Q.1
        have gpQ_1 : ws1[pQ + 1]? = some (x1Q, .inl (cJ, 94, .inr (.inl fsQ))) := hD5Q.2.1
        have gpQ_2 : ws1[pQ + 2]? = some (x2Q, .inl (cI, 800, .inl (fun jj => nI (fnQ jj)))) := hD5Q.2.2.1
        have gpQ_3 : ws1[pQ + 3]? = some (x3Q, .inl (cI, 64, .inl (fun jj => nI (flQ jj)))) := hD5Q.2.2.2.1
        have gpQ_4 : ws1[pQ + 4]? = some (x4Q, .inl (cI, 48, .inl (fun jj => nI (fhQ jj)))) := hD5Q.2.2.2.2
        have hdk := hdL tQ (List.mem_of_getElem? htQ)
        rw [← hrn, ← hdxQ] at hdk
        have hzQ : zQ = (dL tQ).length := hdk.1
        have gpQ : ws1[pQ]? = some (aQ, .inr (1, [.int (nI tQ), .ref x1Q, .ref x2Q, .ref x3Q, .ref x4Q, .int (nI nuQ), .int (nI ((dL tQ).length))])) := by rw [← hzQ]; exact gpQ
        refine lv_aload_n hx hb dX8_renewImages_16 rfl (lv_at hl 0 rfl) ?_
        refine va_get (D := D) (ci := 9) (v := .ref s0) (C := RX8) (T := TX8) (N := 9) hx hb hts hin_X8 hown hK hP 0 g0 rfl 3 (by decide) fl_33 (fun _ h9 => h9) rfl dX8_renewImages_17 ?_
        refine va_get (D := D) (ci := 6) (v := .ref s1) (C := RX5) (T := TX5) (N := 4) hx hb hts hin_X5 hown hK hP 16 g16 rfl 0 (by decide) fl_168 (fun _ h9 => h9) rfl dX8_renewImages_20 ?_
        refine lv_iload_n hx hb dX8_renewImages_23 rfl (lv_at hl 2 rfl) ?_
        refine CQ.go (va_runV (As := [.int (nI i)]) (rest := []) ⟨hx, hb, hml, hown, hts⟩ (c_L_get (v := aQ)  hLh (map_at htQ (by rw [← hdxQ])) _) (cwV 1 hts gX8_renewImages_Jx4a65c_get_915e3 rfl rfl rfl (by decide +kernel) ⟨Nat.le_of_ble_eq_true rfl, Nat.le_of_ble_eq_true rfl⟩) ⟨pw_blind, LW.recv hK hP hLh, fun U hU hW => pw_pre hK hP hD hU hW⟩ rfl rfl hl.1 rfl (lv_room (Nat.le_of_ble_eq_true rfl)) dX8_renewImages_24 ⟨Nat.le_of_ble_eq_true rfl, Nat.le_of_ble_eq_true rfl⟩) hD hS hA (fun r_5 ws_6 H locs hp hP hD hS => ?_)
        obtain ⟨rfl, rfl⟩ := hp
        refine va_castS hx hb hown (hts (.classLink RX8 99 RX0) (by decide +kernel)) (hK.1 1 _ rfl).2 (va_recv hK hP (ci := 1) (q0 := pQ) rfl gpQ) dX8_renewImages_27 ?_
        refine lv_astore_n (lv' := [(3, .ref aQ), (0, .ref z0), (1, .int (nI j)), (2, .int (nI i))]) hx hb dX8_renewImages_30 rfl hl (by decide) rfl (fun ls hl => ?_)
        refine lv_aload_n hx hb dX8_renewImages_31 rfl (lv_at hl 0 rfl) ?_
        refine va_get (D := D) (ci := 1) (v := .ref x3Q) (C := RX0) (T := TX0) (N := 7) hx hb hts hin_X0 hown hK hP pQ gpQ rfl 3 (by decide) fl_104 (fun _ h9 => h9) rfl dX8_renewImages_32 ?_
        refine lv_iload_n hx hb dX8_renewImages_35 rfl (lv_at hl 2 rfl) ?_
        refine lv_aload_n hx hb dX8_renewImages_36 rfl (lv_at hl 1 rfl) ?_
        refine va_get (D := D) (ci := 9) (v := .ref d0) (C := RX8) (T := TX8) (N := 9) hx hb hts hin_X8 hown hK hP 0 g0 rfl 2 (by decide) fl_26 (fun _ h9 => h9) rfl dX8_renewImages_37 ?_
        refine lv_aload_n hx hb dX8_renewImages_40 rfl (lv_at hl 0 rfl) ?_
        refine lv_iload_n hx hb dX8_renewImages_41 rfl (lv_at hl 2 rfl) ?_
        refine CI.go (va_runV (As := [.ref aQ, .int (nI j)]) (rest := [.int (nI j), .ref x3Q]) ⟨hx, hb, hml, hown, hts⟩ (c_X4_leastOf (px := pQ) g10 g11 g12 g13 g14 g15 gpQ gpQ_2 hHK hKl h600 hPC hta hE3 hj hdk.2.1 hdk.2.2.1 hdk.2.2.2 _) (cwV 2 hts gX8_renewImages_X4_leastOf rfl rfl rfl (by decide +kernel) ⟨Nat.le_of_ble_eq_true rfl, Nat.le_of_ble_eq_true rfl⟩) ⟨pw_blind, va_recv hK hP (ci := 5) (q0 := 10) rfl g10, fun U hU hW => pw_pre hK hP hD hU hW⟩ rfl rfl hl.1 rfl (lv_room (Nat.le_of_ble_eq_true rfl)) dX8_renewImages_42 ⟨Nat.le_of_ble_eq_true rfl, Nat.le_of_ble_eq_true rfl⟩) hD hS hA (fun r_7 ws_8 H locs hp hP hD hS => ?_)
        obtain ⟨rfl, rfl⟩ := hp
        refine nx_iastN hx hb hK hP hD hS (pQ + 3) 1 gpQ_3 rfl (k := j) (by omega) (by decide) dX8_renewImages_45 (fun ws_9 H locs gq up_10 hP hD hS => ?_)
        have gpQ_3 : ws_9[pQ + 3]? = some (x3Q, .inl (cI, 64, .inl (fun jj => nI ((va_up flQ j (sgOf ta tb E (dL tQ) j)) jj)))) := gq
        have g0 := up_10.get g0 (by omega)
        have g21 := up_10.get g21 (by omega)
        have g10 := up_10.get g10 (by omega)
        have g11 := up_10.get g11 (by omega)
        have g12 := up_10.get g12 (by omega)
        have g13 := up_10.get g13 (by omega)
        have g14 := up_10.get g14 (by omega)
        have g15 := up_10.get g15 (by omega)
        have g16 := up_10.get g16 (by omega)
        have gpQ := up_10.get gpQ (by omega)
        have gpQ_1 := up_10.get gpQ_1 (by omega)
        have gpQ_2 := up_10.get gpQ_2 (by omega)
        have gpQ_4 := up_10.get gpQ_4 (by omega)
        have sm := sm.up up_10 (by first | (simp; done) | ((try simp only); omega))
        have hD5n : D5 ws_9 cI cJ tQ (dle (dd tQ) (va_up (dd tQ).2.2.2.2.2.1 j (v tQ))) := by rw [← hrn, ← hdxQ, hvd]; exact ⟨by have h9 := gpQ; rw [← hzQ] at h9; exact h9, gpQ_1, gpQ_2, gpQ_3, gpQ_4⟩
        have hSW : ShW ws_9 cI cJ cO ad s0 s1 s2 s3 ca eh es er nd (rnA dd j v (HS.take (i + 1))) HS SS RS := by rw [take_s htQ, ← rnA_s (nd_take hNd0 htQ)]; exact hSW.up1 htlQ up_10 (by rw [← hdxQ]; show pQ ≤ pQ + 3 ∧ pQ + 3 < pQ + 5; omega) hD5n (by rw [hrn]; rfl)
        refine lv_iinc (v := (nI (i + 1))) (lv' := [(2, .int (nI (i + 1))), (3, .ref aQ), (0, .ref z0), (1, .int (nI j))]) hx hb dX8_renewImages_46 hl (k := 3) rfl (nx_inc _ 1) (by decide) rfl (fun ls hl => ?_)
        refine lv_goto (tgt := 2) hx hb dX8_renewImages_49 (by decide) ?_
        exact ih_2 (i + 1) (by omega) (by omega) _ _ _ _ sm g0 g21 g10 g11 g12 g13 g14 g15 hSW hP hD hS (lv_sub hl [2, 3, 0] rfl)
  exact lp_2 _ 0 (Nat.lt_succ_self _) (Nat.zero_le _) _ _ _ _ sm g0 g21 g10 g11 g12 g13 g14 g15 (by rw [List.take_zero, rnA_nil]; exact hSW) hP hD hS (lv_sub hl [1, 2, 0] rfl)
