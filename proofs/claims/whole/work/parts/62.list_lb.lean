set_option maxHeartbeats 4000000 in
set_option maxRecDepth 100000 in
theorem c_Jxa1e45_init_da8c8 {D : va_G} {cB cI cJ cO : ClassId} {l : Launch} {p_ a_ : Nat} {ws : va_W} (gp_ : ws[p_]? = some (a_, .inr (0, [.int (nI 0), .null, .int (nI 0)])))  : CV D (TY cB cI cJ cO) l yJxa1e45_init_da8c8 wsJxa1e45_init_da8c8 ({ frames := 1, cells := 0, slots := 0, locals := 12 }) [.ref a_] ws (fun ws' => ws = ws') := by
  refine CV.of (cc := cJxa1e45_init_da8c8) (maxL := 1) (ret := none) (by decide) rfl (Nat.le_of_ble_eq_true rfl) ?_
  intro p e s m below meth c A C hK hP hD hA hS ls hl
  obtain ⟨hx, hb, hr, hml, hts, hown, hlocks, hnm⟩ := id C
  have hl : lv_has ls 1 [(0, .ref a_)] := hl
  have sm : Sm (fun _ => False) ws ws := Sm.rf
  have hc0 : (0 : Nat) ≤ 0 := by decide
  have hs0 : (0 : Nat) ≤ 0 := by decide
  refine lv_aload_n hx hb dJxa1e45_init_da8c8_0 rfl (lv_at hl 0 rfl) ?_
  refine W.objInit hx hb hown (hts (.methodLink RJxa1e45 1 objectInit) (by decide +kernel)) (hts (.instanceMethod objectInit) (by decide +kernel)) (hts _ (List.mem_of_getElem? (l := wsJxa1e45_init_da8c8) (i := 3) rfl)) rfl (by rw [hml]; exact hl.1) rfl dJxa1e45_init_da8c8_1 (Nat.le_of_ble_eq_true rfl) (Nat.le_of_ble_eq_true rfl) ?_
  refine W.eq (g2 := F0 m 4 ls []) rfl ?_
  exact CV.ret C hK hP hD hS (rfl) hc0 hs0 dJxa1e45_init_da8c8_4
set_option maxHeartbeats 4000000 in
set_option maxRecDepth 100000 in
theorem c_Jxc12de_init_da8c8 {D : va_G} {cB cI cJ cO : ClassId} {l : Launch} {p_ a_ L0 : Nat} {ws : va_W} (gp_ : ws[p_]? = some (a_, .inr (0, [.int (nI 0), .null, .int (nI 0)]))) (hlen : ws.length = L0) : CV D (TY cB cI cJ cO) l yJxc12de_init_da8c8 wsJxc12de_init_da8c8 ({ frames := 2, cells := 0, slots := 0, locals := 32 }) [.ref a_] ws (fun ws' => (ws'.length = L0) ∧ Sm (fun k => k = p_) ws ws' ∧ ws'[p_]? = some (a_, .inr (0, [.int (nI 0), .null, .int (nI 0)]))) := by
  refine CV.of (cc := cJxc12de_init_da8c8) (maxL := 1) (ret := none) (by decide) rfl (Nat.le_of_ble_eq_true rfl) ?_
  intro p e s m below meth c A C hK hP hD hA hS ls hl
  obtain ⟨hx, hb, hr, hml, hts, hown, hlocks, hnm⟩ := id C
  have fl_7 := hts (.fieldLink RJxc12de 7 "java/util/AbstractList" "modCount" "I") (by decide +kernel)
  have hin_Jx4a65c : ∀ w ∈ u_ws RJx4a65c TJx4a65c 3, w ∈ wsJxc12de_init_da8c8 := by decide +kernel
  have hl : lv_has ls 1 [(0, .ref a_)] := hl
  have sm : Sm (fun k => k = p_) ws ws := Sm.rf
  have hc0 : (0 : Nat) ≤ 0 := by decide
  have hs0 : (0 : Nat) ≤ 0 := by decide
  refine lv_aload_n hx hb dJxc12de_init_da8c8_0 rfl (lv_at hl 0 rfl) ?_
  refine CV.go (va_runI (As := []) (rest := []) ⟨hx, hb, hml, hown, hts⟩ (c_Jxa1e45_init_da8c8  gp_  _) (cwI 0 hts gJxc12de_init_da8c8_Jxa1e45_init_da8c8 rfl rfl rfl (hts (.initialized RJxa1e45) (by decide +kernel)) (hts (.methodLink RJxc12de 1 yJxa1e45_init_da8c8) (by decide +kernel)) (hts (.instanceMethod yJxa1e45_init_da8c8) (by decide +kernel)) rfl (by decide +kernel) ⟨Nat.le_of_ble_eq_true rfl, Nat.le_of_ble_eq_true rfl⟩) ⟨pw_blind, fun U hU hW => pw_pre hK hP hD hU hW⟩ rfl rfl hl.1 rfl (lv_room (Nat.le_of_ble_eq_true rfl)) dJxc12de_init_da8c8_1 ⟨Nat.le_of_ble_eq_true rfl, Nat.le_of_ble_eq_true rfl⟩) hD hS hA (fun ws_2 H locs hp hP hD hS => ?_)
  subst hp
  refine lv_aload_n hx hb dJxc12de_init_da8c8_4 rfl (lv_at hl 0 rfl) ?_
  refine lv_iconst (v := nI 0) hx hb dJxc12de_init_da8c8_5 (by decide) ?_
  refine nx_put (D := D) (ci := 0) (v := .int (nI 0)) (ty := .int) (C := RJx4a65c) (T := TJx4a65c) (N := 3) hx hb hts hin_Jx4a65c tyJx4a65c tyJx4a65c_ok nmJx4a65c hown hK hP hD hS p_ gp_ rfl 0 (by decide) fl_7 (fun _ h9 => h9) rfl (by decide +kernel) rfl rfl (Nat.le_of_ble_eq_true rfl) dJxc12de_init_da8c8_6 (fun ws_3 H locs gq up_4 hP hD hS => ?_)
  have gp_ : ws_3[p_]? = some (a_, .inr (0, [.int (nI 0), .null, .int (nI 0)])) := gq
  have hlen := up_4.1.trans hlen
  have sm := sm.up up_4 (by simp)
  exact CV.ret C hK hP hD hS (⟨hlen, sm, gp_⟩) hc0 hs0 dJxc12de_init_da8c8_9
set_option maxHeartbeats 4000000 in
set_option maxRecDepth 100000 in
theorem c_Jx4a65c_init_da8c8 {D : va_G} {cB cI cJ cO : ClassId} {l : Launch} {ad mi : Nat} {p_ a_ L0 : Nat} {ws : va_W} (gp_ : ws[p_]? = some (a_, .inr (0, [.int (nI 0), .null, .int (nI 0)]))) (hlen : ws.length = L0) : CVX D (TY cB cI cJ cO) l yJx4a65c_init_da8c8 wsJx4a65c_init_da8c8 ({ frames := 3, cells := 0, slots := 0, locals := 52 }) ad mi [.ref a_] ws (fun ws' => (ws'.length = L0) ∧ Sm (fun k => k = p_) ws ws' ∧ ws'[p_]? = some (a_, .inr (0, [.int (nI 0), .ref ad, .int (nI 0)]))) := by
  refine CVX.of (cc := cJx4a65c_init_da8c8) (maxL := 1) (ret := none) (by decide) rfl (Nat.le_of_ble_eq_true rfl) ?_
  intro p e s m below meth c A C hK hP hD hA hS hX ls hl
  have hN := hX.1
  obtain ⟨hx, hb, hr, hml, hts, hown, hlocks, hnm⟩ := id C
  have fl_9 := hts (.fieldLink RJx4a65c 9 "java/util/ArrayList" "elementData" "[Ljava/lang/Object;") (by decide +kernel)
  have hin_Jx4a65c : ∀ w ∈ u_ws RJx4a65c TJx4a65c 3, w ∈ wsJx4a65c_init_da8c8 := by decide +kernel
  have hl : lv_has ls 1 [(0, .ref a_)] := hl
  have sm : Sm (fun k => k = p_) ws ws := Sm.rf
  have hc0 : (0 : Nat) ≤ 0 := by decide
  have hs0 : (0 : Nat) ≤ 0 := by decide
  refine lv_aload_n hx hb dJx4a65c_init_da8c8_0 rfl (lv_at hl 0 rfl) ?_
  refine CV.go (va_runI (As := []) (rest := []) ⟨hx, hb, hml, hown, hts⟩ (c_Jxc12de_init_da8c8  gp_ hlen _) (cwI 0 hts gJx4a65c_init_da8c8_Jxc12de_init_da8c8 rfl rfl rfl (hts (.initialized RJxc12de) (by decide +kernel)) (hts (.methodLink RJx4a65c 1 yJxc12de_init_da8c8) (by decide +kernel)) (hts (.instanceMethod yJxc12de_init_da8c8) (by decide +kernel)) rfl (by decide +kernel) ⟨Nat.le_of_ble_eq_true rfl, Nat.le_of_ble_eq_true rfl⟩) ⟨pw_blind, fun U hU hW => pw_pre hK hP hD hU hW⟩ rfl rfl hl.1 rfl (lv_room (Nat.le_of_ble_eq_true rfl)) dJx4a65c_init_da8c8_1 ⟨Nat.le_of_ble_eq_true rfl, Nat.le_of_ble_eq_true rfl⟩) hD hS hA (fun ws_2 H locs hp hP hD hS => ?_)
  obtain ⟨f_3, sm_4, gp_⟩ := hp
  have sm := sm.calln sm_4 (by intro k hk; first | exact False.elim hk | ((try simp only at hk ⊢); omega))
  have gp_ : ws_2[p_]? = some (a_, .inr (0, [.int (nI 0), .null, .int (nI 0)])) := gp_
  have hlen : ws_2.length = L0 := f_3
  refine lv_aload_n hx hb dJx4a65c_init_da8c8_4 rfl (lv_at hl 0 rfl) ?_
  refine va_gets hx hb hX.2.2.1 hS hown (hts (.fieldLink RJx4a65c 39 "java/util/ArrayList" "DEFAULTCAPACITY_EMPTY_ELEMENTDATA" "[Ljava/lang/Object;") (by decide +kernel)) (fun _ h9 => h9) dJx4a65c_init_da8c8_5 ?_
  refine nx_put (D := D) (ci := 0) (v := .ref ad) (ty := .array (.object "java/lang/Object")) (C := RJx4a65c) (T := TJx4a65c) (N := 3) hx hb hts hin_Jx4a65c tyJx4a65c tyJx4a65c_ok nmJx4a65c hown hK hP hD hS p_ gp_ rfl 1 (by decide) fl_9 (fun _ h9 => h9) rfl (by decide +kernel) rfl rfl (Nat.le_of_ble_eq_true rfl) dJx4a65c_init_da8c8_8 (fun ws_5 H locs gq up_6 hP hD hS => ?_)
  have gp_ : ws_5[p_]? = some (a_, .inr (0, [.int (nI 0), .ref ad, .int (nI 0)])) := gq
  have hlen := up_6.1.trans hlen
  have sm := sm.up up_6 (by simp)
  exact CV.ret C hK hP hD hS (⟨hlen, sm, gp_⟩) hc0 hs0 dJx4a65c_init_da8c8_11
