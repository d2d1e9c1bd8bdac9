set_option maxHeartbeats 4000000 in
set_option maxRecDepth 100000 in
theorem c_Jx4a65c_addA1 {D : va_G} {cB cI cJ cO : ClassId} {l : Launch} {ad mi : Nat} {p_ a_ e_ q_ cap : Nat} {mc : Int32} {f : Nat → Option Nat} {R : List Nat} {x_q x_ : Nat} {vsx : List Value} {ws : va_W} (gp_ : ws[p_]? = some (a_, .inr (0, [.int mc, .ref e_, .int (nI (R.length))]))) (gq_ : ws[q_]? = some (e_, .inl (cO, cap, .inr (.inr (.inr (.inr f)))))) (gx_q : ws[x_q]? = some (x_, .inr (1, vsx))) (hHR : HdR f R) (hlt : R.length < cap) (hcb : cap ≤ 49) (hel : DIn ws R) : CIX D (TY cB cI cJ cO) l yJx4a65c_add_9ea2d wsJx4a65c_add_9ea2d ({ frames := 6, cells := 1, slots := 49, locals := 150 }) ad mi [.ref a_, .ref x_] ws (fun r ws' => r = nI (1) ∧ (DIn ws' R) ∧ Sm (fun k => k = p_ ∨ k = q_) ws ws' ∧ ws'[p_]? = some (a_, .inr (0, [.int (mc + nI 1), .ref e_, .int (nI ((R ++ [x_]).length))])) ∧ ws'[q_]? = some (e_, .inl (cO, cap, .inr (.inr (.inr (.inr (va_up f R.length (some x_)))))))) := by
  refine CIX.of (cc := cJx4a65c_add_9ea2d) (maxL := 2) (ret := (some .boolean)) (by decide) rfl (Nat.le_of_ble_eq_true rfl) ?_
  intro p e s m below meth c A C hK hP hD hA hS hX ls hl
  have hN := hX.1
  obtain ⟨hx, hb, hr, hml, hts, hown, hlocks, hnm⟩ := id C
  have fl_9 := hts (.fieldLink RJx4a65c 9 "java/util/ArrayList" "elementData" "[Ljava/lang/Object;") (by decide +kernel)
  have fl_48 := hts (.fieldLink RJx4a65c 48 "java/util/ArrayList" "size" "I") (by decide +kernel)
  have fl_63 := hts (.fieldLink RJx4a65c 63 "java/util/ArrayList" "modCount" "I") (by decide +kernel)
  have hin_Jx4a65c : ∀ w ∈ u_ws RJx4a65c TJx4a65c 3, w ∈ wsJx4a65c_add_9ea2d := by decide +kernel
  have hl : lv_has ls 2 [(0, .ref a_), (1, .ref x_)] := hl
  have sm : Sm (fun k => k = p_ ∨ k = q_) ws ws := Sm.rf
  have hc0 : (0 : Nat) ≤ 1 := by decide
  have hs0 : (0 : Nat) ≤ 49 := by decide
  have hne_0_1 : p_ ≠ q_ := gl_ne gp_ gq_ (by simp)
  have hne_0_2 : p_ ≠ x_q := gl_ne gp_ gx_q (by simp)
  have hne_1_2 : q_ ≠ x_q := gl_ne gq_ gx_q (by simp)
  refine lv_aload_n hx hb dJx4a65c_add_9ea2d_0 rfl (lv_at hl 0 rfl) ?_
  refine lv_dup hx hb dJx4a65c_add_9ea2d_1 rfl ?_
  refine va_get (D := D) (ci := 0) (v := .int mc) (C := RJx4a65c) (T := TJx4a65c) (N := 3) hx hb hts hin_Jx4a65c hown hK hP p_ gp_ rfl 0 (by decide) fl_63 (u_same (hts (.sameField "java/util/ArrayList" "java/util/AbstractList" "modCount" "I") (by decide +kernel))) rfl dJx4a65c_add_9ea2d_2 ?_
  refine lv_iconst (v := nI 1) hx hb dJx4a65c_add_9ea2d_5 (by decide) ?_
  refine lv_iadd hx hb dJx4a65c_add_9ea2d_6 ?_
  refine nx_put (D := D) (ci := 0) (v := .int (mc + (nI 1))) (ty := .int) (C := RJx4a65c) (T := TJx4a65c) (N := 3) hx hb hts hin_Jx4a65c tyJx4a65c tyJx4a65c_ok nmJx4a65c hown hK hP hD hS p_ gp_ rfl 0 (by decide) fl_63 (u_same (hts (.sameField "java/util/ArrayList" "java/util/AbstractList" "modCount" "I") (by decide +kernel))) rfl (by decide +kernel) rfl rfl (Nat.le_of_ble_eq_true rfl) dJx4a65c_add_9ea2d_7 (fun ws_1 H locs gq up_2 hP hD hS => ?_)
  have go_p_ := gp_
  have gp_ : ws_1[p_]? = some (a_, .inr (0, [.int (mc + (nI 1)), .ref e_, .int (nI (R.length))])) := gq
  have gq_ := up_2.get gq_ (by omega)
  have gx_q := up_2.get gx_q (by omega)
  have hel : DIn ws_1 R := hel.up up_2 (fun y vs h9 => by rw [go_p_] at h9; cases h9)
  have sm := sm.up up_2 (by simp)
  refine lv_aload_n hx hb dJx4a65c_add_9ea2d_10 rfl (lv_at hl 0 rfl) ?_
  refine lv_aload_n hx hb dJx4a65c_add_9ea2d_11 rfl (lv_at hl 1 rfl) ?_
  refine lv_aload_n hx hb dJx4a65c_add_9ea2d_12 rfl (lv_at hl 0 rfl) ?_
  refine va_get (D := D) (ci := 0) (v := .ref e_) (C := RJx4a65c) (T := TJx4a65c) (N := 3) hx hb hts hin_Jx4a65c hown hK hP p_ gp_ rfl 1 (by decide) fl_9 (fun _ h9 => h9) rfl dJx4a65c_add_9ea2d_13 ?_
  refine lv_aload_n hx hb dJx4a65c_add_9ea2d_16 rfl (lv_at hl 0 rfl) ?_
  refine va_get (D := D) (ci := 0) (v := .int (nI (R.length))) (C := RJx4a65c) (T := TJx4a65c) (N := 3) hx hb hts hin_Jx4a65c hown hK hP p_ gp_ rfl 2 (by decide) fl_48 (fun _ h9 => h9) rfl dJx4a65c_add_9ea2d_17 ?_
  refine CV.go (va_runV (As := [.ref x_, .ref e_, .int (nI (R.length))]) (rest := []) ⟨hx, hb, hml, hown, hts⟩ (c_Jx4a65c_addA  gp_ gq_ gx_q hHR hlt hcb hel _) (cwV 3 hts gJx4a65c_add_9ea2d_Jx4a65c_add_72be8 rfl rfl rfl (by decide +kernel) ⟨Nat.le_of_ble_eq_true rfl, Nat.le_of_ble_eq_true rfl⟩) ⟨pwx_blind, va_recv hK hP (ci := 0) (q0 := p_) rfl gp_, fun U hU hW => pwx_pre hX hA hS hK hP hD hU hW⟩ rfl rfl hl.1 rfl (lv_room (Nat.le_of_ble_eq_true rfl)) dJx4a65c_add_9ea2d_20 ⟨Nat.le_of_ble_eq_true rfl, Nat.le_of_ble_eq_true rfl⟩) hD hS hA (fun ws_4 H locs hp hP hD hS => ?_)
  obtain ⟨hel, sm_5, gp_, gq_⟩ := hp
  have gx_q := sm_5.get gx_q (by intro h9; first | (simp at h9; done) | ((try simp only at h9); omega))
  have sm := sm.call sm_5 (by intro k hk; first | exact False.elim hk | ((try simp only at hk ⊢); omega))
  have gp_ : ws_4[p_]? = some (a_, .inr (0, [.int ((mc + nI 1)), .ref e_, .int (nI ((R ++ [x_]).length))])) := gp_
  have gq_ : ws_4[q_]? = some (e_, .inl (cO, cap, .inr (.inr (.inr (.inr (va_up f R.length (some x_))))))) := gq_
  refine W.widen (k := 1) (n := 49) (Nat.le_of_ble_eq_true rfl) (Nat.le_of_ble_eq_true rfl) ?_
  refine lv_iconst (v := nI 1) hx hb dJx4a65c_add_9ea2d_23 (by decide) ?_
  exact CI.ret (v := (nI 1)) C hK hP hD hS (by decide) (⟨rfl, hel, sm, gp_, gq_⟩) (by decide) (by decide) dJx4a65c_add_9ea2d_24
set_option maxHeartbeats 4000000 in
set_option maxRecDepth 100000 in
theorem c_Jx4a65c_addB1 {D : va_G} {cB cI cJ cO : ClassId} {l : Launch} {ad mi : Nat} {p_ a_ e_ q_ cap : Nat} {mc : Int32} {f : Nat → Option Nat} {R : List Nat} {x_q x_ : Nat} {vsx : List Value} {L0 : Nat} {ws : va_W} (gp_ : ws[p_]? = some (a_, .inr (0, [.int mc, .ref e_, .int (nI (R.length))]))) (gq_ : ws[q_]? = some (e_, .inl (cO, cap, .inr (.inr (.inr (.inr f)))))) (gx_q : ws[x_q]? = some (x_, .inr (1, vsx))) (hlen : ws.length = L0) (hHR : HdR f R) (hR : R.length = cap) (hcb : 2 ≤ cap ∧ cap ≤ 33) (hel : DIn ws R) : CIX D (TY cB cI cJ cO) l yJx4a65c_add_9ea2d wsJx4a65c_add_9ea2d ({ frames := 6, cells := 1, slots := 49, locals := 150 }) ad mi [.ref a_, .ref x_] ws (fun r ws' => ∃ q2 : Nat, r = nI (1) ∧ (DIn ws' R) ∧ (ws'.length = L0 + 1) ∧ Sm (fun k => k = p_) ws ws' ∧ ws'[p_]? = some (a_, .inr (0, [.int (mc + nI 1), .ref q2, .int (nI ((R ++ [x_]).length))])) ∧ ws'[L0]? = some (q2, .inl (cO, cap + max 1 (cap / 2), .inr (.inr (.inr (.inr (va_up (va_cpy f (fun _ => none) 0 0 cap) R.length (some x_)))))))) := by
  refine CIX.of (cc := cJx4a65c_add_9ea2d) (maxL := 2) (ret := (some .boolean)) (by decide) rfl (Nat.le_of_ble_eq_true rfl) ?_
  intro p e s m below meth c A C hK hP hD hA hS hX ls hl
  have hN := hX.1
  obtain ⟨hx, hb, hr, hml, hts, hown, hlocks, hnm⟩ := id C
  have fl_9 := hts (.fieldLink RJx4a65c 9 "java/util/ArrayList" "elementData" "[Ljava/lang/Object;") (by decide +kernel)
  have fl_48 := hts (.fieldLink RJx4a65c 48 "java/util/ArrayList" "size" "I") (by decide +kernel)
  have fl_63 := hts (.fieldLink RJx4a65c 63 "java/util/ArrayList" "modCount" "I") (by decide +kernel)
  have hin_Jx4a65c : ∀ w ∈ u_ws RJx4a65c TJx4a65c 3, w ∈ wsJx4a65c_add_9ea2d := by decide +kernel
  have hl : lv_has ls 2 [(0, .ref a_), (1, .ref x_)] := hl
  have sm : Sm (fun k => k = p_) ws ws := Sm.rf
  have hc0 : (0 : Nat) ≤ 1 := by decide
  have hs0 : (0 : Nat) ≤ 49 := by decide
  have hne_0_1 : p_ ≠ q_ := gl_ne gp_ gq_ (by simp)
  have hne_0_2 : p_ ≠ x_q := gl_ne gp_ gx_q (by simp)
  have hne_1_2 : q_ ≠ x_q := gl_ne gq_ gx_q (by simp)
  refine lv_aload_n hx hb dJx4a65c_add_9ea2d_0 rfl (lv_at hl 0 rfl) ?_
  refine lv_dup hx hb dJx4a65c_add_9ea2d_1 rfl ?_
  refine va_get (D := D) (ci := 0) (v := .int mc) (C := RJx4a65c) (T := TJx4a65c) (N := 3) hx hb hts hin_Jx4a65c hown hK hP p_ gp_ rfl 0 (by decide) fl_63 (u_same (hts (.sameField "java/util/ArrayList" "java/util/AbstractList" "modCount" "I") (by decide +kernel))) rfl dJx4a65c_add_9ea2d_2 ?_
  refine lv_iconst (v := nI 1) hx hb dJx4a65c_add_9ea2d_5 (by decide) ?_
  refine lv_iadd hx hb dJx4a65c_add_9ea2d_6 ?_
  refine nx_put (D := D) (ci := 0) (v := .int (mc + (nI 1))) (ty := .int) (C := RJx4a65c) (T := TJx4a65c) (N := 3) hx hb hts hin_Jx4a65c tyJx4a65c tyJx4a65c_ok nmJx4a65c hown hK hP hD hS p_ gp_ rfl 0 (by decide) fl_63 (u_same (hts (.sameField "java/util/ArrayList" "java/util/AbstractList" "modCount" "I") (by decide +kernel))) rfl (by decide +kernel) rfl rfl (Nat.le_of_ble_eq_true rfl) dJx4a65c_add_9ea2d_7 (fun ws_1 H locs gq up_2 hP hD hS => ?_)
  have go_p_ := gp_
  have gp_ : ws_1[p_]? = some (a_, .inr (0, [.int (mc + (nI 1)), .ref e_, .int (nI (R.length))])) := gq
  have gq_ := up_2.get gq_ (by omega)
  have gx_q := up_2.get gx_q (by omega)
  have hel : DIn ws_1 R := hel.up up_2 (fun y vs h9 => by rw [go_p_] at h9; cases h9)
  have hlen := up_2.1.trans hlen
  have sm := sm.up up_2 (by simp)
  refine lv_aload_n hx hb dJx4a65c_add_9ea2d_10 rfl (lv_at hl 0 rfl) ?_
  refine lv_aload_n hx hb dJx4a65c_add_9ea2d_11 rfl (lv_at hl 1 rfl) ?_
  refine lv_aload_n hx hb dJx4a65c_add_9ea2d_12 rfl (lv_at hl 0 rfl) ?_
  refine va_get (D := D) (ci := 0) (v := .ref e_) (C := RJx4a65c) (T := TJx4a65c) (N := 3) hx hb hts hin_Jx4a65c hown hK hP p_ gp_ rfl 1 (by decide) fl_9 (fun _ h9 => h9) rfl dJx4a65c_add_9ea2d_13 ?_
  refine lv_aload_n hx hb dJx4a65c_add_9ea2d_16 rfl (lv_at hl 0 rfl) ?_
  refine va_get (D := D) (ci := 0) (v := .int (nI (R.length))) (C := RJx4a65c) (T := TJx4a65c) (N := 3) hx hb hts hin_Jx4a65c hown hK hP p_ gp_ rfl 2 (by decide) fl_48 (fun _ h9 => h9) rfl dJx4a65c_add_9ea2d_17 ?_
  have hp_p_ := gl_lt gp_
  have hp_q_ := gl_lt gq_
  have hp_x_q := gl_lt gx_q
  refine CV.go (va_runV (As := [.ref x_, .ref e_, .int (nI (R.length))]) (rest := []) ⟨hx, hb, hml, hown, hts⟩ (c_Jx4a65c_addB  gp_ gq_ gx_q hlen hHR hR hcb hel _) (cwV 3 hts gJx4a65c_add_9ea2d_Jx4a65c_add_72be8 rfl rfl rfl (by decide +kernel) ⟨Nat.le_of_ble_eq_true rfl, Nat.le_of_ble_eq_true rfl⟩) ⟨pwx_blind, va_recv hK hP (ci := 0) (q0 := p_) rfl gp_, fun U hU hW => pwx_pre hX hA hS hK hP hD hU hW⟩ rfl rfl hl.1 rfl (lv_room (Nat.le_of_ble_eq_true rfl)) dJx4a65c_add_9ea2d_20 ⟨Nat.le_of_ble_eq_true rfl, Nat.le_of_ble_eq_true rfl⟩) hD hS hA (fun ws_4 H locs hp hP hD hS => ?_)
  obtain ⟨q2, hel, hl9, sm_5, gp_, gL0⟩ := hp
  have gq_ := sm_5.get gq_ (by intro h9; first | (simp at h9; done) | ((try simp only at h9); omega))
  have gx_q := sm_5.get gx_q (by intro h9; first | (simp at h9; done) | ((try simp only at h9); omega))
  have sm := sm.calln sm_5 (by intro k hk; first | exact False.elim hk | ((try simp only at hk ⊢); omega))
  have gp_ : ws_4[p_]? = some (a_, .inr (0, [.int ((mc + nI 1)), .ref q2, .int (nI ((R ++ [x_]).length))])) := gp_
  have gL0 : ws_4[L0]? = some (q2, .inl (cO, cap + max 1 (cap / 2), .inr (.inr (.inr (.inr (va_up (va_cpy f (fun _ => none) 0 0 cap) R.length (some x_))))))) := gL0
  have hlen : ws_4.length = L0 + 1 := hl9
  refine W.widen (k := 1) (n := 49) (Nat.le_of_ble_eq_true rfl) (Nat.le_of_ble_eq_true rfl) ?_
  refine lv_iconst (v := nI 1) hx hb dJx4a65c_add_9ea2d_23 (by decide) ?_
  exact CI.ret (v := (nI 1)) C hK hP hD hS (by decide) (⟨_, rfl, hel, hlen, sm, gp_, gL0⟩) (by decide) (by decide) dJx4a65c_add_9ea2d_24
set_option maxHeartbeats 4000000 in
set_option maxRecDepth 100000 in
theorem c_Jx4a65c_addC1 {D : va_G} {cB cI cJ cO : ClassId} {l : Launch} {ad mi : Nat} {p_ a_ : Nat} {mc : Int32} {R : List Nat} {x_q x_ : Nat} {vsx : List Value} {L0 : Nat} {ws : va_W} (gp_ : ws[p_]? = some (a_, .inr (0, [.int mc, .ref ad, .int (nI 0)]))) (gx_q : ws[x_q]? = some (x_, .inr (1, vsx))) (hlen : ws.length = L0) (hel : DIn ws R) : CIX D (TY cB cI cJ cO) l yJx4a65c_add_9ea2d wsJx4a65c_add_9ea2d ({ frames := 6, cells := 1, slots := 49, locals := 150 }) ad mi [.ref a_, .ref x_] ws (fun r ws' => ∃ q2 : Nat, r = nI (1) ∧ (DIn ws' R) ∧ (ws'.length = L0 + 1) ∧ Sm (fun k => k = p_) ws ws' ∧ ws'[p_]? = some (a_, .inr (0, [.int (mc + nI 1), .ref q2, .int (nI 1)])) ∧ ws'[L0]? = some (q2, .inl (cO, 10, .inr (.inr (.inr (.inr (va_up (fun _ => none) 0 (some x_)))))))) := by
  refine CIX.of (cc := cJx4a65c_add_9ea2d) (maxL := 2) (ret := (some .boolean)) (by decide) rfl (Nat.le_of_ble_eq_true rfl) ?_
  intro p e s m below meth c A C hK hP hD hA hS hX ls hl
  have hN := hX.1
  obtain ⟨hx, hb, hr, hml, hts, hown, hlocks, hnm⟩ := id C
  have fl_9 := hts (.fieldLink RJx4a65c 9 "java/util/ArrayList" "elementData" "[Ljava/lang/Object;") (by decide +kernel)
  have fl_48 := hts (.fieldLink RJx4a65c 48 "java/util/ArrayList" "size" "I") (by decide +kernel)
  have fl_63 := hts (.fieldLink RJx4a65c 63 "java/util/ArrayList" "modCount" "I") (by decide +kernel)
  have hin_Jx4a65c : ∀ w ∈ u_ws RJx4a65c TJx4a65c 3, w ∈ wsJx4a65c_add_9ea2d := by decide +kernel
  have hl : lv_has ls 2 [(0, .ref a_), (1, .ref x_)] := hl
  have sm : Sm (fun k => k = p_) ws ws := Sm.rf
  have hc0 : (0 : Nat) ≤ 1 := by decide
  have hs0 : (0 : Nat) ≤ 49 := by decide
  have hne_0_1 : p_ ≠ x_q := gl_ne gp_ gx_q (by simp)
  refine lv_aload_n hx hb dJx4a65c_add_9ea2d_0 rfl (lv_at hl 0 rfl) ?_
  refine lv_dup hx hb dJx4a65c_add_9ea2d_1 rfl ?_
  refine va_get (D := D) (ci := 0) (v := .int mc) (C := RJx4a65c) (T := TJx4a65c) (N := 3) hx hb hts hin_Jx4a65c hown hK hP p_ gp_ rfl 0 (by decide) fl_63 (u_same (hts (.sameField "java/util/ArrayList" "java/util/AbstractList" "modCount" "I") (by decide +kernel))) rfl dJx4a65c_add_9ea2d_2 ?_
  refine lv_iconst (v := nI 1) hx hb dJx4a65c_add_9ea2d_5 (by decide) ?_
  refine lv_iadd hx hb dJx4a65c_add_9ea2d_6 ?_
  refine nx_put (D := D) (ci := 0) (v := .int (mc + (nI 1))) (ty := .int) (C := RJx4a65c) (T := TJx4a65c) (N := 3) hx hb hts hin_Jx4a65c tyJx4a65c tyJx4a65c_ok nmJx4a65c hown hK hP hD hS p_ gp_ rfl 0 (by decide) fl_63 (u_same (hts (.sameField "java/util/ArrayList" "java/util/AbstractList" "modCount" "I") (by decide +kernel))) rfl (by decide +kernel) rfl rfl (Nat.le_of_ble_eq_true rfl) dJx4a65c_add_9ea2d_7 (fun ws_1 H locs gq up_2 hP hD hS => ?_)
  have go_p_ := gp_
  have gp_ : ws_1[p_]? = some (a_, .inr (0, [.int (mc + (nI 1)), .ref ad, .int (nI 0)])) := gq
  have gx_q := up_2.get gx_q (by omega)
  have hel : DIn ws_1 R := hel.up up_2 (fun y vs h9 => by rw [go_p_] at h9; cases h9)
  have hlen := up_2.1.trans hlen
  have sm := sm.up up_2 (by simp)
  refine lv_aload_n hx hb dJx4a65c_add_9ea2d_10 rfl (lv_at hl 0 rfl) ?_
  refine lv_aload_n hx hb dJx4a65c_add_9ea2d_11 rfl (lv_at hl 1 rfl) ?_
  refine lv_aload_n hx hb dJx4a65c_add_9ea2d_12 rfl (lv_at hl 0 rfl) ?_
  refine va_get (D := D) (ci := 0) (v := .ref ad) (C := RJx4a65c) (T := TJx4a65c) (N := 3) hx hb hts hin_Jx4a65c hown hK hP p_ gp_ rfl 1 (by decide) fl_9 (fun _ h9 => h9) rfl dJx4a65c_add_9ea2d_13 ?_
  refine lv_aload_n hx hb dJx4a65c_add_9ea2d_16 rfl (lv_at hl 0 rfl) ?_
  refine va_get (D := D) (ci := 0) (v := .int (nI 0)) (C := RJx4a65c) (T := TJx4a65c) (N := 3) hx hb hts hin_Jx4a65c hown hK hP p_ gp_ rfl 2 (by decide) fl_48 (fun _ h9 => h9) rfl dJx4a65c_add_9ea2d_17 ?_
  have hp_p_ := gl_lt gp_
  have hp_x_q := gl_lt gx_q
  refine CV.go (va_runV (As := [.ref x_, .ref ad, .int (nI 0)]) (rest := []) ⟨hx, hb, hml, hown, hts⟩ (c_Jx4a65c_addC  gp_ gx_q hlen hel _) (cwV 3 hts gJx4a65c_add_9ea2d_Jx4a65c_add_72be8 rfl rfl rfl (by decide +kernel) ⟨Nat.le_of_ble_eq_true rfl, Nat.le_of_ble_eq_true rfl⟩) ⟨pwx_blind, va_recv hK hP (ci := 0) (q0 := p_) rfl gp_, fun U hU hW => pwx_pre hX hA hS hK hP hD hU hW⟩ rfl rfl hl.1 rfl (lv_room (Nat.le_of_ble_eq_true rfl)) dJx4a65c_add_9ea2d_20 ⟨Nat.le_of_ble_eq_true rfl, Nat.le_of_ble_eq_true rfl⟩) hD hS hA (fun ws_4 H locs hp hP hD hS => ?_)
  obtain ⟨q2, hel, hl9, sm_5, gp_, gL0⟩ := hp
  have gx_q := sm_5.get gx_q (by intro h9; first | (simp at h9; done) | ((try simp only at h9); omega))
  have sm := sm.calln sm_5 (by intro k hk; first | exact False.elim hk | ((try simp only at hk ⊢); omega))
  have gp_ : ws_4[p_]? = some (a_, .inr (0, [.int ((mc + nI 1)), .ref q2, .int (nI 1)])) := gp_
  have gL0 : ws_4[L0]? = some (q2, .inl (cO, 10, .inr (.inr (.inr (.inr (va_up (fun _ => none) 0 (some x_))))))) := gL0
  have hlen : ws_4.length = L0 + 1 := hl9
  refine W.widen (k := 1) (n := 49) (Nat.le_of_ble_eq_true rfl) (Nat.le_of_ble_eq_true rfl) ?_
  refine lv_iconst (v := nI 1) hx hb dJx4a65c_add_9ea2d_23 (by decide) ?_
  exact CI.ret (v := (nI 1)) C hK hP hD hS (by decide) (⟨_, rfl, hel, hlen, sm, gp_, gL0⟩) (by decide) (by decide) dJx4a65c_add_9ea2d_24
