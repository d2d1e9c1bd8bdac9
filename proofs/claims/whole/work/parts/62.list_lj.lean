set_option maxHeartbeats 4000000 in
set_option maxRecDepth 100000 in
theorem c_Jx4a65c_insA {D : va_G} {cB cI cJ cO : ClassId} {l : Launch} {ad mi : Nat} {p_ a_ e_ q_ cap : Nat} {mc : Int32} {f : Nat → Option Nat} {R : List Nat} {x_q x_ : Nat} {vsx : List Value} {i : Nat} {ws : va_W} (gp_ : ws[p_]? = some (a_, .inr (0, [.int mc, .ref e_, .int (nI (R.length))]))) (gq_ : ws[q_]? = some (e_, .inl (cO, cap, .inr (.inr (.inr (.inr f)))))) (gx_q : ws[x_q]? = some (x_, .inr (1, vsx))) (hHR : HdR f R) (hi : i ≤ R.length) (hlt : R.length < cap) (hcb : cap ≤ 49) (hel : DIn ws R) : CVX D (TY cB cI cJ cO) l yJx4a65c_add_7a177 wsJx4a65c_add_7a177 ({ frames := 5, cells := 1, slots := 49, locals := 127 }) ad mi [.ref a_, .int (nI i), .ref x_] ws (fun ws' => (DIn ws' R) ∧ Sm (fun k => k = p_ ∨ k = q_) ws ws' ∧ ws'[p_]? = some (a_, .inr (0, [.int (mc + nI 1), .ref e_, .int (nI ((R.take i ++ x_ :: R.drop i).length))])) ∧ ws'[q_]? = some (e_, .inl (cO, cap, .inr (.inr (.inr (.inr (va_up (va_cpy f f i (i + 1) (R.length - i)) i (some x_)))))))) := by
  refine CVX.of (cc := cJx4a65c_add_7a177) (maxL := 5) (ret := none) (by decide) rfl (Nat.le_of_ble_eq_true rfl) ?_
  intro p e s m below meth c A C hK hP hD hA hS hX ls hl
  have hN := hX.1
  obtain ⟨hx, hb, hr, hml, hts, hown, hlocks, hnm⟩ := id C
  have fl_9 := hts (.fieldLink RJx4a65c 9 "java/util/ArrayList" "elementData" "[Ljava/lang/Object;") (by decide +kernel)
  have fl_48 := hts (.fieldLink RJx4a65c 48 "java/util/ArrayList" "size" "I") (by decide +kernel)
  have fl_63 := hts (.fieldLink RJx4a65c 63 "java/util/ArrayList" "modCount" "I") (by decide +kernel)
  have hin_Jx4a65c : ∀ w ∈ u_ws RJx4a65c TJx4a65c 3, w ∈ wsJx4a65c_add_7a177 := by decide +kernel
  have hl : lv_has ls 5 [(0, .ref a_), (1, .int (nI i)), (2, .ref x_)] := hl
  have sm : Sm (fun k => k = p_ ∨ k = q_) ws ws := Sm.rf
  have hc0 : (0 : Nat) ≤ 1 := by decide
  have hs0 : (0 : Nat) ≤ 49 := by decide
  have hne_0_1 : p_ ≠ q_ := gl_ne gp_ gq_ (by simp)
  have hne_0_2 : p_ ≠ x_q := gl_ne gp_ gx_q (by simp)
  have hne_1_2 : q_ ≠ x_q := gl_ne gq_ gx_q (by simp)
  refine lv_aload_n hx hb dJx4a65c_add_7a177_0 rfl (lv_at hl 0 rfl) ?_
  refine lv_iload_n hx hb dJx4a65c_add_7a177_1 rfl (lv_at hl 1 rfl) ?_
  refine CV.go (va_runV (As := [.int (nI i)]) (rest := []) ⟨hx, hb, hml, hown, hts⟩ (c_Jx4a65c_rangeCheckForAdd_d00df  gp_ hi (by omega) _) (cwV 1 hts gJx4a65c_add_7a177_Jx4a65c_rangeCheckForAdd_d00df rfl rfl rfl (by decide +kernel) ⟨Nat.le_of_ble_eq_true rfl, Nat.le_of_ble_eq_true rfl⟩) ⟨pw_blind, va_recv hK hP (ci := 0) (q0 := p_) rfl gp_, fun U hU hW => pw_pre hK hP hD hU hW⟩ rfl rfl hl.1 rfl (lv_room (Nat.le_of_ble_eq_true rfl)) dJx4a65c_add_7a177_2 ⟨Nat.le_of_ble_eq_true rfl, Nat.le_of_ble_eq_true rfl⟩) hD hS hA (fun ws_2 H locs hp hP hD hS => ?_)
  subst hp
  refine lv_aload_n hx hb dJx4a65c_add_7a177_5 rfl (lv_at hl 0 rfl) ?_
  refine lv_dup hx hb dJx4a65c_add_7a177_6 rfl ?_
  refine va_get (D := D) (ci := 0) (v := .int mc) (C := RJx4a65c) (T := TJx4a65c) (N := 3) hx hb hts hin_Jx4a65c hown hK hP p_ gp_ rfl 0 (by decide) fl_63 (u_same (hts (.sameField "java/util/ArrayList" "java/util/AbstractList" "modCount" "I") (by decide +kernel))) rfl dJx4a65c_add_7a177_7 ?_
  refine lv_iconst (v := nI 1) hx hb dJx4a65c_add_7a177_10 (by decide) ?_
  refine lv_iadd hx hb dJx4a65c_add_7a177_11 ?_
  refine nx_put (D := D) (ci := 0) (v := .int (mc + (nI 1))) (ty := .int) (C := RJx4a65c) (T := TJx4a65c) (N := 3) hx hb hts hin_Jx4a65c tyJx4a65c tyJx4a65c_ok nmJx4a65c hown hK hP hD hS p_ gp_ rfl 0 (by decide) fl_63 (u_same (hts (.sameField "java/util/ArrayList" "java/util/AbstractList" "modCount" "I") (by decide +kernel))) rfl (by decide +kernel) rfl rfl (Nat.le_of_ble_eq_true rfl) dJx4a65c_add_7a177_12 (fun ws_3 H locs gq up_4 hP hD hS => ?_)
  have go_p_ := gp_
  have gp_ : ws_3[p_]? = some (a_, .inr (0, [.int (mc + (nI 1)), .ref e_, .int (nI (R.length))])) := gq
  have gq_ := up_4.get gq_ (by omega)
  have gx_q := up_4.get gx_q (by omega)
  have hel : DIn ws_3 R := hel.up up_4 (fun y vs h9 => by rw [go_p_] at h9; cases h9)
  have sm := sm.up up_4 (by simp)
  refine lv_aload_n hx hb dJx4a65c_add_7a177_15 rfl (lv_at hl 0 rfl) ?_
  refine va_get (D := D) (ci := 0) (v := .int (nI (R.length))) (C := RJx4a65c) (T := TJx4a65c) (N := 3) hx hb hts hin_Jx4a65c hown hK hP p_ gp_ rfl 2 (by decide) fl_48 (fun _ h9 => h9) rfl dJx4a65c_add_7a177_16 ?_
  refine lv_dup hx hb dJx4a65c_add_7a177_19 rfl ?_
  refine lv_istore_n (lv' := [(3, .int (nI (R.length))), (0, .ref a_), (1, .int (nI i)), (2, .ref x_)]) hx hb dJx4a65c_add_7a177_20 rfl hl (by decide) rfl (fun ls hl => ?_)
  refine lv_aload_n hx hb dJx4a65c_add_7a177_21 rfl (lv_at hl 1 rfl) ?_
  refine va_get (D := D) (ci := 0) (v := .ref e_) (C := RJx4a65c) (T := TJx4a65c) (N := 3) hx hb hts hin_Jx4a65c hown hK hP p_ gp_ rfl 1 (by decide) fl_9 (fun _ h9 => h9) rfl dJx4a65c_add_7a177_22 ?_
  refine lv_dup hx hb dJx4a65c_add_7a177_25 rfl ?_
  refine lv_astore (lv' := [(4, .ref e_), (3, .int (nI (R.length))), (0, .ref a_), (1, .int (nI i)), (2, .ref x_)]) hx hb dJx4a65c_add_7a177_26 hl (by decide) rfl (fun ls hl => ?_)
  refine va_alen (v := nI cap) hx hb hK hP q_ 3 gq_ rfl rfl dJx4a65c_add_7a177_28 ?_
  refine nx_icmp_ne (tgt := 38) hx hb (by omega) (by omega) dJx4a65c_add_7a177_29 (by decide) (fun c_29 => ?_) (fun c_29 => ?_)
  · refine lv_aload hx hb dJx4a65c_add_7a177_38 (lv_at hl 0 rfl) ?_
    refine lv_iload_n hx hb dJx4a65c_add_7a177_40 rfl (lv_at hl 3 rfl) ?_
    refine lv_aload hx hb dJx4a65c_add_7a177_41 (lv_at hl 0 rfl) ?_
    refine lv_iload_n hx hb dJx4a65c_add_7a177_43 rfl (lv_at hl 3 rfl) ?_
    refine lv_iconst (v := nI 1) hx hb dJx4a65c_add_7a177_44 (by decide) ?_
    refine nx_iadd hx hb dJx4a65c_add_7a177_45 ?_
    refine lv_iload_n hx hb dJx4a65c_add_7a177_46 rfl (lv_at hl 1 rfl) ?_
    refine lv_iload_n hx hb dJx4a65c_add_7a177_47 rfl (lv_at hl 3 rfl) ?_
    refine nx_isub hx hb (by omega) dJx4a65c_add_7a177_48 ?_
    refine nx_copy hx hb (hml.trans hl.1.symm) hown (hts (.methodLink RJx4a65c 112 arraycopyName) (by decide +kernel)) (hts (.native arraycopyName) (by decide +kernel)) (hts (.static arraycopyName) (by decide +kernel)) (hts (.initialized "java/lang/System") (by decide +kernel)) hX hK hP hD hS q_ q_ gq_ gq_ (sp := i) (dp := (i + 1)) (n := (R.length - i)) ⟨by omega, by omega⟩ (by omega) (by omega) (hel.el hHR (by omega)) (Nat.le_of_ble_eq_true rfl) (Nat.le_of_ble_eq_true rfl) dJx4a65c_add_7a177_49 (fun ws_5 H locs gq up_6 hP hD hS => ?_)
    have go_q_ := gq_
    have gq_ : ws_5[q_]? = some (e_, .inl (cO, cap, .inr (.inr (.inr (.inr (va_cpy f f i (i + 1) (R.length - i))))))) := gq
    have gp_ := up_6.get gp_ (by omega)
    have gx_q := up_6.get gx_q (by omega)
    have hel : DIn ws_5 R := hel.up up_6 (fun y vs h9 => by rw [go_q_] at h9; cases h9)
    have sm := sm.up up_6 (by simp)
    refine lv_aload hx hb dJx4a65c_add_7a177_52 (lv_at hl 0 rfl) ?_
    refine lv_iload_n hx hb dJx4a65c_add_7a177_54 rfl (lv_at hl 3 rfl) ?_
    refine lv_aload_n hx hb dJx4a65c_add_7a177_55 rfl (lv_at hl 4 rfl) ?_
    refine nx_aast hx hb hK hP hD hS q_ gq_ hX x_q gx_q (k := i) (by omega) (by omega) dJx4a65c_add_7a177_56 (fun ws_7 H locs gq up_8 hP hD hS => ?_)
    have go_q_ := gq_
    have gq_ : ws_7[q_]? = some (e_, .inl (cO, cap, .inr (.inr (.inr (.inr (va_up (va_cpy f f i (i + 1) (R.length - i)) i (some x_))))))) := gq
    have gp_ := up_8.get gp_ (by omega)
    have gx_q := up_8.get gx_q (by omega)
    have hel : DIn ws_7 R := hel.up up_8 (fun y vs h9 => by rw [go_q_] at h9; cases h9)
    have sm := sm.up up_8 (by simp)
    refine lv_aload_n hx hb dJx4a65c_add_7a177_57 rfl (lv_at hl 2 rfl) ?_
    refine lv_iload_n hx hb dJx4a65c_add_7a177_58 rfl (lv_at hl 1 rfl) ?_
    refine lv_iconst (v := nI 1) hx hb dJx4a65c_add_7a177_59 (by decide) ?_
    refine nx_iadd hx hb dJx4a65c_add_7a177_60 ?_
    refine nx_put (D := D) (ci := 0) (v := .int (nI (R.length + 1))) (ty := .int) (C := RJx4a65c) (T := TJx4a65c) (N := 3) hx hb hts hin_Jx4a65c tyJx4a65c tyJx4a65c_ok nmJx4a65c hown hK hP hD hS p_ gp_ rfl 2 (by decide) fl_48 (fun _ h9 => h9) rfl (by decide +kernel) rfl rfl (Nat.le_of_ble_eq_true rfl) dJx4a65c_add_7a177_61 (fun ws_9 H locs gq up_10 hP hD hS => ?_)
    have go_p_ := gp_
    have gp_ : ws_9[p_]? = some (a_, .inr (0, [.int (mc + (nI 1)), .ref e_, .int (nI (R.length + 1))])) := gq
    have gq_ := up_10.get gq_ (by omega)
    have gx_q := up_10.get gx_q (by omega)
    have hel : DIn ws_9 R := hel.up up_10 (fun y vs h9 => by rw [go_p_] at h9; cases h9)
    have sm := sm.up up_10 (by simp)
    have hil9 : (R.take i ++ x_ :: R.drop i).length = R.length + 1 := by simp; omega
    have gp_ : ws_9[p_]? = some (a_, .inr (0, [.int (mc + nI 1), .ref e_, .int (nI ((R.take i ++ x_ :: R.drop i).length))])) := by rw [hil9]; exact gp_
    exact CV.ret C hK hP hD hS (⟨hel, sm, gp_, gq_⟩) hc0 hs0 dJx4a65c_add_7a177_64
  · omega
set_option maxHeartbeats 4000000 in
set_option maxRecDepth 100000 in
theorem c_Jx4a65c_insB {D : va_G} {cB cI cJ cO : ClassId} {l : Launch} {ad mi : Nat} {p_ a_ e_ q_ cap : Nat} {mc : Int32} {f : Nat → Option Nat} {R : List Nat} {x_q x_ : Nat} {vsx : List Value} {i L0 : Nat} {ws : va_W} (gp_ : ws[p_]? = some (a_, .inr (0, [.int mc, .ref e_, .int (nI (R.length))]))) (gq_ : ws[q_]? = some (e_, .inl (cO, cap, .inr (.inr (.inr (.inr f)))))) (gx_q : ws[x_q]? = some (x_, .inr (1, vsx))) (hlen : ws.length = L0) (hHR : HdR f R) (hi : i ≤ R.length) (hR : R.length = cap) (hcb : 2 ≤ cap ∧ cap ≤ 33) (hel : DIn ws R) : CVX D (TY cB cI cJ cO) l yJx4a65c_add_7a177 wsJx4a65c_add_7a177 ({ frames := 5, cells := 1, slots := 49, locals := 127 }) ad mi [.ref a_, .int (nI i), .ref x_] ws (fun ws' => ∃ q2 : Nat, (DIn ws' R) ∧ (ws'.length = L0 + 1) ∧ Sm (fun k => k = p_) ws ws' ∧ ws'[p_]? = some (a_, .inr (0, [.int (mc + nI 1), .ref q2, .int (nI ((R.take i ++ x_ :: R.drop i).length))])) ∧ ws'[L0]? = some (q2, .inl (cO, cap + max 1 (cap / 2), .inr (.inr (.inr (.inr (va_up (va_cpy (va_cpy f (fun _ => none) 0 0 cap) (va_cpy f (fun _ => none) 0 0 cap) i (i + 1) (R.length - i)) i (some x_)))))))) := by
  refine CVX.of (cc := cJx4a65c_add_7a177) (maxL := 5) (ret := none) (by decide) rfl (Nat.le_of_ble_eq_true rfl) ?_
  intro p e s m below meth c A C hK hP hD hA hS hX ls hl
  have hN := hX.1
  obtain ⟨hx, hb, hr, hml, hts, hown, hlocks, hnm⟩ := id C
  have fl_9 := hts (.fieldLink RJx4a65c 9 "java/util/ArrayList" "elementData" "[Ljava/lang/Object;") (by decide +kernel)
  have fl_48 := hts (.fieldLink RJx4a65c 48 "java/util/ArrayList" "size" "I") (by decide +kernel)
  have fl_63 := hts (.fieldLink RJx4a65c 63 "java/util/ArrayList" "modCount" "I") (by decide +kernel)
  have hin_Jx4a65c : ∀ w ∈ u_ws RJx4a65c TJx4a65c 3, w ∈ wsJx4a65c_add_7a177 := by decide +kernel
  have hl : lv_has ls 5 [(0, .ref a_), (1, .int (nI i)), (2, .ref x_)] := hl
  have sm : Sm (fun k => k = p_) ws ws := Sm.rf
  have hc0 : (0 : Nat) ≤ 1 := by decide
  have hs0 : (0 : Nat) ≤ 49 := by decide
  have hne_0_1 : p_ ≠ q_ := gl_ne gp_ gq_ (by simp)
  have hne_0_2 : p_ ≠ x_q := gl_ne gp_ gx_q (by simp)
  have hne_1_2 : q_ ≠ x_q := gl_ne gq_ gx_q (by simp)
  refine lv_aload_n hx hb dJx4a65c_add_7a177_0 rfl (lv_at hl 0 rfl) ?_
  refine lv_iload_n hx hb dJx4a65c_add_7a177_1 rfl (lv_at hl 1 rfl) ?_
  refine CV.go (va_runV (As := [.int (nI i)]) (rest := []) ⟨hx, hb, hml, hown, hts⟩ (c_Jx4a65c_rangeCheckForAdd_d00df  gp_ hi (by omega) _) (cwV 1 hts gJx4a65c_add_7a177_Jx4a65c_rangeCheckForAdd_d00df rfl rfl rfl (by decide +kernel) ⟨Nat.le_of_ble_eq_true rfl, Nat.le_of_ble_eq_true rfl⟩) ⟨pw_blind, va_recv hK hP (ci := 0) (q0 := p_) rfl gp_, fun U hU hW => pw_pre hK hP hD hU hW⟩ rfl rfl hl.1 rfl (lv_room (Nat.le_of_ble_eq_true rfl)) dJx4a65c_add_7a177_2 ⟨Nat.le_of_ble_eq_true rfl, Nat.le_of_ble_eq_true rfl⟩) hD hS hA (fun ws_2 H locs hp hP hD hS => ?_)
  subst hp
  refine lv_aload_n hx hb dJx4a65c_add_7a177_5 rfl (lv_at hl 0 rfl) ?_
  refine lv_dup hx hb dJx4a65c_add_7a177_6 rfl ?_
  refine va_get (D := D) (ci := 0) (v := .int mc) (C := RJx4a65c) (T := TJx4a65c) (N := 3) hx hb hts hin_Jx4a65c hown hK hP p_ gp_ rfl 0 (by decide) fl_63 (u_same (hts (.sameField "java/util/ArrayList" "java/util/AbstractList" "modCount" "I") (by decide +kernel))) rfl dJx4a65c_add_7a177_7 ?_
  refine lv_iconst (v := nI 1) hx hb dJx4a65c_add_7a177_10 (by decide) ?_
  refine lv_iadd hx hb dJx4a65c_add_7a177_11 ?_
  refine nx_put (D := D) (ci := 0) (v := .int (mc + (nI 1))) (ty := .int) (C := RJx4a65c) (T := TJx4a65c) (N := 3) hx hb hts hin_Jx4a65c tyJx4a65c tyJx4a65c_ok nmJx4a65c hown hK hP hD hS p_ gp_ rfl 0 (by decide) fl_63 (u_same (hts (.sameField "java/util/ArrayList" "java/util/AbstractList" "modCount" "I") (by decide +kernel))) rfl (by decide +kernel) rfl rfl (Nat.le_of_ble_eq_true rfl) dJx4a65c_add_7a177_12 (fun ws_3 H locs gq up_4 hP hD hS => ?_)
  have go_p_ := gp_
  have gp_ : ws_3[p_]? = some (a_, .inr (0, [.int (mc + (nI 1)), .ref e_, .int (nI (R.length))])) := gq
  have gq_ := up_4.get gq_ (by omega)
  have gx_q := up_4.get gx_q (by omega)
  have hel : DIn ws_3 R := hel.up up_4 (fun y vs h9 => by rw [go_p_] at h9; cases h9)
  have hlen := up_4.1.trans hlen
  have sm := sm.up up_4 (by simp)
  refine lv_aload_n hx hb dJx4a65c_add_7a177_15 rfl (lv_at hl 0 rfl) ?_
  refine va_get (D := D) (ci := 0) (v := .int (nI (R.length))) (C := RJx4a65c) (T := TJx4a65c) (N := 3) hx hb hts hin_Jx4a65c hown hK hP p_ gp_ rfl 2 (by decide) fl_48 (fun _ h9 => h9) rfl dJx4a65c_add_7a177_16 ?_
  refine lv_dup hx hb dJx4a65c_add_7a177_19 rfl ?_
  refine lv_istore_n (lv' := [(3, .int (nI (R.length))), (0, .ref a_), (1, .int (nI i)), (2, .ref x_)]) hx hb dJx4a65c_add_7a177_20 rfl hl (by decide) rfl (fun ls hl => ?_)
  refine lv_aload_n hx hb dJx4a65c_add_7a177_21 rfl (lv_at hl 1 rfl) ?_
  refine va_get (D := D) (ci := 0) (v := .ref e_) (C := RJx4a65c) (T := TJx4a65c) (N := 3) hx hb hts hin_Jx4a65c hown hK hP p_ gp_ rfl 1 (by decide) fl_9 (fun _ h9 => h9) rfl dJx4a65c_add_7a177_22 ?_
  refine lv_dup hx hb dJx4a65c_add_7a177_25 rfl ?_
  refine lv_astore (lv' := [(4, .ref e_), (3, .int (nI (R.length))), (0, .ref a_), (1, .int (nI i)), (2, .ref x_)]) hx hb dJx4a65c_add_7a177_26 hl (by decide) rfl (fun ls hl => ?_)
  refine va_alen (v := nI cap) hx hb hK hP q_ 3 gq_ rfl rfl dJx4a65c_add_7a177_28 ?_
  refine nx_icmp_ne (tgt := 38) hx hb (by omega) (by omega) dJx4a65c_add_7a177_29 (by decide) (fun c_29 => ?_) (fun c_29 => ?_)
  · omega
  · refine lv_aload_n hx hb dJx4a65c_add_7a177_32 rfl (lv_at hl 2 rfl) ?_
    have hp_p_ := gl_lt gp_
    have hp_q_ := gl_lt gq_
    have hp_x_q := gl_lt gx_q
    refine CQ.go (va_runV (As := []) (rest := []) ⟨hx, hb, hml, hown, hts⟩ (c_Jx4a65c_grow_d5877  gp_ gq_ hlen hR hHR hcb hel _) (cwV 0 hts gJx4a65c_add_7a177_Jx4a65c_grow_d5877 rfl rfl rfl (by decide +kernel) ⟨Nat.le_of_ble_eq_true rfl, Nat.le_of_ble_eq_true rfl⟩) ⟨pwx_blind, va_recv hK hP (ci := 0) (q0 := p_) rfl gp_, fun U hU hW => pwx_pre hX hA hS hK hP hD hU hW⟩ rfl rfl hl.1 rfl (lv_room (Nat.le_of_ble_eq_true rfl)) dJx4a65c_add_7a177_33 ⟨Nat.le_of_ble_eq_true rfl, Nat.le_of_ble_eq_true rfl⟩) hD hS hA (fun r_5 ws_6 H locs hp hP hD hS => ?_)
    obtain ⟨q2, rfl, hel, hl9, sm_7, gp_, gL0⟩ := hp
    have gq_ := sm_7.get gq_ (by intro h9; first | (simp at h9; done) | ((try simp only at h9); omega))
    have gx_q := sm_7.get gx_q (by intro h9; first | (simp at h9; done) | ((try simp only at h9); omega))
    have sm := sm.calln sm_7 (by intro k hk; first | exact False.elim hk | ((try simp only at hk ⊢); omega))
    have gp_ : ws_6[p_]? = some (a_, .inr (0, [.int ((mc + (nI 1))), .ref q2, .int (nI (R.length))])) := gp_
    have gL0 : ws_6[L0]? = some (q2, .inl (cO, cap + max 1 (cap / 2), .inr (.inr (.inr (.inr (va_cpy f (fun _ => none) 0 0 cap)))))) := gL0
    have hlen : ws_6.length = L0 + 1 := hl9
    refine W.widen (k := 1) (n := 49) (Nat.le_of_ble_eq_true rfl) (Nat.le_of_ble_eq_true rfl) ?_
    refine lv_astore (lv' := [(4, .ref q2), (3, .int (nI (R.length))), (0, .ref a_), (1, .int (nI i)), (2, .ref x_)]) hx hb dJx4a65c_add_7a177_36 hl (by decide) rfl (fun ls hl => ?_)
    refine lv_aload hx hb dJx4a65c_add_7a177_38 (lv_at hl 0 rfl) ?_
    refine lv_iload_n hx hb dJx4a65c_add_7a177_40 rfl (lv_at hl 3 rfl) ?_
    refine lv_aload hx hb dJx4a65c_add_7a177_41 (lv_at hl 0 rfl) ?_
    refine lv_iload_n hx hb dJx4a65c_add_7a177_43 rfl (lv_at hl 3 rfl) ?_
    refine lv_iconst (v := nI 1) hx hb dJx4a65c_add_7a177_44 (by decide) ?_
    refine nx_iadd hx hb dJx4a65c_add_7a177_45 ?_
    refine lv_iload_n hx hb dJx4a65c_add_7a177_46 rfl (lv_at hl 1 rfl) ?_
    refine lv_iload_n hx hb dJx4a65c_add_7a177_47 rfl (lv_at hl 3 rfl) ?_
    refine nx_isub hx hb (by omega) dJx4a65c_add_7a177_48 ?_
    refine nx_copy hx hb (hml.trans hl.1.symm) hown (hts (.methodLink RJx4a65c 112 arraycopyName) (by decide +kernel)) (hts (.native arraycopyName) (by decide +kernel)) (hts (.static arraycopyName) (by decide +kernel)) (hts (.initialized "java/lang/System") (by decide +kernel)) hX hK hP hD hS L0 L0 gL0 gL0 (sp := i) (dp := (i + 1)) (n := (R.length - i)) ⟨by omega, by omega⟩ (by omega) (by omega) (hel.el (hHR.cpy (by omega)) (by omega)) (Nat.le_of_ble_eq_true rfl) (Nat.le_of_ble_eq_true rfl) dJx4a65c_add_7a177_49 (fun ws_8 H locs gq up_9 hP hD hS => ?_)
    have go_L0 := gL0
    have gL0 : ws_8[L0]? = some (q2, .inl (cO, cap + max 1 (cap / 2), .inr (.inr (.inr (.inr (va_cpy (va_cpy f (fun _ => none) 0 0 cap) (va_cpy f (fun _ => none) 0 0 cap) i (i + 1) (R.length - i))))))) := gq
    have gp_ := up_9.get gp_ (by omega)
    have gq_ := up_9.get gq_ (by omega)
    have gx_q := up_9.get gx_q (by omega)
    have hel : DIn ws_8 R := hel.up up_9 (fun y vs h9 => by rw [go_L0] at h9; cases h9)
    have hlen := up_9.1.trans hlen
    have sm := sm.upn up_9 (by omega)
    refine lv_aload hx hb dJx4a65c_add_7a177_52 (lv_at hl 0 rfl) ?_
    refine lv_iload_n hx hb dJx4a65c_add_7a177_54 rfl (lv_at hl 3 rfl) ?_
    refine lv_aload_n hx hb dJx4a65c_add_7a177_55 rfl (lv_at hl 4 rfl) ?_
    refine nx_aast hx hb hK hP hD hS L0 gL0 hX x_q gx_q (k := i) (by omega) (by omega) dJx4a65c_add_7a177_56 (fun ws_10 H locs gq up_11 hP hD hS => ?_)
    have go_L0 := gL0
    have gL0 : ws_10[L0]? = some (q2, .inl (cO, cap + max 1 (cap / 2), .inr (.inr (.inr (.inr (va_up (va_cpy (va_cpy f (fun _ => none) 0 0 cap) (va_cpy f (fun _ => none) 0 0 cap) i (i + 1) (R.length - i)) i (some x_))))))) := gq
    have gp_ := up_11.get gp_ (by omega)
    have gq_ := up_11.get gq_ (by omega)
    have gx_q := up_11.get gx_q (by omega)
    have hel : DIn ws_10 R := hel.up up_11 (fun y vs h9 => by rw [go_L0] at h9; cases h9)
    have hlen := up_11.1.trans hlen
    have sm := sm.upn up_11 (by omega)
    refine lv_aload_n hx hb dJx4a65c_add_7a177_57 rfl (lv_at hl 2 rfl) ?_
    refine lv_iload_n hx hb dJx4a65c_add_7a177_58 rfl (lv_at hl 1 rfl) ?_
    refine lv_iconst (v := nI 1) hx hb dJx4a65c_add_7a177_59 (by decide) ?_
    refine nx_iadd hx hb dJx4a65c_add_7a177_60 ?_
    refine nx_put (D := D) (ci := 0) (v := .int (nI (R.length + 1))) (ty := .int) (C := RJx4a65c) (T := TJx4a65c) (N := 3) hx hb hts hin_Jx4a65c tyJx4a65c tyJx4a65c_ok nmJx4a65c hown hK hP hD hS p_ gp_ rfl 2 (by decide) fl_48 (fun _ h9 => h9) rfl (by decide +kernel) rfl rfl (Nat.le_of_ble_eq_true rfl) dJx4a65c_add_7a177_61 (fun ws_12 H locs gq up_13 hP hD hS => ?_)
    have go_p_ := gp_
    have gp_ : ws_12[p_]? = some (a_, .inr (0, [.int ((mc + (nI 1))), .ref q2, .int (nI (R.length + 1))])) := gq
    have gq_ := up_13.get gq_ (by omega)
    have gx_q := up_13.get gx_q (by omega)
    have gL0 := up_13.get gL0 (by omega)
    have hel : DIn ws_12 R := hel.up up_13 (fun y vs h9 => by rw [go_p_] at h9; cases h9)
    have hlen := up_13.1.trans hlen
    have sm := sm.up up_13 (by simp)
    have hil9 : (R.take i ++ x_ :: R.drop i).length = R.length + 1 := by simp; omega
    have gp_ : ws_12[p_]? = some (a_, .inr (0, [.int (mc + nI 1), .ref q2, .int (nI ((R.take i ++ x_ :: R.drop i).length))])) := by rw [hil9]; exact gp_
    exact CV.ret C hK hP hD hS (⟨_, hel, hlen, sm, gp_, gL0⟩) (by decide) (by decide) dJx4a65c_add_7a177_64
set_option maxHeartbeats 4000000 in
set_option maxRecDepth 100000 in
theorem c_Jx4a65c_insC {D : va_G} {cB cI cJ cO : ClassId} {l : Launch} {ad mi : Nat} {p_ a_ : Nat} {mc : Int32} {R : List Nat} {x_q x_ : Nat} {vsx : List Value} {L0 : Nat} {ws : va_W} (gp_ : ws[p_]? = some (a_, .inr (0, [.int mc, .ref ad, .int (nI 0)]))) (gx_q : ws[x_q]? = some (x_, .inr (1, vsx))) (hlen : ws.length = L0) (hel : DIn ws R) : CVX D (TY cB cI cJ cO) l yJx4a65c_add_7a177 wsJx4a65c_add_7a177 ({ frames := 5, cells := 1, slots := 49, locals := 127 }) ad mi [.ref a_, .int (nI 0), .ref x_] ws (fun ws' => ∃ q2 : Nat, (DIn ws' R) ∧ (ws'.length = L0 + 1) ∧ Sm (fun k => k = p_) ws ws' ∧ ws'[p_]? = some (a_, .inr (0, [.int (mc + nI 1), .ref q2, .int (nI 1)])) ∧ ws'[L0]? = some (q2, .inl (cO, 10, .inr (.inr (.inr (.inr (va_up (va_cpy (fun _ => none) (fun _ => none) 0 1 0) 0 (some x_)))))))) := by
  refine CVX.of (cc := cJx4a65c_add_7a177) (maxL := 5) (ret := none) (by decide) rfl (Nat.le_of_ble_eq_true rfl) ?_
  intro p e s m below meth c A C hK hP hD hA hS hX ls hl
  have hN := hX.1
  obtain ⟨hx, hb, hr, hml, hts, hown, hlocks, hnm⟩ := id C
  have fl_9 := hts (.fieldLink RJx4a65c 9 "java/util/ArrayList" "elementData" "[Ljava/lang/Object;") (by decide +kernel)
  have fl_48 := hts (.fieldLink RJx4a65c 48 "java/util/ArrayList" "size" "I") (by decide +kernel)
  have fl_63 := hts (.fieldLink RJx4a65c 63 "java/util/ArrayList" "modCount" "I") (by decide +kernel)
  have hin_Jx4a65c : ∀ w ∈ u_ws RJx4a65c TJx4a65c 3, w ∈ wsJx4a65c_add_7a177 := by decide +kernel
  have hl : lv_has ls 5 [(0, .ref a_), (1, .int (nI 0)), (2, .ref x_)] := hl
  have sm : Sm (fun k => k = p_) ws ws := Sm.rf
  have hc0 : (0 : Nat) ≤ 1 := by decide
  have hs0 : (0 : Nat) ≤ 49 := by decide
  have hne_0_1 : p_ ≠ x_q := gl_ne gp_ gx_q (by simp)
  refine lv_aload_n hx hb dJx4a65c_add_7a177_0 rfl (lv_at hl 0 rfl) ?_
  refine lv_iload_n hx hb dJx4a65c_add_7a177_1 rfl (lv_at hl 1 rfl) ?_
  refine CV.go (va_runV (As := [.int (nI 0)]) (rest := []) ⟨hx, hb, hml, hown, hts⟩ (c_Jx4a65c_rangeCheckForAdd_d00df (R := []) gp_ (Nat.le_refl _) (by decide) _) (cwV 1 hts gJx4a65c_add_7a177_Jx4a65c_rangeCheckForAdd_d00df rfl rfl rfl (by decide +kernel) ⟨Nat.le_of_ble_eq_true rfl, Nat.le_of_ble_eq_true rfl⟩) ⟨pw_blind, va_recv hK hP (ci := 0) (q0 := p_) rfl gp_, fun U hU hW => pw_pre hK hP hD hU hW⟩ rfl rfl hl.1 rfl (lv_room (Nat.le_of_ble_eq_true rfl)) dJx4a65c_add_7a177_2 ⟨Nat.le_of_ble_eq_true rfl, Nat.le_of_ble_eq_true rfl⟩) hD hS hA (fun ws_2 H locs hp hP hD hS => ?_)
  subst hp
  refine lv_aload_n hx hb dJx4a65c_add_7a177_5 rfl (lv_at hl 0 rfl) ?_
  refine lv_dup hx hb dJx4a65c_add_7a177_6 rfl ?_
  refine va_get (D := D) (ci := 0) (v := .int mc) (C := RJx4a65c) (T := TJx4a65c) (N := 3) hx hb hts hin_Jx4a65c hown hK hP p_ gp_ rfl 0 (by decide) fl_63 (u_same (hts (.sameField "java/util/ArrayList" "java/util/AbstractList" "modCount" "I") (by decide +kernel))) rfl dJx4a65c_add_7a177_7 ?_
  refine lv_iconst (v := nI 1) hx hb dJx4a65c_add_7a177_10 (by decide) ?_
  refine lv_iadd hx hb dJx4a65c_add_7a177_11 ?_
  refine nx_put (D := D) (ci := 0) (v := .int (mc + (nI 1))) (ty := .int) (C := RJx4a65c) (T := TJx4a65c) (N := 3) hx hb hts hin_Jx4a65c tyJx4a65c tyJx4a65c_ok nmJx4a65c hown hK hP hD hS p_ gp_ rfl 0 (by decide) fl_63 (u_same (hts (.sameField "java/util/ArrayList" "java/util/AbstractList" "modCount" "I") (by decide +kernel))) rfl (by decide +kernel) rfl rfl (Nat.le_of_ble_eq_true rfl) dJx4a65c_add_7a177_12 (fun ws_3 H locs gq up_4 hP hD hS => ?_)
  have go_p_ := gp_
  have gp_ : ws_3[p_]? = some (a_, .inr (0, [.int (mc + (nI 1)), .ref ad, .int (nI 0)])) := gq
  have gx_q := up_4.get gx_q (by omega)
  have hel : DIn ws_3 R := hel.up up_4 (fun y vs h9 => by rw [go_p_] at h9; cases h9)
  have hlen := up_4.1.trans hlen
  have sm := sm.up up_4 (by simp)
  refine lv_aload_n hx hb dJx4a65c_add_7a177_15 rfl (lv_at hl 0 rfl) ?_
  refine va_get (D := D) (ci := 0) (v := .int (nI 0)) (C := RJx4a65c) (T := TJx4a65c) (N := 3) hx hb hts hin_Jx4a65c hown hK hP p_ gp_ rfl 2 (by decide) fl_48 (fun _ h9 => h9) rfl dJx4a65c_add_7a177_16 ?_
  refine lv_dup hx hb dJx4a65c_add_7a177_19 rfl ?_
  refine lv_istore_n (lv' := [(3, .int (nI 0)), (0, .ref a_), (1, .int (nI 0)), (2, .ref x_)]) hx hb dJx4a65c_add_7a177_20 rfl hl (by decide) rfl (fun ls hl => ?_)
  refine lv_aload_n hx hb dJx4a65c_add_7a177_21 rfl (lv_at hl 1 rfl) ?_
  refine va_get (D := D) (ci := 0) (v := .ref ad) (C := RJx4a65c) (T := TJx4a65c) (N := 3) hx hb hts hin_Jx4a65c hown hK hP p_ gp_ rfl 1 (by decide) fl_9 (fun _ h9 => h9) rfl dJx4a65c_add_7a177_22 ?_
  refine lv_dup hx hb dJx4a65c_add_7a177_25 rfl ?_
  refine lv_astore (lv' := [(4, .ref ad), (3, .int (nI 0)), (0, .ref a_), (1, .int (nI 0)), (2, .ref x_)]) hx hb dJx4a65c_add_7a177_26 hl (by decide) rfl (fun ls hl => ?_)
  refine va_tlen (v := nI 0) hx hb hX.2.2.2.1 hS rfl dJx4a65c_add_7a177_28 ?_
  refine lv_icmp_ne (tgt := 38) hx hb dJx4a65c_add_7a177_29 (by decide) (fun c_29 => absurd (by decide) c_29) (fun c_29 => ?_)
  refine lv_aload_n hx hb dJx4a65c_add_7a177_32 rfl (lv_at hl 2 rfl) ?_
  have hp_p_ := gl_lt gp_
  have hp_x_q := gl_lt gx_q
  refine CQ.go (va_runV (As := []) (rest := []) ⟨hx, hb, hml, hown, hts⟩ (c_Jx4a65c_growd0  gp_ hlen hel _) (cwV 0 hts gJx4a65c_add_7a177_Jx4a65c_grow_d5877 rfl rfl rfl (by decide +kernel) ⟨Nat.le_of_ble_eq_true rfl, Nat.le_of_ble_eq_true rfl⟩) ⟨pwx_blind, va_recv hK hP (ci := 0) (q0 := p_) rfl gp_, fun U hU hW => pwx_pre hX hA hS hK hP hD hU hW⟩ rfl rfl hl.1 rfl (lv_room (Nat.le_of_ble_eq_true rfl)) dJx4a65c_add_7a177_33 ⟨Nat.le_of_ble_eq_true rfl, Nat.le_of_ble_eq_true rfl⟩) hD hS hA (fun r_5 ws_6 H locs hp hP hD hS => ?_)
  obtain ⟨q2, rfl, hel, hl9, sm_7, gp_, gL0⟩ := hp
  have gx_q := sm_7.get gx_q (by intro h9; first | (simp at h9; done) | ((try simp only at h9); omega))
  have sm := sm.calln sm_7 (by intro k hk; first | exact False.elim hk | ((try simp only at hk ⊢); omega))
  have gp_ : ws_6[p_]? = some (a_, .inr (0, [.int ((mc + (nI 1))), .ref q2, .int (nI 0)])) := gp_
  have gL0 : ws_6[L0]? = some (q2, .inl (cO, 10, .inr (.inr (.inr (.inr (fun _ => none)))))) := gL0
  have hlen : ws_6.length = L0 + 1 := hl9
  refine W.widen (k := 1) (n := 49) (Nat.le_of_ble_eq_true rfl) (Nat.le_of_ble_eq_true rfl) ?_
  refine lv_astore (lv' := [(4, .ref q2), (3, .int (nI 0)), (0, .ref a_), (1, .int (nI 0)), (2, .ref x_)]) hx hb dJx4a65c_add_7a177_36 hl (by decide) rfl (fun ls hl => ?_)
  refine lv_aload hx hb dJx4a65c_add_7a177_38 (lv_at hl 0 rfl) ?_
  refine lv_iload_n hx hb dJx4a65c_add_7a177_40 rfl (lv_at hl 3 rfl) ?_
  refine lv_aload hx hb dJx4a65c_add_7a177_41 (lv_at hl 0 rfl) ?_
  refine lv_iload_n hx hb dJx4a65c_add_7a177_43 rfl (lv_at hl 3 rfl) ?_
  refine lv_iconst (v := nI 1) hx hb dJx4a65c_add_7a177_44 (by decide) ?_
  refine nx_iadd hx hb dJx4a65c_add_7a177_45 ?_
  refine lv_iload_n hx hb dJx4a65c_add_7a177_46 rfl (lv_at hl 1 rfl) ?_
  refine lv_iload_n hx hb dJx4a65c_add_7a177_47 rfl (lv_at hl 3 rfl) ?_
  refine nx_isub hx hb (by omega) dJx4a65c_add_7a177_48 ?_
  refine nx_copy hx hb (hml.trans hl.1.symm) hown (hts (.methodLink RJx4a65c 112 arraycopyName) (by decide +kernel)) (hts (.native arraycopyName) (by decide +kernel)) (hts (.static arraycopyName) (by decide +kernel)) (hts (.initialized "java/lang/System") (by decide +kernel)) hX hK hP hD hS L0 L0 gL0 gL0 (sp := 0) (dp := (0 + 1)) (n := (0 - 0)) ⟨by omega, by omega⟩ (by omega) (by omega) (fun i hi => absurd hi (Nat.not_lt_zero i)) (Nat.le_of_ble_eq_true rfl) (Nat.le_of_ble_eq_true rfl) dJx4a65c_add_7a177_49 (fun ws_8 H locs gq up_9 hP hD hS => ?_)
  have go_L0 := gL0
  have gL0 : ws_8[L0]? = some (q2, .inl (cO, 10, .inr (.inr (.inr (.inr (va_cpy (fun _ => none) (fun _ => none) 0 (0 + 1) (0 - 0))))))) := gq
  have gp_ := up_9.get gp_ (by omega)
  have gx_q := up_9.get gx_q (by omega)
  have hel : DIn ws_8 R := hel.up up_9 (fun y vs h9 => by rw [go_L0] at h9; cases h9)
  have hlen := up_9.1.trans hlen
  have sm := sm.upn up_9 (by omega)
  refine lv_aload hx hb dJx4a65c_add_7a177_52 (lv_at hl 0 rfl) ?_
  refine lv_iload_n hx hb dJx4a65c_add_7a177_54 rfl (lv_at hl 3 rfl) ?_
  refine lv_aload_n hx hb dJx4a65c_add_7a177_55 rfl (lv_at hl 4 rfl) ?_
  refine nx_aast hx hb hK hP hD hS L0 gL0 hX x_q gx_q (k := 0) (by omega) (by omega) dJx4a65c_add_7a177_56 (fun ws_10 H locs gq up_11 hP hD hS => ?_)
  have go_L0 := gL0
  have gL0 : ws_10[L0]? = some (q2, .inl (cO, 10, .inr (.inr (.inr (.inr (va_up (va_cpy (fun _ => none) (fun _ => none) 0 (0 + 1) (0 - 0)) 0 (some x_))))))) := gq
  have gp_ := up_11.get gp_ (by omega)
  have gx_q := up_11.get gx_q (by omega)
  have hel : DIn ws_10 R := hel.up up_11 (fun y vs h9 => by rw [go_L0] at h9; cases h9)
  have hlen := up_11.1.trans hlen
  have sm := sm.upn up_11 (by omega)
  refine lv_aload_n hx hb dJx4a65c_add_7a177_57 rfl (lv_at hl 2 rfl) ?_
  refine lv_iload_n hx hb dJx4a65c_add_7a177_58 rfl (lv_at hl 1 rfl) ?_
  refine lv_iconst (v := nI 1) hx hb dJx4a65c_add_7a177_59 (by decide) ?_
  refine nx_iadd hx hb dJx4a65c_add_7a177_60 ?_
  refine nx_put (D := D) (ci := 0) (v := .int (nI (0 + 1))) (ty := .int) (C := RJx4a65c) (T := TJx4a65c) (N := 3) hx hb hts hin_Jx4a65c tyJx4a65c tyJx4a65c_ok nmJx4a65c hown hK hP hD hS p_ gp_ rfl 2 (by decide) fl_48 (fun _ h9 => h9) rfl (by decide +kernel) rfl rfl (Nat.le_of_ble_eq_true rfl) dJx4a65c_add_7a177_61 (fun ws_12 H locs gq up_13 hP hD hS => ?_)
  have go_p_ := gp_
  have gp_ : ws_12[p_]? = some (a_, .inr (0, [.int ((mc + (nI 1))), .ref q2, .int (nI (0 + 1))])) := gq
  have gx_q := up_13.get gx_q (by omega)
  have gL0 := up_13.get gL0 (by omega)
  have hel : DIn ws_12 R := hel.up up_13 (fun y vs h9 => by rw [go_p_] at h9; cases h9)
  have hlen := up_13.1.trans hlen
  have sm := sm.up up_13 (by simp)
  exact CV.ret C hK hP hD hS (⟨_, hel, hlen, sm, gp_, gL0⟩) (by decide) (by decide) dJx4a65c_add_7a177_64
