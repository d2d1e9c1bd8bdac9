set_option maxHeartbeats 4000000 in
set_option maxRecDepth 100000 in
theorem c_Jx4a65c_fastRemove_b59b0 {D : va_G} {cB cI cJ cO : ClassId} {l : Launch} {ad mi : Nat} {p_ a_ e_ q_ cap : Nat} {mc : Int32} {f : Nat → Option Nat} {R : List Nat} {i : Nat} {ws : va_W} (gp_ : ws[p_]? = some (a_, .inr (0, [.int mc, .ref e_, .int (nI (R.length))]))) (gq_ : ws[q_]? = some (e_, .inl (cO, cap, .inr (.inr (.inr (.inr f)))))) (hHR : HdR f R) (hi : i < R.length) (hc : R.length ≤ cap) (hcb : cap ≤ 49) (hel : DIn ws R) : CVX D (TY cB cI cJ cO) l yJx4a65c_fastRemove_b59b0 wsJx4a65c_fastRemove_b59b0 ({ frames := 1, cells := 0, slots := 0, locals := 40 }) ad mi [.ref a_, .ref e_, .int (nI i)] ws (fun ws' => ∃ f2 : Nat → Option Nat, (HdR f2 (R.eraseIdx i)) ∧ (DIn ws' R) ∧ Sm (fun k => k = p_ ∨ k = q_) ws ws' ∧ ws'[p_]? = some (a_, .inr (0, [.int (mc + nI 1), .ref e_, .int (nI ((R.eraseIdx i).length))])) ∧ ws'[q_]? = some (e_, .inl (cO, cap, .inr (.inr (.inr (.inr f2)))))) := by
  refine CVX.of (cc := cJx4a65c_fastRemove_b59b0) (maxL := 4) (ret := none) (by decide) rfl (Nat.le_of_ble_eq_true rfl) ?_
  intro p e s m below meth c A C hK hP hD hA hS hX ls hl
  have hN := hX.1
  obtain ⟨hx, hb, hr, hml, hts, hown, hlocks, hnm⟩ := id C
  have fl_48 := hts (.fieldLink RJx4a65c 48 "java/util/ArrayList" "size" "I") (by decide +kernel)
  have fl_63 := hts (.fieldLink RJx4a65c 63 "java/util/ArrayList" "modCount" "I") (by decide +kernel)
  have hin_Jx4a65c : ∀ w ∈ u_ws RJx4a65c TJx4a65c 3, w ∈ wsJx4a65c_fastRemove_b59b0 := by decide +kernel
  have hl : lv_has ls 4 [(0, .ref a_), (1, .ref e_), (2, .int (nI i))] := hl
  have sm : Sm (fun k => k = p_ ∨ k = q_) ws ws := Sm.rf
  have hc0 : (0 : Nat) ≤ 0 := by decide
  have hs0 : (0 : Nat) ≤ 0 := by decide
  have hne_0_1 : p_ ≠ q_ := gl_ne gp_ gq_ (by simp)
  refine lv_aload_n hx hb dJx4a65c_fastRemove_b59b0_0 rfl (lv_at hl 0 rfl) ?_
  refine lv_dup hx hb dJx4a65c_fastRemove_b59b0_1 rfl ?_
  refine va_get (D := D) (ci := 0) (v := .int mc) (C := RJx4a65c) (T := TJx4a65c) (N := 3) hx hb hts hin_Jx4a65c hown hK hP p_ gp_ rfl 0 (by decide) fl_63 (u_same (hts (.sameField "java/util/ArrayList" "java/util/AbstractList" "modCount" "I") (by decide +kernel))) rfl dJx4a65c_fastRemove_b59b0_2 ?_
  refine lv_iconst (v := nI 1) hx hb dJx4a65c_fastRemove_b59b0_5 (by decide) ?_
  refine lv_iadd hx hb dJx4a65c_fastRemove_b59b0_6 ?_
  refine nx_put (D := D) (ci := 0) (v := .int (mc + (nI 1))) (ty := .int) (C := RJx4a65c) (T := TJx4a65c) (N := 3) hx hb hts hin_Jx4a65c tyJx4a65c tyJx4a65c_ok nmJx4a65c hown hK hP hD hS p_ gp_ rfl 0 (by decide) fl_63 (u_same (hts (.sameField "java/util/ArrayList" "java/util/AbstractList" "modCount" "I") (by decide +kernel))) rfl (by decide +kernel) rfl rfl (Nat.le_of_ble_eq_true rfl) dJx4a65c_fastRemove_b59b0_7 (fun ws_1 H locs gq up_2 hP hD hS => ?_)
  have go_p_ := gp_
  have gp_ : ws_1[p_]? = some (a_, .inr (0, [.int (mc + (nI 1)), .ref e_, .int (nI (R.length))])) := gq
  have gq_ := up_2.get gq_ (by omega)
  have hel : DIn ws_1 R := hel.up up_2 (fun y vs h9 => by rw [go_p_] at h9; cases h9)
  have sm := sm.up up_2 (by simp)
  refine lv_aload_n hx hb dJx4a65c_fastRemove_b59b0_10 rfl (lv_at hl 0 rfl) ?_
  refine va_get (D := D) (ci := 0) (v := .int (nI (R.length))) (C := RJx4a65c) (T := TJx4a65c) (N := 3) hx hb hts hin_Jx4a65c hown hK hP p_ gp_ rfl 2 (by decide) fl_48 (fun _ h9 => h9) rfl dJx4a65c_fastRemove_b59b0_11 ?_
  refine lv_iconst (v := nI 1) hx hb dJx4a65c_fastRemove_b59b0_14 (by decide) ?_
  refine nx_isub hx hb (by omega) dJx4a65c_fastRemove_b59b0_15 ?_
  refine lv_dup hx hb dJx4a65c_fastRemove_b59b0_16 rfl ?_
  refine lv_istore_n (lv' := [(3, .int (nI (R.length - 1))), (0, .ref a_), (1, .ref e_), (2, .int (nI i))]) hx hb dJx4a65c_fastRemove_b59b0_17 rfl hl (by decide) rfl (fun ls hl => ?_)
  refine lv_iload_n hx hb dJx4a65c_fastRemove_b59b0_18 rfl (lv_at hl 3 rfl) ?_
  refine nx_icmp_le (tgt := 34) hx hb (by omega) (by omega) dJx4a65c_fastRemove_b59b0_19 (by decide) (fun c_19 => ?_) (fun c_19 => ?_)
  · refine lv_aload_n hx hb dJx4a65c_fastRemove_b59b0_34 rfl (lv_at hl 2 rfl) ?_
    refine lv_aload_n hx hb dJx4a65c_fastRemove_b59b0_35 rfl (lv_at hl 1 rfl) ?_
    refine lv_iload_n hx hb dJx4a65c_fastRemove_b59b0_36 rfl (lv_at hl 0 rfl) ?_
    refine lv_dup_x1 hx hb dJx4a65c_fastRemove_b59b0_37 rfl rfl ?_
    refine nx_put (D := D) (ci := 0) (v := .int (nI (R.length - 1))) (ty := .int) (C := RJx4a65c) (T := TJx4a65c) (N := 3) hx hb hts hin_Jx4a65c tyJx4a65c tyJx4a65c_ok nmJx4a65c hown hK hP hD hS p_ gp_ rfl 2 (by decide) fl_48 (fun _ h9 => h9) rfl (by decide +kernel) rfl rfl (Nat.le_of_ble_eq_true rfl) dJx4a65c_fastRemove_b59b0_38 (fun ws_3 H locs gq up_4 hP hD hS => ?_)
    have go_p_ := gp_
    have gp_ : ws_3[p_]? = some (a_, .inr (0, [.int (mc + (nI 1)), .ref e_, .int (nI (R.length - 1))])) := gq
    have gq_ := up_4.get gq_ (by omega)
    have hel : DIn ws_3 R := hel.up up_4 (fun y vs h9 => by rw [go_p_] at h9; cases h9)
    have sm := sm.up up_4 (by simp)
    refine lv_null hx hb dJx4a65c_fastRemove_b59b0_41 ?_
    refine nx_aastN hx hb hK hP hD hS q_ gq_ (k := (R.length - 1)) (by omega) (by omega) dJx4a65c_fastRemove_b59b0_42 (fun ws_5 H locs gq up_6 hP hD hS => ?_)
    have go_q_ := gq_
    have gq_ : ws_5[q_]? = some (e_, .inl (cO, cap, .inr (.inr (.inr (.inr (va_up f (R.length - 1) none)))))) := gq
    have gp_ := up_6.get gp_ (by omega)
    have hel : DIn ws_5 R := hel.up up_6 (fun y vs h9 => by rw [go_q_] at h9; cases h9)
    have sm := sm.up up_6 (by simp)
    have gp_ : ws_5[p_]? = some (a_, .inr (0, [.int (mc + nI 1), .ref e_, .int (nI ((R.eraseIdx i).length))])) := by rw [List.length_eraseIdx_of_lt hi]; exact gp_
    exact CV.ret C hK hP hD hS (⟨_, (HdR.put (v := 0) (hHR.last hi (by omega)) (by rw [List.length_eraseIdx_of_lt hi]; exact Nat.le_refl _) none), hel, sm, gp_, gq_⟩) hc0 hs0 dJx4a65c_fastRemove_b59b0_43
  · refine lv_aload_n hx hb dJx4a65c_fastRemove_b59b0_22 rfl (lv_at hl 2 rfl) ?_
    refine lv_iload_n hx hb dJx4a65c_fastRemove_b59b0_23 rfl (lv_at hl 3 rfl) ?_
    refine lv_iconst (v := nI 1) hx hb dJx4a65c_fastRemove_b59b0_24 (by decide) ?_
    refine nx_iadd hx hb dJx4a65c_fastRemove_b59b0_25 ?_
    refine lv_aload_n hx hb dJx4a65c_fastRemove_b59b0_26 rfl (lv_at hl 2 rfl) ?_
    refine lv_iload_n hx hb dJx4a65c_fastRemove_b59b0_27 rfl (lv_at hl 3 rfl) ?_
    refine lv_iload_n hx hb dJx4a65c_fastRemove_b59b0_28 rfl (lv_at hl 0 rfl) ?_
    refine lv_iload_n hx hb dJx4a65c_fastRemove_b59b0_29 rfl (lv_at hl 3 rfl) ?_
    refine nx_isub hx hb (by omega) dJx4a65c_fastRemove_b59b0_30 ?_
    refine nx_copy hx hb (hml.trans hl.1.symm) hown (hts (.methodLink RJx4a65c 112 arraycopyName) (by decide +kernel)) (hts (.native arraycopyName) (by decide +kernel)) (hts (.static arraycopyName) (by decide +kernel)) (hts (.initialized "java/lang/System") (by decide +kernel)) hX hK hP hD hS q_ q_ gq_ gq_ (sp := (i + 1)) (dp := i) (n := ((R.length - 1) - i)) ⟨by omega, by omega⟩ (by omega) (by omega) (hel.el hHR (by omega)) (Nat.le_of_ble_eq_true rfl) (Nat.le_of_ble_eq_true rfl) dJx4a65c_fastRemove_b59b0_31 (fun ws_7 H locs gq up_8 hP hD hS => ?_)
    have go_q_ := gq_
    have gq_ : ws_7[q_]? = some (e_, .inl (cO, cap, .inr (.inr (.inr (.inr (va_cpy f f (i + 1) i ((R.length - 1) - i))))))) := gq
    have gp_ := up_8.get gp_ (by omega)
    have hel : DIn ws_7 R := hel.up up_8 (fun y vs h9 => by rw [go_q_] at h9; cases h9)
    have sm := sm.up up_8 (by simp)
    refine lv_aload_n hx hb dJx4a65c_fastRemove_b59b0_34 rfl (lv_at hl 2 rfl) ?_
    refine lv_aload_n hx hb dJx4a65c_fastRemove_b59b0_35 rfl (lv_at hl 1 rfl) ?_
    refine lv_iload_n hx hb dJx4a65c_fastRemove_b59b0_36 rfl (lv_at hl 0 rfl) ?_
    refine lv_dup_x1 hx hb dJx4a65c_fastRemove_b59b0_37 rfl rfl ?_
    refine nx_put (D := D) (ci := 0) (v := .int (nI (R.length - 1))) (ty := .int) (C := RJx4a65c) (T := TJx4a65c) (N := 3) hx hb hts hin_Jx4a65c tyJx4a65c tyJx4a65c_ok nmJx4a65c hown hK hP hD hS p_ gp_ rfl 2 (by decide) fl_48 (fun _ h9 => h9) rfl (by decide +kernel) rfl rfl (Nat.le_of_ble_eq_true rfl) dJx4a65c_fastRemove_b59b0_38 (fun ws_9 H locs gq up_10 hP hD hS => ?_)
    have go_p_ := gp_
    have gp_ : ws_9[p_]? = some (a_, .inr (0, [.int (mc + (nI 1)), .ref e_, .int (nI (R.length - 1))])) := gq
    have gq_ := up_10.get gq_ (by omega)
    have hel : DIn ws_9 R := hel.up up_10 (fun y vs h9 => by rw [go_p_] at h9; cases h9)
    have sm := sm.up up_10 (by simp)
    refine lv_null hx hb dJx4a65c_fastRemove_b59b0_41 ?_
    refine nx_aastN hx hb hK hP hD hS q_ gq_ (k := (R.length - 1)) (by omega) (by omega) dJx4a65c_fastRemove_b59b0_42 (fun ws_11 H locs gq up_12 hP hD hS => ?_)
    have go_q_ := gq_
    have gq_ : ws_11[q_]? = some (e_, .inl (cO, cap, .inr (.inr (.inr (.inr (va_up (va_cpy f f (i + 1) i ((R.length - 1) - i)) (R.length - 1) none)))))) := gq
    have gp_ := up_12.get gp_ (by omega)
    have hel : DIn ws_11 R := hel.up up_12 (fun y vs h9 => by rw [go_q_] at h9; cases h9)
    have sm := sm.up up_12 (by simp)
    have gp_ : ws_11[p_]? = some (a_, .inr (0, [.int (mc + nI 1), .ref e_, .int (nI ((R.eraseIdx i).length))])) := by rw [List.length_eraseIdx_of_lt hi]; exact gp_
    exact CV.ret C hK hP hD hS (⟨_, (HdR.put (v := 0) (hHR.rm hi) (by rw [List.length_eraseIdx_of_lt hi]; exact Nat.le_refl _) none), hel, sm, gp_, gq_⟩) hc0 hs0 dJx4a65c_fastRemove_b59b0_43
