set_option maxHeartbeats 4000000 in
set_option maxRecDepth 100000 in
theorem c_Jx4a65c_clear_da8c8 {D : va_G} {cB cI cJ cO : ClassId} {l : Launch} {ad mi : Nat} {p_ a_ e_ q_ cap : Nat} {mc : Int32} {f : Nat → Option Nat} {R : List Nat} {ws : va_W} (gp_ : ws[p_]? = some (a_, .inr (0, [.int mc, .ref e_, .int (nI (R.length))]))) (gq_ : ws[q_]? = some (e_, .inl (cO, cap, .inr (.inr (.inr (.inr f)))))) (hc : R.length ≤ cap) (hcb : cap ≤ 49) (hel : DIn ws R) : CVX D (TY cB cI cJ cO) l yJx4a65c_clear_da8c8 wsJx4a65c_clear_da8c8 ({ frames := 0, cells := 0, slots := 0, locals := 0 }) ad mi [.ref a_] ws (fun ws' => ∃ f2 : Nat → Option Nat, (DIn ws' R) ∧ Sm (fun k => k = p_ ∨ k = q_) ws ws' ∧ ws'[p_]? = some (a_, .inr (0, [.int (mc + nI 1), .ref e_, .int (nI 0)])) ∧ ws'[q_]? = some (e_, .inl (cO, cap, .inr (.inr (.inr (.inr f2)))))) := by
  refine CVX.of (cc := cJx4a65c_clear_da8c8) (maxL := 4) (ret := none) (by decide) rfl (Nat.le_of_ble_eq_true rfl) ?_
  intro p e s m below meth c A C hK hP hD hA hS hX ls hl
  have hN := hX.1
  obtain ⟨hx, hb, hr, hml, hts, hown, hlocks, hnm⟩ := id C
  have fl_9 := hts (.fieldLink RJx4a65c 9 "java/util/ArrayList" "elementData" "[Ljava/lang/Object;") (by decide +kernel)
  have fl_48 := hts (.fieldLink RJx4a65c 48 "java/util/ArrayList" "size" "I") (by decide +kernel)
  have fl_63 := hts (.fieldLink RJx4a65c 63 "java/util/ArrayList" "modCount" "I") (by decide +kernel)
  have hin_Jx4a65c : ∀ w ∈ u_ws RJx4a65c TJx4a65c 3, w ∈ wsJx4a65c_clear_da8c8 := by decide +kernel
  have hl : lv_has ls 4 [(0, .ref a_)] := hl
  have sm : Sm (fun k => k = p_ ∨ k = q_) ws ws := Sm.rf
  have hc0 : (0 : Nat) ≤ 0 := by decide
  have hs0 : (0 : Nat) ≤ 0 := by decide
  have hne_0_1 : p_ ≠ q_ := gl_ne gp_ gq_ (by simp)
  refine lv_aload_n hx hb dJx4a65c_clear_da8c8_0 rfl (lv_at hl 0 rfl) ?_
  refine lv_dup hx hb dJx4a65c_clear_da8c8_1 rfl ?_
  refine va_get (D := D) (ci := 0) (v := .int mc) (C := RJx4a65c) (T := TJx4a65c) (N := 3) hx hb hts hin_Jx4a65c hown hK hP p_ gp_ rfl 0 (by decide) fl_63 (u_same (hts (.sameField "java/util/ArrayList" "java/util/AbstractList" "modCount" "I") (by decide +kernel))) rfl dJx4a65c_clear_da8c8_2 ?_
  refine lv_iconst (v := nI 1) hx hb dJx4a65c_clear_da8c8_5 (by decide) ?_
  refine lv_iadd hx hb dJx4a65c_clear_da8c8_6 ?_
  refine nx_put (D := D) (ci := 0) (v := .int (mc + (nI 1))) (ty := .int) (C := RJx4a65c) (T := TJx4a65c) (N := 3) hx hb hts hin_Jx4a65c tyJx4a65c tyJx4a65c_ok nmJx4a65c hown hK hP hD hS p_ gp_ rfl 0 (by decide) fl_63 (u_same (hts (.sameField "java/util/ArrayList" "java/util/AbstractList" "modCount" "I") (by decide +kernel))) rfl (by decide +kernel) rfl rfl (Nat.le_of_ble_eq_true rfl) dJx4a65c_clear_da8c8_7 (fun ws_1 H locs gq up_2 hP hD hS => ?_)
  have go_p_ := gp_
  have gp_ : ws_1[p_]? = some (a_, .inr (0, [.int (mc + (nI 1)), .ref e_, .int (nI (R.length))])) := gq
  have gq_ := up_2.get gq_ (by omega)
  have hel : DIn ws_1 R := hel.up up_2 (fun y vs h9 => by rw [go_p_] at h9; cases h9)
  have sm := sm.up up_2 (by simp)
  refine lv_aload_n hx hb dJx4a65c_clear_da8c8_10 rfl (lv_at hl 0 rfl) ?_
  refine va_get (D := D) (ci := 0) (v := .ref e_) (C := RJx4a65c) (T := TJx4a65c) (N := 3) hx hb hts hin_Jx4a65c hown hK hP p_ gp_ rfl 1 (by decide) fl_9 (fun _ h9 => h9) rfl dJx4a65c_clear_da8c8_11 ?_
  refine lv_astore_n (lv' := [(1, .ref e_), (0, .ref a_)]) hx hb dJx4a65c_clear_da8c8_14 rfl hl (by decide) rfl (fun ls hl => ?_)
  refine lv_aload_n hx hb dJx4a65c_clear_da8c8_15 rfl (lv_at hl 1 rfl) ?_
  refine va_get (D := D) (ci := 0) (v := .int (nI (R.length))) (C := RJx4a65c) (T := TJx4a65c) (N := 3) hx hb hts hin_Jx4a65c hown hK hP p_ gp_ rfl 2 (by decide) fl_48 (fun _ h9 => h9) rfl dJx4a65c_clear_da8c8_16 ?_
  refine lv_istore_n (lv' := [(2, .int (nI (R.length))), (1, .ref e_), (0, .ref a_)]) hx hb dJx4a65c_clear_da8c8_19 rfl hl (by decide) rfl (fun ls hl => ?_)
  refine lv_aload_n hx hb dJx4a65c_clear_da8c8_20 rfl (lv_at hl 2 rfl) ?_
  refine lv_iconst (v := nI 0) hx hb dJx4a65c_clear_da8c8_21 (by decide) ?_
  refine lv_dup_x1 hx hb dJx4a65c_clear_da8c8_22 rfl rfl ?_
  refine nx_put (D := D) (ci := 0) (v := .int (nI 0)) (ty := .int) (C := RJx4a65c) (T := TJx4a65c) (N := 3) hx hb hts hin_Jx4a65c tyJx4a65c tyJx4a65c_ok nmJx4a65c hown hK hP hD hS p_ gp_ rfl 2 (by decide) fl_48 (fun _ h9 => h9) rfl (by decide +kernel) rfl rfl (Nat.le_of_ble_eq_true rfl) dJx4a65c_clear_da8c8_23 (fun ws_3 H locs gq up_4 hP hD hS => ?_)
  have go_p_ := gp_
  have gp_ : ws_3[p_]? = some (a_, .inr (0, [.int (mc + (nI 1)), .ref e_, .int (nI 0)])) := gq
  have gq_ := up_4.get gq_ (by omega)
  have hel : DIn ws_3 R := hel.up up_4 (fun y vs h9 => by rw [go_p_] at h9; cases h9)
  have sm := sm.up up_4 (by simp)
  refine lv_istore_n (lv' := [(3, .int (nI 0)), (2, .int (nI (R.length))), (1, .ref e_), (0, .ref a_)]) hx hb dJx4a65c_clear_da8c8_26 rfl hl (by decide) rfl (fun ls hl => ?_)
  have lp_27 : ∀ (fuel : Nat) (k : Nat) (f1 : Nat → Option Nat), R.length - k < fuel → (k ≤ R.length) → ∀ (ws1 : va_W) (H : Heap) (locs : List Loc) (ls : Array Slot), Sm (fun k => k = p_ ∨ k = q_) ws ws1 → ws1[p_]? = some (a_, .inr (0, [.int (mc + (nI 1)), .ref e_, .int (nI 0)])) → ws1[q_]? = some (e_, .inl (cO, cap, .inr (.inr (.inr (.inr f1))))) → DIn ws1 R → va_P D vwCl ws1 H → va_D A ws1 → va_S A s.heap H locs → lv_has ls 4 [(0, .ref a_), (1, .ref e_), (2, .int (nI (R.length))), (3, .int (nI k))] → W p l e ({ frames := 0, cells := 0, slots := 0, locals := 0 }) s m ([.ref a_] : List Value).toArray below meth c H locs 0 0 (ZV D (TY cB cI cJ cO) (fun ws' => ∃ f2 : Nat → Option Nat, (DIn ws' R) ∧ Sm (fun k => k = p_ ∨ k = q_) ws ws' ∧ ws'[p_]? = some (a_, .inr (0, [.int (mc + nI 1), .ref e_, .int (nI 0)])) ∧ ws'[q_]? = some (e_, .inl (cO, cap, .inr (.inr (.inr (.inr f2)))))) below [.ref a_] s 0 0 A) (F0 m 27 ls []) := by
    intro fuel
    induction fuel with
    | zero => intro k f1 hfu; exact absurd hfu (Nat.not_lt_zero _)
    | succ fuel ih_27 =>
      intro k f1 hfu_27 hk ws1 H locs ls sm gp_ gq_ hel hP hD hS hl
      refine lv_iload_n hx hb dJx4a65c_clear_da8c8_27 rfl (lv_at hl 3 rfl) ?_
      refine lv_iload_n hx hb dJx4a65c_clear_da8c8_28 rfl (lv_at hl 2 rfl) ?_
      refine nx_icmp_ge (tgt := 42) hx hb (by omega) (by omega) dJx4a65c_clear_da8c8_29 (by decide) (fun c_29 => ?_) (fun c_29 => ?_)
      · exact CV.ret C hK hP hD hS (⟨_, hel, sm, gp_, gq_⟩) hc0 hs0 dJx4a65c_clear_da8c8_42
      · refine lv_aload_n hx hb dJx4a65c_clear_da8c8_32 rfl (lv_at hl 1 rfl) ?_
        refine lv_iload_n hx hb dJx4a65c_clear_da8c8_33 rfl (lv_at hl 3 rfl) ?_
        refine lv_null hx hb dJx4a65c_clear_da8c8_34 ?_
        refine nx_aastN hx hb hK hP hD hS q_ gq_ (k := k) (by omega) (by omega) dJx4a65c_clear_da8c8_35 (fun ws_5 H locs gq up_6 hP hD hS => ?_)
        have go_q_ := gq_
        have gq_ : ws_5[q_]? = some (e_, .inl (cO, cap, .inr (.inr (.inr (.inr (va_up f1 k none)))))) := gq
        have gp_ := up_6.get gp_ (by omega)
        have hel : DIn ws_5 R := hel.up up_6 (fun y vs h9 => by rw [go_q_] at h9; cases h9)
        have sm := sm.up up_6 (by simp)
        refine lv_iinc (v := (nI (k + 1))) (lv' := [(3, .int (nI (k + 1))), (0, .ref a_), (1, .ref e_), (2, .int (nI (R.length)))]) hx hb dJx4a65c_clear_da8c8_36 hl (k := 3) rfl (nx_inc _ 1) (by decide) rfl (fun ls hl => ?_)
        refine lv_goto (tgt := 27) hx hb dJx4a65c_clear_da8c8_39 (by decide) ?_
        exact ih_27 (k + 1) _ (by omega) (by omega) _ _ _ _ sm gp_ gq_ hel hP hD hS (lv_sub hl [1, 2, 3, 0] rfl)
  exact lp_27 _ 0 f (Nat.lt_succ_self _) (Nat.zero_le _) _ _ _ _ sm gp_ gq_ hel hP hD hS (lv_sub hl [3, 2, 1, 0] rfl)
set_option maxHeartbeats 4000000 in
set_option maxRecDepth 100000 in
theorem c_Jx4a65c_clear0 {D : va_G} {cB cI cJ cO : ClassId} {l : Launch} {ad mi : Nat} {p_ a_ : Nat} {mc : Int32} {R : List Nat} {ws : va_W} (gp_ : ws[p_]? = some (a_, .inr (0, [.int mc, .ref ad, .int (nI 0)]))) (hel : DIn ws R) : CVX D (TY cB cI cJ cO) l yJx4a65c_clear_da8c8 wsJx4a65c_clear_da8c8 ({ frames := 0, cells := 0, slots := 0, locals := 0 }) ad mi [.ref a_] ws (fun ws' => (DIn ws' R) ∧ Sm (fun k => k = p_) ws ws' ∧ ws'[p_]? = some (a_, .inr (0, [.int (mc + nI 1), .ref ad, .int (nI 0)]))) := by
  refine CVX.of (cc := cJx4a65c_clear_da8c8) (maxL := 4) (ret := none) (by decide) rfl (Nat.le_of_ble_eq_true rfl) ?_
  intro p e s m below meth c A C hK hP hD hA hS hX ls hl
  have hN := hX.1
  obtain ⟨hx, hb, hr, hml, hts, hown, hlocks, hnm⟩ := id C
  have fl_9 := hts (.fieldLink RJx4a65c 9 "java/util/ArrayList" "elementData" "[Ljava/lang/Object;") (by decide +kernel)
  have fl_48 := hts (.fieldLink RJx4a65c 48 "java/util/ArrayList" "size" "I") (by decide +kernel)
  have fl_63 := hts (.fieldLink RJx4a65c 63 "java/util/ArrayList" "modCount" "I") (by decide +kernel)
  have hin_Jx4a65c : ∀ w ∈ u_ws RJx4a65c TJx4a65c 3, w ∈ wsJx4a65c_clear_da8c8 := by decide +kernel
  have hl : lv_has ls 4 [(0, .ref a_)] := hl
  have sm : Sm (fun k => k = p_) ws ws := Sm.rf
  have hc0 : (0 : Nat) ≤ 0 := by decide
  have hs0 : (0 : Nat) ≤ 0 := by decide
  refine lv_aload_n hx hb dJx4a65c_clear_da8c8_0 rfl (lv_at hl 0 rfl) ?_
  refine lv_dup hx hb dJx4a65c_clear_da8c8_1 rfl ?_
  refine va_get (D := D) (ci := 0) (v := .int mc) (C := RJx4a65c) (T := TJx4a65c) (N := 3) hx hb hts hin_Jx4a65c hown hK hP p_ gp_ rfl 0 (by decide) fl_63 (u_same (hts (.sameField "java/util/ArrayList" "java/util/AbstractList" "modCount" "I") (by decide +kernel))) rfl dJx4a65c_clear_da8c8_2 ?_
  refine lv_iconst (v := nI 1) hx hb dJx4a65c_clear_da8c8_5 (by decide) ?_
  refine lv_iadd hx hb dJx4a65c_clear_da8c8_6 ?_
  refine nx_put (D := D) (ci := 0) (v := .int (mc + (nI 1))) (ty := .int) (C := RJx4a65c) (T := TJx4a65c) (N := 3) hx hb hts hin_Jx4a65c tyJx4a65c tyJx4a65c_ok nmJx4a65c hown hK hP hD hS p_ gp_ rfl 0 (by decide) fl_63 (u_same (hts (.sameField "java/util/ArrayList" "java/util/AbstractList" "modCount" "I") (by decide +kernel))) rfl (by decide +kernel) rfl rfl (Nat.le_of_ble_eq_true rfl) dJx4a65c_clear_da8c8_7 (fun ws_1 H locs gq up_2 hP hD hS => ?_)
  have go_p_ := gp_
  have gp_ : ws_1[p_]? = some (a_, .inr (0, [.int (mc + (nI 1)), .ref ad, .int (nI 0)])) := gq
  have hel : DIn ws_1 R := hel.up up_2 (fun y vs h9 => by rw [go_p_] at h9; cases h9)
  have sm := sm.up up_2 (by simp)
  refine lv_aload_n hx hb dJx4a65c_clear_da8c8_10 rfl (lv_at hl 0 rfl) ?_
  refine va_get (D := D) (ci := 0) (v := .ref ad) (C := RJx4a65c) (T := TJx4a65c) (N := 3) hx hb hts hin_Jx4a65c hown hK hP p_ gp_ rfl 1 (by decide) fl_9 (fun _ h9 => h9) rfl dJx4a65c_clear_da8c8_11 ?_
  refine lv_astore_n (lv' := [(1, .ref ad), (0, .ref a_)]) hx hb dJx4a65c_clear_da8c8_14 rfl hl (by decide) rfl (fun ls hl => ?_)
  refine lv_aload_n hx hb dJx4a65c_clear_da8c8_15 rfl (lv_at hl 1 rfl) ?_
  refine va_get (D := D) (ci := 0) (v := .int (nI 0)) (C := RJx4a65c) (T := TJx4a65c) (N := 3) hx hb hts hin_Jx4a65c hown hK hP p_ gp_ rfl 2 (by decide) fl_48 (fun _ h9 => h9) rfl dJx4a65c_clear_da8c8_16 ?_
  refine lv_istore_n (lv' := [(2, .int (nI 0)), (1, .ref ad), (0, .ref a_)]) hx hb dJx4a65c_clear_da8c8_19 rfl hl (by decide) rfl (fun ls hl => ?_)
  refine lv_aload_n hx hb dJx4a65c_clear_da8c8_20 rfl (lv_at hl 2 rfl) ?_
  refine lv_iconst (v := nI 0) hx hb dJx4a65c_clear_da8c8_21 (by decide) ?_
  refine lv_dup_x1 hx hb dJx4a65c_clear_da8c8_22 rfl rfl ?_
  refine nx_put (D := D) (ci := 0) (v := .int (nI 0)) (ty := .int) (C := RJx4a65c) (T := TJx4a65c) (N := 3) hx hb hts hin_Jx4a65c tyJx4a65c tyJx4a65c_ok nmJx4a65c hown hK hP hD hS p_ gp_ rfl 2 (by decide) fl_48 (fun _ h9 => h9) rfl (by decide +kernel) rfl rfl (Nat.le_of_ble_eq_true rfl) dJx4a65c_clear_da8c8_23 (fun ws_3 H locs gq up_4 hP hD hS => ?_)
  have go_p_ := gp_
  have gp_ : ws_3[p_]? = some (a_, .inr (0, [.int (mc + (nI 1)), .ref ad, .int (nI 0)])) := gq
  have hel : DIn ws_3 R := hel.up up_4 (fun y vs h9 => by rw [go_p_] at h9; cases h9)
  have sm := sm.up up_4 (by simp)
  refine lv_istore_n (lv' := [(3, .int (nI 0)), (2, .int (nI 0)), (1, .ref ad), (0, .ref a_)]) hx hb dJx4a65c_clear_da8c8_26 rfl hl (by decide) rfl (fun ls hl => ?_)
  refine lv_iload_n hx hb dJx4a65c_clear_da8c8_27 rfl (lv_at hl 0 rfl) ?_
  refine lv_iload_n hx hb dJx4a65c_clear_da8c8_28 rfl (lv_at hl 1 rfl) ?_
  refine lv_icmp_ge (tgt := 42) hx hb dJx4a65c_clear_da8c8_29 (by decide) (fun c_29 => ?_) (fun c_29 => absurd (by decide) c_29)
  exact CV.ret C hK hP hD hS (⟨hel, sm, gp_⟩) hc0 hs0 dJx4a65c_clear_da8c8_42
