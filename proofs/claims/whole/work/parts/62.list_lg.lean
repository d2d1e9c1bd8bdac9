set_option maxHeartbeats 4000000 in
set_option maxRecDepth 100000 in
theorem c_Jx4a65c_addA {D : va_G} {cB cI cJ cO : ClassId} {l : Launch} {ad mi : Nat} {p_ a_ e_ q_ cap : Nat} {mc : Int32} {f : Nat → Option Nat} {R : List Nat} {x_q x_ : Nat} {vsx : List Value} {ws : va_W} (gp_ : ws[p_]? = some (a_, .inr (0, [.int mc, .ref e_, .int (nI (R.length))]))) (gq_ : ws[q_]? = some (e_, .inl (cO, cap, .inr (.inr (.inr (.inr f)))))) (gx_q : ws[x_q]? = some (x_, .inr (1, vsx))) (hHR : HdR f R) (hlt : R.length < cap) (hcb : cap ≤ 49) (hel : DIn ws R) : CVX D (TY cB cI cJ cO) l yJx4a65c_add_72be8 wsJx4a65c_add_72be8 ({ frames := 5, cells := 1, slots := 49, locals := 127 }) ad mi [.ref a_, .ref x_, .ref e_, .int (nI (R.length))] ws (fun ws' => (DIn ws' R) ∧ Sm (fun k => k = p_ ∨ k = q_) ws ws' ∧ ws'[p_]? = some (a_, .inr (0, [.int mc, .ref e_, .int (nI ((R ++ [x_]).length))])) ∧ ws'[q_]? = some (e_, .inl (cO, cap, .inr (.inr (.inr (.inr (va_up f R.length (some x_)))))))) := by
  refine CVX.of (cc := cJx4a65c_add_72be8) (maxL := 4) (ret := none) (by decide) rfl (Nat.le_of_ble_eq_true rfl) ?_
  intro p e s m below meth c A C hK hP hD hA hS hX ls hl
  have hN := hX.1
  obtain ⟨hx, hb, hr, hml, hts, hown, hlocks, hnm⟩ := id C
  have fl_48 := hts (.fieldLink RJx4a65c 48 "java/util/ArrayList" "size" "I") (by decide +kernel)
  have hin_Jx4a65c : ∀ w ∈ u_ws RJx4a65c TJx4a65c 3, w ∈ wsJx4a65c_add_72be8 := by decide +kernel
  have hl : lv_has ls 4 [(0, .ref a_), (1, .ref x_), (2, .ref e_), (3, .int (nI (R.length)))] := hl
  have sm : Sm (fun k => k = p_ ∨ k = q_) ws ws := Sm.rf
  have hc0 : (0 : Nat) ≤ 1 := by decide
  have hs0 : (0 : Nat) ≤ 49 := by decide
  have hne_0_1 : p_ ≠ q_ := gl_ne gp_ gq_ (by simp)
  have hne_0_2 : p_ ≠ x_q := gl_ne gp_ gx_q (by simp)
  have hne_1_2 : q_ ≠ x_q := gl_ne gq_ gx_q (by simp)
  refine lv_iload_n hx hb dJx4a65c_add_72be8_0 rfl (lv_at hl 3 rfl) ?_
  refine lv_aload_n hx hb dJx4a65c_add_72be8_1 rfl (lv_at hl 2 rfl) ?_
  refine va_alen (v := nI cap) hx hb hK hP q_ 3 gq_ rfl rfl dJx4a65c_add_72be8_2 ?_
  refine nx_icmp_ne (tgt := 11) hx hb (by omega) (by omega) dJx4a65c_add_72be8_3 (by decide) (fun c_3 => ?_) (fun c_3 => ?_)
  · refine lv_aload_n hx hb dJx4a65c_add_72be8_11 rfl (lv_at hl 2 rfl) ?_
    refine lv_iload_n hx hb dJx4a65c_add_72be8_12 rfl (lv_at hl 3 rfl) ?_
    refine lv_aload_n hx hb dJx4a65c_add_72be8_13 rfl (lv_at hl 1 rfl) ?_
    refine nx_aast hx hb hK hP hD hS q_ gq_ hX x_q gx_q (k := R.length) (by omega) (by omega) dJx4a65c_add_72be8_14 (fun ws_1 H locs gq up_2 hP hD hS => ?_)
    have go_q_ := gq_
    have gq_ : ws_1[q_]? = some (e_, .inl (cO, cap, .inr (.inr (.inr (.inr (va_up f R.length (some x_))))))) := gq
    have gp_ := up_2.get gp_ (by omega)
    have gx_q := up_2.get gx_q (by omega)
    have hel : DIn ws_1 R := hel.up up_2 (fun y vs h9 => by rw [go_q_] at h9; cases h9)
    have sm := sm.up up_2 (by simp)
    refine lv_aload_n hx hb dJx4a65c_add_72be8_15 rfl (lv_at hl 0 rfl) ?_
    refine lv_iload_n hx hb dJx4a65c_add_72be8_16 rfl (lv_at hl 3 rfl) ?_
    refine lv_iconst (v := nI 1) hx hb dJx4a65c_add_72be8_17 (by decide) ?_
    refine nx_iadd hx hb dJx4a65c_add_72be8_18 ?_
    refine nx_put (D := D) (ci := 0) (v := .int (nI (R.length + 1))) (ty := .int) (C := RJx4a65c) (T := TJx4a65c) (N := 3) hx hb hts hin_Jx4a65c tyJx4a65c tyJx4a65c_ok nmJx4a65c hown hK hP hD hS p_ gp_ rfl 2 (by decide) fl_48 (fun _ h9 => h9) rfl (by decide +kernel) rfl rfl (Nat.le_of_ble_eq_true rfl) dJx4a65c_add_72be8_19 (fun ws_3 H locs gq up_4 hP hD hS => ?_)
    have go_p_ := gp_
    have gp_ : ws_3[p_]? = some (a_, .inr (0, [.int mc, .ref e_, .int (nI (R.length + 1))])) := gq
    have gq_ := up_4.get gq_ (by omega)
    have gx_q := up_4.get gx_q (by omega)
    have hel : DIn ws_3 R := hel.up up_4 (fun y vs h9 => by rw [go_p_] at h9; cases h9)
    have sm := sm.up up_4 (by simp)
    have gp_ : ws_3[p_]? = some (a_, .inr (0, [.int mc, .ref e_, .int (nI ((R ++ [x_]).length))])) := by rw [List.length_append]; exact gp_
    exact CV.ret C hK hP hD hS (⟨hel, sm, gp_, gq_⟩) hc0 hs0 dJx4a65c_add_72be8_22
  · omega
set_option maxHeartbeats 4000000 in
set_option maxRecDepth 100000 in
theorem c_Jx4a65c_addB {D : va_G} {cB cI cJ cO : ClassId} {l : Launch} {ad mi : Nat} {p_ a_ e_ q_ cap : Nat} {mc : Int32} {f : Nat → Option Nat} {R : List Nat} {x_q x_ : Nat} {vsx : List Value} {L0 : Nat} {ws : va_W} (gp_ : ws[p_]? = some (a_, .inr (0, [.int mc, .ref e_, .int (nI (R.length))]))) (gq_ : ws[q_]? = some (e_, .inl (cO, cap, .inr (.inr (.inr (.inr f)))))) (gx_q : ws[x_q]? = some (x_, .inr (1, vsx))) (hlen : ws.length = L0) (hHR : HdR f R) (hR : R.length = cap) (hcb : 2 ≤ cap ∧ cap ≤ 33) (hel : DIn ws R) : CVX D (TY cB cI cJ cO) l yJx4a65c_add_72be8 wsJx4a65c_add_72be8 ({ frames := 5, cells := 1, slots := 49, locals := 127 }) ad mi [.ref a_, .ref x_, .ref e_, .int (nI (R.length))] ws (fun ws' => ∃ q2 : Nat, (DIn ws' R) ∧ (ws'.length = L0 + 1) ∧ Sm (fun k => k = p_) ws ws' ∧ ws'[p_]? = some (a_, .inr (0, [.int mc, .ref q2, .int (nI ((R ++ [x_]).length))])) ∧ ws'[L0]? = some (q2, .inl (cO, cap + max 1 (cap / 2), .inr (.inr (.inr (.inr (va_up (va_cpy f (fun _ => none) 0 0 cap) R.length (some x_)))))))) := by
  refine CVX.of (cc := cJx4a65c_add_72be8) (maxL := 4) (ret := none) (by decide) rfl (Nat.le_of_ble_eq_true rfl) ?_
  intro p e s m below meth c A C hK hP hD hA hS hX ls hl
  have hN := hX.1
  obtain ⟨hx, hb, hr, hml, hts, hown, hlocks, hnm⟩ := id C
  have fl_48 := hts (.fieldLink RJx4a65c 48 "java/util/ArrayList" "size" "I") (by decide +kernel)
  have hin_Jx4a65c : ∀ w ∈ u_ws RJx4a65c TJx4a65c 3, w ∈ wsJx4a65c_add_72be8 := by decide +kernel
  have hl : lv_has ls 4 [(0, .ref a_), (1, .ref x_), (2, .ref e_), (3, .int (nI (R.length)))] := hl
  have sm : Sm (fun k => k = p_) ws ws := Sm.rf
  have hc0 : (0 : Nat) ≤ 1 := by decide
  have hs0 : (0 : Nat) ≤ 49 := by decide
  have hne_0_1 : p_ ≠ q_ := gl_ne gp_ gq_ (by simp)
  have hne_0_2 : p_ ≠ x_q := gl_ne gp_ gx_q (by simp)
  have hne_1_2 : q_ ≠ x_q := gl_ne gq_ gx_q (by simp)
  refine lv_iload_n hx hb dJx4a65c_add_72be8_0 rfl (lv_at hl 3 rfl) ?_
  refine lv_aload_n hx hb dJx4a65c_add_72be8_1 rfl (lv_at hl 2 rfl) ?_
  refine va_alen (v := nI cap) hx hb hK hP q_ 3 gq_ rfl rfl dJx4a65c_add_72be8_2 ?_
  refine nx_icmp_ne (tgt := 11) hx hb (by omega) (by omega) dJx4a65c_add_72be8_3 (by decide) (fun c_3 => ?_) (fun c_3 => ?_)
  · omega
  · refine lv_aload_n hx hb dJx4a65c_add_72be8_6 rfl (lv_at hl 0 rfl) ?_
    have hp_p_ := gl_lt gp_
    have hp_q_ := gl_lt gq_
    have hp_x_q := gl_lt gx_q
    refine CQ.go (va_runV (As := []) (rest := []) ⟨hx, hb, hml, hown, hts⟩ (c_Jx4a65c_grow_d5877  gp_ gq_ hlen hR hHR hcb hel _) (cwV 0 hts gJx4a65c_add_72be8_Jx4a65c_grow_d5877 rfl rfl rfl (by decide +kernel) ⟨Nat.le_of_ble_eq_true rfl, Nat.le_of_ble_eq_true rfl⟩) ⟨pwx_blind, va_recv hK hP (ci := 0) (q0 := p_) rfl gp_, fun U hU hW => pwx_pre hX hA hS hK hP hD hU hW⟩ rfl rfl hl.1 rfl (lv_room (Nat.le_of_ble_eq_true rfl)) dJx4a65c_add_72be8_7 ⟨Nat.le_of_ble_eq_true rfl, Nat.le_of_ble_eq_true rfl⟩) hD hS hA (fun r_1 ws_2 H locs hp hP hD hS => ?_)
    obtain ⟨q2, rfl, hel, hl9, sm_3, gp_, gL0⟩ := hp
    have gq_ := sm_3.get gq_ (by intro h9; first | (simp at h9; done) | ((try simp only at h9); omega))
    have gx_q := sm_3.get gx_q (by intro h9; first | (simp at h9; done) | ((try simp only at h9); omega))
    have sm := sm.calln sm_3 (by intro k hk; first | exact False.elim hk | ((try simp only at hk ⊢); omega))
    have gp_ : ws_2[p_]? = some (a_, .inr (0, [.int mc, .ref q2, .int (nI (R.length))])) := gp_
    have gL0 : ws_2[L0]? = some (q2, .inl (cO, cap + max 1 (cap / 2), .inr (.inr (.inr (.inr (va_cpy f (fun _ => none) 0 0 cap)))))) := gL0
    have hlen : ws_2.length = L0 + 1 := hl9
    refine W.widen (k := 1) (n := 49) (Nat.le_of_ble_eq_true rfl) (Nat.le_of_ble_eq_true rfl) ?_
    refine lv_astore_n (lv' := [(2, .ref q2), (0, .ref a_), (1, .ref x_), (3, .int (nI (R.length)))]) hx hb dJx4a65c_add_72be8_10 rfl hl (by decide) rfl (fun ls hl => ?_)
    refine lv_aload_n hx hb dJx4a65c_add_72be8_11 rfl (lv_at hl 0 rfl) ?_
    refine lv_iload_n hx hb dJx4a65c_add_72be8_12 rfl (lv_at hl 3 rfl) ?_
    refine lv_aload_n hx hb dJx4a65c_add_72be8_13 rfl (lv_at hl 2 rfl) ?_
    refine nx_aast hx hb hK hP hD hS L0 gL0 hX x_q gx_q (k := R.length) (by omega) (by omega) dJx4a65c_add_72be8_14 (fun ws_4 H locs gq up_5 hP hD hS => ?_)
    have go_L0 := gL0
    have gL0 : ws_4[L0]? = some (q2, .inl (cO, cap + max 1 (cap / 2), .inr (.inr (.inr (.inr (va_up (va_cpy f (fun _ => none) 0 0 cap) R.length (some x_))))))) := gq
    have gp_ := up_5.get gp_ (by omega)
    have gq_ := up_5.get gq_ (by omega)
    have gx_q := up_5.get gx_q (by omega)
    have hel : DIn ws_4 R := hel.up up_5 (fun y vs h9 => by rw [go_L0] at h9; cases h9)
    have hlen := up_5.1.trans hlen
    have sm := sm.upn up_5 (by omega)
    refine lv_aload_n hx hb dJx4a65c_add_72be8_15 rfl (lv_at hl 1 rfl) ?_
    refine lv_iload_n hx hb dJx4a65c_add_72be8_16 rfl (lv_at hl 3 rfl) ?_
    refine lv_iconst (v := nI 1) hx hb dJx4a65c_add_72be8_17 (by decide) ?_
    refine nx_iadd hx hb dJx4a65c_add_72be8_18 ?_
    refine nx_put (D := D) (ci := 0) (v := .int (nI (R.length + 1))) (ty := .int) (C := RJx4a65c) (T := TJx4a65c) (N := 3) hx hb hts hin_Jx4a65c tyJx4a65c tyJx4a65c_ok nmJx4a65c hown hK hP hD hS p_ gp_ rfl 2 (by decide) fl_48 (fun _ h9 => h9) rfl (by decide +kernel) rfl rfl (Nat.le_of_ble_eq_true rfl) dJx4a65c_add_72be8_19 (fun ws_6 H locs gq up_7 hP hD hS => ?_)
    have go_p_ := gp_
    have gp_ : ws_6[p_]? = some (a_, .inr (0, [.int mc, .ref q2, .int (nI (R.length + 1))])) := gq
    have gq_ := up_7.get gq_ (by omega)
    have gx_q := up_7.get gx_q (by omega)
    have gL0 := up_7.get gL0 (by omega)
    have hel : DIn ws_6 R := hel.up up_7 (fun y vs h9 => by rw [go_p_] at h9; cases h9)
    have hlen := up_7.1.trans hlen
    have sm := sm.up up_7 (by simp)
    have gp_ : ws_6[p_]? = some (a_, .inr (0, [.int mc, .ref q2, .int (nI ((R ++ [x_]).length))])) := by rw [List.length_append]; exact gp_
    exact CV.ret C hK hP hD hS (⟨_, hel, hlen, sm, gp_, gL0⟩) (by decide) (by decide) dJx4a65c_add_72be8_22
set_option maxHeartbeats 4000000 in
set_option maxRecDepth 100000 in
theorem c_Jx4a65c_addC {D : va_G} {cB cI cJ cO : ClassId} {l : Launch} {ad mi : Nat} {p_ a_ : Nat} {mc : Int32} {R : List Nat} {x_q x_ : Nat} {vsx : List Value} {L0 : Nat} {ws : va_W} (gp_ : ws[p_]? = some (a_, .inr (0, [.int mc, .ref ad, .int (nI 0)]))) (gx_q : ws[x_q]? = some (x_, .inr (1, vsx))) (hlen : ws.length = L0) (hel : DIn ws R) : CVX D (TY cB cI cJ cO) l yJx4a65c_add_72be8 wsJx4a65c_add_72be8 ({ frames := 5, cells := 1, slots := 49, locals := 127 }) ad mi [.ref a_, .ref x_, .ref ad, .int (nI 0)] ws (fun ws' => ∃ q2 : Nat, (DIn ws' R) ∧ (ws'.length = L0 + 1) ∧ Sm (fun k => k = p_) ws ws' ∧ ws'[p_]? = some (a_, .inr (0, [.int mc, .ref q2, .int (nI 1)])) ∧ ws'[L0]? = some (q2, .inl (cO, 10, .inr (.inr (.inr (.inr (va_up (fun _ => none) 0 (some x_)))))))) := by
  refine CVX.of (cc := cJx4a65c_add_72be8) (maxL := 4) (ret := none) (by decide) rfl (Nat.le_of_ble_eq_true rfl) ?_
  intro p e s m below meth c A C hK hP hD hA hS hX ls hl
  have hN := hX.1
  obtain ⟨hx, hb, hr, hml, hts, hown, hlocks, hnm⟩ := id C
  have fl_48 := hts (.fieldLink RJx4a65c 48 "java/util/ArrayList" "size" "I") (by decide +kernel)
  have hin_Jx4a65c : ∀ w ∈ u_ws RJx4a65c TJx4a65c 3, w ∈ wsJx4a65c_add_72be8 := by decide +kernel
  have hl : lv_has ls 4 [(0, .ref a_), (1, .ref x_), (2, .ref ad), (3, .int (nI 0))] := hl
  have sm : Sm (fun k => k = p_) ws ws := Sm.rf
  have hc0 : (0 : Nat) ≤ 1 := by decide
  have hs0 : (0 : Nat) ≤ 49 := by decide
  have hne_0_1 : p_ ≠ x_q := gl_ne gp_ gx_q (by simp)
  refine lv_iload_n hx hb dJx4a65c_add_72be8_0 rfl (lv_at hl 3 rfl) ?_
  refine lv_aload_n hx hb dJx4a65c_add_72be8_1 rfl (lv_at hl 2 rfl) ?_
  refine va_tlen (v := nI 0) hx hb hX.2.2.2.1 hS rfl dJx4a65c_add_72be8_2 ?_
  refine lv_icmp_ne (tgt := 11) hx hb dJx4a65c_add_72be8_3 (by decide) (fun c_3 => absurd (by decide) c_3) (fun c_3 => ?_)
  refine lv_aload_n hx hb dJx4a65c_add_72be8_6 rfl (lv_at hl 0 rfl) ?_
  have hp_p_ := gl_lt gp_
  have hp_x_q := gl_lt gx_q
  refine CQ.go (va_runV (As := []) (rest := []) ⟨hx, hb, hml, hown, hts⟩ (c_Jx4a65c_growd0  gp_ hlen hel _) (cwV 0 hts gJx4a65c_add_72be8_Jx4a65c_grow_d5877 rfl rfl rfl (by decide +kernel) ⟨Nat.le_of_ble_eq_true rfl, Nat.le_of_ble_eq_true rfl⟩) ⟨pwx_blind, va_recv hK hP (ci := 0) (q0 := p_) rfl gp_, fun U hU hW => pwx_pre hX hA hS hK hP hD hU hW⟩ rfl rfl hl.1 rfl (lv_room (Nat.le_of_ble_eq_true rfl)) dJx4a65c_add_72be8_7 ⟨Nat.le_of_ble_eq_true rfl, Nat.le_of_ble_eq_true rfl⟩) hD hS hA (fun r_1 ws_2 H locs hp hP hD hS => ?_)
  obtain ⟨q2, rfl, hel, hl9, sm_3, gp_, gL0⟩ := hp
  have gx_q := sm_3.get gx_q (by intro h9; first | (simp at h9; done) | ((try simp only at h9); omega))
  have sm := sm.calln sm_3 (by intro k hk; first | exact False.elim hk | ((try simp only at hk ⊢); omega))
  have gp_ : ws_2[p_]? = some (a_, .inr (0, [.int mc, .ref q2, .int (nI 0)])) := gp_
  have gL0 : ws_2[L0]? = some (q2, .inl (cO, 10, .inr (.inr (.inr (.inr (fun _ => none)))))) := gL0
  have hlen : ws_2.length = L0 + 1 := hl9
  refine W.widen (k := 1) (n := 49) (Nat.le_of_ble_eq_true rfl) (Nat.le_of_ble_eq_true rfl) ?_
  refine lv_astore_n (lv' := [(2, .ref q2), (0, .ref a_), (1, .ref x_), (3, .int (nI 0))]) hx hb dJx4a65c_add_72be8_10 rfl hl (by decide) rfl (fun ls hl => ?_)
  refine lv_aload_n hx hb dJx4a65c_add_72be8_11 rfl (lv_at hl 0 rfl) ?_
  refine lv_iload_n hx hb dJx4a65c_add_72be8_12 rfl (lv_at hl 3 rfl) ?_
  refine lv_aload_n hx hb dJx4a65c_add_72be8_13 rfl (lv_at hl 2 rfl) ?_
  refine nx_aast hx hb hK hP hD hS L0 gL0 hX x_q gx_q (k := 0) (by omega) (by omega) dJx4a65c_add_72be8_14 (fun ws_4 H locs gq up_5 hP hD hS => ?_)
  have go_L0 := gL0
  have gL0 : ws_4[L0]? = some (q2, .inl (cO, 10, .inr (.inr (.inr (.inr (va_up (fun _ => none) 0 (some x_))))))) := gq
  have gp_ := up_5.get gp_ (by omega)
  have gx_q := up_5.get gx_q (by omega)
  have hel : DIn ws_4 R := hel.up up_5 (fun y vs h9 => by rw [go_L0] at h9; cases h9)
  have hlen := up_5.1.trans hlen
  have sm := sm.upn up_5 (by omega)
  refine lv_aload_n hx hb dJx4a65c_add_72be8_15 rfl (lv_at hl 1 rfl) ?_
  refine lv_iload_n hx hb dJx4a65c_add_72be8_16 rfl (lv_at hl 3 rfl) ?_
  refine lv_iconst (v := nI 1) hx hb dJx4a65c_add_72be8_17 (by decide) ?_
  refine nx_iadd hx hb dJx4a65c_add_72be8_18 ?_
  refine nx_put (D := D) (ci := 0) (v := .int (nI (0 + 1))) (ty := .int) (C := RJx4a65c) (T := TJx4a65c) (N := 3) hx hb hts hin_Jx4a65c tyJx4a65c tyJx4a65c_ok nmJx4a65c hown hK hP hD hS p_ gp_ rfl 2 (by decide) fl_48 (fun _ h9 => h9) rfl (by decide +kernel) rfl rfl (Nat.le_of_ble_eq_true rfl) dJx4a65c_add_72be8_19 (fun ws_6 H locs gq up_7 hP hD hS => ?_)
  have go_p_ := gp_
  have gp_ : ws_6[p_]? = some (a_, .inr (0, [.int mc, .ref q2, .int (nI (0 + 1))])) := gq
  have gx_q := up_7.get gx_q (by omega)
  have gL0 := up_7.get gL0 (by omega)
  have hel : DIn ws_6 R := hel.up up_7 (fun y vs h9 => by rw [go_p_] at h9; cases h9)
  have hlen := up_7.1.trans hlen
  have sm := sm.up up_7 (by simp)
  exact CV.ret C hK hP hD hS (⟨_, hel, hlen, sm, gp_, gL0⟩) (by decide) (by decide) dJx4a65c_add_72be8_22
