set_option maxHeartbeats 4000000 in
set_option maxRecDepth 100000 in
theorem c_Jx4a65c_grow_92f84 {D : va_G} {cB cI cJ cO : ClassId} {l : Launch} {ad mi : Nat} {p_ a_ e_ q_ cap : Nat} {mc : Int32} {f : Nat → Option Nat} {R : List Nat} {L0 : Nat} {ws : va_W} (gp_ : ws[p_]? = some (a_, .inr (0, [.int mc, .ref e_, .int (nI (R.length))]))) (gq_ : ws[q_]? = some (e_, .inl (cO, cap, .inr (.inr (.inr (.inr f)))))) (hlen : ws.length = L0) (hR : R.length = cap) (hHR : HdR f R) (hcb : 2 ≤ cap ∧ cap ≤ 33) (hel : DIn ws R) : CQX D (TY cB cI cJ cO) l yJx4a65c_grow_92f84 wsJx4a65c_grow_92f84 ({ frames := 3, cells := 1, slots := 49, locals := 84 }) ad mi [.ref a_, .int (nI (cap + 1))] ws (fun r ws' => ∃ q2 : Nat, r = some (q2) ∧ (DIn ws' R) ∧ (ws'.length = L0 + 1) ∧ Sm (fun k => k = p_) ws ws' ∧ ws'[p_]? = some (a_, .inr (0, [.int mc, .ref q2, .int (nI (R.length))])) ∧ ws'[L0]? = some (q2, .inl (cO, cap + max 1 (cap / 2), .inr (.inr (.inr (.inr (va_cpy f (fun _ => none) 0 0 cap))))))) := by
  refine CQX.of (cc := cJx4a65c_grow_92f84) (maxL := 4) (ret := (some (.array (.object "java/lang/Object")))) (by decide) rfl (Nat.le_of_ble_eq_true rfl) ?_
  intro p e s m below meth c A C hK hP hD hA hS hX ls hl
  have hN := hX.1
  obtain ⟨hx, hb, hr, hml, hts, hown, hlocks, hnm⟩ := id C
  have fl_9 := hts (.fieldLink RJx4a65c 9 "java/util/ArrayList" "elementData" "[Ljava/lang/Object;") (by decide +kernel)
  have hin_Jx4a65c : ∀ w ∈ u_ws RJx4a65c TJx4a65c 3, w ∈ wsJx4a65c_grow_92f84 := by decide +kernel
  have hl : lv_has ls 4 [(0, .ref a_), (1, .int (nI (cap + 1)))] := hl
  have sm : Sm (fun k => k = p_) ws ws := Sm.rf
  have hc0 : (0 : Nat) ≤ 1 := by decide
  have hs0 : (0 : Nat) ≤ 49 := by decide
  have hne_0_1 : p_ ≠ q_ := gl_ne gp_ gq_ (by simp)
  refine lv_aload_n hx hb dJx4a65c_grow_92f84_0 rfl (lv_at hl 0 rfl) ?_
  refine va_get (D := D) (ci := 0) (v := .ref e_) (C := RJx4a65c) (T := TJx4a65c) (N := 3) hx hb hts hin_Jx4a65c hown hK hP p_ gp_ rfl 1 (by decide) fl_9 (fun _ h9 => h9) rfl dJx4a65c_grow_92f84_1 ?_
  refine va_alen (v := nI cap) hx hb hK hP q_ 3 gq_ rfl rfl dJx4a65c_grow_92f84_4 ?_
  refine lv_istore_n (lv' := [(2, .int (nI cap)), (0, .ref a_), (1, .int (nI (cap + 1)))]) hx hb dJx4a65c_grow_92f84_5 rfl hl (by decide) rfl (fun ls hl => ?_)
  refine lv_iload_n hx hb dJx4a65c_grow_92f84_6 rfl (lv_at hl 0 rfl) ?_
  refine nx_if_gt (tgt := 20) hx hb (by omega) dJx4a65c_grow_92f84_7 (by decide) (fun c_7 => ?_) (fun c_7 => ?_)
  · refine lv_iload_n hx hb dJx4a65c_grow_92f84_20 rfl (lv_at hl 0 rfl) ?_
    refine lv_iload_n hx hb dJx4a65c_grow_92f84_21 rfl (lv_at hl 2 rfl) ?_
    refine lv_iload_n hx hb dJx4a65c_grow_92f84_22 rfl (lv_at hl 0 rfl) ?_
    refine nx_isub hx hb (by omega) dJx4a65c_grow_92f84_23 ?_
    refine lv_iload_n hx hb dJx4a65c_grow_92f84_24 rfl (lv_at hl 0 rfl) ?_
    refine lv_iconst (v := nI 1) hx hb dJx4a65c_grow_92f84_25 (by decide) ?_
    refine lv_ishr hx hb dJx4a65c_grow_92f84_26 ?_
    rw [nI_half (by omega), show cap + 1 - cap = 1 by omega]
    refine CI.go (va_runS (As := [.int (nI cap), .int (nI 1), .int (nI (cap / 2))]) (rest := []) ⟨hx, hb, hml, hown, hts⟩ (c_J8_newLength_cabcc   (by omega) (by omega) (by omega) (by omega) _) (va_cwS 3 hts gJx4a65c_grow_92f84_J8_newLength_cabcc rfl rfl rfl (by decide +kernel) ⟨Nat.le_of_ble_eq_true rfl, Nat.le_of_ble_eq_true rfl⟩) ⟨pw_blind, fun U hU hW => pw_pre hK hP hD hU hW⟩ rfl rfl hl.1 rfl (lv_room (Nat.le_of_ble_eq_true rfl)) dJx4a65c_grow_92f84_27 ⟨Nat.le_of_ble_eq_true rfl, Nat.le_of_ble_eq_true rfl⟩) hD hS hA (fun r_1 ws_2 H locs hp hP hD hS => ?_)
    obtain ⟨rfl, rfl⟩ := hp
    refine lv_istore_n (lv' := [(3, .int (nI (cap + max 1 (cap / 2)))), (2, .int (nI cap)), (0, .ref a_), (1, .int (nI (cap + 1)))]) hx hb dJx4a65c_grow_92f84_30 rfl hl (by decide) rfl (fun ls hl => ?_)
    refine lv_aload_n hx hb dJx4a65c_grow_92f84_31 rfl (lv_at hl 2 rfl) ?_
    refine lv_aload_n hx hb dJx4a65c_grow_92f84_32 rfl (lv_at hl 2 rfl) ?_
    refine va_get (D := D) (ci := 0) (v := .ref e_) (C := RJx4a65c) (T := TJx4a65c) (N := 3) hx hb hts hin_Jx4a65c hown hK hP p_ gp_ rfl 1 (by decide) fl_9 (fun _ h9 => h9) rfl dJx4a65c_grow_92f84_33 ?_
    refine lv_iload_n hx hb dJx4a65c_grow_92f84_36 rfl (lv_at hl 0 rfl) ?_
    have hp_p_ := gl_lt gp_
    have hp_q_ := gl_lt gq_
    refine CQ.go (va_runS (As := [.ref e_, .int (nI (cap + max 1 (cap / 2)))]) (rest := [.ref a_]) ⟨hx, hb, hml, hown, hts⟩ (c_J7_copyOf_1904c  gq_ hlen hR hHR (by omega) (by omega) hel _) (va_cwS 2 hts gJx4a65c_grow_92f84_J7_copyOf_1904c rfl rfl rfl (by decide +kernel) ⟨Nat.le_of_ble_eq_true rfl, Nat.le_of_ble_eq_true rfl⟩) ⟨pwx_blind, fun U hU hW => pwx_pre hX hA hS hK hP hD hU hW⟩ rfl rfl hl.1 rfl (lv_room (Nat.le_of_ble_eq_true rfl)) dJx4a65c_grow_92f84_37 ⟨Nat.le_of_ble_eq_true rfl, Nat.le_of_ble_eq_true rfl⟩) hD hS hA (fun r_3 ws_4 H locs hp hP hD hS => ?_)
    obtain ⟨q2, rfl, hel, hl9, sm_5, gL0⟩ := hp
    have gp_ := sm_5.get gp_ (by intro h9; first | (simp at h9; done) | ((try simp only at h9); omega))
    have gq_ := sm_5.get gq_ (by intro h9; first | (simp at h9; done) | ((try simp only at h9); omega))
    have sm := sm.calln sm_5 (by intro k hk; first | exact False.elim hk | ((try simp only at hk ⊢); omega))
    have gL0 : ws_4[L0]? = some (q2, .inl (cO, (cap + max 1 (cap / 2)), .inr (.inr (.inr (.inr (va_cpy f (fun _ => none) 0 0 cap)))))) := gL0
    have hlen : ws_4.length = L0 + 1 := hl9
    refine W.widen (k := 1) (n := 49) (Nat.le_of_ble_eq_true rfl) (Nat.le_of_ble_eq_true rfl) ?_
    refine lv_dup_x1 hx hb dJx4a65c_grow_92f84_40 rfl rfl ?_
    refine nx_put (D := D) (ci := 0) (v := .ref q2) (ty := .array (.object "java/lang/Object")) (C := RJx4a65c) (T := TJx4a65c) (N := 3) hx hb hts hin_Jx4a65c tyJx4a65c tyJx4a65c_ok nmJx4a65c hown hK hP hD hS p_ gp_ rfl 1 (by decide) fl_9 (fun _ h9 => h9) rfl (by decide +kernel) rfl rfl (Nat.le_of_ble_eq_true rfl) dJx4a65c_grow_92f84_41 (fun ws_6 H locs gq up_7 hP hD hS => ?_)
    have go_p_ := gp_
    have gp_ : ws_6[p_]? = some (a_, .inr (0, [.int mc, .ref q2, .int (nI (R.length))])) := gq
    have gq_ := up_7.get gq_ (by omega)
    have gL0 := up_7.get gL0 (by omega)
    have hel : DIn ws_6 R := hel.up up_7 (fun y vs h9 => by rw [go_p_] at h9; cases h9)
    have hlen := up_7.1.trans hlen
    have sm := sm.up up_7 (by simp)
    exact CQ.ret (v := some q2) C hK hP hD hS (Or.inr ⟨_, rfl⟩) (⟨_, rfl, hel, hlen, sm, gp_, gL0⟩) (by decide) (by decide) dJx4a65c_grow_92f84_44
  · omega
set_option maxHeartbeats 4000000 in
set_option maxRecDepth 100000 in
theorem c_Jx4a65c_grow0 {D : va_G} {cB cI cJ cO : ClassId} {l : Launch} {ad mi : Nat} {p_ a_ : Nat} {mc : Int32} {R : List Nat} {L0 : Nat} {ws : va_W} (gp_ : ws[p_]? = some (a_, .inr (0, [.int mc, .ref ad, .int (nI 0)]))) (hlen : ws.length = L0) (hel : DIn ws R) : CQX D (TY cB cI cJ cO) l yJx4a65c_grow_92f84 wsJx4a65c_grow_92f84 ({ frames := 3, cells := 1, slots := 49, locals := 84 }) ad mi [.ref a_, .int (nI 1)] ws (fun r ws' => ∃ q2 : Nat, r = some (q2) ∧ (DIn ws' R) ∧ (ws'.length = L0 + 1) ∧ Sm (fun k => k = p_) ws ws' ∧ ws'[p_]? = some (a_, .inr (0, [.int mc, .ref q2, .int (nI 0)])) ∧ ws'[L0]? = some (q2, .inl (cO, 10, .inr (.inr (.inr (.inr (fun _ => none))))))) := by
  refine CQX.of (cc := cJx4a65c_grow_92f84) (maxL := 4) (ret := (some (.array (.object "java/lang/Object")))) (by decide) rfl (Nat.le_of_ble_eq_true rfl) ?_
  intro p e s m below meth c A C hK hP hD hA hS hX ls hl
  have hN := hX.1
  obtain ⟨hx, hb, hr, hml, hts, hown, hlocks, hnm⟩ := id C
  have fl_9 := hts (.fieldLink RJx4a65c 9 "java/util/ArrayList" "elementData" "[Ljava/lang/Object;") (by decide +kernel)
  have hin_Jx4a65c : ∀ w ∈ u_ws RJx4a65c TJx4a65c 3, w ∈ wsJx4a65c_grow_92f84 := by decide +kernel
  have hl : lv_has ls 4 [(0, .ref a_), (1, .int (nI 1))] := hl
  have sm : Sm (fun k => k = p_) ws ws := Sm.rf
  have hc0 : (0 : Nat) ≤ 1 := by decide
  have hs0 : (0 : Nat) ≤ 49 := by decide
  refine lv_aload_n hx hb dJx4a65c_grow_92f84_0 rfl (lv_at hl 0 rfl) ?_
  refine va_get (D := D) (ci := 0) (v := .ref ad) (C := RJx4a65c) (T := TJx4a65c) (N := 3) hx hb hts hin_Jx4a65c hown hK hP p_ gp_ rfl 1 (by decide) fl_9 (fun _ h9 => h9) rfl dJx4a65c_grow_92f84_1 ?_
  refine va_tlen (v := nI 0) hx hb hX.2.2.2.1 hS rfl dJx4a65c_grow_92f84_4 ?_
  refine lv_istore_n (lv' := [(2, .int (nI 0)), (0, .ref a_), (1, .int (nI 1))]) hx hb dJx4a65c_grow_92f84_5 rfl hl (by decide) rfl (fun ls hl => ?_)
  refine lv_iload_n hx hb dJx4a65c_grow_92f84_6 rfl (lv_at hl 0 rfl) ?_
  refine lv_if_gt (tgt := 20) hx hb dJx4a65c_grow_92f84_7 (by decide) (fun c_7 => absurd c_7 (by decide)) (fun c_7 => ?_)
  refine lv_aload_n hx hb dJx4a65c_grow_92f84_10 rfl (lv_at hl 1 rfl) ?_
  refine va_get (D := D) (ci := 0) (v := .ref ad) (C := RJx4a65c) (T := TJx4a65c) (N := 3) hx hb hts hin_Jx4a65c hown hK hP p_ gp_ rfl 1 (by decide) fl_9 (fun _ h9 => h9) rfl dJx4a65c_grow_92f84_11 ?_
  refine va_gets hx hb hX.2.2.1 hS hown (hts (.fieldLink RJx4a65c 39 "java/util/ArrayList" "DEFAULTCAPACITY_EMPTY_ELEMENTDATA" "[Ljava/lang/Object;") (by decide +kernel)) (fun _ h9 => h9) dJx4a65c_grow_92f84_14 ?_
  refine lv_acmp_eq (rx := some ad) (ry := some ad) (tgt := 45) hx hb dJx4a65c_grow_92f84_17 (by decide) (fun c_17 => ?_) (fun c_17 => ?_)
  · refine lv_aload_n hx hb dJx4a65c_grow_92f84_45 rfl (lv_at hl 1 rfl) ?_
    refine lv_bipush (v := nI 10) hx hb dJx4a65c_grow_92f84_46 (by decide) ?_
    refine lv_iload_n hx hb dJx4a65c_grow_92f84_48 rfl (lv_at hl 2 rfl) ?_
    refine va_mmax hx hb (hml.trans hl.1.symm) hown (hts (.methodLink RJx4a65c 79 Lib.Math.max.name) (by decide +kernel)) (hts (.static Lib.Math.max.name) (by decide +kernel)) (hts (.initialized "java/lang/Math") (by decide +kernel)) (hts (.code Lib.Math.max.name Lib.Math.max.code 2 (some .int)) (by decide +kernel)) (Nat.le_of_ble_eq_true rfl) (Nat.le_of_ble_eq_true rfl) (Nat.le_of_ble_eq_true rfl) (Nat.le_of_ble_eq_true rfl) dJx4a65c_grow_92f84_49 ?_
    rw [show (if nI 10 < nI 1 then nI 1 else nI 10) = nI 10 from by decide]
    refine nx_newq hx hb hown (hts (.classLink RJx4a65c 7 "java/lang/Object") (by decide +kernel)) hX hK hP hD hS hA (N' := 10) (by omega) (Nat.le_of_ble_eq_true rfl) (Nat.le_of_ble_eq_true rfl) dJx4a65c_grow_92f84_52 (fun q_1 ws_2 H gq ps_3 hP hD hS => ?_)
    rw [hlen] at gq
    have hp_p_ := gl_lt gp_
    have gp_ := ps_3.get gp_
    have hel : DIn ws_2 R := hel.ps ps_3
    have gL0 : ws_2[L0]? = some (q_1, .inl (cO, 10, .inr (.inr (.inr (.inr (fun _ => none)))))) := gq
    have hlen : ws_2.length = L0 + 1 := by have h9 := ps_3.1; omega
    have sm := sm.ps ps_3
    refine W.widen (k := 1) (n := 10) (by first | decide | omega) (by first | decide | omega) ?_
    refine lv_dup_x1 hx hb dJx4a65c_grow_92f84_55 rfl rfl ?_
    refine nx_put (D := D) (ci := 0) (v := .ref q_1) (ty := .array (.object "java/lang/Object")) (C := RJx4a65c) (T := TJx4a65c) (N := 3) hx hb hts hin_Jx4a65c tyJx4a65c tyJx4a65c_ok nmJx4a65c hown hK hP hD hS p_ gp_ rfl 1 (by decide) fl_9 (fun _ h9 => h9) rfl (by decide +kernel) rfl rfl (Nat.le_of_ble_eq_true rfl) dJx4a65c_grow_92f84_56 (fun ws_4 H locs gq up_5 hP hD hS => ?_)
    have go_p_ := gp_
    have gp_ : ws_4[p_]? = some (a_, .inr (0, [.int mc, .ref q_1, .int (nI 0)])) := gq
    have gL0 := up_5.get gL0 (by omega)
    have hel : DIn ws_4 R := hel.up up_5 (fun y vs h9 => by rw [go_p_] at h9; cases h9)
    have hlen := up_5.1.trans hlen
    have sm := sm.up up_5 (by simp)
    exact CQ.ret (v := some q_1) C hK hP hD hS (Or.inr ⟨_, rfl⟩) (⟨_, rfl, hel, hlen, sm, gp_, gL0⟩) (by decide) (by decide) dJx4a65c_grow_92f84_59
  · exact absurd rfl c_17
