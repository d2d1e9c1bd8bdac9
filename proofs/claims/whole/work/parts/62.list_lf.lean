set_option maxHeartbeats 4000000 in
set_option maxRecDepth 100000 in
theorem c_Jx4a65c_grow_d5877 {D : va_G} {cB cI cJ cO : ClassId} {l : Launch} {ad mi : Nat} {p_ a_ e_ q_ cap : Nat} {mc : Int32} {f : Nat → Option Nat} {R : List Nat} {L0 : Nat} {ws : va_W} (gp_ : ws[p_]? = some (a_, .inr (0, [.int mc, .ref e_, .int (nI (R.length))]))) (gq_ : ws[q_]? = some (e_, .inl (cO, cap, .inr (.inr (.inr (.inr f)))))) (hlen : ws.length = L0) (hR : R.length = cap) (hHR : HdR f R) (hcb : 2 ≤ cap ∧ cap ≤ 33) (hel : DIn ws R) : CQX D (TY cB cI cJ cO) l yJx4a65c_grow_d5877 wsJx4a65c_grow_d5877 ({ frames := 4, cells := 1, slots := 49, locals := 107 }) ad mi [.ref a_] ws (fun r ws' => ∃ q2 : Nat, r = some (q2) ∧ (DIn ws' R) ∧ (ws'.length = L0 + 1) ∧ Sm (fun k => k = p_) ws ws' ∧ ws'[p_]? = some (a_, .inr (0, [.int mc, .ref q2, .int (nI (R.length))])) ∧ ws'[L0]? = some (q2, .inl (cO, cap + max 1 (cap / 2), .inr (.inr (.inr (.inr (va_cpy f (fun _ => none) 0 0 cap))))))) := by
  refine CQX.of (cc := cJx4a65c_grow_d5877) (maxL := 1) (ret := (some (.array (.object "java/lang/Object")))) (by decide) rfl (Nat.le_of_ble_eq_true rfl) ?_
  intro p e s m below meth c A C hK hP hD hA hS hX ls hl
  have hN := hX.1
  obtain ⟨hx, hb, hr, hml, hts, hown, hlocks, hnm⟩ := id C
  have fl_48 := hts (.fieldLink RJx4a65c 48 "java/util/ArrayList" "size" "I") (by decide +kernel)
  have hin_Jx4a65c : ∀ w ∈ u_ws RJx4a65c TJx4a65c 3, w ∈ wsJx4a65c_grow_d5877 := by decide +kernel
  have hl : lv_has ls 1 [(0, .ref a_)] := hl
  have sm : Sm (fun k => k = p_) ws ws := Sm.rf
  have hc0 : (0 : Nat) ≤ 1 := by decide
  have hs0 : (0 : Nat) ≤ 49 := by decide
  have hne_0_1 : p_ ≠ q_ := gl_ne gp_ gq_ (by simp)
  refine lv_aload_n hx hb dJx4a65c_grow_d5877_0 rfl (lv_at hl 0 rfl) ?_
  refine lv_aload_n hx hb dJx4a65c_grow_d5877_1 rfl (lv_at hl 0 rfl) ?_
  refine va_get (D := D) (ci := 0) (v := .int (nI (R.length))) (C := RJx4a65c) (T := TJx4a65c) (N := 3) hx hb hts hin_Jx4a65c hown hK hP p_ gp_ rfl 2 (by decide) fl_48 (fun _ h9 => h9) rfl dJx4a65c_grow_d5877_2 ?_
  refine lv_iconst (v := nI 1) hx hb dJx4a65c_grow_d5877_5 (by decide) ?_
  refine nx_iadd hx hb dJx4a65c_grow_d5877_6 ?_
  rw [show R.length + 1 = cap + 1 by rw [hR]]
  have hp_p_ := gl_lt gp_
  have hp_q_ := gl_lt gq_
  refine CQ.go (va_runV (As := [.int (nI (cap + 1))]) (rest := []) ⟨hx, hb, hml, hown, hts⟩ (c_Jx4a65c_grow_92f84  gp_ gq_ hlen hR hHR hcb hel _) (cwV 1 hts gJx4a65c_grow_d5877_Jx4a65c_grow_92f84 rfl rfl rfl (by decide +kernel) ⟨Nat.le_of_ble_eq_true rfl, Nat.le_of_ble_eq_true rfl⟩) ⟨pwx_blind, va_recv hK hP (ci := 0) (q0 := p_) rfl gp_, fun U hU hW => pwx_pre hX hA hS hK hP hD hU hW⟩ rfl rfl hl.1 rfl (lv_room (Nat.le_of_ble_eq_true rfl)) dJx4a65c_grow_d5877_7 ⟨Nat.le_of_ble_eq_true rfl, Nat.le_of_ble_eq_true rfl⟩) hD hS hA (fun r_1 ws_2 H locs hp hP hD hS => ?_)
  obtain ⟨q2, rfl, hel, hl9, sm_3, gp_, gL0⟩ := hp
  have gq_ := sm_3.get gq_ (by intro h9; first | (simp at h9; done) | ((try simp only at h9); omega))
  have sm := sm.calln sm_3 (by intro k hk; first | exact False.elim hk | ((try simp only at hk ⊢); omega))
  have gp_ : ws_2[p_]? = some (a_, .inr (0, [.int mc, .ref q2, .int (nI (R.length))])) := gp_
  have gL0 : ws_2[L0]? = some (q2, .inl (cO, cap + max 1 (cap / 2), .inr (.inr (.inr (.inr (va_cpy f (fun _ => none) 0 0 cap)))))) := gL0
  have hlen : ws_2.length = L0 + 1 := hl9
  refine W.widen (k := 1) (n := 49) (Nat.le_of_ble_eq_true rfl) (Nat.le_of_ble_eq_true rfl) ?_
  exact CQ.ret (v := some q2) C hK hP hD hS (Or.inr ⟨_, rfl⟩) (⟨_, rfl, hel, hlen, sm, gp_, gL0⟩) (by decide) (by decide) dJx4a65c_grow_d5877_10
set_option maxHeartbeats 4000000 in
set_option maxRecDepth 100000 in
theorem c_Jx4a65c_growd0 {D : va_G} {cB cI cJ cO : ClassId} {l : Launch} {ad mi : Nat} {p_ a_ : Nat} {mc : Int32} {R : List Nat} {L0 : Nat} {ws : va_W} (gp_ : ws[p_]? = some (a_, .inr (0, [.int mc, .ref ad, .int (nI 0)]))) (hlen : ws.length = L0) (hel : DIn ws R) : CQX D (TY cB cI cJ cO) l yJx4a65c_grow_d5877 wsJx4a65c_grow_d5877 ({ frames := 4, cells := 1, slots := 49, locals := 107 }) ad mi [.ref a_] ws (fun r ws' => ∃ q2 : Nat, r = some (q2) ∧ (DIn ws' R) ∧ (ws'.length = L0 + 1) ∧ Sm (fun k => k = p_) ws ws' ∧ ws'[p_]? = some (a_, .inr (0, [.int mc, .ref q2, .int (nI 0)])) ∧ ws'[L0]? = some (q2, .inl (cO, 10, .inr (.inr (.inr (.inr (fun _ => none))))))) := by
  refine CQX.of (cc := cJx4a65c_grow_d5877) (maxL := 1) (ret := (some (.array (.object "java/lang/Object")))) (by decide) rfl (Nat.le_of_ble_eq_true rfl) ?_
  intro p e s m below meth c A C hK hP hD hA hS hX ls hl
  have hN := hX.1
  obtain ⟨hx, hb, hr, hml, hts, hown, hlocks, hnm⟩ := id C
  have fl_48 := hts (.fieldLink RJx4a65c 48 "java/util/ArrayList" "size" "I") (by decide +kernel)
  have hin_Jx4a65c : ∀ w ∈ u_ws RJx4a65c TJx4a65c 3, w ∈ wsJx4a65c_grow_d5877 := by decide +kernel
  have hl : lv_has ls 1 [(0, .ref a_)] := hl
  have sm : Sm (fun k => k = p_) ws ws := Sm.rf
  have hc0 : (0 : Nat) ≤ 1 := by decide
  have hs0 : (0 : Nat) ≤ 49 := by decide
  refine lv_aload_n hx hb dJx4a65c_grow_d5877_0 rfl (lv_at hl 0 rfl) ?_
  refine lv_aload_n hx hb dJx4a65c_grow_d5877_1 rfl (lv_at hl 0 rfl) ?_
  refine va_get (D := D) (ci := 0) (v := .int (nI 0)) (C := RJx4a65c) (T := TJx4a65c) (N := 3) hx hb hts hin_Jx4a65c hown hK hP p_ gp_ rfl 2 (by decide) fl_48 (fun _ h9 => h9) rfl dJx4a65c_grow_d5877_2 ?_
  refine lv_iconst (v := nI 1) hx hb dJx4a65c_grow_d5877_5 (by decide) ?_
  refine nx_iadd hx hb dJx4a65c_grow_d5877_6 ?_
  rw [show (0 + 1 : Nat) = 1 from rfl]
  have hp_p_ := gl_lt gp_
  refine CQ.go (va_runV (As := [.int (nI 1)]) (rest := []) ⟨hx, hb, hml, hown, hts⟩ (c_Jx4a65c_grow0  gp_ hlen hel _) (cwV 1 hts gJx4a65c_grow_d5877_Jx4a65c_grow_92f84 rfl rfl rfl (by decide +kernel) ⟨Nat.le_of_ble_eq_true rfl, Nat.le_of_ble_eq_true rfl⟩) ⟨pwx_blind, va_recv hK hP (ci := 0) (q0 := p_) rfl gp_, fun U hU hW => pwx_pre hX hA hS hK hP hD hU hW⟩ rfl rfl hl.1 rfl (lv_room (Nat.le_of_ble_eq_true rfl)) dJx4a65c_grow_d5877_7 ⟨Nat.le_of_ble_eq_true rfl, Nat.le_of_ble_eq_true rfl⟩) hD hS hA (fun r_1 ws_2 H locs hp hP hD hS => ?_)
  obtain ⟨q2, rfl, hel, hl9, sm_3, gp_, gL0⟩ := hp
  have sm := sm.calln sm_3 (by intro k hk; first | exact False.elim hk | ((try simp only at hk ⊢); omega))
  have gp_ : ws_2[p_]? = some (a_, .inr (0, [.int mc, .ref q2, .int (nI 0)])) := gp_
  have gL0 : ws_2[L0]? = some (q2, .inl (cO, 10, .inr (.inr (.inr (.inr (fun _ => none)))))) := gL0
  have hlen : ws_2.length = L0 + 1 := hl9
  refine W.widen (k := 1) (n := 49) (Nat.le_of_ble_eq_true rfl) (Nat.le_of_ble_eq_true rfl) ?_
  exact CQ.ret (v := some q2) C hK hP hD hS (Or.inr ⟨_, rfl⟩) (⟨_, rfl, hel, hlen, sm, gp_, gL0⟩) (by decide) (by decide) dJx4a65c_grow_d5877_10
