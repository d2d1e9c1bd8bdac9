set_option maxHeartbeats 4000000 in
set_option maxRecDepth 100000 in
theorem c_J8_newLength_cabcc {D : va_G} {cB cI cJ cO : ClassId} {l : Launch} {o_ p1 p2 : Nat} {ws : va_W}  (hb1 : o_ ≤ 100000) (hb2 : p1 ≤ 100000) (hb3 : p2 ≤ 100000) (hpos : 0 < o_ + max p1 p2) : CI D (TY cB cI cJ cO) l yJ8_newLength_cabcc wsJ8_newLength_cabcc ({ frames := 1, cells := 0, slots := 0, locals := 22 }) [.int (nI o_), .int (nI p1), .int (nI p2)] ws (fun r ws' => r = nI (o_ + max p1 p2) ∧ ws = ws') := by
  refine CI.of (cc := cJ8_newLength_cabcc) (maxL := 4) (ret := (some .int)) (by decide) rfl (Nat.le_of_ble_eq_true rfl) ?_
  intro p e s m below meth c A C hK hP hD hA hS ls hl
  obtain ⟨hx, hb, hr, hml, hts, hown, hlocks, hnm⟩ := id C
  have hl : lv_has ls 4 [(0, .int (nI o_)), (1, .int (nI p1)), (2, .int (nI p2))] := hl
  have sm : Sm (fun _ => False) ws ws := Sm.rf
  have hc0 : (0 : Nat) ≤ 0 := by decide
  have hs0 : (0 : Nat) ≤ 0 := by decide
  refine lv_iload_n hx hb dJ8_newLength_cabcc_0 rfl (lv_at hl 0 rfl) ?_
  refine lv_iload_n hx hb dJ8_newLength_cabcc_1 rfl (lv_at hl 1 rfl) ?_
  refine lv_iload_n hx hb dJ8_newLength_cabcc_2 rfl (lv_at hl 2 rfl) ?_
  refine va_mmax hx hb (hml.trans hl.1.symm) hown (hts (.methodLink RJ8 194 Lib.Math.max.name) (by decide +kernel)) (hts (.static Lib.Math.max.name) (by decide +kernel)) (hts (.initialized "java/lang/Math") (by decide +kernel)) (hts (.code Lib.Math.max.name Lib.Math.max.code 2 (some .int)) (by decide +kernel)) (Nat.le_of_ble_eq_true rfl) (Nat.le_of_ble_eq_true rfl) (Nat.le_of_ble_eq_true rfl) (Nat.le_of_ble_eq_true rfl) dJ8_newLength_cabcc_3 ?_
  rw [nI_max (by omega) (by omega)]
  refine nx_iadd hx hb dJ8_newLength_cabcc_6 ?_
  refine lv_istore_n (lv' := [(3, .int (nI (o_ + (max p1 p2)))), (0, .int (nI o_)), (1, .int (nI p1)), (2, .int (nI p2))]) hx hb dJ8_newLength_cabcc_7 rfl hl (by decide) rfl (fun ls hl => ?_)
  refine lv_iconst (v := nI 0) hx hb dJ8_newLength_cabcc_8 (by decide) ?_
  refine lv_iload_n hx hb dJ8_newLength_cabcc_9 rfl (lv_at hl 0 rfl) ?_
  refine nx_icmp_ge (tgt := 21) hx hb (by omega) (by omega) dJ8_newLength_cabcc_10 (by decide) (fun c_10 => ?_) (fun c_10 => ?_)
  · omega
  · refine lv_iload_n hx hb dJ8_newLength_cabcc_13 rfl (lv_at hl 0 rfl) ?_
    refine lv_ldc (v := nI 2147483639) hx hb hown (hts (.constant RJ8 200 2147483639) (by decide +kernel)) dJ8_newLength_cabcc_14 ?_
    refine nx_icmp_gt (tgt := 21) hx hb (by omega) (by omega) dJ8_newLength_cabcc_16 (by decide) (fun c_16 => ?_) (fun c_16 => ?_)
    · omega
    · refine lv_iload_n hx hb dJ8_newLength_cabcc_19 rfl (lv_at hl 0 rfl) ?_
      exact CI.ret (v := (nI (o_ + (max p1 p2)))) C hK hP hD hS rfl (⟨rfl, rfl⟩) hc0 hs0 dJ8_newLength_cabcc_20
set_option maxHeartbeats 4000000 in
set_option maxRecDepth 100000 in
theorem c_J7_copyOf_6403c {D : va_G} {cB cI cJ cO : ClassId} {l : Launch} {ad mi : Nat} {q_ e_ cap nl L0 : Nat} {f : Nat → Option Nat} {R : List Nat} {ws : va_W} (gq_ : ws[q_]? = some (e_, .inl (cO, cap, .inr (.inr (.inr (.inr f)))))) (hlen : ws.length = L0) (hR : R.length = cap) (hHR : HdR f R) (hcb : cap ≤ 33) (hnl : cap ≤ nl ∧ nl ≤ 49) (hel : DIn ws R) : CQX D (TY cB cI cJ cO) l yJ7_copyOf_6403c wsJ7_copyOf_6403c ({ frames := 1, cells := 1, slots := 49, locals := 40 }) ad mi [.ref e_, .int (nI nl), .ref mi] ws (fun r ws' => ∃ q2 : Nat, r = some (q2) ∧ (DIn ws' R) ∧ (ws'.length = L0 + 1) ∧ Sm (fun k => False) ws ws' ∧ ws'[L0]? = some (q2, .inl (cO, nl, .inr (.inr (.inr (.inr (va_cpy f (fun _ => none) 0 0 cap))))))) := by
  refine CQX.of (cc := cJ7_copyOf_6403c) (maxL := 4) (ret := (some (.array (.object "java/lang/Object")))) (by decide) rfl (Nat.le_of_ble_eq_true rfl) ?_
  intro p e s m below meth c A C hK hP hD hA hS hX ls hl
  have hN := hX.1
  obtain ⟨hx, hb, hr, hml, hts, hown, hlocks, hnm⟩ := id C
  have hl : lv_has ls 4 [(0, .ref e_), (1, .int (nI nl)), (2, .ref mi)] := hl
  have sm : Sm (fun k => False) ws ws := Sm.rf
  have hc0 : (0 : Nat) ≤ 1 := by decide
  have hs0 : (0 : Nat) ≤ 49 := by decide
  refine lv_aload_n hx hb dJ7_copyOf_6403c_0 rfl (lv_at hl 2 rfl) ?_
  refine va_ldcM hx hb hown (hts (.classLink RJ7 110 "[Ljava/lang/Object;") (by decide +kernel)) hX.2.2.2.2.1 dJ7_copyOf_6403c_1 ?_
  refine lv_acmp_ne (rx := some mi) (ry := some mi) (tgt := 13) hx hb dJ7_copyOf_6403c_3 (by decide) (fun c_3 => ?_) (fun c_3 => ?_)
  · exact absurd rfl c_3
  · refine lv_iload_n hx hb dJ7_copyOf_6403c_6 rfl (lv_at hl 1 rfl) ?_
    refine nx_newq hx hb hown (hts (.classLink RJ7 2 "java/lang/Object") (by decide +kernel)) hX hK hP hD hS hA (N' := nl) (by omega) (Nat.le_of_ble_eq_true rfl) (by show 0 + nl ≤ 49; omega) dJ7_copyOf_6403c_7 (fun q_1 ws_2 H gq ps_3 hP hD hS => ?_)
    rw [hlen] at gq
    have hp_q_ := gl_lt gq_
    have gq_ := ps_3.get gq_
    have hel : DIn ws_2 R := hel.ps ps_3
    have gL0 : ws_2[L0]? = some (q_1, .inl (cO, nl, .inr (.inr (.inr (.inr (fun _ => none)))))) := gq
    have hlen : ws_2.length = L0 + 1 := by have h9 := ps_3.1; omega
    have sm := sm.ps ps_3
    refine W.widen (k := 1) (n := 49) (by first | decide | omega) (by first | decide | omega) ?_
    refine lv_goto (tgt := 24) hx hb dJ7_copyOf_6403c_10 (by decide) ?_
    refine lv_astore_n (lv' := [(3, .ref q_1), (0, .ref e_), (1, .int (nI nl)), (2, .ref mi)]) hx hb dJ7_copyOf_6403c_24 rfl hl (by decide) rfl (fun ls hl => ?_)
    refine lv_aload_n hx hb dJ7_copyOf_6403c_25 rfl (lv_at hl 1 rfl) ?_
    refine lv_iconst (v := nI 0) hx hb dJ7_copyOf_6403c_26 (by decide) ?_
    refine lv_aload_n hx hb dJ7_copyOf_6403c_27 rfl (lv_at hl 0 rfl) ?_
    refine lv_iconst (v := nI 0) hx hb dJ7_copyOf_6403c_28 (by decide) ?_
    refine lv_aload_n hx hb dJ7_copyOf_6403c_29 rfl (lv_at hl 1 rfl) ?_
    refine va_alen (v := nI cap) hx hb hK hP q_ 3 gq_ rfl rfl dJ7_copyOf_6403c_30 ?_
    refine lv_iload_n hx hb dJ7_copyOf_6403c_31 rfl (lv_at hl 2 rfl) ?_
    refine va_mmin hx hb (hml.trans hl.1.symm) hown (hts (.methodLink RJ7 304 Lib.Math.min.name) (by decide +kernel)) (hts (.static Lib.Math.min.name) (by decide +kernel)) (hts (.initialized "java/lang/Math") (by decide +kernel)) (hts (.code Lib.Math.min.name Lib.Math.min.code 2 (some .int)) (by decide +kernel)) (Nat.le_of_ble_eq_true rfl) (Nat.le_of_ble_eq_true rfl) (Nat.le_of_ble_eq_true rfl) (Nat.le_of_ble_eq_true rfl) dJ7_copyOf_6403c_32 ?_
    rw [nI_min (by omega) (by omega)]
    rw [Nat.min_eq_left (show cap ≤ nl by omega)]
    refine nx_copy hx hb (hml.trans hl.1.symm) hown (hts (.methodLink RJ7 150 arraycopyName) (by decide +kernel)) (hts (.native arraycopyName) (by decide +kernel)) (hts (.static arraycopyName) (by decide +kernel)) (hts (.initialized "java/lang/System") (by decide +kernel)) hX hK hP hD hS q_ L0 gq_ gL0 (sp := 0) (dp := 0) (n := cap) ⟨by omega, by omega⟩ (by omega) (by omega) (hel.el hHR (by omega)) (Nat.le_of_ble_eq_true rfl) (Nat.le_of_ble_eq_true rfl) dJ7_copyOf_6403c_35 (fun ws_4 H locs gq up_5 hP hD hS => ?_)
    have go_L0 := gL0
    have gL0 : ws_4[L0]? = some (q_1, .inl (cO, nl, .inr (.inr (.inr (.inr (va_cpy f (fun _ => none) 0 0 cap)))))) := gq
    have gq_ := up_5.get gq_ (by omega)
    have hel : DIn ws_4 R := hel.up up_5 (fun y vs h9 => by rw [go_L0] at h9; cases h9)
    have hlen := up_5.1.trans hlen
    have sm := sm.upn up_5 (by omega)
    refine lv_aload_n hx hb dJ7_copyOf_6403c_38 rfl (lv_at hl 0 rfl) ?_
    exact CQ.ret (v := some q_1) C hK hP hD hS (Or.inr ⟨_, rfl⟩) (⟨_, rfl, hel, hlen, sm, gL0⟩) (by decide) (by decide) dJ7_copyOf_6403c_39
