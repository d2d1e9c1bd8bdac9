set_option maxHeartbeats 8000000 in
set_option maxRecDepth 100000 in
theorem lk_signature {p : Program} {l : Launch} {e : Env} {s : State} {m : MethodId} {below : List Frame} {meth : Method} {c : Code} {b L : Nat} {xs : Nat → Int32} {D : va_G} {cB cI cJ cO : ClassId} {ad mi z0 m0 o0 i cells slots : Nat} {ws : va_W} {H : Heap} {locs : List Loc} {ls : Array Slot} (C : LC p l s m meth c b L xs D cB cI cJ cO ad mi) (hL : L ≤ 3072) (hi : i + 6 ≤ L) (hc : cells + 50 ≤ 601024) (hs : slots + 2400 ≤ 7293034) (hG : LGo p l e s m below meth c b D cB cI cJ cO ad z0 m0 o0 i (cells + 50) (slots + 2400)) (hI : LwI cB cI cJ cO ad z0 m0 o0 ws) (hP : va_P D vwCl ws H) (hD : va_D (fun q : Nat => s.heap.size ≤ q) ws) (hS : va_S (fun q : Nat => s.heap.size ≤ q) s.heap H locs) (hl : lv_has ls 7 [(0, .ref b), (1, .ref z0), (2, .ref m0), (3, .ref o0), (4, .int (nI i))]) : W p l e room_1 s m #[Value.ref b] below meth c H locs cells slots (lw_Z below #[Value.ref b] s) (F0 m 718 ls []) := by
  obtain ⟨hx, hb, hr, hml, hown, hts, hX, hbl, hlocks, hlt, hK, hXT⟩ := id C
  have hA : ∀ q : Nat, s.heap.size ≤ q → (fun q : Nat => s.heap.size ≤ q) q := fun _ h => h
  have hbA : ¬ (fun q : Nat => s.heap.size ≤ q) b := Nat.not_le.mpr hbl
  obtain ⟨T, sh, so, wi, ta, tb, E, docs, ca, bb, rr, pp, qq, hO, hC, ⟨th, hM⟩, vv, g50⟩ := id hI
  obtain ⟨a1, t0, d0, s0, e0, k0, al, s1, s2, s3, eh, es, er, nd, dd, HS, SS, RS, g0, -⟩ := id hC
  refine lv_aload_n hx hb dL_law_718 rfl (lv_at hl 1 rfl) ?_
  refine lw_arg hx hb hX hbl hbA hS (lv_at hl 0 rfl) (lv_at hl 4 rfl) 1 (by omega) (by omega) (by decide) dL_law_719 dL_law_720 dL_law_722 dL_law_723 dL_law_724 ?_
  refine lw_arg hx hb hX hbl hbA hS (lv_at hl 0 rfl) (lv_at hl 4 rfl) 2 (by omega) (by omega) (by decide) dL_law_725 dL_law_726 dL_law_728 dL_law_729 dL_law_730 ?_
  refine lv_aload_n hx hb dL_law_731 rfl (lv_at hl 3 rfl) ?_
  refine CIT.go (vx_runSX (As := [.ref z0, .int (xs (i + 1)), .int (xs (i + 2)), .ref o0]) (rest := []) ⟨hx, hb, hml, hown, hts⟩ (r_signature (mi := mi) hlt hO hC g50 _) (vx_cwSW 4 hts gL_law_L_signatureN rfl rfl rfl (by decide +kernel) ⟨Nat.le_of_ble_eq_true rfl, Nat.le_of_ble_eq_true rfl⟩) ⟨pwt_blind, fun U hU hW => pwt_pre hXT hA hS hK hP hD hU hW⟩ rfl rfl hl.1 rfl (lv_room (Nat.le_of_ble_eq_true rfl)) dL_law_732 ⟨by show cells + 2 ≤ 601024; omega, by show slots + 12 ≤ 7293034; omega⟩) hD hS hA (fun E ce q9 u H1 locs1 hp => hp.elim) (fun r ws1 H1 locs1 hp hP hD hS => ?_)
  obtain ⟨rfl, hO1, hC1, sm1, v2, n50, hv2⟩ := hp
  have hM1 := hM.fr sm1 (fun k h9 => by have h8 : k ≤ 32 ∨ 50 ≤ k := h9; omega)
  obtain ⟨b1, b2, b5, b6, b7, b12, b14, b15, b16, b20, b21, b22, b23, b24, b26, b31, ps, fm, sta, f, fp, lf, ff, zf, fr, gn, gm, gs, gw, go, gt, gl, fa, g33, -⟩ := id hM1
  refine lv_istore (lv' := [(5, .int (nI ((!(sgOk docs (xs (i + 1)) (xs (i + 2)))).toNat))), (0, .ref b), (1, .ref z0), (2, .ref m0), (3, .ref o0), (4, .int (nI i))]) hx hb dL_law_735 hl (by decide) rfl (fun ls hl => ?_)
  refine lv_aload_n hx hb dL_law_737 rfl (lv_at hl 3 rfl) ?_
  refine lw_arg hx hb hX hbl hbA hS (lv_at hl 1 rfl) (lv_at hl 5 rfl) 1 (by omega) (by omega) (by decide) dL_law_738 dL_law_739 dL_law_741 dL_law_742 dL_law_743 ?_
  refine lw_arg hx hb hX hbl hbA hS (lv_at hl 1 rfl) (lv_at hl 5 rfl) 2 (by omega) (by omega) (by decide) dL_law_744 dL_law_745 dL_law_747 dL_law_748 dL_law_749 ?_
  refine CI.go (va_runV (As := [.int (xs (i + 1)), .int (xs (i + 2))]) (rest := []) ⟨hx, hb, hml, hown, hts⟩ (p_signature hO hM1 _) (cwV 2 hts gL_law_X9_signature rfl rfl rfl (by decide +kernel) ⟨Nat.le_of_ble_eq_true rfl, Nat.le_of_ble_eq_true rfl⟩) ⟨pw_blind, va_recv hK hP (ci := 10) (q0 := 33) rfl g33, fun U hU hW => pw_pre hK hP hD hU hW⟩ rfl rfl hl.1 rfl (lv_room (Nat.le_of_ble_eq_true rfl)) dL_law_750 ⟨by show cells + 2 + 0 ≤ 601024; omega, by show slots + 12 + 0 ≤ 7293034; omega⟩) hD hS hA (fun r ws2 H2 locs2 hp hP hD hS => ?_)
  obtain ⟨rfl, hM2, sm2⟩ := hp
  have hC2 := hC1.fr sm2 (fun k h9 => by have h8 : 33 ≤ k ∧ k ≤ 49 := h9; omega)
  have n50 := sm2.get n50 (fun h9 => by have h8 : 33 ≤ 50 ∧ 50 ≤ 49 := h9; omega)
  refine lv_istore (lv' := [(6, .int ((bif (sgOk docs (xs (i + 1)) (xs (i + 2))) then nI (sgOf ta tb E (dset docs (slotOf (docs.map (fun d => d.1)) (xs (i + 1)))) (xs (i + 2)).toNatClampNeg) else 0))), (5, .int (nI ((!(sgOk docs (xs (i + 1)) (xs (i + 2)))).toNat))), (0, .ref b), (1, .ref z0), (2, .ref m0), (3, .ref o0), (4, .int (nI i))]) hx hb dL_law_753 hl (by decide) rfl (fun ls hl => ?_)
  refine lv_aload_n hx hb dL_law_755 rfl (lv_at hl 4 rfl) ?_
  obtain ⟨b1, b2, b5, b6, b7, b12, b14, b15, b16, b20, b21, b22, b23, b24, b26, b31, ps, fm, sta, f, fp, lf, ff, zf, fr, gn, gm, gs, gw, go, gt, gl, fa, g33, -⟩ := id hM2
  refine CI.go (va_runV (As := []) (rest := []) ⟨hx, hb, hml, hown, hts⟩ (p_thrown hM2 _) (cwV 0 hts gL_law_X9_thrown rfl rfl rfl (by decide +kernel) ⟨Nat.le_of_ble_eq_true rfl, Nat.le_of_ble_eq_true rfl⟩) ⟨pw_blind, va_recv hK hP (ci := 10) (q0 := 33) rfl g33, fun U hU hW => pw_pre hK hP hD hU hW⟩ rfl rfl hl.1 rfl (lv_room (Nat.le_of_ble_eq_true rfl)) dL_law_756 ⟨by show cells + 2 + 0 + 0 ≤ 601024; omega, by show slots + 12 + 0 + 0 ≤ 7293034; omega⟩) hD hS hA (fun r ws3 H3 locs3 hp hP hD hS => ?_)
  obtain ⟨rfl, rfl⟩ := hp
  refine lv_iload hx hb dL_law_759 (lv_at hl 1 rfl) ?_
  refine lv_icmp_eq (tgt := 766) hx hb dL_law_761 (by decide) (fun _ => ?_) (fun h9 => absurd rfl h9)
  have hfin : W p l e room_1 s m #[Value.ref b] below meth c H3 locs3 (cells + 2 + 0 + 0) (slots + 12 + 0 + 0) (lw_Z below #[Value.ref b] s) (F0 m 783 ls []) := by
    refine lv_goto (tgt := 1033) hx hb dL_law_783 (by decide) ?_
    refine W.widen (k := cells + 50) (n := slots + 2400) (by omega) (by omega) ?_
    exact hG _ H3 locs3 ls ⟨_, _, _, _, _, _, _, _, _, _, _, _, _, hO1, hC2, ⟨_, hM2⟩, v2, n50⟩ hP hD hS (lv_sub hl [2, 3, 4, 5, 6] rfl)
  refine lv_iload hx hb dL_law_766 (lv_at hl 1 rfl) ?_
  refine nx_if_ne (tgt := 783) hx hb (bn2 _) dL_law_768 (by decide) (fun _ => hfin) (fun h9 => ?_)
  have hok : (sgOk docs (xs (i + 1)) (xs (i + 2))) = true := by
    cases h8 : (sgOk docs (xs (i + 1)) (xs (i + 2))) with
    | true => rfl
    | false => rw [h8] at h9; exact absurd h9 (by decide)
  refine lv_aload_n hx hb dL_law_771 rfl (lv_at hl 5 rfl) ?_
  refine lv_iconst (v := nI 0) hx hb dL_law_772 (by decide) ?_
  refine nx_lald hx hb hK hP 50 2 n50 rfl (k := 0) (by decide) (by decide) dL_law_773 ?_
  rw [hv2 hok]
  refine lv_iload hx hb dL_law_774 (lv_at hl 0 rfl) ?_
  refine lv_i2l hx hb dL_law_776 rfl ?_
  refine W.lcmp hx hb dL_law_777 ?_
  exact lv_if_eq (tgt := 783) hx hb dL_law_778 (by decide) (fun _ => hfin) (fun h9 => absurd ((lg_cmp_eq _ _).mpr rfl) h9)
set_option maxHeartbeats 8000000 in
set_option maxRecDepth 100000 in
theorem lk_both {p : Program} {l : Launch} {e : Env} {s : State} {m : MethodId} {below : List Frame} {meth : Method} {c : Code} {b L : Nat} {xs : Nat → Int32} {D : va_G} {cB cI cJ cO : ClassId} {ad mi z0 m0 o0 i cells slots : Nat} {ws : va_W} {H : Heap} {locs : List Loc} {ls : Array Slot} (C : LC p l s m meth c b L xs D cB cI cJ cO ad mi) (hL : L ≤ 3072) (hi : i + 6 ≤ L) (hc : cells + 50 ≤ 601024) (hs : slots + 2400 ≤ 7293034) (hG : LGo p l e s m below meth c b D cB cI cJ cO ad z0 m0 o0 i (cells + 50) (slots + 2400)) (hI : LwI cB cI cJ cO ad z0 m0 o0 ws) (hP : va_P D vwCl ws H) (hD : va_D (fun q : Nat => s.heap.size ≤ q) ws) (hS : va_S (fun q : Nat => s.heap.size ≤ q) s.heap H locs) (hl : lv_has ls 7 [(0, .ref b), (1, .ref z0), (2, .ref m0), (3, .ref o0), (4, .int (nI i))]) : W p l e room_1 s m #[Value.ref b] below meth c H locs cells slots (lw_Z below #[Value.ref b] s) (F0 m 786 ls []) := by
  obtain ⟨hx, hb, hr, hml, hown, hts, hX, hbl, hlocks, hlt, hK, hXT⟩ := id C
  have hA : ∀ q : Nat, s.heap.size ≤ q → (fun q : Nat => s.heap.size ≤ q) q := fun _ h => h
  have hbA : ¬ (fun q : Nat => s.heap.size ≤ q) b := Nat.not_le.mpr hbl
  obtain ⟨T, sh, so, wi, ta, tb, E, docs, ca, bb, rr, pp, qq, hO, hC, ⟨th, hM⟩, vv, g50⟩ := id hI
  obtain ⟨a1, t0, d0, s0, e0, k0, al, s1, s2, s3, eh, es, er, nd, dd, HS, SS, RS, g0, -⟩ := id hC
  refine lv_aload_n hx hb dL_law_786 rfl (lv_at hl 1 rfl) ?_
  refine lw_arg hx hb hX hbl hbA hS (lv_at hl 0 rfl) (lv_at hl 4 rfl) 1 (by omega) (by omega) (by decide) dL_law_787 dL_law_788 dL_law_790 dL_law_791 dL_law_792 ?_
  refine lw_arg hx hb hX hbl hbA hS (lv_at hl 0 rfl) (lv_at hl 4 rfl) 2 (by omega) (by omega) (by decide) dL_law_793 dL_law_794 dL_law_796 dL_law_797 dL_law_798 ?_
  refine lw_arg hx hb hX hbl hbA hS (lv_at hl 0 rfl) (lv_at hl 4 rfl) 3 (by omega) (by omega) (by decide) dL_law_799 dL_law_800 dL_law_802 dL_law_803 dL_law_804 ?_
  refine lv_aload_n hx hb dL_law_805 rfl (lv_at hl 3 rfl) ?_
  refine CIT.go (vx_runSX (As := [.ref z0, .int (xs (i + 1)), .int (xs (i + 2)), .int (xs (i + 3)), .ref o0]) (rest := []) ⟨hx, hb, hml, hown, hts⟩ (r_both (mi := mi) hlt hO hC g50 _) (vx_cwSW 5 hts gL_law_L_bothN rfl rfl rfl (by decide +kernel) ⟨Nat.le_of_ble_eq_true rfl, Nat.le_of_ble_eq_true rfl⟩) ⟨pwt_blind, fun U hU hW => pwt_pre hXT hA hS hK hP hD hU hW⟩ rfl rfl hl.1 rfl (lv_room (Nat.le_of_ble_eq_true rfl)) dL_law_806 ⟨by show cells + 3 ≤ 601024; omega, by show slots + 18 ≤ 7293034; omega⟩) hD hS hA (fun E ce q9 u H1 locs1 hp => hp.elim) (fun r ws1 H1 locs1 hp hP hD hS => ?_)
  obtain ⟨rfl, hO1, hC1, sm1, v2, n50, hv2⟩ := hp
  have hM1 := hM.fr sm1 (fun k h9 => by have h8 : k ≤ 32 ∨ 50 ≤ k := h9; omega)
  obtain ⟨b1, b2, b5, b6, b7, b12, b14, b15, b16, b20, b21, b22, b23, b24, b26, b31, ps, fm, sta, f, fp, lf, ff, zf, fr, gn, gm, gs, gw, go, gt, gl, fa, g33, -⟩ := id hM1
  refine lv_istore (lv' := [(5, .int (nI ((!(bothOk docs (xs (i + 1)) (xs (i + 2)) (xs (i + 3)))).toNat))), (0, .ref b), (1, .ref z0), (2, .ref m0), (3, .ref o0), (4, .int (nI i))]) hx hb dL_law_809 hl (by decide) rfl (fun ls hl => ?_)
  refine lv_aload_n hx hb dL_law_811 rfl (lv_at hl 3 rfl) ?_
  refine lw_arg hx hb hX hbl hbA hS (lv_at hl 1 rfl) (lv_at hl 5 rfl) 1 (by omega) (by omega) (by decide) dL_law_812 dL_law_813 dL_law_815 dL_law_816 dL_law_817 ?_
  refine lw_arg hx hb hX hbl hbA hS (lv_at hl 1 rfl) (lv_at hl 5 rfl) 2 (by omega) (by omega) (by decide) dL_law_818 dL_law_819 dL_law_821 dL_law_822 dL_law_823 ?_
  refine lw_arg hx hb hX hbl hbA hS (lv_at hl 1 rfl) (lv_at hl 5 rfl) 3 (by omega) (by omega) (by decide) dL_law_824 dL_law_825 dL_law_827 dL_law_828 dL_law_829 ?_
  refine CI.go (va_runV (As := [.int (xs (i + 1)), .int (xs (i + 2)), .int (xs (i + 3))]) (rest := []) ⟨hx, hb, hml, hown, hts⟩ (p_both hO hM1 _) (cwV 3 hts gL_law_X9_both rfl rfl rfl (by decide +kernel) ⟨Nat.le_of_ble_eq_true rfl, Nat.le_of_ble_eq_true rfl⟩) ⟨pw_blind, va_recv hK hP (ci := 10) (q0 := 33) rfl g33, fun U hU hW => pw_pre hK hP hD hU hW⟩ rfl rfl hl.1 rfl (lv_room (Nat.le_of_ble_eq_true rfl)) dL_law_830 ⟨by show cells + 3 + 0 ≤ 601024; omega, by show slots + 18 + 0 ≤ 7293034; omega⟩) hD hS hA (fun r ws2 H2 locs2 hp hP hD hS => ?_)
  obtain ⟨rfl, hM2, sm2⟩ := hp
  have hC2 := hC1.fr sm2 (fun k h9 => by have h8 : 33 ≤ k ∧ k ≤ 49 := h9; omega)
  have n50 := sm2.get n50 (fun h9 => by have h8 : 33 ≤ 50 ∧ 50 ≤ 49 := h9; omega)
  refine lv_istore (lv' := [(6, .int ((bothR ta tb E docs rr bb pp qq (xs (i + 1)) (xs (i + 2)) (xs (i + 3))))), (5, .int (nI ((!(bothOk docs (xs (i + 1)) (xs (i + 2)) (xs (i + 3)))).toNat))), (0, .ref b), (1, .ref z0), (2, .ref m0), (3, .ref o0), (4, .int (nI i))]) hx hb dL_law_833 hl (by decide) rfl (fun ls hl => ?_)
  refine lv_aload_n hx hb dL_law_835 rfl (lv_at hl 4 rfl) ?_
  obtain ⟨b1, b2, b5, b6, b7, b12, b14, b15, b16, b20, b21, b22, b23, b24, b26, b31, ps, fm, sta, f, fp, lf, ff, zf, fr, gn, gm, gs, gw, go, gt, gl, fa, g33, -⟩ := id hM2
  refine CI.go (va_runV (As := []) (rest := []) ⟨hx, hb, hml, hown, hts⟩ (p_thrown hM2 _) (cwV 0 hts gL_law_X9_thrown rfl rfl rfl (by decide +kernel) ⟨Nat.le_of_ble_eq_true rfl, Nat.le_of_ble_eq_true rfl⟩) ⟨pw_blind, va_recv hK hP (ci := 10) (q0 := 33) rfl g33, fun U hU hW => pw_pre hK hP hD hU hW⟩ rfl rfl hl.1 rfl (lv_room (Nat.le_of_ble_eq_true rfl)) dL_law_836 ⟨by show cells + 3 + 0 + 0 ≤ 601024; omega, by show slots + 18 + 0 + 0 ≤ 7293034; omega⟩) hD hS hA (fun r ws3 H3 locs3 hp hP hD hS => ?_)
  obtain ⟨rfl, rfl⟩ := hp
  refine lv_iload hx hb dL_law_839 (lv_at hl 1 rfl) ?_
  refine lv_icmp_eq (tgt := 846) hx hb dL_law_841 (by decide) (fun _ => ?_) (fun h9 => absurd rfl h9)
  have hfin : W p l e room_1 s m #[Value.ref b] below meth c H3 locs3 (cells + 3 + 0 + 0) (slots + 18 + 0 + 0) (lw_Z below #[Value.ref b] s) (F0 m 863 ls []) := by
    refine lv_goto (tgt := 1033) hx hb dL_law_863 (by decide) ?_
    refine W.widen (k := cells + 50) (n := slots + 2400) (by omega) (by omega) ?_
    exact hG _ H3 locs3 ls ⟨_, _, _, _, _, _, _, _, _, _, _, _, _, hO1, hC2, ⟨_, hM2⟩, v2, n50⟩ hP hD hS (lv_sub hl [2, 3, 4, 5, 6] rfl)
  refine lv_iload hx hb dL_law_846 (lv_at hl 1 rfl) ?_
  refine nx_if_ne (tgt := 863) hx hb (bn2 _) dL_law_848 (by decide) (fun _ => hfin) (fun h9 => ?_)
  have hok : (bothOk docs (xs (i + 1)) (xs (i + 2)) (xs (i + 3))) = true := by
    cases h8 : (bothOk docs (xs (i + 1)) (xs (i + 2)) (xs (i + 3))) with
    | true => rfl
    | false => rw [h8] at h9; exact absurd h9 (by decide)
  refine lv_aload_n hx hb dL_law_851 rfl (lv_at hl 5 rfl) ?_
  refine lv_iconst (v := nI 0) hx hb dL_law_852 (by decide) ?_
  refine nx_lald hx hb hK hP 50 2 n50 rfl (k := 0) (by decide) (by decide) dL_law_853 ?_
  rw [hv2 hok]
  refine lv_iload hx hb dL_law_854 (lv_at hl 0 rfl) ?_
  refine lv_i2l hx hb dL_law_856 rfl ?_
  refine W.lcmp hx hb dL_law_857 ?_
  exact lv_if_eq (tgt := 863) hx hb dL_law_858 (by decide) (fun _ => hfin) (fun h9 => absurd ((lg_cmp_eq _ _).mpr rfl) h9)
set_option maxHeartbeats 8000000 in
set_option maxRecDepth 100000 in
theorem lk_nearest {p : Program} {l : Launch} {e : Env} {s : State} {m : MethodId} {below : List Frame} {meth : Method} {c : Code} {b L : Nat} {xs : Nat → Int32} {D : va_G} {cB cI cJ cO : ClassId} {ad mi z0 m0 o0 i cells slots : Nat} {ws : va_W} {H : Heap} {locs : List Loc} {ls : Array Slot} (C : LC p l s m meth c b L xs D cB cI cJ cO ad mi) (hL : L ≤ 3072) (hi : i + 6 ≤ L) (hc : cells + 50 ≤ 601024) (hs : slots + 2400 ≤ 7293034) (hG : LGo p l e s m below meth c b D cB cI cJ cO ad z0 m0 o0 i (cells + 50) (slots + 2400)) (hI : LwI cB cI cJ cO ad z0 m0 o0 ws) (hP : va_P D vwCl ws H) (hD : va_D (fun q : Nat => s.heap.size ≤ q) ws) (hS : va_S (fun q : Nat => s.heap.size ≤ q) s.heap H locs) (hl : lv_has ls 7 [(0, .ref b), (1, .ref z0), (2, .ref m0), (3, .ref o0), (4, .int (nI i))]) : W p l e room_1 s m #[Value.ref b] below meth c H locs cells slots (lw_Z below #[Value.ref b] s) (F0 m 940 ls []) := by
  obtain ⟨hx, hb, hr, hml, hown, hts, hX, hbl, hlocks, hlt, hK, hXT⟩ := id C
  have hA : ∀ q : Nat, s.heap.size ≤ q → (fun q : Nat => s.heap.size ≤ q) q := fun _ h => h
  have hbA : ¬ (fun q : Nat => s.heap.size ≤ q) b := Nat.not_le.mpr hbl
  obtain ⟨T, sh, so, wi, ta, tb, E, docs, ca, bb, rr, pp, qq, hO, hC, ⟨th, hM⟩, vv, g50⟩ := id hI
  obtain ⟨a1, t0, d0, s0, e0, k0, al, s1, s2, s3, eh, es, er, nd, dd, HS, SS, RS, g0, -⟩ := id hC
  refine lv_aload_n hx hb dL_law_940 rfl (lv_at hl 1 rfl) ?_
  refine lw_arg hx hb hX hbl hbA hS (lv_at hl 0 rfl) (lv_at hl 4 rfl) 1 (by omega) (by omega) (by decide) dL_law_941 dL_law_942 dL_law_944 dL_law_945 dL_law_946 ?_
  refine lw_arg hx hb hX hbl hbA hS (lv_at hl 0 rfl) (lv_at hl 4 rfl) 2 (by omega) (by omega) (by decide) dL_law_947 dL_law_948 dL_law_950 dL_law_951 dL_law_952 ?_
  refine lv_aload_n hx hb dL_law_953 rfl (lv_at hl 3 rfl) ?_
  refine CIT.go (vx_runSX (As := [.ref z0, .int (xs (i + 1)), .int (xs (i + 2)), .ref o0]) (rest := []) ⟨hx, hb, hml, hown, hts⟩ (r_nearest (mi := mi) hlt hO hC g50 _) (vx_cwSW 4 hts gL_law_L_nearestN rfl rfl rfl (by decide +kernel) ⟨Nat.le_of_ble_eq_true rfl, Nat.le_of_ble_eq_true rfl⟩) ⟨pwt_blind, fun U hU hW => pwt_pre hXT hA hS hK hP hD hU hW⟩ rfl rfl hl.1 rfl (lv_room (Nat.le_of_ble_eq_true rfl)) dL_law_954 ⟨by show cells + 49 ≤ 601024; omega, by show slots + 2358 ≤ 7293034; omega⟩) hD hS hA (fun E ce q9 u H1 locs1 hp => hp.elim) (fun r ws1 H1 locs1 hp hP hD hS => ?_)
  obtain ⟨rfl, hO1, hC1, sm1, v2, n50, hv2⟩ := hp
  have hM1 := hM.fr sm1 (fun k h9 => by have h8 : k ≤ 32 ∨ 50 ≤ k := h9; omega)
  obtain ⟨b1, b2, b5, b6, b7, b12, b14, b15, b16, b20, b21, b22, b23, b24, b26, b31, ps, fm, sta, f, fp, lf, ff, zf, fr, gn, gm, gs, gw, go, gt, gl, fa, g33, -⟩ := id hM1
  refine lv_istore (lv' := [(5, .int (nI ((!(slotOf (docs.map (fun d => d.1)) (xs (i + 1))).isSome).toNat))), (0, .ref b), (1, .ref z0), (2, .ref m0), (3, .ref o0), (4, .int (nI i))]) hx hb dL_law_957 hl (by decide) rfl (fun ls hl => ?_)
  refine lv_aload_n hx hb dL_law_959 rfl (lv_at hl 3 rfl) ?_
  refine lw_arg hx hb hX hbl hbA hS (lv_at hl 1 rfl) (lv_at hl 5 rfl) 1 (by omega) (by omega) (by decide) dL_law_960 dL_law_961 dL_law_963 dL_law_964 dL_law_965 ?_
  refine lw_arg hx hb hX hbl hbA hS (lv_at hl 1 rfl) (lv_at hl 5 rfl) 2 (by omega) (by omega) (by decide) dL_law_966 dL_law_967 dL_law_969 dL_law_970 dL_law_971 ?_
  refine CI.go (va_runV (As := [.int (xs (i + 1)), .int (xs (i + 2))]) (rest := []) ⟨hx, hb, hml, hown, hts⟩ (p_nearest hO hM1 _) (cwV 2 hts gL_law_X9_nearest rfl rfl rfl (by decide +kernel) ⟨Nat.le_of_ble_eq_true rfl, Nat.le_of_ble_eq_true rfl⟩) ⟨pw_blind, va_recv hK hP (ci := 10) (q0 := 33) rfl g33, fun U hU hW => pw_pre hK hP hD hU hW⟩ rfl rfl hl.1 rfl (lv_room (Nat.le_of_ble_eq_true rfl)) dL_law_972 ⟨by show cells + 49 + 0 ≤ 601024; omega, by show slots + 2358 + 0 ≤ 7293034; omega⟩) hD hS hA (fun r ws2 H2 locs2 hp hP hD hS => ?_)
  obtain ⟨rfl, hM2, sm2⟩ := hp
  have hC2 := hC1.fr sm2 (fun k h9 => by have h8 : 33 ≤ k ∧ k ≤ 49 := h9; omega)
  have n50 := sm2.get n50 (fun h9 => by have h8 : 33 ≤ 50 ∧ 50 ≤ 49 := h9; omega)
  refine lv_istore (lv' := [(6, .int ((nearR docs (xs (i + 1)) (xs (i + 2))))), (5, .int (nI ((!(slotOf (docs.map (fun d => d.1)) (xs (i + 1))).isSome).toNat))), (0, .ref b), (1, .ref z0), (2, .ref m0), (3, .ref o0), (4, .int (nI i))]) hx hb dL_law_975 hl (by decide) rfl (fun ls hl => ?_)
  refine lv_aload_n hx hb dL_law_977 rfl (lv_at hl 4 rfl) ?_
  obtain ⟨b1, b2, b5, b6, b7, b12, b14, b15, b16, b20, b21, b22, b23, b24, b26, b31, ps, fm, sta, f, fp, lf, ff, zf, fr, gn, gm, gs, gw, go, gt, gl, fa, g33, -⟩ := id hM2
  refine CI.go (va_runV (As := []) (rest := []) ⟨hx, hb, hml, hown, hts⟩ (p_thrown hM2 _) (cwV 0 hts gL_law_X9_thrown rfl rfl rfl (by decide +kernel) ⟨Nat.le_of_ble_eq_true rfl, Nat.le_of_ble_eq_true rfl⟩) ⟨pw_blind, va_recv hK hP (ci := 10) (q0 := 33) rfl g33, fun U hU hW => pw_pre hK hP hD hU hW⟩ rfl rfl hl.1 rfl (lv_room (Nat.le_of_ble_eq_true rfl)) dL_law_978 ⟨by show cells + 49 + 0 + 0 ≤ 601024; omega, by show slots + 2358 + 0 + 0 ≤ 7293034; omega⟩) hD hS hA (fun r ws3 H3 locs3 hp hP hD hS => ?_)
  obtain ⟨rfl, rfl⟩ := hp
  refine lv_iload hx hb dL_law_981 (lv_at hl 1 rfl) ?_
  refine lv_icmp_eq (tgt := 988) hx hb dL_law_983 (by decide) (fun _ => ?_) (fun h9 => absurd rfl h9)
  have hfin : W p l e room_1 s m #[Value.ref b] below meth c H3 locs3 (cells + 49 + 0 + 0) (slots + 2358 + 0 + 0) (lw_Z below #[Value.ref b] s) (F0 m 1005 ls []) := by
    refine lv_goto (tgt := 1033) hx hb dL_law_1005 (by decide) ?_
    refine W.widen (k := cells + 50) (n := slots + 2400) (by omega) (by omega) ?_
    exact hG _ H3 locs3 ls ⟨_, _, _, _, _, _, _, _, _, _, _, _, _, hO1, hC2, ⟨_, hM2⟩, v2, n50⟩ hP hD hS (lv_sub hl [2, 3, 4, 5, 6] rfl)
  refine lv_iload hx hb dL_law_988 (lv_at hl 1 rfl) ?_
  refine nx_if_ne (tgt := 1005) hx hb (bn2 _) dL_law_990 (by decide) (fun _ => hfin) (fun h9 => ?_)
  have hok : (slotOf (docs.map (fun d => d.1)) (xs (i + 1))).isSome = true := by
    cases h8 : (slotOf (docs.map (fun d => d.1)) (xs (i + 1))).isSome with
    | true => rfl
    | false => rw [h8] at h9; exact absurd h9 (by decide)
  refine lv_aload_n hx hb dL_law_993 rfl (lv_at hl 5 rfl) ?_
  refine lv_iconst (v := nI 0) hx hb dL_law_994 (by decide) ?_
  refine nx_lald hx hb hK hP 50 2 n50 rfl (k := 0) (by decide) (by decide) dL_law_995 ?_
  rw [hv2 hok]
  refine lv_iload hx hb dL_law_996 (lv_at hl 0 rfl) ?_
  refine lv_i2l hx hb dL_law_998 rfl ?_
  refine W.lcmp hx hb dL_law_999 ?_
  exact lv_if_eq (tgt := 1005) hx hb dL_law_1000 (by decide) (fun _ => hfin) (fun h9 => absurd ((lg_cmp_eq _ _).mpr rfl) h9)
