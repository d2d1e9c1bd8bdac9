set_option maxHeartbeats 4000000 in
set_option maxRecDepth 100000 in
theorem c_X4_leastOf {D : va_G} {cB cI cJ cO : ClassId} {l : Launch} {d0 d1 d2 d3 d4 d5 mv kp : Nat} {ta tb cn mk mi : Nat → Nat} {K : List (Nat × Nat)} {E : List (Nat × Nat × Nat)} {px ax sx x1_ x2_ x3_ x4_ nx : Nat} {fn : Nat → Nat} {L : List Nat} {j : Nat} {ws : va_W} (g10 : ws[10]? = some (d0, .inr (5, [.ref d1, .ref d2, .ref d3, .ref d4, .ref d5, .int (nI mv), .int (nI kp)]))) (g11 : ws[11]? = some (d1, .inl (cI, 64, .inl (fun jj => nI (ta jj))))) (g12 : ws[12]? = some (d2, .inl (cI, 64, .inl (fun jj => nI (tb jj))))) (g13 : ws[13]? = some (d3, .inl (cI, 64, .inl (fun jj => nI (cn jj))))) (g14 : ws[14]? = some (d4, .inl (cI, 600, .inl (fun jj => nI (mk jj))))) (g15 : ws[15]? = some (d5, .inl (cI, 600, .inl (fun jj => nI (mi jj))))) (gpx : ws[px]? = some (ax, .inr (1, [.int (nI sx), .ref x1_, .ref x2_, .ref x3_, .ref x4_, .int (nI nx), .int (nI (L.length))]))) (gpx_2 : ws[px + 2]? = some (x2_, .inl (cI, 800, .inl (fun jj => nI (fn jj))))) (hHK : HdK mk mi K) (hKl : K.length = mv) (h600 : mv ≤ 600) (hPC : PermC ta tb cn K E) (hta : Tab ta tb) (hE3 : E.length ≤ 300) (hj : j < 64) (hfn : HdN fn L) (hL8 : L.length ≤ 800) (hL6 : ∀ x ∈ L, x < 6000) : CI D (TY cB cI cJ cO) l yX4_leastOf wsX4_leastOf ({ frames := 2, cells := 0, slots := 0, locals := 47 }) [.ref d0, .ref ax, .int (nI j)] ws (fun r ws' => r = nI (sgOf ta tb E L j) ∧ ws = ws') := by
  refine CI.of (cc := cX4_leastOf) (maxL := 5) (ret := (some .int)) (by decide) rfl (Nat.le_of_ble_eq_true rfl) ?_
  intro p e s m below meth c A C hK hP hD hA hS ls hl
  obtain ⟨hx, hb, hr, hml, hts, hown, hlocks, hnm⟩ := id C
  have fl_63 := hts (.fieldLink RX4 63 "TwinFinder$Document" "size" "I") (by decide +kernel)
  have fl_68 := hts (.fieldLink RX4 68 "TwinFinder$Document" "numbers" "[I") (by decide +kernel)
  have hin_X0 : ∀ w ∈ u_ws RX0 TX0 7, w ∈ wsX4_leastOf := by decide +kernel
  have hl : lv_has ls 5 [(0, .ref d0), (1, .ref ax), (2, .int (nI j))] := hl
  have sm : Sm (fun _ => False) ws ws := Sm.rf
  have hc0 : (0 : Nat) ≤ 0 := by decide
  have hs0 : (0 : Nat) ≤ 0 := by decide
  refine lv_ldc (v := nI 65521) hx hb hown (hts (.constant RX4 27 65521) (by decide +kernel)) dX4_leastOf_0 ?_
  refine lv_istore_n (lv' := [(3, .int (nI 65521)), (0, .ref d0), (1, .ref ax), (2, .int (nI j))]) hx hb dX4_leastOf_2 rfl hl (by decide) rfl (fun ls hl => ?_)
  refine lv_iconst (v := nI 0) hx hb dX4_leastOf_3 (by decide) ?_
  refine lv_istore (lv' := [(4, .int (nI 0)), (3, .int (nI 65521)), (0, .ref d0), (1, .ref ax), (2, .int (nI j))]) hx hb dX4_leastOf_4 hl (by decide) rfl (fun ls hl => ?_)
  have lp_6 : ∀ (fuel : Nat) (i v : Nat), L.length - i < fuel → (i ≤ L.length) → (v = sgOf ta tb E (L.take i) j) → (v ≤ 65521) → ∀ (H : Heap) (locs : List Loc) (ls : Array Slot),  va_P D vwCl ws H → va_D A ws → va_S A s.heap H locs → lv_has ls 5 [(0, .ref d0), (1, .ref ax), (2, .int (nI j)), (3, .int (nI v)), (4, .int (nI i))] → W p l e ({ frames := 2, cells := 0, slots := 0, locals := 47 }) s m ([.ref d0, .ref ax, .int (nI j)] : List Value).toArray below meth c H locs 0 0 (ZI D (TY cB cI cJ cO) (fun r ws' => r = nI (sgOf ta tb E L j) ∧ ws = ws') below [.ref d0, .ref ax, .int (nI j)] s 0 0 A) (F0 m 6 ls []) := by
    intro fuel
    induction fuel with
    | zero => intro i v hfu; exact absurd hfu (Nat.not_lt_zero _)
    | succ fuel ih_6 =>
      intro i v hfu_6 hi hv hv2 H locs ls hP hD hS hl
      refine lv_iload hx hb dX4_leastOf_6 (lv_at hl 4 rfl) ?_
      refine lv_aload_n hx hb dX4_leastOf_8 rfl (lv_at hl 1 rfl) ?_
      refine va_get (D := D) (ci := 1) (v := .int (nI (L.length))) (C := RX0) (T := TX0) (N := 7) hx hb hts hin_X0 hown hK hP px gpx rfl 6 (by decide) fl_63 (fun _ h9 => h9) rfl dX4_leastOf_9 ?_
      refine nx_icmp_ge (tgt := 38) hx hb (by omega) (by omega) dX4_leastOf_12 (by decide) (fun c_12 => ?_) (fun c_12 => ?_)
      · refine lv_iload_n hx hb dX4_leastOf_38 rfl (lv_at hl 3 rfl) ?_
        exact CI.ret (v := (nI v)) C hK hP hD hS rfl (⟨(by rw [hv, List.take_of_length_le (by omega)]), rfl⟩) hc0 hs0 dX4_leastOf_39
      · have hxi : fn i < 6000 := by rw [hfn.at (by omega)]; exact hL6 _ (List.getElem_mem _)
        have hRi : imR ta tb E (nI j) (nI (fn i)) = nI (imgOf ta tb E j (fn i)) := imR_at (by omega) (by omega)
        refine lv_iload_n hx hb dX4_leastOf_15 rfl (lv_at hl 3 rfl) ?_
        refine lv_aload_n hx hb dX4_leastOf_16 rfl (lv_at hl 0 rfl) ?_
        refine lv_iload_n hx hb dX4_leastOf_17 rfl (lv_at hl 2 rfl) ?_
        refine lv_aload_n hx hb dX4_leastOf_18 rfl (lv_at hl 1 rfl) ?_
        refine va_get (D := D) (ci := 1) (v := .ref x2_) (C := RX0) (T := TX0) (N := 7) hx hb hts hin_X0 hown hK hP px gpx rfl 2 (by decide) fl_68 (fun _ h9 => h9) rfl dX4_leastOf_19 ?_
        refine lv_iload hx hb dX4_leastOf_22 (lv_at hl 4 rfl) ?_
        refine nx_iald hx hb hK hP (px + 2) 1 gpx_2 rfl (k := i) (by omega) (by decide) dX4_leastOf_24 ?_
        refine CI.go (va_runV (As := [.int (nI j), .int (nI (fn i))]) (rest := [.int (nI v)]) ⟨hx, hb, hml, hown, hts⟩ (c_X4_imageOf  g10 g11 g12 g13 g14 g15 hHK hKl h600 hPC hta hE3 _) (cwV 2 hts gX4_leastOf_X4_imageOf rfl rfl rfl (by decide +kernel) ⟨Nat.le_of_ble_eq_true rfl, Nat.le_of_ble_eq_true rfl⟩) ⟨pw_blind, va_recv hK hP (ci := 5) (q0 := 10) rfl g10, fun U hU hW => pw_pre hK hP hD hU hW⟩ rfl rfl hl.1 rfl (lv_room (Nat.le_of_ble_eq_true rfl)) dX4_leastOf_25 ⟨Nat.le_of_ble_eq_true rfl, Nat.le_of_ble_eq_true rfl⟩) hD hS hA (fun r_1 ws_2 H locs hp hP hD hS => ?_)
        obtain ⟨rfl, rfl⟩ := hp
        rw [hRi]
        refine va_mmin hx hb (hml.trans hl.1.symm) hown (hts (.methodLink RX4 71 Lib.Math.min.name) (by decide +kernel)) (hts (.static Lib.Math.min.name) (by decide +kernel)) (hts (.initialized "java/lang/Math") (by decide +kernel)) (hts (.code Lib.Math.min.name Lib.Math.min.code 2 (some .int)) (by decide +kernel)) (Nat.le_of_ble_eq_true rfl) (Nat.le_of_ble_eq_true rfl) (Nat.le_of_ble_eq_true rfl) (Nat.le_of_ble_eq_true rfl) dX4_leastOf_28 ?_
        rw [nI_min (by omega) (by have := imgOf_lt (ta := ta) (tb := tb) (E := E) (j := j) (x := fn i); omega)]
        refine lv_istore_n (lv' := [(3, .int (nI (min v (imgOf ta tb E j (fn i))))), (0, .ref d0), (1, .ref ax), (2, .int (nI j)), (4, .int (nI i))]) hx hb dX4_leastOf_31 rfl hl (by decide) rfl (fun ls hl => ?_)
        refine lv_iinc (v := (nI (i + 1))) (lv' := [(4, .int (nI (i + 1))), (3, .int (nI (min v (imgOf ta tb E j (fn i))))), (0, .ref d0), (1, .ref ax), (2, .int (nI j))]) hx hb dX4_leastOf_32 hl (k := 4) rfl (nx_inc _ 1) (by decide) rfl (fun ls hl => ?_)
        refine lv_goto (tgt := 6) hx hb dX4_leastOf_35 (by decide) ?_
        exact ih_6 (i + 1) _ (by omega) (by omega) (by rw [sg_take (by omega), ← hv, hfn.at (by omega)]) (by have := imgOf_lt (ta := ta) (tb := tb) (E := E) (j := j) (x := fn i); omega) _ _ _  hP hD hS (lv_sub hl [2, 3, 4, 1, 0] rfl)
  exact lp_6 _ 0 65521 (Nat.lt_succ_self _) (Nat.zero_le _) rfl (Nat.le_refl _) _ _ _  hP hD hS (lv_sub hl [2, 3, 4, 1, 0] rfl)
