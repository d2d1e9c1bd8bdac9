set_option maxHeartbeats 4000000 in
set_option maxRecDepth 100000 in
theorem c_X4_placeFor {D : va_G} {cB cI cJ cO : ClassId} {l : Launch} {d0 d1 d2 d3 d4 d5 mv kp : Nat} {mk : Nat → Nat} {K : List (Nat × Nat)} {key cc_ : Nat} {ws : va_W} (g10 : ws[10]? = some (d0, .inr (5, [.ref d1, .ref d2, .ref d3, .ref d4, .ref d5, .int (nI mv), .int (nI kp)]))) (g14 : ws[14]? = some (d4, .inl (cI, 600, .inl (fun jj => nI (mk jj))))) (hK9 : ∀ i (hi : i < K.length), mk i = K[i].1) (hKl : K.length = mv) (h600 : mv ≤ 600) (hLB : LB K key cc_) (hky : key < 2 ^ 31) (hks : ∀ e ∈ K, e.1 < 2 ^ 31) : CI D (TY cB cI cJ cO) l yX4_placeFor wsX4_placeFor ({ frames := 0, cells := 0, slots := 0, locals := 0 }) [.ref d0, .int (nI key)] ws (fun r ws' => r = nI (cc_) ∧ ws = ws') := by
  refine CI.of (cc := cX4_placeFor) (maxL := 4) (ret := (some .int)) (by decide) rfl (Nat.le_of_ble_eq_true rfl) ?_
  intro p e s m below meth c A C hK hP hD hA hS ls hl
  obtain ⟨hx, hb, hr, hml, hts, hown, hlocks, hnm⟩ := id C
  have fl_21 := hts (.fieldLink RX4 21 "TwinFinder$Permutations" "movedKey" "[I") (by decide +kernel)
  have fl_58 := hts (.fieldLink RX4 58 "TwinFinder$Permutations" "moved" "I") (by decide +kernel)
  have hin_X4 : ∀ w ∈ u_ws RX4 TX4 7, w ∈ wsX4_placeFor := by decide +kernel
  have hl : lv_has ls 4 [(0, .ref d0), (1, .int (nI key))] := hl
  have sm : Sm (fun _ => False) ws ws := Sm.rf
  have hc0 : (0 : Nat) ≤ 0 := by decide
  have hs0 : (0 : Nat) ≤ 0 := by decide
  refine lv_iconst (v := nI 0) hx hb dX4_placeFor_0 (by decide) ?_
  refine lv_istore_n (lv' := [(2, .int (nI 0)), (0, .ref d0), (1, .int (nI key))]) hx hb dX4_placeFor_1 rfl hl (by decide) rfl (fun ls hl => ?_)
  refine lv_sipush (v := nI 512) hx hb dX4_placeFor_2 (by decide) ?_
  refine lv_istore_n (lv' := [(3, .int (nI 512)), (2, .int (nI 0)), (0, .ref d0), (1, .int (nI key))]) hx hb dX4_placeFor_5 rfl hl (by decide) rfl (fun ls hl => ?_)
  have lp_6 : ∀ (fuel : Nat) (lo sd : Nat), sd < fuel → (sd = 512 ∨ sd = 256 ∨ sd = 128 ∨ sd = 64 ∨ sd = 32 ∨ sd = 16 ∨ sd = 8 ∨ sd = 4 ∨ sd = 2 ∨ sd = 1 ∨ sd = 0) → (lo ≤ cc_) → (cc_ < lo + 2 * sd ∨ (sd = 0 ∧ cc_ = lo)) → ∀ (H : Heap) (locs : List Loc) (ls : Array Slot),  va_P D vwCl ws H → va_D A ws → va_S A s.heap H locs → lv_has ls 4 [(0, .ref d0), (1, .int (nI key)), (2, .int (nI lo)), (3, .int (nI sd))] → W p l e ({ frames := 0, cells := 0, slots := 0, locals := 0 }) s m ([.ref d0, .int (nI key)] : List Value).toArray below meth c H locs 0 0 (ZI D (TY cB cI cJ cO) (fun r ws' => r = nI (cc_) ∧ ws = ws') below [.ref d0, .int (nI key)] s 0 0 A) (F0 m 6 ls []) := by
    intro fuel
    induction fuel with
    | zero => intro lo sd hfu; exact absurd hfu (Nat.not_lt_zero _)
    | succ fuel ih_6 =>
      intro lo sd hfu_6 hsd hlo hup H locs ls hP hD hS hl
      refine lv_iload_n hx hb dX4_placeFor_6 rfl (lv_at hl 3 rfl) ?_
      refine nx_if_le (tgt := 45) hx hb (by omega) dX4_placeFor_7 (by decide) (fun c_7 => ?_) (fun c_7 => ?_)
      · refine lv_iload_n hx hb dX4_placeFor_45 rfl (lv_at hl 2 rfl) ?_
        exact CI.ret (v := (nI lo)) C hK hP hD hS rfl (⟨(by rw [show cc_ = lo by omega]), rfl⟩) hc0 hs0 dX4_placeFor_46
      · refine lv_iload_n hx hb dX4_placeFor_10 rfl (lv_at hl 2 rfl) ?_
        refine lv_iload_n hx hb dX4_placeFor_11 rfl (lv_at hl 3 rfl) ?_
        refine nx_iadd hx hb dX4_placeFor_12 ?_
        refine lv_aload_n hx hb dX4_placeFor_13 rfl (lv_at hl 0 rfl) ?_
        refine va_get (D := D) (ci := 5) (v := .int (nI mv)) (C := RX4) (T := TX4) (N := 7) hx hb hts hin_X4 hown hK hP 10 g10 rfl 5 (by decide) fl_58 (fun _ h9 => h9) rfl dX4_placeFor_14 ?_
        refine nx_icmp_gt (tgt := 38) hx hb (by have := hLB.1; omega) (by omega) dX4_placeFor_17 (by decide) (fun c_17 => ?_) (fun c_17 => ?_)
        · refine lv_iload_n hx hb dX4_placeFor_38 rfl (lv_at hl 3 rfl) ?_
          refine lv_iconst (v := nI 2) hx hb dX4_placeFor_39 (by decide) ?_
          refine lv_idiv hx hb dX4_placeFor_40 (by decide) ?_
          rw [pk_div (by omega) (by omega) (by omega)]
          refine lv_istore_n (lv' := [(3, .int (nI (sd / 2))), (0, .ref d0), (1, .int (nI key)), (2, .int (nI lo))]) hx hb dX4_placeFor_41 rfl hl (by decide) rfl (fun ls hl => ?_)
          refine lv_goto (tgt := 6) hx hb dX4_placeFor_42 (by decide) ?_
          have hup2 : cc_ < lo + sd ∧ lo ≤ cc_ := by first | (have h9 := (hLB.2 (lo + sd - 1) (by omega)).mp (by rw [← hK9 _ (by omega)]; exact c_31); omega) | (have h9 : ¬ (lo + sd - 1 < cc_) := fun q => c_31_n ((hLB.2 (lo + sd - 1) (by omega)).mpr q); omega) | (have := hLB.1; omega)
          exact ih_6 _ (sd / 2) (by omega) (by omega) hup2.2 (by omega) _ _ _  hP hD hS (lv_sub hl [1, 2, 3, 0] rfl)
        · refine lv_aload_n hx hb dX4_placeFor_20 rfl (lv_at hl 0 rfl) ?_
          refine va_get (D := D) (ci := 5) (v := .ref d4) (C := RX4) (T := TX4) (N := 7) hx hb hts hin_X4 hown hK hP 10 g10 rfl 3 (by decide) fl_21 (fun _ h9 => h9) rfl dX4_placeFor_21 ?_
          refine lv_iload_n hx hb dX4_placeFor_24 rfl (lv_at hl 2 rfl) ?_
          refine lv_iload_n hx hb dX4_placeFor_25 rfl (lv_at hl 3 rfl) ?_
          refine nx_iadd hx hb dX4_placeFor_26 ?_
          refine lv_iconst (v := nI 1) hx hb dX4_placeFor_27 (by decide) ?_
          refine nx_isub hx hb (by omega) dX4_placeFor_28 ?_
          refine nx_iald hx hb hK hP 14 1 g14 rfl (k := ((lo + sd) - 1)) (by omega) (by decide) dX4_placeFor_29 ?_
          refine lv_iload_n hx hb dX4_placeFor_30 rfl (lv_at hl 1 rfl) ?_
          refine nx_icmp_ge (tgt := 38) hx hb (by rw [hK9 _ (by omega)]; exact hks _ (List.getElem_mem _)) hky dX4_placeFor_31 (by decide) (fun c_31 => ?_) (fun c_31 => ?_)
          · have c_31_n : ¬ (K[lo + sd - 1]'(by omega)).1 < key := by rw [← hK9 _ (by omega)]; omega
            refine lv_iload_n hx hb dX4_placeFor_38 rfl (lv_at hl 3 rfl) ?_
            refine lv_iconst (v := nI 2) hx hb dX4_placeFor_39 (by decide) ?_
            refine lv_idiv hx hb dX4_placeFor_40 (by decide) ?_
            rw [pk_div (by omega) (by omega) (by omega)]
            refine lv_istore_n (lv' := [(3, .int (nI (sd / 2))), (0, .ref d0), (1, .int (nI key)), (2, .int (nI lo))]) hx hb dX4_placeFor_41 rfl hl (by decide) rfl (fun ls hl => ?_)
            refine lv_goto (tgt := 6) hx hb dX4_placeFor_42 (by decide) ?_
            have hup2 : cc_ < lo + sd ∧ lo ≤ cc_ := by first | (have h9 := (hLB.2 (lo + sd - 1) (by omega)).mp (by rw [← hK9 _ (by omega)]; exact c_31); omega) | (have h9 : ¬ (lo + sd - 1 < cc_) := fun q => c_31_n ((hLB.2 (lo + sd - 1) (by omega)).mpr q); omega) | (have := hLB.1; omega)
            exact ih_6 _ (sd / 2) (by omega) (by omega) hup2.2 (by omega) _ _ _  hP hD hS (lv_sub hl [1, 2, 3, 0] rfl)
          · refine lv_iload_n hx hb dX4_placeFor_34 rfl (lv_at hl 2 rfl) ?_
            refine lv_iload_n hx hb dX4_placeFor_35 rfl (lv_at hl 3 rfl) ?_
            refine nx_iadd hx hb dX4_placeFor_36 ?_
            refine lv_istore_n (lv' := [(2, .int (nI (lo + sd))), (0, .ref d0), (1, .int (nI key)), (3, .int (nI sd))]) hx hb dX4_placeFor_37 rfl hl (by decide) rfl (fun ls hl => ?_)
            refine lv_iload_n hx hb dX4_placeFor_38 rfl (lv_at hl 3 rfl) ?_
            refine lv_iconst (v := nI 2) hx hb dX4_placeFor_39 (by decide) ?_
            refine lv_idiv hx hb dX4_placeFor_40 (by decide) ?_
            rw [pk_div (by omega) (by omega) (by omega)]
            refine lv_istore_n (lv' := [(3, .int (nI (sd / 2))), (2, .int (nI (lo + sd))), (0, .ref d0), (1, .int (nI key))]) hx hb dX4_placeFor_41 rfl hl (by decide) rfl (fun ls hl => ?_)
            refine lv_goto (tgt := 6) hx hb dX4_placeFor_42 (by decide) ?_
            have hup2 : cc_ < (lo + sd) + sd ∧ (lo + sd) ≤ cc_ := by first | (have h9 := (hLB.2 (lo + sd - 1) (by omega)).mp (by rw [← hK9 _ (by omega)]; exact c_31); omega) | (have h9 : ¬ (lo + sd - 1 < cc_) := fun q => c_31_n ((hLB.2 (lo + sd - 1) (by omega)).mpr q); omega) | (have := hLB.1; omega)
            exact ih_6 _ (sd / 2) (by omega) (by omega) hup2.2 (by omega) _ _ _  hP hD hS (lv_sub hl [2, 3, 1, 0] rfl)
  exact lp_6 _ 0 512 (Nat.lt_succ_self _) (by omega) (Nat.zero_le _) (by have := hLB.1; omega) _ _ _  hP hD hS (lv_sub hl [2, 3, 1, 0] rfl)
