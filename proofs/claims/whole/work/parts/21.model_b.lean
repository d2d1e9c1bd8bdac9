theorem pl_bl {o : List Int32} {x i : Nat} (h : o.length + x ≤ i) : o.length + (true && !o.isEmpty).toNat ≤ i + 1 := by
  cases o with
  | nil => simp
  | cons a o => simp at *; omega
theorem plS_upr {x : Int32} (h1 : 65 ≤ x.toInt) (h2 : x.toInt ≤ 90) : x + Int32.ofInt 32 = plSign x ∧ 97 ≤ (plSign x).toInt ∧ (plSign x).toInt ≤ 122 := by
  have e0 : plSign x = x - 65 + 97 := by rw [plSign, if_pos ⟨h1, h2⟩]
  have h3 : (x - 65 + 97) = x + 32 := by
    rw [Int32.sub_eq_add_neg, Int32.add_assoc]
    rfl
  have e : (x + 32).toInt = x.toInt + 32 := by
    rw [Int32.toInt_add]
    simp only [show (32 : Int32).toInt = 32 from rfl]
    rw [Int.bmod_eq_of_le] <;> omega
  rw [e0, h3]
  exact ⟨rfl, by rw [e]; omega, by rw [e]; omega⟩
theorem plS_n32 {x : Int32} (h : 97 ≤ x.toInt) : ¬ x = 32 := fun e => by
  subst e
  exact absurd h (by decide)
theorem plS_mid {x : Int32} (h : ¬ (65 ≤ x.toInt ∧ x.toInt ≤ 90)) (h2 : (97 ≤ x.toInt ∧ x.toInt ≤ 122) ∨ (48 ≤ x.toInt ∧ x.toInt ≤ 57)) : plSign x = x ∧ ¬ plSign x = 32 := by
  have e : plSign x = x := by rw [plSign, if_neg h, if_pos h2]
  refine ⟨e, fun h3 => ?_⟩
  rw [e] at h3
  subst h3
  exact absurd h2 (by decide)
theorem plS_no {x : Int32} (h : ¬ (65 ≤ x.toInt ∧ x.toInt ≤ 90)) (h2 : ¬ ((97 ≤ x.toInt ∧ x.toInt ≤ 122) ∨ (48 ≤ x.toInt ∧ x.toInt ≤ 57))) : plSign x = 32 := by rw [plSign, if_neg h, if_neg h2]
theorem tab_cases (x : Int32) (hi : Nat) (h : hi < 2 ^ 31) : (x.toInt < 0 ∨ (hi : Int) < x.toInt) ∨ ∃ j : Nat, j ≤ hi ∧ x = nI j := by
  by_cases h1 : x.toInt < 0
  · exact Or.inl (Or.inl h1)
  · by_cases h2 : (hi : Int) < x.toInt
    · exact Or.inl (Or.inr h2)
    · have h3 : ¬ x < 0 := fun h4 => h1 (Int32.lt_iff_toInt_lt.mp h4)
      obtain ⟨j, hj, rfl⟩ := nI_of h3
      rw [nI_toInt hj] at h2
      exact Or.inr ⟨j, by omega, rfl⟩

set_option maxHeartbeats 4000000 in
set_option maxRecDepth 100000 in
theorem c_X9_makePlain {D : va_G} {cB cI cJ cO : ClassId} {l : Launch} {m0 b1 b2 b5 b6 b7 b12 b14 b15 b16 b20 b21 b22 b23 b24 b26 b31 th len ps nm bt_ so wi fm dn ca sta xn bb rr pp qq : Nat} {f fp : Nat → Int32} {T : List Int32} {ws : va_W} (g33 : ws[33]? = some (m0, .inr (10, [.int (nI th), .ref b1, .ref b2, .int (nI len), .int (nI ps), .ref b5, .ref b6, .ref b7, .int (nI nm), .int (nI bt_), .int (nI so), .int (nI wi), .ref b12, .int (nI fm), .ref b14, .ref b15, .ref b16, .int (nI dn), .int (nI ca), .int (nI sta), .ref b20, .ref b21, .ref b22, .ref b23, .ref b24, .int (nI xn), .ref b26, .int (nI bb), .int (nI rr), .int (nI pp), .int (nI qq), .ref b31]))) (g34 : ws[34]? = some (b1, .inl (cB, 800, .inl f))) (g35 : ws[35]? = some (b2, .inl (cB, 801, .inl fp))) (hT : Hd f T) (hlen : T.length = len) (h800 : len ≤ 800) : CV D (TY cB cI cJ cO) l yX9_makePlain wsX9_makePlain ({ frames := 0, cells := 0, slots := 0, locals := 0 }) [.ref m0] ws (fun ws' => ∃ fq : Nat → Int32, Hd fq (plainOf T) ∧ Sm (fun k => k = 33 ∨ k = 35) ws ws' ∧ ws'[33]? = some (m0, .inr (10, [.int (nI th), .ref b1, .ref b2, .int (nI len), .int (nI ((plainOf T).length)), .ref b5, .ref b6, .ref b7, .int (nI nm), .int (nI bt_), .int (nI so), .int (nI wi), .ref b12, .int (nI fm), .ref b14, .ref b15, .ref b16, .int (nI dn), .int (nI ca), .int (nI sta), .ref b20, .ref b21, .ref b22, .ref b23, .ref b24, .int (nI xn), .ref b26, .int (nI bb), .int (nI rr), .int (nI pp), .int (nI qq), .ref b31])) ∧ ws'[35]? = some (b2, .inl (cB, 801, .inl fq))) := by
  refine CV.of (cc := cX9_makePlain) (maxL := 5) (ret := none) (by decide) rfl (Nat.le_of_ble_eq_true rfl) ?_
  intro p e s m below meth c A C hK hP hD hA hS ls hl
  obtain ⟨hx, hb, hr, hml, hts, hown, hlocks, hnm⟩ := id C
  have fl_7 := hts (.fieldLink RX9 7 "TwinFinderModel" "length" "I") (by decide +kernel)
  have fl_14 := hts (.fieldLink RX9 14 "TwinFinderModel" "tape" "[B") (by decide +kernel)
  have fl_18 := hts (.fieldLink RX9 18 "TwinFinderModel" "plainSize" "I") (by decide +kernel)
  have fl_21 := hts (.fieldLink RX9 21 "TwinFinderModel" "plain" "[B") (by decide +kernel)
  have hin_X9 : ∀ w ∈ u_ws RX9 TX9 32, w ∈ wsX9_makePlain := by decide +kernel
  have hl : lv_has ls 5 [(0, .ref m0)] := hl
  have sm : Sm (fun k => k = 33 ∨ k = 35) ws ws := Sm.rf
  have hc0 : (0 : Nat) ≤ 0 := by decide
  have hs0 : (0 : Nat) ≤ 0 := by decide
  refine lv_aload_n hx hb dX9_makePlain_0 rfl (lv_at hl 0 rfl) ?_
  refine lv_iconst (v := nI 0) hx hb dX9_makePlain_1 (by decide) ?_
  refine nx_put (D := D) (ci := 10) (v := .int (nI 0)) (ty := .int) (C := RX9) (T := TX9) (N := 32) hx hb hts hin_X9 tyX9 tyX9_ok nmX9 hown hK hP hD hS 33 g33 rfl 4 (by decide) fl_18 (fun _ h9 => h9) rfl (by decide +kernel) rfl rfl (Nat.le_of_ble_eq_true rfl) dX9_makePlain_2 (fun ws_1 H locs gq up_2 hP hD hS => ?_)
  have g33 : ws_1[33]? = some (m0, .inr (10, [.int (nI th), .ref b1, .ref b2, .int (nI len), .int (nI 0), .ref b5, .ref b6, .ref b7, .int (nI nm), .int (nI bt_), .int (nI so), .int (nI wi), .ref b12, .int (nI fm), .ref b14, .ref b15, .ref b16, .int (nI dn), .int (nI ca), .int (nI sta), .ref b20, .ref b21, .ref b22, .ref b23, .ref b24, .int (nI xn), .ref b26, .int (nI bb), .int (nI rr), .int (nI pp), .int (nI qq), .ref b31])) := gq
  have g34 := up_2.get g34 (by decide)
  have g35 := up_2.get g35 (by decide)
  have sm := sm.up up_2 (by simp)
  refine lv_iconst (v := nI 0) hx hb dX9_makePlain_5 (by decide) ?_
  refine lv_istore_n (lv' := [(1, .int (nI 0)), (0, .ref m0)]) hx hb dX9_makePlain_6 rfl hl (by decide) rfl (fun ls hl => ?_)
  refine lv_iconst (v := nI 0) hx hb dX9_makePlain_7 (by decide) ?_
  refine lv_istore_n (lv' := [(2, .int (nI 0)), (1, .int (nI 0)), (0, .ref m0)]) hx hb dX9_makePlain_8 rfl hl (by decide) rfl (fun ls hl => ?_)
  have lp_9 : ∀ (fuel : Nat) (i : Nat) (o : List Int32) (d : Bool) (fo : Nat → Int32), len - i < fuel → (i ≤ len) → ((T.take i).foldl pst ([], false) = (o, d)) → (o.length + (d && !o.isEmpty).toNat ≤ i) → (Hd fo o) → ∀ (ws1 : va_W) (H : Heap) (locs : List Loc) (ls : Array Slot), Sm (fun k => k = 33 ∨ k = 35) ws ws1 → ws1[33]? = some (m0, .inr (10, [.int (nI th), .ref b1, .ref b2, .int (nI len), .int (nI (o.length)), .ref b5, .ref b6, .ref b7, .int (nI nm), .int (nI bt_), .int (nI so), .int (nI wi), .ref b12, .int (nI fm), .ref b14, .ref b15, .ref b16, .int (nI dn), .int (nI ca), .int (nI sta), .ref b20, .ref b21, .ref b22, .ref b23, .ref b24, .int (nI xn), .ref b26, .int (nI bb), .int (nI rr), .int (nI pp), .int (nI qq), .ref b31])) → ws1[34]? = some (b1, .inl (cB, 800, .inl f)) → ws1[35]? = some (b2, .inl (cB, 801, .inl fo)) → va_P D vwCl ws1 H → va_D A ws1 → va_S A s.heap H locs → lv_has ls 5 [(0, .ref m0), (1, .int (nI (d.toNat))), (2, .int (nI i))] → W p l e ({ frames := 0, cells := 0, slots := 0, locals := 0 }) s m ([.ref m0] : List Value).toArray below meth c H locs 0 0 (ZV D (TY cB cI cJ cO) (fun ws' => ∃ fq : Nat → Int32, Hd fq (plainOf T) ∧ Sm (fun k => k = 33 ∨ k = 35) ws ws' ∧ ws'[33]? = some (m0, .inr (10, [.int (nI th), .ref b1, .ref b2, .int (nI len), .int (nI ((plainOf T).length)), .ref b5, .ref b6, .ref b7, .int (nI nm), .int (nI bt_), .int (nI so), .int (nI wi), .ref b12, .int (nI fm), .ref b14, .ref b15, .ref b16, .int (nI dn), .int (nI ca), .int (nI sta), .ref b20, .ref b21, .ref b22, .ref b23, .ref b24, .int (nI xn), .ref b26, .int (nI bb), .int (nI rr), .int (nI pp), .int (nI qq), .ref b31])) ∧ ws'[35]? = some (b2, .inl (cB, 801, .inl fq))) below [.ref m0] s 0 0 A) (F0 m 9 ls []) := by
    intro fuel
    induction fuel with
    | zero => intro i o d fo hfu; exact absurd hfu (Nat.not_lt_zero _)
    | succ fuel ih_9 =>
      intro i o d fo hfu_9 hi hod hol hfo ws1 H locs ls sm g33 g34 g35 hP hD hS hl
      refine lv_iload_n hx hb dX9_makePlain_9 rfl (lv_at hl 2 rfl) ?_
      refine lv_aload_n hx hb dX9_makePlain_10 rfl (lv_at hl 0 rfl) ?_
      refine va_get (D := D) (ci := 10) (v := .int (nI len)) (C := RX9) (T := TX9) (N := 32) hx hb hts hin_X9 hown hK hP 33 g33 rfl 3 (by decide) fl_7 (fun _ h9 => h9) rfl dX9_makePlain_11 ?_
      refine nx_icmp_ge (tgt := 153) hx hb (by omega) (by omega) dX9_makePlain_14 (by decide) (fun c_14 => ?_) (fun c_14 => ?_)
      · have g33 : ws1[33]? = some (m0, .inr (10, [.int (nI th), .ref b1, .ref b2, .int (nI len), .int (nI ((plainOf T).length)), .ref b5, .ref b6, .ref b7, .int (nI nm), .int (nI bt_), .int (nI so), .int (nI wi), .ref b12, .int (nI fm), .ref b14, .ref b15, .ref b16, .int (nI dn), .int (nI ca), .int (nI sta), .ref b20, .ref b21, .ref b22, .ref b23, .ref b24, .int (nI xn), .ref b26, .int (nI bb), .int (nI rr), .int (nI pp), .int (nI qq), .ref b31])) := by rw [plainOf_of hod (by omega)]; exact g33
        exact CV.ret C hK hP hD hS (⟨fo, (by rw [plainOf_of hod (by omega)]; exact hfo), sm, g33, g35⟩) hc0 hs0 dX9_makePlain_153
      · refine lv_aload_n hx hb dX9_makePlain_17 rfl (lv_at hl 0 rfl) ?_
        refine va_get (D := D) (ci := 10) (v := .ref b1) (C := RX9) (T := TX9) (N := 32) hx hb hts hin_X9 hown hK hP 33 g33 rfl 1 (by decide) fl_14 (fun _ h9 => h9) rfl dX9_makePlain_18 ?_
        refine lv_iload_n hx hb dX9_makePlain_21 rfl (lv_at hl 2 rfl) ?_
        refine nx_bald hx hb hK hP 34 0 g34 rfl (k := i) (by omega) (by decide) dX9_makePlain_22 ?_
        refine lv_istore_n (lv' := [(3, .int (f i)), (0, .ref m0), (1, .int (nI (d.toNat))), (2, .int (nI i))]) hx hb dX9_makePlain_23 rfl hl (by decide) rfl (fun ls hl => ?_)
        have lp_68 : ∀ (fuel : Nat) (x : Int32) (b : Bool), 0 < fuel → ((b = true → x = plSign (f i) ∧ ¬ plSign (f i) = 32) ∧ (b = false → plSign (f i) = 32)) → ∀ (ws1 : va_W) (H : Heap) (locs : List Loc) (ls : Array Slot), Sm (fun k => k = 33 ∨ k = 35) ws ws1 → ws1[33]? = some (m0, .inr (10, [.int (nI th), .ref b1, .ref b2, .int (nI len), .int (nI (o.length)), .ref b5, .ref b6, .ref b7, .int (nI nm), .int (nI bt_), .int (nI so), .int (nI wi), .ref b12, .int (nI fm), .ref b14, .ref b15, .ref b16, .int (nI dn), .int (nI ca), .int (nI sta), .ref b20, .ref b21, .ref b22, .ref b23, .ref b24, .int (nI xn), .ref b26, .int (nI bb), .int (nI rr), .int (nI pp), .int (nI qq), .ref b31])) → ws1[34]? = some (b1, .inl (cB, 800, .inl f)) → ws1[35]? = some (b2, .inl (cB, 801, .inl fo)) → va_P D vwCl ws1 H → va_D A ws1 → va_S A s.heap H locs → lv_has ls 5 [(0, .ref m0), (1, .int (nI (d.toNat))), (2, .int (nI i)), (3, .int x)] → W p l e ({ frames := 0, cells := 0, slots := 0, locals := 0 }) s m ([.ref m0] : List Value).toArray below meth c H locs 0 0 (ZV D (TY cB cI cJ cO) (fun ws' => ∃ fq : Nat → Int32, Hd fq (plainOf T) ∧ Sm (fun k => k = 33 ∨ k = 35) ws ws' ∧ ws'[33]? = some (m0, .inr (10, [.int (nI th), .ref b1, .ref b2, .int (nI len), .int (nI ((plainOf T).length)), .ref b5, .ref b6, .ref b7, .int (nI nm), .int (nI bt_), .int (nI so), .int (nI wi), .ref b12, .int (nI fm), .ref b14, .ref b15, .ref b16, .int (nI dn), .int (nI ca), .int (nI sta), .ref b20, .ref b21, .ref b22, .ref b23, .ref b24, .int (nI xn), .ref b26, .int (nI bb), .int (nI rr), .int (nI pp), .int (nI qq), .ref b31])) ∧ ws'[35]? = some (b2, .inl (cB, 801, .inl fq))) below [.ref m0] s 0 0 A) (F0 m 68 ls [.int (nI (b.toNat))]) := by
          intro fuel
          induction fuel with
          | zero => intro x b hfu; exact absurd hfu (Nat.not_lt_zero _)
          | succ fuel ih_68 =>
            intro x b hfu_68 hxb ws1 H locs ls sm g33 g34 g35 hP hD hS hl
            cases b
            · refine lv_istore (lv' := [(4, .int (nI 0)), (0, .ref m0), (1, .int (nI (d.toNat))), (2, .int (nI i)), (3, .int x)]) hx hb dX9_makePlain_68 hl (by decide) rfl (fun ls hl => ?_)
              refine lv_iload hx hb dX9_makePlain_70 (lv_at hl 0 rfl) ?_
              refine lv_if_eq (tgt := 107) hx hb dX9_makePlain_72 (by decide) (fun c_72 => ?_) (fun c_72 => absurd (by decide) c_72)
              refine lv_iload hx hb dX9_makePlain_107 (lv_at hl 0 rfl) ?_
              refine lv_if_ne (tgt := 116) hx hb dX9_makePlain_109 (by decide) (fun c_109 => absurd (by decide) c_109) (fun c_109 => ?_)
              refine lv_iconst (v := nI 1) hx hb dX9_makePlain_112 (by decide) ?_
              refine lv_goto (tgt := 117) hx hb dX9_makePlain_113 (by decide) ?_
              refine lv_istore_n (lv' := [(1, .int (nI 1)), (4, .int (nI 0)), (0, .ref m0), (2, .int (nI i)), (3, .int x)]) hx hb dX9_makePlain_117 rfl hl (by decide) rfl (fun ls hl => ?_)
              refine lv_iload hx hb dX9_makePlain_118 (lv_at hl 1 rfl) ?_
              refine lv_if_ne (tgt := 126) hx hb dX9_makePlain_120 (by decide) (fun c_120 => absurd (by decide) c_120) (fun c_120 => ?_)
              refine lv_goto (tgt := 147) hx hb dX9_makePlain_123 (by decide) ?_
              refine lv_iinc (v := (nI (i + 1))) (lv' := [(2, .int (nI (i + 1))), (1, .int (nI 1)), (4, .int (nI 0)), (0, .ref m0), (3, .int x)]) hx hb dX9_makePlain_147 hl (k := 3) rfl (nx_inc _ 1) (by decide) rfl (fun ls hl => ?_)
              refine lv_goto (tgt := 9) hx hb dX9_makePlain_150 (by decide) ?_
              have hod2 := pst_take (by omega) hod
              rw [← hT.at (by omega), show pst (o, d) (f i) = (o, true) from if_pos (hxb.2 rfl)] at hod2
              exact ih_9 (i + 1) o true fo (by omega) (by omega) hod2 (pl_bl hol) hfo _ _ _ _ sm g33 g34 g35 hP hD hS (lv_sub hl [3, 1, 0] rfl)
            · refine lv_istore (lv' := [(4, .int (nI 1)), (0, .ref m0), (1, .int (nI (d.toNat))), (2, .int (nI i)), (3, .int x)]) hx hb dX9_makePlain_68 hl (by decide) rfl (fun ls hl => ?_)
              refine lv_iload hx hb dX9_makePlain_70 (lv_at hl 0 rfl) ?_
              refine lv_if_eq (tgt := 107) hx hb dX9_makePlain_72 (by decide) (fun c_72 => absurd c_72 (by decide)) (fun c_72 => ?_)
              cases d
              · have hl : lv_has ls 5 [(4, .int (nI 1)), (0, .ref m0), (1, .int (nI 0)), (2, .int (nI i)), (3, .int x)] := hl
                refine lv_iload_n hx hb dX9_makePlain_75 rfl (lv_at hl 2 rfl) ?_
                refine lv_if_eq (tgt := 107) hx hb dX9_makePlain_76 (by decide) (fun c_76 => ?_) (fun c_76 => absurd (by decide) c_76)
                refine lv_iload hx hb dX9_makePlain_107 (lv_at hl 0 rfl) ?_
                refine lv_if_ne (tgt := 116) hx hb dX9_makePlain_109 (by decide) (fun c_109 => ?_) (fun c_109 => absurd c_109 (by decide))
                refine lv_iconst (v := nI 0) hx hb dX9_makePlain_116 (by decide) ?_
                refine lv_istore_n (lv' := [(1, .int (nI 0)), (4, .int (nI 1)), (0, .ref m0), (2, .int (nI i)), (3, .int x)]) hx hb dX9_makePlain_117 rfl hl (by decide) rfl (fun ls hl => ?_)
                refine lv_iload hx hb dX9_makePlain_118 (lv_at hl 1 rfl) ?_
                refine lv_if_ne (tgt := 126) hx hb dX9_makePlain_120 (by decide) (fun c_120 => ?_) (fun c_120 => absurd c_120 (by decide))
                refine lv_aload_n hx hb dX9_makePlain_126 rfl (lv_at hl 2 rfl) ?_
                refine va_get (D := D) (ci := 10) (v := .ref b2) (C := RX9) (T := TX9) (N := 32) hx hb hts hin_X9 hown hK hP 33 g33 rfl 2 (by decide) fl_21 (fun _ h9 => h9) rfl dX9_makePlain_127 ?_
                refine lv_aload_n hx hb dX9_makePlain_130 rfl (lv_at hl 2 rfl) ?_
                refine va_get (D := D) (ci := 10) (v := .int (nI (o.length))) (C := RX9) (T := TX9) (N := 32) hx hb hts hin_X9 hown hK hP 33 g33 rfl 4 (by decide) fl_18 (fun _ h9 => h9) rfl dX9_makePlain_131 ?_
                refine lv_iload_n hx hb dX9_makePlain_134 rfl (lv_at hl 4 rfl) ?_
                refine lv_i2b hx hb dX9_makePlain_135 rfl ?_
                refine nx_bast hx hb hK hP hD hS 35 0 g35 rfl (k := (o.length)) (by omega) (by decide) dX9_makePlain_136 (fun ws_3 H locs gq up_4 hP hD hS => ?_)
                have g35 : ws_3[35]? = some (b2, .inl (cB, 801, .inl (upd fo o.length ((x.toInt8.toInt32).toInt8.toInt32)))) := gq
                have g33 := up_4.get g33 (by decide)
                have g34 := up_4.get g34 (by decide)
                have sm := sm.up up_4 (by simp)
                refine lv_aload_n hx hb dX9_makePlain_137 rfl (lv_at hl 2 rfl) ?_
                refine lv_dup hx hb dX9_makePlain_138 rfl ?_
                refine va_get (D := D) (ci := 10) (v := .int (nI (o.length))) (C := RX9) (T := TX9) (N := 32) hx hb hts hin_X9 hown hK hP 33 g33 rfl 4 (by decide) fl_18 (fun _ h9 => h9) rfl dX9_makePlain_139 ?_
                refine lv_iconst (v := nI 1) hx hb dX9_makePlain_142 (by decide) ?_
                refine nx_iadd hx hb dX9_makePlain_143 ?_
                refine nx_put (D := D) (ci := 10) (v := .int (nI (o.length + 1))) (ty := .int) (C := RX9) (T := TX9) (N := 32) hx hb hts hin_X9 tyX9 tyX9_ok nmX9 hown hK hP hD hS 33 g33 rfl 4 (by decide) fl_18 (fun _ h9 => h9) rfl (by decide +kernel) rfl rfl (Nat.le_of_ble_eq_true rfl) dX9_makePlain_144 (fun ws_5 H locs gq up_6 hP hD hS => ?_)
                have g33 : ws_5[33]? = some (m0, .inr (10, [.int (nI th), .ref b1, .ref b2, .int (nI len), .int (nI (o.length + 1)), .ref b5, .ref b6, .ref b7, .int (nI nm), .int (nI bt_), .int (nI so), .int (nI wi), .ref b12, .int (nI fm), .ref b14, .ref b15, .ref b16, .int (nI dn), .int (nI ca), .int (nI sta), .ref b20, .ref b21, .ref b22, .ref b23, .ref b24, .int (nI xn), .ref b26, .int (nI bb), .int (nI rr), .int (nI pp), .int (nI qq), .ref b31])) := gq
                have g34 := up_6.get g34 (by decide)
                have g35 := up_6.get g35 (by decide)
                have sm := sm.up up_6 (by simp)
                refine lv_iinc (v := (nI (i + 1))) (lv' := [(2, .int (nI (i + 1))), (1, .int (nI 0)), (4, .int (nI 1)), (0, .ref m0), (3, .int x)]) hx hb dX9_makePlain_147 hl (k := 3) rfl (nx_inc _ 1) (by decide) rfl (fun ls hl => ?_)
                refine lv_goto (tgt := 9) hx hb dX9_makePlain_150 (by decide) ?_
                have hod2 := pst_take (by omega) hod
                obtain ⟨rfl, hn32⟩ := hxb.1 rfl
                have hd0 : (false && !o.isEmpty) = false := by first | rfl | (rw [List.length_eq_zero_iff.mp c_83]; rfl)
                rw [← hT.at (by omega), show pst (o, false) (f i) = (o ++ [plSign (f i)], false) from by rw [pst, if_neg hn32]; simp only [hd0]; rfl] at hod2
                have g33 : ws_5[33]? = some (m0, .inr (10, [.int (nI th), .ref b1, .ref b2, .int (nI len), .int (nI ((o ++ [plSign (f i)]).length)), .ref b5, .ref b6, .ref b7, .int (nI nm), .int (nI bt_), .int (nI so), .int (nI wi), .ref b12, .int (nI fm), .ref b14, .ref b15, .ref b16, .int (nI dn), .int (nI ca), .int (nI sta), .ref b20, .ref b21, .ref b22, .ref b23, .ref b24, .int (nI xn), .ref b26, .int (nI bb), .int (nI rr), .int (nI pp), .int (nI qq), .ref b31])) := by rw [List.length_append]; exact g33
                have g35 : ws_5[35]? = some (b2, .inl (cB, 801, .inl (upd fo o.length (plSign (f i))))) := by simp only [i8_twice, plS_byte] at g35; exact g35
                exact ih_9 (i + 1) (o ++ [plSign (f i)]) false _ (by omega) (by omega) hod2 (by rw [hd0] at hol; simp at hol ⊢; omega) hfo.upd _ _ _ _ sm g33 g34 g35 hP hD hS (lv_sub hl [3, 1, 0] rfl)
              · have hl : lv_has ls 5 [(4, .int (nI 1)), (0, .ref m0), (1, .int (nI 1)), (2, .int (nI i)), (3, .int x)] := hl
                refine lv_iload_n hx hb dX9_makePlain_75 rfl (lv_at hl 2 rfl) ?_
                refine lv_if_eq (tgt := 107) hx hb dX9_makePlain_76 (by decide) (fun c_76 => absurd c_76 (by decide)) (fun c_76 => ?_)
                refine lv_aload_n hx hb dX9_makePlain_79 rfl (lv_at hl 1 rfl) ?_
                refine va_get (D := D) (ci := 10) (v := .int (nI (o.length))) (C := RX9) (T := TX9) (N := 32) hx hb hts hin_X9 hown hK hP 33 g33 rfl 4 (by decide) fl_18 (fun _ h9 => h9) rfl dX9_makePlain_80 ?_
                refine nx_if_le (tgt := 107) hx hb (by omega) dX9_makePlain_83 (by decide) (fun c_83 => ?_) (fun c_83 => ?_)
                · refine lv_iload hx hb dX9_makePlain_107 (lv_at hl 0 rfl) ?_
                  refine lv_if_ne (tgt := 116) hx hb dX9_makePlain_109 (by decide) (fun c_109 => ?_) (fun c_109 => absurd c_109 (by decide))
                  refine lv_iconst (v := nI 0) hx hb dX9_makePlain_116 (by decide) ?_
                  refine lv_istore_n (lv' := [(1, .int (nI 0)), (4, .int (nI 1)), (0, .ref m0), (2, .int (nI i)), (3, .int x)]) hx hb dX9_makePlain_117 rfl hl (by decide) rfl (fun ls hl => ?_)
                  refine lv_iload hx hb dX9_makePlain_118 (lv_at hl 1 rfl) ?_
                  refine lv_if_ne (tgt := 126) hx hb dX9_makePlain_120 (by decide) (fun c_120 => ?_) (fun c_120 => absurd c_120 (by decide))
                  refine lv_aload_n hx hb dX9_makePlain_126 rfl (lv_at hl 2 rfl) ?_
                  refine va_get (D := D) (ci := 10) (v := .ref b2) (C := RX9) (T := TX9) (N := 32) hx hb hts hin_X9 hown hK hP 33 g33 rfl 2 (by decide) fl_21 (fun _ h9 => h9) rfl dX9_makePlain_127 ?_
                  refine lv_aload_n hx hb dX9_makePlain_130 rfl (lv_at hl 2 rfl) ?_
                  refine va_get (D := D) (ci := 10) (v := .int (nI (o.length))) (C := RX9) (T := TX9) (N := 32) hx hb hts hin_X9 hown hK hP 33 g33 rfl 4 (by decide) fl_18 (fun _ h9 => h9) rfl dX9_makePlain_131 ?_
                  refine lv_iload_n hx hb dX9_makePlain_134 rfl (lv_at hl 4 rfl) ?_
                  refine lv_i2b hx hb dX9_makePlain_135 rfl ?_
                  refine nx_bast hx hb hK hP hD hS 35 0 g35 rfl (k := (o.length)) (by omega) (by decide) dX9_makePlain_136 (fun ws_7 H locs gq up_8 hP hD hS => ?_)
                  have g35 : ws_7[35]? = some (b2, .inl (cB, 801, .inl (upd fo o.length ((x.toInt8.toInt32).toInt8.toInt32)))) := gq
                  have g33 := up_8.get g33 (by decide)
                  have g34 := up_8.get g34 (by decide)
                  have sm := sm.up up_8 (by simp)
                  refine lv_aload_n hx hb dX9_makePlain_137 rfl (lv_at hl 2 rfl) ?_
                  refine lv_dup hx hb dX9_makePlain_138 rfl ?_
                  refine va_get (D := D) (ci := 10) (v := .int (nI (o.length))) (C := RX9) (T := TX9) (N := 32) hx hb hts hin_X9 hown hK hP 33 g33 rfl 4 (by decide) fl_18 (fun _ h9 => h9) rfl dX9_makePlain_139 ?_
                  refine lv_iconst (v := nI 1) hx hb dX9_makePlain_142 (by decide) ?_
                  refine nx_iadd hx hb dX9_makePlain_143 ?_
                  refine nx_put (D := D) (ci := 10) (v := .int (nI (o.length + 1))) (ty := .int) (C := RX9) (T := TX9) (N := 32) hx hb hts hin_X9 tyX9 tyX9_ok nmX9 hown hK hP hD hS 33 g33 rfl 4 (by decide) fl_18 (fun _ h9 => h9) rfl (by decide +kernel) rfl rfl (Nat.le_of_ble_eq_true rfl) dX9_makePlain_144 (fun ws_9 H locs gq up_10 hP hD hS => ?_)
                  have g33 : ws_9[33]? = some (m0, .inr (10, [.int (nI th), .ref b1, .ref b2, .int (nI len), .int (nI (o.length + 1)), .ref b5, .ref b6, .ref b7, .int (nI nm), .int (nI bt_), .int (nI so), .int (nI wi), .ref b12, .int (nI fm), .ref b14, .ref b15, .ref b16, .int (nI dn), .int (nI ca), .int (nI sta), .ref b20, .ref b21, .ref b22, .ref b23, .ref b24, .int (nI xn), .ref b26, .int (nI bb), .int (nI rr), .int (nI pp), .int (nI qq), .ref b31])) := gq
                  have g34 := up_10.get g34 (by decide)
                  have g35 := up_10.get g35 (by decide)
                  have sm := sm.up up_10 (by simp)
                  refine lv_iinc (v := (nI (i + 1))) (lv' := [(2, .int (nI (i + 1))), (1, .int (nI 0)), (4, .int (nI 1)), (0, .ref m0), (3, .int x)]) hx hb dX9_makePlain_147 hl (k := 3) rfl (nx_inc _ 1) (by decide) rfl (fun ls hl => ?_)
                  refine lv_goto (tgt := 9) hx hb dX9_makePlain_150 (by decide) ?_
                  have hod2 := pst_take (by omega) hod
                  obtain ⟨rfl, hn32⟩ := hxb.1 rfl
                  have hd0 : (true && !o.isEmpty) = false := by first | rfl | (rw [List.length_eq_zero_iff.mp c_83]; rfl)
                  rw [← hT.at (by omega), show pst (o, true) (f i) = (o ++ [plSign (f i)], false) from by rw [pst, if_neg hn32]; simp only [hd0]; rfl] at hod2
                  have g33 : ws_9[33]? = some (m0, .inr (10, [.int (nI th), .ref b1, .ref b2, .int (nI len), .int (nI ((o ++ [plSign (f i)]).length)), .ref b5, .ref b6, .ref b7, .int (nI nm), .int (nI bt_), .int (nI so), .int (nI wi), .ref b12, .int (nI fm), .ref b14, .ref b15, .ref b16, .int (nI dn), .int (nI ca), .int (nI sta), .ref b20, .ref b21, .ref b22, .ref b23, .ref b24, .int (nI xn), .ref b26, .int (nI bb), .int (nI rr), .int (nI pp), .int (nI qq), .ref b31])) := by rw [List.length_append]; exact g33
                  have g35 : ws_9[35]? = some (b2, .inl (cB, 801, .inl (upd fo o.length (plSign (f i))))) := by simp only [i8_twice, plS_byte] at g35; exact g35
                  exact ih_9 (i + 1) (o ++ [plSign (f i)]) false _ (by omega) (by omega) hod2 (by rw [hd0] at hol; simp at hol ⊢; omega) hfo.upd _ _ _ _ sm g33 g34 g35 hP hD hS (lv_sub hl [3, 1, 0] rfl)
                · refine lv_aload_n hx hb dX9_makePlain_86 rfl (lv_at hl 1 rfl) ?_
                  refine va_get (D := D) (ci := 10) (v := .ref b2) (C := RX9) (T := TX9) (N := 32) hx hb hts hin_X9 hown hK hP 33 g33 rfl 2 (by decide) fl_21 (fun _ h9 => h9) rfl dX9_makePlain_87 ?_
                  refine lv_aload_n hx hb dX9_makePlain_90 rfl (lv_at hl 1 rfl) ?_
                  refine va_get (D := D) (ci := 10) (v := .int (nI (o.length))) (C := RX9) (T := TX9) (N := 32) hx hb hts hin_X9 hown hK hP 33 g33 rfl 4 (by decide) fl_18 (fun _ h9 => h9) rfl dX9_makePlain_91 ?_
                  refine lv_bipush (v := nI 32) hx hb dX9_makePlain_94 (by decide) ?_
                  refine nx_bast hx hb hK hP hD hS 35 0 g35 rfl (k := (o.length)) (by omega) (by decide) dX9_makePlain_96 (fun ws_11 H locs gq up_12 hP hD hS => ?_)
                  have g35 : ws_11[35]? = some (b2, .inl (cB, 801, .inl (upd fo o.length ((nI 32).toInt8.toInt32)))) := gq
                  have g33 := up_12.get g33 (by decide)
                  have g34 := up_12.get g34 (by decide)
                  have sm := sm.up up_12 (by simp)
                  refine lv_aload_n hx hb dX9_makePlain_97 rfl (lv_at hl 1 rfl) ?_
                  refine lv_dup hx hb dX9_makePlain_98 rfl ?_
                  refine va_get (D := D) (ci := 10) (v := .int (nI (o.length))) (C := RX9) (T := TX9) (N := 32) hx hb hts hin_X9 hown hK hP 33 g33 rfl 4 (by decide) fl_18 (fun _ h9 => h9) rfl dX9_makePlain_99 ?_
                  refine lv_iconst (v := nI 1) hx hb dX9_makePlain_102 (by decide) ?_
                  refine nx_iadd hx hb dX9_makePlain_103 ?_
                  refine nx_put (D := D) (ci := 10) (v := .int (nI (o.length + 1))) (ty := .int) (C := RX9) (T := TX9) (N := 32) hx hb hts hin_X9 tyX9 tyX9_ok nmX9 hown hK hP hD hS 33 g33 rfl 4 (by decide) fl_18 (fun _ h9 => h9) rfl (by decide +kernel) rfl rfl (Nat.le_of_ble_eq_true rfl) dX9_makePlain_104 (fun ws_13 H locs gq up_14 hP hD hS => ?_)
                  have g33 : ws_13[33]? = some (m0, .inr (10, [.int (nI th), .ref b1, .ref b2, .int (nI len), .int (nI (o.length + 1)), .ref b5, .ref b6, .ref b7, .int (nI nm), .int (nI bt_), .int (nI so), .int (nI wi), .ref b12, .int (nI fm), .ref b14, .ref b15, .ref b16, .int (nI dn), .int (nI ca), .int (nI sta), .ref b20, .ref b21, .ref b22, .ref b23, .ref b24, .int (nI xn), .ref b26, .int (nI bb), .int (nI rr), .int (nI pp), .int (nI qq), .ref b31])) := gq
                  have g34 := up_14.get g34 (by decide)
                  have g35 := up_14.get g35 (by decide)
                  have sm := sm.up up_14 (by simp)
                  refine lv_iload hx hb dX9_makePlain_107 (lv_at hl 0 rfl) ?_
                  refine lv_if_ne (tgt := 116) hx hb dX9_makePlain_109 (by decide) (fun c_109 => ?_) (fun c_109 => absurd c_109 (by decide))
                  refine lv_iconst (v := nI 0) hx hb dX9_makePlain_116 (by decide) ?_
                  refine lv_istore_n (lv' := [(1, .int (nI 0)), (4, .int (nI 1)), (0, .ref m0), (2, .int (nI i)), (3, .int x)]) hx hb dX9_makePlain_117 rfl hl (by decide) rfl (fun ls hl => ?_)
                  refine lv_iload hx hb dX9_makePlain_118 (lv_at hl 1 rfl) ?_
                  refine lv_if_ne (tgt := 126) hx hb dX9_makePlain_120 (by decide) (fun c_120 => ?_) (fun c_120 => absurd c_120 (by decide))
                  refine lv_aload_n hx hb dX9_makePlain_126 rfl (lv_at hl 2 rfl) ?_
                  refine va_get (D := D) (ci := 10) (v := .ref b2) (C := RX9) (T := TX9) (N := 32) hx hb hts hin_X9 hown hK hP 33 g33 rfl 2 (by decide) fl_21 (fun _ h9 => h9) rfl dX9_makePlain_127 ?_
                  refine lv_aload_n hx hb dX9_makePlain_130 rfl (lv_at hl 2 rfl) ?_
                  refine va_get (D := D) (ci := 10) (v := .int (nI (o.length + 1))) (C := RX9) (T := TX9) (N := 32) hx hb hts hin_X9 hown hK hP 33 g33 rfl 4 (by decide) fl_18 (fun _ h9 => h9) rfl dX9_makePlain_131 ?_
                  refine lv_iload_n hx hb dX9_makePlain_134 rfl (lv_at hl 4 rfl) ?_
                  refine lv_i2b hx hb dX9_makePlain_135 rfl ?_
                  refine nx_bast hx hb hK hP hD hS 35 0 g35 rfl (k := (o.length + 1)) (by omega) (by decide) dX9_makePlain_136 (fun ws_15 H locs gq up_16 hP hD hS => ?_)
                  have g35 : ws_15[35]? = some (b2, .inl (cB, 801, .inl (upd (upd fo o.length ((nI 32).toInt8.toInt32)) (o.length + 1) ((x.toInt8.toInt32).toInt8.toInt32)))) := gq
                  have g33 := up_16.get g33 (by decide)
                  have g34 := up_16.get g34 (by decide)
                  have sm := sm.up up_16 (by simp)
                  refine lv_aload_n hx hb dX9_makePlain_137 rfl (lv_at hl 2 rfl) ?_
                  refine lv_dup hx hb dX9_makePlain_138 rfl ?_
                  refine va_get (D := D) (ci := 10) (v := .int (nI (o.length + 1))) (C := RX9) (T := TX9) (N := 32) hx hb hts hin_X9 hown hK hP 33 g33 rfl 4 (by decide) fl_18 (fun _ h9 => h9) rfl dX9_makePlain_139 ?_
                  refine lv_iconst (v := nI 1) hx hb dX9_makePlain_142 (by decide) ?_
                  refine nx_iadd hx hb dX9_makePlain_143 ?_
                  refine nx_put (D := D) (ci := 10) (v := .int (nI ((o.length + 1) + 1))) (ty := .int) (C := RX9) (T := TX9) (N := 32) hx hb hts hin_X9 tyX9 tyX9_ok nmX9 hown hK hP hD hS 33 g33 rfl 4 (by decide) fl_18 (fun _ h9 => h9) rfl (by decide +kernel) rfl rfl (Nat.le_of_ble_eq_true rfl) dX9_makePlain_144 (fun ws_17 H locs gq up_18 hP hD hS => ?_)
                  have g33 : ws_17[33]? = some (m0, .inr (10, [.int (nI th), .ref b1, .ref b2, .int (nI len), .int (nI ((o.length + 1) + 1)), .ref b5, .ref b6, .ref b7, .int (nI nm), .int (nI bt_), .int (nI so), .int (nI wi), .ref b12, .int (nI fm), .ref b14, .ref b15, .ref b16, .int (nI dn), .int (nI ca), .int (nI sta), .ref b20, .ref b21, .ref b22, .ref b23, .ref b24, .int (nI xn), .ref b26, .int (nI bb), .int (nI rr), .int (nI pp), .int (nI qq), .ref b31])) := gq
                  have g34 := up_18.get g34 (by decide)
                  have g35 := up_18.get g35 (by decide)
                  have sm := sm.up up_18 (by simp)
                  refine lv_iinc (v := (nI (i + 1))) (lv' := [(2, .int (nI (i + 1))), (1, .int (nI 0)), (4, .int (nI 1)), (0, .ref m0), (3, .int x)]) hx hb dX9_makePlain_147 hl (k := 3) rfl (nx_inc _ 1) (by decide) rfl (fun ls hl => ?_)
                  refine lv_goto (tgt := 9) hx hb dX9_makePlain_150 (by decide) ?_
                  have hod2 := pst_take (by omega) hod
                  obtain ⟨rfl, hn32⟩ := hxb.1 rfl
                  have hd1 : (true && !o.isEmpty) = true := by cases o <;> simp_all
                  rw [hd1] at hol
                  rw [← hT.at (by omega), show pst (o, true) (f i) = (o ++ [32] ++ [plSign (f i)], false) from by rw [pst, if_neg hn32, if_pos hd1]] at hod2
                  have g33 : ws_17[33]? = some (m0, .inr (10, [.int (nI th), .ref b1, .ref b2, .int (nI len), .int (nI ((o ++ [32] ++ [plSign (f i)]).length)), .ref b5, .ref b6, .ref b7, .int (nI nm), .int (nI bt_), .int (nI so), .int (nI wi), .ref b12, .int (nI fm), .ref b14, .ref b15, .ref b16, .int (nI dn), .int (nI ca), .int (nI sta), .ref b20, .ref b21, .ref b22, .ref b23, .ref b24, .int (nI xn), .ref b26, .int (nI bb), .int (nI rr), .int (nI pp), .int (nI qq), .ref b31])) := by rw [List.length_append, List.length_append]; exact g33
                  have g35 : ws_17[35]? = some (b2, .inl (cB, 801, .inl (upd (upd fo o.length 32) (o ++ [32]).length (plSign (f i))))) := by simp only [i8_twice, plS_byte] at g35; rw [show (nI 32).toInt8.toInt32 = 32 from by decide] at g35; rw [List.length_append]; exact g35
                  exact ih_9 (i + 1) (o ++ [32] ++ [plSign (f i)]) false _ (by omega) (by omega) hod2 (by simp at hol ⊢; omega) (hfo.upd).upd _ _ _ _ sm g33 g34 g35 hP hD hS (lv_sub hl [3, 1, 0] rfl)
        refine lv_iload_n hx hb dX9_makePlain_24 rfl (lv_at hl 0 rfl) ?_
        refine lv_bipush (v := nI 65) hx hb dX9_makePlain_25 (by decide) ?_
        refine lv_icmp_lt (tgt := 39) hx hb dX9_makePlain_27 (by decide) (fun c_27 => ?_) (fun c_27 => ?_)
        · refine lv_iload_n hx hb dX9_makePlain_39 rfl (lv_at hl 0 rfl) ?_
          refine lv_bipush (v := nI 97) hx hb dX9_makePlain_40 (by decide) ?_
          refine lv_icmp_lt (tgt := 51) hx hb dX9_makePlain_42 (by decide) (fun c_42 => ?_) (fun c_42 => ?_)
          · refine lv_iload_n hx hb dX9_makePlain_51 rfl (lv_at hl 0 rfl) ?_
            refine lv_bipush (v := nI 48) hx hb dX9_makePlain_52 (by decide) ?_
            refine lv_icmp_lt (tgt := 67) hx hb dX9_makePlain_54 (by decide) (fun c_54 => ?_) (fun c_54 => ?_)
            · refine lv_iconst (v := nI 0) hx hb dX9_makePlain_67 (by decide) ?_
              have hxb := plS_no (x := f i) (by simp [nI, Int32.lt_iff_toInt_lt, Int32.le_iff_toInt_le] at c_14 c_27 c_42 c_54; omega) (by simp [nI, Int32.lt_iff_toInt_lt, Int32.le_iff_toInt_le] at c_14 c_27 c_42 c_54; omega)
              exact lp_68 _ (f i) false (Nat.lt_succ_self _) ⟨fun h => absurd h (by decide), fun _ => hxb⟩ _ _ _ _ sm g33 g34 g35 hP hD hS (lv_sub hl [1, 2, 3, 0] rfl)
            · refine lv_iload_n hx hb dX9_makePlain_57 rfl (lv_at hl 0 rfl) ?_
              refine lv_bipush (v := nI 57) hx hb dX9_makePlain_58 (by decide) ?_
              refine lv_icmp_gt (tgt := 67) hx hb dX9_makePlain_60 (by decide) (fun c_60 => ?_) (fun c_60 => ?_)
              · refine lv_iconst (v := nI 0) hx hb dX9_makePlain_67 (by decide) ?_
                have hxb := plS_no (x := f i) (by simp [nI, Int32.lt_iff_toInt_lt, Int32.le_iff_toInt_le] at c_14 c_27 c_42 c_54 c_60; omega) (by simp [nI, Int32.lt_iff_toInt_lt, Int32.le_iff_toInt_le] at c_14 c_27 c_42 c_54 c_60; omega)
                exact lp_68 _ (f i) false (Nat.lt_succ_self _) ⟨fun h => absurd h (by decide), fun _ => hxb⟩ _ _ _ _ sm g33 g34 g35 hP hD hS (lv_sub hl [1, 2, 3, 0] rfl)
              · refine lv_iconst (v := nI 1) hx hb dX9_makePlain_63 (by decide) ?_
                refine lv_goto (tgt := 68) hx hb dX9_makePlain_64 (by decide) ?_
                have hxb := plS_mid (x := f i) (by simp [nI, Int32.lt_iff_toInt_lt, Int32.le_iff_toInt_le] at c_14 c_27 c_42 c_54 c_60; omega) (by simp [nI, Int32.lt_iff_toInt_lt, Int32.le_iff_toInt_le] at c_14 c_27 c_42 c_54 c_60; omega)
                exact lp_68 _ (f i) true (Nat.lt_succ_self _) ⟨fun _ => ⟨hxb.1.symm, hxb.2⟩, fun h => absurd h (by decide)⟩ _ _ _ _ sm g33 g34 g35 hP hD hS (lv_sub hl [1, 2, 3, 0] rfl)
          · refine lv_iload_n hx hb dX9_makePlain_45 rfl (lv_at hl 0 rfl) ?_
            refine lv_bipush (v := nI 122) hx hb dX9_makePlain_46 (by decide) ?_
            refine lv_icmp_le (tgt := 63) hx hb dX9_makePlain_48 (by decide) (fun c_48 => ?_) (fun c_48 => ?_)
            · refine lv_iconst (v := nI 1) hx hb dX9_makePlain_63 (by decide) ?_
              refine lv_goto (tgt := 68) hx hb dX9_makePlain_64 (by decide) ?_
              have hxb := plS_mid (x := f i) (by simp [nI, Int32.lt_iff_toInt_lt, Int32.le_iff_toInt_le] at c_14 c_27 c_42 c_48; omega) (by simp [nI, Int32.lt_iff_toInt_lt, Int32.le_iff_toInt_le] at c_14 c_27 c_42 c_48; omega)
              exact lp_68 _ (f i) true (Nat.lt_succ_self _) ⟨fun _ => ⟨hxb.1.symm, hxb.2⟩, fun h => absurd h (by decide)⟩ _ _ _ _ sm g33 g34 g35 hP hD hS (lv_sub hl [1, 2, 3, 0] rfl)
            · refine lv_iload_n hx hb dX9_makePlain_51 rfl (lv_at hl 0 rfl) ?_
              refine lv_bipush (v := nI 48) hx hb dX9_makePlain_52 (by decide) ?_
              refine lv_icmp_lt (tgt := 67) hx hb dX9_makePlain_54 (by decide) (fun c_54 => ?_) (fun c_54 => ?_)
              · refine lv_iconst (v := nI 0) hx hb dX9_makePlain_67 (by decide) ?_
                have hxb := plS_no (x := f i) (by simp [nI, Int32.lt_iff_toInt_lt, Int32.le_iff_toInt_le] at c_14 c_27 c_42 c_48 c_54; omega) (by simp [nI, Int32.lt_iff_toInt_lt, Int32.le_iff_toInt_le] at c_14 c_27 c_42 c_48 c_54; omega)
                exact lp_68 _ (f i) false (Nat.lt_succ_self _) ⟨fun h => absurd h (by decide), fun _ => hxb⟩ _ _ _ _ sm g33 g34 g35 hP hD hS (lv_sub hl [1, 2, 3, 0] rfl)
              · refine lv_iload_n hx hb dX9_makePlain_57 rfl (lv_at hl 0 rfl) ?_
                refine lv_bipush (v := nI 57) hx hb dX9_makePlain_58 (by decide) ?_
                refine lv_icmp_gt (tgt := 67) hx hb dX9_makePlain_60 (by decide) (fun c_60 => ?_) (fun c_60 => ?_)
                · refine lv_iconst (v := nI 0) hx hb dX9_makePlain_67 (by decide) ?_
                  have hxb := plS_no (x := f i) (by simp [nI, Int32.lt_iff_toInt_lt, Int32.le_iff_toInt_le] at c_14 c_27 c_42 c_48 c_54 c_60; omega) (by simp [nI, Int32.lt_iff_toInt_lt, Int32.le_iff_toInt_le] at c_14 c_27 c_42 c_48 c_54 c_60; omega)
                  exact lp_68 _ (f i) false (Nat.lt_succ_self _) ⟨fun h => absurd h (by decide), fun _ => hxb⟩ _ _ _ _ sm g33 g34 g35 hP hD hS (lv_sub hl [1, 2, 3, 0] rfl)
                · refine lv_iconst (v := nI 1) hx hb dX9_makePlain_63 (by decide) ?_
                  refine lv_goto (tgt := 68) hx hb dX9_makePlain_64 (by decide) ?_
                  have hxb := plS_mid (x := f i) (by simp [nI, Int32.lt_iff_toInt_lt, Int32.le_iff_toInt_le] at c_14 c_27 c_42 c_48 c_54 c_60; omega) (by simp [nI, Int32.lt_iff_toInt_lt, Int32.le_iff_toInt_le] at c_14 c_27 c_42 c_48 c_54 c_60; omega)
                  exact lp_68 _ (f i) true (Nat.lt_succ_self _) ⟨fun _ => ⟨hxb.1.symm, hxb.2⟩, fun h => absurd h (by decide)⟩ _ _ _ _ sm g33 g34 g35 hP hD hS (lv_sub hl [1, 2, 3, 0] rfl)
        · refine lv_iload_n hx hb dX9_makePlain_30 rfl (lv_at hl 0 rfl) ?_
          refine lv_bipush (v := nI 90) hx hb dX9_makePlain_31 (by decide) ?_
          refine lv_icmp_gt (tgt := 39) hx hb dX9_makePlain_33 (by decide) (fun c_33 => ?_) (fun c_33 => ?_)
          · refine lv_iload_n hx hb dX9_makePlain_39 rfl (lv_at hl 0 rfl) ?_
            refine lv_bipush (v := nI 97) hx hb dX9_makePlain_40 (by decide) ?_
            refine lv_icmp_lt (tgt := 51) hx hb dX9_makePlain_42 (by decide) (fun c_42 => ?_) (fun c_42 => ?_)
            · refine lv_iload_n hx hb dX9_makePlain_51 rfl (lv_at hl 0 rfl) ?_
              refine lv_bipush (v := nI 48) hx hb dX9_makePlain_52 (by decide) ?_
              refine lv_icmp_lt (tgt := 67) hx hb dX9_makePlain_54 (by decide) (fun c_54 => ?_) (fun c_54 => ?_)
              · refine lv_iconst (v := nI 0) hx hb dX9_makePlain_67 (by decide) ?_
                have hxb := plS_no (x := f i) (by simp [nI, Int32.lt_iff_toInt_lt, Int32.le_iff_toInt_le] at c_14 c_27 c_33 c_42 c_54; omega) (by simp [nI, Int32.lt_iff_toInt_lt, Int32.le_iff_toInt_le] at c_14 c_27 c_33 c_42 c_54; omega)
                exact lp_68 _ (f i) false (Nat.lt_succ_self _) ⟨fun h => absurd h (by decide), fun _ => hxb⟩ _ _ _ _ sm g33 g34 g35 hP hD hS (lv_sub hl [1, 2, 3, 0] rfl)
              · refine lv_iload_n hx hb dX9_makePlain_57 rfl (lv_at hl 0 rfl) ?_
                refine lv_bipush (v := nI 57) hx hb dX9_makePlain_58 (by decide) ?_
                refine lv_icmp_gt (tgt := 67) hx hb dX9_makePlain_60 (by decide) (fun c_60 => ?_) (fun c_60 => ?_)
                · refine lv_iconst (v := nI 0) hx hb dX9_makePlain_67 (by decide) ?_
                  have hxb := plS_no (x := f i) (by simp [nI, Int32.lt_iff_toInt_lt, Int32.le_iff_toInt_le] at c_14 c_27 c_33 c_42 c_54 c_60; omega) (by simp [nI, Int32.lt_iff_toInt_lt, Int32.le_iff_toInt_le] at c_14 c_27 c_33 c_42 c_54 c_60; omega)
                  exact lp_68 _ (f i) false (Nat.lt_succ_self _) ⟨fun h => absurd h (by decide), fun _ => hxb⟩ _ _ _ _ sm g33 g34 g35 hP hD hS (lv_sub hl [1, 2, 3, 0] rfl)
                · refine lv_iconst (v := nI 1) hx hb dX9_makePlain_63 (by decide) ?_
                  refine lv_goto (tgt := 68) hx hb dX9_makePlain_64 (by decide) ?_
                  have hxb := plS_mid (x := f i) (by simp [nI, Int32.lt_iff_toInt_lt, Int32.le_iff_toInt_le] at c_14 c_27 c_33 c_42 c_54 c_60; omega) (by simp [nI, Int32.lt_iff_toInt_lt, Int32.le_iff_toInt_le] at c_14 c_27 c_33 c_42 c_54 c_60; omega)
                  exact lp_68 _ (f i) true (Nat.lt_succ_self _) ⟨fun _ => ⟨hxb.1.symm, hxb.2⟩, fun h => absurd h (by decide)⟩ _ _ _ _ sm g33 g34 g35 hP hD hS (lv_sub hl [1, 2, 3, 0] rfl)
            · refine lv_iload_n hx hb dX9_makePlain_45 rfl (lv_at hl 0 rfl) ?_
              refine lv_bipush (v := nI 122) hx hb dX9_makePlain_46 (by decide) ?_
              refine lv_icmp_le (tgt := 63) hx hb dX9_makePlain_48 (by decide) (fun c_48 => ?_) (fun c_48 => ?_)
              · refine lv_iconst (v := nI 1) hx hb dX9_makePlain_63 (by decide) ?_
                refine lv_goto (tgt := 68) hx hb dX9_makePlain_64 (by decide) ?_
                have hxb := plS_mid (x := f i) (by simp [nI, Int32.lt_iff_toInt_lt, Int32.le_iff_toInt_le] at c_14 c_27 c_33 c_42 c_48; omega) (by simp [nI, Int32.lt_iff_toInt_lt, Int32.le_iff_toInt_le] at c_14 c_27 c_33 c_42 c_48; omega)
                exact lp_68 _ (f i) true (Nat.lt_succ_self _) ⟨fun _ => ⟨hxb.1.symm, hxb.2⟩, fun h => absurd h (by decide)⟩ _ _ _ _ sm g33 g34 g35 hP hD hS (lv_sub hl [1, 2, 3, 0] rfl)
              · refine lv_iload_n hx hb dX9_makePlain_51 rfl (lv_at hl 0 rfl) ?_
                refine lv_bipush (v := nI 48) hx hb dX9_makePlain_52 (by decide) ?_
                refine lv_icmp_lt (tgt := 67) hx hb dX9_makePlain_54 (by decide) (fun c_54 => ?_) (fun c_54 => ?_)
                · refine lv_iconst (v := nI 0) hx hb dX9_makePlain_67 (by decide) ?_
                  have hxb := plS_no (x := f i) (by simp [nI, Int32.lt_iff_toInt_lt, Int32.le_iff_toInt_le] at c_14 c_27 c_33 c_42 c_48 c_54; omega) (by simp [nI, Int32.lt_iff_toInt_lt, Int32.le_iff_toInt_le] at c_14 c_27 c_33 c_42 c_48 c_54; omega)
                  exact lp_68 _ (f i) false (Nat.lt_succ_self _) ⟨fun h => absurd h (by decide), fun _ => hxb⟩ _ _ _ _ sm g33 g34 g35 hP hD hS (lv_sub hl [1, 2, 3, 0] rfl)
                · refine lv_iload_n hx hb dX9_makePlain_57 rfl (lv_at hl 0 rfl) ?_
                  refine lv_bipush (v := nI 57) hx hb dX9_makePlain_58 (by decide) ?_
                  refine lv_icmp_gt (tgt := 67) hx hb dX9_makePlain_60 (by decide) (fun c_60 => ?_) (fun c_60 => ?_)
                  · refine lv_iconst (v := nI 0) hx hb dX9_makePlain_67 (by decide) ?_
                    have hxb := plS_no (x := f i) (by simp [nI, Int32.lt_iff_toInt_lt, Int32.le_iff_toInt_le] at c_14 c_27 c_33 c_42 c_48 c_54 c_60; omega) (by simp [nI, Int32.lt_iff_toInt_lt, Int32.le_iff_toInt_le] at c_14 c_27 c_33 c_42 c_48 c_54 c_60; omega)
                    exact lp_68 _ (f i) false (Nat.lt_succ_self _) ⟨fun h => absurd h (by decide), fun _ => hxb⟩ _ _ _ _ sm g33 g34 g35 hP hD hS (lv_sub hl [1, 2, 3, 0] rfl)
                  · refine lv_iconst (v := nI 1) hx hb dX9_makePlain_63 (by decide) ?_
                    refine lv_goto (tgt := 68) hx hb dX9_makePlain_64 (by decide) ?_
                    have hxb := plS_mid (x := f i) (by simp [nI, Int32.lt_iff_toInt_lt, Int32.le_iff_toInt_le] at c_14 c_27 c_33 c_42 c_48 c_54 c_60; omega) (by simp [nI, Int32.lt_iff_toInt_lt, Int32.le_iff_toInt_le] at c_14 c_27 c_33 c_42 c_48 c_54 c_60; omega)
                    exact lp_68 _ (f i) true (Nat.lt_succ_self _) ⟨fun _ => ⟨hxb.1.symm, hxb.2⟩, fun h => absurd h (by decide)⟩ _ _ _ _ sm g33 g34 g35 hP hD hS (lv_sub hl [1, 2, 3, 0] rfl)
          · have hup := plS_upr (x := f i) (by simp [nI, Int32.lt_iff_toInt_lt, Int32.le_iff_toInt_le] at c_14 c_27 c_33; omega) (by simp [nI, Int32.lt_iff_toInt_lt, Int32.le_iff_toInt_le] at c_14 c_27 c_33; omega)
            refine lv_iinc (v := (plSign (f i))) (lv' := [(3, .int (plSign (f i))), (0, .ref m0), (1, .int (nI (d.toNat))), (2, .int (nI i))]) hx hb dX9_makePlain_36 hl (k := 0) rfl hup.1 (by decide) rfl (fun ls hl => ?_)
            refine lv_iload_n hx hb dX9_makePlain_39 rfl (lv_at hl 0 rfl) ?_
            refine lv_bipush (v := nI 97) hx hb dX9_makePlain_40 (by decide) ?_
            refine lv_icmp_lt (tgt := 51) hx hb dX9_makePlain_42 (by decide) (fun c_42 => ?_) (fun c_42 => ?_)
            · refine lv_iload_n hx hb dX9_makePlain_51 rfl (lv_at hl 0 rfl) ?_
              refine lv_bipush (v := nI 48) hx hb dX9_makePlain_52 (by decide) ?_
              refine lv_icmp_lt (tgt := 67) hx hb dX9_makePlain_54 (by decide) (fun c_54 => ?_) (fun c_54 => ?_)
              · refine lv_iconst (v := nI 0) hx hb dX9_makePlain_67 (by decide) ?_
                exfalso
                simp [nI, Int32.lt_iff_toInt_lt, Int32.le_iff_toInt_le] at c_14 c_27 c_33 c_42 c_54
                omega
              · refine lv_iload_n hx hb dX9_makePlain_57 rfl (lv_at hl 0 rfl) ?_
                refine lv_bipush (v := nI 57) hx hb dX9_makePlain_58 (by decide) ?_
                refine lv_icmp_gt (tgt := 67) hx hb dX9_makePlain_60 (by decide) (fun c_60 => ?_) (fun c_60 => ?_)
                · refine lv_iconst (v := nI 0) hx hb dX9_makePlain_67 (by decide) ?_
                  exfalso
                  simp [nI, Int32.lt_iff_toInt_lt, Int32.le_iff_toInt_le] at c_14 c_27 c_33 c_42 c_54 c_60
                  omega
                · refine lv_iconst (v := nI 1) hx hb dX9_makePlain_63 (by decide) ?_
                  refine lv_goto (tgt := 68) hx hb dX9_makePlain_64 (by decide) ?_
                  exact lp_68 _ (plSign (f i)) true (Nat.lt_succ_self _) ⟨fun _ => ⟨rfl, plS_n32 (by omega)⟩, fun h => absurd h (by decide)⟩ _ _ _ _ sm g33 g34 g35 hP hD hS (lv_sub hl [1, 2, 3, 0] rfl)
            · refine lv_iload_n hx hb dX9_makePlain_45 rfl (lv_at hl 0 rfl) ?_
              refine lv_bipush (v := nI 122) hx hb dX9_makePlain_46 (by decide) ?_
              refine lv_icmp_le (tgt := 63) hx hb dX9_makePlain_48 (by decide) (fun c_48 => ?_) (fun c_48 => ?_)
              · refine lv_iconst (v := nI 1) hx hb dX9_makePlain_63 (by decide) ?_
                refine lv_goto (tgt := 68) hx hb dX9_makePlain_64 (by decide) ?_
                exact lp_68 _ (plSign (f i)) true (Nat.lt_succ_self _) ⟨fun _ => ⟨rfl, plS_n32 (by omega)⟩, fun h => absurd h (by decide)⟩ _ _ _ _ sm g33 g34 g35 hP hD hS (lv_sub hl [1, 2, 3, 0] rfl)
              · refine lv_iload_n hx hb dX9_makePlain_51 rfl (lv_at hl 0 rfl) ?_
                refine lv_bipush (v := nI 48) hx hb dX9_makePlain_52 (by decide) ?_
                refine lv_icmp_lt (tgt := 67) hx hb dX9_makePlain_54 (by decide) (fun c_54 => ?_) (fun c_54 => ?_)
                · refine lv_iconst (v := nI 0) hx hb dX9_makePlain_67 (by decide) ?_
                  exfalso
                  simp [nI, Int32.lt_iff_toInt_lt, Int32.le_iff_toInt_le] at c_14 c_27 c_33 c_42 c_48 c_54
                  omega
                · refine lv_iload_n hx hb dX9_makePlain_57 rfl (lv_at hl 0 rfl) ?_
                  refine lv_bipush (v := nI 57) hx hb dX9_makePlain_58 (by decide) ?_
                  refine lv_icmp_gt (tgt := 67) hx hb dX9_makePlain_60 (by decide) (fun c_60 => ?_) (fun c_60 => ?_)
                  · refine lv_iconst (v := nI 0) hx hb dX9_makePlain_67 (by decide) ?_
                    exfalso
                    simp [nI, Int32.lt_iff_toInt_lt, Int32.le_iff_toInt_le] at c_14 c_27 c_33 c_42 c_48 c_54 c_60
                    omega
                  · refine lv_iconst (v := nI 1) hx hb dX9_makePlain_63 (by decide) ?_
                    refine lv_goto (tgt := 68) hx hb dX9_makePlain_64 (by decide) ?_
                    exact lp_68 _ (plSign (f i)) true (Nat.lt_succ_self _) ⟨fun _ => ⟨rfl, plS_n32 (by omega)⟩, fun h => absurd h (by decide)⟩ _ _ _ _ sm g33 g34 g35 hP hD hS (lv_sub hl [1, 2, 3, 0] rfl)
  exact lp_9 _ 0 [] false fp (Nat.lt_succ_self _) (Nat.zero_le _) rfl (by decide) Hd.nil _ _ _ _ sm g33 g34 g35 hP hD hS (lv_sub hl [2, 1, 0] rfl)
