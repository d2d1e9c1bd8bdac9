set_option maxHeartbeats 8000000 in
set_option maxRecDepth 100000 in
/-- the law, from its entry -/
theorem whole_start {p : Program} {e : Env} {s : State} {m : MethodId} {below : List Frame} {meth : Method} {c : Code} (l : Launch) (hlt : l.stackTraces = false) {b L : Nat} {xs : Nat → Int32} (hL : L ≤ 3072) (C0 : lw_At p s m meth c b L xs) : W p l e room_1 s m #[Value.ref b] below meth c s.heap [] 0 0 (lw_Z below #[Value.ref b] s) (entryFrame m ([Value.ref b] : List Value).toArray 7) := by
  obtain ⟨hx, hb, hr, hml, hown, hts0, hX, hbl, hlocks, hgv⟩ := id C0
  have hts : ∀ w ∈ wsL_law, w.before #[Value.ref b] s = true := fun w h => hts0 w (wsL_law_in w h)
  have hA : ∀ q : Nat, s.heap.size ≤ q → (fun q : Nat => s.heap.size ≤ q) q := fun _ h => h
  obtain ⟨D, cB, cI, cJ, cO, hK⟩ := lw_K hts0
  obtain ⟨ad, mi, hXT⟩ := lw_X hts0 hgv
  have hS : va_S (fun q : Nat => s.heap.size ≤ q) s.heap s.heap [] := va_S.rf
  have hP : va_P D vwCl [] s.heap := fun k q h => by simp at h
  have hD : va_D (fun q : Nat => s.heap.size ≤ q) ([] : va_W) := ⟨fun i j p q h => by simp at h, fun k q h => by simp at h⟩
  have hl := lv_entry ([.ref b]) (n := 7) (Nat.le_of_ble_eq_true rfl)
  rw [lg_entry_eq]
  generalize (lg_sl ([.ref b]) ++ List.replicate (7 - (lg_sl ([.ref b])).length) Slot.unset).toArray = ls at hl ⊢
  have hl : lv_has ls 7 [(0, .ref b)] := hl
  refine nx_new (ci := 9) (fs := [.null, .null, .null, .null, .null, .null, .null, .int (nI 0), .int (nI 0)]) (C := RX8) (T := TX8) (N := 9) hx hb hts0 in_wsX80 tyX8 tyX8_ok hown (hts (.classLink RL 8 RX8) (by decide +kernel)) (hts (.instantiable RX8 9) (by decide +kernel)) (hts (.initialized RX8) (by decide +kernel)) hK hP hD hS hA rfl (fun j hj => by rcases (show j = 0 ∨ j = 1 ∨ j = 2 ∨ j = 3 ∨ j = 4 ∨ j = 5 ∨ j = 6 ∨ j = 7 ∨ j = 8 by omega) with rfl | rfl | rfl | rfl | rfl | rfl | rfl | rfl | rfl <;> rfl) (Nat.le_of_ble_eq_true rfl) (Nat.le_of_ble_eq_true rfl) dL_law_0 (fun z0 ws1 H1 g0 ps1 hP hD hS => ?_)
  have hl1 : ws1.length = 1 := ps1.1
  have g0 : ws1[0]? = some (z0, (.inr (9, [.null, .null, .null, .null, .null, .null, .null, .int (nI 0), .int (nI 0)]) : va_E)) := g0
  refine lv_dup hx hb dL_law_3 rfl ?_
  refine CV.go (va_runI (As := []) (rest := [.ref z0]) ⟨hx, hb, hml, hown, hts⟩ (c_X8_init (mi := mi) g0 hl1 _) (cwI 0 hts gL_law_X8_init rfl rfl rfl (hts (.initialized RX8) (by decide +kernel)) (hts (.methodLink RL 33 yX8_init) (by decide +kernel)) (hts (.instanceMethod yX8_init) (by decide +kernel)) rfl (by decide +kernel) ⟨Nat.le_of_ble_eq_true rfl, Nat.le_of_ble_eq_true rfl⟩) ⟨pwx_blind, fun U hU hW => pwx_pre hXT.1 hA hS hK hP hD hU hW⟩ rfl rfl hl.1 rfl (lv_room (Nat.le_of_ble_eq_true rfl)) dL_law_4 ⟨Nat.le_of_ble_eq_true rfl, Nat.le_of_ble_eq_true rfl⟩) hD hS hA (fun ws2 H2 locs2 hp hP hD hS => ?_)
  obtain ⟨a1, a2, a3, a4, t0, t1, t2, t3, t4, d0, d1, d2, d3, d4, d5, s0, s1, s2, s3, e0, k0, k1, k2, k3, k4, k5, k6, k7, k8, k9, k10, al, ta, hta, hl2, -, g0, g1, g2, g3, g4, g5, g6, g7, g8, g9, g10, g11, g12, g13, g14, g15, g16, g17, g18, g19, g20, g21, g22, g23, g24, g25, g26, g27, g28, g29, g30, g31, g32⟩ := hp
  refine lv_astore_n (lv' := [(1, .ref z0), (0, .ref b)]) hx hb dL_law_7 rfl hl (by decide) rfl (fun ls hl => ?_)
  refine nx_new (ci := 10) (fs := [.int (nI 0), .null, .null, .int (nI 0), .int (nI 0), .null, .null, .null, .int (nI 0), .int (nI 0), .int (nI 0), .int (nI 0), .null, .int (nI 0), .null, .null, .null, .int (nI 0), .int (nI 0), .int (nI 0), .null, .null, .null, .null, .null, .int (nI 0), .null, .int (nI 0), .int (nI 0), .int (nI 0), .int (nI 0), .null]) (C := RX9) (T := TX9) (N := 32) hx hb hts0 in_wsX90 tyX9 tyX9_ok hown (hts (.classLink RL 34 RX9) (by decide +kernel)) (hts (.instantiable RX9 32) (by decide +kernel)) (hts (.initialized RX9) (by decide +kernel)) hK hP hD hS hA rfl (fun j hj => by rcases (show j = 0 ∨ j = 1 ∨ j = 2 ∨ j = 3 ∨ j = 4 ∨ j = 5 ∨ j = 6 ∨ j = 7 ∨ j = 8 ∨ j = 9 ∨ j = 10 ∨ j = 11 ∨ j = 12 ∨ j = 13 ∨ j = 14 ∨ j = 15 ∨ j = 16 ∨ j = 17 ∨ j = 18 ∨ j = 19 ∨ j = 20 ∨ j = 21 ∨ j = 22 ∨ j = 23 ∨ j = 24 ∨ j = 25 ∨ j = 26 ∨ j = 27 ∨ j = 28 ∨ j = 29 ∨ j = 30 ∨ j = 31 by omega) with rfl | rfl | rfl | rfl | rfl | rfl | rfl | rfl | rfl | rfl | rfl | rfl | rfl | rfl | rfl | rfl | rfl | rfl | rfl | rfl | rfl | rfl | rfl | rfl | rfl | rfl | rfl | rfl | rfl | rfl | rfl | rfl <;> rfl) (Nat.le_of_ble_eq_true rfl) (Nat.le_of_ble_eq_true rfl) dL_law_8 (fun m0 ws3 H3 g33 ps3 hP hD hS => ?_)
  have hl3 : ws3.length = 34 := by rw [ps3.1, hl2]
  rw [hl2] at g33
  have g0 := ps3.get g0
  have g1 := ps3.get g1
  have g2 := ps3.get g2
  have g3 := ps3.get g3
  have g4 := ps3.get g4
  have g5 := ps3.get g5
  have g6 := ps3.get g6
  have g7 := ps3.get g7
  have g8 := ps3.get g8
  have g9 := ps3.get g9
  have g10 := ps3.get g10
  have g11 := ps3.get g11
  have g12 := ps3.get g12
  have g13 := ps3.get g13
  have g14 := ps3.get g14
  have g15 := ps3.get g15
  have g16 := ps3.get g16
  have g17 := ps3.get g17
  have g18 := ps3.get g18
  have g19 := ps3.get g19
  have g20 := ps3.get g20
  have g21 := ps3.get g21
  have g22 := ps3.get g22
  have g23 := ps3.get g23
  have g24 := ps3.get g24
  have g25 := ps3.get g25
  have g26 := ps3.get g26
  have g27 := ps3.get g27
  have g28 := ps3.get g28
  have g29 := ps3.get g29
  have g30 := ps3.get g30
  have g31 := ps3.get g31
  have g32 := ps3.get g32
  refine lv_dup hx hb dL_law_11 rfl ?_
  refine CV.go (va_runI (As := []) (rest := [.ref m0]) ⟨hx, hb, hml, hown, hts⟩ (c_X9_init g33 hl3 _) (cwI 0 hts gL_law_X9_init rfl rfl rfl (hts (.initialized RX9) (by decide +kernel)) (hts (.methodLink RL 36 yX9_init) (by decide +kernel)) (hts (.instanceMethod yX9_init) (by decide +kernel)) rfl (by decide +kernel) ⟨Nat.le_of_ble_eq_true rfl, Nat.le_of_ble_eq_true rfl⟩) ⟨pw_blind, fun U hU hW => pw_pre hK hP hD hU hW⟩ rfl rfl hl.1 rfl (lv_room (Nat.le_of_ble_eq_true rfl)) dL_law_12 ⟨Nat.le_of_ble_eq_true rfl, Nat.le_of_ble_eq_true rfl⟩) hD hS hA (fun ws4 H4 locs4 hp hP hD hS => ?_)
  obtain ⟨b1, b2, b5, b6, b7, b12, b14, b15, b16, b20, b21, b22, b23, b24, b26, b31, tc, htc, hl4, sm4, g33, g34, g35, g36, g37, g38, g39, g40, g41, g42, g43, g44, g45, g46, g47, g48, g49⟩ := hp
  have g0 := sm4.get g0 (by simp)
  have g1 := sm4.get g1 (by simp)
  have g2 := sm4.get g2 (by simp)
  have g3 := sm4.get g3 (by simp)
  have g4 := sm4.get g4 (by simp)
  have g5 := sm4.get g5 (by simp)
  have g6 := sm4.get g6 (by simp)
  have g7 := sm4.get g7 (by simp)
  have g8 := sm4.get g8 (by simp)
  have g9 := sm4.get g9 (by simp)
  have g10 := sm4.get g10 (by simp)
  have g11 := sm4.get g11 (by simp)
  have g12 := sm4.get g12 (by simp)
  have g13 := sm4.get g13 (by simp)
  have g14 := sm4.get g14 (by simp)
  have g15 := sm4.get g15 (by simp)
  have g16 := sm4.get g16 (by simp)
  have g17 := sm4.get g17 (by simp)
  have g18 := sm4.get g18 (by simp)
  have g19 := sm4.get g19 (by simp)
  have g20 := sm4.get g20 (by simp)
  have g21 := sm4.get g21 (by simp)
  have g22 := sm4.get g22 (by simp)
  have g23 := sm4.get g23 (by simp)
  have g24 := sm4.get g24 (by simp)
  have g25 := sm4.get g25 (by simp)
  have g26 := sm4.get g26 (by simp)
  have g27 := sm4.get g27 (by simp)
  have g28 := sm4.get g28 (by simp)
  have g29 := sm4.get g29 (by simp)
  have g30 := sm4.get g30 (by simp)
  have g31 := sm4.get g31 (by simp)
  have g32 := sm4.get g32 (by simp)
  refine lv_astore_n (lv' := [(2, .ref m0), (1, .ref z0), (0, .ref b)]) hx hb dL_law_15 rfl hl (by decide) rfl (fun ls hl => ?_)
  refine lv_iconst (v := nI 1) hx hb dL_law_16 (by decide) ?_
  refine nx_newJ (N' := 1) hx hb (hts (.arrayClass .long) (by decide +kernel)) hK hP hD hS hA (by decide) (Nat.le_of_ble_eq_true rfl) (Nat.le_of_ble_eq_true rfl) dL_law_17 (fun o0 ws5 H5 g50 ps5 hP hD hS => ?_)
  have hl5 : ws5.length = 51 := by rw [ps5.1, hl4]
  rw [hl4] at g50
  have g0 := ps5.get g0
  have g1 := ps5.get g1
  have g2 := ps5.get g2
  have g3 := ps5.get g3
  have g4 := ps5.get g4
  have g5 := ps5.get g5
  have g6 := ps5.get g6
  have g7 := ps5.get g7
  have g8 := ps5.get g8
  have g9 := ps5.get g9
  have g10 := ps5.get g10
  have g11 := ps5.get g11
  have g12 := ps5.get g12
  have g13 := ps5.get g13
  have g14 := ps5.get g14
  have g15 := ps5.get g15
  have g16 := ps5.get g16
  have g17 := ps5.get g17
  have g18 := ps5.get g18
  have g19 := ps5.get g19
  have g20 := ps5.get g20
  have g21 := ps5.get g21
  have g22 := ps5.get g22
  have g23 := ps5.get g23
  have g24 := ps5.get g24
  have g25 := ps5.get g25
  have g26 := ps5.get g26
  have g27 := ps5.get g27
  have g28 := ps5.get g28
  have g29 := ps5.get g29
  have g30 := ps5.get g30
  have g31 := ps5.get g31
  have g32 := ps5.get g32
  have g33 := ps5.get g33
  have g34 := ps5.get g34
  have g35 := ps5.get g35
  have g36 := ps5.get g36
  have g37 := ps5.get g37
  have g38 := ps5.get g38
  have g39 := ps5.get g39
  have g40 := ps5.get g40
  have g41 := ps5.get g41
  have g42 := ps5.get g42
  have g43 := ps5.get g43
  have g44 := ps5.get g44
  have g45 := ps5.get g45
  have g46 := ps5.get g46
  have g47 := ps5.get g47
  have g48 := ps5.get g48
  have g49 := ps5.get g49
  refine lv_astore_n (lv' := [(3, .ref o0), (2, .ref m0), (1, .ref z0), (0, .ref b)]) hx hb dL_law_19 rfl hl (by decide) rfl (fun ls hl => ?_)
  refine lv_iconst (v := nI 0) hx hb dL_law_20 (by decide) ?_
  refine lv_istore (lv' := [(4, .int (nI 0)), (3, .ref o0), (2, .ref m0), (1, .ref z0), (0, .ref b)]) hx hb dL_law_21 hl (by decide) rfl (fun ls hl => ?_)
  have hE : ∀ j, j < 64 → (fun jj => nI (tc jj)) j = (fun jj => nI (ta jj)) j := fun j hj => by
    show nI (tc j) = nI (ta j)
    rw [hta j hj, htc j hj]
  have hP := hP.conv g43 hE
  have hD := hD.conv (y := .inl (cI, 64, .inl (fun jj => nI (ta jj)))) g43
  have up : Up 43 ws5 (ws5.set 43 (b20, .inl (cI, 64, .inl (fun jj => nI (ta jj))))) := up_set
  have n43 := set_at (y := (b20, .inl (cI, 64, .inl (fun jj => nI (ta jj))))) g43
  have hl6 : (ws5.set 43 (b20, .inl (cI, 64, .inl (fun jj => nI (ta jj))))).length = 51 := by rw [List.length_set]; exact hl5
  generalize ws5.set 43 (b20, .inl (cI, 64, .inl (fun jj => nI (ta jj)))) = wz at hP hD up n43 hl6
  have g0 := up.get g0 (by decide)
  have g1 := up.get g1 (by decide)
  have g2 := up.get g2 (by decide)
  have g3 := up.get g3 (by decide)
  have g4 := up.get g4 (by decide)
  have g5 := up.get g5 (by decide)
  have g6 := up.get g6 (by decide)
  have g7 := up.get g7 (by decide)
  have g8 := up.get g8 (by decide)
  have g9 := up.get g9 (by decide)
  have g10 := up.get g10 (by decide)
  have g11 := up.get g11 (by decide)
  have g12 := up.get g12 (by decide)
  have g13 := up.get g13 (by decide)
  have g14 := up.get g14 (by decide)
  have g15 := up.get g15 (by decide)
  have g16 := up.get g16 (by decide)
  have g17 := up.get g17 (by decide)
  have g18 := up.get g18 (by decide)
  have g19 := up.get g19 (by decide)
  have g20 := up.get g20 (by decide)
  have g21 := up.get g21 (by decide)
  have g22 := up.get g22 (by decide)
  have g23 := up.get g23 (by decide)
  have g24 := up.get g24 (by decide)
  have g25 := up.get g25 (by decide)
  have g26 := up.get g26 (by decide)
  have g27 := up.get g27 (by decide)
  have g28 := up.get g28 (by decide)
  have g29 := up.get g29 (by decide)
  have g30 := up.get g30 (by decide)
  have g31 := up.get g31 (by decide)
  have g32 := up.get g32 (by decide)
  have g33 := up.get g33 (by decide)
  have g34 := up.get g34 (by decide)
  have g35 := up.get g35 (by decide)
  have g36 := up.get g36 (by decide)
  have g37 := up.get g37 (by decide)
  have g38 := up.get g38 (by decide)
  have g39 := up.get g39 (by decide)
  have g40 := up.get g40 (by decide)
  have g41 := up.get g41 (by decide)
  have g42 := up.get g42 (by decide)
  have g44 := up.get g44 (by decide)
  have g45 := up.get g45 (by decide)
  have g46 := up.get g46 (by decide)
  have g47 := up.get g47 (by decide)
  have g48 := up.get g48 (by decide)
  have g49 := up.get g49 (by decide)
  have g50 := up.get g50 (by decide)
  have hSW : ShW wz cI cJ cO ad s0 s1 s2 s3 0 ad ad ad 0 (fun _ => ((0, 0), (0, 0, 0, 0), (0, 0), (fun _ => 0), (fun _ => 0), (fun _ => 0), (fun _ => 0))) [] [] [] :=
    ⟨g16, ⟨0, g17, Or.inl ⟨rfl, rfl⟩⟩, ⟨0, g18, Or.inl ⟨rfl, rfl⟩⟩, ⟨0, g19, Or.inl ⟨rfl, rfl⟩⟩, ⟨fun t ht => absurd ht (Nat.not_lt_zero t), fun t u ht => absurd ht (Nat.not_lt_zero t)⟩, ⟨fun _ => rfl, fun _ => rfl, fun _ => rfl⟩, List.nodup_nil, fun t ht => absurd ht List.not_mem_nil, rfl, fun t ht => absurd ht List.not_mem_nil, by rw [hl6]; exact Nat.le_refl _⟩
  have hI : LwI cB cI cJ cO ad z0 m0 o0 wz := by
    refine ⟨([] : List Int32), ([] : List (List Int32)), 0, 4, ta, (fun _ => 0), [], [], 0, 16, 4, 1, 2, ?_, ?_, ⟨0, ?_⟩, _, g50⟩
    · exact ⟨by decide, by decide, by decide, by decide, by decide, by decide, tab1 hta, by decide, fun e he => absurd he List.not_mem_nil, by decide, fun d hd => absurd hd List.not_mem_nil, by decide, by decide, by decide, by decide, by decide, by decide⟩
    · exact ⟨a1, t0, d0, s0, e0, k0, al, s1, s2, s3, ad, ad, ad, 0, _, [], [], [], g0, ⟨a2, a3, a4, 0, 0, 0, _, _, _, g1, g2, g3, g4, Hd.nil⟩, ⟨t1, t2, t3, t4, _, _, _, _, g5, g6, g7, g8, g9, StC.zero⟩, ⟨d1, d2, d3, d4, d5, _, _, _, [], g10, g11, g12, g13, g14, g15, fun i hi => absurd hi (Nat.not_lt_zero i), perm0, fun e he => absurd he List.not_mem_nil⟩, g20, ⟨k1, k2, k3, k4, k5, k6, k7, k8, k9, k10, 0, 0, 0, 0, _, _, _, _, _, _, _, _, g21, g22, g23, g24, g25, g26, g27, g28, g29, g30, g31, by decide, fun h9 => absurd h9 (by decide)⟩, ⟨_, g32, trivial⟩, hSW, by decide, ⟨rfl, fun i t h9 => absurd h9 (by simp)⟩⟩
    · exact ⟨b1, b2, b5, b6, b7, b12, b14, b15, b16, b20, b21, b22, b23, b24, b26, b31, 0, 0, 0, _, _, _, _, _, _, _, _, _, _, _, _, _, _, g33, g34, g35, g36, g37, g38, g39, g40, g41, g42, n43, g44, g45, g46, g47, g48, g49, Hd.nil, ⟨Hd.nil, fun i hi => absurd hi (Nat.not_lt_zero i)⟩, fun i hi => absurd hi (Nat.not_lt_zero i), fun i hi => absurd hi (Nat.not_lt_zero i), by decide, fun _ s hs => absurd hs (Nat.not_lt_zero s)⟩
  have C : LC p l s m meth c b L xs D cB cI cJ cO ad mi := ⟨hx, hb, hr, hml, hown, hts, hX, hbl, hlocks, hlt, hK, hXT⟩
  exact law_loop C hL (L + 1) 0 (by omega) (by omega) wz H5 locs4 ls hI hP hD hS (lv_sub hl [4, 3, 2, 1, 0] rfl)
