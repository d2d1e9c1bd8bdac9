set_option maxHeartbeats 4000000 in
set_option maxRecDepth 100000 in
theorem lw_K {s : State} {args : Array Value} (hts : ∀ w ∈ lw_tbl, w.before args s = true) : ∃ (D : va_G) (cB cI cJ cO : ClassId), va_K D vwCl (TY cB cI cJ cO) s := by
  obtain ⟨c0, iS0, hK0⟩ := u_known (C := RJx4a65c) (T := TJx4a65c) (N := 3) (n := 3) hts in_wsJx4a65c0 (hts (.instantiable RJx4a65c 3) (by decide +kernel))
  obtain ⟨c1, iS1, hK1⟩ := u_known (C := RX0) (T := TX0) (N := 7) (n := 7) hts in_wsX00 (hts (.instantiable RX0 7) (by decide +kernel))
  obtain ⟨c2, iS2, hK2⟩ := u_known (C := RX1) (T := TX1) (N := 8) (n := 8) hts in_wsX10 (hts (.instantiable RX1 8) (by decide +kernel))
  obtain ⟨c3, iS3, hK3⟩ := u_known (C := RX2) (T := TX2) (N := 4) (n := 4) hts in_wsX20 (hts (.instantiable RX2 4) (by decide +kernel))
  obtain ⟨c4, iS4, hK4⟩ := u_known (C := RX3) (T := TX3) (N := 3) (n := 3) hts in_wsX30 (hts (.instantiable RX3 3) (by decide +kernel))
  obtain ⟨c5, iS5, hK5⟩ := u_known (C := RX4) (T := TX4) (N := 7) (n := 7) hts in_wsX40 (hts (.instantiable RX4 7) (by decide +kernel))
  obtain ⟨c6, iS6, hK6⟩ := u_known (C := RX5) (T := TX5) (N := 4) (n := 4) hts in_wsX50 (hts (.instantiable RX5 4) (by decide +kernel))
  obtain ⟨c7, iS7, hK7⟩ := u_known (C := RX6) (T := TX6) (N := 5) (n := 5) hts in_wsX60 (hts (.instantiable RX6 5) (by decide +kernel))
  obtain ⟨c8, iS8, hK8⟩ := u_known (C := RX7) (T := TX7) (N := 7) (n := 7) hts in_wsX70 (hts (.instantiable RX7 7) (by decide +kernel))
  obtain ⟨c9, iS9, hK9⟩ := u_known (C := RX8) (T := TX8) (N := 9) (n := 9) hts in_wsX80 (hts (.instantiable RX8 9) (by decide +kernel))
  obtain ⟨c10, iS10, hK10⟩ := u_known (C := RX9) (T := TX9) (N := 32) (n := 32) hts in_wsX90 (hts (.instantiable RX9 32) (by decide +kernel))
  obtain ⟨cB, hB⟩ := arr_c (ty := .byte) (fun _ h => nomatch h) (hts (.arrayClass .byte) (by decide +kernel))
  obtain ⟨cI, hI⟩ := arr_c (ty := .int) (fun _ h => nomatch h) (hts (.arrayClass .int) (by decide +kernel))
  obtain ⟨cJ, hJ⟩ := arr_c (ty := .long) (fun _ h => nomatch h) (hts (.arrayClass .long) (by decide +kernel))
  obtain ⟨cO, hO⟩ := arr_o (hts (.arrayOver (.object "java/lang/Object")) (by decide +kernel))
  refine ⟨(fun k => ([c0, c1, c2, c3, c4, c5, c6, c7, c8, c9, c10] : List ClassId).getD k c0, fun k => ([iS0, iS1, iS2, iS3, iS4, iS5, iS6, iS7, iS8, iS9, iS10] : List (Nat → Nat)).getD k iS0), cB, cI, cJ, cO, fun k q hq => ?_, fun k q hq => ?_⟩
  · match k, hq with
    | 0, hq => cases hq; exact hK0
    | 1, hq => cases hq; exact hK1
    | 2, hq => cases hq; exact hK2
    | 3, hq => cases hq; exact hK3
    | 4, hq => cases hq; exact hK4
    | 5, hq => cases hq; exact hK5
    | 6, hq => cases hq; exact hK6
    | 7, hq => cases hq; exact hK7
    | 8, hq => cases hq; exact hK8
    | 9, hq => cases hq; exact hK9
    | 10, hq => cases hq; exact hK10
    | k + 11, hq => simp [vwCl] at hq
  · match k, hq with
    | 0, hq => cases hq; exact hB
    | 1, hq => cases hq; exact hI
    | 2, hq => cases hq; exact hJ
    | 3, hq => cases hq; exact hO
    | k + 4, hq => simp at hq
theorem vtW_in : ∀ w ∈ vtW, w ∈ lw_tbl := by decide +kernel
theorem txt_in : ∀ q ∈ TXT, Cond.stringRef RX8 q.1 q.2 ∈ lw_tbl := by decide +kernel
set_option maxHeartbeats 4000000 in
set_option maxRecDepth 100000 in
theorem lw_X {s : State} {b : Nat} (hts : ∀ w ∈ lw_tbl, w.before #[Value.ref b] s = true) (hgv : (Jvm.Cond.and given_1 narrow_1).before #[Value.ref b] s = true) : ∃ ad mi : Nat, XT TXT ad mi (fun q : Nat => s.heap.size ≤ q) s := by
  have hg := flat_of_before _ hgv
  have hA : ∀ a : Nat, a < s.heap.size → ¬ (fun q : Nat => s.heap.size ≤ q) a := fun a h => Nat.not_le.mpr h
  obtain ⟨ad, hev, hT⟩ := va_Tof (args := #[Value.ref b]) (s := s) (tm := .static RJx4a65c "DEFAULTCAPACITY_EMPTY_ELEMENTDATA" "[Ljava/lang/Object;") (ty := .object "java/lang/Object") (N := 0) (f := fun _ => .null) (A := (fun q : Nat => s.heap.size ≤ q)) (by decide) (hg _ (by decide +kernel)) (va_eqt (z := 0) (hg _ (by decide +kernel))) (fun j hj => absurd hj (Nat.not_lt_zero j)) hA
  obtain ⟨mi, hMi⟩ := va_Mi.of (args := #[Value.ref b]) (s := s) (C := "[Ljava/lang/Object;") (hg _ (by decide +kernel))
  refine ⟨ad, mi, ⟨⟨va_Nw.of rfl (hts (.methodLinkNest RX1 11 yX3_init "TwinFinder") (by decide +kernel)), va_Nw.of rfl (hts (.methodLinkNest RX8 11 yX7_init "TwinFinder") (by decide +kernel)), va_Nw.of rfl (hts (.methodLinkNest RX8 18 yX6_init "TwinFinder") (by decide +kernel)), va_Nw.of rfl (hts (.methodLinkNest RX8 32 yX5_init "TwinFinder") (by decide +kernel)), va_Nw.of rfl (hts (.methodLinkNest RX8 39 yX2_init "TwinFinder") (by decide +kernel)), va_Nw.of rfl (hts (.methodLinkNest RX8 46 yX1_init "TwinFinder") (by decide +kernel))⟩, va_Nw.of rfl (hts (.castable RX0 "java/lang/Object") (by decide +kernel)), va_Zref (hts (.laysStatic RJx4a65c "DEFAULTCAPACITY_EMPTY_ELEMENTDATA" "[Ljava/lang/Object;") (by decide +kernel)) (hts (.initialized RJx4a65c) (by decide +kernel)) hev hA, hT, hMi, va_Dc.of (hts (.declares ⟨"java/lang/Object", "getClass", "()Ljava/lang/Class;"⟩) (by decide +kernel)), va_AO.of (hts (.arrayOver (.object "java/lang/Object")) (by decide +kernel))⟩, fun w hw => va_tabs (vt_tab (List.all_eq_true.mp vtW_s w hw)) rfl (hts w (vtW_in w hw)), ?_, ?_, fun q hq => ?_⟩
  · exact vx_Zqof (hts (.laysStatic Bundle.tN "UNASSIGNED_STACK" Bundle.steD) (by decide +kernel)) (hts (.initialized Bundle.tN) (by decide +kernel)) (hg _ (by decide +kernel)) hA
  · exact vx_Zqof (hts (.laysStatic Bundle.tN "SUPPRESSED_SENTINEL" Bundle.listD) (by decide +kernel)) (hts (.initialized Bundle.tN) (by decide +kernel)) (hg _ (by decide +kernel)) hA
  · have h1 := hts _ (txt_in q hq)
    have h2 : (Cond.exactly (.string RX8 q.1) "java/lang/String").before #[Value.ref b] s = true := by
      simp only [TXT, List.mem_cons, List.not_mem_nil, or_false] at hq
      rcases hq with rfl | rfl | rfl | rfl | rfl <;> exact hg _ (by decide +kernel)
    obtain ⟨a, _, _, _, ha, -⟩ := Cond.exactly_spec h2
    exact ⟨a, vk_R.of h1 ha⟩
