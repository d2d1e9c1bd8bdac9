set_option maxHeartbeats 4000000 in
set_option maxRecDepth 100000 in
theorem c_J7_copyOf_1904c {D : va_G} {cB cI cJ cO : ClassId} {l : Launch} {ad mi : Nat} {q_ e_ cap nl L0 : Nat} {f : Nat → Option Nat} {R : List Nat} {ws : va_W} (gq_ : ws[q_]? = some (e_, .inl (cO, cap, .inr (.inr (.inr (.inr f)))))) (hlen : ws.length = L0) (hR : R.length = cap) (hHR : HdR f R) (hcb : cap ≤ 33) (hnl : cap ≤ nl ∧ nl ≤ 49) (hel : DIn ws R) : CQX D (TY cB cI cJ cO) l yJ7_copyOf_1904c wsJ7_copyOf_1904c ({ frames := 2, cells := 1, slots := 49, locals := 63 }) ad mi [.ref e_, .int (nI nl)] ws (fun r ws' => ∃ q2 : Nat, r = some (q2) ∧ (DIn ws' R) ∧ (ws'.length = L0 + 1) ∧ Sm (fun k => False) ws ws' ∧ ws'[L0]? = some (q2, .inl (cO, nl, .inr (.inr (.inr (.inr (va_cpy f (fun _ => none) 0 0 cap))))))) := by
  refine CQX.of (cc := cJ7_copyOf_1904c) (maxL := 2) (ret := (some (.array (.object "java/lang/Object")))) (by decide) rfl (Nat.le_of_ble_eq_true rfl) ?_
  intro p e s m below meth c A C hK hP hD hA hS hX ls hl
  have hN := hX.1
  obtain ⟨hx, hb, hr, hml, hts, hown, hlocks, hnm⟩ := id C
  have hl : lv_has ls 2 [(0, .ref e_), (1, .int (nI nl))] := hl
  have sm : Sm (fun k => False) ws ws := Sm.rf
  have hc0 : (0 : Nat) ≤ 1 := by decide
  have hs0 : (0 : Nat) ≤ 49 := by decide
  refine lv_aload_n hx hb dJ7_copyOf_1904c_0 rfl (lv_at hl 0 rfl) ?_
  refine lv_iload_n hx hb dJ7_copyOf_1904c_1 rfl (lv_at hl 1 rfl) ?_
  refine lv_aload_n hx hb dJ7_copyOf_1904c_2 rfl (lv_at hl 0 rfl) ?_
  refine va_getC hx hb (hml.trans hl.1.symm) hown (hts (.methodLink RJ7 86 ⟨"java/lang/Object", "getClass", "()Ljava/lang/Class;"⟩) (by decide +kernel)) hX.2.2.2.2.2.1.use (hts (.selects "[Ljava/lang/Object;" ⟨"java/lang/Object", "getClass", "()Ljava/lang/Class;"⟩ ⟨"java/lang/Object", "getClass", "()Ljava/lang/Class;"⟩) (by decide +kernel)) (hts (.instanceMethod ⟨"java/lang/Object", "getClass", "()Ljava/lang/Class;"⟩) (by decide +kernel)) (hts (.native ⟨"java/lang/Object", "getClass", "()Ljava/lang/Class;"⟩) (by decide +kernel)) hX.2.2.2.2.1 (arr_recv hK hP gq_) (Nat.le_of_ble_eq_true rfl) (Nat.le_of_ble_eq_true rfl) dJ7_copyOf_1904c_3 ?_
  have hp_q_ := gl_lt gq_
  refine CQ.go (va_runS (As := [.ref e_, .int (nI nl), .ref mi]) (rest := []) ⟨hx, hb, hml, hown, hts⟩ (c_J7_copyOf_6403c  gq_ hlen hR hHR hcb hnl hel _) (va_cwS 3 hts gJ7_copyOf_1904c_J7_copyOf_6403c rfl rfl rfl (by decide +kernel) ⟨Nat.le_of_ble_eq_true rfl, Nat.le_of_ble_eq_true rfl⟩) ⟨pwx_blind, fun U hU hW => pwx_pre hX hA hS hK hP hD hU hW⟩ rfl rfl hl.1 rfl (lv_room (Nat.le_of_ble_eq_true rfl)) dJ7_copyOf_1904c_6 ⟨Nat.le_of_ble_eq_true rfl, Nat.le_of_ble_eq_true rfl⟩) hD hS hA (fun r_1 ws_2 H locs hp hP hD hS => ?_)
  obtain ⟨q2, rfl, hel, hl9, sm_3, gL0⟩ := hp
  have gq_ := sm_3.get gq_ (by intro h9; first | (simp at h9; done) | ((try simp only at h9); omega))
  have sm := sm.calln sm_3 (by intro k hk; first | exact False.elim hk | ((try simp only at hk ⊢); omega))
  have gL0 : ws_2[L0]? = some (q2, .inl (cO, nl, .inr (.inr (.inr (.inr (va_cpy f (fun _ => none) 0 0 cap)))))) := gL0
  have hlen : ws_2.length = L0 + 1 := hl9
  refine W.widen (k := 1) (n := 49) (Nat.le_of_ble_eq_true rfl) (Nat.le_of_ble_eq_true rfl) ?_
  exact CQ.ret (v := some q2) C hK hP hD hS (Or.inr ⟨_, rfl⟩) (⟨_, rfl, hel, hlen, sm, gL0⟩) (by decide) (by decide) dJ7_copyOf_1904c_9
