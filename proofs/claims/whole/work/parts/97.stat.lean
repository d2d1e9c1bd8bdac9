def lK (k : Nat) : Prop := k ≤ 32 ∨ 50 ≤ k
theorem CIT.ofH {tx : List (Nat × String)} {D : va_G} {tys : List (ClassId × FieldType)} {l : Launch} {y : MethodName} {w w' : List Cond} {rm : Room} {av : List Value} {ws : va_W} {cc : ByteArray} {maxL : Nat} {ret : Option FieldType} {hh : List (Nat × Nat × Nat × Nat)} {ad mi : Nat} {px : String → va_W → Prop} {post : Int32 → va_W → Prop} (hy : plainName y.cls = true) (hw : w = Cond.codeWith y cc maxL ret hh :: w') (hn : (lg_sl av).length ≤ maxL)
    (body : ∀ (p : Program) (e : Env) (s : State) (m : MethodId) (below : List Frame) (meth : Method) (c : Code) (A : Nat → Prop), Cx p s m meth c y cc ret maxL av.toArray w → c.exceptionTable.toList = tableOf hh → va_K D vwCl tys s → va_P D vwCl ws s.heap → va_D A ws → (∀ q : Nat, s.heap.size ≤ q → A q) → va_S A s.heap s.heap [] → XT tx ad mi A s → ∀ ls : Array Slot, lv_has ls maxL (lv_args 0 av) → W p l e rm s m av.toArray below meth c s.heap [] 0 0 (ZIT D tys post px below av s rm.cells rm.slots A) (F0 m 0 ls [])) : CIT tx D tys l y w rm ad mi av ws post px := by
  intro sz
  refine vx_ofWH (cc := cc) (maxL := maxL) (ret := ret) (hh := hh) hy hw ?_
  intro p e s m args below meth c s₁ B hml hv
  obtain ⟨rfl, ⟨rfl, hP, hK, hD0⟩, hN⟩ := hv
  have hl := lv_entry av (n := maxL) hn
  have htb := vx_table (x := y) B (atoms_spec (ws := w) B.pre _ (by rw [hw]; exact List.mem_cons_self))
  rw [lg_entry_eq]
  exact body p e s m below meth c _ ⟨B.exec, B.bytes, B.returns, hml, atoms_spec (ws := w) B.pre, findClass_of_methodNamed B.named, B.notSynchronized, (name_of_methodNamed B.named B.method).1⟩ htb hK hP (hD0.self (sz := s.heap.size)) (fun q h => Or.inr h) va_S.rf hN _ hl
theorem vt_cast {tx : List (Nat × String)} {ad mi : Nat} {A : Nat → Prop} {s : State} {E : String} {args : Array Value} (hX : XT tx ad mi A s) (h : Cond.castable E E ∈ vtW) : (Cond.castable E E).before args s = true := va_tabs rfl rfl (hX.2.1 _ h)
theorem vt_cI : Cond.castable IAE IAE ∈ vtW := by decide +kernel
theorem vt_cN : Cond.castable NSE NSE ∈ vtW := by decide +kernel
section STA
variable {D : va_G} {cB cI cJ cO : ClassId} {l : Launch} {ad mi z0 o0 : Nat} {vv : Nat → Int64} {T : List Int32} {sh : List (List Int32)} {so wi : Nat} {ta tb : Nat → Nat} {E : List (Nat × Nat × Nat)} {docs : List (Nat × List Nat)} {ca bb rr pp qq : Nat} {ws : va_W}
set_option maxHeartbeats 4000000 in
theorem r_mode {v q : Int32} (hlt : l.stackTraces = false) (hO : Ok T sh so wi ta tb E docs ca bb rr pp qq) (h : CoI cB cI cJ cO ad z0 T sh so wi ta tb E docs ca bb rr pp qq ws) (g50 : ws[50]? = some (o0, (.inl (cJ, 1, .inr (.inl vv)) : va_E))) : CIT TXT D (TY cB cI cJ cO) l yL_mode wsL_mode ({ frames := 11, cells := 49, slots := 2358, locals := 330 }) ad mi [.ref z0, .int v, .int q, .ref o0] ws (fun r ws' => r = nI ((!(modeOk v q)).toNat) ∧ Ok T ((bif modeOk v q then ([] : List (List Int32)) else sh)) ((bif modeOk v q then v.toNatClampNeg else so)) ((bif modeOk v q then q.toNatClampNeg else wi)) ta tb E ((bif modeOk v q then ([] : List (Nat × List Nat)) else docs)) ((bif modeOk v q then 0 else ca)) bb rr pp qq ∧ CoI cB cI cJ cO ad z0 T ((bif modeOk v q then ([] : List (List Int32)) else sh)) ((bif modeOk v q then v.toNatClampNeg else so)) ((bif modeOk v q then q.toNatClampNeg else wi)) ta tb E ((bif modeOk v q then ([] : List (Nat × List Nat)) else docs)) ((bif modeOk v q then 0 else ca)) bb rr pp qq ws' ∧ Sm lK ws ws' ∧ ∃ v2 : Nat → Int64, ws'[50]? = some (o0, (.inl (cJ, 1, .inr (.inl v2)) : va_E)) ∧ ((modeOk v q) = true → v2 0 = (bif modeOk v q then nI docs.length else 0).toInt64)) (fun _ _ => False) := by
  obtain ⟨a1, t0, d0, s0, e0, k0, al, s1, s2, s3, eh, es, er, nd, dd, HS, SS, RS, g0, -⟩ := id h
  refine CIT.ofH (cc := cL_mode) (maxL := 5) (ret := some .int) (hh := [(0, 10, 13, 13)]) (by decide) rfl (Nat.le_of_ble_eq_true rfl) ?_
  intro p e s m below meth c A C htab hK hP hD hA hS hXT ls hl
  obtain ⟨hx, hb, hr, hml, hts, hown, hlocks, hnm⟩ := id C
  have hl : lv_has ls 5 [(0, .ref z0), (1, .int v), (2, .int q), (3, .ref o0)] := hl
  refine lv_aload_n hx hb dL_mode_0 rfl (lv_at hl 3 rfl) ?_
  refine lv_iconst (v := nI 0) hx hb dL_mode_1 (by decide) ?_
  refine lv_aload_n hx hb dL_mode_2 rfl (lv_at hl 0 rfl) ?_
  refine lv_iload_n hx hb dL_mode_3 rfl (lv_at hl 1 rfl) ?_
  refine lv_iload_n hx hb dL_mode_4 rfl (lv_at hl 2 rfl) ?_
  refine CIT.go (vx_runV (As := [.int v, .int q]) (rest := [.int (nI 0), .ref o0]) ⟨hx, hb, hml, hown, hts⟩ (q_mode (mi := mi) hlt hO h _) (cwV 2 hts gL_mode_X8_mode rfl rfl rfl (by decide +kernel) ⟨Nat.le_of_ble_eq_true rfl, Nat.le_of_ble_eq_true rfl⟩) ⟨pwt_blind, va_recv hK hP (ci := 9) (q0 := 0) rfl g0, fun U hU hW => pwt_pre hXT hA hS hK hP hD hU hW⟩ rfl rfl hl.1 rfl (lv_room (Nat.le_of_ble_eq_true rfl)) dL_mode_5 ⟨Nat.le_of_ble_eq_true rfl, Nat.le_of_ble_eq_true rfl⟩) hD hS hA (fun EX ce q9 u H1 locs1 hp hP hD hS hce hcv hcl => ?_) (fun r u H1 locs1 hp hP hD hS => ?_)
  · obtain ⟨rfl, hk, hO2, hC2, sm⟩ := hp
    refine vx_catch (name := IAE) hown [] ⟨0, 10, 13, 13⟩ [] (by rw [htab]; rfl) (fun z hz => absurd hz List.not_mem_nil) (by decide) (by decide) (hts (.classLink RL 13 IAE) (by decide +kernel)) (vt_cast hXT vt_cI) hce hcv hcl ?_
    refine lv_astore (lv' := [(4, .ref q9), (0, .ref z0), (1, .int v), (2, .int q), (3, .ref o0)]) hx hb dL_mode_13 hl (by decide) rfl (fun ls hl => ?_)
    refine lv_iconst (v := nI 1) hx hb dL_mode_15 (by decide) ?_
    exact CIT.ret C hK hP hD hS rfl ⟨by rw [hk]; rfl, hO2, hC2, sm.mono (fun k h9 => by have h8 : k ≤ 32 ∨ 51 ≤ k := h9; show k ≤ 32 ∨ 50 ≤ k; omega), vv, sm.get g50 (fun h9 => by have h8 : 50 ≤ 32 ∨ 51 ≤ 50 := h9; omega), fun e9 => by rw [hk] at e9; cases e9⟩ (Nat.le_of_ble_eq_true rfl) (Nat.le_of_ble_eq_true rfl) dL_mode_16
  · obtain ⟨hk, rfl, hO2, hC2, sm⟩ := hp
    have g50 := sm.get g50 (fun h9 => by have h8 : 50 ≤ 32 ∨ 51 ≤ 50 := h9; omega)
    refine lv_i2l hx hb dL_mode_8 rfl ?_
    refine nx_last hx hb hK hP hD hS 50 2 g50 rfl (k := 0) (by decide) (by decide) dL_mode_9 (fun ws1 H2 locs2 n50 up hP hD hS => ?_)
    refine lv_goto (tgt := 17) hx hb dL_mode_10 (by decide) ?_
    refine lv_iconst (v := nI 0) hx hb dL_mode_17 (by decide) ?_
    have sm2 : Sm (fun k => k = 50) u ws1 := ⟨Nat.le_of_eq up.1.symm, fun k _ hn => up.2 k hn⟩
    exact CIT.ret C hK hP hD hS rfl ⟨by rw [hk]; rfl, hO2, hC2.fr sm2 (fun k h9 => by (try simp only at h9); omega), (sm.mono (fun k h9 => by have h8 : k ≤ 32 ∨ 51 ≤ k := h9; show k ≤ 32 ∨ 50 ≤ k; omega)).trans (sm2.mono (fun k h9 => by (try simp only at h9); show k ≤ 32 ∨ 50 ≤ k; omega)), _, n50, fun _ => if_pos rfl⟩ (Nat.le_of_ble_eq_true rfl) (Nat.le_of_ble_eq_true rfl) dL_mode_18
set_option maxHeartbeats 4000000 in
theorem r_document {x v : Int32} (hlt : l.stackTraces = false) (hO : Ok T sh so wi ta tb E docs ca bb rr pp qq) (h : CoI cB cI cJ cO ad z0 T sh so wi ta tb E docs ca bb rr pp qq ws) (g50 : ws[50]? = some (o0, (.inl (cJ, 1, .inr (.inl vv)) : va_E))) : CIT TXT D (TY cB cI cJ cO) l yL_document wsL_documentN ({ frames := 9, cells := 1, slots := 6, locals := 180 }) ad mi [.ref z0, .int x, .int v, .ref o0] ws (fun r ws' => r = nI ((!(docOk docs x v)).toNat) ∧ Ok T sh so wi ta tb E docs ca bb rr pp qq ∧ CoI cB cI cJ cO ad z0 T sh so wi ta tb E docs ca bb rr pp qq ws' ∧ Sm lK ws ws' ∧ ∃ v2 : Nat → Int64, ws'[50]? = some (o0, (.inl (cJ, 1, .inr (.inl v2)) : va_E)) ∧ ((docOk docs x v) = true → v2 0 = (docR (twM ta tb E docs rr bb pp qq) docs x v).toInt64)) (fun _ _ => False) := by
  obtain ⟨a1, t0, d0, s0, e0, k0, al, s1, s2, s3, eh, es, er, nd, dd, HS, SS, RS, g0, -⟩ := id h
  refine CIT.ofH (cc := cL_document) (maxL := 5) (ret := some .int) (hh := [(0, 10, 13, 18)]) (by decide) rfl (Nat.le_of_ble_eq_true rfl) ?_
  intro p e s m below meth c A C htab hK hP hD hA hS hXT ls hl
  obtain ⟨hx, hb, hr, hml, hts, hown, hlocks, hnm⟩ := id C
  have hl : lv_has ls 5 [(0, .ref z0), (1, .int x), (2, .int v), (3, .ref o0)] := hl
  refine lv_aload_n hx hb dL_document_0 rfl (lv_at hl 3 rfl) ?_
  refine lv_iconst (v := nI 0) hx hb dL_document_1 (by decide) ?_
  refine lv_aload_n hx hb dL_document_2 rfl (lv_at hl 0 rfl) ?_
  refine lv_iload_n hx hb dL_document_3 rfl (lv_at hl 1 rfl) ?_
  refine lv_iload_n hx hb dL_document_4 rfl (lv_at hl 2 rfl) ?_
  refine CIT.go (vx_runV (As := [.int x, .int v]) (rest := [.int (nI 0), .ref o0]) ⟨hx, hb, hml, hown, hts⟩ (q_document (mi := mi) hlt hO h _) (cwV 2 hts gL_documentN_X8_documentN rfl rfl rfl (by decide +kernel) ⟨Nat.le_of_ble_eq_true rfl, Nat.le_of_ble_eq_true rfl⟩) ⟨pwt_blind, va_recv hK hP (ci := 9) (q0 := 0) rfl g0, fun U hU hW => pwt_pre hXT hA hS hK hP hD hU hW⟩ rfl rfl hl.1 rfl (lv_room (Nat.le_of_ble_eq_true rfl)) dL_document_5 ⟨Nat.le_of_ble_eq_true rfl, Nat.le_of_ble_eq_true rfl⟩) hD hS hA (fun EX ce q9 u H1 locs1 hp hP hD hS hce hcv hcl => ?_) (fun r u H1 locs1 hp hP hD hS => ?_)
  · obtain ⟨rfl, hk, hO2, hC2, sm⟩ := hp
    refine vx_catch (name := NSE) hown [] ⟨0, 10, 13, 18⟩ [] (by rw [htab]; rfl) (fun z hz => absurd hz List.not_mem_nil) (by decide) (by decide) (hts (.classLink RL 18 NSE) (by decide +kernel)) (vt_cast hXT vt_cN) hce hcv hcl ?_
    refine lv_astore (lv' := [(4, .ref q9), (0, .ref z0), (1, .int x), (2, .int v), (3, .ref o0)]) hx hb dL_document_13 hl (by decide) rfl (fun ls hl => ?_)
    refine lv_iconst (v := nI 1) hx hb dL_document_15 (by decide) ?_
    exact CIT.ret C hK hP hD hS rfl ⟨by rw [hk]; rfl, hO2, hC2, sm.mono (fun k h9 => by have h8 : k ≤ 32 ∨ 51 ≤ k := h9; show k ≤ 32 ∨ 50 ≤ k; omega), vv, sm.get g50 (fun h9 => by have h8 : 50 ≤ 32 ∨ 51 ≤ 50 := h9; omega), fun e9 => by rw [hk] at e9; cases e9⟩ (Nat.le_of_ble_eq_true rfl) (Nat.le_of_ble_eq_true rfl) dL_document_16
  · obtain ⟨hk, rfl, hO2, hC2, sm⟩ := hp
    have g50 := sm.get g50 (fun h9 => by have h8 : 50 ≤ 32 ∨ 51 ≤ 50 := h9; omega)
    refine lv_i2l hx hb dL_document_8 rfl ?_
    refine nx_last hx hb hK hP hD hS 50 2 g50 rfl (k := 0) (by decide) (by decide) dL_document_9 (fun ws1 H2 locs2 n50 up hP hD hS => ?_)
    refine lv_goto (tgt := 17) hx hb dL_document_10 (by decide) ?_
    refine lv_iconst (v := nI 0) hx hb dL_document_17 (by decide) ?_
    have sm2 : Sm (fun k => k = 50) u ws1 := ⟨Nat.le_of_eq up.1.symm, fun k _ hn => up.2 k hn⟩
    exact CIT.ret C hK hP hD hS rfl ⟨by rw [hk]; rfl, hO2, hC2.fr sm2 (fun k h9 => by (try simp only at h9); omega), (sm.mono (fun k h9 => by have h8 : k ≤ 32 ∨ 51 ≤ k := h9; show k ≤ 32 ∨ 50 ≤ k; omega)).trans (sm2.mono (fun k h9 => by (try simp only at h9); show k ≤ 32 ∨ 50 ≤ k; omega)), _, n50, fun _ => if_pos rfl⟩ (Nat.le_of_ble_eq_true rfl) (Nat.le_of_ble_eq_true rfl) dL_document_18
set_option maxHeartbeats 4000000 in
theorem r_shingle {x v : Int32} (hlt : l.stackTraces = false) (hO : Ok T sh so wi ta tb E docs ca bb rr pp qq) (h : CoI cB cI cJ cO ad z0 T sh so wi ta tb E docs ca bb rr pp qq ws) (g50 : ws[50]? = some (o0, (.inl (cJ, 1, .inr (.inl vv)) : va_E))) : CIT TXT D (TY cB cI cJ cO) l yL_shingle wsL_shingleN ({ frames := 9, cells := 1, slots := 6, locals := 180 }) ad mi [.ref z0, .int x, .int v, .ref o0] ws (fun r ws' => r = nI ((!(slotOf (docs.map (fun d => d.1)) x).isSome).toNat) ∧ Ok T sh so wi ta tb E docs ca bb rr pp qq ∧ CoI cB cI cJ cO ad z0 T sh so wi ta tb E docs ca bb rr pp qq ws' ∧ Sm lK ws ws' ∧ ∃ v2 : Nat → Int64, ws'[50]? = some (o0, (.inl (cJ, 1, .inr (.inl v2)) : va_E)) ∧ ((slotOf (docs.map (fun d => d.1)) x).isSome = true → v2 0 = (bif (slotOf (docs.map (fun d => d.1)) x).isSome then shR (dset docs (slotOf (docs.map (fun d => d.1)) x)) v else 0).toInt64)) (fun _ _ => False) := by
  obtain ⟨a1, t0, d0, s0, e0, k0, al, s1, s2, s3, eh, es, er, nd, dd, HS, SS, RS, g0, -⟩ := id h
  refine CIT.ofH (cc := cL_shingle) (maxL := 5) (ret := some .int) (hh := [(0, 10, 13, 18)]) (by decide) rfl (Nat.le_of_ble_eq_true rfl) ?_
  intro p e s m below meth c A C htab hK hP hD hA hS hXT ls hl
  obtain ⟨hx, hb, hr, hml, hts, hown, hlocks, hnm⟩ := id C
  have hl : lv_has ls 5 [(0, .ref z0), (1, .int x), (2, .int v), (3, .ref o0)] := hl
  refine lv_aload_n hx hb dL_shingle_0 rfl (lv_at hl 3 rfl) ?_
  refine lv_iconst (v := nI 0) hx hb dL_shingle_1 (by decide) ?_
  refine lv_aload_n hx hb dL_shingle_2 rfl (lv_at hl 0 rfl) ?_
  refine lv_iload_n hx hb dL_shingle_3 rfl (lv_at hl 1 rfl) ?_
  refine lv_iload_n hx hb dL_shingle_4 rfl (lv_at hl 2 rfl) ?_
  refine CIT.go (vx_runV (As := [.int x, .int v]) (rest := [.int (nI 0), .ref o0]) ⟨hx, hb, hml, hown, hts⟩ (q_shingle (mi := mi) hlt hO h _) (cwV 2 hts gL_shingleN_X8_shingleN rfl rfl rfl (by decide +kernel) ⟨Nat.le_of_ble_eq_true rfl, Nat.le_of_ble_eq_true rfl⟩) ⟨pwt_blind, va_recv hK hP (ci := 9) (q0 := 0) rfl g0, fun U hU hW => pwt_pre hXT hA hS hK hP hD hU hW⟩ rfl rfl hl.1 rfl (lv_room (Nat.le_of_ble_eq_true rfl)) dL_shingle_5 ⟨Nat.le_of_ble_eq_true rfl, Nat.le_of_ble_eq_true rfl⟩) hD hS hA (fun EX ce q9 u H1 locs1 hp hP hD hS hce hcv hcl => ?_) (fun r u H1 locs1 hp hP hD hS => ?_)
  · obtain ⟨rfl, hk, hO2, hC2, sm⟩ := hp
    refine vx_catch (name := NSE) hown [] ⟨0, 10, 13, 18⟩ [] (by rw [htab]; rfl) (fun z hz => absurd hz List.not_mem_nil) (by decide) (by decide) (hts (.classLink RL 18 NSE) (by decide +kernel)) (vt_cast hXT vt_cN) hce hcv hcl ?_
    refine lv_astore (lv' := [(4, .ref q9), (0, .ref z0), (1, .int x), (2, .int v), (3, .ref o0)]) hx hb dL_shingle_13 hl (by decide) rfl (fun ls hl => ?_)
    refine lv_iconst (v := nI 1) hx hb dL_shingle_15 (by decide) ?_
    exact CIT.ret C hK hP hD hS rfl ⟨by rw [hk]; rfl, hO2, hC2, sm.mono (fun k h9 => by have h8 : k ≤ 32 ∨ 51 ≤ k := h9; show k ≤ 32 ∨ 50 ≤ k; omega), vv, sm.get g50 (fun h9 => by have h8 : 50 ≤ 32 ∨ 51 ≤ 50 := h9; omega), fun e9 => by rw [hk] at e9; cases e9⟩ (Nat.le_of_ble_eq_true rfl) (Nat.le_of_ble_eq_true rfl) dL_shingle_16
  · obtain ⟨hk, rfl, hO2, hC2, sm⟩ := hp
    have g50 := sm.get g50 (fun h9 => by have h8 : 50 ≤ 32 ∨ 51 ≤ 50 := h9; omega)
    refine lv_i2l hx hb dL_shingle_8 rfl ?_
    refine nx_last hx hb hK hP hD hS 50 2 g50 rfl (k := 0) (by decide) (by decide) dL_shingle_9 (fun ws1 H2 locs2 n50 up hP hD hS => ?_)
    refine lv_goto (tgt := 17) hx hb dL_shingle_10 (by decide) ?_
    refine lv_iconst (v := nI 0) hx hb dL_shingle_17 (by decide) ?_
    have sm2 : Sm (fun k => k = 50) u ws1 := ⟨Nat.le_of_eq up.1.symm, fun k _ hn => up.2 k hn⟩
    exact CIT.ret C hK hP hD hS rfl ⟨by rw [hk]; rfl, hO2, hC2.fr sm2 (fun k h9 => by (try simp only at h9); omega), (sm.mono (fun k h9 => by have h8 : k ≤ 32 ∨ 51 ≤ k := h9; show k ≤ 32 ∨ 50 ≤ k; omega)).trans (sm2.mono (fun k h9 => by (try simp only at h9); show k ≤ 32 ∨ 50 ≤ k; omega)), _, n50, fun _ => if_pos rfl⟩ (Nat.le_of_ble_eq_true rfl) (Nat.le_of_ble_eq_true rfl) dL_shingle_18
set_option maxHeartbeats 4000000 in
theorem r_signature {x v : Int32} (hlt : l.stackTraces = false) (hO : Ok T sh so wi ta tb E docs ca bb rr pp qq) (h : CoI cB cI cJ cO ad z0 T sh so wi ta tb E docs ca bb rr pp qq ws) (g50 : ws[50]? = some (o0, (.inl (cJ, 1, .inr (.inl vv)) : va_E))) : CIT TXT D (TY cB cI cJ cO) l yL_signature wsL_signatureN ({ frames := 9, cells := 2, slots := 12, locals := 180 }) ad mi [.ref z0, .int x, .int v, .ref o0] ws (fun r ws' => r = nI ((!(sgOk docs x v)).toNat) ∧ Ok T sh so wi ta tb E docs ca bb rr pp qq ∧ CoI cB cI cJ cO ad z0 T sh so wi ta tb E docs ca bb rr pp qq ws' ∧ Sm lK ws ws' ∧ ∃ v2 : Nat → Int64, ws'[50]? = some (o0, (.inl (cJ, 1, .inr (.inl v2)) : va_E)) ∧ ((sgOk docs x v) = true → v2 0 = (bif (sgOk docs x v) then nI (sgOf ta tb E (dset docs (slotOf (docs.map (fun d => d.1)) x)) v.toNatClampNeg) else 0).toInt64)) (fun _ _ => False) := by
  obtain ⟨a1, t0, d0, s0, e0, k0, al, s1, s2, s3, eh, es, er, nd, dd, HS, SS, RS, g0, -⟩ := id h
  refine CIT.ofH (cc := cL_signature) (maxL := 5) (ret := some .int) (hh := [(0, 10, 13, 18)]) (by decide) rfl (Nat.le_of_ble_eq_true rfl) ?_
  intro p e s m below meth c A C htab hK hP hD hA hS hXT ls hl
  obtain ⟨hx, hb, hr, hml, hts, hown, hlocks, hnm⟩ := id C
  have hl : lv_has ls 5 [(0, .ref z0), (1, .int x), (2, .int v), (3, .ref o0)] := hl
  refine lv_aload_n hx hb dL_signature_0 rfl (lv_at hl 3 rfl) ?_
  refine lv_iconst (v := nI 0) hx hb dL_signature_1 (by decide) ?_
  refine lv_aload_n hx hb dL_signature_2 rfl (lv_at hl 0 rfl) ?_
  refine lv_iload_n hx hb dL_signature_3 rfl (lv_at hl 1 rfl) ?_
  refine lv_iload_n hx hb dL_signature_4 rfl (lv_at hl 2 rfl) ?_
  refine CIT.go (vx_runV (As := [.int x, .int v]) (rest := [.int (nI 0), .ref o0]) ⟨hx, hb, hml, hown, hts⟩ (q_signature (mi := mi) hlt hO h _) (cwV 2 hts gL_signatureN_X8_signatureN rfl rfl rfl (by decide +kernel) ⟨Nat.le_of_ble_eq_true rfl, Nat.le_of_ble_eq_true rfl⟩) ⟨pwt_blind, va_recv hK hP (ci := 9) (q0 := 0) rfl g0, fun U hU hW => pwt_pre hXT hA hS hK hP hD hU hW⟩ rfl rfl hl.1 rfl (lv_room (Nat.le_of_ble_eq_true rfl)) dL_signature_5 ⟨Nat.le_of_ble_eq_true rfl, Nat.le_of_ble_eq_true rfl⟩) hD hS hA (fun EX ce q9 u H1 locs1 hp hP hD hS hce hcv hcl => ?_) (fun r u H1 locs1 hp hP hD hS => ?_)
  · obtain ⟨rfl, hk, hO2, hC2, sm⟩ := hp
    refine vx_catch (name := NSE) hown [] ⟨0, 10, 13, 18⟩ [] (by rw [htab]; rfl) (fun z hz => absurd hz List.not_mem_nil) (by decide) (by decide) (hts (.classLink RL 18 NSE) (by decide +kernel)) (vt_cast hXT vt_cN) hce hcv hcl ?_
    refine lv_astore (lv' := [(4, .ref q9), (0, .ref z0), (1, .int x), (2, .int v), (3, .ref o0)]) hx hb dL_signature_13 hl (by decide) rfl (fun ls hl => ?_)
    refine lv_iconst (v := nI 1) hx hb dL_signature_15 (by decide) ?_
    exact CIT.ret C hK hP hD hS rfl ⟨by rw [hk]; rfl, hO2, hC2, sm.mono (fun k h9 => by have h8 : k ≤ 32 ∨ 51 ≤ k := h9; show k ≤ 32 ∨ 50 ≤ k; omega), vv, sm.get g50 (fun h9 => by have h8 : 50 ≤ 32 ∨ 51 ≤ 50 := h9; omega), fun e9 => by rw [hk] at e9; cases e9⟩ (Nat.le_of_ble_eq_true rfl) (Nat.le_of_ble_eq_true rfl) dL_signature_16
  · obtain ⟨hk, rfl, hO2, hC2, sm⟩ := hp
    have g50 := sm.get g50 (fun h9 => by have h8 : 50 ≤ 32 ∨ 51 ≤ 50 := h9; omega)
    refine lv_i2l hx hb dL_signature_8 rfl ?_
    refine nx_last hx hb hK hP hD hS 50 2 g50 rfl (k := 0) (by decide) (by decide) dL_signature_9 (fun ws1 H2 locs2 n50 up hP hD hS => ?_)
    refine lv_goto (tgt := 17) hx hb dL_signature_10 (by decide) ?_
    refine lv_iconst (v := nI 0) hx hb dL_signature_17 (by decide) ?_
    have sm2 : Sm (fun k => k = 50) u ws1 := ⟨Nat.le_of_eq up.1.symm, fun k _ hn => up.2 k hn⟩
    exact CIT.ret C hK hP hD hS rfl ⟨by rw [hk]; rfl, hO2, hC2.fr sm2 (fun k h9 => by (try simp only at h9); omega), (sm.mono (fun k h9 => by have h8 : k ≤ 32 ∨ 51 ≤ k := h9; show k ≤ 32 ∨ 50 ≤ k; omega)).trans (sm2.mono (fun k h9 => by (try simp only at h9); show k ≤ 32 ∨ 50 ≤ k; omega)), _, n50, fun _ => if_pos rfl⟩ (Nat.le_of_ble_eq_true rfl) (Nat.le_of_ble_eq_true rfl) dL_signature_18
set_option maxHeartbeats 4000000 in
theorem r_both {x y v : Int32} (hlt : l.stackTraces = false) (hO : Ok T sh so wi ta tb E docs ca bb rr pp qq) (h : CoI cB cI cJ cO ad z0 T sh so wi ta tb E docs ca bb rr pp qq ws) (g50 : ws[50]? = some (o0, (.inl (cJ, 1, .inr (.inl vv)) : va_E))) : CIT TXT D (TY cB cI cJ cO) l yL_both wsL_bothN ({ frames := 10, cells := 3, slots := 18, locals := 290 }) ad mi [.ref z0, .int x, .int y, .int v, .ref o0] ws (fun r ws' => r = nI ((!(bothOk docs x y v)).toNat) ∧ Ok T sh so wi ta tb E docs ca bb rr pp qq ∧ CoI cB cI cJ cO ad z0 T sh so wi ta tb E docs ca bb rr pp qq ws' ∧ Sm lK ws ws' ∧ ∃ v2 : Nat → Int64, ws'[50]? = some (o0, (.inl (cJ, 1, .inr (.inl v2)) : va_E)) ∧ ((bothOk docs x y v) = true → v2 0 = (bothR ta tb E docs rr bb pp qq x y v).toInt64)) (fun _ _ => False) := by
  obtain ⟨a1, t0, d0, s0, e0, k0, al, s1, s2, s3, eh, es, er, nd, dd, HS, SS, RS, g0, -⟩ := id h
  refine CIT.ofH (cc := cL_both) (maxL := 6) (ret := some .int) (hh := [(0, 12, 15, 18)]) (by decide) rfl (Nat.le_of_ble_eq_true rfl) ?_
  intro p e s m below meth c A C htab hK hP hD hA hS hXT ls hl
  obtain ⟨hx, hb, hr, hml, hts, hown, hlocks, hnm⟩ := id C
  have hl : lv_has ls 6 [(0, .ref z0), (1, .int x), (2, .int y), (3, .int v), (4, .ref o0)] := hl
  refine lv_aload hx hb dL_both_0 (lv_at hl 4 rfl) ?_
  refine lv_iconst (v := nI 0) hx hb dL_both_2 (by decide) ?_
  refine lv_aload_n hx hb dL_both_3 rfl (lv_at hl 0 rfl) ?_
  refine lv_iload_n hx hb dL_both_4 rfl (lv_at hl 1 rfl) ?_
  refine lv_iload_n hx hb dL_both_5 rfl (lv_at hl 2 rfl) ?_
  refine lv_iload_n hx hb dL_both_6 rfl (lv_at hl 3 rfl) ?_
  refine CIT.go (vx_runV (As := [.int x, .int y, .int v]) (rest := [.int (nI 0), .ref o0]) ⟨hx, hb, hml, hown, hts⟩ (q_both (mi := mi) hlt hO h _) (cwV 3 hts gL_bothN_X8_bothN rfl rfl rfl (by decide +kernel) ⟨Nat.le_of_ble_eq_true rfl, Nat.le_of_ble_eq_true rfl⟩) ⟨pwt_blind, va_recv hK hP (ci := 9) (q0 := 0) rfl g0, fun U hU hW => pwt_pre hXT hA hS hK hP hD hU hW⟩ rfl rfl hl.1 rfl (lv_room (Nat.le_of_ble_eq_true rfl)) dL_both_7 ⟨Nat.le_of_ble_eq_true rfl, Nat.le_of_ble_eq_true rfl⟩) hD hS hA (fun EX ce q9 u H1 locs1 hp hP hD hS hce hcv hcl => ?_) (fun r u H1 locs1 hp hP hD hS => ?_)
  · obtain ⟨rfl, hk, hO2, hC2, sm⟩ := hp
    refine vx_catch (name := NSE) hown [] ⟨0, 12, 15, 18⟩ [] (by rw [htab]; rfl) (fun z hz => absurd hz List.not_mem_nil) (by decide) (by decide) (hts (.classLink RL 18 NSE) (by decide +kernel)) (vt_cast hXT vt_cN) hce hcv hcl ?_
    refine lv_astore (lv' := [(5, .ref q9), (0, .ref z0), (1, .int x), (2, .int y), (3, .int v), (4, .ref o0)]) hx hb dL_both_15 hl (by decide) rfl (fun ls hl => ?_)
    refine lv_iconst (v := nI 1) hx hb dL_both_17 (by decide) ?_
    exact CIT.ret C hK hP hD hS rfl ⟨by rw [hk]; rfl, hO2, hC2, sm.mono (fun k h9 => by have h8 : k ≤ 32 ∨ 51 ≤ k := h9; show k ≤ 32 ∨ 50 ≤ k; omega), vv, sm.get g50 (fun h9 => by have h8 : 50 ≤ 32 ∨ 51 ≤ 50 := h9; omega), fun e9 => by rw [hk] at e9; cases e9⟩ (Nat.le_of_ble_eq_true rfl) (Nat.le_of_ble_eq_true rfl) dL_both_18
  · obtain ⟨hk, rfl, hO2, hC2, sm⟩ := hp
    have g50 := sm.get g50 (fun h9 => by have h8 : 50 ≤ 32 ∨ 51 ≤ 50 := h9; omega)
    refine lv_i2l hx hb dL_both_10 rfl ?_
    refine nx_last hx hb hK hP hD hS 50 2 g50 rfl (k := 0) (by decide) (by decide) dL_both_11 (fun ws1 H2 locs2 n50 up hP hD hS => ?_)
    refine lv_goto (tgt := 19) hx hb dL_both_12 (by decide) ?_
    refine lv_iconst (v := nI 0) hx hb dL_both_19 (by decide) ?_
    have sm2 : Sm (fun k => k = 50) u ws1 := ⟨Nat.le_of_eq up.1.symm, fun k _ hn => up.2 k hn⟩
    exact CIT.ret C hK hP hD hS rfl ⟨by rw [hk]; rfl, hO2, hC2.fr sm2 (fun k h9 => by (try simp only at h9); omega), (sm.mono (fun k h9 => by have h8 : k ≤ 32 ∨ 51 ≤ k := h9; show k ≤ 32 ∨ 50 ≤ k; omega)).trans (sm2.mono (fun k h9 => by (try simp only at h9); show k ≤ 32 ∨ 50 ≤ k; omega)), _, n50, fun _ => if_pos rfl⟩ (Nat.le_of_ble_eq_true rfl) (Nat.le_of_ble_eq_true rfl) dL_both_20
set_option maxHeartbeats 4000000 in
theorem r_nearest {x v : Int32} (hlt : l.stackTraces = false) (hO : Ok T sh so wi ta tb E docs ca bb rr pp qq) (h : CoI cB cI cJ cO ad z0 T sh so wi ta tb E docs ca bb rr pp qq ws) (g50 : ws[50]? = some (o0, (.inl (cJ, 1, .inr (.inl vv)) : va_E))) : CIT TXT D (TY cB cI cJ cO) l yL_nearest wsL_nearestN ({ frames := 10, cells := 49, slots := 2358, locals := 240 }) ad mi [.ref z0, .int x, .int v, .ref o0] ws (fun r ws' => r = nI ((!(slotOf (docs.map (fun d => d.1)) x).isSome).toNat) ∧ Ok T sh so wi ta tb E docs ca bb rr pp qq ∧ CoI cB cI cJ cO ad z0 T sh so wi ta tb E docs ca bb rr pp qq ws' ∧ Sm lK ws ws' ∧ ∃ v2 : Nat → Int64, ws'[50]? = some (o0, (.inl (cJ, 1, .inr (.inl v2)) : va_E)) ∧ ((slotOf (docs.map (fun d => d.1)) x).isSome = true → v2 0 = (nearR docs x v).toInt64)) (fun _ _ => False) := by
  obtain ⟨a1, t0, d0, s0, e0, k0, al, s1, s2, s3, eh, es, er, nd, dd, HS, SS, RS, g0, -⟩ := id h
  refine CIT.ofH (cc := cL_nearest) (maxL := 5) (ret := some .int) (hh := [(0, 10, 13, 18)]) (by decide) rfl (Nat.le_of_ble_eq_true rfl) ?_
  intro p e s m below meth c A C htab hK hP hD hA hS hXT ls hl
  obtain ⟨hx, hb, hr, hml, hts, hown, hlocks, hnm⟩ := id C
  have hl : lv_has ls 5 [(0, .ref z0), (1, .int x), (2, .int v), (3, .ref o0)] := hl
  refine lv_aload_n hx hb dL_nearest_0 rfl (lv_at hl 3 rfl) ?_
  refine lv_iconst (v := nI 0) hx hb dL_nearest_1 (by decide) ?_
  refine lv_aload_n hx hb dL_nearest_2 rfl (lv_at hl 0 rfl) ?_
  refine lv_iload_n hx hb dL_nearest_3 rfl (lv_at hl 1 rfl) ?_
  refine lv_iload_n hx hb dL_nearest_4 rfl (lv_at hl 2 rfl) ?_
  refine CIT.go (vx_runV (As := [.int x, .int v]) (rest := [.int (nI 0), .ref o0]) ⟨hx, hb, hml, hown, hts⟩ (q_nearest (mi := mi) hlt hO h _) (cwV 2 hts gL_nearestN_X8_nearestN rfl rfl rfl (by decide +kernel) ⟨Nat.le_of_ble_eq_true rfl, Nat.le_of_ble_eq_true rfl⟩) ⟨pwt_blind, va_recv hK hP (ci := 9) (q0 := 0) rfl g0, fun U hU hW => pwt_pre hXT hA hS hK hP hD hU hW⟩ rfl rfl hl.1 rfl (lv_room (Nat.le_of_ble_eq_true rfl)) dL_nearest_5 ⟨Nat.le_of_ble_eq_true rfl, Nat.le_of_ble_eq_true rfl⟩) hD hS hA (fun EX ce q9 u H1 locs1 hp hP hD hS hce hcv hcl => ?_) (fun r u H1 locs1 hp hP hD hS => ?_)
  · obtain ⟨rfl, hk, hO2, hC2, sm⟩ := hp
    refine vx_catch (name := NSE) hown [] ⟨0, 10, 13, 18⟩ [] (by rw [htab]; rfl) (fun z hz => absurd hz List.not_mem_nil) (by decide) (by decide) (hts (.classLink RL 18 NSE) (by decide +kernel)) (vt_cast hXT vt_cN) hce hcv hcl ?_
    refine lv_astore (lv' := [(4, .ref q9), (0, .ref z0), (1, .int x), (2, .int v), (3, .ref o0)]) hx hb dL_nearest_13 hl (by decide) rfl (fun ls hl => ?_)
    refine lv_iconst (v := nI 1) hx hb dL_nearest_15 (by decide) ?_
    exact CIT.ret C hK hP hD hS rfl ⟨by rw [hk]; rfl, hO2, hC2, sm.mono (fun k h9 => by have h8 : k ≤ 32 ∨ 51 ≤ k := h9; show k ≤ 32 ∨ 50 ≤ k; omega), vv, sm.get g50 (fun h9 => by have h8 : 50 ≤ 32 ∨ 51 ≤ 50 := h9; omega), fun e9 => by rw [hk] at e9; cases e9⟩ (Nat.le_of_ble_eq_true rfl) (Nat.le_of_ble_eq_true rfl) dL_nearest_16
  · obtain ⟨hk, rfl, hO2, hC2, sm⟩ := hp
    have g50 := sm.get g50 (fun h9 => by have h8 : 50 ≤ 32 ∨ 51 ≤ 50 := h9; omega)
    refine lv_i2l hx hb dL_nearest_8 rfl ?_
    refine nx_last hx hb hK hP hD hS 50 2 g50 rfl (k := 0) (by decide) (by decide) dL_nearest_9 (fun ws1 H2 locs2 n50 up hP hD hS => ?_)
    refine lv_goto (tgt := 17) hx hb dL_nearest_10 (by decide) ?_
    refine lv_iconst (v := nI 0) hx hb dL_nearest_17 (by decide) ?_
    have sm2 : Sm (fun k => k = 50) u ws1 := ⟨Nat.le_of_eq up.1.symm, fun k _ hn => up.2 k hn⟩
    exact CIT.ret C hK hP hD hS rfl ⟨by rw [hk]; rfl, hO2, hC2.fr sm2 (fun k h9 => by (try simp only at h9); omega), (sm.mono (fun k h9 => by have h8 : k ≤ 32 ∨ 51 ≤ k := h9; show k ≤ 32 ∨ 50 ≤ k; omega)).trans (sm2.mono (fun k h9 => by (try simp only at h9); show k ≤ 32 ∨ 50 ≤ k; omega)), _, n50, fun _ => if_pos rfl⟩ (Nat.le_of_ble_eq_true rfl) (Nat.le_of_ble_eq_true rfl) dL_nearest_18
end STA
