theorem rxN0 : decode rxN 0 = .ok (.aload_n 0, 1) := by decide +kernel
theorem rxN1 : decode rxN 1 = .ok (.aload_n 1, 1) := by decide +kernel
theorem rxN2 : decode rxN 2 = .ok (.invokespecial 13, 3) := by decide +kernel
theorem rxN5 : decode rxN 5 = .ok (.return_, 1) := by decide +kernel
section EndsX
variable {tx : List (Nat × String)} {D : va_G} {tys : List (ClassId × FieldType)} {p : Program} {l : Launch} {e : Env} {R : Room} {s : State} {m : MethodId} {av : List Value} {below : List Frame} {meth : Method} {c : Code} {H : Heap} {locs : List Loc} {cells slots mc ms : Nat} {A : Nat → Prop}
  {y : MethodName} {cc : ByteArray} {nL pc : Nat} {Ts : List Cond} {ls : Array Slot} {ws : va_W} {px : String → va_W → Prop} {rest : List Value} {ad mi : Nat}
theorem vt_allX {ic : Nat} {cls : String} (hX : XT tx ad mi A s) (hm : (vx_atX RX8 ic cls 13 rxN exN).all (fun w => goodWord w || decide (w ∈ vtW)) = true) (hts : ∀ w ∈ (vx_atX RX8 ic cls 13 rxN exN).filter goodWord, w.before av.toArray s = true) : ∀ w ∈ vx_atX RX8 ic cls 13 rxN exN, w.before av.toArray s = true := fun w hw => by
  have h1 := List.all_eq_true.mp hm w hw
  cases hg : goodWord w with
  | true => exact hts w (List.mem_filter.mpr ⟨hw, hg⟩)
  | false =>
    rw [hg, Bool.false_or] at h1
    have h2 := of_decide_eq_true h1
    exact va_tabs (vt_tab (List.all_eq_true.mp vtW_s w h2)) rfl (hX.2.1 w h2)
end EndsX
section ThrowX
variable {tx : List (Nat × String)} {D : va_G} {tys : List (ClassId × FieldType)} {p : Program} {l : Launch} {e : Env} {R : Room} {s : State} {m : MethodId} {av : List Value} {below : List Frame} {meth : Method} {c : Code} {H : Heap} {locs : List Loc} {cells slots mc ms : Nat} {A : Nat → Prop}
  {n d : String} {cc : ByteArray} {nL pc : Nat} {Ts : List Cond} {ret : Option FieldType} {ls : Array Slot} {ws : va_W} {px : String → va_W → Prop} {rest : List Value} {ad mi : Nat} {Qc : Array Value → State → Outcome → State → Prop}
/-- throw new E("text") in TwinFinder's own code -/
theorem vt_thrX {ik is ic : Nat} {cls text : String} (C : Cx p s m meth c ⟨RX8, n, d⟩ cc ret nL av.toArray Ts) (hto : ∀ x ∈ c.exceptionTable.toList, False) (hl : l.stackTraces = false) (hX : XT tx ad mi A s) (hK : va_K D vwCl tys s) (hP : va_P D vwCl ws H) (hD : va_D A ws) (hS : va_S A s.heap H locs) (hsz : ls.size = nL)
    (hcls : Bundle.fit cls = true) (htx : (is, text) ∈ tx) (h1 : Cond.classLink RX8 ik cls ∈ Ts) (h2 : Cond.initialized cls ∈ Ts) (h3 : ∀ w ∈ (vx_atX RX8 ic cls 13 rxN exN).filter goodWord, w ∈ Ts) (hm : (vx_atX RX8 ic cls 13 rxN exN).all (fun w => goodWord w || decide (w ∈ vtW)) = true) (hg : (Cond.classLink RX8 ik cls :: Cond.initialized cls :: vx_atX RX8 ic cls 13 rxN exN).all vx_ot = true)
    (d0 : decode cc pc = .ok (.new ik, 3)) (d3 : decode cc (pc + 3) = .ok (.dup, 1)) (d4 : decode cc (pc + 4) = .ok (.ldc is, 2)) (d6 : decode cc (pc + 6) = .ok (.invokespecial ic, 3)) (d9 : decode cc (pc + 9) = .ok (.athrow, 1))
    (hp : px cls ws) (hRf : 5 < R.frames) (hRl : (rest.map fun v => v.category).sum + 82 ≤ R.locals) (hRc : cells + 1 ≤ R.cells) (hRs : slots + 6 ≤ R.slots) (hc : cells + 1 ≤ mc) (hs : slots + 6 ≤ ms) :
    W p l e R s m av.toArray below meth c H locs cells slots (vx_MQ below Qc (XcT D tys px A) av.toArray s mc ms A) (F0 m pc ls rest) := by
  obtain ⟨hx, hb, hr, hml, hts, hown, hlocks, hnm⟩ := C
  obtain ⟨sa, hsa⟩ := hX.2.2.2.2 _ htx
  exact vx_throwX rxN0 rxN1 rxN2 rxN5 (A := A) hx hb hl hown hcls (by decide +kernel) (hts _ h1) (hts _ h2) hsa (vt_allX hX hm (fun w hw => hts w (h3 w hw))) (fun w hw => List.all_eq_true.mp hg w hw) hX.2.2.1 hX.2.2.2.1 hS (hsz.trans hml.symm) d0 d3 d4 d6 d9 (fun x hx => (hto x hx).elim) hRf hRl hRc hRs hlocks (xct_here hK hP hD hS hp) hS.2.2 hc hs
theorem vt_thrXW {ik is ic : Nat} {cls text : String} (C : Cx p s m meth c ⟨RX8, n, d⟩ cc ret nL av.toArray Ts) (hto : ∀ x ∈ c.exceptionTable.toList, False) (hl : l.stackTraces = false) (hX : XT tx ad mi A s) (hK : va_K D vwCl tys s) (hP : va_P D vwCl ws H) (hD : va_D A ws) (hS : va_S A s.heap H locs) (hsz : ls.size = nL)
    (hcls : Bundle.fit cls = true) (htx : (is, text) ∈ tx) (h1 : Cond.classLink RX8 ik cls ∈ Ts) (h2 : Cond.initialized cls ∈ Ts) (h3 : ∀ w ∈ (vx_atX RX8 ic cls 13 rxN exN).filter goodWord, w ∈ Ts) (hm : (vx_atX RX8 ic cls 13 rxN exN).all (fun w => goodWord w || decide (w ∈ vtW)) = true) (hg : (Cond.classLink RX8 ik cls :: Cond.initialized cls :: vx_atX RX8 ic cls 13 rxN exN).all vx_ot = true)
    (d0 : decode cc pc = .ok (.new ik, 3)) (d3 : decode cc (pc + 3) = .ok (.dup, 1)) (d4 : decode cc (pc + 4) = .ok (.ldc_w is, 3)) (d7 : decode cc (pc + 7) = .ok (.invokespecial ic, 3)) (d10 : decode cc (pc + 10) = .ok (.athrow, 1))
    (hp : px cls ws) (hRf : 5 < R.frames) (hRl : (rest.map fun v => v.category).sum + 82 ≤ R.locals) (hRc : cells + 1 ≤ R.cells) (hRs : slots + 6 ≤ R.slots) (hc : cells + 1 ≤ mc) (hs : slots + 6 ≤ ms) :
    W p l e R s m av.toArray below meth c H locs cells slots (vx_MQ below Qc (XcT D tys px A) av.toArray s mc ms A) (F0 m pc ls rest) := by
  obtain ⟨hx, hb, hr, hml, hts, hown, hlocks, hnm⟩ := C
  obtain ⟨sa, hsa⟩ := hX.2.2.2.2 _ htx
  exact vx_throwXW rxN0 rxN1 rxN2 rxN5 (A := A) hx hb hl hown hcls (by decide +kernel) (hts _ h1) (hts _ h2) hsa (vt_allX hX hm (fun w hw => hts w (h3 w hw))) (fun w hw => List.all_eq_true.mp hg w hw) hX.2.2.1 hX.2.2.2.1 hS (hsz.trans hml.symm) d0 d3 d4 d7 d10 (fun x hx => (hto x hx).elim) hRf hRl hRc hRs hlocks (xct_here hK hP hD hS hp) hS.2.2 hc hs
theorem vtNX_m : (vx_atX RX8 167 NSE 13 rxN exN).all (fun w => goodWord w || decide (w ∈ vtW)) = true := by decide +kernel
theorem vtNX_g : (Cond.classLink RX8 163 NSE :: Cond.initialized NSE :: vx_atX RX8 167 NSE 13 rxN exN).all vx_ot = true := by decide +kernel
end ThrowX
