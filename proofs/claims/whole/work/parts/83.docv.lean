section DOCV
variable {dd : Nat → DX} {HS : List Nat} {docs : List (Nat × List Nat)} {ta tb : Nat → Nat} {E : List (Nat × Nat × Nat)} {rr bb pp qq plc : Nat} {c1 c2 t1 t2 nu tc fa me : Nat → Nat} {sz1 sz2 : Nat}
theorem ShM.dfam (h : ShM dd HS docs ta tb E) (hbr : bb * rr ≤ 64) (hK : KinOK dd HS rr bb pp qq plc c1 c2 t1 t2 nu tc fa me sz1 sz2) {k : Nat} (hk : k < HS.length) : nu (fa k) = (docs.getD (famC docs.length (twM ta tb E docs rr bb pp qq) k) (0, [])).1 := by
  have hF := h.fam hbr hK
  obtain ⟨-, -, -, -, -, e6, -, -, -⟩ := hK
  rw [h.1, ← famC_eq hF k hk]
  have hlt : fa k < HS.length := Nat.lt_of_le_of_lt (hF.1 k hk).1 hk
  have e2 := List.getElem?_eq_getElem hlt
  rw [e6 _ _ e2, (h.2 _ _ e2).1]
theorem ShM.dmem (h : ShM dd HS docs ta tb E) (hbr : bb * rr ≤ 64) (hK : KinOK dd HS rr bb pp qq plc c1 c2 t1 t2 nu tc fa me sz1 sz2) {k : Nat} (hk : k < HS.length) : me (fa k) = cntF (famC docs.length (twM ta tb E docs rr bb pp qq)) (famC docs.length (twM ta tb E docs rr bb pp qq) k) docs.length := by
  have hF := h.fam hbr hK
  obtain ⟨-, -, -, -, -, -, -, -, e9⟩ := hK
  rw [h.1, ← famC_eq hF k hk, ← cntF_cong (famC_eq hF)]
  exact e9 _ (Nat.lt_of_le_of_lt (hF.1 k hk).1 hk)
theorem ShM.dtw (h : ShM dd HS docs ta tb E) (hm : Dsm docs) (hbr : bb * rr ≤ 64) (hK : KinOK dd HS rr bb pp qq plc c1 c2 t1 t2 nu tc fa me sz1 sz2) {k : Nat} (hk : k < HS.length) : tc k = cntB (fun t => decide (t ≠ k) && twM ta tb E docs rr bb pp qq k t) docs.length := by
  obtain ⟨-, -, -, -, -, -, e7, -, -⟩ := hK
  rw [e7 k hk, h.prT hbr, cnt_tw hk (fun u _ => twM_symm hm rr bb pp qq u k), h.1]
theorem ShM.dsz (h : ShM dd HS docs ta tb E) {k : Nat} (hk : k < HS.length) : (dd (HS.getD k 0)).2.2.1.2 = (docs.getD k (0, [])).2.length := by
  have e := List.getElem?_eq_getElem hk
  rw [getD_at e]
  exact (h.2 k _ e).2.1.1
theorem ShM.sy (h : ShM dd HS docs ta tb E) (hm : Dsm docs) (hbr : bb * rr ≤ 64) : ∀ x y, x < HS.length → y < HS.length → twH dd HS rr bb pp qq x y = twH dd HS rr bb pp qq y x := fun x y hx hy => by
  rw [h.tw hbr hx hy, h.tw hbr hy hx, twM_symm hm]
end DOCV
