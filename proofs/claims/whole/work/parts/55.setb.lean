theorem lgc_eq_t {a b : Nat} (ha : a < 2 ^ 63) (hb : b < 2 ^ 63) (h : lg_cmp (lN a) (lN b) = 0) : a = b := (lgc_eq ha hb).mp h
theorem lgc_eq_f {a b : Nat} (ha : a < 2 ^ 63) (hb : b < 2 ^ 63) (h : ¬ lg_cmp (lN a) (lN b) = 0) : a ≠ b := fun e => h ((lgc_eq ha hb).mpr e)
theorem lbit_and (x y : Int64) (i : Nat) : lbit (x &&& y) i = (lbit x i && lbit y i) := by unfold lbit; rw [Int64.toBitVec_and, BitVec.getLsbD_and]
theorem lbit_or (x y : Int64) (i : Nat) : lbit (x ||| y) i = (lbit x i || lbit y i) := by unfold lbit; rw [Int64.toBitVec_or, BitVec.getLsbD_or]
theorem lbit_0 (i : Nat) : lbit (lN 0) i = false := by
  show (BitVec.ofNat 64 0).getLsbD i = false
  simp
theorem lbit_one {b i : Nat} (hb : b < 64) (hi : i < 64) : lbit (lN 1 <<< ((nI b).toInt64 &&& 63)) i = decide (i = b) := by
  unfold lbit
  rw [Int64.toBitVec_shiftLeft]
  rw [BitVec.shiftLeft_eq', BitVec.getLsbD_shiftLeft, s_l6 b hb]
  show (decide (i < 64) && !decide (i < b) && (BitVec.ofNat 64 1).getLsbD (i - b)) = _
  rw [BitVec.getLsbD_ofNat]
  by_cases e : i = b
  · subst e; simp [hi]
  · by_cases h2 : i < b
    · simp [h2, e]
    · have h3 : Nat.testBit 1 (i - b) = false := Nat.testBit_lt_two_pow (by have : 2 ^ 1 ≤ 2 ^ (i - b) := Nat.pow_le_pow_right (by decide) (by omega); omega)
      simp [h3, e]
theorem l_of_U {z : Int64} : z = lN (lU z) := by
  apply Int64.toBitVec_inj.mp
  show z.toBitVec = BitVec.ofNat 64 z.toBitVec.toNat
  simp
theorem lbit_test (x : Int64) {b : Nat} (hb : b < 64) : ((x.toUInt64 >>> ((nI b).toInt64.toUInt64 &&& Int64.toUInt64 63)).toInt64 &&& lN 1) = lN (lbit x b).toNat := by
  rw [l_of_U (z := (x.toUInt64 >>> ((nI b).toInt64.toUInt64 &&& Int64.toUInt64 63)).toInt64 &&& lN 1), lU_and, lU_ushr _ b hb, lU_lN (by decide), Nat.and_one_is_mod, lbit_U, tb_mod]
def SetB (f : Nat → Int64) (M : Nat → Bool) : Prop := ∀ w, w < 94 → ∀ i, i < 64 → lbit (f w) i = M (64 * w + i)
theorem SetB.put {f : Nat → Int64} {M M2 : Nat → Bool} {a : Nat} (h : SetB f M) (ha : a < 6016) (hM : ∀ n, M2 n = (M n || decide (n = a))) : SetB (vp_updL f (a / 64) (f (a / 64) ||| (lN 1 <<< ((nI (a % 64)).toInt64 &&& 63)))) M2 := by
  intro w hw i hi
  rw [hM]
  by_cases e : w = a / 64
  · subst e
    rw [show vp_updL f (a / 64) (f (a / 64) ||| (lN 1 <<< ((nI (a % 64)).toInt64 &&& 63))) (a / 64) = f (a / 64) ||| (lN 1 <<< ((nI (a % 64)).toInt64 &&& 63)) from by simp [vp_updL], lbit_or, h _ hw i hi, lbit_one (by omega) hi]
    congr 1
    by_cases e2 : i = a % 64
    · rw [decide_eq_true e2, decide_eq_true (by omega)]
    · rw [decide_eq_false e2, decide_eq_false (by omega)]
  · rw [show vp_updL f (a / 64) (f (a / 64) ||| (lN 1 <<< ((nI (a % 64)).toInt64 &&& 63))) w = f w from by simp [vp_updL, e], h w hw i hi, decide_eq_false (by omega), Bool.or_false]
theorem SetB.at {f : Nat → Int64} {M : Nat → Bool} {n : Nat} (h : SetB f M) (hn : n < 6016) : lbit (f (n / 64)) (n % 64) = M n := by
  rw [h (n / 64) (by omega) (n % 64) (by omega), show 64 * (n / 64) + n % 64 = n by omega]
theorem nI_shr6 {a : Nat} (h : a < 2 ^ 31) : nI a >>> (nI 6 &&& 31) = nI (a / 64) := by
  apply b_ext
  intro i hi
  rw [b_sshr 6 (by decide) _ hi]
  have hb : ∀ n k, n < 2 ^ 31 → k < 32 → bt (nI n) k = n.testBit k := fun n k hn hk => by
    show (BitVec.ofNat 32 n).getLsbD k = _
    rw [BitVec.getLsbD_ofNat]; simp [hk]
  by_cases h1 : 6 + i < 32
  · rw [if_pos h1, hb a _ h h1, hb (a / 64) i (by omega) hi, show (64 : Nat) = 2 ^ 6 from rfl, Nat.testBit_div_two_pow]
    congr 1; omega
  · rw [if_neg h1, hb a 31 h (by decide), hb (a / 64) i (by omega) hi, Nat.testBit_lt_two_pow h]
    symm
    apply Nat.testBit_lt_two_pow
    have : 2 ^ 26 ≤ 2 ^ i := Nat.pow_le_pow_right (by decide) (by omega)
    omega
theorem nI_and63 {a : Nat} (h : a < 2 ^ 31) : nI a &&& nI 63 = nI (a % 64) := by
  apply Int32.toBitVec_inj.mp
  rw [Int32.toBitVec_and]
  show BitVec.ofNat 32 a &&& BitVec.ofNat 32 63 = BitVec.ofNat 32 (a % 64)
  apply BitVec.eq_of_toNat_eq
  rw [BitVec.toNat_and, BitVec.toNat_ofNat, BitVec.toNat_ofNat, BitVec.toNat_ofNat, Nat.mod_eq_of_lt (by omega), Nat.mod_eq_of_lt (show 63 < 2 ^ 32 by decide), Nat.mod_eq_of_lt (show a % 64 < 2 ^ 32 by omega)]
  exact Nat.and_two_pow_sub_one_eq_mod a 6
theorem cnt_words {f g : Nat → Int64} {M N : Nat → Bool} (hf : SetB f M) (hg : SetB g N) {w : Nat} (hw : w < 94) : cntB (fun q => M q && N q) (64 * (w + 1)) = cntB (fun q => M q && N q) (64 * w) + cntB (lbit (f w &&& g w)) 64 := by
  rw [show 64 * (w + 1) = 64 * w + 64 by omega, cntB_add]
  congr 1
  refine cntB_cong (fun k hk => ?_)
  rw [lbit_and, hf w hw k hk, hg w hw k hk]
/-- the numbers of a row, rising and once each -/
def selN (A : List Nat) (n : Nat) : List Nat := (List.range n).filter (fun q => A.contains q)
theorem selN_s {A : List Nat} {n : Nat} : selN A (n + 1) = selN A n ++ (if A.contains n = true then [n] else []) := by
  unfold selN
  rw [List.range_succ, List.filter_append]
  congr 1
  by_cases h : A.contains n = true
  · rw [if_pos h, List.filter_cons_of_pos h]; rfl
  · rw [if_neg h, List.filter_cons_of_neg h]; rfl
theorem selN_mem {A : List Nat} {n x : Nat} : x ∈ selN A n ↔ x < n ∧ x ∈ A := by
  unfold selN
  rw [List.mem_filter, List.mem_range, List.contains_iff_mem]
theorem selN_pw (A : List Nat) (n : Nat) : (selN A n).Pairwise (· < ·) := (List.pairwise_lt_range (n := n)).sublist List.filter_sublist
theorem pw_nd {L : List Nat} (h : L.Pairwise (· < ·)) : L.Nodup := h.imp (fun h => Nat.ne_of_lt h)
theorem selN_len {A : List Nat} {n : Nat} : (selN A n).length ≤ A.length := nd_sub (pw_nd (selN_pw A n)) (fun x hx => (selN_mem.mp hx).2)
theorem selN_lt {A : List Nat} {n : Nat} (h : A.contains n = true) : (selN A n).length < A.length := by
  have h1 := selN_len (A := A) (n := n + 1)
  rw [selN_s, if_pos h, List.length_append] at h1
  simp only [List.length_singleton] at h1
  omega
theorem rise_ext : ∀ {L M : List Nat}, L.Pairwise (· < ·) → M.Pairwise (· < ·) → (∀ x, x ∈ L ↔ x ∈ M) → L = M
  | [], [], _, _, _ => rfl
  | [], b :: M, _, _, h => absurd ((h b).mpr List.mem_cons_self) (by simp)
  | a :: L, [], _, _, h => absurd ((h a).mp List.mem_cons_self) (by simp)
  | a :: L, b :: M, h1, h2, h => by
    have p1 := List.pairwise_cons.mp h1
    have p2 := List.pairwise_cons.mp h2
    have e : a = b := by
      rcases List.mem_cons.mp ((h a).mp List.mem_cons_self) with e | ha
      · exact e
      · rcases List.mem_cons.mp ((h b).mpr List.mem_cons_self) with e | hb
        · exact e.symm
        · have := p2.1 a ha; have := p1.1 b hb; omega
    subst e
    rw [rise_ext p1.2 p2.2 (fun x => ⟨fun hx => ?_, fun hx => ?_⟩)]
    · rcases List.mem_cons.mp ((h x).mp (List.mem_cons_of_mem _ hx)) with e | hx2
      · have := p1.1 x hx; omega
      · exact hx2
    · rcases List.mem_cons.mp ((h x).mpr (List.mem_cons_of_mem _ hx)) with e | hx2
      · have := p2.1 x hx; omega
      · exact hx2
theorem cntB_or {f g : Nat → Bool} : ∀ {n : Nat}, (∀ k, k < n → ¬ (f k = true ∧ g k = true)) → cntB (fun k => f k || g k) n = cntB f n + cntB g n
  | 0, _ => rfl
  | n + 1, h => by
    have h1 := h n (by omega)
    unfold cntB
    rw [cntB_or (fun k hk => h k (by omega))]
    cases hf : f n <;> cases hg : g n <;> simp_all <;> omega
theorem cntB_one {a : Nat} {q : Bool} : ∀ {n : Nat}, cntB (fun k => decide (k = a) && q) n = if a < n then q.toNat else 0
  | 0 => by rw [if_neg (by omega)]; rfl
  | n + 1 => by
    unfold cntB
    rw [cntB_one]
    by_cases e : n = a
    · subst e
      rw [if_neg (by omega), if_pos (by omega), decide_eq_true rfl, Bool.true_and, Nat.zero_add]
    · rw [decide_eq_false e, Bool.false_and]
      by_cases h2 : a < n
      · rw [if_pos h2, if_pos (by omega)]; rfl
      · rw [if_neg h2, if_neg (by omega)]; rfl
/-- bits in both sets: common numbers -/
theorem cnt_comm {q : Nat → Bool} {N : Nat} : ∀ {L : List Nat}, L.Nodup → (∀ x ∈ L, x < N) → cntB (fun k => L.contains k && q k) N = L.countP q
  | [], _, _ => by
    have : ∀ n, cntB (fun k => ([] : List Nat).contains k && q k) n = 0 := fun n => by
      induction n with
      | zero => rfl
      | succ n ih => unfold cntB; rw [ih]; rfl
    rw [this]; rfl
  | a :: L, hn, h => by
    have h1 := List.nodup_cons.mp hn
    have h2 := cnt_comm (q := q) (N := N) h1.2 (fun x hx => h x (List.mem_cons_of_mem _ hx))
    have h3 : ∀ k, ((a :: L).contains k && q k) = ((decide (k = a) && q a) || (L.contains k && q k)) := fun k => by
      rw [List.contains_cons]
      by_cases e : k = a
      · subst e; simp
      · have e9 : (k == a) = false := by simpa using e
        rw [e9, decide_eq_false e]; simp
    rw [cntB_cong (fun k _ => h3 k), cntB_or, h2, cntB_one, if_pos (h a List.mem_cons_self), List.countP_cons]
    · cases q a <;> simp <;> omega
    · intro k _ ⟨k1, k2⟩
      have e : k = a := by
        have := (Bool.and_eq_true_iff.mp k1).1
        exact of_decide_eq_true this
      subst e
      have := (Bool.and_eq_true_iff.mp k2).1
      exact h1.1 (List.contains_iff_mem.mp this)
theorem cont_take {A : List Nat} {i q : Nat} (hi : i < A.length) : (A.take (i + 1)).contains q = ((A.take i).contains q || decide (q = A[i])) := by
  rw [List.take_add_one, List.getElem?_eq_getElem hi, Option.toList_some, List.contains_append]
  congr 1
  rw [List.contains_cons]
  by_cases e : q = A[i]
  · rw [decide_eq_true e, e]; simp
  · have e9 : (q == A[i]) = false := by simpa using e
    rw [e9, decide_eq_false e]; simp
