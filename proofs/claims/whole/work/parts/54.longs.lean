/-- a long's bits and its number without a sign -/
def lbit (x : Int64) (i : Nat) : Bool := x.toBitVec.getLsbD i
def lU (x : Int64) : Nat := x.toBitVec.toNat
theorem lU_lt (x : Int64) : lU x < 2 ^ 64 := x.toBitVec.isLt
theorem lbit_U (x : Int64) (i : Nat) : lbit x i = (lU x).testBit i := rfl
theorem s_u6 : ∀ k, k < 64 → (((nI k).toInt64.toUInt64 &&& Int64.toUInt64 63).toBitVec % 64).toNat = k := by decide +kernel
theorem s_l6 : ∀ k, k < 64 → (((nI k).toInt64 &&& 63).toBitVec.smod 64).toNat = k := by decide +kernel
theorem lU_ushr (x : Int64) (k : Nat) (hk : k < 64) : lU ((x.toUInt64 >>> ((nI k).toInt64.toUInt64 &&& Int64.toUInt64 63)).toInt64) = lU x / 2 ^ k := by
  unfold lU
  show (x.toBitVec >>> (((nI k).toInt64.toUInt64 &&& Int64.toUInt64 63).toBitVec % 64)).toNat = _
  rw [BitVec.ushiftRight_eq', BitVec.toNat_ushiftRight, s_u6 k hk, Nat.shiftRight_eq_div_pow]
theorem lU_and (x y : Int64) : lU (x &&& y) = lU x &&& lU y := by
  unfold lU; rw [Int64.toBitVec_and, BitVec.toNat_and]
theorem lU_add {x y : Int64} (h : lU x + lU y < 2 ^ 64) : lU (x + y) = lU x + lU y := by
  unfold lU at *; rw [Int64.toBitVec_add, BitVec.toNat_add, Nat.mod_eq_of_lt h]
theorem lU_sub {x y : Int64} (h : lU y ≤ lU x) : lU (x - y) = lU x - lU y := by
  unfold lU at *; rw [Int64.toBitVec_sub, BitVec.toNat_sub_of_le (BitVec.le_def.mpr h)]
theorem lU_lN {n : Nat} (h : n < 2 ^ 64) : lU (lN n) = n := by
  show (BitVec.ofNat 64 n).toNat = n
  rw [BitVec.toNat_ofNat, Nat.mod_eq_of_lt h]
theorem and_dig {a b x y k : Nat} (ha : a < 2 ^ k) (hb : b < 2 ^ k) : (a + 2 ^ k * x) &&& (b + 2 ^ k * y) = (a &&& b) + 2 ^ k * (x &&& y) := by
  have e1 : (a + 2 ^ k * x) % 2 ^ k = a := by rw [Nat.add_mul_mod_self_left, Nat.mod_eq_of_lt ha]
  have e2 : (b + 2 ^ k * y) % 2 ^ k = b := by rw [Nat.add_mul_mod_self_left, Nat.mod_eq_of_lt hb]
  have e3 : (a + 2 ^ k * x) / 2 ^ k = x := by rw [Nat.add_mul_div_left _ _ (Nat.two_pow_pos k), Nat.div_eq_of_lt ha, Nat.zero_add]
  have e4 : (b + 2 ^ k * y) / 2 ^ k = y := by rw [Nat.add_mul_div_left _ _ (Nat.two_pow_pos k), Nat.div_eq_of_lt hb, Nat.zero_add]
  have h1 := Nat.and_mod_two_pow (a := a + 2 ^ k * x) (b := b + 2 ^ k * y) (n := k)
  have h2 := Nat.and_div_two_pow (a := a + 2 ^ k * x) (b := b + 2 ^ k * y) (n := k)
  rw [e1, e2] at h1
  rw [e3, e4] at h2
  have h3 := Nat.mod_add_div ((a + 2 ^ k * x) &&& (b + 2 ^ k * y)) (2 ^ k)
  rw [h1, h2] at h3
  exact h3.symm
/-- the mask of n bytes -/
def msk (b : Nat) : Nat → Nat
  | 0 => 0
  | n + 1 => b + 256 * msk b n
def pc8 (a : Nat) : Nat := a % 2 + a / 2 % 2 + a / 4 % 2 + a / 8 % 2 + a / 16 % 2 + a / 32 % 2 + a / 64 % 2 + a / 128 % 2
def pcS : Nat → Nat → Nat
  | 0, _ => 0
  | n + 1, x => pc8 (x % 256) + 256 * pcS n (x / 256)
def t1 (a : Nat) : Nat := a - (a / 2 &&& 85)
def t2 (a : Nat) : Nat := (a &&& 51) + (a / 4 &&& 51)
def t3 (a : Nat) : Nat := (a + a / 16) &&& 15
def s1 (n x : Nat) : Nat := x - (x / 2 &&& msk 85 n)
def s2 (n x : Nat) : Nat := (x &&& msk 51 n) + (x / 4 &&& msk 51 n)
def s3 (n x : Nat) : Nat := (x + x / 16) &&& msk 15 n
theorem t_ok : ∀ a, a < 256 → t3 (t2 (t1 a)) = pc8 a ∧ t1 a < 256 ∧ t2 (t1 a) < 69 ∧ t2 (t1 a) % 16 ≤ 4 ∧ (a / 2 &&& 85) ≤ a ∧ pc8 a ≤ 8 := by decide +kernel
theorem t_x1 : ∀ a, a < 128 → (a + 128) &&& 85 = a &&& 85 := by decide +kernel
theorem t_x2 : ∀ a, a < 64 → (a + 64 &&& 51 = a &&& 51) ∧ (a + 128 &&& 51 = a &&& 51) ∧ (a + 192 &&& 51 = a &&& 51) := by decide +kernel
theorem t_x3 : ∀ a, a < 16 → ∀ b, b < 16 → a + 16 * b &&& 15 = a := by decide +kernel
theorem s1_dig {n x : Nat} : s1 (n + 1) x = t1 (x % 256) + 256 * s1 n (x / 256) ∧ (x / 2 &&& msk 85 (n + 1)) ≤ x → s1 (n + 1) x = t1 (x % 256) + 256 * s1 n (x / 256) := fun h => h.1
theorem and_le_l (a b : Nat) : a &&& b ≤ a := Nat.and_le_left
theorem s1_and (n x : Nat) : x / 2 &&& msk 85 (n + 1) = (x % 256 / 2 &&& 85) + 256 * (x / 256 / 2 &&& msk 85 n) := by
  have e : x / 2 = (x % 256 / 2 + 128 * (x / 256 % 2)) + 2 ^ 8 * (x / 256 / 2) := by omega
  rw [e, show msk 85 (n + 1) = 85 + 2 ^ 8 * msk 85 n from rfl, and_dig (by omega) (by decide)]
  congr 1
  have h : x / 256 % 2 = 0 ∨ x / 256 % 2 = 1 := by omega
  rcases h with h | h
  · rw [h, Nat.mul_zero, Nat.add_zero]
  · rw [h]; exact t_x1 _ (by omega)
theorem s1_le : ∀ (n x : Nat), (x / 2 &&& msk 85 n) ≤ x
  | n, x => Nat.le_trans Nat.and_le_left (by omega)
theorem s1_s (n x : Nat) : s1 (n + 1) x = t1 (x % 256) + 256 * s1 n (x / 256) := by
  unfold s1 t1
  rw [s1_and]
  have h1 := (t_ok (x % 256) (by omega)).2.2.2.2.1
  have h2 := s1_le n (x / 256)
  have h3 := Nat.mod_add_div x 256
  omega
theorem s2_s (n x : Nat) : s2 (n + 1) x = t2 (x % 256) + 256 * s2 n (x / 256) := by
  unfold s2 t2
  have e0 : x = x % 256 + 2 ^ 8 * (x / 256) := by omega
  have e : x / 4 = (x % 256 / 4 + 64 * (x / 256 % 4)) + 2 ^ 8 * (x / 256 / 4) := by omega
  have h1 : x &&& msk 51 (n + 1) = (x % 256 &&& 51) + 2 ^ 8 * (x / 256 &&& msk 51 n) := by
    conv => lhs; rw [e0]
    rw [show msk 51 (n + 1) = 51 + 2 ^ 8 * msk 51 n from rfl, and_dig (by omega) (by decide)]
  have h2 : x / 4 &&& msk 51 (n + 1) = (x % 256 / 4 &&& 51) + 2 ^ 8 * (x / 256 / 4 &&& msk 51 n) := by
    rw [e, show msk 51 (n + 1) = 51 + 2 ^ 8 * msk 51 n from rfl, and_dig (by omega) (by decide)]
    congr 1
    have h : x / 256 % 4 = 0 ∨ x / 256 % 4 = 1 ∨ x / 256 % 4 = 2 ∨ x / 256 % 4 = 3 := by omega
    have hx := t_x2 (x % 256 / 4) (by omega)
    rcases h with h | h | h | h <;> rw [h]
    · rw [Nat.mul_zero, Nat.add_zero]
    · exact hx.1
    · exact hx.2.1
    · exact hx.2.2
  rw [h1, h2]
  omega
/-- every byte: both halves are 4 at most -/
def Nib : Nat → Nat → Prop
  | 0, x => x = 0
  | n + 1, x => x % 16 ≤ 4 ∧ x % 256 < 69 ∧ Nib n (x / 256)
theorem s3_s {n x : Nat} (h : Nib (n + 1) x) : s3 (n + 1) x = t3 (x % 256) + 256 * s3 n (x / 256) := by
  unfold s3 t3
  obtain ⟨h1, h2, h3⟩ := h
  have hy : x / 256 % 16 ≤ 4 := by
    cases n with
    | zero => have : x / 256 = 0 := h3; omega
    | succ n => exact h3.1
  have e : x + x / 16 = (x % 16 + x / 16 % 16 + 16 * (x / 16 % 16 + x / 256 % 16)) + 2 ^ 8 * (x / 256 + x / 256 / 16) := by omega
  have e2 : x % 256 + x % 256 / 16 = (x % 16 + x / 16 % 16) + 16 * (x / 16 % 16) := by omega
  rw [e, show msk 15 (n + 1) = 15 + 2 ^ 8 * msk 15 n from rfl, and_dig (by omega) (by decide), t_x3 _ (by omega) _ (by omega), e2, t_x3 _ (by omega) _ (by omega)]
theorem nib_ok : ∀ (n x : Nat), x < 256 ^ n → Nib n (s2 n (s1 n x)) ∧ s3 n (s2 n (s1 n x)) = pcS n x
  | 0, x, h => by
    have : x = 0 := by rw [Nat.pow_zero] at h; omega
    subst this
    exact ⟨by show s2 0 (s1 0 0) = 0; decide, by decide⟩
  | n + 1, x, h => by
    have ht := t_ok (x % 256) (by omega)
    have ih := nib_ok n (x / 256) (by rw [Nat.pow_succ] at h; omega)
    have h1 : s1 (n + 1) x % 256 = t1 (x % 256) ∧ s1 (n + 1) x / 256 = s1 n (x / 256) := by rw [s1_s]; omega
    have h2 : s2 (n + 1) (s1 (n + 1) x) = t2 (t1 (x % 256)) + 256 * s2 n (s1 n (x / 256)) := by rw [s2_s, h1.1, h1.2]
    have h3 : s2 (n + 1) (s1 (n + 1) x) % 256 = t2 (t1 (x % 256)) ∧ s2 (n + 1) (s1 (n + 1) x) / 256 = s2 n (s1 n (x / 256)) ∧ s2 (n + 1) (s1 (n + 1) x) % 16 = t2 (t1 (x % 256)) % 16 := by rw [h2]; omega
    have hN : Nib (n + 1) (s2 (n + 1) (s1 (n + 1) x)) := ⟨by rw [h3.2.2]; exact ht.2.2.2.1, by rw [h3.1]; exact ht.2.2.1, by rw [h3.2.1]; exact ih.1⟩
    refine ⟨hN, ?_⟩
    rw [s3_s hN, h3.1, h3.2.1, ih.2, ht.1]; rfl
theorem cntB_add (f : Nat → Bool) (a : Nat) : ∀ b, cntB f (a + b) = cntB f a + cntB (fun i => f (a + i)) b
  | 0 => rfl
  | b + 1 => by
    show cntB f (a + b) + (f (a + b)).toNat = cntB f a + (cntB (fun i => f (a + i)) b + (f (a + b)).toNat)
    rw [cntB_add f a b]; omega
theorem cntB_cong {f g : Nat → Bool} : ∀ {n : Nat}, (∀ k, k < n → f k = g k) → cntB f n = cntB g n
  | 0, _ => rfl
  | n + 1, h => by
    unfold cntB
    rw [cntB_cong (fun k hk => h k (by omega)), h n (by omega)]
theorem tb_mod (x i : Nat) : (x.testBit i).toNat = x / 2 ^ i % 2 := Nat.toNat_testBit x i
theorem pc8_tb (x : Nat) : cntB (fun i => x.testBit i) 8 = pc8 (x % 256) := by
  simp only [cntB, tb_mod, pc8]
  omega
theorem pcS_tb : ∀ (n x : Nat), ∃ L : List Nat, L.length = n ∧ (∀ p ∈ L, p ≤ 8) ∧ pcS n x = L.foldr (fun p a => p + 256 * a) 0 ∧ cntB (fun i => x.testBit i) (8 * n) = L.sum
  | 0, x => ⟨[], rfl, by simp, rfl, rfl⟩
  | n + 1, x => by
    obtain ⟨L, h1, h2, h3, h4⟩ := pcS_tb n (x / 256)
    refine ⟨pc8 (x % 256) :: L, by simp [h1], fun p hp => ?_, by rw [pcS, h3]; rfl, ?_⟩
    · rcases List.mem_cons.mp hp with rfl | hp
      · exact (t_ok (x % 256) (by omega)).2.2.2.2.2
      · exact h2 p hp
    · rw [show 8 * (n + 1) = 8 + 8 * n by omega, cntB_add, pc8_tb, List.sum_cons, ← h4]
      congr 1
      refine cntB_cong (fun k _ => ?_)
      rw [show x / 256 = x / 2 ^ 8 from rfl, Nat.testBit_div_two_pow, Nat.add_comm]
theorem dg4 {p0 p1 p2 p3 p4 p5 p6 p7 x : Nat} (q0 : p0 ≤ 8) (q1 : p1 ≤ 8) (q2 : p2 ≤ 8) (q3 : p3 ≤ 8) (q4 : p4 ≤ 8) (q5 : p5 ≤ 8) (q6 : p6 ≤ 8) (q7 : p7 ≤ 8) (e3 : x = p0 + 256 * (p1 + 256 * (p2 + 256 * (p3 + 256 * (p4 + 256 * (p5 + 256 * (p6 + 256 * (p7 + 256 * 0)))))))) : x + x / 256 = (p0 + p1) + 256 * (p1 + p2) + 65536 * (p2 + p3) + 16777216 * (p3 + p4) + 4294967296 * (p4 + p5) + 1099511627776 * (p5 + p6) + 281474976710656 * (p6 + p7) + 72057594037927936 * p7 := by
  have h : x / 256 = p1 + 256 * (p2 + 256 * (p3 + 256 * (p4 + 256 * (p5 + 256 * (p6 + 256 * p7))))) := by omega
  rw [h, e3]
  omega
theorem dg5 {a0 a1 a2 a3 a4 a5 a6 a7 x : Nat} (q0 : a0 ≤ 16) (q1 : a1 ≤ 16) (e3 : x = a0 + 256 * a1 + 65536 * a2 + 16777216 * a3 + 4294967296 * a4 + 1099511627776 * a5 + 281474976710656 * a6 + 72057594037927936 * a7) : x / 65536 = a2 + 256 * a3 + 65536 * a4 + 16777216 * a5 + 4294967296 * a6 + 1099511627776 * a7 := by
  omega
theorem dg6 {a0 a1 a2 a3 a4 a5 a6 a7 x : Nat} (q0 : a0 ≤ 32) (q1 : a1 ≤ 32) (q2 : a2 ≤ 32) (q3 : a3 ≤ 32) (e3 : x = a0 + 256 * a1 + 65536 * a2 + 16777216 * a3 + 4294967296 * a4 + 1099511627776 * a5 + 281474976710656 * a6 + 72057594037927936 * a7) : x / 4294967296 = a4 + 256 * a5 + 65536 * a6 + 16777216 * a7 := by
  omega
/-- Long.bitCount's way -/
theorem bit_trick {x x1 x2 x3 x4 x5 x6 : Int64} (h1 : x1 = x - ((x.toUInt64 >>> ((nI 1).toInt64.toUInt64 &&& Int64.toUInt64 63)).toInt64 &&& lN 6148914691236517205))
    (h2 : x2 = (x1 &&& lN 3689348814741910323) + ((x1.toUInt64 >>> ((nI 2).toInt64.toUInt64 &&& Int64.toUInt64 63)).toInt64 &&& lN 3689348814741910323))
    (h3 : x3 = (x2 + (x2.toUInt64 >>> ((nI 4).toInt64.toUInt64 &&& Int64.toUInt64 63)).toInt64) &&& lN 1085102592571150095)
    (h4 : x4 = x3 + (x3.toUInt64 >>> ((nI 8).toInt64.toUInt64 &&& Int64.toUInt64 63)).toInt64) (h5 : x5 = x4 + (x4.toUInt64 >>> ((nI 16).toInt64.toUInt64 &&& Int64.toUInt64 63)).toInt64) (h6 : x6 = x5 + (x5.toUInt64 >>> ((nI 32).toInt64.toUInt64 &&& Int64.toUInt64 63)).toInt64) :
    x6.toInt32 &&& nI 127 = nI (cntB (lbit x) 64) := by
  have hx := lU_lt x
  have m85 : msk 85 8 = 6148914691236517205 := by decide
  have m51 : msk 51 8 = 3689348814741910323 := by decide
  have m15 : msk 15 8 = 1085102592571150095 := by decide
  have e1 : lU x1 = s1 8 (lU x) := by
    rw [h1, lU_sub, lU_and, lU_ushr _ 1 (by decide), lU_lN (by decide), s1, m85, Nat.pow_one]
    rw [lU_and, lU_ushr _ 1 (by decide)]
    exact Nat.le_trans Nat.and_le_left (by omega)
  have hb1 : ∀ z : Nat, z &&& 3689348814741910323 ≤ 3689348814741910323 := fun z => Nat.and_le_right
  have e2 : lU x2 = s2 8 (lU x1) := by
    rw [h2, lU_add, lU_and, lU_and, lU_ushr _ 2 (by decide), lU_lN (by decide), s2, m51, show (2 : Nat) ^ 2 = 4 from rfl]
    rw [lU_and, lU_and, lU_lN (by decide)]
    have := hb1 (lU x1)
    have := hb1 (lU ((x1.toUInt64 >>> ((nI 2).toInt64.toUInt64 &&& Int64.toUInt64 63)).toInt64))
    omega
  have hn := nib_ok 8 (lU x) (by rw [show (256 : Nat) ^ 8 = 2 ^ 64 from by decide]; exact hx)
  rw [← e1, ← e2] at hn
  have hx2 : lU x2 < 2 ^ 63 := by
    have h9 : lU x2 ≤ 3689348814741910323 + 3689348814741910323 := by
      rw [e2]
      have := hb1 (lU x1)
      have := hb1 (lU x1 / 4)
      rw [s2, m51]
      omega
    omega
  have e3 : lU x3 = pcS 8 (lU x) := by
    rw [h3, lU_and, lU_add, lU_ushr _ 4 (by decide), lU_lN (by decide), ← hn.2, s3, m15, show (2 : Nat) ^ 4 = 16 from rfl]
    rw [lU_ushr _ 4 (by decide)]
    omega
  obtain ⟨L, l1, l2, l3, l4⟩ := pcS_tb 8 (lU x)
  obtain ⟨p0, p1, p2, p3, p4, p5, p6, p7, rfl⟩ : ∃ a b c d e f g h, L = [a, b, c, d, e, f, g, h] := by
    match L, l1 with
    | [a, b, c, d, e, f, g, h], _ => exact ⟨a, b, c, d, e, f, g, h, rfl⟩
  have q0 := l2 p0 (by simp)
  have q1 := l2 p1 (by simp)
  have q2 := l2 p2 (by simp)
  have q3 := l2 p3 (by simp)
  have q4 := l2 p4 (by simp)
  have q5 := l2 p5 (by simp)
  have q6 := l2 p6 (by simp)
  have q7 := l2 p7 (by simp)
  rw [l3] at e3
  simp only [List.foldr_cons, List.foldr_nil] at e3
  clear hn hx2 e2 e1 hb1 l3 l2 m85 m51 m15 l1
  have e4 : lU x4 = (p0 + p1) + 256 * (p1 + p2) + 65536 * (p2 + p3) + 16777216 * (p3 + p4) + 4294967296 * (p4 + p5) + 1099511627776 * (p5 + p6) + 281474976710656 * (p6 + p7) + 72057594037927936 * p7 := by
    have h9 := dg4 q0 q1 q2 q3 q4 q5 q6 q7 e3
    rw [h4, lU_add, lU_ushr _ 8 (by decide)]
    · exact h9
    · rw [lU_ushr _ 8 (by decide), show (2 : Nat) ^ 8 = 256 from rfl, h9]; omega
  have e5 : lU x5 = (p0 + p1 + p2 + p3) + 256 * (p1 + p2 + p3 + p4) + 65536 * (p2 + p3 + p4 + p5) + 16777216 * (p3 + p4 + p5 + p6) + 4294967296 * (p4 + p5 + p6 + p7) + 1099511627776 * (p5 + p6 + p7) + 281474976710656 * (p6 + p7) + 72057594037927936 * p7 := by
    have h9 := dg5 (show p0 + p1 ≤ 16 by omega) (show p1 + p2 ≤ 16 by omega) e4
    rw [h5, lU_add, lU_ushr _ 16 (by decide), show (2 : Nat) ^ 16 = 65536 from rfl, h9, e4]
    · clear e3 e4 h9; omega
    · rw [lU_ushr _ 16 (by decide), show (2 : Nat) ^ 16 = 65536 from rfl, h9, e4]; clear e3 e4 h9; omega
  have e6 : lU x6 % 128 = p0 + p1 + p2 + p3 + p4 + p5 + p6 + p7 := by
    have h9 := dg6 (show p0 + p1 + p2 + p3 ≤ 32 by omega) (show p1 + p2 + p3 + p4 ≤ 32 by omega) (show p2 + p3 + p4 + p5 ≤ 32 by omega) (show p3 + p4 + p5 + p6 ≤ 32 by omega) e5
    rw [h6, lU_add, lU_ushr _ 32 (by decide), show (2 : Nat) ^ 32 = 4294967296 from rfl, h9, e5]
    · clear e3 e4 e5 h9; omega
    · rw [lU_ushr _ 32 (by decide), show (2 : Nat) ^ 32 = 4294967296 from rfl, h9, e5]; clear e3 e4 e5 h9; omega
  have hc : cntB (lbit x) 64 = p0 + p1 + p2 + p3 + p4 + p5 + p6 + p7 := by
    rw [cntB_cong (fun k _ => lbit_U x k), show (64 : Nat) = 8 * 8 from by decide, l4]
    simp only [List.sum_cons, List.sum_nil]
    clear e3 e4 e5 e6
    omega
  rw [hc, ← e6]
  clear hc e6 e5 e4 e3 l4
  apply Int32.toBitVec_inj.mp
  apply BitVec.eq_of_toNat_eq
  rw [Int32.toBitVec_and, BitVec.toNat_and]
  show (x6.toBitVec.signExtend 32).toNat &&& 127 = (BitVec.ofNat 32 (lU x6 % 128)).toNat
  rw [BitVec.signExtend_eq_setWidth_of_le _ (by decide), BitVec.toNat_setWidth, BitVec.toNat_ofNat, Nat.mod_eq_of_lt (show lU x6 % 128 < 2 ^ 32 by omega), show (127 : Nat) = 2 ^ 7 - 1 from rfl, Nat.and_two_pow_sub_one_eq_mod]
  show lU x6 % 2 ^ 32 % 2 ^ 7 = lU x6 % 128
  omega
