/-! How many bits: Integer.bitCount against the sum of the bits. -/
theorem pp_one : ∀ i, i < 32 → i ≠ 0 → Nat.testBit 1 i = false := by decide +kernel
theorem pp_lit : ∀ i, i < 32 → (1#32).getLsbD i = decide (i = 0) := by decide +kernel
theorem pp_bit (v : BitVec 32) (k : Nat) (h : k < 32) : v.sshiftRight k &&& 1#32 = BitVec.ofNat 32 (v.toNat / 2 ^ k % 2) := by
  have hb : v.getLsbD k = decide (v.toNat / 2 ^ k % 2 = 1) := Nat.testBit_eq_decide_div_mod_eq
  apply BitVec.eq_of_getLsbD_eq
  intro i hi
  rw [BitVec.getLsbD_and, BitVec.getLsbD_sshiftRight, pp_lit i hi, BitVec.getLsbD_ofNat]
  by_cases c : i = 0
  · subst c
    rw [if_pos (by omega), Nat.add_zero, hb]
    rcases Nat.mod_two_eq_zero_or_one (v.toNat / 2 ^ k) with e | e
    · rw [e]
      decide
    · rw [e]
      decide
  · rw [decide_eq_false c, Bool.and_false]
    rcases Nat.mod_two_eq_zero_or_one (v.toNat / 2 ^ k) with e | e
    · rw [e, Nat.zero_testBit, Bool.and_false]
    · rw [e, pp_one i hi c, Bool.and_false]
def pp_1 (X : Nat) : Nat := X - ((X / 2) &&& 1431655765)
def pp_2 (X : Nat) : Nat := (X &&& 858993459) + ((X / 4) &&& 858993459)
def pp_3 (X : Nat) : Nat := (X + X / 16) &&& 252645135
def pp_b1 (b : Nat) : Nat := b - ((b / 2) &&& 0x55)
def pp_b2 (b : Nat) : Nat := (b &&& 0x33) + ((b / 4) &&& 0x33)
def pp_8 (b : Nat) : Nat := b % 2 + b / 2 % 2 + b / 4 % 2 + b / 8 % 2 + b / 16 % 2 + b / 32 % 2 + b / 64 % 2 + b / 128 % 2
theorem pp_and (a b m n : Nat) (ha : a < 256) (hm : m < 256) : (a + 256 * b) &&& (m + 256 * n) = (a &&& m) + 256 * (b &&& n) := by
  have h1 : ((a + 256 * b) &&& (m + 256 * n)) % 2 ^ 8 = (a &&& m) := by
    rw [Nat.and_mod_two_pow]
    rw [show (a + 256 * b) % 2 ^ 8 = a by omega, show (m + 256 * n) % 2 ^ 8 = m by omega]
  have h2 : ((a + 256 * b) &&& (m + 256 * n)) / 2 ^ 8 = (b &&& n) := by
    rw [← Nat.shiftRight_eq_div_pow, Nat.shiftRight_and_distrib, Nat.shiftRight_eq_div_pow, Nat.shiftRight_eq_div_pow]
    rw [show (a + 256 * b) / 2 ^ 8 = b by omega, show (m + 256 * n) / 2 ^ 8 = n by omega]
  omega
theorem pp_t1 : ∀ b, b < 256 → ∀ k, k < 2 → ((b / 2 + 128 * k) &&& 0x55) = ((b / 2) &&& 0x55) ∧ ((b / 2) &&& 0x55) ≤ b := by decide +kernel
theorem pp_t2 : ∀ b, b < 256 → ∀ k, k < 4 → ((b / 4 + 64 * k) &&& 0x33) = ((b / 4) &&& 0x33) ∧ ((b / 4) &&& 0x33) ≤ 0x33 ∧ (b &&& 0x33) ≤ 0x33 := by decide +kernel
theorem pp_t3 : ∀ b, b < 256 → (pp_b2 (pp_b1 b)) % 16 ≤ 4 ∧ (pp_b2 (pp_b1 b)) / 16 ≤ 4 ∧ (pp_b2 (pp_b1 b)) % 16 + (pp_b2 (pp_b1 b)) / 16 = pp_8 b ∧ pp_8 b ≤ 8 ∧ pp_b1 b < 256 ∧ pp_b2 (pp_b1 b) < 256 := by decide +kernel
theorem pp_t4 : ∀ b, b < 256 → (b &&& 0x0f) = b % 16 := by decide +kernel
theorem pp_s1 (b0 b1 b2 b3 : Nat) (h0 : b0 < 256) (h1 : b1 < 256) (h2 : b2 < 256) (h3 : b3 < 256) : pp_1 (b0 + 256 * (b1 + 256 * (b2 + 256 * b3))) = pp_b1 b0 + 256 * (pp_b1 b1 + 256 * (pp_b1 b2 + 256 * pp_b1 b3)) ∧ ((b0 + 256 * (b1 + 256 * (b2 + 256 * b3))) / 2 &&& 1431655765) ≤ b0 + 256 * (b1 + 256 * (b2 + 256 * b3)) := by
  have e : (b0 + 256 * (b1 + 256 * (b2 + 256 * b3))) / 2 = (b0 / 2 + 128 * (b1 % 2)) + 256 * ((b1 / 2 + 128 * (b2 % 2)) + 256 * ((b2 / 2 + 128 * (b3 % 2)) + 256 * (b3 / 2 + 128 * 0))) := by omega
  have e2 : (1431655765 : Nat) = 0x55 + 256 * (0x55 + 256 * (0x55 + 256 * 0x55)) := rfl
  unfold pp_1
  rw [e, e2, pp_and _ _ _ _ (by omega) (by decide), pp_and _ _ _ _ (by omega) (by decide), pp_and _ _ _ _ (by omega) (by decide)]
  rw [(pp_t1 b0 h0 (b1 % 2) (by omega)).1, (pp_t1 b1 h1 (b2 % 2) (by omega)).1, (pp_t1 b2 h2 (b3 % 2) (by omega)).1, (pp_t1 b3 h3 0 (by omega)).1]
  have k0 := (pp_t1 b0 h0 0 (by omega)).2
  have k1 := (pp_t1 b1 h1 0 (by omega)).2
  have k2 := (pp_t1 b2 h2 0 (by omega)).2
  have k3 := (pp_t1 b3 h3 0 (by omega)).2
  unfold pp_b1
  omega
theorem pp_s2 (b0 b1 b2 b3 : Nat) (h0 : b0 < 256) (h1 : b1 < 256) (h2 : b2 < 256) (h3 : b3 < 256) : pp_2 (b0 + 256 * (b1 + 256 * (b2 + 256 * b3))) = pp_b2 b0 + 256 * (pp_b2 b1 + 256 * (pp_b2 b2 + 256 * pp_b2 b3)) := by
  have e : (b0 + 256 * (b1 + 256 * (b2 + 256 * b3))) / 4 = (b0 / 4 + 64 * (b1 % 4)) + 256 * ((b1 / 4 + 64 * (b2 % 4)) + 256 * ((b2 / 4 + 64 * (b3 % 4)) + 256 * (b3 / 4 + 64 * 0))) := by omega
  have e2 : (858993459 : Nat) = 0x33 + 256 * (0x33 + 256 * (0x33 + 256 * 0x33)) := rfl
  unfold pp_2
  rw [e, e2, pp_and _ _ _ _ (by omega) (by decide), pp_and _ _ _ _ (by omega) (by decide), pp_and _ _ _ _ (by omega) (by decide), pp_and _ _ _ _ (by omega) (by decide), pp_and _ _ _ _ (by omega) (by decide), pp_and _ _ _ _ (by omega) (by decide)]
  rw [(pp_t2 b0 h0 (b1 % 4) (by omega)).1, (pp_t2 b1 h1 (b2 % 4) (by omega)).1, (pp_t2 b2 h2 (b3 % 4) (by omega)).1, (pp_t2 b3 h3 0 (by omega)).1]
  unfold pp_b2
  omega
theorem pp_m (b c : Nat) (h : b / 16 ≤ 4 ∧ b % 16 ≤ 4) : (b + b / 16 + 16 * c) % 16 = b % 16 + b / 16 := by omega
theorem pp_m0 (b : Nat) (h : b / 16 ≤ 4 ∧ b % 16 ≤ 4) : (b + b / 16) % 16 = b % 16 + b / 16 := by omega
theorem pp_s3 (b0 b1 b2 b3 : Nat) (h0 : b0 / 16 ≤ 4 ∧ b0 % 16 ≤ 4) (h1 : b1 / 16 ≤ 4 ∧ b1 % 16 ≤ 4) (h2 : b2 / 16 ≤ 4 ∧ b2 % 16 ≤ 4) (h3 : b3 / 16 ≤ 4 ∧ b3 % 16 ≤ 4) : pp_3 (b0 + 256 * (b1 + 256 * (b2 + 256 * b3))) = (b0 % 16 + b0 / 16) + 256 * ((b1 % 16 + b1 / 16) + 256 * ((b2 % 16 + b2 / 16) + 256 * (b3 % 16 + b3 / 16))) := by
  have e : (b0 + 256 * (b1 + 256 * (b2 + 256 * b3))) + (b0 + 256 * (b1 + 256 * (b2 + 256 * b3))) / 16 = (b0 + b0 / 16 + 16 * (b1 % 16)) + 256 * ((b1 + b1 / 16 + 16 * (b2 % 16)) + 256 * ((b2 + b2 / 16 + 16 * (b3 % 16)) + 256 * (b3 + b3 / 16))) := by omega
  have e2 : (252645135 : Nat) = 0xf + 256 * (0xf + 256 * (0xf + 256 * 0xf)) := rfl
  unfold pp_3
  rw [e, e2, pp_and _ _ _ _ (by omega) (by decide), pp_and _ _ _ _ (by omega) (by decide), pp_and _ _ _ _ (by omega) (by decide)]
  rw [pp_t4 _ (by omega), pp_t4 _ (by omega), pp_t4 _ (by omega), pp_t4 _ (by omega), pp_m b0 _ h0, pp_m b1 _ h1, pp_m b2 _ h2, pp_m0 b3 h3]
theorem pp_all (X : Nat) (hX : X < 4294967296) : pp_1 X < 4294967296 ∧ (X / 2 &&& 1431655765) ≤ X ∧ pp_2 (pp_1 X) < 2147483648 ∧ pp_2 (pp_1 X) + pp_2 (pp_1 X) / 16 < 4294967296 ∧ pp_3 (pp_2 (pp_1 X)) = pp_8 (X % 256) + 256 * (pp_8 (X / 256 % 256) + 256 * (pp_8 (X / 65536 % 256) + 256 * pp_8 (X / 16777216 % 256))) := by
  have e : X = X % 256 + 256 * (X / 256 % 256 + 256 * (X / 65536 % 256 + 256 * (X / 16777216 % 256))) := by omega
  generalize hb0 : X % 256 = b0 at *
  generalize hb1 : X / 256 % 256 = b1 at *
  generalize hb2 : X / 65536 % 256 = b2 at *
  generalize hb3 : X / 16777216 % 256 = b3 at *
  have h0 : b0 < 256 := by omega
  have h1 : b1 < 256 := by omega
  have h2 : b2 < 256 := by omega
  have h3 : b3 < 256 := by omega
  clear hb0 hb1 hb2 hb3
  subst e
  obtain ⟨a1, a2, a3, a4, a5, a6⟩ := pp_t3 b0 h0
  obtain ⟨c1, c2, c3, c4, c5, c6⟩ := pp_t3 b1 h1
  obtain ⟨d1, d2, d3, d4, d5, d6⟩ := pp_t3 b2 h2
  obtain ⟨f1, f2, f3, f4, f5, f6⟩ := pp_t3 b3 h3
  obtain ⟨s1, s2⟩ := pp_s1 b0 b1 b2 b3 h0 h1 h2 h3
  rw [s1, pp_s2 _ _ _ _ a5 c5 d5 f5, pp_s3 _ _ _ _ ⟨a2, a1⟩ ⟨c2, c1⟩ ⟨d2, d1⟩ ⟨f2, f1⟩, a3, c3, d3, f3]
  exact ⟨by omega, s2, by omega, by omega, rfl⟩
def pp_sm (X : Nat) : Nat → Nat
  | 0 => 0
  | k + 1 => pp_sm X k + X / 2 ^ k % 2
theorem pp_q0 (Y : Nat) : Y % 256 % 2 = Y % 2 := by omega
theorem pp_q1 (Y : Nat) : Y % 256 / 2 % 2 = Y / 2 % 2 := by omega
theorem pp_q2 (Y : Nat) : Y % 256 / 4 % 2 = Y / 4 % 2 := by omega
theorem pp_q3 (Y : Nat) : Y % 256 / 8 % 2 = Y / 8 % 2 := by omega
theorem pp_q4 (Y : Nat) : Y % 256 / 16 % 2 = Y / 16 % 2 := by omega
theorem pp_q5 (Y : Nat) : Y % 256 / 32 % 2 = Y / 32 % 2 := by omega
theorem pp_q6 (Y : Nat) : Y % 256 / 64 % 2 = Y / 64 % 2 := by omega
theorem pp_q7 (Y : Nat) : Y % 256 / 128 % 2 = Y / 128 % 2 := by omega
theorem pp_8m (Y : Nat) : pp_8 (Y % 256) = Y % 2 + Y / 2 % 2 + Y / 4 % 2 + Y / 8 % 2 + Y / 16 % 2 + Y / 32 % 2 + Y / 64 % 2 + Y / 128 % 2 := by
  unfold pp_8
  rw [pp_q0, pp_q1, pp_q2, pp_q3, pp_q4, pp_q5, pp_q6, pp_q7]
theorem pp_sm32 (X : Nat) : pp_sm X 32 = pp_8 (X % 256) + pp_8 (X / 256 % 256) + pp_8 (X / 65536 % 256) + pp_8 (X / 16777216 % 256) := by
  rw [pp_8m, pp_8m, pp_8m, pp_8m]
  simp only [pp_sm, Nat.reducePow, Nat.reduceAdd, Nat.div_one, Nat.div_div_eq_div_mul, Nat.reduceMul, Nat.add_assoc, Nat.zero_add]
def un (x : Int32) : Nat := x.toUInt32.toBitVec.toNat
theorem un_inj {x y : Int32} (h : un x = un y) : x = y := by
  cases x with | ofUInt32 a => cases y with | ofUInt32 b =>
    cases a with | ofBitVec v => cases b with | ofBitVec w =>
      exact congrArg (fun z => Int32.ofUInt32 (UInt32.ofBitVec z)) (BitVec.eq_of_toNat_eq h)
theorem un_lt (x : Int32) : un x < 4294967296 := x.toUInt32.toBitVec.isLt
theorem un_and (x y : Int32) : un (x &&& y) = (un x &&& un y) := BitVec.toNat_and ..
theorem un_add (x y : Int32) : un (x + y) = (un x + un y) % 4294967296 := BitVec.toNat_add ..
theorem un_sub (x y : Int32) (h : un y ≤ un x) : un (x - y) = un x - un y := by
  have h1 : un (x - y) = (4294967296 - un y + un x) % 4294967296 := BitVec.toNat_sub ..
  have := un_lt x
  omega
def us (x : Int32) (k : Nat) : Int32 := Int32.ofUInt32 (UInt32.ofBitVec (x.toUInt32.toBitVec >>> k))
theorem un_us (x : Int32) (k : Nat) : un (us x k) = un x / 2 ^ k := (BitVec.toNat_ushiftRight ..).trans (Nat.shiftRight_eq_div_pow ..)
theorem un_nI {n : Nat} (h : n < 4294967296) : un (nI n) = n := Nat.mod_eq_of_lt h
theorem pp_sh : ∀ k, k < 32 → ((nI k &&& 31).toBitVec.smod 32#32).toNat = k := by decide +kernel
theorem pp_step (x : Int32) (k : Nat) (h : k < 32) : ((x >>> (nI k &&& 31)) &&& 1) = nI (un x / 2 ^ k % 2) := by
  have h1 : un ((x >>> (nI k &&& 31)) &&& 1) = (x.toUInt32.toBitVec.sshiftRight (((nI k &&& 31).toBitVec.smod 32#32).toNat) &&& 1#32).toNat := rfl
  apply un_inj
  rw [h1, pp_sh k h, pp_bit _ k h, un_nI (by omega)]
  exact Nat.mod_eq_of_lt (by omega)
theorem pp_pop (x : Int32) : ∀ n, n ≤ 32 → bm_pop x n = nI (pp_sm (un x) n)
  | 0, _ => rfl
  | n + 1, h => by
    unfold bm_pop
    rw [pp_pop x n (by omega), pp_step x n (by omega)]
    exact nI_add _ _
def jb1 (x : Int32) : Int32 := x - (us x 1 &&& 1431655765)
def jb2 (x : Int32) : Int32 := (x &&& 858993459) + (us x 2 &&& 858993459)
def jb3 (x : Int32) : Int32 := (x + us x 4) &&& 252645135
def jb4 (x : Int32) : Int32 := x + us x 8
def jb5 (x : Int32) : Int32 := x + us x 16
def jb (x : Int32) : Int32 := jb5 (jb4 (jb3 (jb2 (jb1 x)))) &&& nI 63
theorem pp_fin (a b c d : Nat) (ha : a ≤ 8) (hb : b ≤ 8) (hc : c ≤ 8) (hd : d ≤ 8) : (((a + 256 * (b + 256 * (c + 256 * d)) + (a + 256 * (b + 256 * (c + 256 * d))) / 256) % 4294967296 + (a + 256 * (b + 256 * (c + 256 * d)) + (a + 256 * (b + 256 * (c + 256 * d))) / 256) % 4294967296 / 65536) % 4294967296) % 64 = a + b + c + d := by
  have d1 : (a + 256 * (b + 256 * (c + 256 * d))) / 256 = b + 256 * (c + 256 * d) := by omega
  rw [d1]
  have d2 : (a + 256 * (b + 256 * (c + 256 * d)) + (b + 256 * (c + 256 * d))) % 4294967296 = (a + b) + 256 * ((b + c) + 256 * ((c + d) + 256 * d)) := by omega
  rw [d2]
  have d3 : ((a + b) + 256 * ((b + c) + 256 * ((c + d) + 256 * d))) / 65536 = (c + d) + 256 * d := by omega
  rw [d3]
  omega
theorem jb_pop (x : Int32) : jb x = bm_pop x 32 := by
  obtain ⟨a1, a2, a3, a4, a5⟩ := pp_all (un x) (un_lt x)
  have e1 : un (jb1 x) = pp_1 (un x) := by
    have c : un (us x 1 &&& 1431655765) = (un x / 2 &&& 1431655765) := by rw [un_and, un_us]; rfl
    unfold jb1
    rw [un_sub _ _ (by rw [c]; exact a2), c]
    rfl
  have hl := Nat.and_le_left (n := pp_1 (un x)) (m := 858993459)
  have e2 : un (jb2 (jb1 x)) = pp_2 (pp_1 (un x)) := by
    have c : un (us (jb1 x) 2 &&& 858993459) = (pp_1 (un x) / 4 &&& 858993459) := by rw [un_and, un_us, e1]; rfl
    have c2 : un (jb1 x &&& 858993459) = (pp_1 (un x) &&& 858993459) := by rw [un_and, e1]; rfl
    unfold jb2
    rw [un_add, c, c2]
    show pp_2 (pp_1 (un x)) % 4294967296 = _
    omega
  have e3 : un (jb3 (jb2 (jb1 x))) = pp_3 (pp_2 (pp_1 (un x))) := by
    unfold jb3
    rw [un_and, un_add, un_us, e2]
    show ((pp_2 (pp_1 (un x)) + pp_2 (pp_1 (un x)) / 16) % 4294967296 &&& 252645135) = _
    rw [Nat.mod_eq_of_lt a4]
    rfl
  have t0 := (pp_t3 (un x % 256) (by omega)).2.2.2.1
  have t1 := (pp_t3 (un x / 256 % 256) (by omega)).2.2.2.1
  have t2 := (pp_t3 (un x / 65536 % 256) (by omega)).2.2.2.1
  have t3 := (pp_t3 (un x / 16777216 % 256) (by omega)).2.2.2.1
  rw [a5] at e3
  have e5 : un (jb5 (jb4 (jb3 (jb2 (jb1 x))))) % 64 = pp_8 (un x % 256) + pp_8 (un x / 256 % 256) + pp_8 (un x / 65536 % 256) + pp_8 (un x / 16777216 % 256) := by
    unfold jb5 jb4
    rw [un_add, un_us, un_add, un_us, e3]
    simp only [Nat.reducePow]
    exact pp_fin _ _ _ _ t0 t1 t2 t3
  apply un_inj
  rw [pp_pop x 32 (by decide), pp_sm32, un_nI (by omega), ← e5]
  unfold jb
  rw [un_and, un_nI (by decide)]
  exact Nat.and_two_pow_sub_one_eq_mod _ 6
