/-! The reference: rows of bits, flat squares, its object. -/
theorem sm32 : ∀ k, k < 32 → (BitVec.ofNat 32 k).smod 32 = BitVec.ofNat 32 k := by decide +kernel
theorem sm64 : ∀ k, k < 64 → (BitVec.ofNat 64 k).smod 64 = BitVec.ofNat 64 k := by decide +kernel
theorem nI_or (a b : Nat) : nI a ||| nI b = nI (a ||| b) := by
  unfold nI
  apply Int32.toBitVec_inj.mp
  apply BitVec.eq_of_toNat_eq
  simp [Nat.or_mod_two_pow]
theorem nI_and (a b : Nat) : nI a &&& nI b = nI (a &&& b) := by
  unfold nI
  apply Int32.toBitVec_inj.mp
  apply BitVec.eq_of_toNat_eq
  simp [Nat.and_mod_two_pow]
theorem lN_or (a b : Nat) : lN a ||| lN b = lN (a ||| b) := by
  unfold lN
  apply Int64.toBitVec_inj.mp
  apply BitVec.eq_of_toNat_eq
  simp [Nat.or_mod_two_pow]
theorem lN_and (a b : Nat) : lN a &&& lN b = lN (a &&& b) := by
  unfold lN
  apply Int64.toBitVec_inj.mp
  apply BitVec.eq_of_toNat_eq
  simp [Nat.and_mod_two_pow]
theorem nI_m31 {k : Nat} (hk : k < 32) : nI k &&& 31 = nI k := by
  rw [show (31 : Int32) = nI 31 from rfl, nI_and]
  congr 1
  rw [show 31 = 2 ^ 5 - 1 from rfl, Nat.and_two_pow_sub_one_eq_mod, Nat.mod_eq_of_lt (by omega)]
theorem lN_m63 {k : Nat} (hk : k < 64) : (nI k).toInt64 &&& 63 = lN k := by
  rw [nI_l (by omega), show (63 : Int64) = lN 63 from rfl, lN_and]
  congr 1
  rw [show 63 = 2 ^ 6 - 1 from rfl, Nat.and_two_pow_sub_one_eq_mod, Nat.mod_eq_of_lt (by omega)]
theorem nI_shl (a : Nat) {k : Nat} (hk : k < 32) : nI a <<< (nI k &&& 31) = nI (a * 2 ^ k) := by
  rw [nI_m31 hk]
  unfold nI
  apply Int32.toBitVec_inj.mp
  rw [Int32.toBitVec_shiftLeft, Int32.toBitVec_ofNat', Int32.toBitVec_ofNat', Int32.toBitVec_ofNat', sm32 k hk]
  apply BitVec.eq_of_toNat_eq
  rw [BitVec.shiftLeft_eq', BitVec.toNat_shiftLeft, BitVec.toNat_ofNat, BitVec.toNat_ofNat, BitVec.toNat_ofNat, Nat.mod_eq_of_lt (show k < 2 ^ 32 by omega), Nat.shiftLeft_eq, Nat.mod_mul_mod]
theorem lN_shl (a : Nat) {k : Nat} (hk : k < 64) : lN a <<< ((nI k).toInt64 &&& 63) = lN (a * 2 ^ k) := by
  rw [lN_m63 hk]
  unfold lN
  apply Int64.toBitVec_inj.mp
  rw [Int64.toBitVec_shiftLeft, Int64.toBitVec_ofNat', Int64.toBitVec_ofNat', Int64.toBitVec_ofNat', sm64 k hk]
  apply BitVec.eq_of_toNat_eq
  rw [BitVec.shiftLeft_eq', BitVec.toNat_shiftLeft, BitVec.toNat_ofNat, BitVec.toNat_ofNat, BitVec.toNat_ofNat, Nat.mod_eq_of_lt (show k < 2 ^ 64 by omega), Nat.shiftLeft_eq, Nat.mod_mul_mod]
theorem nI_shr {a : Nat} (ha : a < 2 ^ 31) {k : Nat} (hk : k < 32) : nI a >>> (nI k &&& 31) = nI (a / 2 ^ k) := by
  rw [nI_m31 hk]
  unfold nI
  apply Int32.toBitVec_inj.mp
  rw [Int32.toBitVec_shiftRight, Int32.toBitVec_ofNat', Int32.toBitVec_ofNat', Int32.toBitVec_ofNat', sm32 k hk]
  apply BitVec.eq_of_toNat_eq
  rw [BitVec.sshiftRight_eq', BitVec.sshiftRight_eq_of_msb_false (by rw [BitVec.msb_eq_decide, BitVec.toNat_ofNat]; exact decide_eq_false (by omega)), BitVec.toNat_ushiftRight, BitVec.toNat_ofNat, BitVec.toNat_ofNat, BitVec.toNat_ofNat, Nat.mod_eq_of_lt (show k < 2 ^ 32 by omega), Nat.mod_eq_of_lt (show a < 2 ^ 32 by omega), Nat.shiftRight_eq_div_pow, Nat.mod_eq_of_lt (Nat.lt_of_le_of_lt (Nat.div_le_self _ _) (by omega))]
theorem lN_shr {a : Nat} (ha : a < 2 ^ 63) {k : Nat} (hk : k < 64) : lN a >>> ((nI k).toInt64 &&& 63) = lN (a / 2 ^ k) := by
  rw [lN_m63 hk]
  unfold lN
  apply Int64.toBitVec_inj.mp
  rw [Int64.toBitVec_shiftRight, Int64.toBitVec_ofNat', Int64.toBitVec_ofNat', Int64.toBitVec_ofNat', sm64 k hk]
  apply BitVec.eq_of_toNat_eq
  rw [BitVec.sshiftRight_eq', BitVec.sshiftRight_eq_of_msb_false (by rw [BitVec.msb_eq_decide, BitVec.toNat_ofNat]; exact decide_eq_false (by omega)), BitVec.toNat_ushiftRight, BitVec.toNat_ofNat, BitVec.toNat_ofNat, BitVec.toNat_ofNat, Nat.mod_eq_of_lt (show k < 2 ^ 64 by omega), Nat.mod_eq_of_lt (show a < 2 ^ 64 by omega), Nat.shiftRight_eq_div_pow, Nat.mod_eq_of_lt (Nat.lt_of_le_of_lt (Nat.div_le_self _ _) (by omega))]
theorem nI_rem {a b : Nat} (ha : a < 2 ^ 31) (hb : b < 2 ^ 31) : nI a - nI a / nI b * nI b = nI (a % b) := by
  have h1 : nI a / nI b = nI (a / b) := by
    apply Int32.toInt_inj.mp
    have hq : a / b < 2 ^ 31 := Nat.lt_of_le_of_lt (Nat.div_le_self _ _) ha
    rw [Int32.toInt_div, nI_toInt ha, nI_toInt hb, nI_toInt hq, ← Int.ofNat_tdiv]
    generalize a / b = q at hq
    rw [Int.bmod_def]
    omega
  rw [h1]
  have h2 : nI (a / b) * nI b = nI (a / b * b) := (Int32.ofNat_mul _ _).symm
  have h3 : a = a % b + a / b * b := by rw [Nat.mul_comm]; exact (Nat.mod_add_div a b).symm
  rw [h2]
  have h4 : nI a = nI (a % b) + nI (a / b * b) := by rw [nI_add, ← h3]
  rw [h4]
  exact Int32.add_sub_cancel _ _
def lc (x y : Int64) : Int32 := if x > y then 1 else if x = y then 0 else -1
theorem lc_lt {x y : Int64} : lc x y < 0 ↔ x < y := by
  unfold lc
  by_cases h : x > y
  · rw [if_pos h]
    exact ⟨fun z => absurd z (by decide), fun z => absurd (Int64.lt_trans z h) (Int64.lt_irrefl)⟩
  · rw [if_neg h]
    by_cases h2 : x = y
    · rw [if_pos h2]
      exact ⟨fun z => absurd z (by decide), fun z => absurd (h2 ▸ z) (Int64.lt_irrefl)⟩
    · rw [if_neg h2]
      exact ⟨fun _ => Int64.lt_of_le_of_ne (Int64.not_lt.mp h) h2, fun _ => by decide⟩
theorem lc_gt {x y : Int64} : 0 < lc x y ↔ y < x := by
  unfold lc
  by_cases h : x > y
  · rw [if_pos h]
    exact ⟨fun _ => h, fun _ => by decide⟩
  · rw [if_neg h]
    by_cases h2 : x = y
    · rw [if_pos h2]
      exact ⟨fun z => absurd z (by decide), fun z => absurd z h⟩
    · rw [if_neg h2]
      exact ⟨fun z => absurd z (by decide), fun z => absurd z h⟩
section LC
variable {p : Program} {l : Launch} {e : Env} {R : Room} {s : State} {m : MethodId} {args : Array Value} {below : List Frame} {meth : Method} {c : Code} {H : Heap} {locs : List Loc} {cells slots : Nat} {Q : State → Prop}
variable {cc : ByteArray} {pc : Nat} {ls : Array Slot} {rest : List Value}
theorem ri_lcmp (hexec : p.tables.exec = Jvm.exec) (hb : c.code = cc) {x y : Int64} (hdg : decode cc pc = .ok (.lcmp, 1))
    (k : W p l e R s m args below meth c H locs cells slots Q (F0 m (pc + 1) ls (.int (lc x y) :: rest))) : W p l e R s m args below meth c H locs cells slots Q (F0 m pc ls (.long y :: .long x :: rest)) := by
  intro T hT X
  obtain ⟨t, a, b⟩ := k T hT X
  refine ⟨t, ?_, b⟩
  unfold lc at a
  by_cases h : x > y
  · rw [if_pos h] at a
    jvm_step X.here [X.here.top, hexec, hb, hdg, h]
    exact a
  · rw [if_neg h] at a
    by_cases h2 : x = y
    · rw [if_pos h2] at a
      jvm_step X.here [X.here.top, hexec, hb, hdg, h, h2]
      exact a
    · rw [if_neg h2] at a
      jvm_step X.here [X.here.top, hexec, hb, hdg, h, h2]
      exact a
end LC
section LC2
variable {p : Program} {l : Launch} {e : Env} {R : Room} {s : State} {m : MethodId} {args : Array Value} {below : List Frame} {meth : Method} {c : Code} {H : Heap} {locs : List Loc} {cells slots : Nat} {Q : State → Prop}
variable {cc : ByteArray} {pc : Nat} {ls : Array Slot} {rest : List Value}
theorem ri_ior2 (hx : p.tables.exec = Jvm.exec) (hb : c.code = cc) {x y : Nat} (hd : decode cc pc = .ok (.ior, 1)) (k : W p l e R s m args below meth c H locs cells slots Q (F0 m (pc + 1) ls (.int (nI (x ||| y)) :: rest))) : W p l e R s m args below meth c H locs cells slots Q (F0 m pc ls (.int (nI y) :: .int (nI x) :: rest)) := lv_ior hx hb hd (by rw [nI_or]; exact k)
theorem ri_iand2 (hx : p.tables.exec = Jvm.exec) (hb : c.code = cc) {x y : Nat} (hd : decode cc pc = .ok (.iand, 1)) (k : W p l e R s m args below meth c H locs cells slots Q (F0 m (pc + 1) ls (.int (nI (x &&& y)) :: rest))) : W p l e R s m args below meth c H locs cells slots Q (F0 m pc ls (.int (nI y) :: .int (nI x) :: rest)) := lv_iand hx hb hd (by rw [nI_and]; exact k)
theorem ri_ishl2 (hx : p.tables.exec = Jvm.exec) (hb : c.code = cc) {x y : Nat} (hy : y < 32) (hd : decode cc pc = .ok (.ishl, 1)) (k : W p l e R s m args below meth c H locs cells slots Q (F0 m (pc + 1) ls (.int (nI (x * 2 ^ y)) :: rest))) : W p l e R s m args below meth c H locs cells slots Q (F0 m pc ls (.int (nI y) :: .int (nI x) :: rest)) := lv_ishl hx hb hd (by rw [nI_shl x hy]; exact k)
theorem ri_ishr2 (hx : p.tables.exec = Jvm.exec) (hb : c.code = cc) {x y : Nat} (hx9 : x < 2 ^ 31) (hy : y < 32) (hd : decode cc pc = .ok (.ishr, 1)) (k : W p l e R s m args below meth c H locs cells slots Q (F0 m (pc + 1) ls (.int (nI (x / 2 ^ y)) :: rest))) : W p l e R s m args below meth c H locs cells slots Q (F0 m pc ls (.int (nI y) :: .int (nI x) :: rest)) := lv_ishr hx hb hd (by rw [nI_shr hx9 hy]; exact k)
theorem ri_irem2 (hx : p.tables.exec = Jvm.exec) (hb : c.code = cc) {x y : Nat} (hx9 : x < 2 ^ 31) (hy : y < 2 ^ 31) (h0 : 0 < y) (hd : decode cc pc = .ok (.irem, 1)) (k : W p l e R s m args below meth c H locs cells slots Q (F0 m (pc + 1) ls (.int (nI (x % y)) :: rest))) : W p l e R s m args below meth c H locs cells slots Q (F0 m pc ls (.int (nI y) :: .int (nI x) :: rest)) := lv_irem hx hb hd (nI_ne0 h0 hy) (by rw [nI_rem hx9 hy]; exact k)
theorem ri_lor2 (hx : p.tables.exec = Jvm.exec) (hb : c.code = cc) {x y : Nat} (hd : decode cc pc = .ok (.lor, 1)) (k : W p l e R s m args below meth c H locs cells slots Q (F0 m (pc + 1) ls (.long (lN (x ||| y)) :: rest))) : W p l e R s m args below meth c H locs cells slots Q (F0 m pc ls (.long (lN y) :: .long (lN x) :: rest)) := lv_lor hx hb hd (by rw [lN_or]; exact k)
theorem ri_land2 (hx : p.tables.exec = Jvm.exec) (hb : c.code = cc) {x y : Nat} (hd : decode cc pc = .ok (.land, 1)) (k : W p l e R s m args below meth c H locs cells slots Q (F0 m (pc + 1) ls (.long (lN (x &&& y)) :: rest))) : W p l e R s m args below meth c H locs cells slots Q (F0 m pc ls (.long (lN y) :: .long (lN x) :: rest)) := lv_land hx hb hd (by rw [lN_and]; exact k)
theorem ri_lshl2 (hx : p.tables.exec = Jvm.exec) (hb : c.code = cc) {x y : Nat} (hy : y < 64) (hd : decode cc pc = .ok (.lshl, 1)) (k : W p l e R s m args below meth c H locs cells slots Q (F0 m (pc + 1) ls (.long (lN (x * 2 ^ y)) :: rest))) : W p l e R s m args below meth c H locs cells slots Q (F0 m pc ls (.int (nI y) :: .long (lN x) :: rest)) := lv_lshl hx hb hd (lN_shl x hy) k
theorem ri_lshr2 (hx : p.tables.exec = Jvm.exec) (hb : c.code = cc) {x y : Nat} (hx9 : x < 2 ^ 63) (hy : y < 64) (hd : decode cc pc = .ok (.lshr, 1)) (k : W p l e R s m args below meth c H locs cells slots Q (F0 m (pc + 1) ls (.long (lN (x / 2 ^ y)) :: rest))) : W p l e R s m args below meth c H locs cells slots Q (F0 m pc ls (.int (nI y) :: .long (lN x) :: rest)) := lv_lshr hx hb hd (lN_shr hx9 hy) k
end LC2
/-- a square laid flat, in rows of twelve -/
def fl (g : Nat → Nat → Int32) : Nat → Int32 := fun i => g (i / 12) (i % 12)
theorem fl_at {g : Nat → Nat → Int32} {a b : Nat} (hb : b < 12) : fl g (12 * a + b) = g a b := by
  unfold fl
  rw [show (12 * a + b) / 12 = a by omega, show (12 * a + b) % 12 = b by omega]
theorem fl_up {g : Nat → Nat → Int32} {a b : Nat} (hb : b < 12) {v : Int32} : upd (fl g) (12 * a + b) v = fl (bm_up2 g a b v) := by
  funext i
  show (if i = 12 * a + b then v else g (i / 12) (i % 12)) = (if i / 12 = a ∧ i % 12 = b then v else g (i / 12) (i % 12))
  by_cases h : i = 12 * a + b
  · rw [if_pos h, if_pos (by omega)]
  · rw [if_neg h, if_neg (by omega)]
/-- what is known, as booleans -/
def kB (kn : Nat → Nat → Nat) : Nat → Nat → Int32 := fun a b => bI (decide (kn a b ≠ 0))
theorem kB_up {kn : Nat → Nat → Nat} {a b v : Nat} (hv : v ≠ 0) : bm_up2 (kB kn) a b (bI true) = kB (bm_up2 kn a b v) := by
  funext x y
  show (if x = a ∧ y = b then bI true else bI (decide (kn x y ≠ 0))) = bI (decide ((if x = a ∧ y = b then v else kn x y) ≠ 0))
  split
  · rw [decide_eq_true hv]
  · rfl
theorem kB_up0 {kn : Nat → Nat → Nat} {a b : Nat} : bm_up2 (kB kn) a b (bI false) = kB (bm_up2 kn a b 0) := by
  funext x y
  show (if x = a ∧ y = b then bI false else bI (decide (kn x y ≠ 0))) = bI (decide ((if x = a ∧ y = b then 0 else kn x y) ≠ 0))
  split
  · rw [decide_eq_false (fun z => z rfl)]
  · rfl
/-- the stores, by the places of the advertisements: -1 for none -/
def sI (hd : Nat → Nat → Nat) : Nat → Nat → Int32 := fun a b => if hd a b = 0 then -1 else nI (hd a b - 1)
theorem sI_no {hd : Nat → Nat → Nat} {a b : Nat} (h : hd a b = 0) : sI hd a b = -1 := if_pos h
theorem sI_at {hd : Nat → Nat → Nat} {a b : Nat} (h : hd a b ≠ 0) : sI hd a b = nI (hd a b - 1) := if_neg h
theorem sI_lt {hd : Nat → Nat → Nat} {a b : Nat} (hh : hd a b < 2000) : sI hd a b < 0 ↔ hd a b = 0 := by
  by_cases h : hd a b = 0
  · rw [sI_no h]
    exact ⟨fun _ => h, fun _ => by decide⟩
  · rw [sI_at h]
    exact ⟨fun z => absurd z (nI_pos (by omega)), fun z => absurd z h⟩
theorem sI_up {hd : Nat → Nat → Nat} {a b v : Nat} : bm_up2 (sI hd) a b (nI v) = sI (bm_up2 hd a b (v + 1)) := by
  funext x y
  show (if x = a ∧ y = b then nI v else sI hd x y) = (if (if x = a ∧ y = b then v + 1 else hd x y) = 0 then -1 else nI ((if x = a ∧ y = b then v + 1 else hd x y) - 1))
  by_cases h : x = a ∧ y = b
  · rw [if_pos h, if_pos h, if_neg (by omega)]
    rfl
  · rw [if_neg h, if_neg h]
    rfl
/-- numbers of ten bits, packed -/
def pkn (f : Nat → Nat) : Nat → Nat
  | 0 => 0
  | k + 1 => pkn f k + f k * 1024 ^ k
theorem pkn_lt {f : Nat → Nat} (hf : ∀ j, f j < 1024) : ∀ n, pkn f n < 1024 ^ n
  | 0 => Nat.one_pos
  | n + 1 => by
    have h1 := pkn_lt hf n
    have h2 : f n * 1024 ^ n ≤ 1023 * 1024 ^ n := Nat.mul_le_mul_right _ (by have := hf n; omega)
    show pkn f n + f n * 1024 ^ n < 1024 ^ (n + 1)
    rw [Nat.pow_succ]
    omega
theorem pkn_at {f : Nat → Nat} (hf : ∀ j, f j < 1024) {j : Nat} : ∀ n, j < n → pkn f n / 1024 ^ j % 1024 = f j
  | 0, h => absurd h (by omega)
  | n + 1, h => by
    show (pkn f n + f n * 1024 ^ n) / 1024 ^ j % 1024 = f j
    by_cases e : j = n
    · rw [e, Nat.add_mul_div_right _ _ (Nat.pos_of_ne_zero (by exact Nat.ne_of_gt (Nat.pow_pos (by decide)))), Nat.div_eq_of_lt (pkn_lt hf n), Nat.zero_add, Nat.mod_eq_of_lt (hf n)]
    · have hn : n = j + (1 + (n - j - 1)) := by omega
      have hp : f n * 1024 ^ n = 1024 ^ j * (1024 * (f n * 1024 ^ (n - j - 1))) := by
        have hq : 1024 ^ n = 1024 ^ j * (1024 * 1024 ^ (n - j - 1)) := by
          conv => lhs; rw [hn]
          rw [Nat.pow_add, Nat.pow_add, Nat.pow_one]
        rw [hq]
        simp only [Nat.mul_assoc, Nat.mul_left_comm]
      rw [hp, Nat.add_mul_div_left _ _ (Nat.pow_pos (by decide)), Nat.add_mul_mod_self_left]
      exact pkn_at hf n (by omega)
theorem pkn_or {f : Nat → Nat} (hf : ∀ j, f j < 1024) (n : Nat) : pkn f n ||| f n * 2 ^ (10 * n) = pkn f (n + 1) := by
  have h := Nat.shiftLeft_add_eq_or_of_lt (i := 10 * n) (b := pkn f n) (by rw [Nat.pow_mul]; exact pkn_lt hf n) (f n)
  rw [Nat.or_comm, ← Nat.shiftLeft_eq, ← h, Nat.shiftLeft_eq, Nat.pow_mul, Nat.add_comm]
  rfl
theorem pkn_congr {f g : Nat → Nat} : ∀ n, (∀ j, j < n → f j = g j) → pkn f n = pkn g n
  | 0, _ => rfl
  | n + 1, h => by
    show pkn f n + f n * 1024 ^ n = pkn g n + g n * 1024 ^ n
    rw [pkn_congr n (fun j hj => h j (by omega)), h n (by omega)]
abbrev rf_o (h : Nat) (qs : Nat → Nat) (cd : Int32) (ma mn ca cn na nn pk : Nat) (dv ex lb lm : Int32) : Nat × va_E := (h, .inr (9, [.int cd, .ref (qs 0), .ref (qs 1), .ref (qs 2), .ref (qs 3), .ref (qs 4), .ref (qs 5), .ref (qs 6), .ref (qs 7), .ref (qs 8), .ref (qs 9), .int (nI ma), .int (nI mn), .ref (qs 10), .int (nI ca), .int (nI cn), .ref (qs 11), .int (nI na), .int (nI nn), .ref (qs 12), .ref (qs 13), .ref (qs 14), .ref (qs 15), .int (nI pk), .ref (qs 16), .ref (qs 17), .int dv, .int ex, .int lb, .int lm, .ref (qs 18), .ref (qs 19)]))
