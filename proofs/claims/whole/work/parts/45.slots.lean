/-! Rows in a ring: where a row's ints stand. -/
def sl (a i c : Nat) : Nat := if a + i < c then a + i else a + i - c
theorem sl_lt {a i c : Nat} (ha : a < c) (hi : i < c) : sl a i c < c := by
  unfold sl
  split <;> omega
theorem sl_inj {a i k c : Nat} (ha : a < c) (hi : i < c) (hk : k < c) (h : sl a i c = sl a k c) : i = k := by
  unfold sl at h
  split at h <;> split at h <;> omega
theorem sl_0 {a c : Nat} (ha : a < c) : sl a 0 c = a := by
  unfold sl
  rw [if_pos (by omega)]
  omega
/-- the row i of a ring whose oldest is dropped -/
theorem sl_drop {a i c : Nat} (ha : a < c) (hi : i + 1 < c) : sl (if a + 1 = c then 0 else a + 1) i c = sl a (i + 1) c := by
  unfold sl
  split <;> split <;> split <;> omega
theorem ix_lt {w s j c : Nat} (hs : s < c) (hj : j < w) : w * s + j < w * c := by
  have h1 : w * s + w ≤ w * c := by
    have := Nat.mul_le_mul_left w (show s + 1 ≤ c from hs)
    rw [Nat.mul_succ] at this
    exact this
  omega
theorem ix_inj {w s j t k : Nat} (hj : j < w) (hk : k < w) (h : w * s + j = w * t + k) : s = t ∧ j = k := by
  have h1 : (w * s + j) / w = s := by
    rw [Nat.mul_add_div (by omega), Nat.div_eq_of_lt hj]
    rfl
  have h2 : (w * t + k) / w = t := by
    rw [Nat.mul_add_div (by omega), Nat.div_eq_of_lt hk]
    rfl
  have h3 : s = t := by rw [← h1, ← h2, h]
  subst h3
  exact ⟨rfl, by omega⟩
theorem ix_of {w a i j c : Nat} (hj : j < w) : (if w * a + i * w + j < w * c then w * a + i * w + j else w * a + i * w + j - w * c) = w * sl a i c + j := by
  have e : w * a + i * w + j = w * (a + i) + j := by rw [Nat.mul_add, Nat.mul_comm i w]
  rw [e]
  unfold sl
  by_cases h : a + i < c
  · rw [if_pos h, if_pos (ix_lt h hj)]
  · rw [if_neg h]
    have h2 : w * c ≤ w * (a + i) := Nat.mul_le_mul_left w (by omega)
    rw [if_neg (by omega)]
    have h3 : w * (a + i - c) = w * (a + i) - w * c := Nat.mul_sub w (a + i) c
    rw [h3]
    omega
theorem ix_big {w a i j c : Nat} (hw : w ≤ 14) (ha : a < c) (hi : i ≤ c) (hc : c ≤ 100000) (hj : j < w) : w * a + i * w + j < 2147483648 ∧ w * c < 2147483648 := by
  have h1 : w * a ≤ 14 * 100000 := Nat.mul_le_mul hw (by omega)
  have h2 : i * w ≤ 100000 * 14 := Nat.mul_le_mul (by omega) hw
  have h3 : w * c ≤ 14 * 100000 := Nat.mul_le_mul hw hc
  omega
