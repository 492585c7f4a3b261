/-! The reference: copies. -/
theorem bit_at (set : Int32) {b : Nat} (hb : b < 32) : (set >>> (nI b &&& 31)) &&& 1 = if set.toBitVec.getLsbD b then 1 else 0 := by
  rw [nI_m31 hb]
  apply Int32.toBitVec_inj.mp
  rw [Int32.toBitVec_and, Int32.toBitVec_shiftRight]
  unfold nI
  rw [Int32.toBitVec_ofNat', sm32 b hb, BitVec.sshiftRight_eq', BitVec.toNat_ofNat, Nat.mod_eq_of_lt (show b < 2 ^ 32 by omega)]
  rw [show (1 : Int32).toBitVec = 1#32 from rfl, BitVec.and_one_eq_setWidth_ofBool_getLsbD, BitVec.getLsbD_sshiftRight]
  simp only [show ¬ (32 ≤ 0) by omega, decide_false, Bool.not_false, Bool.true_and, Nat.add_zero, hb, ↓reduceIte]
  cases set.toBitVec.getLsbD b <;> rfl
theorem and_em (set : Int32) {b : Nat} (hb : b < 32) : set &&& bm_em (some b) = if set.toBitVec.getLsbD b then bm_em (some b) else 0 := by
  have he : (bm_em (some b)).toBitVec = BitVec.twoPow 32 b := by
    show ((1 : Int32) <<< (nI b &&& 31)).toBitVec = _
    rw [nI_m31 hb, Int32.toBitVec_shiftLeft]
    unfold nI
    rw [Int32.toBitVec_ofNat', sm32 b hb, BitVec.shiftLeft_eq', BitVec.toNat_ofNat, Nat.mod_eq_of_lt (show b < 2 ^ 32 by omega)]
    rfl
  apply Int32.toBitVec_inj.mp
  rw [Int32.toBitVec_and, he, BitVec.and_twoPow]
  split
  · exact he.symm
  · rfl
theorem em_ne {b : Nat} (hb : b < 32) : bm_em (some b) ≠ 0 := by
  have : ∀ b, b < 32 → bm_em (some b) ≠ 0 := by decide +kernel
  exact this b hb
theorem own_1 (set : Int32) {b : Nat} (hb : b < 32) (h : (set >>> (nI b &&& 31)) &&& 1 = 1) : set &&& bm_em (some b) = bm_em (some b) := by
  rw [bit_at set hb] at h
  rw [and_em set hb]
  split
  · rfl
  · rename_i h2
    rw [if_neg h2] at h
    exact absurd h (by decide)
theorem own_0 (set : Int32) {b : Nat} (hb : b < 32) (h : (set >>> (nI b &&& 31)) &&& 1 ≠ 1) : set &&& bm_em (some b) = 0 := by
  rw [bit_at set hb] at h
  rw [and_em set hb]
  split
  · rename_i h2
    rw [if_pos h2] at h
    exact absurd rfl h
  · rfl
theorem u32 (x : Int32) : x.toInt64 &&& lN 4294967295 = lN x.toUInt32.toNat := by
  apply Int64.toBitVec_inj.mp
  unfold lN
  rw [Int64.toBitVec_and, Int64.toBitVec_ofNat', Int64.toBitVec_ofNat', Int32.toBitVec_toInt64]
  apply BitVec.eq_of_toNat_eq
  rw [BitVec.toNat_and, BitVec.toNat_ofNat, BitVec.toNat_ofNat]
  rw [show 4294967295 % 2 ^ 64 = 2 ^ 32 - 1 from rfl, Nat.and_two_pow_sub_one_eq_mod]
  have h1 : x.toUInt32.toNat = x.toBitVec.toNat := rfl
  have h2 := x.toBitVec.isLt
  rw [h1, Nat.mod_eq_of_lt (show x.toBitVec.toNat < 2 ^ 64 by omega), BitVec.toNat_signExtend]
  rw [BitVec.toNat_setWidth]
  split <;> omega
theorem cp_or {p r n h L : Nat} (hr : r < 16) (hn : n < 16) (hh : h < 256) (hL : L < 2 ^ 32) : ((((p * 2 ^ 48) ||| (r * 2 ^ 44)) ||| (n * 2 ^ 40)) ||| (h * 2 ^ 32)) ||| L = p * 2 ^ 48 + r * 2 ^ 44 + n * 2 ^ 40 + h * 2 ^ 32 + L := by
  have h1 := Nat.shiftLeft_add_eq_or_of_lt (i := 32) (b := L) (show L < 2 ^ 32 by omega) h
  have h2 := Nat.shiftLeft_add_eq_or_of_lt (i := 40) (b := h * 2 ^ 32 + L) (show h * 2 ^ 32 + L < 2 ^ 40 by omega) n
  have h3 := Nat.shiftLeft_add_eq_or_of_lt (i := 44) (b := n * 2 ^ 40 + (h * 2 ^ 32 + L)) (show _ < 2 ^ 44 by omega) r
  have h4 := Nat.shiftLeft_add_eq_or_of_lt (i := 48) (b := r * 2 ^ 44 + (n * 2 ^ 40 + (h * 2 ^ 32 + L))) (show _ < 2 ^ 48 by omega) p
  rw [Nat.shiftLeft_eq] at h1 h2 h3 h4
  rw [Nat.or_assoc, ← h1, Nat.or_assoc, ← h2, Nat.or_assoc, ← h3, ← h4]
  simp only [Nat.add_assoc]
theorem cp_f {p r n h L : Nat} (hr : r < 12) (hn : n < 12) (hh : h ≤ 255) (hL : L < 2 ^ 32) : ((p * 2 ^ 48 + r * 2 ^ 44 + n * 2 ^ 40 + h * 2 ^ 32 + L) / 2 ^ 44) &&& 15 = r := by
  rw [show 15 = 2 ^ 4 - 1 from rfl, Nat.and_two_pow_sub_one_eq_mod]
  omega
theorem cp_t {p r n h L : Nat} (hr : r < 12) (hn : n < 12) (hh : h ≤ 255) (hL : L < 2 ^ 32) : ((p * 2 ^ 48 + r * 2 ^ 44 + n * 2 ^ 40 + h * 2 ^ 32 + L) / 2 ^ 40) &&& 15 = n := by
  rw [show 15 = 2 ^ 4 - 1 from rfl, Nat.and_two_pow_sub_one_eq_mod]
  omega
theorem cp_h {p r n h L : Nat} (hr : r < 12) (hn : n < 12) (hh : h ≤ 255) (hL : L < 2 ^ 32) : ((p * 2 ^ 48 + r * 2 ^ 44 + n * 2 ^ 40 + h * 2 ^ 32 + L) / 2 ^ 32) &&& 255 = h := by
  rw [show 255 = 2 ^ 8 - 1 from rfl, Nat.and_two_pow_sub_one_eq_mod]
  omega
theorem cp_p {p r n h L : Nat} (hr : r < 12) (hn : n < 12) (hh : h ≤ 255) (hL : L < 2 ^ 32) : (p * 2 ^ 48 + r * 2 ^ 44 + n * 2 ^ 40 + h * 2 ^ 32 + L) / 2 ^ 48 = p := by omega
theorem cp_s {a : Nat} (x : Int32) : nI (a * 2 ^ 32 + x.toUInt32.toNat) = x := by
  unfold nI
  apply Int32.toBitVec_inj.mp
  rw [Int32.toBitVec_ofNat']
  apply BitVec.eq_of_toNat_eq
  rw [BitVec.toNat_ofNat]
  have h1 : x.toUInt32.toNat = x.toBitVec.toNat := rfl
  have h2 := x.toBitVec.isLt
  rw [h1]
  omega
theorem cp_s2 {p r n h : Nat} (x : Int32) : nI (p * 2 ^ 48 + r * 2 ^ 44 + n * 2 ^ 40 + h * 2 ^ 32 + x.toUInt32.toNat) = x := by
  have := cp_s (a := p * 2 ^ 16 + r * 2 ^ 12 + n * 2 ^ 8 + h) x
  rw [show (p * 2 ^ 16 + r * 2 ^ 12 + n * 2 ^ 8 + h) * 2 ^ 32 = p * 2 ^ 48 + r * 2 ^ 44 + n * 2 ^ 40 + h * 2 ^ 32 by omega] at this
  exact this
theorem tu32 (x : Int32) : x.toUInt32.toNat < 2 ^ 32 := x.toBitVec.isLt
def cp_ok (np : Nat) (row : Nat → Int32) (v : Int64) : Prop := ∃ pk f t hp : Nat, (row 0 = nI pk ∧ row 1 = nI f ∧ row 2 = nI t ∧ row 4 = nI hp) ∧ f < 12 ∧ t < 12 ∧ 1 ≤ pk ∧ pk ≤ np ∧ hp ≤ 255 ∧ v = lN (pk * 2 ^ 48 + f * 2 ^ 44 + t * 2 ^ 40 + hp * 2 ^ 32 + (row 3).toUInt32.toNat)
/-- the copies, in the reference's ring -/
def cr_R (np : Nat) (f : Nat → Int64) (ca : Nat) (M : bm_M Int32) : Prop := ca < 4000 ∧ ∀ i, i < M.2.1 → cp_ok np (M.2.2 i) (f ((ca + i) % 4000))
theorem cr_push {np : Nat} {f : Nat → Int64} {ca : Nat} {M : bm_M Int32} (h : cr_R np f ca M) (hn : M.2.1 < 4000) {row : Nat → Int32} {v : Int64} (hv : cp_ok np row v) : cr_R np (vp_updL f ((ca + M.2.1) % 4000) v) ca (bm_push M row) := by
  refine ⟨h.1, fun i hi => ?_⟩
  have hi : i < M.2.1 + 1 := hi
  by_cases e : i = M.2.1
  · rw [e, bm_push_at]
    show cp_ok np row (if (ca + M.2.1) % 4000 = (ca + M.2.1) % 4000 then v else _)
    rw [if_pos rfl]
    exact hv
  · rw [bm_push_old M _ (show i < M.2.1 by omega)]
    show cp_ok np _ (if (ca + i) % 4000 = (ca + M.2.1) % 4000 then _ else f ((ca + i) % 4000))
    have h1 := h.1
    rw [if_neg (by omega)]
    exact h.2 i (by omega)
theorem cr_drop {np : Nat} {f : Nat → Int64} {ca : Nat} {M : bm_M Int32} (h : cr_R np f ca M) : cr_R np f ((ca + 1) % 4000) (bm_drop M) := by
  refine ⟨Nat.mod_lt _ (by decide), fun i hi => ?_⟩
  have hi : i < M.2.1 - 1 := hi
  have := h.2 (i + 1) (by omega)
  rw [show ((ca + 1) % 4000 + i) % 4000 = (ca + (i + 1)) % 4000 by omega]
  exact this
theorem cp_mono {np nq : Nat} (hn : np ≤ nq) {row : Nat → Int32} {v : Int64} (h : cp_ok np row v) : cp_ok nq row v := by
  obtain ⟨a, b, c, d, h1, h2, h3, h4, h5, h6⟩ := h
  exact ⟨a, b, c, d, h1, h2, h3, h4, by omega, h6⟩
theorem cr_mono {np nq : Nat} (hn : np ≤ nq) {f : Nat → Int64} {ca : Nat} {M : bm_M Int32} (h : cr_R np f ca M) : cr_R nq f ca M := ⟨h.1, fun i hi => cp_mono hn (h.2 i hi)⟩
/-- the packets' bits and crossings -/
def pd_R (fD fX : Nat → Int32) (M : bm_M Int32) : Prop := ∀ p, 1 ≤ p → p ≤ 900 → fD p = (if p ≤ M.2.1 then M.2.2 (p - 1) 0 else 0) ∧ fX p = (if p ≤ M.2.1 then M.2.2 (p - 1) 1 else 0)
theorem pd_set0 {fD fX : Nat → Int32} {M : bm_M Int32} (h : pd_R fD fX M) {p : Nat} (h1 : 1 ≤ p) (h2 : p ≤ M.2.1) (v : Int32) : pd_R (upd fD p v) fX (bm_set M (p - 1) 0 v) := by
  intro q hq1 hq2
  obtain ⟨a, b⟩ := h q hq1 hq2
  show (if q = p then v else fD q) = (if q ≤ M.2.1 then (if q - 1 = p - 1 ∧ 0 = 0 then v else M.2.2 (q - 1) 0) else 0) ∧ fX q = (if q ≤ M.2.1 then (if q - 1 = p - 1 ∧ 1 = 0 then v else M.2.2 (q - 1) 1) else 0)
  rw [if_neg (show ¬ (q - 1 = p - 1 ∧ 1 = 0) by omega)]
  refine ⟨?_, b⟩
  by_cases e : q = p
  · rw [if_pos e, if_pos (by omega), if_pos (by omega)]
  · rw [if_neg e, if_neg (show ¬ (q - 1 = p - 1 ∧ 0 = 0) by omega), a]
theorem pd_set1 {fD fX : Nat → Int32} {M : bm_M Int32} (h : pd_R fD fX M) {p : Nat} (h1 : 1 ≤ p) (h2 : p ≤ M.2.1) (v : Int32) : pd_R fD (upd fX p v) (bm_set M (p - 1) 1 v) := by
  intro q hq1 hq2
  obtain ⟨a, b⟩ := h q hq1 hq2
  show fD q = (if q ≤ M.2.1 then (if q - 1 = p - 1 ∧ 0 = 1 then v else M.2.2 (q - 1) 0) else 0) ∧ (if q = p then v else fX q) = (if q ≤ M.2.1 then (if q - 1 = p - 1 ∧ 1 = 1 then v else M.2.2 (q - 1) 1) else 0)
  rw [if_neg (show ¬ (q - 1 = p - 1 ∧ 0 = 1) by omega)]
  refine ⟨a, ?_⟩
  by_cases e : q = p
  · rw [if_pos e, if_pos (by omega), if_pos (by omega)]
  · rw [if_neg e, if_neg (show ¬ (q - 1 = p - 1 ∧ 1 = 1) by omega), b]
theorem pd_push {fD fX : Nat → Int32} {M : bm_M Int32} (h : pd_R fD fX M) : pd_R fD fX (bm_push M (fun _ => 0)) := by
  intro q hq1 hq2
  obtain ⟨a, b⟩ := h q hq1 hq2
  show fD q = (if q ≤ M.2.1 + 1 then (if q - 1 = M.2.1 then (fun _ => (0 : Int32)) else M.2.2 (q - 1)) 0 else 0) ∧ fX q = (if q ≤ M.2.1 + 1 then (if q - 1 = M.2.1 then (fun _ => (0 : Int32)) else M.2.2 (q - 1)) 1 else 0)
  by_cases e : q - 1 = M.2.1
  · rw [if_neg (by omega)] at a b
    rw [if_pos e]
    split <;> exact ⟨a, b⟩
  · rw [if_neg e, a, b]
    by_cases e2 : q ≤ M.2.1
    · rw [if_pos e2, if_pos e2, if_pos (by omega), if_pos (by omega)]
      exact ⟨rfl, rfl⟩
    · rw [if_neg e2, if_neg e2, if_neg (by omega), if_neg (by omega)]
      exact ⟨rfl, rfl⟩
theorem on_np (p r m : Nat) (part : Int32) (h : Nat) (D : bm_D) : (bm_on p r m part h D).1.2.1 = D.1.2.1 := by
  unfold bm_on
  split <;> rfl
theorem on_n (p r m : Nat) (part : Int32) (h : Nat) (D : bm_D) : D.2.1.2.1 ≤ (bm_on p r m part h D).2.1.2.1 := by
  unfold bm_on
  split
  · exact Nat.le_refl _
  · exact Nat.le_succ _
theorem parts_np (mk : Nat → Int32) (p r h : Nat) (S : Int32 × bm_D) : ∀ n, (bm_parts mk p r h S n).2.1.2.1 = S.2.1.2.1
  | 0 => rfl
  | n + 1 => by
    unfold bm_parts
    split
    · exact parts_np mk p r h S n
    · exact (on_np _ _ _ _ _ _).trans (parts_np mk p r h S n)
theorem parts_n (mk : Nat → Int32) (p r h : Nat) (S : Int32 × bm_D) : ∀ n j, j ≤ n → (bm_parts mk p r h S j).2.2.1.2.1 ≤ (bm_parts mk p r h S n).2.2.1.2.1
  | 0, j, hj => by
    rw [show j = 0 by omega]
    exact Nat.le_refl _
  | n + 1, j, hj => by
    by_cases e : j = n + 1
    · rw [e]
      exact Nat.le_refl _
    · refine Nat.le_trans (parts_n mk p r h S n j (by omega)) ?_
      show _ ≤ (if (bm_parts mk p r h S n).1 &&& mk n = 0 then bm_parts mk p r h S n else _).2.2.1.2.1
      split
      · exact Nat.le_refl _
      · exact on_n _ _ _ _ _ _
theorem parts_0 (mk : Nat → Int32) (p r h : Nat) (D : bm_D) : ∀ n, bm_parts mk p r h (0, D) n = (0, D)
  | 0 => rfl
  | n + 1 => by
    unfold bm_parts
    rw [parts_0 mk p r h D n, if_pos]
    exact Int32.zero_and
theorem handle_0 {eb : Nat → Option Nat} {mk : Nat → Int32} {p r : Nat} {set : Int32} {h : Nat} {D : bm_D} (hz : set &&& ((set &&& bm_em (eb r)) ^^^ (-1)) = 0) : bm_handle eb mk p r set h D = bm_own (set &&& bm_em (eb r)) p D := by
  unfold bm_handle
  rw [hz, parts_0]
  unfold bm_loses
  rw [show bm_pop 0 32 = 0 from by decide +kernel, Int32.add_zero]
theorem own_np (own : Int32) (p : Nat) (D : bm_D) : (bm_own own p D).1.2.1 = D.1.2.1 := by
  unfold bm_own
  split <;> rfl
theorem own_left {own set : Int32} (h : own = 0) : set = set &&& (own ^^^ (-1)) := by
  rw [h, show ((0 : Int32) ^^^ (-1)) = -1 from rfl, Int32.and_neg_one]
/-- no more copies set out than were counted -/
theorem parts_would (mk : Nat → Int32) (p r h : Nat) (left : Int32) (D : bm_D) : ∀ n, (bm_parts mk p r h (left, D) n).2.2.1.2.1 ≤ D.2.1.2.1 + bm_would mk left n ∧ ∃ y, (bm_parts mk p r h (left, D) n).1 = left &&& y
  | 0 => ⟨Nat.le_refl _, -1, Int32.and_neg_one.symm⟩
  | n + 1 => by
    obtain ⟨h1, y, h2⟩ := parts_would mk p r h left D n
    unfold bm_parts bm_would
    by_cases e : (bm_parts mk p r h (left, D) n).1 &&& mk n = 0
    · rw [if_pos e]
      refine ⟨?_, y, h2⟩
      split <;> omega
    · rw [if_neg e]
      have e2 : ¬ left &&& mk n = 0 := fun z => e (by
        rw [h2, Int32.and_assoc, Int32.and_comm y, ← Int32.and_assoc, z]
        exact Int32.zero_and)
      rw [if_neg e2]
      refine ⟨?_, _, by rw [h2, Int32.and_assoc]⟩
      show (bm_on p r n _ h (bm_parts mk p r h (left, D) n).2).2.1.2.1 ≤ _
      unfold bm_on
      split
      · show (bm_parts mk p r h (left, D) n).2.2.1.2.1 ≤ _
        omega
      · show (bm_parts mk p r h (left, D) n).2.2.1.2.1 + 1 ≤ _
        omega
theorem and_clr {a b : Int32} (h : a &&& b = 0) : a &&& (b ^^^ (-1)) = a := by
  apply Int32.toBitVec_inj.mp
  have h1 := congrArg Int32.toBitVec h
  rw [Int32.toBitVec_and] at h1
  rw [Int32.toBitVec_and, Int32.toBitVec_xor]
  apply BitVec.eq_of_getLsbD_eq
  intro i hi
  have h2 := congrArg (fun z => BitVec.getLsbD z i) h1
  have h3 : (a.toBitVec.getLsbD i && b.toBitVec.getLsbD i) = false := by
    have : (Int32.toBitVec 0).getLsbD i = false := BitVec.getLsbD_zero
    rw [← this, ← h2]
    exact (BitVec.getLsbD_and).symm
  have h4 : (Int32.toBitVec (-1)).getLsbD i = true := by
    rw [show Int32.toBitVec (-1) = BitVec.allOnes 32 from by decide, BitVec.getLsbD_allOnes]
    exact decide_eq_true hi
  rw [BitVec.getLsbD_and, BitVec.getLsbD_xor, h4]
  cases ha : a.toBitVec.getLsbD i with
  | false => rfl
  | true =>
    rw [ha, Bool.true_and] at h3
    rw [h3]
    rfl
theorem ref_clr (set : Int32) {o : Option Nat} (ho : ∀ b, o = some b → b < 32) : set &&& ((set &&& bm_em o) ^^^ (-1)) = set &&& ((bm_em o) ^^^ (-1)) := by
  cases o with
  | none =>
    show set &&& ((set &&& (0 : Int32)) ^^^ (-1)) = set &&& ((0 : Int32) ^^^ (-1))
    rw [Int32.and_zero]
  | some b =>
    have hb := ho b rfl
    rw [and_em set hb]
    by_cases h : set.toBitVec.getLsbD b = true
    · rw [if_pos h]
    · rw [if_neg h]
      have h1 := and_em set hb
      rw [if_neg h] at h1
      rw [show ((0 : Int32) ^^^ (-1)) = -1 from rfl, Int32.and_neg_one, and_clr h1]
set_option maxHeartbeats 800000 in
set_option maxRecDepth 100000 in
theorem k_Ref_arrive (l : Launch) (D : va_G) (cI cZ cJ cG : ClassId) {h : Nat} {qs : Nat → Nat} {cd lm : Int32} {ma mn ca na nn : Nat} {T1 : bm_M Nat} {hd : Nat → Nat → Nat} {fL fH : Nat → Int64} {MK MF : Nat → Nat → Int32} {eb : Nat → Option Nat} {Dd : bm_D} {fC : Nat → Int64} {fD fX : Nat → Int32} (heb : ∀ r b, eb r = some b → b < 32) (hAd : ∀ k, k + 1 < T1.2.1 → fL k = lN (pkn (fun j => T1.2.2 (k + 1) (2 + j)) 6) ∧ fH k = lN (pkn (fun j => T1.2.2 (k + 1) (2 + (6 + j))) 6)) (h00 : ∀ j, T1.2.2 0 j = 0) (hA9 : T1.2.1 ≤ 1600) (hA1 : ∀ i j, i < T1.2.1 → j < 12 → T1.2.2 i (2 + j) ≤ 1000) (r : Nat) (hr9 : r < 12) (hh : ∀ x, x < 12 → hd r x < T1.2.1) (hdg : ∀ x, vw0 T1.2.2 hd r x x = 0) (hw9 : ∀ x y, vw0 T1.2.2 hd r x y ≤ 1023) (p9 : Nat) (set : Int32) (hp : Nat) (hC : cr_R Dd.1.2.1 fC ca Dd.2.1) (hPd : pd_R fD fX Dd.1) (hp1 : 1 ≤ p9) (hp2 : p9 ≤ Dd.1.2.1) (hp3 : Dd.1.2.1 ≤ 900) (hhp : hp ≤ 255) (hn : (bm_parts (bm_mkr T1.2.2 hd eb r) p9 r hp ((set &&& ((set &&& (bm_em (eb r))) ^^^ (-1))), (bm_own (set &&& (bm_em (eb r))) p9 Dd)) 12).2.2.1.2.1 ≤ 4000) : ct_V l D kls (ty4 cI cZ cJ cG) y_Ref_arrive ws_Ref_arrive (rm_ 2 50 0 0) [.ref h, .int (nI r), .int (nI p9), .int set, .int (nI hp)] (List.flatten [[rf_o h qs cd ma mn ca Dd.2.1.2.1 na nn Dd.1.2.1 Dd.2.2.1 Dd.2.2.2.1 Dd.2.2.2.2 lm], [(qs 0, .inl (cI, 12, .inl (lI eb)))], [(qs 6, .inl (cJ, 1600, .inr (.inl fL)))], [(qs 7, .inl (cJ, 1600, .inr (.inl fH)))], [(qs 9, .inl (cI, 144, .inl (fl (sI hd))))], [(qs 11, .inl (cJ, 4000, .inr (.inl fC)))], [(qs 16, .inl (cI, 901, .inl fD))], [(qs 17, .inl (cI, 901, .inl fX))], [(qs 18, .inl (cI, 144, .inl (fl MK)))], [(qs 19, .inl (cI, 144, .inl (fl MF)))]]) (fun u => ∃ fC2 fD2 fX2 MK2 MF2, u = List.flatten [[rf_o h qs cd ma mn ca ((bm_handle eb (bm_mkr T1.2.2 hd eb r) p9 r set hp Dd).2.1.2.1) na nn ((bm_handle eb (bm_mkr T1.2.2 hd eb r) p9 r set hp Dd).1.2.1) ((bm_handle eb (bm_mkr T1.2.2 hd eb r) p9 r set hp Dd).2.2.1) ((bm_handle eb (bm_mkr T1.2.2 hd eb r) p9 r set hp Dd).2.2.2.1) ((bm_handle eb (bm_mkr T1.2.2 hd eb r) p9 r set hp Dd).2.2.2.2) lm], [(qs 0, .inl (cI, 12, .inl (lI eb)))], [(qs 6, .inl (cJ, 1600, .inr (.inl fL)))], [(qs 7, .inl (cJ, 1600, .inr (.inl fH)))], [(qs 9, .inl (cI, 144, .inl (fl (sI hd))))], [(qs 11, .inl (cJ, 4000, .inr (.inl fC2)))], [(qs 16, .inl (cI, 901, .inl fD2))], [(qs 17, .inl (cI, 901, .inl fX2))], [(qs 18, .inl (cI, 144, .inl (fl MK2)))], [(qs 19, .inl (cI, 144, .inl (fl MF2)))]] ∧ cr_R (bm_handle eb (bm_mkr T1.2.2 hd eb r) p9 r set hp Dd).1.2.1 fC2 ca (bm_handle eb (bm_mkr T1.2.2 hd eb r) p9 r set hp Dd).2.1 ∧ pd_R fD2 fX2 (bm_handle eb (bm_mkr T1.2.2 hd eb r) p9 r set hp Dd).1) 0 0 := by
  refine ct_enterV (cc := b_Ref_arrive) (maxL := 8) (ret := none) (by decide +kernel) (Nat.le_of_ble_eq_true rfl) ?_
  intro p e s m args below meth c hx hb hml hr ht hown hlk hnm A Q hA hK hP hD hQ ls hl
  have hown : s.vm.findClass R_Ref = some m.cls := hown
  have hS : va_S A s.heap s.heap [] := va_S.rf
  have hl : lv_has ls 8 [(0, .ref h), (1, .int (nI r)), (2, .int (nI p9)), (3, .int set), (4, .int (nI hp))] := hl
  have hca := hC.1
  have hnp : ∀ j, (bm_parts (bm_mkr T1.2.2 hd eb r) p9 r hp ((set &&& ((set &&& (bm_em (eb r))) ^^^ (-1))), (bm_own (set &&& (bm_em (eb r))) p9 Dd)) j).2.1.2.1 = Dd.1.2.1 := fun j => (parts_np _ _ _ _ _ j).trans (own_np _ _ _)
  have hsz : ∀ j, j ≤ 12 → (bm_parts (bm_mkr T1.2.2 hd eb r) p9 r hp ((set &&& ((set &&& (bm_em (eb r))) ^^^ (-1))), (bm_own (set &&& (bm_em (eb r))) p9 Dd)) j).2.2.1.2.1 ≤ (bm_parts (bm_mkr T1.2.2 hd eb r) p9 r hp ((set &&& ((set &&& (bm_em (eb r))) ^^^ (-1))), (bm_own (set &&& (bm_em (eb r))) p9 Dd)) 12).2.2.1.2.1 := fun j hj => parts_n _ _ _ _ _ 12 j hj
  have loop : ∀ (k j : Nat) (fJ : Nat → Int64) (fE : Nat → Int32) (fY : Nat → Int32) (H : Heap) (locs : List Loc) (ls : Array Slot), j + k = 12 → (cr_R (bm_parts (bm_mkr T1.2.2 hd eb r) p9 r hp ((set &&& ((set &&& (bm_em (eb r))) ^^^ (-1))), (bm_own (set &&& (bm_em (eb r))) p9 Dd)) j).2.1.2.1 fJ ca (bm_parts (bm_mkr T1.2.2 hd eb r) p9 r hp ((set &&& ((set &&& (bm_em (eb r))) ^^^ (-1))), (bm_own (set &&& (bm_em (eb r))) p9 Dd)) j).2.2.1) → (pd_R fE fY (bm_parts (bm_mkr T1.2.2 hd eb r) p9 r hp ((set &&& ((set &&& (bm_em (eb r))) ^^^ (-1))), (bm_own (set &&& (bm_em (eb r))) p9 Dd)) j).2.1) → va_P D kls (List.flatten [[rf_o h qs cd ma mn ca (((bm_parts (bm_mkr T1.2.2 hd eb r) p9 r hp ((set &&& ((set &&& (bm_em (eb r))) ^^^ (-1))), (bm_own (set &&& (bm_em (eb r))) p9 Dd)) j).2).2.1.2.1) na nn (((bm_parts (bm_mkr T1.2.2 hd eb r) p9 r hp ((set &&& ((set &&& (bm_em (eb r))) ^^^ (-1))), (bm_own (set &&& (bm_em (eb r))) p9 Dd)) j).2).1.2.1) (((bm_parts (bm_mkr T1.2.2 hd eb r) p9 r hp ((set &&& ((set &&& (bm_em (eb r))) ^^^ (-1))), (bm_own (set &&& (bm_em (eb r))) p9 Dd)) j).2).2.2.1) (((bm_parts (bm_mkr T1.2.2 hd eb r) p9 r hp ((set &&& ((set &&& (bm_em (eb r))) ^^^ (-1))), (bm_own (set &&& (bm_em (eb r))) p9 Dd)) j).2).2.2.2.1) (((bm_parts (bm_mkr T1.2.2 hd eb r) p9 r hp ((set &&& ((set &&& (bm_em (eb r))) ^^^ (-1))), (bm_own (set &&& (bm_em (eb r))) p9 Dd)) j).2).2.2.2.2) lm], [(qs 0, .inl (cI, 12, .inl (lI eb)))], [(qs 6, .inl (cJ, 1600, .inr (.inl fL)))], [(qs 7, .inl (cJ, 1600, .inr (.inl fH)))], [(qs 9, .inl (cI, 144, .inl (fl (sI hd))))], [(qs 11, .inl (cJ, 4000, .inr (.inl fJ)))], [(qs 16, .inl (cI, 901, .inl fE))], [(qs 17, .inl (cI, 901, .inl fY))], [(qs 18, .inl (cI, 144, .inl (fl (gN (vw0 T1.2.2 hd r)))))], [(qs 19, .inl (cI, 144, .inl (fl (gN (bn_far (vw0 T1.2.2 hd r))))))]]) H → va_D A (List.flatten [[rf_o h qs cd ma mn ca (((bm_parts (bm_mkr T1.2.2 hd eb r) p9 r hp ((set &&& ((set &&& (bm_em (eb r))) ^^^ (-1))), (bm_own (set &&& (bm_em (eb r))) p9 Dd)) j).2).2.1.2.1) na nn (((bm_parts (bm_mkr T1.2.2 hd eb r) p9 r hp ((set &&& ((set &&& (bm_em (eb r))) ^^^ (-1))), (bm_own (set &&& (bm_em (eb r))) p9 Dd)) j).2).1.2.1) (((bm_parts (bm_mkr T1.2.2 hd eb r) p9 r hp ((set &&& ((set &&& (bm_em (eb r))) ^^^ (-1))), (bm_own (set &&& (bm_em (eb r))) p9 Dd)) j).2).2.2.1) (((bm_parts (bm_mkr T1.2.2 hd eb r) p9 r hp ((set &&& ((set &&& (bm_em (eb r))) ^^^ (-1))), (bm_own (set &&& (bm_em (eb r))) p9 Dd)) j).2).2.2.2.1) (((bm_parts (bm_mkr T1.2.2 hd eb r) p9 r hp ((set &&& ((set &&& (bm_em (eb r))) ^^^ (-1))), (bm_own (set &&& (bm_em (eb r))) p9 Dd)) j).2).2.2.2.2) lm], [(qs 0, .inl (cI, 12, .inl (lI eb)))], [(qs 6, .inl (cJ, 1600, .inr (.inl fL)))], [(qs 7, .inl (cJ, 1600, .inr (.inl fH)))], [(qs 9, .inl (cI, 144, .inl (fl (sI hd))))], [(qs 11, .inl (cJ, 4000, .inr (.inl fJ)))], [(qs 16, .inl (cI, 901, .inl fE))], [(qs 17, .inl (cI, 901, .inl fY))], [(qs 18, .inl (cI, 144, .inl (fl (gN (vw0 T1.2.2 hd r)))))], [(qs 19, .inl (cI, 144, .inl (fl (gN (bn_far (vw0 T1.2.2 hd r))))))]]) → va_S A s.heap H locs → lv_has ls 8 [(6, .int (nI j)), (5, .int ((bm_parts (bm_mkr T1.2.2 hd eb r) p9 r hp ((set &&& ((set &&& (bm_em (eb r))) ^^^ (-1))), (bm_own (set &&& (bm_em (eb r))) p9 Dd)) j).1)), (0, .ref h), (1, .int (nI r)), (2, .int (nI p9)), (4, .int (nI hp))] → W p l e (rm_ 2 50 0 0) s m args below meth c H locs 0 0 Q (F0 m 83 ls []) := by
    intro k
    induction k with
    | zero =>
      intro j fJ fE fY H locs ls hk hJ hY hP hD hS hl
      refine lv_iload hx hb d_Ref_arrive_83 (lv_at hl 0 rfl) ?_
      refine lv_bipush (v := nI 12) hx hb d_Ref_arrive_85 (by decide) ?_
      refine ri_icmp_ge hx hb (by omega) (by omega) d_Ref_arrive_87 (tgt := 238) (by decide) (fun hc9 => ?_) (fun hc9 => ?_)
      · have hj : j = 12 := by omega
        subst hj
        have hP : va_P D kls (List.flatten [[rf_o h qs cd ma mn ca (((bm_parts (bm_mkr T1.2.2 hd eb r) p9 r hp ((set &&& ((set &&& (bm_em (eb r))) ^^^ (-1))), (bm_own (set &&& (bm_em (eb r))) p9 Dd)) 12).2).2.1.2.1) na nn (((bm_parts (bm_mkr T1.2.2 hd eb r) p9 r hp ((set &&& ((set &&& (bm_em (eb r))) ^^^ (-1))), (bm_own (set &&& (bm_em (eb r))) p9 Dd)) 12).2).1.2.1) (((bm_parts (bm_mkr T1.2.2 hd eb r) p9 r hp ((set &&& ((set &&& (bm_em (eb r))) ^^^ (-1))), (bm_own (set &&& (bm_em (eb r))) p9 Dd)) 12).2).2.2.1) (((bm_parts (bm_mkr T1.2.2 hd eb r) p9 r hp ((set &&& ((set &&& (bm_em (eb r))) ^^^ (-1))), (bm_own (set &&& (bm_em (eb r))) p9 Dd)) 12).2).2.2.2.1) (((bm_parts (bm_mkr T1.2.2 hd eb r) p9 r hp ((set &&& ((set &&& (bm_em (eb r))) ^^^ (-1))), (bm_own (set &&& (bm_em (eb r))) p9 Dd)) 12).2).2.2.2.2) lm], [(qs 0, .inl (cI, 12, .inl (lI eb)))], [(qs 6, .inl (cJ, 1600, .inr (.inl fL)))], [(qs 7, .inl (cJ, 1600, .inr (.inl fH)))], [(qs 9, .inl (cI, 144, .inl (fl (sI hd))))], [(qs 11, .inl (cJ, 4000, .inr (.inl fJ)))], [(qs 16, .inl (cI, 901, .inl fE))], [(qs 17, .inl (cI, 901, .inl fY))], [(qs 18, .inl (cI, 144, .inl (fl (gN (vw0 T1.2.2 hd r)))))], [(qs 19, .inl (cI, 144, .inl (fl (gN (bn_far (vw0 T1.2.2 hd r))))))]]) H := hP
        have hD : va_D A (List.flatten [[rf_o h qs cd ma mn ca (((bm_parts (bm_mkr T1.2.2 hd eb r) p9 r hp ((set &&& ((set &&& (bm_em (eb r))) ^^^ (-1))), (bm_own (set &&& (bm_em (eb r))) p9 Dd)) 12).2).2.1.2.1) na nn (((bm_parts (bm_mkr T1.2.2 hd eb r) p9 r hp ((set &&& ((set &&& (bm_em (eb r))) ^^^ (-1))), (bm_own (set &&& (bm_em (eb r))) p9 Dd)) 12).2).1.2.1) (((bm_parts (bm_mkr T1.2.2 hd eb r) p9 r hp ((set &&& ((set &&& (bm_em (eb r))) ^^^ (-1))), (bm_own (set &&& (bm_em (eb r))) p9 Dd)) 12).2).2.2.1) (((bm_parts (bm_mkr T1.2.2 hd eb r) p9 r hp ((set &&& ((set &&& (bm_em (eb r))) ^^^ (-1))), (bm_own (set &&& (bm_em (eb r))) p9 Dd)) 12).2).2.2.2.1) (((bm_parts (bm_mkr T1.2.2 hd eb r) p9 r hp ((set &&& ((set &&& (bm_em (eb r))) ^^^ (-1))), (bm_own (set &&& (bm_em (eb r))) p9 Dd)) 12).2).2.2.2.2) lm], [(qs 0, .inl (cI, 12, .inl (lI eb)))], [(qs 6, .inl (cJ, 1600, .inr (.inl fL)))], [(qs 7, .inl (cJ, 1600, .inr (.inl fH)))], [(qs 9, .inl (cI, 144, .inl (fl (sI hd))))], [(qs 11, .inl (cJ, 4000, .inr (.inl fJ)))], [(qs 16, .inl (cI, 901, .inl fE))], [(qs 17, .inl (cI, 901, .inl fY))], [(qs 18, .inl (cI, 144, .inl (fl (gN (vw0 T1.2.2 hd r)))))], [(qs 19, .inl (cI, 144, .inl (fl (gN (bn_far (vw0 T1.2.2 hd r))))))]]) := hD
        have hl : lv_has ls 8 [(6, .int (nI 12)), (5, .int ((bm_parts (bm_mkr T1.2.2 hd eb r) p9 r hp ((set &&& ((set &&& (bm_em (eb r))) ^^^ (-1))), (bm_own (set &&& (bm_em (eb r))) p9 Dd)) 12).1)), (0, .ref h), (1, .int (nI r)), (2, .int (nI p9)), (4, .int (nI hp))] := hl
        refine lv_aload_n hx hb d_Ref_arrive_238 rfl (lv_at hl 2 rfl) ?_
        refine lv_dup hx hb d_Ref_arrive_239 rfl ?_
        refine va_get (D := D) (ci := 9) (v := .int (((bm_parts (bm_mkr T1.2.2 hd eb r) p9 r hp ((set &&& ((set &&& (bm_em (eb r))) ^^^ (-1))), (bm_own (set &&& (bm_em (eb r))) p9 Dd)) 12).2).2.2.2.2)) (C := R_Ref) (T := T_Ref) (N := 32) hx hb ht in_Ref hown hK hP 0 rfl rfl 28 (by decide) (ht _ kl_Ref_180) (fun _ h9 => h9) rfl d_Ref_arrive_240 ?_
        refine lv_iload hx hb d_Ref_arrive_243 (lv_at hl 1 rfl) ?_
        refine ct_rdS (As := [.int ((bm_parts (bm_mkr T1.2.2 hd eb r) p9 r hp ((set &&& ((set &&& (bm_em (eb r))) ^^^ (-1))), (bm_own (set &&& (bm_em (eb r))) p9 Dd)) 12).1)]) (rest := [.int (((bm_parts (bm_mkr T1.2.2 hd eb r) p9 r hp ((set &&& ((set &&& (bm_em (eb r))) ^^^ (-1))), (bm_own (set &&& (bm_em (eb r))) p9 Dd)) 12).2).2.2.2.2), .ref h]) ⟨hx, hb, hml, hown, ht⟩ (k_Ref_ones l D cI cZ cJ cG ((bm_parts (bm_mkr T1.2.2 hd eb r) p9 r hp ((set &&& ((set &&& (bm_em (eb r))) ^^^ (-1))), (bm_own (set &&& (bm_em (eb r))) p9 Dd)) 12).1)) (cb_S ht kc_Ref_ones kl_Ref_183 kn_Ref ki_Ref_ones hd_Ref_ones ⟨Nat.le_of_ble_eq_true rfl, Nat.le_of_ble_eq_true rfl⟩) (wd_ct (Bs := [[rf_o h qs cd ma mn ca (((bm_parts (bm_mkr T1.2.2 hd eb r) p9 r hp ((set &&& ((set &&& (bm_em (eb r))) ^^^ (-1))), (bm_own (set &&& (bm_em (eb r))) p9 Dd)) 12).2).2.1.2.1) na nn (((bm_parts (bm_mkr T1.2.2 hd eb r) p9 r hp ((set &&& ((set &&& (bm_em (eb r))) ^^^ (-1))), (bm_own (set &&& (bm_em (eb r))) p9 Dd)) 12).2).1.2.1) (((bm_parts (bm_mkr T1.2.2 hd eb r) p9 r hp ((set &&& ((set &&& (bm_em (eb r))) ^^^ (-1))), (bm_own (set &&& (bm_em (eb r))) p9 Dd)) 12).2).2.2.1) (((bm_parts (bm_mkr T1.2.2 hd eb r) p9 r hp ((set &&& ((set &&& (bm_em (eb r))) ^^^ (-1))), (bm_own (set &&& (bm_em (eb r))) p9 Dd)) 12).2).2.2.2.1) (((bm_parts (bm_mkr T1.2.2 hd eb r) p9 r hp ((set &&& ((set &&& (bm_em (eb r))) ^^^ (-1))), (bm_own (set &&& (bm_em (eb r))) p9 Dd)) 12).2).2.2.2.2) lm], [(qs 0, .inl (cI, 12, .inl (lI eb)))], [(qs 6, .inl (cJ, 1600, .inr (.inl fL)))], [(qs 7, .inl (cJ, 1600, .inr (.inl fH)))], [(qs 9, .inl (cI, 144, .inl (fl (sI hd))))], [(qs 11, .inl (cJ, 4000, .inr (.inl fJ)))], [(qs 16, .inl (cI, 901, .inl fE))], [(qs 17, .inl (cI, 901, .inl fY))], [(qs 18, .inl (cI, 144, .inl (fl (gN (vw0 T1.2.2 hd r)))))], [(qs 19, .inl (cI, 144, .inl (fl (gN (bn_far (vw0 T1.2.2 hd r))))))]]) 10 rfl [] [0, 1, 2, 3, 4, 5, 6, 7, 8, 9] (by decide) rfl) hK hP hD hS hA rfl hl.1 rfl (Nat.le_of_ble_eq_true rfl) ⟨(show 0 + 0 ≤ 0 by omega), (show 0 + 0 ≤ 0 by omega)⟩ d_Ref_arrive_245 (fun rhr103 H locs hr103 hP hD hS => ?_)
        have hz102 := hr103
        rw [hz102]
        refine lv_iadd hx hb d_Ref_arrive_248 ?_
        refine va_put (D := D) (ci := 9) (v := .int ((((bm_parts (bm_mkr T1.2.2 hd eb r) p9 r hp ((set &&& ((set &&& (bm_em (eb r))) ^^^ (-1))), (bm_own (set &&& (bm_em (eb r))) p9 Dd)) 12).2).2.2.2.2) + (bm_pop (bm_parts (bm_mkr T1.2.2 hd eb r) p9 r hp ((set &&& ((set &&& (bm_em (eb r))) ^^^ (-1))), (bm_own (set &&& (bm_em (eb r))) p9 Dd)) 12).1 32))) (ty := .int) (C := R_Ref) (T := T_Ref) (N := 32) hx hb ht in_Ref t_Ref ok_Ref nm_Ref hown hK hP hD hS 0 rfl rfl 28 (by decide) (ht _ kl_Ref_180) (fun _ h9 => h9) rfl (by decide +kernel) rfl rfl (Nat.le_of_ble_eq_true rfl) d_Ref_arrive_249 (fun H locs hP hD hS => ?_)
        have hP : va_P D kls (List.flatten [[rf_o h qs cd ma mn ca (((bm_parts (bm_mkr T1.2.2 hd eb r) p9 r hp ((set &&& ((set &&& (bm_em (eb r))) ^^^ (-1))), (bm_own (set &&& (bm_em (eb r))) p9 Dd)) 12).2).2.1.2.1) na nn (((bm_parts (bm_mkr T1.2.2 hd eb r) p9 r hp ((set &&& ((set &&& (bm_em (eb r))) ^^^ (-1))), (bm_own (set &&& (bm_em (eb r))) p9 Dd)) 12).2).1.2.1) (((bm_parts (bm_mkr T1.2.2 hd eb r) p9 r hp ((set &&& ((set &&& (bm_em (eb r))) ^^^ (-1))), (bm_own (set &&& (bm_em (eb r))) p9 Dd)) 12).2).2.2.1) (((bm_parts (bm_mkr T1.2.2 hd eb r) p9 r hp ((set &&& ((set &&& (bm_em (eb r))) ^^^ (-1))), (bm_own (set &&& (bm_em (eb r))) p9 Dd)) 12).2).2.2.2.1) ((((bm_parts (bm_mkr T1.2.2 hd eb r) p9 r hp ((set &&& ((set &&& (bm_em (eb r))) ^^^ (-1))), (bm_own (set &&& (bm_em (eb r))) p9 Dd)) 12).2).2.2.2.2) + (bm_pop (bm_parts (bm_mkr T1.2.2 hd eb r) p9 r hp ((set &&& ((set &&& (bm_em (eb r))) ^^^ (-1))), (bm_own (set &&& (bm_em (eb r))) p9 Dd)) 12).1 32)) lm], [(qs 0, .inl (cI, 12, .inl (lI eb)))], [(qs 6, .inl (cJ, 1600, .inr (.inl fL)))], [(qs 7, .inl (cJ, 1600, .inr (.inl fH)))], [(qs 9, .inl (cI, 144, .inl (fl (sI hd))))], [(qs 11, .inl (cJ, 4000, .inr (.inl fJ)))], [(qs 16, .inl (cI, 901, .inl fE))], [(qs 17, .inl (cI, 901, .inl fY))], [(qs 18, .inl (cI, 144, .inl (fl (gN (vw0 T1.2.2 hd r)))))], [(qs 19, .inl (cI, 144, .inl (fl (gN (bn_far (vw0 T1.2.2 hd r))))))]]) H := hP
        have hD : va_D A (List.flatten [[rf_o h qs cd ma mn ca (((bm_parts (bm_mkr T1.2.2 hd eb r) p9 r hp ((set &&& ((set &&& (bm_em (eb r))) ^^^ (-1))), (bm_own (set &&& (bm_em (eb r))) p9 Dd)) 12).2).2.1.2.1) na nn (((bm_parts (bm_mkr T1.2.2 hd eb r) p9 r hp ((set &&& ((set &&& (bm_em (eb r))) ^^^ (-1))), (bm_own (set &&& (bm_em (eb r))) p9 Dd)) 12).2).1.2.1) (((bm_parts (bm_mkr T1.2.2 hd eb r) p9 r hp ((set &&& ((set &&& (bm_em (eb r))) ^^^ (-1))), (bm_own (set &&& (bm_em (eb r))) p9 Dd)) 12).2).2.2.1) (((bm_parts (bm_mkr T1.2.2 hd eb r) p9 r hp ((set &&& ((set &&& (bm_em (eb r))) ^^^ (-1))), (bm_own (set &&& (bm_em (eb r))) p9 Dd)) 12).2).2.2.2.1) ((((bm_parts (bm_mkr T1.2.2 hd eb r) p9 r hp ((set &&& ((set &&& (bm_em (eb r))) ^^^ (-1))), (bm_own (set &&& (bm_em (eb r))) p9 Dd)) 12).2).2.2.2.2) + (bm_pop (bm_parts (bm_mkr T1.2.2 hd eb r) p9 r hp ((set &&& ((set &&& (bm_em (eb r))) ^^^ (-1))), (bm_own (set &&& (bm_em (eb r))) p9 Dd)) 12).1 32)) lm], [(qs 0, .inl (cI, 12, .inl (lI eb)))], [(qs 6, .inl (cJ, 1600, .inr (.inl fL)))], [(qs 7, .inl (cJ, 1600, .inr (.inl fH)))], [(qs 9, .inl (cI, 144, .inl (fl (sI hd))))], [(qs 11, .inl (cJ, 4000, .inr (.inl fJ)))], [(qs 16, .inl (cI, 901, .inl fE))], [(qs 17, .inl (cI, 901, .inl fY))], [(qs 18, .inl (cI, 144, .inl (fl (gN (vw0 T1.2.2 hd r)))))], [(qs 19, .inl (cI, 144, .inl (fl (gN (bn_far (vw0 T1.2.2 hd r))))))]]) := hD
        exact ct_vret hQ hx hb hr hlk hP hD hS hK (by omega) (by omega) d_Ref_arrive_252 ⟨fJ, fE, fY, gN (vw0 T1.2.2 hd r), gN (bn_far (vw0 T1.2.2 hd r)), rfl, hJ, hY⟩
      · exact absurd hc9 (by omega)
    | succ k ih =>
      intro j fJ fE fY H locs ls hk hJ hY hP hD hS hl
      refine lv_iload hx hb d_Ref_arrive_83 (lv_at hl 0 rfl) ?_
      refine lv_bipush (v := nI 12) hx hb d_Ref_arrive_85 (by decide) ?_
      refine ri_icmp_ge hx hb (by omega) (by omega) d_Ref_arrive_87 (tgt := 238) (by decide) (fun hc9 => ?_) (fun hc9 => ?_)
      · exact absurd hc9 (by omega)
      · have b1 := hw9 r j
        have b3 := hsz j (by omega)
        have b4 := hsz (j + 1) (by omega)
        have b5 := hnp j
        refine lv_aload_n hx hb d_Ref_arrive_90 rfl (lv_at hl 2 rfl) ?_
        refine va_get (D := D) (ci := 9) (v := .ref (qs 18)) (C := R_Ref) (T := T_Ref) (N := 32) hx hb ht in_Ref hown hK hP 0 rfl rfl 30 (by decide) (ht _ kl_Ref_66) (fun _ h9 => h9) rfl d_Ref_arrive_91 ?_
        refine lv_bipush (v := nI 12) hx hb d_Ref_arrive_94 (by decide) ?_
        refine lv_iload_n hx hb d_Ref_arrive_96 rfl (lv_at hl 3 rfl) ?_
        refine ri_imul hx hb d_Ref_arrive_97 ?_
        refine lv_iload hx hb d_Ref_arrive_98 (lv_at hl 0 rfl) ?_
        refine ri_iadd hx hb d_Ref_arrive_100 ?_
        refine ri_iald hx hb hK hP 8 0 rfl rfl (j := (12 * r) + j) (by omega) (by omega) d_Ref_arrive_101 ?_
        refine W.eq (g2 := F0 m 102 ls [.int (nI ((vw0 T1.2.2 hd r) r j))]) (congrArg (fun z => F0 m 102 ls (.int z :: [])) (fl_at (a := r) (b := j) (by omega))) ?_
        refine ri_if_le hx hb (by omega) d_Ref_arrive_102 (tgt := 118) (by decide) (fun h102 => ?_) (fun h102 => ?_)
        · refine lv_iconst (v := nI 0) hx hb d_Ref_arrive_118 (by decide) ?_
          refine W.eq (g2 := F0 m 119 ls [.int (((bm_parts (bm_mkr T1.2.2 hd eb r) p9 r hp ((set &&& ((set &&& (bm_em (eb r))) ^^^ (-1))), (bm_own (set &&& (bm_em (eb r))) p9 Dd)) j).1 &&& (bm_mkr T1.2.2 hd eb r) j))]) (congrArg (fun z => F0 m 119 ls (.int z :: [])) ((by first | rfl | (rw [show (bm_mkr T1.2.2 hd eb r) j = 0 from bm_mask_0 (show vw0 T1.2.2 hd r r j = 0 by omega) 12]; exact Int32.and_zero.symm)))) ?_
          refine lv_istore hx hb d_Ref_arrive_119 hl (by decide) rfl (fun ls hl => ?_)
          have hl : lv_has ls 8 [(7, .int (((bm_parts (bm_mkr T1.2.2 hd eb r) p9 r hp ((set &&& ((set &&& (bm_em (eb r))) ^^^ (-1))), (bm_own (set &&& (bm_em (eb r))) p9 Dd)) j).1 &&& (bm_mkr T1.2.2 hd eb r) j))), (6, .int (nI j)), (5, .int ((bm_parts (bm_mkr T1.2.2 hd eb r) p9 r hp ((set &&& ((set &&& (bm_em (eb r))) ^^^ (-1))), (bm_own (set &&& (bm_em (eb r))) p9 Dd)) j).1)), (0, .ref h), (1, .int (nI r)), (2, .int (nI p9)), (4, .int (nI hp))] := hl
          refine lv_iload hx hb d_Ref_arrive_121 (lv_at hl 0 rfl) ?_
          refine lv_if_ne hx hb d_Ref_arrive_123 (tgt := 129) (by decide) (fun h123 => ?_) (fun h123 => ?_)
          · have hst : bm_parts (bm_mkr T1.2.2 hd eb r) p9 r hp ((set &&& ((set &&& (bm_em (eb r))) ^^^ (-1))), (bm_own (set &&& (bm_em (eb r))) p9 Dd)) (j + 1) = ((bm_parts (bm_mkr T1.2.2 hd eb r) p9 r hp ((set &&& ((set &&& (bm_em (eb r))) ^^^ (-1))), (bm_own (set &&& (bm_em (eb r))) p9 Dd)) j).1 &&& (((bm_parts (bm_mkr T1.2.2 hd eb r) p9 r hp ((set &&& ((set &&& (bm_em (eb r))) ^^^ (-1))), (bm_own (set &&& (bm_em (eb r))) p9 Dd)) j).1 &&& (bm_mkr T1.2.2 hd eb r) j) ^^^ (-1)), bm_on p9 r j ((bm_parts (bm_mkr T1.2.2 hd eb r) p9 r hp ((set &&& ((set &&& (bm_em (eb r))) ^^^ (-1))), (bm_own (set &&& (bm_em (eb r))) p9 Dd)) j).1 &&& (bm_mkr T1.2.2 hd eb r) j) hp (bm_parts (bm_mkr T1.2.2 hd eb r) p9 r hp ((set &&& ((set &&& (bm_em (eb r))) ^^^ (-1))), (bm_own (set &&& (bm_em (eb r))) p9 Dd)) j).2) := if_neg h123
            refine lv_iload hx hb d_Ref_arrive_129 (lv_at hl 2 rfl) ?_
            refine lv_iload hx hb d_Ref_arrive_131 (lv_at hl 0 rfl) ?_
            refine lv_iconst (v := (-1)) hx hb d_Ref_arrive_133 (by decide) ?_
            refine lv_ixor hx hb d_Ref_arrive_134 ?_
            refine lv_iand hx hb d_Ref_arrive_135 ?_
            refine W.eq (g2 := F0 m 136 ls [.int ((bm_parts (bm_mkr T1.2.2 hd eb r) p9 r hp ((set &&& ((set &&& (bm_em (eb r))) ^^^ (-1))), (bm_own (set &&& (bm_em (eb r))) p9 Dd)) (j + 1)).1)]) (congrArg (fun z => F0 m 136 ls (.int z :: [])) (by rw [hst])) ?_
            refine lv_istore hx hb d_Ref_arrive_136 hl (by decide) rfl (fun ls hl => ?_)
            have hl : lv_has ls 8 [(5, .int ((bm_parts (bm_mkr T1.2.2 hd eb r) p9 r hp ((set &&& ((set &&& (bm_em (eb r))) ^^^ (-1))), (bm_own (set &&& (bm_em (eb r))) p9 Dd)) (j + 1)).1)), (7, .int (((bm_parts (bm_mkr T1.2.2 hd eb r) p9 r hp ((set &&& ((set &&& (bm_em (eb r))) ^^^ (-1))), (bm_own (set &&& (bm_em (eb r))) p9 Dd)) j).1 &&& (bm_mkr T1.2.2 hd eb r) j))), (6, .int (nI j)), (0, .ref h), (1, .int (nI r)), (2, .int (nI p9)), (4, .int (nI hp))] := hl
            refine lv_iload hx hb d_Ref_arrive_138 (lv_at hl 6 rfl) ?_
            refine lv_sipush (v := nI 255) hx hb d_Ref_arrive_140 (by decide) ?_
            refine ri_icmp_ne hx hb (by omega) (by omega) d_Ref_arrive_143 (tgt := 159) (by decide) (fun h143 => ?_) (fun h143 => ?_)
            · have hon : bm_on p9 r j ((bm_parts (bm_mkr T1.2.2 hd eb r) p9 r hp ((set &&& ((set &&& (bm_em (eb r))) ^^^ (-1))), (bm_own (set &&& (bm_em (eb r))) p9 Dd)) j).1 &&& (bm_mkr T1.2.2 hd eb r) j) hp (bm_parts (bm_mkr T1.2.2 hd eb r) p9 r hp ((set &&& ((set &&& (bm_em (eb r))) ^^^ (-1))), (bm_own (set &&& (bm_em (eb r))) p9 Dd)) j).2 = (bm_set (bm_parts (bm_mkr T1.2.2 hd eb r) p9 r hp ((set &&& ((set &&& (bm_em (eb r))) ^^^ (-1))), (bm_own (set &&& (bm_em (eb r))) p9 Dd)) j).2.1 (p9 - 1) 1 ((bm_parts (bm_mkr T1.2.2 hd eb r) p9 r hp ((set &&& ((set &&& (bm_em (eb r))) ^^^ (-1))), (bm_own (set &&& (bm_em (eb r))) p9 Dd)) j).2.1.2.2 (p9 - 1) 1 + 1), bm_push (bm_parts (bm_mkr T1.2.2 hd eb r) p9 r hp ((set &&& ((set &&& (bm_em (eb r))) ^^^ (-1))), (bm_own (set &&& (bm_em (eb r))) p9 Dd)) j).2.2.1 (bm_row5 (nI p9) (nI r) (nI j) ((bm_parts (bm_mkr T1.2.2 hd eb r) p9 r hp ((set &&& ((set &&& (bm_em (eb r))) ^^^ (-1))), (bm_own (set &&& (bm_em (eb r))) p9 Dd)) j).1 &&& (bm_mkr T1.2.2 hd eb r) j) (nI (hp + 1))), (bm_parts (bm_mkr T1.2.2 hd eb r) p9 r hp ((set &&& ((set &&& (bm_em (eb r))) ^^^ (-1))), (bm_own (set &&& (bm_em (eb r))) p9 Dd)) j).2.2.2.1, (bm_parts (bm_mkr T1.2.2 hd eb r) p9 r hp ((set &&& ((set &&& (bm_em (eb r))) ^^^ (-1))), (bm_own (set &&& (bm_em (eb r))) p9 Dd)) j).2.2.2.2.1, (bm_parts (bm_mkr T1.2.2 hd eb r) p9 r hp ((set &&& ((set &&& (bm_em (eb r))) ^^^ (-1))), (bm_own (set &&& (bm_em (eb r))) p9 Dd)) j).2.2.2.2.2) := if_neg (by omega)
              have hsj : (bm_parts (bm_mkr T1.2.2 hd eb r) p9 r hp ((set &&& ((set &&& (bm_em (eb r))) ^^^ (-1))), (bm_own (set &&& (bm_em (eb r))) p9 Dd)) (j + 1)).2.2.1.2.1 = (bm_parts (bm_mkr T1.2.2 hd eb r) p9 r hp ((set &&& ((set &&& (bm_em (eb r))) ^^^ (-1))), (bm_own (set &&& (bm_em (eb r))) p9 Dd)) j).2.2.1.2.1 + 1 := by rw [hst, hon]; rfl
              refine lv_aload_n hx hb d_Ref_arrive_159 rfl (lv_at hl 3 rfl) ?_
              refine va_get (D := D) (ci := 9) (v := .ref (qs 11)) (C := R_Ref) (T := T_Ref) (N := 32) hx hb ht in_Ref hown hK hP 0 rfl rfl 16 (by decide) (ht _ kl_Ref_45) (fun _ h9 => h9) rfl d_Ref_arrive_160 ?_
              refine lv_aload_n hx hb d_Ref_arrive_163 rfl (lv_at hl 3 rfl) ?_
              refine va_get (D := D) (ci := 9) (v := .int (nI ca)) (C := R_Ref) (T := T_Ref) (N := 32) hx hb ht in_Ref hown hK hP 0 rfl rfl 14 (by decide) (ht _ kl_Ref_172) (fun _ h9 => h9) rfl d_Ref_arrive_164 ?_
              refine lv_aload_n hx hb d_Ref_arrive_167 rfl (lv_at hl 3 rfl) ?_
              refine va_get (D := D) (ci := 9) (v := .int (nI (((bm_parts (bm_mkr T1.2.2 hd eb r) p9 r hp ((set &&& ((set &&& (bm_em (eb r))) ^^^ (-1))), (bm_own (set &&& (bm_em (eb r))) p9 Dd)) j).2).2.1.2.1))) (C := R_Ref) (T := T_Ref) (N := 32) hx hb ht in_Ref hown hK hP 0 rfl rfl 15 (by decide) (ht _ kl_Ref_175) (fun _ h9 => h9) rfl d_Ref_arrive_168 ?_
              refine ri_iadd hx hb d_Ref_arrive_171 ?_
              refine lv_sipush (v := nI 4000) hx hb d_Ref_arrive_172 (by decide) ?_
              refine ri_irem2 hx hb (by omega) (by omega) (by omega) d_Ref_arrive_175 ?_
              refine lv_iload_n hx hb d_Ref_arrive_176 rfl (lv_at hl 5 rfl) ?_
              refine lv_i2l (v := lN p9) hx hb d_Ref_arrive_177 (nI_l (by omega)) ?_
              refine lv_bipush (v := nI 48) hx hb d_Ref_arrive_178 (by decide) ?_
              refine ri_lshl2 hx hb (by omega) d_Ref_arrive_180 ?_
              refine lv_iload_n hx hb d_Ref_arrive_181 rfl (lv_at hl 4 rfl) ?_
              refine lv_i2l (v := lN r) hx hb d_Ref_arrive_182 (nI_l (by omega)) ?_
              refine lv_bipush (v := nI 44) hx hb d_Ref_arrive_183 (by decide) ?_
              refine ri_lshl2 hx hb (by omega) d_Ref_arrive_185 ?_
              refine ri_lor2 hx hb d_Ref_arrive_186 ?_
              refine lv_iload hx hb d_Ref_arrive_187 (lv_at hl 2 rfl) ?_
              refine lv_i2l (v := lN j) hx hb d_Ref_arrive_189 (nI_l (by omega)) ?_
              refine lv_bipush (v := nI 40) hx hb d_Ref_arrive_190 (by decide) ?_
              refine ri_lshl2 hx hb (by omega) d_Ref_arrive_192 ?_
              refine ri_lor2 hx hb d_Ref_arrive_193 ?_
              refine lv_iload hx hb d_Ref_arrive_194 (lv_at hl 6 rfl) ?_
              refine lv_iconst (v := nI 1) hx hb d_Ref_arrive_196 (by decide) ?_
              refine ri_iadd hx hb d_Ref_arrive_197 ?_
              refine lv_i2l (v := lN (hp + 1)) hx hb d_Ref_arrive_198 (nI_l (by omega)) ?_
              refine lv_bipush (v := nI 32) hx hb d_Ref_arrive_199 (by decide) ?_
              refine ri_lshl2 hx hb (by omega) d_Ref_arrive_201 ?_
              refine ri_lor2 hx hb d_Ref_arrive_202 ?_
              refine lv_iload hx hb d_Ref_arrive_203 (lv_at hl 1 rfl) ?_
              refine lv_i2l (v := (((bm_parts (bm_mkr T1.2.2 hd eb r) p9 r hp ((set &&& ((set &&& (bm_em (eb r))) ^^^ (-1))), (bm_own (set &&& (bm_em (eb r))) p9 Dd)) j).1 &&& (bm_mkr T1.2.2 hd eb r) j)).toInt64) hx hb d_Ref_arrive_205 rfl ?_
              refine lv_ldc2 (v := lN 4294967295) hx hb hown (ht _ kl_Ref_178) d_Ref_arrive_206 ?_
              refine lv_land hx hb d_Ref_arrive_209 ?_
              refine W.eq (g2 := F0 m 210 ls [.long (lN (((bm_parts (bm_mkr T1.2.2 hd eb r) p9 r hp ((set &&& ((set &&& (bm_em (eb r))) ^^^ (-1))), (bm_own (set &&& (bm_em (eb r))) p9 Dd)) j).1 &&& (bm_mkr T1.2.2 hd eb r) j).toUInt32.toNat)), .long (lN ((((p9 * 2 ^ 48) ||| (r * 2 ^ 44)) ||| (j * 2 ^ 40)) ||| ((hp + 1) * 2 ^ 32))), .int (nI ((ca + (((bm_parts (bm_mkr T1.2.2 hd eb r) p9 r hp ((set &&& ((set &&& (bm_em (eb r))) ^^^ (-1))), (bm_own (set &&& (bm_em (eb r))) p9 Dd)) j).2).2.1.2.1)) % 4000)), .ref (qs 11)]) (congrArg (fun z => F0 m 210 ls (.long z :: [.long (lN ((((p9 * 2 ^ 48) ||| (r * 2 ^ 44)) ||| (j * 2 ^ 40)) ||| ((hp + 1) * 2 ^ 32))), .int (nI ((ca + (((bm_parts (bm_mkr T1.2.2 hd eb r) p9 r hp ((set &&& ((set &&& (bm_em (eb r))) ^^^ (-1))), (bm_own (set &&& (bm_em (eb r))) p9 Dd)) j).2).2.1.2.1)) % 4000)), .ref (qs 11)])) (u32 _)) ?_
              refine ri_lor2 hx hb d_Ref_arrive_210 ?_
              refine W.eq (g2 := F0 m 211 ls [.long (lN (p9 * 2 ^ 48 + r * 2 ^ 44 + j * 2 ^ 40 + (hp + 1) * 2 ^ 32 + ((bm_parts (bm_mkr T1.2.2 hd eb r) p9 r hp ((set &&& ((set &&& (bm_em (eb r))) ^^^ (-1))), (bm_own (set &&& (bm_em (eb r))) p9 Dd)) j).1 &&& (bm_mkr T1.2.2 hd eb r) j).toUInt32.toNat)), .int (nI ((ca + (((bm_parts (bm_mkr T1.2.2 hd eb r) p9 r hp ((set &&& ((set &&& (bm_em (eb r))) ^^^ (-1))), (bm_own (set &&& (bm_em (eb r))) p9 Dd)) j).2).2.1.2.1)) % 4000)), .ref (qs 11)]) (congrArg (fun z => F0 m 211 ls (.long z :: [.int (nI ((ca + (((bm_parts (bm_mkr T1.2.2 hd eb r) p9 r hp ((set &&& ((set &&& (bm_em (eb r))) ^^^ (-1))), (bm_own (set &&& (bm_em (eb r))) p9 Dd)) j).2).2.1.2.1)) % 4000)), .ref (qs 11)])) (congrArg lN (cp_or (by omega) (by omega) (by omega) (tu32 _)))) ?_
              refine ri_last hx hb hK hP hD hS 5 2 rfl rfl (j := (ca + (((bm_parts (bm_mkr T1.2.2 hd eb r) p9 r hp ((set &&& ((set &&& (bm_em (eb r))) ^^^ (-1))), (bm_own (set &&& (bm_em (eb r))) p9 Dd)) j).2).2.1.2.1)) % 4000) (by omega) (by omega) d_Ref_arrive_211 (fun H locs hP hD hS => ?_)
              have hP : va_P D kls (List.flatten [[rf_o h qs cd ma mn ca (((bm_parts (bm_mkr T1.2.2 hd eb r) p9 r hp ((set &&& ((set &&& (bm_em (eb r))) ^^^ (-1))), (bm_own (set &&& (bm_em (eb r))) p9 Dd)) j).2).2.1.2.1) na nn (((bm_parts (bm_mkr T1.2.2 hd eb r) p9 r hp ((set &&& ((set &&& (bm_em (eb r))) ^^^ (-1))), (bm_own (set &&& (bm_em (eb r))) p9 Dd)) j).2).1.2.1) (((bm_parts (bm_mkr T1.2.2 hd eb r) p9 r hp ((set &&& ((set &&& (bm_em (eb r))) ^^^ (-1))), (bm_own (set &&& (bm_em (eb r))) p9 Dd)) j).2).2.2.1) (((bm_parts (bm_mkr T1.2.2 hd eb r) p9 r hp ((set &&& ((set &&& (bm_em (eb r))) ^^^ (-1))), (bm_own (set &&& (bm_em (eb r))) p9 Dd)) j).2).2.2.2.1) (((bm_parts (bm_mkr T1.2.2 hd eb r) p9 r hp ((set &&& ((set &&& (bm_em (eb r))) ^^^ (-1))), (bm_own (set &&& (bm_em (eb r))) p9 Dd)) j).2).2.2.2.2) lm], [(qs 0, .inl (cI, 12, .inl (lI eb)))], [(qs 6, .inl (cJ, 1600, .inr (.inl fL)))], [(qs 7, .inl (cJ, 1600, .inr (.inl fH)))], [(qs 9, .inl (cI, 144, .inl (fl (sI hd))))], [(qs 11, .inl (cJ, 4000, .inr (.inl (vp_updL fJ ((ca + (((bm_parts (bm_mkr T1.2.2 hd eb r) p9 r hp ((set &&& ((set &&& (bm_em (eb r))) ^^^ (-1))), (bm_own (set &&& (bm_em (eb r))) p9 Dd)) j).2).2.1.2.1)) % 4000) (lN (p9 * 2 ^ 48 + r * 2 ^ 44 + j * 2 ^ 40 + (hp + 1) * 2 ^ 32 + ((bm_parts (bm_mkr T1.2.2 hd eb r) p9 r hp ((set &&& ((set &&& (bm_em (eb r))) ^^^ (-1))), (bm_own (set &&& (bm_em (eb r))) p9 Dd)) j).1 &&& (bm_mkr T1.2.2 hd eb r) j).toUInt32.toNat))))))], [(qs 16, .inl (cI, 901, .inl fE))], [(qs 17, .inl (cI, 901, .inl fY))], [(qs 18, .inl (cI, 144, .inl (fl (gN (vw0 T1.2.2 hd r)))))], [(qs 19, .inl (cI, 144, .inl (fl (gN (bn_far (vw0 T1.2.2 hd r))))))]]) H := hP
              have hD : va_D A (List.flatten [[rf_o h qs cd ma mn ca (((bm_parts (bm_mkr T1.2.2 hd eb r) p9 r hp ((set &&& ((set &&& (bm_em (eb r))) ^^^ (-1))), (bm_own (set &&& (bm_em (eb r))) p9 Dd)) j).2).2.1.2.1) na nn (((bm_parts (bm_mkr T1.2.2 hd eb r) p9 r hp ((set &&& ((set &&& (bm_em (eb r))) ^^^ (-1))), (bm_own (set &&& (bm_em (eb r))) p9 Dd)) j).2).1.2.1) (((bm_parts (bm_mkr T1.2.2 hd eb r) p9 r hp ((set &&& ((set &&& (bm_em (eb r))) ^^^ (-1))), (bm_own (set &&& (bm_em (eb r))) p9 Dd)) j).2).2.2.1) (((bm_parts (bm_mkr T1.2.2 hd eb r) p9 r hp ((set &&& ((set &&& (bm_em (eb r))) ^^^ (-1))), (bm_own (set &&& (bm_em (eb r))) p9 Dd)) j).2).2.2.2.1) (((bm_parts (bm_mkr T1.2.2 hd eb r) p9 r hp ((set &&& ((set &&& (bm_em (eb r))) ^^^ (-1))), (bm_own (set &&& (bm_em (eb r))) p9 Dd)) j).2).2.2.2.2) lm], [(qs 0, .inl (cI, 12, .inl (lI eb)))], [(qs 6, .inl (cJ, 1600, .inr (.inl fL)))], [(qs 7, .inl (cJ, 1600, .inr (.inl fH)))], [(qs 9, .inl (cI, 144, .inl (fl (sI hd))))], [(qs 11, .inl (cJ, 4000, .inr (.inl (vp_updL fJ ((ca + (((bm_parts (bm_mkr T1.2.2 hd eb r) p9 r hp ((set &&& ((set &&& (bm_em (eb r))) ^^^ (-1))), (bm_own (set &&& (bm_em (eb r))) p9 Dd)) j).2).2.1.2.1)) % 4000) (lN (p9 * 2 ^ 48 + r * 2 ^ 44 + j * 2 ^ 40 + (hp + 1) * 2 ^ 32 + ((bm_parts (bm_mkr T1.2.2 hd eb r) p9 r hp ((set &&& ((set &&& (bm_em (eb r))) ^^^ (-1))), (bm_own (set &&& (bm_em (eb r))) p9 Dd)) j).1 &&& (bm_mkr T1.2.2 hd eb r) j).toUInt32.toNat))))))], [(qs 16, .inl (cI, 901, .inl fE))], [(qs 17, .inl (cI, 901, .inl fY))], [(qs 18, .inl (cI, 144, .inl (fl (gN (vw0 T1.2.2 hd r)))))], [(qs 19, .inl (cI, 144, .inl (fl (gN (bn_far (vw0 T1.2.2 hd r))))))]]) := hD
              refine lv_aload_n hx hb d_Ref_arrive_212 rfl (lv_at hl 3 rfl) ?_
              refine lv_dup hx hb d_Ref_arrive_213 rfl ?_
              refine va_get (D := D) (ci := 9) (v := .int (nI (((bm_parts (bm_mkr T1.2.2 hd eb r) p9 r hp ((set &&& ((set &&& (bm_em (eb r))) ^^^ (-1))), (bm_own (set &&& (bm_em (eb r))) p9 Dd)) j).2).2.1.2.1))) (C := R_Ref) (T := T_Ref) (N := 32) hx hb ht in_Ref hown hK hP 0 rfl rfl 15 (by decide) (ht _ kl_Ref_175) (fun _ h9 => h9) rfl d_Ref_arrive_214 ?_
              refine lv_iconst (v := nI 1) hx hb d_Ref_arrive_217 (by decide) ?_
              refine ri_iadd hx hb d_Ref_arrive_218 ?_
              refine va_put (D := D) (ci := 9) (v := .int (nI ((((bm_parts (bm_mkr T1.2.2 hd eb r) p9 r hp ((set &&& ((set &&& (bm_em (eb r))) ^^^ (-1))), (bm_own (set &&& (bm_em (eb r))) p9 Dd)) j).2).2.1.2.1) + 1))) (ty := .int) (C := R_Ref) (T := T_Ref) (N := 32) hx hb ht in_Ref t_Ref ok_Ref nm_Ref hown hK hP hD hS 0 rfl rfl 15 (by decide) (ht _ kl_Ref_175) (fun _ h9 => h9) rfl (by decide +kernel) rfl rfl (Nat.le_of_ble_eq_true rfl) d_Ref_arrive_219 (fun H locs hP hD hS => ?_)
              have hP : va_P D kls (List.flatten [[rf_o h qs cd ma mn ca ((((bm_parts (bm_mkr T1.2.2 hd eb r) p9 r hp ((set &&& ((set &&& (bm_em (eb r))) ^^^ (-1))), (bm_own (set &&& (bm_em (eb r))) p9 Dd)) j).2).2.1.2.1) + 1) na nn (((bm_parts (bm_mkr T1.2.2 hd eb r) p9 r hp ((set &&& ((set &&& (bm_em (eb r))) ^^^ (-1))), (bm_own (set &&& (bm_em (eb r))) p9 Dd)) j).2).1.2.1) (((bm_parts (bm_mkr T1.2.2 hd eb r) p9 r hp ((set &&& ((set &&& (bm_em (eb r))) ^^^ (-1))), (bm_own (set &&& (bm_em (eb r))) p9 Dd)) j).2).2.2.1) (((bm_parts (bm_mkr T1.2.2 hd eb r) p9 r hp ((set &&& ((set &&& (bm_em (eb r))) ^^^ (-1))), (bm_own (set &&& (bm_em (eb r))) p9 Dd)) j).2).2.2.2.1) (((bm_parts (bm_mkr T1.2.2 hd eb r) p9 r hp ((set &&& ((set &&& (bm_em (eb r))) ^^^ (-1))), (bm_own (set &&& (bm_em (eb r))) p9 Dd)) j).2).2.2.2.2) lm], [(qs 0, .inl (cI, 12, .inl (lI eb)))], [(qs 6, .inl (cJ, 1600, .inr (.inl fL)))], [(qs 7, .inl (cJ, 1600, .inr (.inl fH)))], [(qs 9, .inl (cI, 144, .inl (fl (sI hd))))], [(qs 11, .inl (cJ, 4000, .inr (.inl (vp_updL fJ ((ca + (((bm_parts (bm_mkr T1.2.2 hd eb r) p9 r hp ((set &&& ((set &&& (bm_em (eb r))) ^^^ (-1))), (bm_own (set &&& (bm_em (eb r))) p9 Dd)) j).2).2.1.2.1)) % 4000) (lN (p9 * 2 ^ 48 + r * 2 ^ 44 + j * 2 ^ 40 + (hp + 1) * 2 ^ 32 + ((bm_parts (bm_mkr T1.2.2 hd eb r) p9 r hp ((set &&& ((set &&& (bm_em (eb r))) ^^^ (-1))), (bm_own (set &&& (bm_em (eb r))) p9 Dd)) j).1 &&& (bm_mkr T1.2.2 hd eb r) j).toUInt32.toNat))))))], [(qs 16, .inl (cI, 901, .inl fE))], [(qs 17, .inl (cI, 901, .inl fY))], [(qs 18, .inl (cI, 144, .inl (fl (gN (vw0 T1.2.2 hd r)))))], [(qs 19, .inl (cI, 144, .inl (fl (gN (bn_far (vw0 T1.2.2 hd r))))))]]) H := hP
              have hD : va_D A (List.flatten [[rf_o h qs cd ma mn ca ((((bm_parts (bm_mkr T1.2.2 hd eb r) p9 r hp ((set &&& ((set &&& (bm_em (eb r))) ^^^ (-1))), (bm_own (set &&& (bm_em (eb r))) p9 Dd)) j).2).2.1.2.1) + 1) na nn (((bm_parts (bm_mkr T1.2.2 hd eb r) p9 r hp ((set &&& ((set &&& (bm_em (eb r))) ^^^ (-1))), (bm_own (set &&& (bm_em (eb r))) p9 Dd)) j).2).1.2.1) (((bm_parts (bm_mkr T1.2.2 hd eb r) p9 r hp ((set &&& ((set &&& (bm_em (eb r))) ^^^ (-1))), (bm_own (set &&& (bm_em (eb r))) p9 Dd)) j).2).2.2.1) (((bm_parts (bm_mkr T1.2.2 hd eb r) p9 r hp ((set &&& ((set &&& (bm_em (eb r))) ^^^ (-1))), (bm_own (set &&& (bm_em (eb r))) p9 Dd)) j).2).2.2.2.1) (((bm_parts (bm_mkr T1.2.2 hd eb r) p9 r hp ((set &&& ((set &&& (bm_em (eb r))) ^^^ (-1))), (bm_own (set &&& (bm_em (eb r))) p9 Dd)) j).2).2.2.2.2) lm], [(qs 0, .inl (cI, 12, .inl (lI eb)))], [(qs 6, .inl (cJ, 1600, .inr (.inl fL)))], [(qs 7, .inl (cJ, 1600, .inr (.inl fH)))], [(qs 9, .inl (cI, 144, .inl (fl (sI hd))))], [(qs 11, .inl (cJ, 4000, .inr (.inl (vp_updL fJ ((ca + (((bm_parts (bm_mkr T1.2.2 hd eb r) p9 r hp ((set &&& ((set &&& (bm_em (eb r))) ^^^ (-1))), (bm_own (set &&& (bm_em (eb r))) p9 Dd)) j).2).2.1.2.1)) % 4000) (lN (p9 * 2 ^ 48 + r * 2 ^ 44 + j * 2 ^ 40 + (hp + 1) * 2 ^ 32 + ((bm_parts (bm_mkr T1.2.2 hd eb r) p9 r hp ((set &&& ((set &&& (bm_em (eb r))) ^^^ (-1))), (bm_own (set &&& (bm_em (eb r))) p9 Dd)) j).1 &&& (bm_mkr T1.2.2 hd eb r) j).toUInt32.toNat))))))], [(qs 16, .inl (cI, 901, .inl fE))], [(qs 17, .inl (cI, 901, .inl fY))], [(qs 18, .inl (cI, 144, .inl (fl (gN (vw0 T1.2.2 hd r)))))], [(qs 19, .inl (cI, 144, .inl (fl (gN (bn_far (vw0 T1.2.2 hd r))))))]]) := hD
              refine lv_aload_n hx hb d_Ref_arrive_222 rfl (lv_at hl 3 rfl) ?_
              refine va_get (D := D) (ci := 9) (v := .ref (qs 17)) (C := R_Ref) (T := T_Ref) (N := 32) hx hb ht in_Ref hown hK hP 0 rfl rfl 25 (by decide) (ht _ kl_Ref_63) (fun _ h9 => h9) rfl d_Ref_arrive_223 ?_
              refine lv_iload_n hx hb d_Ref_arrive_226 rfl (lv_at hl 5 rfl) ?_
              refine lv_dup2_11 hx hb d_Ref_arrive_227 rfl rfl ?_
              refine ri_iald hx hb hK hP 7 0 rfl rfl (j := p9) (by omega) (by omega) d_Ref_arrive_228 ?_
              refine W.eq (g2 := F0 m 229 ls [.int ((bm_parts (bm_mkr T1.2.2 hd eb r) p9 r hp ((set &&& ((set &&& (bm_em (eb r))) ^^^ (-1))), (bm_own (set &&& (bm_em (eb r))) p9 Dd)) j).2.1.2.2 (p9 - 1) 1), .int (nI p9), .ref (qs 17)]) (congrArg (fun z => F0 m 229 ls (.int z :: [.int (nI p9), .ref (qs 17)])) ((hY p9 hp1 (by omega)).2.trans (if_pos (by omega)))) ?_
              refine lv_iconst (v := nI 1) hx hb d_Ref_arrive_229 (by decide) ?_
              refine lv_iadd hx hb d_Ref_arrive_230 ?_
              refine ri_iast hx hb hK hP hD hS 7 0 rfl rfl (j := p9) (by omega) (by omega) d_Ref_arrive_231 (fun H locs hP hD hS => ?_)
              have hP : va_P D kls (List.flatten [[rf_o h qs cd ma mn ca ((((bm_parts (bm_mkr T1.2.2 hd eb r) p9 r hp ((set &&& ((set &&& (bm_em (eb r))) ^^^ (-1))), (bm_own (set &&& (bm_em (eb r))) p9 Dd)) j).2).2.1.2.1) + 1) na nn (((bm_parts (bm_mkr T1.2.2 hd eb r) p9 r hp ((set &&& ((set &&& (bm_em (eb r))) ^^^ (-1))), (bm_own (set &&& (bm_em (eb r))) p9 Dd)) j).2).1.2.1) (((bm_parts (bm_mkr T1.2.2 hd eb r) p9 r hp ((set &&& ((set &&& (bm_em (eb r))) ^^^ (-1))), (bm_own (set &&& (bm_em (eb r))) p9 Dd)) j).2).2.2.1) (((bm_parts (bm_mkr T1.2.2 hd eb r) p9 r hp ((set &&& ((set &&& (bm_em (eb r))) ^^^ (-1))), (bm_own (set &&& (bm_em (eb r))) p9 Dd)) j).2).2.2.2.1) (((bm_parts (bm_mkr T1.2.2 hd eb r) p9 r hp ((set &&& ((set &&& (bm_em (eb r))) ^^^ (-1))), (bm_own (set &&& (bm_em (eb r))) p9 Dd)) j).2).2.2.2.2) lm], [(qs 0, .inl (cI, 12, .inl (lI eb)))], [(qs 6, .inl (cJ, 1600, .inr (.inl fL)))], [(qs 7, .inl (cJ, 1600, .inr (.inl fH)))], [(qs 9, .inl (cI, 144, .inl (fl (sI hd))))], [(qs 11, .inl (cJ, 4000, .inr (.inl (vp_updL fJ ((ca + (((bm_parts (bm_mkr T1.2.2 hd eb r) p9 r hp ((set &&& ((set &&& (bm_em (eb r))) ^^^ (-1))), (bm_own (set &&& (bm_em (eb r))) p9 Dd)) j).2).2.1.2.1)) % 4000) (lN (p9 * 2 ^ 48 + r * 2 ^ 44 + j * 2 ^ 40 + (hp + 1) * 2 ^ 32 + ((bm_parts (bm_mkr T1.2.2 hd eb r) p9 r hp ((set &&& ((set &&& (bm_em (eb r))) ^^^ (-1))), (bm_own (set &&& (bm_em (eb r))) p9 Dd)) j).1 &&& (bm_mkr T1.2.2 hd eb r) j).toUInt32.toNat))))))], [(qs 16, .inl (cI, 901, .inl fE))], [(qs 17, .inl (cI, 901, .inl (upd fY p9 (((bm_parts (bm_mkr T1.2.2 hd eb r) p9 r hp ((set &&& ((set &&& (bm_em (eb r))) ^^^ (-1))), (bm_own (set &&& (bm_em (eb r))) p9 Dd)) j).2.1.2.2 (p9 - 1) 1) + (nI 1)))))], [(qs 18, .inl (cI, 144, .inl (fl (gN (vw0 T1.2.2 hd r)))))], [(qs 19, .inl (cI, 144, .inl (fl (gN (bn_far (vw0 T1.2.2 hd r))))))]]) H := hP
              have hD : va_D A (List.flatten [[rf_o h qs cd ma mn ca ((((bm_parts (bm_mkr T1.2.2 hd eb r) p9 r hp ((set &&& ((set &&& (bm_em (eb r))) ^^^ (-1))), (bm_own (set &&& (bm_em (eb r))) p9 Dd)) j).2).2.1.2.1) + 1) na nn (((bm_parts (bm_mkr T1.2.2 hd eb r) p9 r hp ((set &&& ((set &&& (bm_em (eb r))) ^^^ (-1))), (bm_own (set &&& (bm_em (eb r))) p9 Dd)) j).2).1.2.1) (((bm_parts (bm_mkr T1.2.2 hd eb r) p9 r hp ((set &&& ((set &&& (bm_em (eb r))) ^^^ (-1))), (bm_own (set &&& (bm_em (eb r))) p9 Dd)) j).2).2.2.1) (((bm_parts (bm_mkr T1.2.2 hd eb r) p9 r hp ((set &&& ((set &&& (bm_em (eb r))) ^^^ (-1))), (bm_own (set &&& (bm_em (eb r))) p9 Dd)) j).2).2.2.2.1) (((bm_parts (bm_mkr T1.2.2 hd eb r) p9 r hp ((set &&& ((set &&& (bm_em (eb r))) ^^^ (-1))), (bm_own (set &&& (bm_em (eb r))) p9 Dd)) j).2).2.2.2.2) lm], [(qs 0, .inl (cI, 12, .inl (lI eb)))], [(qs 6, .inl (cJ, 1600, .inr (.inl fL)))], [(qs 7, .inl (cJ, 1600, .inr (.inl fH)))], [(qs 9, .inl (cI, 144, .inl (fl (sI hd))))], [(qs 11, .inl (cJ, 4000, .inr (.inl (vp_updL fJ ((ca + (((bm_parts (bm_mkr T1.2.2 hd eb r) p9 r hp ((set &&& ((set &&& (bm_em (eb r))) ^^^ (-1))), (bm_own (set &&& (bm_em (eb r))) p9 Dd)) j).2).2.1.2.1)) % 4000) (lN (p9 * 2 ^ 48 + r * 2 ^ 44 + j * 2 ^ 40 + (hp + 1) * 2 ^ 32 + ((bm_parts (bm_mkr T1.2.2 hd eb r) p9 r hp ((set &&& ((set &&& (bm_em (eb r))) ^^^ (-1))), (bm_own (set &&& (bm_em (eb r))) p9 Dd)) j).1 &&& (bm_mkr T1.2.2 hd eb r) j).toUInt32.toNat))))))], [(qs 16, .inl (cI, 901, .inl fE))], [(qs 17, .inl (cI, 901, .inl (upd fY p9 (((bm_parts (bm_mkr T1.2.2 hd eb r) p9 r hp ((set &&& ((set &&& (bm_em (eb r))) ^^^ (-1))), (bm_own (set &&& (bm_em (eb r))) p9 Dd)) j).2.1.2.2 (p9 - 1) 1) + (nI 1)))))], [(qs 18, .inl (cI, 144, .inl (fl (gN (vw0 T1.2.2 hd r)))))], [(qs 19, .inl (cI, 144, .inl (fl (gN (bn_far (vw0 T1.2.2 hd r))))))]]) := hD
              refine ri_iinc hx hb d_Ref_arrive_232 hl (k := 2) rfl (by decide) rfl (fun ls hl => ?_)
              have hl : lv_has ls 8 [(6, .int (nI (j + 1))), (5, .int ((bm_parts (bm_mkr T1.2.2 hd eb r) p9 r hp ((set &&& ((set &&& (bm_em (eb r))) ^^^ (-1))), (bm_own (set &&& (bm_em (eb r))) p9 Dd)) (j + 1)).1)), (7, .int (((bm_parts (bm_mkr T1.2.2 hd eb r) p9 r hp ((set &&& ((set &&& (bm_em (eb r))) ^^^ (-1))), (bm_own (set &&& (bm_em (eb r))) p9 Dd)) j).1 &&& (bm_mkr T1.2.2 hd eb r) j))), (0, .ref h), (1, .int (nI r)), (2, .int (nI p9)), (4, .int (nI hp))] := hl
              refine lv_goto hx hb d_Ref_arrive_235 (tgt := 83) (by decide) ?_
              have hJ2 := cr_push hJ (show (bm_parts (bm_mkr T1.2.2 hd eb r) p9 r hp ((set &&& ((set &&& (bm_em (eb r))) ^^^ (-1))), (bm_own (set &&& (bm_em (eb r))) p9 Dd)) j).2.2.1.2.1 < 4000 by omega) (row := bm_row5 (nI p9) (nI r) (nI j) ((bm_parts (bm_mkr T1.2.2 hd eb r) p9 r hp ((set &&& ((set &&& (bm_em (eb r))) ^^^ (-1))), (bm_own (set &&& (bm_em (eb r))) p9 Dd)) j).1 &&& (bm_mkr T1.2.2 hd eb r) j) (nI (hp + 1))) (v := lN (p9 * 2 ^ 48 + r * 2 ^ 44 + j * 2 ^ 40 + (hp + 1) * 2 ^ 32 + ((bm_parts (bm_mkr T1.2.2 hd eb r) p9 r hp ((set &&& ((set &&& (bm_em (eb r))) ^^^ (-1))), (bm_own (set &&& (bm_em (eb r))) p9 Dd)) j).1 &&& (bm_mkr T1.2.2 hd eb r) j).toUInt32.toNat)) ⟨p9, r, j, hp + 1, ⟨rfl, rfl, rfl, rfl⟩, hr9, by omega, hp1, by omega, by omega, rfl⟩
              exact ih (j + 1) _ fE _ H locs ls (by omega) (by rw [hst, hon]; exact hJ2) (by rw [hst, hon]; exact pd_set1 hY hp1 (by omega) _) (by rw [hst, hon]; exact hP) (by rw [hst, hon]; exact hD) hS (lv_sub hl [0, 1, 3, 4, 5, 6] rfl)
            · refine lv_aload_n hx hb d_Ref_arrive_146 rfl (lv_at hl 3 rfl) ?_
              refine lv_dup hx hb d_Ref_arrive_147 rfl ?_
              refine va_get (D := D) (ci := 9) (v := .int (((bm_parts (bm_mkr T1.2.2 hd eb r) p9 r hp ((set &&& ((set &&& (bm_em (eb r))) ^^^ (-1))), (bm_own (set &&& (bm_em (eb r))) p9 Dd)) j).2).2.2.2.1)) (C := R_Ref) (T := T_Ref) (N := 32) hx hb ht in_Ref hown hK hP 0 rfl rfl 27 (by decide) (ht _ kl_Ref_169) (fun _ h9 => h9) rfl d_Ref_arrive_148 ?_
              refine lv_iconst (v := nI 1) hx hb d_Ref_arrive_151 (by decide) ?_
              refine lv_iadd hx hb d_Ref_arrive_152 ?_
              refine va_put (D := D) (ci := 9) (v := .int ((((bm_parts (bm_mkr T1.2.2 hd eb r) p9 r hp ((set &&& ((set &&& (bm_em (eb r))) ^^^ (-1))), (bm_own (set &&& (bm_em (eb r))) p9 Dd)) j).2).2.2.2.1) + (nI 1))) (ty := .int) (C := R_Ref) (T := T_Ref) (N := 32) hx hb ht in_Ref t_Ref ok_Ref nm_Ref hown hK hP hD hS 0 rfl rfl 27 (by decide) (ht _ kl_Ref_169) (fun _ h9 => h9) rfl (by decide +kernel) rfl rfl (Nat.le_of_ble_eq_true rfl) d_Ref_arrive_153 (fun H locs hP hD hS => ?_)
              have hP : va_P D kls (List.flatten [[rf_o h qs cd ma mn ca (((bm_parts (bm_mkr T1.2.2 hd eb r) p9 r hp ((set &&& ((set &&& (bm_em (eb r))) ^^^ (-1))), (bm_own (set &&& (bm_em (eb r))) p9 Dd)) j).2).2.1.2.1) na nn (((bm_parts (bm_mkr T1.2.2 hd eb r) p9 r hp ((set &&& ((set &&& (bm_em (eb r))) ^^^ (-1))), (bm_own (set &&& (bm_em (eb r))) p9 Dd)) j).2).1.2.1) (((bm_parts (bm_mkr T1.2.2 hd eb r) p9 r hp ((set &&& ((set &&& (bm_em (eb r))) ^^^ (-1))), (bm_own (set &&& (bm_em (eb r))) p9 Dd)) j).2).2.2.1) ((((bm_parts (bm_mkr T1.2.2 hd eb r) p9 r hp ((set &&& ((set &&& (bm_em (eb r))) ^^^ (-1))), (bm_own (set &&& (bm_em (eb r))) p9 Dd)) j).2).2.2.2.1) + (nI 1)) (((bm_parts (bm_mkr T1.2.2 hd eb r) p9 r hp ((set &&& ((set &&& (bm_em (eb r))) ^^^ (-1))), (bm_own (set &&& (bm_em (eb r))) p9 Dd)) j).2).2.2.2.2) lm], [(qs 0, .inl (cI, 12, .inl (lI eb)))], [(qs 6, .inl (cJ, 1600, .inr (.inl fL)))], [(qs 7, .inl (cJ, 1600, .inr (.inl fH)))], [(qs 9, .inl (cI, 144, .inl (fl (sI hd))))], [(qs 11, .inl (cJ, 4000, .inr (.inl fJ)))], [(qs 16, .inl (cI, 901, .inl fE))], [(qs 17, .inl (cI, 901, .inl fY))], [(qs 18, .inl (cI, 144, .inl (fl (gN (vw0 T1.2.2 hd r)))))], [(qs 19, .inl (cI, 144, .inl (fl (gN (bn_far (vw0 T1.2.2 hd r))))))]]) H := hP
              have hD : va_D A (List.flatten [[rf_o h qs cd ma mn ca (((bm_parts (bm_mkr T1.2.2 hd eb r) p9 r hp ((set &&& ((set &&& (bm_em (eb r))) ^^^ (-1))), (bm_own (set &&& (bm_em (eb r))) p9 Dd)) j).2).2.1.2.1) na nn (((bm_parts (bm_mkr T1.2.2 hd eb r) p9 r hp ((set &&& ((set &&& (bm_em (eb r))) ^^^ (-1))), (bm_own (set &&& (bm_em (eb r))) p9 Dd)) j).2).1.2.1) (((bm_parts (bm_mkr T1.2.2 hd eb r) p9 r hp ((set &&& ((set &&& (bm_em (eb r))) ^^^ (-1))), (bm_own (set &&& (bm_em (eb r))) p9 Dd)) j).2).2.2.1) ((((bm_parts (bm_mkr T1.2.2 hd eb r) p9 r hp ((set &&& ((set &&& (bm_em (eb r))) ^^^ (-1))), (bm_own (set &&& (bm_em (eb r))) p9 Dd)) j).2).2.2.2.1) + (nI 1)) (((bm_parts (bm_mkr T1.2.2 hd eb r) p9 r hp ((set &&& ((set &&& (bm_em (eb r))) ^^^ (-1))), (bm_own (set &&& (bm_em (eb r))) p9 Dd)) j).2).2.2.2.2) lm], [(qs 0, .inl (cI, 12, .inl (lI eb)))], [(qs 6, .inl (cJ, 1600, .inr (.inl fL)))], [(qs 7, .inl (cJ, 1600, .inr (.inl fH)))], [(qs 9, .inl (cI, 144, .inl (fl (sI hd))))], [(qs 11, .inl (cJ, 4000, .inr (.inl fJ)))], [(qs 16, .inl (cI, 901, .inl fE))], [(qs 17, .inl (cI, 901, .inl fY))], [(qs 18, .inl (cI, 144, .inl (fl (gN (vw0 T1.2.2 hd r)))))], [(qs 19, .inl (cI, 144, .inl (fl (gN (bn_far (vw0 T1.2.2 hd r))))))]]) := hD
              refine lv_goto hx hb d_Ref_arrive_156 (tgt := 232) (by decide) ?_
              refine ri_iinc hx hb d_Ref_arrive_232 hl (k := 2) rfl (by decide) rfl (fun ls hl => ?_)
              have hl : lv_has ls 8 [(6, .int (nI (j + 1))), (5, .int ((bm_parts (bm_mkr T1.2.2 hd eb r) p9 r hp ((set &&& ((set &&& (bm_em (eb r))) ^^^ (-1))), (bm_own (set &&& (bm_em (eb r))) p9 Dd)) (j + 1)).1)), (7, .int (((bm_parts (bm_mkr T1.2.2 hd eb r) p9 r hp ((set &&& ((set &&& (bm_em (eb r))) ^^^ (-1))), (bm_own (set &&& (bm_em (eb r))) p9 Dd)) j).1 &&& (bm_mkr T1.2.2 hd eb r) j))), (0, .ref h), (1, .int (nI r)), (2, .int (nI p9)), (4, .int (nI hp))] := hl
              refine lv_goto hx hb d_Ref_arrive_235 (tgt := 83) (by decide) ?_
              have hon : bm_on p9 r j ((bm_parts (bm_mkr T1.2.2 hd eb r) p9 r hp ((set &&& ((set &&& (bm_em (eb r))) ^^^ (-1))), (bm_own (set &&& (bm_em (eb r))) p9 Dd)) j).1 &&& (bm_mkr T1.2.2 hd eb r) j) hp (bm_parts (bm_mkr T1.2.2 hd eb r) p9 r hp ((set &&& ((set &&& (bm_em (eb r))) ^^^ (-1))), (bm_own (set &&& (bm_em (eb r))) p9 Dd)) j).2 = ((bm_parts (bm_mkr T1.2.2 hd eb r) p9 r hp ((set &&& ((set &&& (bm_em (eb r))) ^^^ (-1))), (bm_own (set &&& (bm_em (eb r))) p9 Dd)) j).2.1, (bm_parts (bm_mkr T1.2.2 hd eb r) p9 r hp ((set &&& ((set &&& (bm_em (eb r))) ^^^ (-1))), (bm_own (set &&& (bm_em (eb r))) p9 Dd)) j).2.2.1, (bm_parts (bm_mkr T1.2.2 hd eb r) p9 r hp ((set &&& ((set &&& (bm_em (eb r))) ^^^ (-1))), (bm_own (set &&& (bm_em (eb r))) p9 Dd)) j).2.2.2.1, (bm_parts (bm_mkr T1.2.2 hd eb r) p9 r hp ((set &&& ((set &&& (bm_em (eb r))) ^^^ (-1))), (bm_own (set &&& (bm_em (eb r))) p9 Dd)) j).2.2.2.2.1 + 1, (bm_parts (bm_mkr T1.2.2 hd eb r) p9 r hp ((set &&& ((set &&& (bm_em (eb r))) ^^^ (-1))), (bm_own (set &&& (bm_em (eb r))) p9 Dd)) j).2.2.2.2.2) := if_pos (by omega)
              exact ih (j + 1) fJ fE fY H locs ls (by omega) (by rw [hst, hon]; exact hJ) (by rw [hst, hon]; exact hY) (by rw [hst, hon]; exact hP) (by rw [hst, hon]; exact hD) hS (lv_sub hl [0, 1, 3, 4, 5, 6] rfl)
          · refine lv_goto hx hb d_Ref_arrive_126 (tgt := 232) (by decide) ?_
            refine ri_iinc hx hb d_Ref_arrive_232 hl (k := 1) rfl (by decide) rfl (fun ls hl => ?_)
            have hl : lv_has ls 8 [(6, .int (nI (j + 1))), (7, .int (((bm_parts (bm_mkr T1.2.2 hd eb r) p9 r hp ((set &&& ((set &&& (bm_em (eb r))) ^^^ (-1))), (bm_own (set &&& (bm_em (eb r))) p9 Dd)) j).1 &&& (bm_mkr T1.2.2 hd eb r) j))), (5, .int ((bm_parts (bm_mkr T1.2.2 hd eb r) p9 r hp ((set &&& ((set &&& (bm_em (eb r))) ^^^ (-1))), (bm_own (set &&& (bm_em (eb r))) p9 Dd)) j).1)), (0, .ref h), (1, .int (nI r)), (2, .int (nI p9)), (4, .int (nI hp))] := hl
            refine lv_goto hx hb d_Ref_arrive_235 (tgt := 83) (by decide) ?_
            have hst : bm_parts (bm_mkr T1.2.2 hd eb r) p9 r hp ((set &&& ((set &&& (bm_em (eb r))) ^^^ (-1))), (bm_own (set &&& (bm_em (eb r))) p9 Dd)) (j + 1) = bm_parts (bm_mkr T1.2.2 hd eb r) p9 r hp ((set &&& ((set &&& (bm_em (eb r))) ^^^ (-1))), (bm_own (set &&& (bm_em (eb r))) p9 Dd)) j := if_pos h123
            exact ih (j + 1) fJ fE fY H locs ls (by omega) (by rw [hst]; exact hJ) (by rw [hst]; exact hY) (by rw [hst]; exact hP) (by rw [hst]; exact hD) hS (by rw [hst]; exact (lv_sub hl [0, 2, 3, 4, 5, 6] rfl))
        · refine lv_iload hx hb d_Ref_arrive_105 (lv_at hl 1 rfl) ?_
          refine lv_aload_n hx hb d_Ref_arrive_107 rfl (lv_at hl 2 rfl) ?_
          refine lv_iload_n hx hb d_Ref_arrive_108 rfl (lv_at hl 3 rfl) ?_
          refine lv_iload hx hb d_Ref_arrive_109 (lv_at hl 0 rfl) ?_
          refine ct_rdV (C := R_Ref) (ci := 9) (As := [.int (nI r), .int (nI j)]) (rest := [.int ((bm_parts (bm_mkr T1.2.2 hd eb r) p9 r hp ((set &&& ((set &&& (bm_em (eb r))) ^^^ (-1))), (bm_own (set &&& (bm_em (eb r))) p9 Dd)) j).1)]) ⟨hx, hb, hml, hown, ht⟩ (k_Ref_maskOf l D cI cZ cJ cG heb hdg hw9 r j hr9 (by omega)) (cb_V ht kc_Ref_maskOf kl_Ref_142 kn_Ref ki_Ref_maskOf ks_Ref_maskOf hd_Ref_maskOf ⟨Nat.le_of_ble_eq_true rfl, Nat.le_of_ble_eq_true rfl⟩) (List.mem_of_getElem? (i := 0) rfl) rfl rfl (wd_ct (Bs := [[rf_o h qs cd ma mn ca (((bm_parts (bm_mkr T1.2.2 hd eb r) p9 r hp ((set &&& ((set &&& (bm_em (eb r))) ^^^ (-1))), (bm_own (set &&& (bm_em (eb r))) p9 Dd)) j).2).2.1.2.1) na nn (((bm_parts (bm_mkr T1.2.2 hd eb r) p9 r hp ((set &&& ((set &&& (bm_em (eb r))) ^^^ (-1))), (bm_own (set &&& (bm_em (eb r))) p9 Dd)) j).2).1.2.1) (((bm_parts (bm_mkr T1.2.2 hd eb r) p9 r hp ((set &&& ((set &&& (bm_em (eb r))) ^^^ (-1))), (bm_own (set &&& (bm_em (eb r))) p9 Dd)) j).2).2.2.1) (((bm_parts (bm_mkr T1.2.2 hd eb r) p9 r hp ((set &&& ((set &&& (bm_em (eb r))) ^^^ (-1))), (bm_own (set &&& (bm_em (eb r))) p9 Dd)) j).2).2.2.2.1) (((bm_parts (bm_mkr T1.2.2 hd eb r) p9 r hp ((set &&& ((set &&& (bm_em (eb r))) ^^^ (-1))), (bm_own (set &&& (bm_em (eb r))) p9 Dd)) j).2).2.2.2.2) lm], [(qs 0, .inl (cI, 12, .inl (lI eb)))], [(qs 6, .inl (cJ, 1600, .inr (.inl fL)))], [(qs 7, .inl (cJ, 1600, .inr (.inl fH)))], [(qs 9, .inl (cI, 144, .inl (fl (sI hd))))], [(qs 11, .inl (cJ, 4000, .inr (.inl fJ)))], [(qs 16, .inl (cI, 901, .inl fE))], [(qs 17, .inl (cI, 901, .inl fY))], [(qs 18, .inl (cI, 144, .inl (fl (gN (vw0 T1.2.2 hd r)))))], [(qs 19, .inl (cI, 144, .inl (fl (gN (bn_far (vw0 T1.2.2 hd r))))))]]) 10 rfl [0, 1, 8, 9] [2, 3, 4, 5, 6, 7] (by decide) rfl) hK hP hD hS hA rfl hl.1 rfl (Nat.le_of_ble_eq_true rfl) ⟨(show 0 + 0 ≤ 0 by omega), (show 0 + 0 ≤ 0 by omega)⟩ d_Ref_arrive_111 (fun rhr109 H locs hr109 hP hD hS => ?_)
          have hz108 := hr109
          rw [hz108]
          refine W.eq (g2 := F0 m 114 ls [.int ((bm_mkr T1.2.2 hd eb r) j), .int ((bm_parts (bm_mkr T1.2.2 hd eb r) p9 r hp ((set &&& ((set &&& (bm_em (eb r))) ^^^ (-1))), (bm_own (set &&& (bm_em (eb r))) p9 Dd)) j).1)]) (congrArg (fun z => F0 m 114 ls (.int z :: [.int ((bm_parts (bm_mkr T1.2.2 hd eb r) p9 r hp ((set &&& ((set &&& (bm_em (eb r))) ^^^ (-1))), (bm_own (set &&& (bm_em (eb r))) p9 Dd)) j).1)])) (rfl)) ?_
          refine lv_iand hx hb d_Ref_arrive_114 ?_
          refine lv_goto hx hb d_Ref_arrive_115 (tgt := 119) (by decide) ?_
          refine W.eq (g2 := F0 m 119 ls [.int (((bm_parts (bm_mkr T1.2.2 hd eb r) p9 r hp ((set &&& ((set &&& (bm_em (eb r))) ^^^ (-1))), (bm_own (set &&& (bm_em (eb r))) p9 Dd)) j).1 &&& (bm_mkr T1.2.2 hd eb r) j))]) (congrArg (fun z => F0 m 119 ls (.int z :: [])) ((by first | rfl | (rw [show (bm_mkr T1.2.2 hd eb r) j = 0 from bm_mask_0 (show vw0 T1.2.2 hd r r j = 0 by omega) 12]; exact Int32.and_zero.symm)))) ?_
          refine lv_istore hx hb d_Ref_arrive_119 hl (by decide) rfl (fun ls hl => ?_)
          have hl : lv_has ls 8 [(7, .int (((bm_parts (bm_mkr T1.2.2 hd eb r) p9 r hp ((set &&& ((set &&& (bm_em (eb r))) ^^^ (-1))), (bm_own (set &&& (bm_em (eb r))) p9 Dd)) j).1 &&& (bm_mkr T1.2.2 hd eb r) j))), (6, .int (nI j)), (5, .int ((bm_parts (bm_mkr T1.2.2 hd eb r) p9 r hp ((set &&& ((set &&& (bm_em (eb r))) ^^^ (-1))), (bm_own (set &&& (bm_em (eb r))) p9 Dd)) j).1)), (0, .ref h), (1, .int (nI r)), (2, .int (nI p9)), (4, .int (nI hp))] := hl
          refine lv_iload hx hb d_Ref_arrive_121 (lv_at hl 0 rfl) ?_
          refine lv_if_ne hx hb d_Ref_arrive_123 (tgt := 129) (by decide) (fun h123 => ?_) (fun h123 => ?_)
          · have hst : bm_parts (bm_mkr T1.2.2 hd eb r) p9 r hp ((set &&& ((set &&& (bm_em (eb r))) ^^^ (-1))), (bm_own (set &&& (bm_em (eb r))) p9 Dd)) (j + 1) = ((bm_parts (bm_mkr T1.2.2 hd eb r) p9 r hp ((set &&& ((set &&& (bm_em (eb r))) ^^^ (-1))), (bm_own (set &&& (bm_em (eb r))) p9 Dd)) j).1 &&& (((bm_parts (bm_mkr T1.2.2 hd eb r) p9 r hp ((set &&& ((set &&& (bm_em (eb r))) ^^^ (-1))), (bm_own (set &&& (bm_em (eb r))) p9 Dd)) j).1 &&& (bm_mkr T1.2.2 hd eb r) j) ^^^ (-1)), bm_on p9 r j ((bm_parts (bm_mkr T1.2.2 hd eb r) p9 r hp ((set &&& ((set &&& (bm_em (eb r))) ^^^ (-1))), (bm_own (set &&& (bm_em (eb r))) p9 Dd)) j).1 &&& (bm_mkr T1.2.2 hd eb r) j) hp (bm_parts (bm_mkr T1.2.2 hd eb r) p9 r hp ((set &&& ((set &&& (bm_em (eb r))) ^^^ (-1))), (bm_own (set &&& (bm_em (eb r))) p9 Dd)) j).2) := if_neg h123
            refine lv_iload hx hb d_Ref_arrive_129 (lv_at hl 2 rfl) ?_
            refine lv_iload hx hb d_Ref_arrive_131 (lv_at hl 0 rfl) ?_
            refine lv_iconst (v := (-1)) hx hb d_Ref_arrive_133 (by decide) ?_
            refine lv_ixor hx hb d_Ref_arrive_134 ?_
            refine lv_iand hx hb d_Ref_arrive_135 ?_
            refine W.eq (g2 := F0 m 136 ls [.int ((bm_parts (bm_mkr T1.2.2 hd eb r) p9 r hp ((set &&& ((set &&& (bm_em (eb r))) ^^^ (-1))), (bm_own (set &&& (bm_em (eb r))) p9 Dd)) (j + 1)).1)]) (congrArg (fun z => F0 m 136 ls (.int z :: [])) (by rw [hst])) ?_
            refine lv_istore hx hb d_Ref_arrive_136 hl (by decide) rfl (fun ls hl => ?_)
            have hl : lv_has ls 8 [(5, .int ((bm_parts (bm_mkr T1.2.2 hd eb r) p9 r hp ((set &&& ((set &&& (bm_em (eb r))) ^^^ (-1))), (bm_own (set &&& (bm_em (eb r))) p9 Dd)) (j + 1)).1)), (7, .int (((bm_parts (bm_mkr T1.2.2 hd eb r) p9 r hp ((set &&& ((set &&& (bm_em (eb r))) ^^^ (-1))), (bm_own (set &&& (bm_em (eb r))) p9 Dd)) j).1 &&& (bm_mkr T1.2.2 hd eb r) j))), (6, .int (nI j)), (0, .ref h), (1, .int (nI r)), (2, .int (nI p9)), (4, .int (nI hp))] := hl
            refine lv_iload hx hb d_Ref_arrive_138 (lv_at hl 6 rfl) ?_
            refine lv_sipush (v := nI 255) hx hb d_Ref_arrive_140 (by decide) ?_
            refine ri_icmp_ne hx hb (by omega) (by omega) d_Ref_arrive_143 (tgt := 159) (by decide) (fun h143 => ?_) (fun h143 => ?_)
            · have hon : bm_on p9 r j ((bm_parts (bm_mkr T1.2.2 hd eb r) p9 r hp ((set &&& ((set &&& (bm_em (eb r))) ^^^ (-1))), (bm_own (set &&& (bm_em (eb r))) p9 Dd)) j).1 &&& (bm_mkr T1.2.2 hd eb r) j) hp (bm_parts (bm_mkr T1.2.2 hd eb r) p9 r hp ((set &&& ((set &&& (bm_em (eb r))) ^^^ (-1))), (bm_own (set &&& (bm_em (eb r))) p9 Dd)) j).2 = (bm_set (bm_parts (bm_mkr T1.2.2 hd eb r) p9 r hp ((set &&& ((set &&& (bm_em (eb r))) ^^^ (-1))), (bm_own (set &&& (bm_em (eb r))) p9 Dd)) j).2.1 (p9 - 1) 1 ((bm_parts (bm_mkr T1.2.2 hd eb r) p9 r hp ((set &&& ((set &&& (bm_em (eb r))) ^^^ (-1))), (bm_own (set &&& (bm_em (eb r))) p9 Dd)) j).2.1.2.2 (p9 - 1) 1 + 1), bm_push (bm_parts (bm_mkr T1.2.2 hd eb r) p9 r hp ((set &&& ((set &&& (bm_em (eb r))) ^^^ (-1))), (bm_own (set &&& (bm_em (eb r))) p9 Dd)) j).2.2.1 (bm_row5 (nI p9) (nI r) (nI j) ((bm_parts (bm_mkr T1.2.2 hd eb r) p9 r hp ((set &&& ((set &&& (bm_em (eb r))) ^^^ (-1))), (bm_own (set &&& (bm_em (eb r))) p9 Dd)) j).1 &&& (bm_mkr T1.2.2 hd eb r) j) (nI (hp + 1))), (bm_parts (bm_mkr T1.2.2 hd eb r) p9 r hp ((set &&& ((set &&& (bm_em (eb r))) ^^^ (-1))), (bm_own (set &&& (bm_em (eb r))) p9 Dd)) j).2.2.2.1, (bm_parts (bm_mkr T1.2.2 hd eb r) p9 r hp ((set &&& ((set &&& (bm_em (eb r))) ^^^ (-1))), (bm_own (set &&& (bm_em (eb r))) p9 Dd)) j).2.2.2.2.1, (bm_parts (bm_mkr T1.2.2 hd eb r) p9 r hp ((set &&& ((set &&& (bm_em (eb r))) ^^^ (-1))), (bm_own (set &&& (bm_em (eb r))) p9 Dd)) j).2.2.2.2.2) := if_neg (by omega)
              have hsj : (bm_parts (bm_mkr T1.2.2 hd eb r) p9 r hp ((set &&& ((set &&& (bm_em (eb r))) ^^^ (-1))), (bm_own (set &&& (bm_em (eb r))) p9 Dd)) (j + 1)).2.2.1.2.1 = (bm_parts (bm_mkr T1.2.2 hd eb r) p9 r hp ((set &&& ((set &&& (bm_em (eb r))) ^^^ (-1))), (bm_own (set &&& (bm_em (eb r))) p9 Dd)) j).2.2.1.2.1 + 1 := by rw [hst, hon]; rfl
              refine lv_aload_n hx hb d_Ref_arrive_159 rfl (lv_at hl 3 rfl) ?_
              refine va_get (D := D) (ci := 9) (v := .ref (qs 11)) (C := R_Ref) (T := T_Ref) (N := 32) hx hb ht in_Ref hown hK hP 0 rfl rfl 16 (by decide) (ht _ kl_Ref_45) (fun _ h9 => h9) rfl d_Ref_arrive_160 ?_
              refine lv_aload_n hx hb d_Ref_arrive_163 rfl (lv_at hl 3 rfl) ?_
              refine va_get (D := D) (ci := 9) (v := .int (nI ca)) (C := R_Ref) (T := T_Ref) (N := 32) hx hb ht in_Ref hown hK hP 0 rfl rfl 14 (by decide) (ht _ kl_Ref_172) (fun _ h9 => h9) rfl d_Ref_arrive_164 ?_
              refine lv_aload_n hx hb d_Ref_arrive_167 rfl (lv_at hl 3 rfl) ?_
              refine va_get (D := D) (ci := 9) (v := .int (nI (((bm_parts (bm_mkr T1.2.2 hd eb r) p9 r hp ((set &&& ((set &&& (bm_em (eb r))) ^^^ (-1))), (bm_own (set &&& (bm_em (eb r))) p9 Dd)) j).2).2.1.2.1))) (C := R_Ref) (T := T_Ref) (N := 32) hx hb ht in_Ref hown hK hP 0 rfl rfl 15 (by decide) (ht _ kl_Ref_175) (fun _ h9 => h9) rfl d_Ref_arrive_168 ?_
              refine ri_iadd hx hb d_Ref_arrive_171 ?_
              refine lv_sipush (v := nI 4000) hx hb d_Ref_arrive_172 (by decide) ?_
              refine ri_irem2 hx hb (by omega) (by omega) (by omega) d_Ref_arrive_175 ?_
              refine lv_iload_n hx hb d_Ref_arrive_176 rfl (lv_at hl 5 rfl) ?_
              refine lv_i2l (v := lN p9) hx hb d_Ref_arrive_177 (nI_l (by omega)) ?_
              refine lv_bipush (v := nI 48) hx hb d_Ref_arrive_178 (by decide) ?_
              refine ri_lshl2 hx hb (by omega) d_Ref_arrive_180 ?_
              refine lv_iload_n hx hb d_Ref_arrive_181 rfl (lv_at hl 4 rfl) ?_
              refine lv_i2l (v := lN r) hx hb d_Ref_arrive_182 (nI_l (by omega)) ?_
              refine lv_bipush (v := nI 44) hx hb d_Ref_arrive_183 (by decide) ?_
              refine ri_lshl2 hx hb (by omega) d_Ref_arrive_185 ?_
              refine ri_lor2 hx hb d_Ref_arrive_186 ?_
              refine lv_iload hx hb d_Ref_arrive_187 (lv_at hl 2 rfl) ?_
              refine lv_i2l (v := lN j) hx hb d_Ref_arrive_189 (nI_l (by omega)) ?_
              refine lv_bipush (v := nI 40) hx hb d_Ref_arrive_190 (by decide) ?_
              refine ri_lshl2 hx hb (by omega) d_Ref_arrive_192 ?_
              refine ri_lor2 hx hb d_Ref_arrive_193 ?_
              refine lv_iload hx hb d_Ref_arrive_194 (lv_at hl 6 rfl) ?_
              refine lv_iconst (v := nI 1) hx hb d_Ref_arrive_196 (by decide) ?_
              refine ri_iadd hx hb d_Ref_arrive_197 ?_
              refine lv_i2l (v := lN (hp + 1)) hx hb d_Ref_arrive_198 (nI_l (by omega)) ?_
              refine lv_bipush (v := nI 32) hx hb d_Ref_arrive_199 (by decide) ?_
              refine ri_lshl2 hx hb (by omega) d_Ref_arrive_201 ?_
              refine ri_lor2 hx hb d_Ref_arrive_202 ?_
              refine lv_iload hx hb d_Ref_arrive_203 (lv_at hl 1 rfl) ?_
              refine lv_i2l (v := (((bm_parts (bm_mkr T1.2.2 hd eb r) p9 r hp ((set &&& ((set &&& (bm_em (eb r))) ^^^ (-1))), (bm_own (set &&& (bm_em (eb r))) p9 Dd)) j).1 &&& (bm_mkr T1.2.2 hd eb r) j)).toInt64) hx hb d_Ref_arrive_205 rfl ?_
              refine lv_ldc2 (v := lN 4294967295) hx hb hown (ht _ kl_Ref_178) d_Ref_arrive_206 ?_
              refine lv_land hx hb d_Ref_arrive_209 ?_
              refine W.eq (g2 := F0 m 210 ls [.long (lN (((bm_parts (bm_mkr T1.2.2 hd eb r) p9 r hp ((set &&& ((set &&& (bm_em (eb r))) ^^^ (-1))), (bm_own (set &&& (bm_em (eb r))) p9 Dd)) j).1 &&& (bm_mkr T1.2.2 hd eb r) j).toUInt32.toNat)), .long (lN ((((p9 * 2 ^ 48) ||| (r * 2 ^ 44)) ||| (j * 2 ^ 40)) ||| ((hp + 1) * 2 ^ 32))), .int (nI ((ca + (((bm_parts (bm_mkr T1.2.2 hd eb r) p9 r hp ((set &&& ((set &&& (bm_em (eb r))) ^^^ (-1))), (bm_own (set &&& (bm_em (eb r))) p9 Dd)) j).2).2.1.2.1)) % 4000)), .ref (qs 11)]) (congrArg (fun z => F0 m 210 ls (.long z :: [.long (lN ((((p9 * 2 ^ 48) ||| (r * 2 ^ 44)) ||| (j * 2 ^ 40)) ||| ((hp + 1) * 2 ^ 32))), .int (nI ((ca + (((bm_parts (bm_mkr T1.2.2 hd eb r) p9 r hp ((set &&& ((set &&& (bm_em (eb r))) ^^^ (-1))), (bm_own (set &&& (bm_em (eb r))) p9 Dd)) j).2).2.1.2.1)) % 4000)), .ref (qs 11)])) (u32 _)) ?_
              refine ri_lor2 hx hb d_Ref_arrive_210 ?_
              refine W.eq (g2 := F0 m 211 ls [.long (lN (p9 * 2 ^ 48 + r * 2 ^ 44 + j * 2 ^ 40 + (hp + 1) * 2 ^ 32 + ((bm_parts (bm_mkr T1.2.2 hd eb r) p9 r hp ((set &&& ((set &&& (bm_em (eb r))) ^^^ (-1))), (bm_own (set &&& (bm_em (eb r))) p9 Dd)) j).1 &&& (bm_mkr T1.2.2 hd eb r) j).toUInt32.toNat)), .int (nI ((ca + (((bm_parts (bm_mkr T1.2.2 hd eb r) p9 r hp ((set &&& ((set &&& (bm_em (eb r))) ^^^ (-1))), (bm_own (set &&& (bm_em (eb r))) p9 Dd)) j).2).2.1.2.1)) % 4000)), .ref (qs 11)]) (congrArg (fun z => F0 m 211 ls (.long z :: [.int (nI ((ca + (((bm_parts (bm_mkr T1.2.2 hd eb r) p9 r hp ((set &&& ((set &&& (bm_em (eb r))) ^^^ (-1))), (bm_own (set &&& (bm_em (eb r))) p9 Dd)) j).2).2.1.2.1)) % 4000)), .ref (qs 11)])) (congrArg lN (cp_or (by omega) (by omega) (by omega) (tu32 _)))) ?_
              refine ri_last hx hb hK hP hD hS 5 2 rfl rfl (j := (ca + (((bm_parts (bm_mkr T1.2.2 hd eb r) p9 r hp ((set &&& ((set &&& (bm_em (eb r))) ^^^ (-1))), (bm_own (set &&& (bm_em (eb r))) p9 Dd)) j).2).2.1.2.1)) % 4000) (by omega) (by omega) d_Ref_arrive_211 (fun H locs hP hD hS => ?_)
              have hP : va_P D kls (List.flatten [[rf_o h qs cd ma mn ca (((bm_parts (bm_mkr T1.2.2 hd eb r) p9 r hp ((set &&& ((set &&& (bm_em (eb r))) ^^^ (-1))), (bm_own (set &&& (bm_em (eb r))) p9 Dd)) j).2).2.1.2.1) na nn (((bm_parts (bm_mkr T1.2.2 hd eb r) p9 r hp ((set &&& ((set &&& (bm_em (eb r))) ^^^ (-1))), (bm_own (set &&& (bm_em (eb r))) p9 Dd)) j).2).1.2.1) (((bm_parts (bm_mkr T1.2.2 hd eb r) p9 r hp ((set &&& ((set &&& (bm_em (eb r))) ^^^ (-1))), (bm_own (set &&& (bm_em (eb r))) p9 Dd)) j).2).2.2.1) (((bm_parts (bm_mkr T1.2.2 hd eb r) p9 r hp ((set &&& ((set &&& (bm_em (eb r))) ^^^ (-1))), (bm_own (set &&& (bm_em (eb r))) p9 Dd)) j).2).2.2.2.1) (((bm_parts (bm_mkr T1.2.2 hd eb r) p9 r hp ((set &&& ((set &&& (bm_em (eb r))) ^^^ (-1))), (bm_own (set &&& (bm_em (eb r))) p9 Dd)) j).2).2.2.2.2) lm], [(qs 0, .inl (cI, 12, .inl (lI eb)))], [(qs 6, .inl (cJ, 1600, .inr (.inl fL)))], [(qs 7, .inl (cJ, 1600, .inr (.inl fH)))], [(qs 9, .inl (cI, 144, .inl (fl (sI hd))))], [(qs 11, .inl (cJ, 4000, .inr (.inl (vp_updL fJ ((ca + (((bm_parts (bm_mkr T1.2.2 hd eb r) p9 r hp ((set &&& ((set &&& (bm_em (eb r))) ^^^ (-1))), (bm_own (set &&& (bm_em (eb r))) p9 Dd)) j).2).2.1.2.1)) % 4000) (lN (p9 * 2 ^ 48 + r * 2 ^ 44 + j * 2 ^ 40 + (hp + 1) * 2 ^ 32 + ((bm_parts (bm_mkr T1.2.2 hd eb r) p9 r hp ((set &&& ((set &&& (bm_em (eb r))) ^^^ (-1))), (bm_own (set &&& (bm_em (eb r))) p9 Dd)) j).1 &&& (bm_mkr T1.2.2 hd eb r) j).toUInt32.toNat))))))], [(qs 16, .inl (cI, 901, .inl fE))], [(qs 17, .inl (cI, 901, .inl fY))], [(qs 18, .inl (cI, 144, .inl (fl (gN (vw0 T1.2.2 hd r)))))], [(qs 19, .inl (cI, 144, .inl (fl (gN (bn_far (vw0 T1.2.2 hd r))))))]]) H := hP
              have hD : va_D A (List.flatten [[rf_o h qs cd ma mn ca (((bm_parts (bm_mkr T1.2.2 hd eb r) p9 r hp ((set &&& ((set &&& (bm_em (eb r))) ^^^ (-1))), (bm_own (set &&& (bm_em (eb r))) p9 Dd)) j).2).2.1.2.1) na nn (((bm_parts (bm_mkr T1.2.2 hd eb r) p9 r hp ((set &&& ((set &&& (bm_em (eb r))) ^^^ (-1))), (bm_own (set &&& (bm_em (eb r))) p9 Dd)) j).2).1.2.1) (((bm_parts (bm_mkr T1.2.2 hd eb r) p9 r hp ((set &&& ((set &&& (bm_em (eb r))) ^^^ (-1))), (bm_own (set &&& (bm_em (eb r))) p9 Dd)) j).2).2.2.1) (((bm_parts (bm_mkr T1.2.2 hd eb r) p9 r hp ((set &&& ((set &&& (bm_em (eb r))) ^^^ (-1))), (bm_own (set &&& (bm_em (eb r))) p9 Dd)) j).2).2.2.2.1) (((bm_parts (bm_mkr T1.2.2 hd eb r) p9 r hp ((set &&& ((set &&& (bm_em (eb r))) ^^^ (-1))), (bm_own (set &&& (bm_em (eb r))) p9 Dd)) j).2).2.2.2.2) lm], [(qs 0, .inl (cI, 12, .inl (lI eb)))], [(qs 6, .inl (cJ, 1600, .inr (.inl fL)))], [(qs 7, .inl (cJ, 1600, .inr (.inl fH)))], [(qs 9, .inl (cI, 144, .inl (fl (sI hd))))], [(qs 11, .inl (cJ, 4000, .inr (.inl (vp_updL fJ ((ca + (((bm_parts (bm_mkr T1.2.2 hd eb r) p9 r hp ((set &&& ((set &&& (bm_em (eb r))) ^^^ (-1))), (bm_own (set &&& (bm_em (eb r))) p9 Dd)) j).2).2.1.2.1)) % 4000) (lN (p9 * 2 ^ 48 + r * 2 ^ 44 + j * 2 ^ 40 + (hp + 1) * 2 ^ 32 + ((bm_parts (bm_mkr T1.2.2 hd eb r) p9 r hp ((set &&& ((set &&& (bm_em (eb r))) ^^^ (-1))), (bm_own (set &&& (bm_em (eb r))) p9 Dd)) j).1 &&& (bm_mkr T1.2.2 hd eb r) j).toUInt32.toNat))))))], [(qs 16, .inl (cI, 901, .inl fE))], [(qs 17, .inl (cI, 901, .inl fY))], [(qs 18, .inl (cI, 144, .inl (fl (gN (vw0 T1.2.2 hd r)))))], [(qs 19, .inl (cI, 144, .inl (fl (gN (bn_far (vw0 T1.2.2 hd r))))))]]) := hD
              refine lv_aload_n hx hb d_Ref_arrive_212 rfl (lv_at hl 3 rfl) ?_
              refine lv_dup hx hb d_Ref_arrive_213 rfl ?_
              refine va_get (D := D) (ci := 9) (v := .int (nI (((bm_parts (bm_mkr T1.2.2 hd eb r) p9 r hp ((set &&& ((set &&& (bm_em (eb r))) ^^^ (-1))), (bm_own (set &&& (bm_em (eb r))) p9 Dd)) j).2).2.1.2.1))) (C := R_Ref) (T := T_Ref) (N := 32) hx hb ht in_Ref hown hK hP 0 rfl rfl 15 (by decide) (ht _ kl_Ref_175) (fun _ h9 => h9) rfl d_Ref_arrive_214 ?_
              refine lv_iconst (v := nI 1) hx hb d_Ref_arrive_217 (by decide) ?_
              refine ri_iadd hx hb d_Ref_arrive_218 ?_
              refine va_put (D := D) (ci := 9) (v := .int (nI ((((bm_parts (bm_mkr T1.2.2 hd eb r) p9 r hp ((set &&& ((set &&& (bm_em (eb r))) ^^^ (-1))), (bm_own (set &&& (bm_em (eb r))) p9 Dd)) j).2).2.1.2.1) + 1))) (ty := .int) (C := R_Ref) (T := T_Ref) (N := 32) hx hb ht in_Ref t_Ref ok_Ref nm_Ref hown hK hP hD hS 0 rfl rfl 15 (by decide) (ht _ kl_Ref_175) (fun _ h9 => h9) rfl (by decide +kernel) rfl rfl (Nat.le_of_ble_eq_true rfl) d_Ref_arrive_219 (fun H locs hP hD hS => ?_)
              have hP : va_P D kls (List.flatten [[rf_o h qs cd ma mn ca ((((bm_parts (bm_mkr T1.2.2 hd eb r) p9 r hp ((set &&& ((set &&& (bm_em (eb r))) ^^^ (-1))), (bm_own (set &&& (bm_em (eb r))) p9 Dd)) j).2).2.1.2.1) + 1) na nn (((bm_parts (bm_mkr T1.2.2 hd eb r) p9 r hp ((set &&& ((set &&& (bm_em (eb r))) ^^^ (-1))), (bm_own (set &&& (bm_em (eb r))) p9 Dd)) j).2).1.2.1) (((bm_parts (bm_mkr T1.2.2 hd eb r) p9 r hp ((set &&& ((set &&& (bm_em (eb r))) ^^^ (-1))), (bm_own (set &&& (bm_em (eb r))) p9 Dd)) j).2).2.2.1) (((bm_parts (bm_mkr T1.2.2 hd eb r) p9 r hp ((set &&& ((set &&& (bm_em (eb r))) ^^^ (-1))), (bm_own (set &&& (bm_em (eb r))) p9 Dd)) j).2).2.2.2.1) (((bm_parts (bm_mkr T1.2.2 hd eb r) p9 r hp ((set &&& ((set &&& (bm_em (eb r))) ^^^ (-1))), (bm_own (set &&& (bm_em (eb r))) p9 Dd)) j).2).2.2.2.2) lm], [(qs 0, .inl (cI, 12, .inl (lI eb)))], [(qs 6, .inl (cJ, 1600, .inr (.inl fL)))], [(qs 7, .inl (cJ, 1600, .inr (.inl fH)))], [(qs 9, .inl (cI, 144, .inl (fl (sI hd))))], [(qs 11, .inl (cJ, 4000, .inr (.inl (vp_updL fJ ((ca + (((bm_parts (bm_mkr T1.2.2 hd eb r) p9 r hp ((set &&& ((set &&& (bm_em (eb r))) ^^^ (-1))), (bm_own (set &&& (bm_em (eb r))) p9 Dd)) j).2).2.1.2.1)) % 4000) (lN (p9 * 2 ^ 48 + r * 2 ^ 44 + j * 2 ^ 40 + (hp + 1) * 2 ^ 32 + ((bm_parts (bm_mkr T1.2.2 hd eb r) p9 r hp ((set &&& ((set &&& (bm_em (eb r))) ^^^ (-1))), (bm_own (set &&& (bm_em (eb r))) p9 Dd)) j).1 &&& (bm_mkr T1.2.2 hd eb r) j).toUInt32.toNat))))))], [(qs 16, .inl (cI, 901, .inl fE))], [(qs 17, .inl (cI, 901, .inl fY))], [(qs 18, .inl (cI, 144, .inl (fl (gN (vw0 T1.2.2 hd r)))))], [(qs 19, .inl (cI, 144, .inl (fl (gN (bn_far (vw0 T1.2.2 hd r))))))]]) H := hP
              have hD : va_D A (List.flatten [[rf_o h qs cd ma mn ca ((((bm_parts (bm_mkr T1.2.2 hd eb r) p9 r hp ((set &&& ((set &&& (bm_em (eb r))) ^^^ (-1))), (bm_own (set &&& (bm_em (eb r))) p9 Dd)) j).2).2.1.2.1) + 1) na nn (((bm_parts (bm_mkr T1.2.2 hd eb r) p9 r hp ((set &&& ((set &&& (bm_em (eb r))) ^^^ (-1))), (bm_own (set &&& (bm_em (eb r))) p9 Dd)) j).2).1.2.1) (((bm_parts (bm_mkr T1.2.2 hd eb r) p9 r hp ((set &&& ((set &&& (bm_em (eb r))) ^^^ (-1))), (bm_own (set &&& (bm_em (eb r))) p9 Dd)) j).2).2.2.1) (((bm_parts (bm_mkr T1.2.2 hd eb r) p9 r hp ((set &&& ((set &&& (bm_em (eb r))) ^^^ (-1))), (bm_own (set &&& (bm_em (eb r))) p9 Dd)) j).2).2.2.2.1) (((bm_parts (bm_mkr T1.2.2 hd eb r) p9 r hp ((set &&& ((set &&& (bm_em (eb r))) ^^^ (-1))), (bm_own (set &&& (bm_em (eb r))) p9 Dd)) j).2).2.2.2.2) lm], [(qs 0, .inl (cI, 12, .inl (lI eb)))], [(qs 6, .inl (cJ, 1600, .inr (.inl fL)))], [(qs 7, .inl (cJ, 1600, .inr (.inl fH)))], [(qs 9, .inl (cI, 144, .inl (fl (sI hd))))], [(qs 11, .inl (cJ, 4000, .inr (.inl (vp_updL fJ ((ca + (((bm_parts (bm_mkr T1.2.2 hd eb r) p9 r hp ((set &&& ((set &&& (bm_em (eb r))) ^^^ (-1))), (bm_own (set &&& (bm_em (eb r))) p9 Dd)) j).2).2.1.2.1)) % 4000) (lN (p9 * 2 ^ 48 + r * 2 ^ 44 + j * 2 ^ 40 + (hp + 1) * 2 ^ 32 + ((bm_parts (bm_mkr T1.2.2 hd eb r) p9 r hp ((set &&& ((set &&& (bm_em (eb r))) ^^^ (-1))), (bm_own (set &&& (bm_em (eb r))) p9 Dd)) j).1 &&& (bm_mkr T1.2.2 hd eb r) j).toUInt32.toNat))))))], [(qs 16, .inl (cI, 901, .inl fE))], [(qs 17, .inl (cI, 901, .inl fY))], [(qs 18, .inl (cI, 144, .inl (fl (gN (vw0 T1.2.2 hd r)))))], [(qs 19, .inl (cI, 144, .inl (fl (gN (bn_far (vw0 T1.2.2 hd r))))))]]) := hD
              refine lv_aload_n hx hb d_Ref_arrive_222 rfl (lv_at hl 3 rfl) ?_
              refine va_get (D := D) (ci := 9) (v := .ref (qs 17)) (C := R_Ref) (T := T_Ref) (N := 32) hx hb ht in_Ref hown hK hP 0 rfl rfl 25 (by decide) (ht _ kl_Ref_63) (fun _ h9 => h9) rfl d_Ref_arrive_223 ?_
              refine lv_iload_n hx hb d_Ref_arrive_226 rfl (lv_at hl 5 rfl) ?_
              refine lv_dup2_11 hx hb d_Ref_arrive_227 rfl rfl ?_
              refine ri_iald hx hb hK hP 7 0 rfl rfl (j := p9) (by omega) (by omega) d_Ref_arrive_228 ?_
              refine W.eq (g2 := F0 m 229 ls [.int ((bm_parts (bm_mkr T1.2.2 hd eb r) p9 r hp ((set &&& ((set &&& (bm_em (eb r))) ^^^ (-1))), (bm_own (set &&& (bm_em (eb r))) p9 Dd)) j).2.1.2.2 (p9 - 1) 1), .int (nI p9), .ref (qs 17)]) (congrArg (fun z => F0 m 229 ls (.int z :: [.int (nI p9), .ref (qs 17)])) ((hY p9 hp1 (by omega)).2.trans (if_pos (by omega)))) ?_
              refine lv_iconst (v := nI 1) hx hb d_Ref_arrive_229 (by decide) ?_
              refine lv_iadd hx hb d_Ref_arrive_230 ?_
              refine ri_iast hx hb hK hP hD hS 7 0 rfl rfl (j := p9) (by omega) (by omega) d_Ref_arrive_231 (fun H locs hP hD hS => ?_)
              have hP : va_P D kls (List.flatten [[rf_o h qs cd ma mn ca ((((bm_parts (bm_mkr T1.2.2 hd eb r) p9 r hp ((set &&& ((set &&& (bm_em (eb r))) ^^^ (-1))), (bm_own (set &&& (bm_em (eb r))) p9 Dd)) j).2).2.1.2.1) + 1) na nn (((bm_parts (bm_mkr T1.2.2 hd eb r) p9 r hp ((set &&& ((set &&& (bm_em (eb r))) ^^^ (-1))), (bm_own (set &&& (bm_em (eb r))) p9 Dd)) j).2).1.2.1) (((bm_parts (bm_mkr T1.2.2 hd eb r) p9 r hp ((set &&& ((set &&& (bm_em (eb r))) ^^^ (-1))), (bm_own (set &&& (bm_em (eb r))) p9 Dd)) j).2).2.2.1) (((bm_parts (bm_mkr T1.2.2 hd eb r) p9 r hp ((set &&& ((set &&& (bm_em (eb r))) ^^^ (-1))), (bm_own (set &&& (bm_em (eb r))) p9 Dd)) j).2).2.2.2.1) (((bm_parts (bm_mkr T1.2.2 hd eb r) p9 r hp ((set &&& ((set &&& (bm_em (eb r))) ^^^ (-1))), (bm_own (set &&& (bm_em (eb r))) p9 Dd)) j).2).2.2.2.2) lm], [(qs 0, .inl (cI, 12, .inl (lI eb)))], [(qs 6, .inl (cJ, 1600, .inr (.inl fL)))], [(qs 7, .inl (cJ, 1600, .inr (.inl fH)))], [(qs 9, .inl (cI, 144, .inl (fl (sI hd))))], [(qs 11, .inl (cJ, 4000, .inr (.inl (vp_updL fJ ((ca + (((bm_parts (bm_mkr T1.2.2 hd eb r) p9 r hp ((set &&& ((set &&& (bm_em (eb r))) ^^^ (-1))), (bm_own (set &&& (bm_em (eb r))) p9 Dd)) j).2).2.1.2.1)) % 4000) (lN (p9 * 2 ^ 48 + r * 2 ^ 44 + j * 2 ^ 40 + (hp + 1) * 2 ^ 32 + ((bm_parts (bm_mkr T1.2.2 hd eb r) p9 r hp ((set &&& ((set &&& (bm_em (eb r))) ^^^ (-1))), (bm_own (set &&& (bm_em (eb r))) p9 Dd)) j).1 &&& (bm_mkr T1.2.2 hd eb r) j).toUInt32.toNat))))))], [(qs 16, .inl (cI, 901, .inl fE))], [(qs 17, .inl (cI, 901, .inl (upd fY p9 (((bm_parts (bm_mkr T1.2.2 hd eb r) p9 r hp ((set &&& ((set &&& (bm_em (eb r))) ^^^ (-1))), (bm_own (set &&& (bm_em (eb r))) p9 Dd)) j).2.1.2.2 (p9 - 1) 1) + (nI 1)))))], [(qs 18, .inl (cI, 144, .inl (fl (gN (vw0 T1.2.2 hd r)))))], [(qs 19, .inl (cI, 144, .inl (fl (gN (bn_far (vw0 T1.2.2 hd r))))))]]) H := hP
              have hD : va_D A (List.flatten [[rf_o h qs cd ma mn ca ((((bm_parts (bm_mkr T1.2.2 hd eb r) p9 r hp ((set &&& ((set &&& (bm_em (eb r))) ^^^ (-1))), (bm_own (set &&& (bm_em (eb r))) p9 Dd)) j).2).2.1.2.1) + 1) na nn (((bm_parts (bm_mkr T1.2.2 hd eb r) p9 r hp ((set &&& ((set &&& (bm_em (eb r))) ^^^ (-1))), (bm_own (set &&& (bm_em (eb r))) p9 Dd)) j).2).1.2.1) (((bm_parts (bm_mkr T1.2.2 hd eb r) p9 r hp ((set &&& ((set &&& (bm_em (eb r))) ^^^ (-1))), (bm_own (set &&& (bm_em (eb r))) p9 Dd)) j).2).2.2.1) (((bm_parts (bm_mkr T1.2.2 hd eb r) p9 r hp ((set &&& ((set &&& (bm_em (eb r))) ^^^ (-1))), (bm_own (set &&& (bm_em (eb r))) p9 Dd)) j).2).2.2.2.1) (((bm_parts (bm_mkr T1.2.2 hd eb r) p9 r hp ((set &&& ((set &&& (bm_em (eb r))) ^^^ (-1))), (bm_own (set &&& (bm_em (eb r))) p9 Dd)) j).2).2.2.2.2) lm], [(qs 0, .inl (cI, 12, .inl (lI eb)))], [(qs 6, .inl (cJ, 1600, .inr (.inl fL)))], [(qs 7, .inl (cJ, 1600, .inr (.inl fH)))], [(qs 9, .inl (cI, 144, .inl (fl (sI hd))))], [(qs 11, .inl (cJ, 4000, .inr (.inl (vp_updL fJ ((ca + (((bm_parts (bm_mkr T1.2.2 hd eb r) p9 r hp ((set &&& ((set &&& (bm_em (eb r))) ^^^ (-1))), (bm_own (set &&& (bm_em (eb r))) p9 Dd)) j).2).2.1.2.1)) % 4000) (lN (p9 * 2 ^ 48 + r * 2 ^ 44 + j * 2 ^ 40 + (hp + 1) * 2 ^ 32 + ((bm_parts (bm_mkr T1.2.2 hd eb r) p9 r hp ((set &&& ((set &&& (bm_em (eb r))) ^^^ (-1))), (bm_own (set &&& (bm_em (eb r))) p9 Dd)) j).1 &&& (bm_mkr T1.2.2 hd eb r) j).toUInt32.toNat))))))], [(qs 16, .inl (cI, 901, .inl fE))], [(qs 17, .inl (cI, 901, .inl (upd fY p9 (((bm_parts (bm_mkr T1.2.2 hd eb r) p9 r hp ((set &&& ((set &&& (bm_em (eb r))) ^^^ (-1))), (bm_own (set &&& (bm_em (eb r))) p9 Dd)) j).2.1.2.2 (p9 - 1) 1) + (nI 1)))))], [(qs 18, .inl (cI, 144, .inl (fl (gN (vw0 T1.2.2 hd r)))))], [(qs 19, .inl (cI, 144, .inl (fl (gN (bn_far (vw0 T1.2.2 hd r))))))]]) := hD
              refine ri_iinc hx hb d_Ref_arrive_232 hl (k := 2) rfl (by decide) rfl (fun ls hl => ?_)
              have hl : lv_has ls 8 [(6, .int (nI (j + 1))), (5, .int ((bm_parts (bm_mkr T1.2.2 hd eb r) p9 r hp ((set &&& ((set &&& (bm_em (eb r))) ^^^ (-1))), (bm_own (set &&& (bm_em (eb r))) p9 Dd)) (j + 1)).1)), (7, .int (((bm_parts (bm_mkr T1.2.2 hd eb r) p9 r hp ((set &&& ((set &&& (bm_em (eb r))) ^^^ (-1))), (bm_own (set &&& (bm_em (eb r))) p9 Dd)) j).1 &&& (bm_mkr T1.2.2 hd eb r) j))), (0, .ref h), (1, .int (nI r)), (2, .int (nI p9)), (4, .int (nI hp))] := hl
              refine lv_goto hx hb d_Ref_arrive_235 (tgt := 83) (by decide) ?_
              have hJ2 := cr_push hJ (show (bm_parts (bm_mkr T1.2.2 hd eb r) p9 r hp ((set &&& ((set &&& (bm_em (eb r))) ^^^ (-1))), (bm_own (set &&& (bm_em (eb r))) p9 Dd)) j).2.2.1.2.1 < 4000 by omega) (row := bm_row5 (nI p9) (nI r) (nI j) ((bm_parts (bm_mkr T1.2.2 hd eb r) p9 r hp ((set &&& ((set &&& (bm_em (eb r))) ^^^ (-1))), (bm_own (set &&& (bm_em (eb r))) p9 Dd)) j).1 &&& (bm_mkr T1.2.2 hd eb r) j) (nI (hp + 1))) (v := lN (p9 * 2 ^ 48 + r * 2 ^ 44 + j * 2 ^ 40 + (hp + 1) * 2 ^ 32 + ((bm_parts (bm_mkr T1.2.2 hd eb r) p9 r hp ((set &&& ((set &&& (bm_em (eb r))) ^^^ (-1))), (bm_own (set &&& (bm_em (eb r))) p9 Dd)) j).1 &&& (bm_mkr T1.2.2 hd eb r) j).toUInt32.toNat)) ⟨p9, r, j, hp + 1, ⟨rfl, rfl, rfl, rfl⟩, hr9, by omega, hp1, by omega, by omega, rfl⟩
              exact ih (j + 1) _ fE _ H locs ls (by omega) (by rw [hst, hon]; exact hJ2) (by rw [hst, hon]; exact pd_set1 hY hp1 (by omega) _) (by rw [hst, hon]; exact hP) (by rw [hst, hon]; exact hD) hS (lv_sub hl [0, 1, 3, 4, 5, 6] rfl)
            · refine lv_aload_n hx hb d_Ref_arrive_146 rfl (lv_at hl 3 rfl) ?_
              refine lv_dup hx hb d_Ref_arrive_147 rfl ?_
              refine va_get (D := D) (ci := 9) (v := .int (((bm_parts (bm_mkr T1.2.2 hd eb r) p9 r hp ((set &&& ((set &&& (bm_em (eb r))) ^^^ (-1))), (bm_own (set &&& (bm_em (eb r))) p9 Dd)) j).2).2.2.2.1)) (C := R_Ref) (T := T_Ref) (N := 32) hx hb ht in_Ref hown hK hP 0 rfl rfl 27 (by decide) (ht _ kl_Ref_169) (fun _ h9 => h9) rfl d_Ref_arrive_148 ?_
              refine lv_iconst (v := nI 1) hx hb d_Ref_arrive_151 (by decide) ?_
              refine lv_iadd hx hb d_Ref_arrive_152 ?_
              refine va_put (D := D) (ci := 9) (v := .int ((((bm_parts (bm_mkr T1.2.2 hd eb r) p9 r hp ((set &&& ((set &&& (bm_em (eb r))) ^^^ (-1))), (bm_own (set &&& (bm_em (eb r))) p9 Dd)) j).2).2.2.2.1) + (nI 1))) (ty := .int) (C := R_Ref) (T := T_Ref) (N := 32) hx hb ht in_Ref t_Ref ok_Ref nm_Ref hown hK hP hD hS 0 rfl rfl 27 (by decide) (ht _ kl_Ref_169) (fun _ h9 => h9) rfl (by decide +kernel) rfl rfl (Nat.le_of_ble_eq_true rfl) d_Ref_arrive_153 (fun H locs hP hD hS => ?_)
              have hP : va_P D kls (List.flatten [[rf_o h qs cd ma mn ca (((bm_parts (bm_mkr T1.2.2 hd eb r) p9 r hp ((set &&& ((set &&& (bm_em (eb r))) ^^^ (-1))), (bm_own (set &&& (bm_em (eb r))) p9 Dd)) j).2).2.1.2.1) na nn (((bm_parts (bm_mkr T1.2.2 hd eb r) p9 r hp ((set &&& ((set &&& (bm_em (eb r))) ^^^ (-1))), (bm_own (set &&& (bm_em (eb r))) p9 Dd)) j).2).1.2.1) (((bm_parts (bm_mkr T1.2.2 hd eb r) p9 r hp ((set &&& ((set &&& (bm_em (eb r))) ^^^ (-1))), (bm_own (set &&& (bm_em (eb r))) p9 Dd)) j).2).2.2.1) ((((bm_parts (bm_mkr T1.2.2 hd eb r) p9 r hp ((set &&& ((set &&& (bm_em (eb r))) ^^^ (-1))), (bm_own (set &&& (bm_em (eb r))) p9 Dd)) j).2).2.2.2.1) + (nI 1)) (((bm_parts (bm_mkr T1.2.2 hd eb r) p9 r hp ((set &&& ((set &&& (bm_em (eb r))) ^^^ (-1))), (bm_own (set &&& (bm_em (eb r))) p9 Dd)) j).2).2.2.2.2) lm], [(qs 0, .inl (cI, 12, .inl (lI eb)))], [(qs 6, .inl (cJ, 1600, .inr (.inl fL)))], [(qs 7, .inl (cJ, 1600, .inr (.inl fH)))], [(qs 9, .inl (cI, 144, .inl (fl (sI hd))))], [(qs 11, .inl (cJ, 4000, .inr (.inl fJ)))], [(qs 16, .inl (cI, 901, .inl fE))], [(qs 17, .inl (cI, 901, .inl fY))], [(qs 18, .inl (cI, 144, .inl (fl (gN (vw0 T1.2.2 hd r)))))], [(qs 19, .inl (cI, 144, .inl (fl (gN (bn_far (vw0 T1.2.2 hd r))))))]]) H := hP
              have hD : va_D A (List.flatten [[rf_o h qs cd ma mn ca (((bm_parts (bm_mkr T1.2.2 hd eb r) p9 r hp ((set &&& ((set &&& (bm_em (eb r))) ^^^ (-1))), (bm_own (set &&& (bm_em (eb r))) p9 Dd)) j).2).2.1.2.1) na nn (((bm_parts (bm_mkr T1.2.2 hd eb r) p9 r hp ((set &&& ((set &&& (bm_em (eb r))) ^^^ (-1))), (bm_own (set &&& (bm_em (eb r))) p9 Dd)) j).2).1.2.1) (((bm_parts (bm_mkr T1.2.2 hd eb r) p9 r hp ((set &&& ((set &&& (bm_em (eb r))) ^^^ (-1))), (bm_own (set &&& (bm_em (eb r))) p9 Dd)) j).2).2.2.1) ((((bm_parts (bm_mkr T1.2.2 hd eb r) p9 r hp ((set &&& ((set &&& (bm_em (eb r))) ^^^ (-1))), (bm_own (set &&& (bm_em (eb r))) p9 Dd)) j).2).2.2.2.1) + (nI 1)) (((bm_parts (bm_mkr T1.2.2 hd eb r) p9 r hp ((set &&& ((set &&& (bm_em (eb r))) ^^^ (-1))), (bm_own (set &&& (bm_em (eb r))) p9 Dd)) j).2).2.2.2.2) lm], [(qs 0, .inl (cI, 12, .inl (lI eb)))], [(qs 6, .inl (cJ, 1600, .inr (.inl fL)))], [(qs 7, .inl (cJ, 1600, .inr (.inl fH)))], [(qs 9, .inl (cI, 144, .inl (fl (sI hd))))], [(qs 11, .inl (cJ, 4000, .inr (.inl fJ)))], [(qs 16, .inl (cI, 901, .inl fE))], [(qs 17, .inl (cI, 901, .inl fY))], [(qs 18, .inl (cI, 144, .inl (fl (gN (vw0 T1.2.2 hd r)))))], [(qs 19, .inl (cI, 144, .inl (fl (gN (bn_far (vw0 T1.2.2 hd r))))))]]) := hD
              refine lv_goto hx hb d_Ref_arrive_156 (tgt := 232) (by decide) ?_
              refine ri_iinc hx hb d_Ref_arrive_232 hl (k := 2) rfl (by decide) rfl (fun ls hl => ?_)
              have hl : lv_has ls 8 [(6, .int (nI (j + 1))), (5, .int ((bm_parts (bm_mkr T1.2.2 hd eb r) p9 r hp ((set &&& ((set &&& (bm_em (eb r))) ^^^ (-1))), (bm_own (set &&& (bm_em (eb r))) p9 Dd)) (j + 1)).1)), (7, .int (((bm_parts (bm_mkr T1.2.2 hd eb r) p9 r hp ((set &&& ((set &&& (bm_em (eb r))) ^^^ (-1))), (bm_own (set &&& (bm_em (eb r))) p9 Dd)) j).1 &&& (bm_mkr T1.2.2 hd eb r) j))), (0, .ref h), (1, .int (nI r)), (2, .int (nI p9)), (4, .int (nI hp))] := hl
              refine lv_goto hx hb d_Ref_arrive_235 (tgt := 83) (by decide) ?_
              have hon : bm_on p9 r j ((bm_parts (bm_mkr T1.2.2 hd eb r) p9 r hp ((set &&& ((set &&& (bm_em (eb r))) ^^^ (-1))), (bm_own (set &&& (bm_em (eb r))) p9 Dd)) j).1 &&& (bm_mkr T1.2.2 hd eb r) j) hp (bm_parts (bm_mkr T1.2.2 hd eb r) p9 r hp ((set &&& ((set &&& (bm_em (eb r))) ^^^ (-1))), (bm_own (set &&& (bm_em (eb r))) p9 Dd)) j).2 = ((bm_parts (bm_mkr T1.2.2 hd eb r) p9 r hp ((set &&& ((set &&& (bm_em (eb r))) ^^^ (-1))), (bm_own (set &&& (bm_em (eb r))) p9 Dd)) j).2.1, (bm_parts (bm_mkr T1.2.2 hd eb r) p9 r hp ((set &&& ((set &&& (bm_em (eb r))) ^^^ (-1))), (bm_own (set &&& (bm_em (eb r))) p9 Dd)) j).2.2.1, (bm_parts (bm_mkr T1.2.2 hd eb r) p9 r hp ((set &&& ((set &&& (bm_em (eb r))) ^^^ (-1))), (bm_own (set &&& (bm_em (eb r))) p9 Dd)) j).2.2.2.1, (bm_parts (bm_mkr T1.2.2 hd eb r) p9 r hp ((set &&& ((set &&& (bm_em (eb r))) ^^^ (-1))), (bm_own (set &&& (bm_em (eb r))) p9 Dd)) j).2.2.2.2.1 + 1, (bm_parts (bm_mkr T1.2.2 hd eb r) p9 r hp ((set &&& ((set &&& (bm_em (eb r))) ^^^ (-1))), (bm_own (set &&& (bm_em (eb r))) p9 Dd)) j).2.2.2.2.2) := if_pos (by omega)
              exact ih (j + 1) fJ fE fY H locs ls (by omega) (by rw [hst, hon]; exact hJ) (by rw [hst, hon]; exact hY) (by rw [hst, hon]; exact hP) (by rw [hst, hon]; exact hD) hS (lv_sub hl [0, 1, 3, 4, 5, 6] rfl)
          · refine lv_goto hx hb d_Ref_arrive_126 (tgt := 232) (by decide) ?_
            refine ri_iinc hx hb d_Ref_arrive_232 hl (k := 1) rfl (by decide) rfl (fun ls hl => ?_)
            have hl : lv_has ls 8 [(6, .int (nI (j + 1))), (7, .int (((bm_parts (bm_mkr T1.2.2 hd eb r) p9 r hp ((set &&& ((set &&& (bm_em (eb r))) ^^^ (-1))), (bm_own (set &&& (bm_em (eb r))) p9 Dd)) j).1 &&& (bm_mkr T1.2.2 hd eb r) j))), (5, .int ((bm_parts (bm_mkr T1.2.2 hd eb r) p9 r hp ((set &&& ((set &&& (bm_em (eb r))) ^^^ (-1))), (bm_own (set &&& (bm_em (eb r))) p9 Dd)) j).1)), (0, .ref h), (1, .int (nI r)), (2, .int (nI p9)), (4, .int (nI hp))] := hl
            refine lv_goto hx hb d_Ref_arrive_235 (tgt := 83) (by decide) ?_
            have hst : bm_parts (bm_mkr T1.2.2 hd eb r) p9 r hp ((set &&& ((set &&& (bm_em (eb r))) ^^^ (-1))), (bm_own (set &&& (bm_em (eb r))) p9 Dd)) (j + 1) = bm_parts (bm_mkr T1.2.2 hd eb r) p9 r hp ((set &&& ((set &&& (bm_em (eb r))) ^^^ (-1))), (bm_own (set &&& (bm_em (eb r))) p9 Dd)) j := if_pos h123
            exact ih (j + 1) fJ fE fY H locs ls (by omega) (by rw [hst]; exact hJ) (by rw [hst]; exact hY) (by rw [hst]; exact hP) (by rw [hst]; exact hD) hS (by rw [hst]; exact (lv_sub hl [0, 2, 3, 4, 5, 6] rfl))
  have cont : ∀ (fE : Nat → Int32) (H : Heap) (locs : List Loc) (ls : Array Slot), pd_R fE fX (bm_own (set &&& (bm_em (eb r))) p9 Dd).1 → va_P D kls (List.flatten [[rf_o h qs cd ma mn ca (((bm_own (set &&& (bm_em (eb r))) p9 Dd)).2.1.2.1) na nn (((bm_own (set &&& (bm_em (eb r))) p9 Dd)).1.2.1) (((bm_own (set &&& (bm_em (eb r))) p9 Dd)).2.2.1) (((bm_own (set &&& (bm_em (eb r))) p9 Dd)).2.2.2.1) (((bm_own (set &&& (bm_em (eb r))) p9 Dd)).2.2.2.2) lm], [(qs 0, .inl (cI, 12, .inl (lI eb)))], [(qs 6, .inl (cJ, 1600, .inr (.inl fL)))], [(qs 7, .inl (cJ, 1600, .inr (.inl fH)))], [(qs 9, .inl (cI, 144, .inl (fl (sI hd))))], [(qs 11, .inl (cJ, 4000, .inr (.inl fC)))], [(qs 16, .inl (cI, 901, .inl fE))], [(qs 17, .inl (cI, 901, .inl fX))], [(qs 18, .inl (cI, 144, .inl (fl MK)))], [(qs 19, .inl (cI, 144, .inl (fl MF)))]]) H → va_D A (List.flatten [[rf_o h qs cd ma mn ca (((bm_own (set &&& (bm_em (eb r))) p9 Dd)).2.1.2.1) na nn (((bm_own (set &&& (bm_em (eb r))) p9 Dd)).1.2.1) (((bm_own (set &&& (bm_em (eb r))) p9 Dd)).2.2.1) (((bm_own (set &&& (bm_em (eb r))) p9 Dd)).2.2.2.1) (((bm_own (set &&& (bm_em (eb r))) p9 Dd)).2.2.2.2) lm], [(qs 0, .inl (cI, 12, .inl (lI eb)))], [(qs 6, .inl (cJ, 1600, .inr (.inl fL)))], [(qs 7, .inl (cJ, 1600, .inr (.inl fH)))], [(qs 9, .inl (cI, 144, .inl (fl (sI hd))))], [(qs 11, .inl (cJ, 4000, .inr (.inl fC)))], [(qs 16, .inl (cI, 901, .inl fE))], [(qs 17, .inl (cI, 901, .inl fX))], [(qs 18, .inl (cI, 144, .inl (fl MK)))], [(qs 19, .inl (cI, 144, .inl (fl MF)))]]) → va_S A s.heap H locs → lv_has ls 8 [(5, .int ((set &&& ((set &&& (bm_em (eb r))) ^^^ (-1))))), (0, .ref h), (1, .int (nI r)), (2, .int (nI p9)), (4, .int (nI hp))] → W p l e (rm_ 2 50 0 0) s m args below meth c H locs 0 0 Q (F0 m 69 ls []) := by
    intro fE H locs ls hE hP hD hS hl
    refine lv_iload hx hb d_Ref_arrive_69 (lv_at hl 0 rfl) ?_
    refine lv_if_ne hx hb d_Ref_arrive_71 (tgt := 75) (by decide) (fun h71 => ?_) (fun h71 => ?_)
    · refine lv_aload_n hx hb d_Ref_arrive_75 rfl (lv_at hl 1 rfl) ?_
      refine lv_iload_n hx hb d_Ref_arrive_76 rfl (lv_at hl 2 rfl) ?_
      refine ct_callVV (C := R_Ref) (ci := 9) (As := [.int (nI r)]) (rest := []) ⟨hx, hb, hml, hown, ht⟩ (k_Ref_view l D cI cZ cJ cG hAd h00 hA9 hA1 r hr9 hh hdg hw9) (cb_V ht kc_Ref_view kl_Ref_139 kn_Ref ki_Ref_view ks_Ref_view hd_Ref_view ⟨Nat.le_of_ble_eq_true rfl, Nat.le_of_ble_eq_true rfl⟩) (List.mem_of_getElem? (i := 0) rfl) rfl rfl (wd_ct (Bs := [[rf_o h qs cd ma mn ca (((bm_own (set &&& (bm_em (eb r))) p9 Dd)).2.1.2.1) na nn (((bm_own (set &&& (bm_em (eb r))) p9 Dd)).1.2.1) (((bm_own (set &&& (bm_em (eb r))) p9 Dd)).2.2.1) (((bm_own (set &&& (bm_em (eb r))) p9 Dd)).2.2.2.1) (((bm_own (set &&& (bm_em (eb r))) p9 Dd)).2.2.2.2) lm], [(qs 0, .inl (cI, 12, .inl (lI eb)))], [(qs 6, .inl (cJ, 1600, .inr (.inl fL)))], [(qs 7, .inl (cJ, 1600, .inr (.inl fH)))], [(qs 9, .inl (cI, 144, .inl (fl (sI hd))))], [(qs 11, .inl (cJ, 4000, .inr (.inl fC)))], [(qs 16, .inl (cI, 901, .inl fE))], [(qs 17, .inl (cI, 901, .inl fX))], [(qs 18, .inl (cI, 144, .inl (fl MK)))], [(qs 19, .inl (cI, 144, .inl (fl MF)))]]) 10 rfl [0, 2, 3, 4, 8, 9] [1, 5, 6, 7] (by decide) rfl) hK hP hD hS hA rfl hl.1 rfl (Nat.le_of_ble_eq_true rfl) ⟨(show 0 + 0 ≤ 0 by omega), (show 0 + 0 ≤ 0 by omega)⟩ d_Ref_arrive_77 (fun u113 H locs hu113 hP hD hS => ?_)
      subst hu113
      refine W.widen (k := 0) (n := 0) (Nat.le_refl _) (Nat.le_refl _) ?_
      have hP := wd_nP (N := [[rf_o h qs cd ma mn ca (((bm_own (set &&& (bm_em (eb r))) p9 Dd)).2.1.2.1) na nn (((bm_own (set &&& (bm_em (eb r))) p9 Dd)).1.2.1) (((bm_own (set &&& (bm_em (eb r))) p9 Dd)).2.2.1) (((bm_own (set &&& (bm_em (eb r))) p9 Dd)).2.2.2.1) (((bm_own (set &&& (bm_em (eb r))) p9 Dd)).2.2.2.2) lm], [(qs 6, .inl (cJ, 1600, .inr (.inl fL)))], [(qs 7, .inl (cJ, 1600, .inr (.inl fH)))], [(qs 9, .inl (cI, 144, .inl (fl (sI hd))))], [(qs 18, .inl (cI, 144, .inl (fl (gN (vw0 T1.2.2 hd r)))))], [(qs 19, .inl (cI, 144, .inl (fl (gN (bn_far (vw0 T1.2.2 hd r))))))]]) rfl 10 rfl [0, 6, 1, 2, 3, 7, 8, 9, 4, 5] (by decide) hP
      have hD := wd_nD (N := [[rf_o h qs cd ma mn ca (((bm_own (set &&& (bm_em (eb r))) p9 Dd)).2.1.2.1) na nn (((bm_own (set &&& (bm_em (eb r))) p9 Dd)).1.2.1) (((bm_own (set &&& (bm_em (eb r))) p9 Dd)).2.2.1) (((bm_own (set &&& (bm_em (eb r))) p9 Dd)).2.2.2.1) (((bm_own (set &&& (bm_em (eb r))) p9 Dd)).2.2.2.2) lm], [(qs 6, .inl (cJ, 1600, .inr (.inl fL)))], [(qs 7, .inl (cJ, 1600, .inr (.inl fH)))], [(qs 9, .inl (cI, 144, .inl (fl (sI hd))))], [(qs 18, .inl (cI, 144, .inl (fl (gN (vw0 T1.2.2 hd r)))))], [(qs 19, .inl (cI, 144, .inl (fl (gN (bn_far (vw0 T1.2.2 hd r))))))]]) rfl 10 rfl [0, 6, 1, 2, 3, 7, 8, 9, 4, 5] (by decide) hD
      have hP : va_P D kls (List.flatten [[rf_o h qs cd ma mn ca (((bm_own (set &&& (bm_em (eb r))) p9 Dd)).2.1.2.1) na nn (((bm_own (set &&& (bm_em (eb r))) p9 Dd)).1.2.1) (((bm_own (set &&& (bm_em (eb r))) p9 Dd)).2.2.1) (((bm_own (set &&& (bm_em (eb r))) p9 Dd)).2.2.2.1) (((bm_own (set &&& (bm_em (eb r))) p9 Dd)).2.2.2.2) lm], [(qs 0, .inl (cI, 12, .inl (lI eb)))], [(qs 6, .inl (cJ, 1600, .inr (.inl fL)))], [(qs 7, .inl (cJ, 1600, .inr (.inl fH)))], [(qs 9, .inl (cI, 144, .inl (fl (sI hd))))], [(qs 11, .inl (cJ, 4000, .inr (.inl fC)))], [(qs 16, .inl (cI, 901, .inl fE))], [(qs 17, .inl (cI, 901, .inl fX))], [(qs 18, .inl (cI, 144, .inl (fl (gN (vw0 T1.2.2 hd r)))))], [(qs 19, .inl (cI, 144, .inl (fl (gN (bn_far (vw0 T1.2.2 hd r))))))]]) H := hP
      have hD : va_D A (List.flatten [[rf_o h qs cd ma mn ca (((bm_own (set &&& (bm_em (eb r))) p9 Dd)).2.1.2.1) na nn (((bm_own (set &&& (bm_em (eb r))) p9 Dd)).1.2.1) (((bm_own (set &&& (bm_em (eb r))) p9 Dd)).2.2.1) (((bm_own (set &&& (bm_em (eb r))) p9 Dd)).2.2.2.1) (((bm_own (set &&& (bm_em (eb r))) p9 Dd)).2.2.2.2) lm], [(qs 0, .inl (cI, 12, .inl (lI eb)))], [(qs 6, .inl (cJ, 1600, .inr (.inl fL)))], [(qs 7, .inl (cJ, 1600, .inr (.inl fH)))], [(qs 9, .inl (cI, 144, .inl (fl (sI hd))))], [(qs 11, .inl (cJ, 4000, .inr (.inl fC)))], [(qs 16, .inl (cI, 901, .inl fE))], [(qs 17, .inl (cI, 901, .inl fX))], [(qs 18, .inl (cI, 144, .inl (fl (gN (vw0 T1.2.2 hd r)))))], [(qs 19, .inl (cI, 144, .inl (fl (gN (bn_far (vw0 T1.2.2 hd r))))))]]) := hD
      refine W.eq (g2 := F0 m 80 ls []) rfl ?_
      refine lv_iconst (v := nI 0) hx hb d_Ref_arrive_80 (by decide) ?_
      refine lv_istore hx hb d_Ref_arrive_81 hl (by decide) rfl (fun ls hl => ?_)
      have hl : lv_has ls 8 [(6, .int (nI 0)), (5, .int ((set &&& ((set &&& (bm_em (eb r))) ^^^ (-1))))), (0, .ref h), (1, .int (nI r)), (2, .int (nI p9)), (4, .int (nI hp))] := hl
      exact loop 12 0 fC fE fX H locs ls (by omega) (by show cr_R (bm_own (set &&& (bm_em (eb r))) p9 Dd).1.2.1 fC ca (bm_own (set &&& (bm_em (eb r))) p9 Dd).2.1; rw [own_np, (bm_own_1 _ _ _).2.2]; exact hC) hE hP hD hS (lv_sub hl [0, 1, 2, 3, 4, 5] rfl)
    · have hz0 := handle_0 (eb := eb) (mk := (bm_mkr T1.2.2 hd eb r)) (p := p9) (h := hp) (D := Dd) h71
      exact ct_vret hQ hx hb hr hlk hP hD hS hK (by omega) (by omega) d_Ref_arrive_74 ⟨fC, fE, fX, MK, MF, by rw [hz0], by rw [hz0, own_np, (bm_own_1 _ _ _).2.2]; exact hC, by rw [hz0]; exact hE⟩
  refine lv_iload_n hx hb d_Ref_arrive_0 rfl (lv_at hl 3 rfl) ?_
  refine lv_istore hx hb d_Ref_arrive_1 hl (by decide) rfl (fun ls hl => ?_)
  have hl : lv_has ls 8 [(5, .int set), (0, .ref h), (1, .int (nI r)), (2, .int (nI p9)), (3, .int set), (4, .int (nI hp))] := hl
  refine lv_aload_n hx hb d_Ref_arrive_3 rfl (lv_at hl 1 rfl) ?_
  refine va_get (D := D) (ci := 9) (v := .ref (qs 0)) (C := R_Ref) (T := T_Ref) (N := 32) hx hb ht in_Ref hown hK hP 0 rfl rfl 1 (by decide) (ht _ kl_Ref_7) (fun _ h9 => h9) rfl d_Ref_arrive_4 ?_
  refine lv_iload_n hx hb d_Ref_arrive_7 rfl (lv_at hl 2 rfl) ?_
  refine ri_iald hx hb hK hP 1 0 rfl rfl (j := r) (by omega) (by omega) d_Ref_arrive_8 ?_
  refine W.eq (g2 := F0 m 9 ls [.int (bm_oI (eb r))]) rfl ?_
  refine lv_if_lt hx hb d_Ref_arrive_9 (tgt := 69) (by decide) (fun h9 => ?_) (fun h9 => ?_)
  · have ho0 : (set &&& (bm_em (eb r))) = 0 := by first | (rw [(oI_lt (fun b z => Nat.lt_trans (heb _ b z) (by decide))).mp h9]; exact Int32.and_zero) | (rw [hb9]; exact own_0 set hb32 h24)
    have hD1 : (bm_own (set &&& (bm_em (eb r))) p9 Dd) = Dd := if_pos ho0
    exact cont fD _ _ ls (by rw [hD1]; exact hPd) (by rw [hD1]; exact hP) (by rw [hD1]; exact hD) hS (by rw [← own_left (set := set) ho0]; exact (lv_sub hl [0, 1, 2, 3, 5] rfl))
  · obtain ⟨b, hb9⟩ : ∃ b, eb r = some b := by cases hq : eb r with | none => exact absurd ((oI_lt (fun b z => Nat.lt_trans (heb _ b z) (by decide))).mpr hq) h9 | some b => exact ⟨b, rfl⟩
    have hb32 := heb r b hb9
    have hoe : bm_oI (eb r) = nI b := by rw [hb9]; rfl
    refine lv_iload hx hb d_Ref_arrive_12 (lv_at hl 0 rfl) ?_
    refine lv_aload_n hx hb d_Ref_arrive_14 rfl (lv_at hl 1 rfl) ?_
    refine va_get (D := D) (ci := 9) (v := .ref (qs 0)) (C := R_Ref) (T := T_Ref) (N := 32) hx hb ht in_Ref hown hK hP 0 rfl rfl 1 (by decide) (ht _ kl_Ref_7) (fun _ h9 => h9) rfl d_Ref_arrive_15 ?_
    refine lv_iload_n hx hb d_Ref_arrive_18 rfl (lv_at hl 2 rfl) ?_
    refine ri_iald hx hb hK hP 1 0 rfl rfl (j := r) (by omega) (by omega) d_Ref_arrive_19 ?_
    refine W.eq (g2 := F0 m 20 ls [.int (bm_oI (eb r)), .int set]) rfl ?_
    refine W.eq (g2 := F0 m 20 ls [.int (nI b), .int set]) (congrArg (fun z => F0 m 20 ls (.int z :: [.int set])) (hoe)) ?_
    refine lv_ishr hx hb d_Ref_arrive_20 ?_
    refine lv_iconst (v := nI 1) hx hb d_Ref_arrive_21 (by decide) ?_
    refine lv_iand hx hb d_Ref_arrive_22 ?_
    refine lv_iconst (v := nI 1) hx hb d_Ref_arrive_23 (by decide) ?_
    refine lv_icmp_ne hx hb d_Ref_arrive_24 (tgt := 69) (by decide) (fun h24 => ?_) (fun h24 => ?_)
    · have ho0 : (set &&& (bm_em (eb r))) = 0 := by first | (rw [(oI_lt (fun b z => Nat.lt_trans (heb _ b z) (by decide))).mp h9]; exact Int32.and_zero) | (rw [hb9]; exact own_0 set hb32 h24)
      have hD1 : (bm_own (set &&& (bm_em (eb r))) p9 Dd) = Dd := if_pos ho0
      exact cont fD _ _ ls (by rw [hD1]; exact hPd) (by rw [hD1]; exact hP) (by rw [hD1]; exact hD) hS (by rw [← own_left (set := set) ho0]; exact (lv_sub hl [0, 1, 2, 3, 5] rfl))
    · have hown9 : (set &&& (bm_em (eb r))) = (bm_em (eb r)) := by rw [hb9]; exact own_1 set hb32 h24
      refine lv_aload_n hx hb d_Ref_arrive_27 rfl (lv_at hl 1 rfl) ?_
      refine va_get (D := D) (ci := 9) (v := .ref (qs 16)) (C := R_Ref) (T := T_Ref) (N := 32) hx hb ht in_Ref hown hK hP 0 rfl rfl 24 (by decide) (ht _ kl_Ref_60) (fun _ h9 => h9) rfl d_Ref_arrive_28 ?_
      refine lv_iload_n hx hb d_Ref_arrive_31 rfl (lv_at hl 3 rfl) ?_
      refine lv_dup2_11 hx hb d_Ref_arrive_32 rfl rfl ?_
      refine ri_iald hx hb hK hP 6 0 rfl rfl (j := p9) (by omega) (by omega) d_Ref_arrive_33 ?_
      refine W.eq (g2 := F0 m 34 ls [.int (Dd.1.2.2 (p9 - 1) 0), .int (nI p9), .ref (qs 16)]) (congrArg (fun z => F0 m 34 ls (.int z :: [.int (nI p9), .ref (qs 16)])) ((hPd p9 hp1 (by omega)).1.trans (if_pos hp2))) ?_
      refine lv_iconst (v := nI 1) hx hb d_Ref_arrive_34 (by decide) ?_
      refine lv_aload_n hx hb d_Ref_arrive_35 rfl (lv_at hl 1 rfl) ?_
      refine va_get (D := D) (ci := 9) (v := .ref (qs 0)) (C := R_Ref) (T := T_Ref) (N := 32) hx hb ht in_Ref hown hK hP 0 rfl rfl 1 (by decide) (ht _ kl_Ref_7) (fun _ h9 => h9) rfl d_Ref_arrive_36 ?_
      refine lv_iload_n hx hb d_Ref_arrive_39 rfl (lv_at hl 2 rfl) ?_
      refine ri_iald hx hb hK hP 1 0 rfl rfl (j := r) (by omega) (by omega) d_Ref_arrive_40 ?_
      refine W.eq (g2 := F0 m 41 ls [.int (bm_oI (eb r)), .int (nI 1), .int (Dd.1.2.2 (p9 - 1) 0), .int (nI p9), .ref (qs 16)]) rfl ?_
      refine lv_ishl hx hb d_Ref_arrive_41 ?_
      refine W.eq (g2 := F0 m 42 ls [.int ((set &&& (bm_em (eb r)))), .int (Dd.1.2.2 (p9 - 1) 0), .int (nI p9), .ref (qs 16)]) (congrArg (fun z => F0 m 42 ls (.int z :: [.int (Dd.1.2.2 (p9 - 1) 0), .int (nI p9), .ref (qs 16)])) ((em_of h9).trans hown9.symm)) ?_
      refine lv_ior hx hb d_Ref_arrive_42 ?_
      refine ri_iast hx hb hK hP hD hS 6 0 rfl rfl (j := p9) (by omega) (by omega) d_Ref_arrive_43 (fun H locs hP hD hS => ?_)
      have hP : va_P D kls (List.flatten [[rf_o h qs cd ma mn ca Dd.2.1.2.1 na nn Dd.1.2.1 Dd.2.2.1 Dd.2.2.2.1 Dd.2.2.2.2 lm], [(qs 0, .inl (cI, 12, .inl (lI eb)))], [(qs 6, .inl (cJ, 1600, .inr (.inl fL)))], [(qs 7, .inl (cJ, 1600, .inr (.inl fH)))], [(qs 9, .inl (cI, 144, .inl (fl (sI hd))))], [(qs 11, .inl (cJ, 4000, .inr (.inl fC)))], [(qs 16, .inl (cI, 901, .inl (upd fD p9 ((Dd.1.2.2 (p9 - 1) 0) ||| ((set &&& (bm_em (eb r))))))))], [(qs 17, .inl (cI, 901, .inl fX))], [(qs 18, .inl (cI, 144, .inl (fl MK)))], [(qs 19, .inl (cI, 144, .inl (fl MF)))]]) H := hP
      have hD : va_D A (List.flatten [[rf_o h qs cd ma mn ca Dd.2.1.2.1 na nn Dd.1.2.1 Dd.2.2.1 Dd.2.2.2.1 Dd.2.2.2.2 lm], [(qs 0, .inl (cI, 12, .inl (lI eb)))], [(qs 6, .inl (cJ, 1600, .inr (.inl fL)))], [(qs 7, .inl (cJ, 1600, .inr (.inl fH)))], [(qs 9, .inl (cI, 144, .inl (fl (sI hd))))], [(qs 11, .inl (cJ, 4000, .inr (.inl fC)))], [(qs 16, .inl (cI, 901, .inl (upd fD p9 ((Dd.1.2.2 (p9 - 1) 0) ||| ((set &&& (bm_em (eb r))))))))], [(qs 17, .inl (cI, 901, .inl fX))], [(qs 18, .inl (cI, 144, .inl (fl MK)))], [(qs 19, .inl (cI, 144, .inl (fl MF)))]]) := hD
      refine lv_aload_n hx hb d_Ref_arrive_44 rfl (lv_at hl 1 rfl) ?_
      refine lv_dup hx hb d_Ref_arrive_45 rfl ?_
      refine va_get (D := D) (ci := 9) (v := .int Dd.2.2.1) (C := R_Ref) (T := T_Ref) (N := 32) hx hb ht in_Ref hown hK hP 0 rfl rfl 26 (by decide) (ht _ kl_Ref_166) (fun _ h9 => h9) rfl d_Ref_arrive_46 ?_
      refine lv_iconst (v := nI 1) hx hb d_Ref_arrive_49 (by decide) ?_
      refine lv_iadd hx hb d_Ref_arrive_50 ?_
      refine va_put (D := D) (ci := 9) (v := .int (Dd.2.2.1 + (nI 1))) (ty := .int) (C := R_Ref) (T := T_Ref) (N := 32) hx hb ht in_Ref t_Ref ok_Ref nm_Ref hown hK hP hD hS 0 rfl rfl 26 (by decide) (ht _ kl_Ref_166) (fun _ h9 => h9) rfl (by decide +kernel) rfl rfl (Nat.le_of_ble_eq_true rfl) d_Ref_arrive_51 (fun H locs hP hD hS => ?_)
      have hP : va_P D kls (List.flatten [[rf_o h qs cd ma mn ca Dd.2.1.2.1 na nn Dd.1.2.1 (Dd.2.2.1 + (nI 1)) Dd.2.2.2.1 Dd.2.2.2.2 lm], [(qs 0, .inl (cI, 12, .inl (lI eb)))], [(qs 6, .inl (cJ, 1600, .inr (.inl fL)))], [(qs 7, .inl (cJ, 1600, .inr (.inl fH)))], [(qs 9, .inl (cI, 144, .inl (fl (sI hd))))], [(qs 11, .inl (cJ, 4000, .inr (.inl fC)))], [(qs 16, .inl (cI, 901, .inl (upd fD p9 ((Dd.1.2.2 (p9 - 1) 0) ||| ((set &&& (bm_em (eb r))))))))], [(qs 17, .inl (cI, 901, .inl fX))], [(qs 18, .inl (cI, 144, .inl (fl MK)))], [(qs 19, .inl (cI, 144, .inl (fl MF)))]]) H := hP
      have hD : va_D A (List.flatten [[rf_o h qs cd ma mn ca Dd.2.1.2.1 na nn Dd.1.2.1 (Dd.2.2.1 + (nI 1)) Dd.2.2.2.1 Dd.2.2.2.2 lm], [(qs 0, .inl (cI, 12, .inl (lI eb)))], [(qs 6, .inl (cJ, 1600, .inr (.inl fL)))], [(qs 7, .inl (cJ, 1600, .inr (.inl fH)))], [(qs 9, .inl (cI, 144, .inl (fl (sI hd))))], [(qs 11, .inl (cJ, 4000, .inr (.inl fC)))], [(qs 16, .inl (cI, 901, .inl (upd fD p9 ((Dd.1.2.2 (p9 - 1) 0) ||| ((set &&& (bm_em (eb r))))))))], [(qs 17, .inl (cI, 901, .inl fX))], [(qs 18, .inl (cI, 144, .inl (fl MK)))], [(qs 19, .inl (cI, 144, .inl (fl MF)))]]) := hD
      refine lv_iload hx hb d_Ref_arrive_54 (lv_at hl 0 rfl) ?_
      refine lv_iconst (v := nI 1) hx hb d_Ref_arrive_56 (by decide) ?_
      refine lv_aload_n hx hb d_Ref_arrive_57 rfl (lv_at hl 1 rfl) ?_
      refine va_get (D := D) (ci := 9) (v := .ref (qs 0)) (C := R_Ref) (T := T_Ref) (N := 32) hx hb ht in_Ref hown hK hP 0 rfl rfl 1 (by decide) (ht _ kl_Ref_7) (fun _ h9 => h9) rfl d_Ref_arrive_58 ?_
      refine lv_iload_n hx hb d_Ref_arrive_61 rfl (lv_at hl 2 rfl) ?_
      refine ri_iald hx hb hK hP 1 0 rfl rfl (j := r) (by omega) (by omega) d_Ref_arrive_62 ?_
      refine W.eq (g2 := F0 m 63 ls [.int (bm_oI (eb r)), .int (nI 1), .int set]) rfl ?_
      refine lv_ishl hx hb d_Ref_arrive_63 ?_
      refine W.eq (g2 := F0 m 64 ls [.int ((set &&& (bm_em (eb r)))), .int set]) (congrArg (fun z => F0 m 64 ls (.int z :: [.int set])) ((em_of h9).trans hown9.symm)) ?_
      refine lv_iconst (v := (-1)) hx hb d_Ref_arrive_64 (by decide) ?_
      refine lv_ixor hx hb d_Ref_arrive_65 ?_
      refine lv_iand hx hb d_Ref_arrive_66 ?_
      refine lv_istore hx hb d_Ref_arrive_67 hl (by decide) rfl (fun ls hl => ?_)
      have hl : lv_has ls 8 [(5, .int (set &&& (((set &&& (bm_em (eb r)))) ^^^ ((-1))))), (0, .ref h), (1, .int (nI r)), (2, .int (nI p9)), (3, .int set), (4, .int (nI hp))] := hl
      have hne : ¬ (set &&& (bm_em (eb r))) = 0 := by rw [hown9, hb9]; exact em_ne hb32
      have hD1 : (bm_own (set &&& (bm_em (eb r))) p9 Dd) = (bm_set Dd.1 (p9 - 1) 0 (Dd.1.2.2 (p9 - 1) 0 ||| (set &&& (bm_em (eb r)))), Dd.2.1, Dd.2.2.1 + 1, Dd.2.2.2.1, Dd.2.2.2.2) := if_neg hne
      exact cont _ H locs ls (by rw [hD1]; exact pd_set0 hPd hp1 hp2 _) (by rw [hD1]; exact hP) (by rw [hD1]; exact hD) hS (lv_sub hl [0, 1, 2, 3, 5] rfl)
theorem handle_np (eb : Nat → Option Nat) (mk : Nat → Int32) (p r : Nat) (set : Int32) (h : Nat) (D : bm_D) : (bm_handle eb mk p r set h D).1.2.1 = D.1.2.1 := (parts_np _ _ _ _ _ 12).trans (own_np _ _ _)
set_option maxHeartbeats 800000 in
set_option maxRecDepth 100000 in
theorem k_Ref_start (l : Launch) (D : va_G) (cI cZ cJ cG : ClassId) {h : Nat} {qs : Nat → Nat} {cd lm : Int32} {ma mn ca na nn : Nat} {T1 : bm_M Nat} {hd : Nat → Nat → Nat} {fL fH : Nat → Int64} {MK MF : Nat → Nat → Int32} {eb : Nat → Option Nat} {Dd : bm_D} {fC : Nat → Int64} {fD fX : Nat → Int32} (heb : ∀ r b, eb r = some b → b < 32) (hAd : ∀ k, k + 1 < T1.2.1 → fL k = lN (pkn (fun j => T1.2.2 (k + 1) (2 + j)) 6) ∧ fH k = lN (pkn (fun j => T1.2.2 (k + 1) (2 + (6 + j))) 6)) (h00 : ∀ j, T1.2.2 0 j = 0) (hA9 : T1.2.1 ≤ 1600) (hA1 : ∀ i j, i < T1.2.1 → j < 12 → T1.2.2 i (2 + j) ≤ 1000) (r : Nat) (hr9 : r < 12) (hh : ∀ x, x < 12 → hd r x < T1.2.1) (hdg : ∀ x, vw0 T1.2.2 hd r x x = 0) (hw9 : ∀ x y, vw0 T1.2.2 hd r x y ≤ 1023) (set : Int32) (hC : cr_R Dd.1.2.1 fC ca Dd.2.1) (hPd : pd_R fD fX Dd.1) (hpn : Dd.1.2.1 < 900) (hroom : Dd.2.1.2.1 + bm_would (bm_mkr T1.2.2 hd eb r) (set &&& ((bm_em (eb r)) ^^^ (-1))) 12 ≤ 4000) : ct_I l D kls (ty4 cI cZ cJ cG) y_Ref_start ws_Ref_start (rm_ 3 77 0 0) [.ref h, .int (nI r), .int set] (List.flatten [[rf_o h qs cd ma mn ca Dd.2.1.2.1 na nn Dd.1.2.1 Dd.2.2.1 Dd.2.2.2.1 Dd.2.2.2.2 lm], [(qs 0, .inl (cI, 12, .inl (lI eb)))], [(qs 6, .inl (cJ, 1600, .inr (.inl fL)))], [(qs 7, .inl (cJ, 1600, .inr (.inl fH)))], [(qs 9, .inl (cI, 144, .inl (fl (sI hd))))], [(qs 11, .inl (cJ, 4000, .inr (.inl fC)))], [(qs 16, .inl (cI, 901, .inl fD))], [(qs 17, .inl (cI, 901, .inl fX))], [(qs 18, .inl (cI, 144, .inl (fl MK)))], [(qs 19, .inl (cI, 144, .inl (fl MF)))]]) (fun z u => z = nI (Dd.1.2.1 + 1) ∧ ∃ fC2 fD2 fX2 MK2 MF2, u = List.flatten [[rf_o h qs cd ma mn ca ((bm_start eb (bm_mkr T1.2.2 hd eb r) r set Dd).2.1.2.1) na nn ((bm_start eb (bm_mkr T1.2.2 hd eb r) r set Dd).1.2.1) ((bm_start eb (bm_mkr T1.2.2 hd eb r) r set Dd).2.2.1) ((bm_start eb (bm_mkr T1.2.2 hd eb r) r set Dd).2.2.2.1) ((bm_start eb (bm_mkr T1.2.2 hd eb r) r set Dd).2.2.2.2) lm], [(qs 0, .inl (cI, 12, .inl (lI eb)))], [(qs 6, .inl (cJ, 1600, .inr (.inl fL)))], [(qs 7, .inl (cJ, 1600, .inr (.inl fH)))], [(qs 9, .inl (cI, 144, .inl (fl (sI hd))))], [(qs 11, .inl (cJ, 4000, .inr (.inl fC2)))], [(qs 16, .inl (cI, 901, .inl fD2))], [(qs 17, .inl (cI, 901, .inl fX2))], [(qs 18, .inl (cI, 144, .inl (fl MK2)))], [(qs 19, .inl (cI, 144, .inl (fl MF2)))]] ∧ cr_R (bm_start eb (bm_mkr T1.2.2 hd eb r) r set Dd).1.2.1 fC2 ca (bm_start eb (bm_mkr T1.2.2 hd eb r) r set Dd).2.1 ∧ pd_R fD2 fX2 (bm_start eb (bm_mkr T1.2.2 hd eb r) r set Dd).1) 0 0 := by
  refine ct_enterI (cc := b_Ref_start) (maxL := 3) (ret := (some .int)) (by decide +kernel) (Nat.le_of_ble_eq_true rfl) ?_
  intro p e s m args below meth c hx hb hml hr ht hown hlk hnm A Q hA hK hP hD hQ ls hl
  have hown : s.vm.findClass R_Ref = some m.cls := hown
  have hS : va_S A s.heap s.heap [] := va_S.rf
  have hl : lv_has ls 3 [(0, .ref h), (1, .int (nI r)), (2, .int set)] := hl
  have bC := hC.1
  have bW := would_le (bm_mkr T1.2.2 hd eb r) (set &&& ((bm_em (eb r)) ^^^ (-1))) 12
  refine lv_aload_n hx hb d_Ref_start_0 rfl (lv_at hl 0 rfl) ?_
  refine va_get (D := D) (ci := 9) (v := .int (nI Dd.1.2.1)) (C := R_Ref) (T := T_Ref) (N := 32) hx hb ht in_Ref hown hK hP 0 rfl rfl 23 (by decide) (ht _ kl_Ref_186) (fun _ h9 => h9) rfl d_Ref_start_1 ?_
  refine lv_sipush (v := nI 900) hx hb d_Ref_start_4 (by decide) ?_
  refine ri_icmp_eq hx hb (by omega) (by omega) d_Ref_start_7 (tgt := 27) (by decide) (fun h7 => ?_) (fun h7 => ?_)
  · exact absurd h7 (by omega)
  · refine lv_aload_n hx hb d_Ref_start_10 rfl (lv_at hl 0 rfl) ?_
    refine va_get (D := D) (ci := 9) (v := .int (nI Dd.2.1.2.1)) (C := R_Ref) (T := T_Ref) (N := 32) hx hb ht in_Ref hown hK hP 0 rfl rfl 15 (by decide) (ht _ kl_Ref_175) (fun _ h9 => h9) rfl d_Ref_start_11 ?_
    refine lv_aload_n hx hb d_Ref_start_14 rfl (lv_at hl 0 rfl) ?_
    refine lv_iload_n hx hb d_Ref_start_15 rfl (lv_at hl 1 rfl) ?_
    refine lv_iload_n hx hb d_Ref_start_16 rfl (lv_at hl 2 rfl) ?_
    refine ct_callVI (C := R_Ref) (ci := 9) (As := [.int (nI r), .int set]) (rest := [.int (nI Dd.2.1.2.1)]) ⟨hx, hb, hml, hown, ht⟩ (k_Ref_wouldSend l D cI cZ cJ cG heb hAd h00 hA9 hA1 r hr9 hh hdg hw9 set) (cb_V ht kc_Ref_wouldSend kl_Ref_189 kn_Ref ki_Ref_wouldSend ks_Ref_wouldSend hd_Ref_wouldSend ⟨Nat.le_of_ble_eq_true rfl, Nat.le_of_ble_eq_true rfl⟩) (List.mem_of_getElem? (i := 0) rfl) rfl rfl (wd_ct (Bs := [[rf_o h qs cd ma mn ca Dd.2.1.2.1 na nn Dd.1.2.1 Dd.2.2.1 Dd.2.2.2.1 Dd.2.2.2.2 lm], [(qs 0, .inl (cI, 12, .inl (lI eb)))], [(qs 6, .inl (cJ, 1600, .inr (.inl fL)))], [(qs 7, .inl (cJ, 1600, .inr (.inl fH)))], [(qs 9, .inl (cI, 144, .inl (fl (sI hd))))], [(qs 11, .inl (cJ, 4000, .inr (.inl fC)))], [(qs 16, .inl (cI, 901, .inl fD))], [(qs 17, .inl (cI, 901, .inl fX))], [(qs 18, .inl (cI, 144, .inl (fl MK)))], [(qs 19, .inl (cI, 144, .inl (fl MF)))]]) 10 rfl [0, 1, 2, 3, 4, 8, 9] [5, 6, 7] (by decide) rfl) hK hP hD hS hA rfl hl.1 rfl (Nat.le_of_ble_eq_true rfl) ⟨(show 0 + 0 ≤ 0 by omega), (show 0 + 0 ≤ 0 by omega)⟩ d_Ref_start_17 (fun ru102 u102 H locs hu102 hP hD hS => ?_)
    obtain ⟨hz9, rfl⟩ := hu102
    rw [hz9]
    refine W.widen (k := 0) (n := 0) (Nat.le_refl _) (Nat.le_refl _) ?_
    have hP := wd_nP (N := [[rf_o h qs cd ma mn ca Dd.2.1.2.1 na nn Dd.1.2.1 Dd.2.2.1 Dd.2.2.2.1 Dd.2.2.2.2 lm], [(qs 0, .inl (cI, 12, .inl (lI eb)))], [(qs 6, .inl (cJ, 1600, .inr (.inl fL)))], [(qs 7, .inl (cJ, 1600, .inr (.inl fH)))], [(qs 9, .inl (cI, 144, .inl (fl (sI hd))))], [(qs 18, .inl (cI, 144, .inl (fl (gN (vw0 T1.2.2 hd r)))))], [(qs 19, .inl (cI, 144, .inl (fl (gN (bn_far (vw0 T1.2.2 hd r))))))]]) rfl 10 rfl [0, 1, 2, 3, 4, 7, 8, 9, 5, 6] (by decide) hP
    have hD := wd_nD (N := [[rf_o h qs cd ma mn ca Dd.2.1.2.1 na nn Dd.1.2.1 Dd.2.2.1 Dd.2.2.2.1 Dd.2.2.2.2 lm], [(qs 0, .inl (cI, 12, .inl (lI eb)))], [(qs 6, .inl (cJ, 1600, .inr (.inl fL)))], [(qs 7, .inl (cJ, 1600, .inr (.inl fH)))], [(qs 9, .inl (cI, 144, .inl (fl (sI hd))))], [(qs 18, .inl (cI, 144, .inl (fl (gN (vw0 T1.2.2 hd r)))))], [(qs 19, .inl (cI, 144, .inl (fl (gN (bn_far (vw0 T1.2.2 hd r))))))]]) rfl 10 rfl [0, 1, 2, 3, 4, 7, 8, 9, 5, 6] (by decide) hD
    have hP : va_P D kls (List.flatten [[rf_o h qs cd ma mn ca Dd.2.1.2.1 na nn Dd.1.2.1 Dd.2.2.1 Dd.2.2.2.1 Dd.2.2.2.2 lm], [(qs 0, .inl (cI, 12, .inl (lI eb)))], [(qs 6, .inl (cJ, 1600, .inr (.inl fL)))], [(qs 7, .inl (cJ, 1600, .inr (.inl fH)))], [(qs 9, .inl (cI, 144, .inl (fl (sI hd))))], [(qs 11, .inl (cJ, 4000, .inr (.inl fC)))], [(qs 16, .inl (cI, 901, .inl fD))], [(qs 17, .inl (cI, 901, .inl fX))], [(qs 18, .inl (cI, 144, .inl (fl (gN (vw0 T1.2.2 hd r)))))], [(qs 19, .inl (cI, 144, .inl (fl (gN (bn_far (vw0 T1.2.2 hd r))))))]]) H := hP
    have hD : va_D A (List.flatten [[rf_o h qs cd ma mn ca Dd.2.1.2.1 na nn Dd.1.2.1 Dd.2.2.1 Dd.2.2.2.1 Dd.2.2.2.2 lm], [(qs 0, .inl (cI, 12, .inl (lI eb)))], [(qs 6, .inl (cJ, 1600, .inr (.inl fL)))], [(qs 7, .inl (cJ, 1600, .inr (.inl fH)))], [(qs 9, .inl (cI, 144, .inl (fl (sI hd))))], [(qs 11, .inl (cJ, 4000, .inr (.inl fC)))], [(qs 16, .inl (cI, 901, .inl fD))], [(qs 17, .inl (cI, 901, .inl fX))], [(qs 18, .inl (cI, 144, .inl (fl (gN (vw0 T1.2.2 hd r)))))], [(qs 19, .inl (cI, 144, .inl (fl (gN (bn_far (vw0 T1.2.2 hd r))))))]]) := hD
    refine W.eq (g2 := F0 m 20 ls [.int (nI (bm_would (bm_mkr T1.2.2 hd eb r) (set &&& ((bm_em (eb r)) ^^^ (-1))) 12)), .int (nI Dd.2.1.2.1)]) rfl ?_
    refine ri_iadd hx hb d_Ref_start_20 ?_
    refine lv_sipush (v := nI 4000) hx hb d_Ref_start_21 (by decide) ?_
    refine ri_icmp_le hx hb (by omega) (by omega) d_Ref_start_24 (tgt := 33) (by decide) (fun h24 => ?_) (fun h24 => ?_)
    · refine lv_aload_n hx hb d_Ref_start_33 rfl (lv_at hl 0 rfl) ?_
      refine lv_dup hx hb d_Ref_start_34 rfl ?_
      refine va_get (D := D) (ci := 9) (v := .int (nI Dd.1.2.1)) (C := R_Ref) (T := T_Ref) (N := 32) hx hb ht in_Ref hown hK hP 0 rfl rfl 23 (by decide) (ht _ kl_Ref_186) (fun _ h9 => h9) rfl d_Ref_start_35 ?_
      refine lv_iconst (v := nI 1) hx hb d_Ref_start_38 (by decide) ?_
      refine ri_iadd hx hb d_Ref_start_39 ?_
      refine va_put (D := D) (ci := 9) (v := .int (nI (Dd.1.2.1 + 1))) (ty := .int) (C := R_Ref) (T := T_Ref) (N := 32) hx hb ht in_Ref t_Ref ok_Ref nm_Ref hown hK hP hD hS 0 rfl rfl 23 (by decide) (ht _ kl_Ref_186) (fun _ h9 => h9) rfl (by decide +kernel) rfl rfl (Nat.le_of_ble_eq_true rfl) d_Ref_start_40 (fun H locs hP hD hS => ?_)
      have hP : va_P D kls (List.flatten [[rf_o h qs cd ma mn ca Dd.2.1.2.1 na nn (Dd.1.2.1 + 1) Dd.2.2.1 Dd.2.2.2.1 Dd.2.2.2.2 lm], [(qs 0, .inl (cI, 12, .inl (lI eb)))], [(qs 6, .inl (cJ, 1600, .inr (.inl fL)))], [(qs 7, .inl (cJ, 1600, .inr (.inl fH)))], [(qs 9, .inl (cI, 144, .inl (fl (sI hd))))], [(qs 11, .inl (cJ, 4000, .inr (.inl fC)))], [(qs 16, .inl (cI, 901, .inl fD))], [(qs 17, .inl (cI, 901, .inl fX))], [(qs 18, .inl (cI, 144, .inl (fl (gN (vw0 T1.2.2 hd r)))))], [(qs 19, .inl (cI, 144, .inl (fl (gN (bn_far (vw0 T1.2.2 hd r))))))]]) H := hP
      have hD : va_D A (List.flatten [[rf_o h qs cd ma mn ca Dd.2.1.2.1 na nn (Dd.1.2.1 + 1) Dd.2.2.1 Dd.2.2.2.1 Dd.2.2.2.2 lm], [(qs 0, .inl (cI, 12, .inl (lI eb)))], [(qs 6, .inl (cJ, 1600, .inr (.inl fL)))], [(qs 7, .inl (cJ, 1600, .inr (.inl fH)))], [(qs 9, .inl (cI, 144, .inl (fl (sI hd))))], [(qs 11, .inl (cJ, 4000, .inr (.inl fC)))], [(qs 16, .inl (cI, 901, .inl fD))], [(qs 17, .inl (cI, 901, .inl fX))], [(qs 18, .inl (cI, 144, .inl (fl (gN (vw0 T1.2.2 hd r)))))], [(qs 19, .inl (cI, 144, .inl (fl (gN (bn_far (vw0 T1.2.2 hd r))))))]]) := hD
      refine lv_aload_n hx hb d_Ref_start_43 rfl (lv_at hl 0 rfl) ?_
      refine lv_iload_n hx hb d_Ref_start_44 rfl (lv_at hl 1 rfl) ?_
      refine lv_aload_n hx hb d_Ref_start_45 rfl (lv_at hl 0 rfl) ?_
      refine va_get (D := D) (ci := 9) (v := .int (nI (Dd.1.2.1 + 1))) (C := R_Ref) (T := T_Ref) (N := 32) hx hb ht in_Ref hown hK hP 0 rfl rfl 23 (by decide) (ht _ kl_Ref_186) (fun _ h9 => h9) rfl d_Ref_start_46 ?_
      refine lv_iload_n hx hb d_Ref_start_49 rfl (lv_at hl 2 rfl) ?_
      refine lv_iconst (v := nI 0) hx hb d_Ref_start_50 (by decide) ?_
      have hpw := parts_would (bm_mkr T1.2.2 hd eb r) (Dd.1.2.1 + 1) r 0 (set &&& ((set &&& (bm_em (eb r))) ^^^ (-1))) (bm_own (set &&& (bm_em (eb r))) (Dd.1.2.1 + 1) (bm_push Dd.1 (fun _ => 0), Dd.2)) 12
      have hps : (bm_parts (bm_mkr T1.2.2 hd eb r) (Dd.1.2.1 + 1) r 0 ((set &&& ((set &&& (bm_em (eb r))) ^^^ (-1))), (bm_own (set &&& (bm_em (eb r))) (Dd.1.2.1 + 1) (bm_push Dd.1 (fun _ => 0), Dd.2))) 12).2.2.1.2.1 ≤ 4000 := by
        refine Nat.le_trans hpw.1 ?_
        rw [(bm_own_1 _ _ _).2.2, ref_clr set (fun b z => heb r b z)]
        exact hroom
      have hP : va_P D kls (List.flatten [[rf_o h qs cd ma mn ca (((bm_push Dd.1 (fun _ => 0), Dd.2)).2.1.2.1) na nn (((bm_push Dd.1 (fun _ => 0), Dd.2)).1.2.1) (((bm_push Dd.1 (fun _ => 0), Dd.2)).2.2.1) (((bm_push Dd.1 (fun _ => 0), Dd.2)).2.2.2.1) (((bm_push Dd.1 (fun _ => 0), Dd.2)).2.2.2.2) lm], [(qs 0, .inl (cI, 12, .inl (lI eb)))], [(qs 6, .inl (cJ, 1600, .inr (.inl fL)))], [(qs 7, .inl (cJ, 1600, .inr (.inl fH)))], [(qs 9, .inl (cI, 144, .inl (fl (sI hd))))], [(qs 11, .inl (cJ, 4000, .inr (.inl fC)))], [(qs 16, .inl (cI, 901, .inl fD))], [(qs 17, .inl (cI, 901, .inl fX))], [(qs 18, .inl (cI, 144, .inl (fl (gN (vw0 T1.2.2 hd r)))))], [(qs 19, .inl (cI, 144, .inl (fl (gN (bn_far (vw0 T1.2.2 hd r))))))]]) H := hP
      have hD : va_D A (List.flatten [[rf_o h qs cd ma mn ca (((bm_push Dd.1 (fun _ => 0), Dd.2)).2.1.2.1) na nn (((bm_push Dd.1 (fun _ => 0), Dd.2)).1.2.1) (((bm_push Dd.1 (fun _ => 0), Dd.2)).2.2.1) (((bm_push Dd.1 (fun _ => 0), Dd.2)).2.2.2.1) (((bm_push Dd.1 (fun _ => 0), Dd.2)).2.2.2.2) lm], [(qs 0, .inl (cI, 12, .inl (lI eb)))], [(qs 6, .inl (cJ, 1600, .inr (.inl fL)))], [(qs 7, .inl (cJ, 1600, .inr (.inl fH)))], [(qs 9, .inl (cI, 144, .inl (fl (sI hd))))], [(qs 11, .inl (cJ, 4000, .inr (.inl fC)))], [(qs 16, .inl (cI, 901, .inl fD))], [(qs 17, .inl (cI, 901, .inl fX))], [(qs 18, .inl (cI, 144, .inl (fl (gN (vw0 T1.2.2 hd r)))))], [(qs 19, .inl (cI, 144, .inl (fl (gN (bn_far (vw0 T1.2.2 hd r))))))]]) := hD
      refine ct_callVV (C := R_Ref) (ci := 9) (As := [.int (nI r), .int (nI (Dd.1.2.1 + 1)), .int set, .int (nI 0)]) (rest := []) ⟨hx, hb, hml, hown, ht⟩ (k_Ref_arrive l D cI cZ cJ cG (Dd := (bm_push Dd.1 (fun _ => 0), Dd.2)) heb hAd h00 hA9 hA1 r hr9 hh hdg hw9 (Dd.1.2.1 + 1) set 0 (cr_mono (Nat.le_succ _) hC) (pd_push hPd) (Nat.succ_le_succ (Nat.zero_le _)) (Nat.le_refl _) hpn (Nat.zero_le _) hps) (cb_V ht kc_Ref_arrive kl_Ref_192 kn_Ref ki_Ref_arrive ks_Ref_arrive hd_Ref_arrive ⟨Nat.le_of_ble_eq_true rfl, Nat.le_of_ble_eq_true rfl⟩) (List.mem_of_getElem? (i := 0) rfl) rfl rfl (wd_ct (Bs := [[rf_o h qs cd ma mn ca (((bm_push Dd.1 (fun _ => 0), Dd.2)).2.1.2.1) na nn (((bm_push Dd.1 (fun _ => 0), Dd.2)).1.2.1) (((bm_push Dd.1 (fun _ => 0), Dd.2)).2.2.1) (((bm_push Dd.1 (fun _ => 0), Dd.2)).2.2.2.1) (((bm_push Dd.1 (fun _ => 0), Dd.2)).2.2.2.2) lm], [(qs 0, .inl (cI, 12, .inl (lI eb)))], [(qs 6, .inl (cJ, 1600, .inr (.inl fL)))], [(qs 7, .inl (cJ, 1600, .inr (.inl fH)))], [(qs 9, .inl (cI, 144, .inl (fl (sI hd))))], [(qs 11, .inl (cJ, 4000, .inr (.inl fC)))], [(qs 16, .inl (cI, 901, .inl fD))], [(qs 17, .inl (cI, 901, .inl fX))], [(qs 18, .inl (cI, 144, .inl (fl (gN (vw0 T1.2.2 hd r)))))], [(qs 19, .inl (cI, 144, .inl (fl (gN (bn_far (vw0 T1.2.2 hd r))))))]]) 10 rfl [0, 1, 2, 3, 4, 5, 6, 7, 8, 9] [] (by decide) rfl) hK hP hD hS hA rfl hl.1 rfl (Nat.le_of_ble_eq_true rfl) ⟨(show 0 + 0 ≤ 0 by omega), (show 0 + 0 ≤ 0 by omega)⟩ d_Ref_start_51 (fun u104 H locs hu104 hP hD hS => ?_)
      obtain ⟨fC2, fD2, fX2, MK2, MF2, rfl, hC2, hD2⟩ := hu104
      refine W.widen (k := 0) (n := 0) (Nat.le_refl _) (Nat.le_refl _) ?_
      have hP := wd_nP (N := [[rf_o h qs cd ma mn ca ((bm_start eb (bm_mkr T1.2.2 hd eb r) r set Dd).2.1.2.1) na nn ((bm_start eb (bm_mkr T1.2.2 hd eb r) r set Dd).1.2.1) ((bm_start eb (bm_mkr T1.2.2 hd eb r) r set Dd).2.2.1) ((bm_start eb (bm_mkr T1.2.2 hd eb r) r set Dd).2.2.2.1) ((bm_start eb (bm_mkr T1.2.2 hd eb r) r set Dd).2.2.2.2) lm], [(qs 0, .inl (cI, 12, .inl (lI eb)))], [(qs 6, .inl (cJ, 1600, .inr (.inl fL)))], [(qs 7, .inl (cJ, 1600, .inr (.inl fH)))], [(qs 9, .inl (cI, 144, .inl (fl (sI hd))))], [(qs 11, .inl (cJ, 4000, .inr (.inl fC2)))], [(qs 16, .inl (cI, 901, .inl fD2))], [(qs 17, .inl (cI, 901, .inl fX2))], [(qs 18, .inl (cI, 144, .inl (fl MK2)))], [(qs 19, .inl (cI, 144, .inl (fl MF2)))]]) rfl 10 rfl [0, 1, 2, 3, 4, 5, 6, 7, 8, 9] (by decide) hP
      have hD := wd_nD (N := [[rf_o h qs cd ma mn ca ((bm_start eb (bm_mkr T1.2.2 hd eb r) r set Dd).2.1.2.1) na nn ((bm_start eb (bm_mkr T1.2.2 hd eb r) r set Dd).1.2.1) ((bm_start eb (bm_mkr T1.2.2 hd eb r) r set Dd).2.2.1) ((bm_start eb (bm_mkr T1.2.2 hd eb r) r set Dd).2.2.2.1) ((bm_start eb (bm_mkr T1.2.2 hd eb r) r set Dd).2.2.2.2) lm], [(qs 0, .inl (cI, 12, .inl (lI eb)))], [(qs 6, .inl (cJ, 1600, .inr (.inl fL)))], [(qs 7, .inl (cJ, 1600, .inr (.inl fH)))], [(qs 9, .inl (cI, 144, .inl (fl (sI hd))))], [(qs 11, .inl (cJ, 4000, .inr (.inl fC2)))], [(qs 16, .inl (cI, 901, .inl fD2))], [(qs 17, .inl (cI, 901, .inl fX2))], [(qs 18, .inl (cI, 144, .inl (fl MK2)))], [(qs 19, .inl (cI, 144, .inl (fl MF2)))]]) rfl 10 rfl [0, 1, 2, 3, 4, 5, 6, 7, 8, 9] (by decide) hD
      have hP : va_P D kls (List.flatten [[rf_o h qs cd ma mn ca ((bm_start eb (bm_mkr T1.2.2 hd eb r) r set Dd).2.1.2.1) na nn ((bm_start eb (bm_mkr T1.2.2 hd eb r) r set Dd).1.2.1) ((bm_start eb (bm_mkr T1.2.2 hd eb r) r set Dd).2.2.1) ((bm_start eb (bm_mkr T1.2.2 hd eb r) r set Dd).2.2.2.1) ((bm_start eb (bm_mkr T1.2.2 hd eb r) r set Dd).2.2.2.2) lm], [(qs 0, .inl (cI, 12, .inl (lI eb)))], [(qs 6, .inl (cJ, 1600, .inr (.inl fL)))], [(qs 7, .inl (cJ, 1600, .inr (.inl fH)))], [(qs 9, .inl (cI, 144, .inl (fl (sI hd))))], [(qs 11, .inl (cJ, 4000, .inr (.inl fC2)))], [(qs 16, .inl (cI, 901, .inl fD2))], [(qs 17, .inl (cI, 901, .inl fX2))], [(qs 18, .inl (cI, 144, .inl (fl MK2)))], [(qs 19, .inl (cI, 144, .inl (fl MF2)))]]) H := hP
      have hD : va_D A (List.flatten [[rf_o h qs cd ma mn ca ((bm_start eb (bm_mkr T1.2.2 hd eb r) r set Dd).2.1.2.1) na nn ((bm_start eb (bm_mkr T1.2.2 hd eb r) r set Dd).1.2.1) ((bm_start eb (bm_mkr T1.2.2 hd eb r) r set Dd).2.2.1) ((bm_start eb (bm_mkr T1.2.2 hd eb r) r set Dd).2.2.2.1) ((bm_start eb (bm_mkr T1.2.2 hd eb r) r set Dd).2.2.2.2) lm], [(qs 0, .inl (cI, 12, .inl (lI eb)))], [(qs 6, .inl (cJ, 1600, .inr (.inl fL)))], [(qs 7, .inl (cJ, 1600, .inr (.inl fH)))], [(qs 9, .inl (cI, 144, .inl (fl (sI hd))))], [(qs 11, .inl (cJ, 4000, .inr (.inl fC2)))], [(qs 16, .inl (cI, 901, .inl fD2))], [(qs 17, .inl (cI, 901, .inl fX2))], [(qs 18, .inl (cI, 144, .inl (fl MK2)))], [(qs 19, .inl (cI, 144, .inl (fl MF2)))]]) := hD
      refine W.eq (g2 := F0 m 54 ls []) rfl ?_
      refine lv_aload_n hx hb d_Ref_start_54 rfl (lv_at hl 0 rfl) ?_
      refine va_get (D := D) (ci := 9) (v := .int (nI ((bm_start eb (bm_mkr T1.2.2 hd eb r) r set Dd).1.2.1))) (C := R_Ref) (T := T_Ref) (N := 32) hx hb ht in_Ref hown hK hP 0 rfl rfl 23 (by decide) (ht _ kl_Ref_186) (fun _ h9 => h9) rfl d_Ref_start_55 ?_
      exact ct_iret hQ hx hb hr hlk hP hD hS hK (by omega) (by omega) d_Ref_start_58 (⟨congrArg nI (handle_np _ _ _ _ _ _ _), fC2, fD2, fX2, MK2, MF2, rfl, hC2, hD2⟩)
    · exact absurd h24 (by omega)
set_option maxHeartbeats 800000 in
set_option maxRecDepth 100000 in
theorem n_Ref_start (l : Launch) (D : va_G) (cI cZ cJ cG : ClassId) {h : Nat} {qs : Nat → Nat} {cd lm : Int32} {ma mn ca na nn : Nat} {T1 : bm_M Nat} {hd : Nat → Nat → Nat} {fL fH : Nat → Int64} {MK MF : Nat → Nat → Int32} {eb : Nat → Option Nat} {Dd : bm_D} {fC : Nat → Int64} {fD fX : Nat → Int32} (heb : ∀ r b, eb r = some b → b < 32) (hAd : ∀ k, k + 1 < T1.2.1 → fL k = lN (pkn (fun j => T1.2.2 (k + 1) (2 + j)) 6) ∧ fH k = lN (pkn (fun j => T1.2.2 (k + 1) (2 + (6 + j))) 6)) (h00 : ∀ j, T1.2.2 0 j = 0) (hA9 : T1.2.1 ≤ 1600) (hA1 : ∀ i j, i < T1.2.1 → j < 12 → T1.2.2 i (2 + j) ≤ 1000) (r : Nat) (hr9 : r < 12) (hh : ∀ x, x < 12 → hd r x < T1.2.1) (hdg : ∀ x, vw0 T1.2.2 hd r x x = 0) (hw9 : ∀ x y, vw0 T1.2.2 hd r x y ≤ 1023) (set : Int32) (hC : cr_R Dd.1.2.1 fC ca Dd.2.1) (hPd : pd_R fD fX Dd.1) (hp3 : Dd.1.2.1 ≤ 900) (hno : ¬ (Dd.1.2.1 < 900 ∧ Dd.2.1.2.1 + bm_would (bm_mkr T1.2.2 hd eb r) (set &&& ((bm_em (eb r)) ^^^ (-1))) 12 ≤ 4000)) (hcn : Dd.2.1.2.1 ≤ 4000) : ct_I l D kls (ty4 cI cZ cJ cG) y_Ref_start ws_Ref_start (rm_ 3 77 0 0) [.ref h, .int (nI r), .int set] (List.flatten [[rf_o h qs cd ma mn ca Dd.2.1.2.1 na nn Dd.1.2.1 Dd.2.2.1 Dd.2.2.2.1 Dd.2.2.2.2 lm], [(qs 0, .inl (cI, 12, .inl (lI eb)))], [(qs 6, .inl (cJ, 1600, .inr (.inl fL)))], [(qs 7, .inl (cJ, 1600, .inr (.inl fH)))], [(qs 9, .inl (cI, 144, .inl (fl (sI hd))))], [(qs 11, .inl (cJ, 4000, .inr (.inl fC)))], [(qs 16, .inl (cI, 901, .inl fD))], [(qs 17, .inl (cI, 901, .inl fX))], [(qs 18, .inl (cI, 144, .inl (fl MK)))], [(qs 19, .inl (cI, 144, .inl (fl MF)))]]) (fun z u => z = nI 0 ∧ ∃ MK2 MF2, u = List.flatten [[rf_o h qs (nI 1) ma mn ca Dd.2.1.2.1 na nn Dd.1.2.1 Dd.2.2.1 Dd.2.2.2.1 Dd.2.2.2.2 lm], [(qs 0, .inl (cI, 12, .inl (lI eb)))], [(qs 6, .inl (cJ, 1600, .inr (.inl fL)))], [(qs 7, .inl (cJ, 1600, .inr (.inl fH)))], [(qs 9, .inl (cI, 144, .inl (fl (sI hd))))], [(qs 11, .inl (cJ, 4000, .inr (.inl fC)))], [(qs 16, .inl (cI, 901, .inl fD))], [(qs 17, .inl (cI, 901, .inl fX))], [(qs 18, .inl (cI, 144, .inl (fl MK2)))], [(qs 19, .inl (cI, 144, .inl (fl MF2)))]]) 0 0 := by
  refine ct_enterI (cc := b_Ref_start) (maxL := 3) (ret := (some .int)) (by decide +kernel) (Nat.le_of_ble_eq_true rfl) ?_
  intro p e s m args below meth c hx hb hml hr ht hown hlk hnm A Q hA hK hP hD hQ ls hl
  have hown : s.vm.findClass R_Ref = some m.cls := hown
  have hS : va_S A s.heap s.heap [] := va_S.rf
  have hl : lv_has ls 3 [(0, .ref h), (1, .int (nI r)), (2, .int set)] := hl
  have bW := would_le (bm_mkr T1.2.2 hd eb r) (set &&& ((bm_em (eb r)) ^^^ (-1))) 12
  refine lv_aload_n hx hb d_Ref_start_0 rfl (lv_at hl 0 rfl) ?_
  refine va_get (D := D) (ci := 9) (v := .int (nI Dd.1.2.1)) (C := R_Ref) (T := T_Ref) (N := 32) hx hb ht in_Ref hown hK hP 0 rfl rfl 23 (by decide) (ht _ kl_Ref_186) (fun _ h9 => h9) rfl d_Ref_start_1 ?_
  refine lv_sipush (v := nI 900) hx hb d_Ref_start_4 (by decide) ?_
  refine ri_icmp_eq hx hb (by omega) (by omega) d_Ref_start_7 (tgt := 27) (by decide) (fun h7 => ?_) (fun h7 => ?_)
  · refine lv_aload_n hx hb d_Ref_start_27 rfl (lv_at hl 0 rfl) ?_
    refine lv_iconst (v := nI 1) hx hb d_Ref_start_28 (by decide) ?_
    refine ct_callVI (C := R_Ref) (ci := 9) (As := [.int (nI 1)]) (rest := []) ⟨hx, hb, hml, hown, ht⟩ (k_Ref_raise l D cI cZ cJ cG (nI 1)) (cb_V ht kc_Ref_raise kl_Ref_159 kn_Ref ki_Ref_raise ks_Ref_raise hd_Ref_raise ⟨Nat.le_of_ble_eq_true rfl, Nat.le_of_ble_eq_true rfl⟩) (List.mem_of_getElem? (i := 0) rfl) rfl rfl (wd_ct (Bs := [[rf_o h qs cd ma mn ca Dd.2.1.2.1 na nn Dd.1.2.1 Dd.2.2.1 Dd.2.2.2.1 Dd.2.2.2.2 lm], [(qs 0, .inl (cI, 12, .inl (lI eb)))], [(qs 6, .inl (cJ, 1600, .inr (.inl fL)))], [(qs 7, .inl (cJ, 1600, .inr (.inl fH)))], [(qs 9, .inl (cI, 144, .inl (fl (sI hd))))], [(qs 11, .inl (cJ, 4000, .inr (.inl fC)))], [(qs 16, .inl (cI, 901, .inl fD))], [(qs 17, .inl (cI, 901, .inl fX))], [(qs 18, .inl (cI, 144, .inl (fl MK)))], [(qs 19, .inl (cI, 144, .inl (fl MF)))]]) 10 rfl [0] [1, 2, 3, 4, 5, 6, 7, 8, 9] (by decide) rfl) hK hP hD hS hA rfl hl.1 rfl (Nat.le_of_ble_eq_true rfl) ⟨(show 0 + 0 ≤ 0 by omega), (show 0 + 0 ≤ 0 by omega)⟩ d_Ref_start_29 (fun ru102 u102 H locs hu102 hP hD hS => ?_)
    obtain ⟨rfl, rfl⟩ := hu102
    refine W.widen (k := 0) (n := 0) (Nat.le_refl _) (Nat.le_refl _) ?_
    have hP := wd_nP (N := [[rf_o h qs (nI 1) ma mn ca Dd.2.1.2.1 na nn Dd.1.2.1 Dd.2.2.1 Dd.2.2.2.1 Dd.2.2.2.2 lm]]) rfl 10 rfl [0, 1, 2, 3, 4, 5, 6, 7, 8, 9] (by decide) hP
    have hD := wd_nD (N := [[rf_o h qs (nI 1) ma mn ca Dd.2.1.2.1 na nn Dd.1.2.1 Dd.2.2.1 Dd.2.2.2.1 Dd.2.2.2.2 lm]]) rfl 10 rfl [0, 1, 2, 3, 4, 5, 6, 7, 8, 9] (by decide) hD
    have hP : va_P D kls (List.flatten [[rf_o h qs (nI 1) ma mn ca Dd.2.1.2.1 na nn Dd.1.2.1 Dd.2.2.1 Dd.2.2.2.1 Dd.2.2.2.2 lm], [(qs 0, .inl (cI, 12, .inl (lI eb)))], [(qs 6, .inl (cJ, 1600, .inr (.inl fL)))], [(qs 7, .inl (cJ, 1600, .inr (.inl fH)))], [(qs 9, .inl (cI, 144, .inl (fl (sI hd))))], [(qs 11, .inl (cJ, 4000, .inr (.inl fC)))], [(qs 16, .inl (cI, 901, .inl fD))], [(qs 17, .inl (cI, 901, .inl fX))], [(qs 18, .inl (cI, 144, .inl (fl MK)))], [(qs 19, .inl (cI, 144, .inl (fl MF)))]]) H := hP
    have hD : va_D A (List.flatten [[rf_o h qs (nI 1) ma mn ca Dd.2.1.2.1 na nn Dd.1.2.1 Dd.2.2.1 Dd.2.2.2.1 Dd.2.2.2.2 lm], [(qs 0, .inl (cI, 12, .inl (lI eb)))], [(qs 6, .inl (cJ, 1600, .inr (.inl fL)))], [(qs 7, .inl (cJ, 1600, .inr (.inl fH)))], [(qs 9, .inl (cI, 144, .inl (fl (sI hd))))], [(qs 11, .inl (cJ, 4000, .inr (.inl fC)))], [(qs 16, .inl (cI, 901, .inl fD))], [(qs 17, .inl (cI, 901, .inl fX))], [(qs 18, .inl (cI, 144, .inl (fl MK)))], [(qs 19, .inl (cI, 144, .inl (fl MF)))]]) := hD
    refine W.eq (g2 := F0 m 32 ls [.int (nI 0)]) rfl ?_
    exact ct_iret hQ hx hb hr hlk hP hD hS hK (by omega) (by omega) d_Ref_start_32 (⟨rfl, _, _, rfl⟩)
  · refine lv_aload_n hx hb d_Ref_start_10 rfl (lv_at hl 0 rfl) ?_
    refine va_get (D := D) (ci := 9) (v := .int (nI Dd.2.1.2.1)) (C := R_Ref) (T := T_Ref) (N := 32) hx hb ht in_Ref hown hK hP 0 rfl rfl 15 (by decide) (ht _ kl_Ref_175) (fun _ h9 => h9) rfl d_Ref_start_11 ?_
    refine lv_aload_n hx hb d_Ref_start_14 rfl (lv_at hl 0 rfl) ?_
    refine lv_iload_n hx hb d_Ref_start_15 rfl (lv_at hl 1 rfl) ?_
    refine lv_iload_n hx hb d_Ref_start_16 rfl (lv_at hl 2 rfl) ?_
    refine ct_callVI (C := R_Ref) (ci := 9) (As := [.int (nI r), .int set]) (rest := [.int (nI Dd.2.1.2.1)]) ⟨hx, hb, hml, hown, ht⟩ (k_Ref_wouldSend l D cI cZ cJ cG heb hAd h00 hA9 hA1 r hr9 hh hdg hw9 set) (cb_V ht kc_Ref_wouldSend kl_Ref_189 kn_Ref ki_Ref_wouldSend ks_Ref_wouldSend hd_Ref_wouldSend ⟨Nat.le_of_ble_eq_true rfl, Nat.le_of_ble_eq_true rfl⟩) (List.mem_of_getElem? (i := 0) rfl) rfl rfl (wd_ct (Bs := [[rf_o h qs cd ma mn ca Dd.2.1.2.1 na nn Dd.1.2.1 Dd.2.2.1 Dd.2.2.2.1 Dd.2.2.2.2 lm], [(qs 0, .inl (cI, 12, .inl (lI eb)))], [(qs 6, .inl (cJ, 1600, .inr (.inl fL)))], [(qs 7, .inl (cJ, 1600, .inr (.inl fH)))], [(qs 9, .inl (cI, 144, .inl (fl (sI hd))))], [(qs 11, .inl (cJ, 4000, .inr (.inl fC)))], [(qs 16, .inl (cI, 901, .inl fD))], [(qs 17, .inl (cI, 901, .inl fX))], [(qs 18, .inl (cI, 144, .inl (fl MK)))], [(qs 19, .inl (cI, 144, .inl (fl MF)))]]) 10 rfl [0, 1, 2, 3, 4, 8, 9] [5, 6, 7] (by decide) rfl) hK hP hD hS hA rfl hl.1 rfl (Nat.le_of_ble_eq_true rfl) ⟨(show 0 + 0 ≤ 0 by omega), (show 0 + 0 ≤ 0 by omega)⟩ d_Ref_start_17 (fun ru103 u103 H locs hu103 hP hD hS => ?_)
    obtain ⟨hz9, rfl⟩ := hu103
    rw [hz9]
    refine W.widen (k := 0) (n := 0) (Nat.le_refl _) (Nat.le_refl _) ?_
    have hP := wd_nP (N := [[rf_o h qs cd ma mn ca Dd.2.1.2.1 na nn Dd.1.2.1 Dd.2.2.1 Dd.2.2.2.1 Dd.2.2.2.2 lm], [(qs 0, .inl (cI, 12, .inl (lI eb)))], [(qs 6, .inl (cJ, 1600, .inr (.inl fL)))], [(qs 7, .inl (cJ, 1600, .inr (.inl fH)))], [(qs 9, .inl (cI, 144, .inl (fl (sI hd))))], [(qs 18, .inl (cI, 144, .inl (fl (gN (vw0 T1.2.2 hd r)))))], [(qs 19, .inl (cI, 144, .inl (fl (gN (bn_far (vw0 T1.2.2 hd r))))))]]) rfl 10 rfl [0, 1, 2, 3, 4, 7, 8, 9, 5, 6] (by decide) hP
    have hD := wd_nD (N := [[rf_o h qs cd ma mn ca Dd.2.1.2.1 na nn Dd.1.2.1 Dd.2.2.1 Dd.2.2.2.1 Dd.2.2.2.2 lm], [(qs 0, .inl (cI, 12, .inl (lI eb)))], [(qs 6, .inl (cJ, 1600, .inr (.inl fL)))], [(qs 7, .inl (cJ, 1600, .inr (.inl fH)))], [(qs 9, .inl (cI, 144, .inl (fl (sI hd))))], [(qs 18, .inl (cI, 144, .inl (fl (gN (vw0 T1.2.2 hd r)))))], [(qs 19, .inl (cI, 144, .inl (fl (gN (bn_far (vw0 T1.2.2 hd r))))))]]) rfl 10 rfl [0, 1, 2, 3, 4, 7, 8, 9, 5, 6] (by decide) hD
    have hP : va_P D kls (List.flatten [[rf_o h qs cd ma mn ca Dd.2.1.2.1 na nn Dd.1.2.1 Dd.2.2.1 Dd.2.2.2.1 Dd.2.2.2.2 lm], [(qs 0, .inl (cI, 12, .inl (lI eb)))], [(qs 6, .inl (cJ, 1600, .inr (.inl fL)))], [(qs 7, .inl (cJ, 1600, .inr (.inl fH)))], [(qs 9, .inl (cI, 144, .inl (fl (sI hd))))], [(qs 11, .inl (cJ, 4000, .inr (.inl fC)))], [(qs 16, .inl (cI, 901, .inl fD))], [(qs 17, .inl (cI, 901, .inl fX))], [(qs 18, .inl (cI, 144, .inl (fl (gN (vw0 T1.2.2 hd r)))))], [(qs 19, .inl (cI, 144, .inl (fl (gN (bn_far (vw0 T1.2.2 hd r))))))]]) H := hP
    have hD : va_D A (List.flatten [[rf_o h qs cd ma mn ca Dd.2.1.2.1 na nn Dd.1.2.1 Dd.2.2.1 Dd.2.2.2.1 Dd.2.2.2.2 lm], [(qs 0, .inl (cI, 12, .inl (lI eb)))], [(qs 6, .inl (cJ, 1600, .inr (.inl fL)))], [(qs 7, .inl (cJ, 1600, .inr (.inl fH)))], [(qs 9, .inl (cI, 144, .inl (fl (sI hd))))], [(qs 11, .inl (cJ, 4000, .inr (.inl fC)))], [(qs 16, .inl (cI, 901, .inl fD))], [(qs 17, .inl (cI, 901, .inl fX))], [(qs 18, .inl (cI, 144, .inl (fl (gN (vw0 T1.2.2 hd r)))))], [(qs 19, .inl (cI, 144, .inl (fl (gN (bn_far (vw0 T1.2.2 hd r))))))]]) := hD
    refine W.eq (g2 := F0 m 20 ls [.int (nI (bm_would (bm_mkr T1.2.2 hd eb r) (set &&& ((bm_em (eb r)) ^^^ (-1))) 12)), .int (nI Dd.2.1.2.1)]) rfl ?_
    refine ri_iadd hx hb d_Ref_start_20 ?_
    refine lv_sipush (v := nI 4000) hx hb d_Ref_start_21 (by decide) ?_
    refine ri_icmp_le hx hb (by omega) (by omega) d_Ref_start_24 (tgt := 33) (by decide) (fun h24 => ?_) (fun h24 => ?_)
    · exact absurd h24 (by omega)
    · refine lv_aload_n hx hb d_Ref_start_27 rfl (lv_at hl 0 rfl) ?_
      refine lv_iconst (v := nI 1) hx hb d_Ref_start_28 (by decide) ?_
      refine ct_callVI (C := R_Ref) (ci := 9) (As := [.int (nI 1)]) (rest := []) ⟨hx, hb, hml, hown, ht⟩ (k_Ref_raise l D cI cZ cJ cG (nI 1)) (cb_V ht kc_Ref_raise kl_Ref_159 kn_Ref ki_Ref_raise ks_Ref_raise hd_Ref_raise ⟨Nat.le_of_ble_eq_true rfl, Nat.le_of_ble_eq_true rfl⟩) (List.mem_of_getElem? (i := 0) rfl) rfl rfl (wd_ct (Bs := [[rf_o h qs cd ma mn ca Dd.2.1.2.1 na nn Dd.1.2.1 Dd.2.2.1 Dd.2.2.2.1 Dd.2.2.2.2 lm], [(qs 0, .inl (cI, 12, .inl (lI eb)))], [(qs 6, .inl (cJ, 1600, .inr (.inl fL)))], [(qs 7, .inl (cJ, 1600, .inr (.inl fH)))], [(qs 9, .inl (cI, 144, .inl (fl (sI hd))))], [(qs 11, .inl (cJ, 4000, .inr (.inl fC)))], [(qs 16, .inl (cI, 901, .inl fD))], [(qs 17, .inl (cI, 901, .inl fX))], [(qs 18, .inl (cI, 144, .inl (fl (gN (vw0 T1.2.2 hd r)))))], [(qs 19, .inl (cI, 144, .inl (fl (gN (bn_far (vw0 T1.2.2 hd r))))))]]) 10 rfl [0] [1, 2, 3, 4, 5, 6, 7, 8, 9] (by decide) rfl) hK hP hD hS hA rfl hl.1 rfl (Nat.le_of_ble_eq_true rfl) ⟨(show 0 + 0 ≤ 0 by omega), (show 0 + 0 ≤ 0 by omega)⟩ d_Ref_start_29 (fun ru105 u105 H locs hu105 hP hD hS => ?_)
      obtain ⟨rfl, rfl⟩ := hu105
      refine W.widen (k := 0) (n := 0) (Nat.le_refl _) (Nat.le_refl _) ?_
      have hP := wd_nP (N := [[rf_o h qs (nI 1) ma mn ca Dd.2.1.2.1 na nn Dd.1.2.1 Dd.2.2.1 Dd.2.2.2.1 Dd.2.2.2.2 lm]]) rfl 10 rfl [0, 1, 2, 3, 4, 5, 6, 7, 8, 9] (by decide) hP
      have hD := wd_nD (N := [[rf_o h qs (nI 1) ma mn ca Dd.2.1.2.1 na nn Dd.1.2.1 Dd.2.2.1 Dd.2.2.2.1 Dd.2.2.2.2 lm]]) rfl 10 rfl [0, 1, 2, 3, 4, 5, 6, 7, 8, 9] (by decide) hD
      have hP : va_P D kls (List.flatten [[rf_o h qs (nI 1) ma mn ca Dd.2.1.2.1 na nn Dd.1.2.1 Dd.2.2.1 Dd.2.2.2.1 Dd.2.2.2.2 lm], [(qs 0, .inl (cI, 12, .inl (lI eb)))], [(qs 6, .inl (cJ, 1600, .inr (.inl fL)))], [(qs 7, .inl (cJ, 1600, .inr (.inl fH)))], [(qs 9, .inl (cI, 144, .inl (fl (sI hd))))], [(qs 11, .inl (cJ, 4000, .inr (.inl fC)))], [(qs 16, .inl (cI, 901, .inl fD))], [(qs 17, .inl (cI, 901, .inl fX))], [(qs 18, .inl (cI, 144, .inl (fl (gN (vw0 T1.2.2 hd r)))))], [(qs 19, .inl (cI, 144, .inl (fl (gN (bn_far (vw0 T1.2.2 hd r))))))]]) H := hP
      have hD : va_D A (List.flatten [[rf_o h qs (nI 1) ma mn ca Dd.2.1.2.1 na nn Dd.1.2.1 Dd.2.2.1 Dd.2.2.2.1 Dd.2.2.2.2 lm], [(qs 0, .inl (cI, 12, .inl (lI eb)))], [(qs 6, .inl (cJ, 1600, .inr (.inl fL)))], [(qs 7, .inl (cJ, 1600, .inr (.inl fH)))], [(qs 9, .inl (cI, 144, .inl (fl (sI hd))))], [(qs 11, .inl (cJ, 4000, .inr (.inl fC)))], [(qs 16, .inl (cI, 901, .inl fD))], [(qs 17, .inl (cI, 901, .inl fX))], [(qs 18, .inl (cI, 144, .inl (fl (gN (vw0 T1.2.2 hd r)))))], [(qs 19, .inl (cI, 144, .inl (fl (gN (bn_far (vw0 T1.2.2 hd r))))))]]) := hD
      refine W.eq (g2 := F0 m 32 ls [.int (nI 0)]) rfl ?_
      exact ct_iret hQ hx hb hr hlk hP hD hS hK (by omega) (by omega) d_Ref_start_32 (⟨rfl, _, _, rfl⟩)
