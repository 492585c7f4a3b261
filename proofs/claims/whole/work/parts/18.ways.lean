/-! Ways in a view: walks, least weights, Floyd-Warshall's and Dijkstra's answers. Nothing of the machine stands here. -/
/-- a walk of n links from x to y, of weight d, over routers below 12 -/
def bn_wk (w : Nat → Nat → Nat) : Nat → Nat → Nat → Nat → Prop
  | 0, x, y, d => x = y ∧ d = 0
  | n + 1, x, y, d => ∃ u e, u < 12 ∧ y < 12 ∧ w u y ≠ 0 ∧ bn_wk w n x u e ∧ d = e + w u y
/-- d is the least weight of a walk from x to y -/
def bn_D (w : Nat → Nat → Nat) (x y d : Nat) : Prop := (∃ n, bn_wk w n x y d) ∧ ∀ n e, bn_wk w n x y e → d ≤ e
/-- no walk leads from x to y -/
def bn_N (w : Nat → Nat → Nat) (x y : Nat) : Prop := ∀ n e, ¬ bn_wk w n x y e
theorem bn_wk_app {w : Nat → Nat → Nat} {x y : Nat} {n a : Nat} (h : bn_wk w n x y a) : ∀ (m z b : Nat), bn_wk w m y z b → bn_wk w (n + m) x z (a + b)
  | 0, z, b, hb => by
    obtain ⟨rfl, rfl⟩ := hb
    exact h
  | m + 1, z, b, hb => by
    obtain ⟨u, e, hu, hz, hw, hk, rfl⟩ := hb
    exact ⟨u, a + e, hu, hz, hw, bn_wk_app h m u e hk, by omega⟩
theorem bn_wk_one {w : Nat → Nat → Nat} {x y : Nat} (hx : x < 12) (hy : y < 12) (hw : w x y ≠ 0) : bn_wk w 1 x y (w x y) := ⟨x, 0, hx, hy, hw, ⟨rfl, rfl⟩, by omega⟩
theorem bn_wk_snoc {w : Nat → Nat → Nat} {x u y : Nat} {n a : Nat} (h : bn_wk w n x u a) (hu : u < 12) (hy : y < 12) (hw : w u y ≠ 0) : bn_wk w (n + 1) x y (a + w u y) := ⟨u, a, hu, hy, hw, h, rfl⟩
theorem bn_D_eq {w : Nat → Nat → Nat} {x y d e : Nat} (h : bn_D w x y d) (k : bn_D w x y e) : d = e := by
  obtain ⟨⟨n, hn⟩, h2⟩ := h
  obtain ⟨⟨m, hm⟩, k2⟩ := k
  have a := h2 m e hm
  have b := k2 n d hn
  omega
theorem bn_D_not {w : Nat → Nat → Nat} {x y d : Nat} (h : bn_D w x y d) (k : bn_N w x y) : False := by
  obtain ⟨⟨n, hn⟩, -⟩ := h
  exact k n d hn
/-! ### Floyd-Warshall -/
/-- one phase -/
def bn_ph (k : Nat) (F : Nat → Nat → Nat) : Nat → Nat → Nat := fun a b => if F a k + F k b < F a b then F a k + F k b else F a b
def bn_fw (F : Nat → Nat → Nat) : Nat → Nat → Nat → Nat
  | 0 => F
  | k + 1 => bn_ph k (bn_fw F k)
def bn_f0 (w : Nat → Nat → Nat) : Nat → Nat → Nat := fun x y => if x = y then 0 else if w x y > 0 then w x y else 1000000
/-- what the phases keep -/
def bn_FI (w : Nat → Nat → Nat) (k : Nat) (F : Nat → Nat → Nat) : Prop :=
  (∀ x y, F x y ≤ 1000000) ∧ (∀ x, F x x = 0) ∧ (∀ x y, x < 12 → y < 12 → w x y ≠ 0 → F x y ≤ w x y) ∧
  (∀ x y, x < 12 → y < 12 → F x y < 1000000 → ∃ n, bn_wk w n x y (F x y)) ∧ (∀ j, j < k → ∀ x y, F x y ≤ F x j + F j y)
theorem bn_FI_0 {w : Nat → Nat → Nat} (hd : ∀ x, w x x = 0) (hw : ∀ x y, w x y ≤ 1023) : bn_FI w 0 (bn_f0 w) := by
  refine ⟨fun x y => ?_, fun x => ?_, fun x y hx hy h => ?_, fun x y hx hy h => ?_, fun j hj => absurd hj (Nat.not_lt_zero j)⟩
  · have := hw x y
    unfold bn_f0
    split
    · omega
    · split <;> omega
  · unfold bn_f0
    rw [if_pos rfl]
  · unfold bn_f0
    split
    · omega
    · split <;> omega
  · unfold bn_f0 at h ⊢
    split at h
    · rename_i e
      subst e
      rw [if_pos rfl]
      exact ⟨0, rfl, rfl⟩
    · rename_i e
      rw [if_neg e]
      split at h
      · rename_i g
        rw [if_pos g]
        exact ⟨1, bn_wk_one hx hy (by omega)⟩
      · omega
theorem bn_FI_s {w : Nat → Nat → Nat} {k : Nat} {F : Nat → Nat → Nat} (hk : k < 12) (h : bn_FI w k F) : bn_FI w (k + 1) (bn_ph k F) := by
  obtain ⟨h1, h2, h3, h4, h5⟩ := h
  have hle : ∀ x y, bn_ph k F x y ≤ F x y := fun x y => by
    unfold bn_ph
    split <;> omega
  have hle2 : ∀ x y, bn_ph k F x y ≤ F x k + F k y := fun x y => by
    unfold bn_ph
    split <;> omega
  have hor : ∀ x y, bn_ph k F x y = F x y ∨ bn_ph k F x y = F x k + F k y := fun x y => by
    unfold bn_ph
    split
    · exact Or.inr rfl
    · exact Or.inl rfl
  have hrow : ∀ y, bn_ph k F k y = F k y := fun y => by
    have := h2 k
    unfold bn_ph
    split <;> omega
  have hcol : ∀ x, bn_ph k F x k = F x k := fun x => by
    have := h2 k
    unfold bn_ph
    split <;> omega
  refine ⟨fun x y => Nat.le_trans (hle x y) (h1 x y), fun x => ?_, fun x y hx hy hw => Nat.le_trans (hle x y) (h3 x y hx hy hw), fun x y hx hy hl => ?_, fun j hj x y => ?_⟩
  · have := hle x x
    have := h2 x
    omega
  · rcases hor x y with e | e
    · rw [e] at hl ⊢
      exact h4 x y hx hy hl
    · rw [e] at hl ⊢
      obtain ⟨n, hn⟩ := h4 x k hx hk (by omega)
      obtain ⟨m, hm⟩ := h4 k y hk hy (by omega)
      exact ⟨n + m, bn_wk_app hn m y _ hm⟩
  · by_cases hjk : j = k
    · subst hjk
      rw [hcol, hrow]
      exact hle2 x y
    · have hj' : j < k := by omega
      have a0 := hle x y
      have a1 := hle2 x y
      have a2 := h5 j hj' x y
      have a3 := h5 j hj' x k
      have a4 := h5 j hj' k y
      have a5 := h5 j hj' k k
      have a6 := h2 k
      rcases hor x j with e1 | e1 <;> rcases hor j y with e2 | e2 <;> rw [e1, e2] <;> omega
theorem bn_FI_all {w : Nat → Nat → Nat} (hd : ∀ x, w x x = 0) (hw : ∀ x y, w x y ≤ 1023) : ∀ k, k ≤ 12 → bn_FI w k (bn_fw (bn_f0 w) k)
  | 0, _ => bn_FI_0 hd hw
  | k + 1, h => bn_FI_s (by omega) (bn_FI_all hd hw k (by omega))
/-- the twelve phases: at most the weight of every walk -/
theorem bn_fw_le {w F : Nat → Nat → Nat} (h : bn_FI w 12 F) {x : Nat} : ∀ (n y d : Nat), bn_wk w n x y d → F x y ≤ d
  | 0, y, d, hk => by
    obtain ⟨rfl, rfl⟩ := hk
    rw [h.2.1 x]
    exact Nat.le_refl _
  | n + 1, y, d, hk => by
    obtain ⟨u, e, hu, hy, hw, hk, rfl⟩ := hk
    have a := bn_fw_le h n u e hk
    have b := h.2.2.2.2 u hu x y
    have c := h.2.2.1 u y hu hy hw
    omega
/-- what stands behind the twelve phases -/
theorem bn_fw_D {w F : Nat → Nat → Nat} (h : bn_FI w 12 F) {x y : Nat} (hx : x < 12) (hy : y < 12) (hl : F x y < 1000000) : bn_D w x y (F x y) :=
  ⟨h.2.2.2.1 x y hx hy hl, fun n e hk => bn_fw_le h n y e hk⟩
theorem bn_fw_of {w F : Nat → Nat → Nat} (h : bn_FI w 12 F) {x y d : Nat} (hx : x < 12) (hy : y < 12) (hd : bn_D w x y d) (hl : d < 1000000) : F x y = d := by
  obtain ⟨⟨n, hn⟩, -⟩ := id hd
  have a := bn_fw_le h n y d hn
  exact bn_D_eq (bn_fw_D h hx hy (by omega)) hd
theorem bn_fw_N {w F : Nat → Nat → Nat} (h : bn_FI w 12 F) {x y : Nat} (hx : x < 12) (hy : y < 12) (hn : bn_N w x y) : F x y = 1000000 := by
  have a := h.1 x y
  by_cases hl : F x y < 1000000
  · exact absurd hn (fun k => bn_D_not (bn_fw_D h hx hy hl) k)
  · omega
/-! ### the first that fits -/
def bn_fst (p : Nat → Bool) : Nat → Option Nat
  | 0 => none
  | n + 1 => match bn_fst p n with
    | some m => some m
    | none => if p n = true then some n else none
theorem bn_fst_none {p : Nat → Bool} : ∀ (n : Nat), (∀ j, j < n → p j = false) → bn_fst p n = none
  | 0, _ => rfl
  | n + 1, h => by
    unfold bn_fst
    rw [bn_fst_none n (fun j hj => h j (by omega))]
    simp only
    rw [h n (by omega)]
    simp
theorem bn_fst_some {p : Nat → Bool} {m : Nat} (h : ∀ j, j < m → p j = false) (hm : p m = true) : ∀ (n : Nat), m < n → bn_fst p n = some m
  | 0, hn => absurd hn (Nat.not_lt_zero m)
  | n + 1, hn => by
    unfold bn_fst
    by_cases e : m = n
    · subst e
      rw [bn_fst_none m h]
      simp only
      rw [if_pos hm]
    · rw [bn_fst_some h hm n (by omega)]
theorem bn_fst_at {p : Nat → Bool} {m : Nat} : ∀ (n : Nat), bn_fst p n = some m → m < n ∧ p m = true ∧ ∀ j, j < m → p j = false
  | 0, h => by cases h
  | n + 1, h => by
    unfold bn_fst at h
    cases e : bn_fst p n with
    | some k =>
      rw [e] at h
      simp only [Option.some.injEq] at h
      subst h
      obtain ⟨a, b, c⟩ := bn_fst_at n e
      exact ⟨by omega, b, c⟩
    | none =>
      rw [e] at h
      simp only at h
      split at h
      · rename_i hp
        have hm : n = m := Option.some.inj h
        subst hm
        refine ⟨by omega, hp, fun j hj => ?_⟩
        cases hb : p j with
        | false => rfl
        | true =>
          exfalso
          have key : ∀ (q : Nat), j < q → bn_fst p q ≠ none := by
            intro q
            induction q with
            | zero => intro hq; omega
            | succ q ih =>
              intro hq hz
              unfold bn_fst at hz
              by_cases e2 : j = q
              · subst e2
                cases e3 : bn_fst p j with
                | some k => rw [e3] at hz; cases hz
                | none => rw [e3] at hz; simp only [hb, if_pos] at hz; cases hz
              · cases e3 : bn_fst p q with
                | some k => rw [e3] at hz; cases hz
                | none => exact ih (by omega) e3
          exact key n (by omega) e
      · cases h
theorem bn_fst_no {p : Nat → Bool} {n : Nat} (h : bn_fst p n = none) : ∀ j, j < n → p j = false := by
  intro j hj
  cases hb : p j with
  | false => rfl
  | true =>
    exfalso
    obtain ⟨k, hk, hmin⟩ := pk_least (fun i => p i = true) ⟨j, hb⟩
    have hkj : k ≤ j := by
      by_cases hlt : j < k
      · exact absurd hb (hmin j hlt)
      · omega
    have := bn_fst_some (p := p) (m := k) (fun i hi => by
      cases hc : p i with
      | false => rfl
      | true => exact absurd hc (hmin i hi)) hk n (by omega)
    rw [h] at this
    cases this
/-! ### counting -/
def bn_cnt (p : Nat → Bool) : Nat → Nat
  | 0 => 0
  | n + 1 => bn_cnt p n + (if p n = true then 1 else 0)
theorem bn_cnt_le (p : Nat → Bool) : ∀ n, bn_cnt p n ≤ n
  | 0 => Nat.le_refl _
  | n + 1 => by
    have := bn_cnt_le p n
    unfold bn_cnt
    split <;> omega
theorem bn_cnt_all {p : Nat → Bool} : ∀ n, bn_cnt p n = n → ∀ j, j < n → p j = true
  | 0, _, j, hj => absurd hj (Nat.not_lt_zero j)
  | n + 1, h, j, hj => by
    have a := bn_cnt_le p n
    unfold bn_cnt at h
    by_cases hp : p n = true
    · rw [if_pos hp] at h
      by_cases e : j = n
      · rw [e]; exact hp
      · exact bn_cnt_all n (by omega) j (by omega)
    · rw [if_neg hp] at h
      omega
theorem bn_cnt_congr {p q : Nat → Bool} : ∀ n, (∀ j, j < n → p j = q j) → bn_cnt p n = bn_cnt q n
  | 0, _ => rfl
  | n + 1, h => by
    unfold bn_cnt
    rw [bn_cnt_congr n (fun j hj => h j (by omega)), h n (by omega)]
theorem bn_cnt_put {p : Nat → Bool} {x : Nat} (hx : p x = false) : ∀ n, x < n → bn_cnt (fun j => if j = x then true else p j) n = bn_cnt p n + 1
  | 0, h => absurd h (Nat.not_lt_zero x)
  | n + 1, h => by
    unfold bn_cnt
    by_cases e : x = n
    · subst e
      rw [if_pos (by rw [if_pos rfl]), if_neg (by rw [hx]; decide), bn_cnt_congr (q := p) x (fun j hj => by rw [if_neg (by omega)])]
    · rw [bn_cnt_put hx n (by omega)]
      simp only [if_neg (show ¬ n = x from fun z => e z.symm)]
      omega
/-! ### Dijkstra -/
def bn_hop (s x : Nat) (H : Nat → Nat) (y : Nat) : Nat := if x = s then y else H x
/-- the lengths, once the ways over x (which is lx away) are reckoned -/
def bn_eL (w : Nat → Nat → Nat) (x lx : Nat) (L : Nat → Option Nat) (y : Nat) : Option Nat :=
  if w x y = 0 then L y else match L y with
    | none => some (lx + w x y)
    | some b => if lx + w x y < b then some (lx + w x y) else some b
def bn_eH (w : Nat → Nat → Nat) (s x lx : Nat) (L : Nat → Option Nat) (H : Nat → Nat) (y : Nat) : Nat :=
  if w x y = 0 then H y else match L y with
    | none => bn_hop s x H y
    | some b => if lx + w x y < b then bn_hop s x H y else if lx + w x y = b ∧ bn_hop s x H y < H y then bn_hop s x H y else H y
/-- what the turns keep -/
def bn_DI (w : Nat → Nat → Nat) (s B : Nat) (L : Nat → Option Nat) (H : Nat → Nat) (N : Nat → Bool) : Prop :=
  L s = some 0 ∧
  (∀ y d, y < 12 → L y = some d → d ≤ B ∧ ∃ n, bn_wk w n s y d) ∧
  (∀ u, u < 12 → N u = true → ∃ a, L u = some a ∧ ∀ v b, v < 12 → N v = false → L v = some b → a ≤ b) ∧
  (∀ u a, u < 12 → N u = true → L u = some a → ∀ y, y < 12 → w u y ≠ 0 → ∃ b, L y = some b ∧ b ≤ a + w u y ∧ (b = a + w u y → H y ≤ bn_hop s u H y)) ∧
  (∀ y d, y < 12 → y ≠ s → L y = some d → H y < 12 ∧ w s (H y) ≠ 0 ∧ ∃ n e, bn_wk w n (H y) y e ∧ w s (H y) + e = d) ∧
  (∀ y, y < 12 → H y < 12)
theorem bn_DI_0 {w : Nat → Nat → Nat} {s : Nat} : bn_DI w s 0 (fun y => if y = s then some 0 else none) (fun y => y) (fun _ => false) := by
  refine ⟨if_pos rfl, fun y d hy h => ?_, fun u _ h => absurd h Bool.false_ne_true, fun u a _ h => absurd h Bool.false_ne_true, fun y d hy hs h => ?_, fun y hy => hy⟩
  · simp only at h
    split at h
    · rename_i e
      cases h
      exact ⟨Nat.le_refl _, 0, e.symm, rfl⟩
    · cases h
  · simp only at h
    rw [if_neg hs] at h
    cases h
theorem bn_eL_le {w : Nat → Nat → Nat} {x lx : Nat} {L : Nat → Option Nat} {y b : Nat} (h : L y = some b) : ∃ c, bn_eL w x lx L y = some c ∧ c ≤ b ∧ (c = b ∨ (w x y ≠ 0 ∧ c = lx + w x y)) := by
  unfold bn_eL
  by_cases hw : w x y = 0
  · rw [if_pos hw]
    exact ⟨b, h, Nat.le_refl _, Or.inl rfl⟩
  · rw [if_neg hw, h]
    simp only
    split
    · exact ⟨_, rfl, by omega, Or.inr ⟨hw, rfl⟩⟩
    · exact ⟨_, rfl, Nat.le_refl _, Or.inl rfl⟩
theorem bn_eL_or {w : Nat → Nat → Nat} {x lx : Nat} {L : Nat → Option Nat} {y c : Nat} (h : bn_eL w x lx L y = some c) : L y = some c ∨ (w x y ≠ 0 ∧ c = lx + w x y) := by
  unfold bn_eL at h
  by_cases hw : w x y = 0
  · rw [if_pos hw] at h
    exact Or.inl h
  · rw [if_neg hw] at h
    cases e : L y with
    | none =>
      rw [e] at h
      simp only [Option.some.injEq] at h
      exact Or.inr ⟨hw, h.symm⟩
    | some b =>
      rw [e] at h
      simp only at h
      split at h
      · cases h
        exact Or.inr ⟨hw, rfl⟩
      · exact Or.inl h
theorem bn_DI_s {w : Nat → Nat → Nat} {s B x lx : Nat} {L : Nat → Option Nat} {H : Nat → Nat} {N : Nat → Bool} (hs : s < 12) (hd : ∀ x, w x x = 0) (hw9 : ∀ x y, w x y ≤ 1023) (h : bn_DI w s B L H N)
    (hx : x < 12) (hN : N x = false) (hL : L x = some lx) (hmin : ∀ v b, v < 12 → N v = false → L v = some b → lx ≤ b) :
    bn_DI w s (B + 1023) (bn_eL w x lx L) (bn_eH w s x lx L H) (fun j => if j = x then true else N j) := by
  obtain ⟨j1, j2, j3, j4, j5, j6⟩ := h
  have old : ∀ u, u < 12 → (u = x ∨ N u = true) → bn_eL w x lx L u = L u ∧ bn_eH w s x lx L H u = H u ∧ ∃ a, L u = some a ∧ a ≤ lx := by
    intro u hu hor
    rcases hor with rfl | hNu
    · refine ⟨?_, ?_, lx, hL, Nat.le_refl _⟩
      · unfold bn_eL; rw [if_pos (hd u)]
      · unfold bn_eH; rw [if_pos (hd u)]
    · obtain ⟨a, ha, hle⟩ := j3 u hu hNu
      have hax := hle x lx hx hN hL
      refine ⟨?_, ?_, a, ha, hax⟩
      · unfold bn_eL
        by_cases hw : w x u = 0
        · rw [if_pos hw]
        · rw [if_neg hw, ha]
          simp only
          rw [if_neg (by omega)]
      · unfold bn_eH
        by_cases hw : w x u = 0
        · rw [if_pos hw]
        · rw [if_neg hw, ha]
          simp only
          rw [if_neg (by omega), if_neg (by omega)]
  have hopx : ∀ u y, u < 12 → (u = x ∨ N u = true) → bn_hop s u (bn_eH w s x lx L H) y = bn_hop s u H y := by
    intro u y hu hor
    unfold bn_hop
    split
    · rfl
    · exact (old u hu hor).2.1
  have inN : ∀ u, (if u = x then true else N u) = true → (u = x ∨ N u = true) := by
    intro u h
    by_cases e : u = x
    · exact Or.inl e
    · rw [if_neg e] at h
      exact Or.inr h
  have hopok : ∀ y, y < 12 → w x y ≠ 0 → bn_hop s x H y < 12 ∧ w s (bn_hop s x H y) ≠ 0 ∧ ∃ n e, bn_wk w n (bn_hop s x H y) y e ∧ w s (bn_hop s x H y) + e = lx + w x y := by
    intro y hy hw
    unfold bn_hop
    by_cases e : x = s
    · rw [if_pos e]
      subst e
      rw [j1] at hL
      cases hL
      exact ⟨hy, hw, 0, 0, ⟨rfl, rfl⟩, by omega⟩
    · rw [if_neg e]
      obtain ⟨q1, q2, n, e1, q3, q4⟩ := j5 x lx hx e hL
      exact ⟨q1, q2, n + 1, e1 + w x y, bn_wk_snoc q3 hx hy hw, by omega⟩
  refine ⟨?_, ?_, ?_, ?_, ?_, ?_⟩
  · obtain ⟨c, hc, hle, -⟩ := bn_eL_le (w := w) (x := x) (lx := lx) j1
    have : c = 0 := by omega
    rw [hc, this]
  · intro y d hy h
    have hB := (j2 x lx hx hL).1
    rcases bn_eL_or h with h | ⟨hw, rfl⟩
    · exact ⟨by have := (j2 y d hy h).1; omega, (j2 y d hy h).2⟩
    · obtain ⟨n, hn⟩ := (j2 x lx hx hL).2
      have := hw9 x y
      exact ⟨by omega, n + 1, bn_wk_snoc hn hx hy hw⟩
  · intro u hu h
    have hor := inN u h
    obtain ⟨q1, q2, a, qa, qle⟩ := old u hu hor
    refine ⟨a, by rw [q1]; exact qa, fun v b hv hNv hb => ?_⟩
    have hNv : (if v = x then true else N v) = false := hNv
    have hvx : ¬ v = x := fun z => by rw [if_pos z] at hNv; cases hNv
    rw [if_neg hvx] at hNv
    rcases bn_eL_or hb with hb | ⟨hw, rfl⟩
    · have := hmin v b hv hNv hb
      omega
    · omega
  · intro u a hu h ha y hy hw
    have hor := inN u h
    obtain ⟨q1, q2, a', qa, qle⟩ := old u hu hor
    rw [q1] at ha
    rw [hopx u y hu hor]
    by_cases e : u = x
    · subst e
      rw [hL] at ha
      cases ha
      cases hy0 : L y with
      | none =>
        refine ⟨lx + w u y, ?_, Nat.le_refl _, fun _ => ?_⟩
        · unfold bn_eL; rw [if_neg hw, hy0]
        · unfold bn_eH; rw [if_neg hw, hy0]; exact Nat.le_refl _
      | some b =>
        by_cases hlt : lx + w u y < b
        · refine ⟨lx + w u y, ?_, Nat.le_refl _, fun _ => ?_⟩
          · unfold bn_eL; rw [if_neg hw, hy0]; simp only; rw [if_pos hlt]
          · unfold bn_eH; rw [if_neg hw, hy0]; simp only; rw [if_pos hlt]; exact Nat.le_refl _
        · refine ⟨b, ?_, by omega, fun hb => ?_⟩
          · unfold bn_eL; rw [if_neg hw, hy0]; simp only; rw [if_neg hlt]
          · unfold bn_eH; rw [if_neg hw, hy0]; simp only; rw [if_neg hlt]
            split
            · exact Nat.le_refl _
            · omega
    · have hNu : N u = true := by
        rcases hor with h | h
        · exact absurd h e
        · exact h
      obtain ⟨b, hb, hle, hH⟩ := j4 u a hu hNu ha y hy hw
      obtain ⟨c, hc, hcb, hor2⟩ := bn_eL_le (w := w) (x := x) (lx := lx) hb
      refine ⟨c, hc, by omega, fun hca => ?_⟩
      have hbc : b = c := by omega
      have h9 := hH (by omega)
      have : bn_eH w s x lx L H y ≤ H y := by
        unfold bn_eH
        by_cases hwx : w x y = 0
        · rw [if_pos hwx]; exact Nat.le_refl _
        · rw [if_neg hwx, hb]
          simp only
          by_cases hlt : lx + w x y < b
          · exfalso
            unfold bn_eL at hc
            rw [if_neg hwx, hb] at hc
            simp only at hc
            rw [if_pos hlt] at hc
            cases hc
            omega
          · rw [if_neg hlt]
            split <;> omega
      omega
  · intro y d hy hys h
    unfold bn_eL at h
    unfold bn_eH
    by_cases hw : w x y = 0
    · rw [if_pos hw] at h ⊢
      exact j5 y d hy hys h
    · rw [if_neg hw] at h ⊢
      cases hb : L y with
      | none =>
        rw [hb] at h
        simp only [Option.some.injEq] at h ⊢
        subst h
        exact hopok y hy hw
      | some b =>
        rw [hb] at h
        simp only at h ⊢
        by_cases hlt : lx + w x y < b
        · rw [if_pos hlt] at h ⊢
          cases h
          exact hopok y hy hw
        · rw [if_neg hlt] at h ⊢
          cases h
          split
          · rename_i g
            obtain ⟨k1, k2, k3⟩ := hopok y hy hw
            rw [g.1] at k3
            exact ⟨k1, k2, k3⟩
          · exact j5 y d hy hys hb
  · intro y hy
    unfold bn_eH
    by_cases hw : w x y = 0
    · rw [if_pos hw]; exact j6 y hy
    · rw [if_neg hw]
      have k1 := (hopok y hy hw).1
      have k2 := j6 y hy
      split
      · exact k1
      · split
        · exact k1
        · split
          · exact k1
          · exact k2
/-- all that have a length are done -/
def bn_fin (L : Nat → Option Nat) (N : Nat → Bool) : Prop := ∀ v, v < 12 → L v ≠ none → N v = true
theorem bn_DI_le {w : Nat → Nat → Nat} {s B : Nat} {L : Nat → Option Nat} {H : Nat → Nat} {N : Nat → Bool} (h : bn_DI w s B L H N) (hf : bn_fin L N) : ∀ (n y d : Nat), bn_wk w n s y d → ∃ b, L y = some b ∧ b ≤ d
  | 0, y, d, hk => by
    obtain ⟨rfl, rfl⟩ := hk
    exact ⟨0, h.1, Nat.le_refl _⟩
  | n + 1, y, d, hk => by
    obtain ⟨u, e, hu, hy, hw, hk, rfl⟩ := hk
    obtain ⟨a, ha, hae⟩ := bn_DI_le h hf n u e hk
    have hN := hf u hu (by rw [ha]; intro z; cases z)
    obtain ⟨b, hb, hle, -⟩ := h.2.2.2.1 u a hu hN ha y hy hw
    exact ⟨b, hb, by omega⟩
theorem bn_DI_D {w : Nat → Nat → Nat} {s B : Nat} {L : Nat → Option Nat} {H : Nat → Nat} {N : Nat → Bool} (h : bn_DI w s B L H N) (hf : bn_fin L N) {y d : Nat} (hy : y < 12) (hL : L y = some d) : bn_D w s y d :=
  ⟨(h.2.1 y d hy hL).2, fun n e hk => by
    obtain ⟨b, hb, hle⟩ := bn_DI_le h hf n y e hk
    rw [hL] at hb
    cases hb
    exact hle⟩
theorem bn_DI_N {w : Nat → Nat → Nat} {s B : Nat} {L : Nat → Option Nat} {H : Nat → Nat} {N : Nat → Bool} (h : bn_DI w s B L H N) (hf : bn_fin L N) {y : Nat} (hL : L y = none) : bn_N w s y := fun n e hk => by
  obtain ⟨b, hb, -⟩ := bn_DI_le h hf n y e hk
  rw [hL] at hb
  cases hb
/-- the lowest of the first hops -/
theorem bn_DI_H {w : Nat → Nat → Nat} {s B : Nat} {L : Nat → Option Nat} {H : Nat → Nat} {N : Nat → Bool} (hs : s < 12) (h : bn_DI w s B L H N) (hf : bn_fin L N) {m : Nat} (hm : m < 12) (hwm : w s m ≠ 0) : ∀ (n y e d : Nat), y < 12 → L y = some d → bn_wk w n m y e → w s m + e = d → H y ≤ m
  | 0, y, e, d, hy, hL, hk, he => by
    obtain ⟨rfl, rfl⟩ := hk
    have hN := hf s hs (by rw [h.1]; intro z; cases z)
    obtain ⟨b, hb, hle, hH⟩ := h.2.2.2.1 s 0 hs hN h.1 m hy hwm
    rw [hL] at hb
    cases hb
    have := hH (by omega)
    unfold bn_hop at this
    rw [if_pos rfl] at this
    exact this
  | n + 1, y, e, d, hy, hL, hk, he => by
    obtain ⟨u, f, hu, -, hw, hk, rfl⟩ := hk
    have hsu : bn_wk w (1 + n) s u (w s m + f) := bn_wk_app (bn_wk_one hs hm hwm) n u f hk
    obtain ⟨a, ha, hae⟩ := bn_DI_le h hf (1 + n) u _ hsu
    have hN := hf u hu (by rw [ha]; intro z; cases z)
    obtain ⟨b, hb, hle, hH⟩ := h.2.2.2.1 u a hu hN ha y hy hw
    rw [hL] at hb
    cases hb
    have ih := bn_DI_H hs h hf hm hwm n u f a hu ha hk (by omega)
    have := hH (by omega)
    unfold bn_hop at this
    by_cases e : u = s
    · subst e
      rw [h.1] at ha
      cases ha
      omega
    · rw [if_neg e] at this
      omega
/-! ### what a router reckons of a view -/
def bn_far (w : Nat → Nat → Nat) : Nat → Nat → Nat := bn_fw (bn_f0 w) 12
/-- the next hop from r to d -/
def bn_nh (w : Nat → Nat → Nat) (r d : Nat) : Option Nat := if 1000000 ≤ bn_far w r d then none else bn_fst (fun m => decide (0 < w r m ∧ w r m + bn_far w m d = bn_far w r d)) 12
/-- the way's length -/
def bn_len (w : Nat → Nat → Nat) (r d : Nat) : Option Nat := if 1000000 ≤ bn_far w r d then none else some (bn_far w r d)
theorem bn_dij_len {w : Nat → Nat → Nat} {s B : Nat} {L : Nat → Option Nat} {H : Nat → Nat} {N : Nat → Bool} (hs : s < 12) (hd : ∀ x, w x x = 0) (hw9 : ∀ x y, w x y ≤ 1023) (hB : B < 1000000) (h : bn_DI w s B L H N) (hf : bn_fin L N) {y : Nat} (hy : y < 12) : L y = bn_len w s y := by
  have hF := bn_FI_all hd hw9 12 (Nat.le_refl _)
  unfold bn_len
  cases hL : L y with
  | none =>
    have : bn_far w s y = 1000000 := bn_fw_N hF hs hy (bn_DI_N h hf hL)
    rw [if_pos (by omega)]
  | some d =>
    have h1 := (h.2.1 y d hy hL).1
    have : bn_far w s y = d := bn_fw_of hF hs hy (bn_DI_D h hf hy hL) (by omega)
    rw [if_neg (by omega), this]
theorem bn_dij_nh {w : Nat → Nat → Nat} {s B : Nat} {L : Nat → Option Nat} {H : Nat → Nat} {N : Nat → Bool} (hs : s < 12) (hd : ∀ x, w x x = 0) (hw9 : ∀ x y, w x y ≤ 1023) (hB : B < 1000000) (h : bn_DI w s B L H N) (hf : bn_fin L N) {y d : Nat} (hy : y < 12) (hys : y ≠ s) (hL : L y = some d) : bn_nh w s y = some (H y) := by
  have hF := bn_FI_all hd hw9 12 (Nat.le_refl _)
  have h1 := (h.2.1 y d hy hL).1
  have hD := bn_DI_D h hf hy hL
  have hfar : bn_far w s y = d := bn_fw_of hF hs hy hD (by omega)
  obtain ⟨q1, q2, n, e, q3, q4⟩ := h.2.2.2.2.1 y d hy hys hL
  have hFe : bn_far w (H y) y = e := by
    have a := bn_fw_le hF n y e q3
    have a' : bn_far w (H y) y ≤ e := a
    obtain ⟨n2, hn2⟩ := hF.2.2.2.1 (H y) y q1 hy (show bn_far w (H y) y < 1000000 by omega)
    have hn2 : bn_wk w n2 (H y) y (bn_far w (H y) y) := hn2
    have b := hD.2 _ _ (bn_wk_app (bn_wk_one hs q1 q2) n2 y _ hn2)
    omega
  unfold bn_nh
  rw [if_neg (by omega)]
  refine bn_fst_some (fun j hj => ?_) ?_ 12 q1
  · rw [decide_eq_false_iff_not]
    rintro ⟨k1, k2⟩
    obtain ⟨n2, hn2⟩ := hF.2.2.2.1 j y (by omega) hy (show bn_far w j y < 1000000 by omega)
    have := bn_DI_H hs h hf (m := j) (by omega) (by omega) n2 y (bn_far w j y) d hy hL hn2 (by omega)
    omega
  · rw [decide_eq_true_eq]
    omega
