/-! What numbers the advertisements, stores and messages hold, and that every operation keeps it. -/
def bm_mok (na : Nat) (M : bm_M Nat) : Prop := ∀ i, i < M.2.1 → M.2.2 i 0 < 12 ∧ M.2.2 i 1 < 12 ∧ M.2.2 i 2 < na
def bm_ok (T : bm_T) : Prop := (∀ a b, a < 12 → b < 12 → T.2.1 a b < T.1.2.1) ∧ (∀ i, i < T.1.2.1 → T.1.2.2 i 0 < 12 ∧ T.1.2.2 i 1 ≤ i ∧ ∀ j, j < 12 → T.1.2.2 i (2 + j) ≤ 1000) ∧ bm_mok T.1.2.1 T.2.2.1 ∧ 0 < T.1.2.1 ∧ T.1.2.1 ≤ T.1.1
/-- the rings are no larger than the machine's rows may be -/
def bm_cap (T : bm_T) : Prop := T.1.1 ≤ 50000 ∧ T.2.2.1.1 ≤ 50000
theorem bm_cap.of {T U : bm_T} (h : bm_le T U) (k : bm_cap U) : bm_cap T := ⟨Nat.le_trans h.1 k.1, Nat.le_trans h.2 k.2⟩
theorem bm_push_at {α : Type} (M : bm_M α) (row : Nat → α) : (bm_push M row).2.2 M.2.1 = row := if_pos rfl
theorem bm_push_old {α : Type} (M : bm_M α) (row : Nat → α) {i : Nat} (h : i < M.2.1) : (bm_push M row).2.2 i = M.2.2 i := if_neg (by omega)
theorem bm_mok.push {na : Nat} {M : bm_M Nat} (h : bm_mok na M) {f t i : Nat} (hf : f < 12) (ht : t < 12) (hi : i < na) : bm_mok na (bm_push M (bm_row3 f t i)) := by
  intro k hk
  have hk : k < M.2.1 + 1 := hk
  by_cases e : k = M.2.1
  · rw [e, bm_push_at]
    exact ⟨hf, ht, hi⟩
  · rw [bm_push_old M _ (by omega)]
    exact h k (by omega)
theorem bm_mok.mono {na nb : Nat} {M : bm_M Nat} (h : bm_mok na M) (hn : na ≤ nb) : bm_mok nb M := fun i hi => ⟨(h i hi).1, (h i hi).2.1, Nat.lt_of_lt_of_le (h i hi).2.2 hn⟩
theorem bm_mok.sa {na : Nat} {M : bm_M Nat} (h : bm_mok na M) (kn : Nat → Nat → Nat) (ex : Option Nat) {r id : Nat} (hr : r < 12) (hi : id < na) : ∀ j, j ≤ 12 → bm_mok na (bm_sa kn ex r id M j)
  | 0, _ => h
  | j + 1, hj => by
    unfold bm_sa
    split
    · exact (bm_mok.sa h kn ex hr hi j (by omega)).push hr (by omega) hi
    · exact bm_mok.sa h kn ex hr hi j (by omega)
theorem bm_mok.ss {na : Nat} {M : bm_M Nat} (h : bm_mok na M) {hd : Nat → Nat → Nat} {a b : Nat} (ha : a < 12) (hb : b < 12) (hh : ∀ x, x < 12 → hd a x < na) : ∀ j, j ≤ 12 → bm_mok na (bm_ss hd a b M j)
  | 0, _ => h
  | j + 1, hj => by
    unfold bm_ss
    split
    · exact (bm_mok.ss h ha hb hh j (by omega)).push ha hb (hh j (by omega))
    · exact bm_mok.ss h ha hb hh j (by omega)
theorem bm_adv_ok {kn : Nat → Nat → Nat} {r : Nat} {T : bm_T} (h : bm_ok T) (hr : r < 12) (hk : ∀ a b, kn a b ≤ 1000) : bm_ok (bm_adv kn r T) := by
  obtain ⟨h1, h2, h3, h4, h5⟩ := h
  have hn : (bm_adv kn r T).1.2.1 = T.1.2.1 + 1 := rfl
  refine ⟨fun a b ha hb => ?_, fun i hi => ?_, ?_, ?_, ?_⟩
  · rw [hn]
    show (if a = r ∧ b = r then T.1.2.1 else T.2.1 a b) < _
    split
    · omega
    · have := h1 a b ha hb
      omega
  · rw [hn] at hi
    show (bm_push T.1 _).2.2 i 0 < 12 ∧ (bm_push T.1 _).2.2 i 1 ≤ i ∧ ∀ j, j < 12 → (bm_push T.1 _).2.2 i (2 + j) ≤ 1000
    by_cases e : i = T.1.2.1
    · rw [e, bm_push_at]
      refine ⟨hr, ?_, fun j hj => ?_⟩
      · show T.1.2.2 (T.2.1 r r) 1 + 1 ≤ _
        have h6 := h1 r r hr hr
        have := (h2 _ h6).2.1
        omega
      · show (if 2 + j = 0 then r else if 2 + j = 1 then _ else kn r (2 + j - 2)) ≤ 1000
        rw [if_neg (by omega), if_neg (by omega)]
        exact hk _ _
    · rw [bm_push_old T.1 _ (by omega)]
      exact h2 i (by omega)
  · rw [hn]
    exact (h3.mono (by omega)).sa kn none hr (by omega) 12 (by omega)
  · rw [hn]
    omega
  · rw [hn]
    show _ ≤ (if T.1.2.1 = T.1.1 then 2 * T.1.1 else T.1.1)
    split <;> omega
theorem bm_sst_ok {a b : Nat} {T : bm_T} (h : bm_ok T) (ha : a < 12) (hb : b < 12) : bm_ok (bm_sst a b T) := by
  obtain ⟨h1, h2, h3, h4, h5⟩ := h
  exact ⟨h1, h2, h3.ss ha hb (fun x hx => h1 a x ha hx) 12 (by omega), h4, h5⟩
theorem bm_greet_ok {kn : Nat → Nat → Nat} {a b : Nat} {T : bm_T} (h : bm_ok T) (ha : a < 12) (hb : b < 12) (hk : ∀ a b, kn a b ≤ 1000) : bm_ok (bm_greet kn a b T) :=
  bm_sst_ok (bm_sst_ok (bm_adv_ok (bm_adv_ok h ha hk) hb hk) ha hb) hb ha
theorem bm_dropT_ok {T : bm_T} (h : bm_ok T) : bm_ok (bm_dropT T) := by
  obtain ⟨h1, h2, h3, h4, h5⟩ := h
  refine ⟨h1, h2, fun i hi => ?_, h4, h5⟩
  have hi : i < T.2.2.1.2.1 - 1 := hi
  exact h3 (i + 1) (by omega)
theorem bm_recv_ok {kn : Nat → Nat → Nat} {r f id : Nat} {T : bm_T} (h : bm_ok T) (hr : r < 12) (hf : f < 12) (hi : id < T.1.2.1) : bm_ok (bm_recv kn r f id T) := by
  obtain ⟨h1, h2, h3, h4, h5⟩ := (show bm_ok T from h)
  unfold bm_recv
  split
  · refine ⟨fun a b ha hb => ?_, h2, h3.sa kn (some f) hr hi 12 (by omega), h4, h5⟩
    show (if a = r ∧ b = T.1.2.2 id 0 then id else T.2.1 a b) < _
    split
    · exact hi
    · exact h1 a b ha hb
  · split
    · exact ⟨h1, h2, h3.push hr hf (h1 r _ hr (h2 id hi).1), h4, h5⟩
    · exact h
theorem bm_del_ok {lk kn : Nat → Nat → Nat} {S : bm_T × Int32} (h : bm_ok S.1) (hn : 0 < S.1.2.2.1.2.1) : bm_ok (bm_del lk kn S).1 := by
  obtain ⟨m1, m2, m3⟩ := h.2.2.1 0 hn
  unfold bm_del
  split
  · exact bm_recv_ok (bm_dropT_ok h) m2 m1 m3
  · exact bm_dropT_ok h
theorem bm_step_ok {lk kn : Nat → Nat → Nat} : ∀ (n : Nat) (S : bm_T × Int32), bm_ok S.1 → bm_ok (bm_step lk kn n S).2.1
  | 0, S, h => h
  | n + 1, S, h => by
    unfold bm_step
    split
    · rename_i c
      exact bm_step_ok n _ (bm_del_ok h c.1)
    · exact h
