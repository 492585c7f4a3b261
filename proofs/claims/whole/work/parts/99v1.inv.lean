/-! What every run of calls keeps: the control's part. -/
/-- rows: no more than there is room for, and the room is small -/
def capok {α : Type} (M : bm_M α) : Prop := M.2.1 ≤ M.1 ∧ M.1 ≤ 8192 ∧ 1 ≤ M.1
theorem capok.push {α : Type} {M : bm_M α} (h : capok M) (hn : M.2.1 < 4096) (row : Nat → α) : capok (bm_push M row) := by
  obtain ⟨h1, h2, h3⟩ := h
  refine ⟨?_, ?_, ?_⟩
  · show M.2.1 + 1 ≤ (if M.2.1 = M.1 then 2 * M.1 else M.1)
    split <;> omega
  · show (if M.2.1 = M.1 then 2 * M.1 else M.1) ≤ 8192
    split <;> omega
  · show 1 ≤ (if M.2.1 = M.1 then 2 * M.1 else M.1)
    split <;> omega
theorem capok.drop {α : Type} {M : bm_M α} (h : capok M) : capok (bm_drop M) := ⟨Nat.le_trans (Nat.sub_le _ _) h.1, h.2⟩
theorem capok.sa {M : bm_M Nat} (h : capok M) (kn : Nat → Nat → Nat) (ex : Option Nat) (r id : Nat) (hn : M.2.1 + 12 ≤ 4096) : ∀ j, j ≤ 12 → capok (bm_sa kn ex r id M j)
  | 0, _ => h
  | j + 1, hj => by
    have h1 := bm_sa_n kn ex r id M j
    unfold bm_sa
    split
    · exact (capok.sa h kn ex r id hn j (by omega)).push (by omega) _
    · exact capok.sa h kn ex r id hn j (by omega)
theorem capok.ss {M : bm_M Nat} (h : capok M) (hd : Nat → Nat → Nat) (a b : Nat) (hn : M.2.1 + 12 ≤ 4096) : ∀ j, j ≤ 12 → capok (bm_ss hd a b M j)
  | 0, _ => h
  | j + 1, hj => by
    have h1 := bm_ss_n hd a b M j
    unfold bm_ss
    split
    · exact (capok.ss h hd a b hn j (by omega)).push (by omega) _
    · exact capok.ss h hd a b hn j (by omega)
/-- links: their states and weights -/
def iL (lk kn : Nat → Nat → Nat) : Prop := (∀ a b, lk a b ≤ 2) ∧ (∀ a b, kn a b ≤ 1000) ∧ (∀ a b, lk a b = lk b a) ∧ (∀ a, lk a a = 0) ∧ ∀ a, kn a a = 0
theorem both_at {f : Nat → Nat → Nat} {r o v a b : Nat} : bm_both f r o v a b = if (a = o ∧ b = r) ∨ (a = r ∧ b = o) then v else f a b := by
  show (if a = o ∧ b = r then v else (if a = r ∧ b = o then v else f a b)) = _
  by_cases h1 : a = o ∧ b = r
  · rw [if_pos h1, if_pos (Or.inl h1)]
  · by_cases h2 : a = r ∧ b = o
    · rw [if_neg h1, if_pos h2, if_pos (Or.inr h2)]
    · rw [if_neg h1, if_neg h2, if_neg (fun z => z.elim h1 h2)]
theorem both_le {f : Nat → Nat → Nat} {r o v m : Nat} (h : ∀ a b, f a b ≤ m) (hv : v ≤ m) (a b : Nat) : bm_both f r o v a b ≤ m := by
  rw [both_at]
  split
  · exact hv
  · exact h a b
theorem both_sym {f : Nat → Nat → Nat} {r o v : Nat} (h : ∀ a b, f a b = f b a) (a b : Nat) : bm_both f r o v a b = bm_both f r o v b a := by
  rw [both_at, both_at]
  by_cases e : (a = o ∧ b = r) ∨ (a = r ∧ b = o)
  · rw [if_pos e, if_pos (e.elim (fun z => Or.inr ⟨z.2, z.1⟩) (fun z => Or.inl ⟨z.2, z.1⟩))]
  · rw [if_neg e, if_neg (fun z => e (z.elim (fun y => Or.inr ⟨y.2, y.1⟩) (fun y => Or.inl ⟨y.2, y.1⟩)))]
    exact h a b
theorem both_dg {f : Nat → Nat → Nat} {r o v : Nat} (h : ∀ a, f a a = 0) (hro : r ≠ o) (a : Nat) : bm_both f r o v a a = 0 := by
  rw [both_at, if_neg (fun z => z.elim (fun y => hro (y.2.symm.trans y.1)) (fun y => hro (y.1.symm.trans y.2)))]
  exact h a
theorem iL.link {lk kn : Nat → Nat → Nat} (h : iL lk kn) {r o v : Nat} (hro : r ≠ o) (hv : v ≤ 1000) : iL (bm_both lk r o 1) (bm_both kn r o v) :=
  ⟨both_le h.1 (by decide), both_le h.2.1 hv, both_sym h.2.2.1, both_dg h.2.2.2.1 hro, both_dg h.2.2.2.2 hro⟩
theorem iL.cut {lk kn : Nat → Nat → Nat} (h : iL lk kn) {r o : Nat} (hro : r ≠ o) : iL (bm_both lk r o 2) kn :=
  ⟨both_le h.1 (by decide), h.2.1, both_sym h.2.2.1, both_dg h.2.2.2.1 hro, h.2.2.2.2⟩
theorem iL.notice {S : bm_S} (h : iL S.lk S.kn) {r o : Nat} (hro : r ≠ o) : iL (bm_nlk r o S) (bm_nkn r o S) := by
  have hk1 : ∀ a b, bm_nkn r o S a b ≤ 1000 := fun a b => by
    show (if a = r ∧ b = o then 0 else S.kn a b) ≤ 1000
    split
    · omega
    · exact h.2.1 a b
  have hk2 : ∀ a, bm_nkn r o S a a = 0 := fun a => by
    show (if a = r ∧ a = o then 0 else S.kn a a) = 0
    split
    · rfl
    · exact h.2.2.2.2 a
  unfold bm_nlk
  split
  · exact ⟨both_le h.1 (by decide), hk1, both_sym h.2.2.1, both_dg h.2.2.2.1 hro, hk2⟩
  · exact ⟨h.1, hk1, h.2.2.1, h.2.2.2.1, hk2⟩
/-- advertisements and stores: whose they are, their numbers -/
def iC (T : bm_T) : Prop := bm_ok T ∧ (∀ j, T.1.2.2 0 j = 0) ∧ (∀ a b, a < 12 → b < 12 → T.2.1 a b = 0 ∨ T.1.2.2 (T.2.1 a b) 0 = b) ∧ (∀ i, i < T.1.2.1 → T.1.2.2 i (2 + T.1.2.2 i 0) = 0) ∧ (∀ i, 1 ≤ i → i < T.1.2.1 → 1 ≤ T.1.2.2 i 1) ∧
  (∀ i j, 1 ≤ i → i < T.1.2.1 → 1 ≤ j → j < T.1.2.1 → T.1.2.2 i 0 = T.1.2.2 j 0 → T.1.2.2 i 1 = T.1.2.2 j 1 → i = j) ∧ ∀ i, i < T.1.2.1 → 1 ≤ i → T.1.2.2 i 1 ≤ T.1.2.2 (T.2.1 (T.1.2.2 i 0) (T.1.2.2 i 0)) 1
theorem up2_at {α : Type} {f : Nat → Nat → α} {i j a b : Nat} {v : α} : bm_up2 f i j v a b = if a = i ∧ b = j then v else f a b := rfl
theorem iC.sst {T : bm_T} (h : iC T) {a b : Nat} (ha : a < 12) (hb : b < 12) : iC (bm_sst a b T) := by
  obtain ⟨h1, h2⟩ := h
  refine ⟨?_, h2⟩
  exact ⟨h1.1, h1.2.1, bm_mok.ss h1.2.2.1 ha hb (fun x hx => h1.1 a x ha hx) 12 (Nat.le_refl _), h1.2.2.2⟩
theorem iC.adv {T : bm_T} (h : iC T) {kn : Nat → Nat → Nat} {r : Nat} (hr : r < 12) (hk : ∀ a b, kn a b ≤ 1000) (hd : ∀ a, kn a a = 0) : iC (bm_adv kn r T) := by
  obtain ⟨h1, h2, h3, h4, h5, h6, h7⟩ := h
  have hn : 0 < T.1.2.1 := h1.2.2.2.1
  have hN : (bm_adv kn r T).1.2.1 = T.1.2.1 + 1 := rfl
  have hold : ∀ i, i < T.1.2.1 → (bm_adv kn r T).1.2.2 i = T.1.2.2 i := fun i hi => bm_push_old T.1 _ hi
  have hnew : (bm_adv kn r T).1.2.2 T.1.2.1 = bm_adrow r (T.1.2.2 (T.2.1 r r) 1 + 1) (kn r) := bm_push_at T.1 _
  have hst : ∀ a b, (bm_adv kn r T).2.1 a b = if a = r ∧ b = r then T.1.2.1 else T.2.1 a b := fun a b => rfl
  have hlt : ∀ a b, a < 12 → b < 12 → T.2.1 a b < T.1.2.1 := h1.1
  refine ⟨bm_adv_ok h1 hr hk, fun j => ?_, fun a b ha hb => ?_, fun i hi => ?_, fun i hi hi2 => ?_, fun i j hi hi2 hj hj2 ho hnum => ?_, fun i hi hi2 => ?_⟩
  · rw [hold 0 hn]
    exact h2 j
  · rw [hst]
    by_cases e : a = r ∧ b = r
    · rw [if_pos e, hnew, e.2]
      exact Or.inr rfl
    · rw [if_neg e]
      rcases h3 a b ha hb with q | q
      · exact Or.inl q
      · rw [hold _ (hlt a b ha hb)]
        exact Or.inr q
  · rw [hN] at hi
    by_cases e : i = T.1.2.1
    · rw [e, hnew]
      show (if 2 + r = 0 then r else if 2 + r = 1 then _ else kn r (2 + r - 2)) = 0
      rw [if_neg (by omega), if_neg (by omega), show 2 + r - 2 = r by omega]
      exact hd r
    · rw [hold i (by omega)]
      exact h4 i (by omega)
  · rw [hN] at hi2
    by_cases e : i = T.1.2.1
    · rw [e, hnew]
      show 1 ≤ T.1.2.2 (T.2.1 r r) 1 + 1
      omega
    · rw [hold i (by omega)]
      exact h5 i hi (by omega)
  · rw [hN] at hi2 hj2
    have key : ∀ i, 1 ≤ i → i < T.1.2.1 → T.1.2.2 i 0 = r → T.1.2.2 i 1 ≤ T.1.2.2 (T.2.1 r r) 1 := fun i hi hi2 ho => by
      have := h7 i hi2 hi
      rw [ho] at this
      exact this
    by_cases e : i = T.1.2.1
    · by_cases e2 : j = T.1.2.1
      · rw [e, e2]
      · rw [e, hnew, hold j (by omega)] at ho hnum
        have k1 := key j hj (by omega) ho.symm
        have k2 : T.1.2.2 (T.2.1 r r) 1 + 1 = T.1.2.2 j 1 := hnum
        omega
    · by_cases e2 : j = T.1.2.1
      · rw [e2, hnew, hold i (by omega)] at ho hnum
        have k1 := key i hi (by omega) ho
        have k2 : T.1.2.2 i 1 = T.1.2.2 (T.2.1 r r) 1 + 1 := hnum
        omega
      · rw [hold i (by omega), hold j (by omega)] at ho hnum
        exact h6 i j hi (by omega) hj (by omega) ho hnum
  · rw [hN] at hi
    by_cases e : i = T.1.2.1
    · rw [e, hnew]
      show T.1.2.2 (T.2.1 r r) 1 + 1 ≤ (bm_adv kn r T).1.2.2 ((bm_adv kn r T).2.1 r r) 1
      rw [hst, if_pos ⟨rfl, rfl⟩, hnew]
      exact Nat.le_refl _
    · rw [hold i (by omega)]
      have ho := (h1.2.1 i (by omega)).1
      have q := h7 i (by omega) hi2
      rw [hst]
      by_cases e2 : T.1.2.2 i 0 = r ∧ T.1.2.2 i 0 = r
      · rw [if_pos e2, hnew]
        rw [e2.1] at q
        show _ ≤ T.1.2.2 (T.2.1 r r) 1 + 1
        omega
      · rw [if_neg e2, hold _ (hlt _ _ ho ho)]
        exact q
theorem iC.greet {T : bm_T} (h : iC T) {kn : Nat → Nat → Nat} {a b : Nat} (ha : a < 12) (hb : b < 12) (hk : ∀ a b, kn a b ≤ 1000) (hd : ∀ a, kn a a = 0) : iC (bm_greet kn a b T) := (((h.adv ha hk hd).adv hb hk hd).sst ha hb).sst hb ha
theorem iC.recv {T : bm_T} (h : iC T) {kn : Nat → Nat → Nat} {r f id : Nat} (hr : r < 12) (hf : f < 12) (hid : id < T.1.2.1) : iC (bm_recv kn r f id T) := by
  obtain ⟨h1, h2, h3, h4, h5, h6, h7⟩ := h
  have hlt := h1.1
  have ho := (h1.2.1 id hid).1
  have hok := h1
  unfold bm_recv
  split
  · rename_i hnew
    refine ⟨⟨fun a b ha hb => ?_, h1.2.1, bm_mok.sa h1.2.2.1 kn (some f) hr hid 12 (Nat.le_refl _), h1.2.2.2⟩, h2, fun a b ha hb => ?_, h4, h5, h6, fun i hi hi2 => ?_⟩
    · show (if a = r ∧ b = T.1.2.2 id 0 then id else T.2.1 a b) < T.1.2.1
      split
      · exact hid
      · exact hlt a b ha hb
    · show (if a = r ∧ b = T.1.2.2 id 0 then id else T.2.1 a b) = 0 ∨ T.1.2.2 (if a = r ∧ b = T.1.2.2 id 0 then id else T.2.1 a b) 0 = b
      split
      · rename_i e
        exact Or.inr e.2.symm
      · exact h3 a b ha hb
    · show T.1.2.2 i 1 ≤ T.1.2.2 (if T.1.2.2 i 0 = r ∧ T.1.2.2 i 0 = T.1.2.2 id 0 then id else T.2.1 (T.1.2.2 i 0) (T.1.2.2 i 0)) 1
      have q := h7 i hi hi2
      split
      · rename_i e
        by_cases z : 1 ≤ id
        · have q2 := h7 id hid z
          have eo : T.1.2.2 id 0 = r := e.2.symm.trans e.1
          rw [eo] at q2 hnew
          omega
        · have e0 : id = 0 := by omega
          have k0 := h2 1
          rw [e0] at hnew
          omega
      · exact q
  · split
    · refine ⟨⟨hlt, h1.2.1, ?_, h1.2.2.2⟩, h2, h3, h4, h5, h6, h7⟩
      exact h1.2.2.1.push hr hf (hlt r _ hr ho)
    · exact ⟨h1, h2, h3, h4, h5, h6, h7⟩
theorem iC.dropT {T : bm_T} (h : iC T) : iC (bm_dropT T) := by
  refine ⟨⟨h.1.1, h.1.2.1, fun i hi => ?_, h.1.2.2.2⟩, h.2⟩
  have hi : i < T.2.2.1.2.1 - 1 := hi
  exact h.1.2.2.1 (i + 1) (by omega)
theorem iC.del {P : bm_T × Int32} (h : iC P.1) {lk kn : Nat → Nat → Nat} (hn : 0 < P.1.2.2.1.2.1) : iC (bm_del lk kn P).1 := by
  obtain ⟨q1, q2, q3⟩ := h.1.2.2.1 0 hn
  unfold bm_del
  split
  · exact h.dropT.recv q2 q1 q3
  · exact h.dropT
theorem recv_cap {T : bm_T} {kn : Nat → Nat → Nat} {r f id : Nat} (h : capok T.2.2.1) (hn : T.2.2.1.2.1 + 12 ≤ 4096) : capok (bm_recv kn r f id T).2.2.1 := by
  unfold bm_recv
  split
  · exact h.sa kn _ _ _ hn 12 (Nat.le_refl _)
  · split
    · exact h.push (by omega) _
    · exact h
theorem del_cap {P : bm_T × Int32} (lk kn : Nat → Nat → Nat) (h : capok P.1.2.2.1) (hn : P.1.2.2.1.2.1 ≤ 4000) : capok (bm_del lk kn P).1.2.2.1 := by
  have hd : (bm_dropT P.1).2.2.1.2.1 = P.1.2.2.1.2.1 - 1 := rfl
  unfold bm_del
  split
  · exact recv_cap (T := bm_dropT P.1) h.drop (by omega)
  · exact h.drop
theorem del_ch (lk kn : Nat → Nat → Nat) (P : bm_T × Int32) (r : Nat) : (bm_del lk kn P).1.2.2.2 r ≤ P.1.2.2.2 r + 1 := by
  unfold bm_del
  split
  · unfold bm_recv
    split
    · show (if r = P.1.2.2.1.2.2 0 1 then _ else P.1.2.2.2 r) ≤ _
      split
      · rename_i e
        show P.1.2.2.2 (P.1.2.2.1.2.2 0 1) + 1 ≤ _
        rw [← e]
        exact Nat.le_refl _
      · omega
    · split
      · exact Nat.le_succ _
      · exact Nat.le_succ _
  · exact Nat.le_succ _
/-- the control's part: c calls have been made -/
def iT (T : bm_T) (c : Nat) : Prop := iC T ∧ capok T.1 ∧ capok T.2.2.1 ∧ T.1.2.1 ≤ 1 + 2 * c ∧ T.2.2.1.2.1 ≤ 4000 ∧ ∀ r, T.2.2.2 r ≤ 1002 * c
theorem iT.more {T : bm_T} {c : Nat} (h : iT T c) : iT T (c + 1) := ⟨h.1, h.2.1, h.2.2.1, by have := h.2.2.2.1; omega, h.2.2.2.2.1, fun r => by have := h.2.2.2.2.2 r; omega⟩
theorem adv_ch (kn : Nat → Nat → Nat) (r : Nat) (T : bm_T) (x : Nat) : (bm_adv kn r T).2.2.2 x ≤ T.2.2.2 x + 1 := by
  show (if x = r then T.2.2.2 r + 1 else T.2.2.2 x) ≤ _
  split
  · rename_i e
    rw [e]
    exact Nat.le_refl _
  · omega
theorem iT.notice {T : bm_T} {c : Nat} (h : iT T c) (hc : c < 512) {kn : Nat → Nat → Nat} {r : Nat} (hr : r < 12) (hk : ∀ a b, kn a b ≤ 1000) (hd : ∀ a, kn a a = 0) (hm : T.2.2.1.2.1 < 2000) : iT (bm_adv kn r T) (c + 1) := by
  obtain ⟨h1, h2, h3, h4, h5, h6⟩ := h
  have hz := bm_sa_n kn none r T.1.2.1 T.2.2.1 12
  refine ⟨h1.adv hr hk hd, h2.push (by omega) _, h3.sa kn none r T.1.2.1 (by omega) 12 (Nat.le_refl _), ?_, ?_, fun x => ?_⟩
  · show T.1.2.1 + 1 ≤ _
    omega
  · show (bm_sa kn none r T.1.2.1 T.2.2.1 12).2.1 ≤ 4000
    omega
  · have := adv_ch kn r T x
    have := h6 x
    omega
theorem iT.link {T : bm_T} {c : Nat} (h : iT T c) (hc : c < 512) {kn : Nat → Nat → Nat} {a b : Nat} (ha : a < 12) (hb : b < 12) (hk : ∀ a b, kn a b ≤ 1000) (hd : ∀ a, kn a a = 0) (hm : T.2.2.1.2.1 < 2000) : iT (bm_greet kn a b T) (c + 1) := by
  obtain ⟨h1, h2, h3, h4, h5, h6⟩ := h
  have hz1 : (bm_adv kn a T).2.2.1.2.1 ≤ T.2.2.1.2.1 + 12 := bm_sa_n kn none a T.1.2.1 T.2.2.1 12
  have hz2 : (bm_adv kn b (bm_adv kn a T)).2.2.1.2.1 ≤ (bm_adv kn a T).2.2.1.2.1 + 12 := bm_sa_n kn none b _ _ 12
  have hz3 : (bm_sst a b (bm_adv kn b (bm_adv kn a T))).2.2.1.2.1 ≤ (bm_adv kn b (bm_adv kn a T)).2.2.1.2.1 + 12 := bm_ss_n _ a b _ 12
  have hz4 : (bm_greet kn a b T).2.2.1.2.1 ≤ (bm_sst a b (bm_adv kn b (bm_adv kn a T))).2.2.1.2.1 + 12 := bm_ss_n _ b a _ 12
  have c1 : capok (bm_adv kn a T).2.2.1 := h3.sa kn none a T.1.2.1 (by omega) 12 (Nat.le_refl _)
  have c2 : capok (bm_adv kn b (bm_adv kn a T)).2.2.1 := c1.sa kn none b _ (by omega) 12 (Nat.le_refl _)
  have c3 : capok (bm_sst a b (bm_adv kn b (bm_adv kn a T))).2.2.1 := c2.ss _ a b (by omega) 12 (Nat.le_refl _)
  refine ⟨h1.greet ha hb hk hd, (h2.push (by omega) _).push (by show T.1.2.1 + 1 < 4096; omega) _, c3.ss _ b a (by omega) 12 (Nat.le_refl _), ?_, by omega, fun x => ?_⟩
  · show T.1.2.1 + 1 + 1 ≤ _
    omega
  · have k1 := adv_ch kn a T x
    have k2 := adv_ch kn b (bm_adv kn a T) x
    have k3 := h6 x
    have k4 : (bm_greet kn a b T).2.2.2 x = (bm_adv kn b (bm_adv kn a T)).2.2.2 x := rfl
    omega
theorem iT.step {S : bm_S} {c : Nat} (h : iT S.T c) : ∀ j, j ≤ 1000 → (∀ i, i < j → bm_sgo S i) → iC (bm_sj S j).1 ∧ capok (bm_sj S j).1.2.2.1 ∧ (bm_sj S j).1.1 = S.T.1 ∧ (bm_sj S j).1.2.2.1.2.1 ≤ 4000 ∧ ∀ r, (bm_sj S j).1.2.2.2 r ≤ 1002 * c + j
  | 0, _, _ => ⟨h.1, h.2.2.1, rfl, h.2.2.2.2.1, h.2.2.2.2.2⟩
  | j + 1, hj, hg => by
    obtain ⟨q1, q2, q3, q4, q5⟩ := iT.step h j (by omega) (fun i hi => hg i (by omega))
    obtain ⟨g1, g2⟩ := hg j (by omega)
    refine ⟨q1.del g1, del_cap S.lk S.kn q2 q4, (del_1 _ _ _).trans q3, ?_, fun r => ?_⟩
    · exact Nat.le_trans (bm_del_n S.lk S.kn (bm_sj S j) g1) (by omega)
    · have := del_ch S.lk S.kn (bm_sj S j) r
      have := q5 r
      show (bm_del S.lk S.kn (bm_sj S j)).1.2.2.2 r ≤ _
      omega
theorem iT.stp {S : bm_S} {c : Nat} (h : iT S.T c) {d : Nat} (hd : d ≤ 1000) (hg : ∀ i, i < d → bm_sgo S i) : iT (bm_sj S d).1 (c + 1) := by
  obtain ⟨q1, q2, q3, q4, q5⟩ := h.step d hd hg
  refine ⟨q1, by rw [q3]; exact h.2.1, q2, by rw [q3]; have := h.2.2.2.1; omega, q4, fun r => by have := q5 r; omega⟩
theorem vw_sym (Ad hd : Nat → Nat → Nat) (r a b : Nat) (h : vw0 Ad hd r a b ≠ 0) : vw0 Ad hd r b a ≠ 0 := by
  unfold vw0 at h ⊢
  by_cases e : a < 12 ∧ b < 12
  · rw [if_pos e] at h
    rw [if_pos ⟨e.2, e.1⟩]
    by_cases e2 : Ad (hd r b) (2 + a) = 0
    · rw [if_pos e2] at h
      exact absurd rfl h
    · rw [if_neg e2] at h
      rw [if_neg h]
      exact e2
  · rw [if_neg e] at h
    exact absurd rfl h
theorem iT.rt {T : bm_T} {c es : Nat} (h : iT T c) (hc : c ≤ 512) (he : es ≤ c) : rt_ok T.1 T.2.1 T.2.2.2 es := by
  obtain ⟨⟨h1, h2, h3, h4, h5, h6, h7⟩, q2, q3, q4, q5, q6⟩ := h
  refine ⟨fun r _ => by have := q6 r; omega, fun r x hr hx => h1.1 r x hr hx, fun i j hi hj => (h1.2.1 i hi).2.2 j hj, fun r hr x => ?_, fun r hr a b => ?_⟩
  · unfold vw0
    by_cases e : x < 12 ∧ x < 12
    · rw [if_pos e]
      split
      · rfl
      · rename_i hne
        rcases h3 r x hr e.1 with z | z
        · rw [z, h2] at hne
          exact absurd rfl hne
        · have k := h4 (T.2.1 r x) (h1.1 r x hr e.1)
          rw [z] at k
          exact absurd k hne
    · rw [if_neg e]
  · unfold vw0
    split
    · rename_i e
      split
      · omega
      · have := (h1.2.1 (T.2.1 r a) (h1.1 r a hr e.1)).2.2 b e.2
        omega
    · omega
theorem iT.cap {T : bm_T} {c : Nat} (h : iT T c) : bm_cap T := ⟨Nat.le_trans h.2.1.2.1 (by decide), Nat.le_trans h.2.2.1.2.1 (by decide)⟩
/-- equal numbers are equal advertisements -/
theorem iC.same {T : bm_T} (h : iC T) {a b k : Nat} (ha : a < 12) (hb : b < 12) (hk : k < 12) : T.1.2.2 (T.2.1 a k) 1 = T.1.2.2 (T.2.1 b k) 1 ↔ T.2.1 a k = T.2.1 b k := by
  refine ⟨fun e => ?_, fun e => by rw [e]⟩
  obtain ⟨h1, h2, h3, h4, h5, h6, h7⟩ := h
  have l1 := h1.1 a k ha hk
  have l2 := h1.1 b k hb hk
  by_cases z1 : T.2.1 a k = 0
  · by_cases z2 : T.2.1 b k = 0
    · rw [z1, z2]
    · have := h5 (T.2.1 b k) (by omega) l2
      rw [z1, h2] at e
      omega
  · by_cases z2 : T.2.1 b k = 0
    · have := h5 (T.2.1 a k) (by omega) l1
      rw [z2, h2] at e
      omega
    · rcases h3 a k ha hk with q | q
      · exact absurd q z1
      · rcases h3 b k hb hk with q2 | q2
        · exact absurd q2 z2
        · exact h6 _ _ (by omega) l1 (by omega) l2 (q.trans q2.symm) e
