/-! The masks that are kept, while stores change. -/
theorem vw0_same {Ad Ad' hd hd' : Nat → Nat → Nat} {a : Nat} (h : ∀ x, x < 12 → hd' a x = hd a x ∧ ∀ j, Ad' (hd a x) j = Ad (hd a x) j) : vw0 Ad' hd' a = vw0 Ad hd a := by
  funext x y
  unfold vw0
  by_cases c : x < 12 ∧ y < 12
  · rw [if_pos c, if_pos c, (h y c.2).1, (h x c.1).1, (h y c.2).2, (h x c.1).2]
  · rw [if_neg c, if_neg c]
/-- from T to U: a router's store is as it was, or it is said to have changed -/
def bm_up (T U : bm_T) : Prop := ∀ a, a < 12 → (U.2.2.2 a = T.2.2.2 a ∧ ∀ x, x < 12 → U.2.1 a x = T.2.1 a x ∧ ∀ j, U.1.2.2 (T.2.1 a x) j = T.1.2.2 (T.2.1 a x) j) ∨ T.2.2.2 a < U.2.2.2 a
theorem bm_up.rf (T : bm_T) : bm_up T T := fun a ha => Or.inl ⟨rfl, fun x hx => ⟨rfl, fun j => rfl⟩⟩
theorem bm_up.tr {T U V : bm_T} (h : bm_up T U) (k : bm_up U V) : bm_up T V := by
  intro a ha
  rcases h a ha with ⟨h1, h2⟩ | h1
  · rcases k a ha with ⟨k1, k2⟩ | k1
    · refine Or.inl ⟨k1.trans h1, fun x hx => ⟨(k2 x hx).1.trans (h2 x hx).1, fun j => ?_⟩⟩
      have e := (k2 x hx).2 j
      rw [(h2 x hx).1] at e
      exact e.trans ((h2 x hx).2 j)
    · exact Or.inr (by omega)
  · rcases k a ha with ⟨k1, k2⟩ | k1
    · exact Or.inr (by omega)
    · exact Or.inr (by omega)
theorem bm_up.cache {T U : bm_T} (h : bm_up T U) {eb : Nat → Option Nat} {es : Nat} {mk : Nat → Nat → Int32} {ra : Nat → Nat} (k : bm_cache T.1.2.2 T.2.1 T.2.2.2 eb es mk ra) : bm_cache U.1.2.2 U.2.1 U.2.2.2 eb es mk ra := by
  intro a ha
  obtain ⟨k1, k2⟩ := k a ha
  rcases h a ha with ⟨h1, h2⟩ | h1
  · refine ⟨by omega, fun e n hn => ?_⟩
    rw [vw0_same h2]
    exact k2 (by omega) n hn
  · exact ⟨by omega, fun e => by omega⟩
theorem bm_up.rt {T U : bm_T} (h : bm_up T U) {cI cZ cG : ClassId} {q aS aE : Nat} {eb : Nat → Option Nat} {es : Nat} {wR : va_W} (k : rt_R cI cZ cG q aS aE T.1.2.2 T.2.1 T.2.2.2 eb es wR) : rt_R cI cZ cG q aS aE U.1.2.2 U.2.1 U.2.2.2 eb es wR := by
  obtain ⟨mk, ra, k1, k2⟩ := k
  exact ⟨mk, ra, k1, h.cache k2⟩
theorem bm_up_adv {kn : Nat → Nat → Nat} {r : Nat} {T : bm_T} (hok : bm_ok T) : bm_up T (bm_adv kn r T) := by
  intro a ha
  by_cases e : a = r
  · refine Or.inr ?_
    show T.2.2.2 a < (if a = r then T.2.2.2 r + 1 else T.2.2.2 a)
    rw [if_pos e, e]
    omega
  · refine Or.inl ⟨if_neg e, fun x hx => ⟨if_neg (fun z => e z.1), fun j => ?_⟩⟩
    have h1 := hok.1 a x ha hx
    exact congrFun (bm_push_old T.1 _ h1) j
theorem bm_up_sst {a b : Nat} {T : bm_T} : bm_up T (bm_sst a b T) := bm_up.rf T
theorem bm_up_greet {kn : Nat → Nat → Nat} {a b : Nat} {T : bm_T} (hok : bm_ok T) (ha : a < 12) (hk : ∀ a b, kn a b ≤ 1000) : bm_up T (bm_greet kn a b T) := ((bm_up_adv hok).tr (bm_up_adv (bm_adv_ok hok ha hk))).tr (bm_up_sst.tr bm_up_sst)
theorem bm_up_recv {kn : Nat → Nat → Nat} {r f id : Nat} {T : bm_T} : bm_up T (bm_recv kn r f id T) := by
  unfold bm_recv
  split
  · intro a ha
    by_cases e : a = r
    · refine Or.inr ?_
      show T.2.2.2 a < (if a = r then T.2.2.2 r + 1 else T.2.2.2 a)
      rw [if_pos e, e]
      omega
    · exact Or.inl ⟨if_neg e, fun x hx => ⟨if_neg (fun z => e z.1), fun j => rfl⟩⟩
  · split
    · exact bm_up.rf T
    · exact bm_up.rf T
theorem bm_up_del {lk kn : Nat → Nat → Nat} {S : bm_T × Int32} : bm_up S.1 (bm_del lk kn S).1 := by
  unfold bm_del
  split
  · exact (show bm_up S.1 (bm_dropT S.1) from bm_up.rf S.1).tr bm_up_recv
  · exact bm_up.rf S.1
theorem bm_up_step {lk kn : Nat → Nat → Nat} : ∀ (n : Nat) (S : bm_T × Int32), bm_up S.1 (bm_step lk kn n S).2.1
  | 0, S => bm_up.rf S.1
  | n + 1, S => by
    unfold bm_step
    split
    · exact bm_up_del.tr (bm_up_step n (bm_del lk kn S))
    · exact bm_up.rf S.1
