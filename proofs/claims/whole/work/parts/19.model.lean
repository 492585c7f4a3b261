/-! What the system does, as functions of plain values: the class and the reference are both held against these. -/
/-- rows in the order of their coming: how many there is room for, how many there are, what stands in them -/
abbrev bm_M (α : Type) : Type := Nat × Nat × (Nat → Nat → α)
def bm_push {α : Type} (M : bm_M α) (row : Nat → α) : bm_M α := (if M.2.1 = M.1 then 2 * M.1 else M.1, M.2.1 + 1, fun i => if i = M.2.1 then row else M.2.2 i)
def bm_drop {α : Type} (M : bm_M α) : bm_M α := (M.1, M.2.1 - 1, fun i => M.2.2 (i + 1))
def bm_set {α : Type} (M : bm_M α) (i j : Nat) (v : α) : bm_M α := (M.1, M.2.1, fun a b => if a = i ∧ b = j then v else M.2.2 a b)
def bm_up2 {α : Type} (f : Nat → Nat → α) (i j : Nat) (v : α) : Nat → Nat → α := fun a b => if a = i ∧ b = j then v else f a b
def bm_up1 {α : Type} (f : Nat → α) (i : Nat) (v : α) : Nat → α := fun a => if a = i then v else f a
def bm_row3 {α : Type} (a b c : α) : Nat → α := fun j => if j = 0 then a else if j = 1 then b else c
/-- an optional number as an int: -1 for none -/
def bm_oI : Option Nat → Int32
  | none => -1
  | some n => nI n
/-- a bit by its number, as an int in which it alone is set; no bit at all for none -/
def bm_em : Option Nat → Int32
  | none => 0
  | some b => (1 : Int32) <<< (nI b &&& 31)
/-! ### advertisements (rows: origin, number, twelve weights; row 0 is 'none'), stores, messages (rows: from, to, advertisement) -/
/-- advertisements, stores, messages, and how often each store has changed -/
abbrev bm_T : Type := bm_M Nat × (Nat → Nat → Nat) × bm_M Nat × (Nat → Nat)
def bm_adrow (r num : Nat) (kn : Nat → Nat) : Nat → Nat := fun j => if j = 0 then r else if j = 1 then num else kn (j - 2)
/-- to all that r knows, but one -/
def bm_sa (kn : Nat → Nat → Nat) (ex : Option Nat) (r id : Nat) (M : bm_M Nat) : Nat → bm_M Nat
  | 0 => M
  | m + 1 => if some m ≠ ex ∧ kn r m ≠ 0 then bm_push (bm_sa kn ex r id M m) (bm_row3 r m id) else bm_sa kn ex r id M m
/-- a store, but its own router's -/
def bm_ss (hd : Nat → Nat → Nat) (a b : Nat) (M : bm_M Nat) : Nat → bm_M Nat
  | 0 => M
  | k + 1 => if k ≠ a ∧ hd a k ≠ 0 then bm_push (bm_ss hd a b M k) (bm_row3 a b (hd a k)) else bm_ss hd a b M k
def bm_adv (kn : Nat → Nat → Nat) (r : Nat) (T : bm_T) : bm_T :=
  (bm_push T.1 (bm_adrow r (T.1.2.2 (T.2.1 r r) 1 + 1) (kn r)), bm_up2 T.2.1 r r T.1.2.1, bm_sa kn none r T.1.2.1 T.2.2.1 12, bm_up1 T.2.2.2 r (T.2.2.2 r + 1))
def bm_sst (a b : Nat) (T : bm_T) : bm_T := (T.1, T.2.1, bm_ss T.2.1 a b T.2.2.1 12, T.2.2.2)
def bm_greet (kn : Nat → Nat → Nat) (a b : Nat) (T : bm_T) : bm_T := bm_sst b a (bm_sst a b (bm_adv kn b (bm_adv kn a T)))
/-- r takes in an advertisement that came from f -/
def bm_recv (kn : Nat → Nat → Nat) (r f id : Nat) (T : bm_T) : bm_T :=
  if T.1.2.2 (T.2.1 r (T.1.2.2 id 0)) 1 < T.1.2.2 id 1 then (T.1, bm_up2 T.2.1 r (T.1.2.2 id 0) id, bm_sa kn (some f) r id T.2.2.1 12, bm_up1 T.2.2.2 r (T.2.2.2 r + 1))
  else if T.1.2.2 id 1 < T.1.2.2 (T.2.1 r (T.1.2.2 id 0)) 1 then (T.1, T.2.1, bm_push T.2.2.1 (bm_row3 r f (T.2.1 r (T.1.2.2 id 0))), T.2.2.2)
  else T
def bm_dropT (T : bm_T) : bm_T := (T.1, T.2.1, bm_drop T.2.2.1, T.2.2.2)
/-- the oldest message is delivered, or lost -/
def bm_del (lk kn : Nat → Nat → Nat) (S : bm_T × Int32) : bm_T × Int32 :=
  if lk (S.1.2.2.1.2.2 0 0) (S.1.2.2.1.2.2 0 1) = 1 then (bm_recv kn (S.1.2.2.1.2.2 0 1) (S.1.2.2.1.2.2 0 0) (S.1.2.2.1.2.2 0 2) (bm_dropT S.1), S.2)
  else (bm_dropT S.1, S.2 + nI 1)
/-- at most n messages; how many were delivered -/
def bm_step (lk kn : Nat → Nat → Nat) : Nat → (bm_T × Int32) → Nat × (bm_T × Int32)
  | 0, S => (0, S)
  | n + 1, S => if 0 < S.1.2.2.1.2.1 ∧ S.1.2.2.1.2.1 < 3900 then ((bm_step lk kn n (bm_del lk kn S)).1 + 1, (bm_step lk kn n (bm_del lk kn S)).2) else (0, S)
/-! growth of the rings: cells and slots -/
def bm_gc (T U : bm_T) : Nat := (U.1.1 - T.1.1) + (U.2.2.1.1 - T.2.2.1.1)
def bm_gs (T U : bm_T) : Nat := 2 * 14 * (U.1.1 - T.1.1) + 2 * 3 * (U.2.2.1.1 - T.2.2.1.1)
def bm_le (T U : bm_T) : Prop := T.1.1 ≤ U.1.1 ∧ T.2.2.1.1 ≤ U.2.2.1.1
theorem bm_le.rf (T : bm_T) : bm_le T T := ⟨Nat.le_refl _, Nat.le_refl _⟩
theorem bm_le.tr {T U V : bm_T} (h : bm_le T U) (k : bm_le U V) : bm_le T V := ⟨Nat.le_trans h.1 k.1, Nat.le_trans h.2 k.2⟩
theorem bm_gc_tr {T U V : bm_T} (h : bm_le T U) (k : bm_le U V) : bm_gc T U + bm_gc U V = bm_gc T V := by
  obtain ⟨h1, h2⟩ := h
  obtain ⟨k1, k2⟩ := k
  unfold bm_gc
  omega
theorem bm_gs_tr {T U V : bm_T} (h : bm_le T U) (k : bm_le U V) : bm_gs T U + bm_gs U V = bm_gs T V := by
  obtain ⟨h1, h2⟩ := h
  obtain ⟨k1, k2⟩ := k
  unfold bm_gs
  omega
theorem bm_gc_le {T U V : bm_T} (h : bm_le T U) (k : bm_le U V) : bm_gc T U ≤ bm_gc T V := by
  have := bm_gc_tr h k
  omega
theorem bm_gs_le {T U V : bm_T} (h : bm_le T U) (k : bm_le U V) : bm_gs T U ≤ bm_gs T V := by
  have := bm_gs_tr h k
  omega
theorem bm_gc_0 (T : bm_T) : bm_gc T T = 0 := by
  unfold bm_gc
  omega
theorem bm_gs_0 (T : bm_T) : bm_gs T T = 0 := by
  unfold bm_gs
  omega
theorem bm_push_le {α : Type} (M : bm_M α) (row : Nat → α) : M.1 ≤ (bm_push M row).1 := by
  unfold bm_push
  show M.1 ≤ (if M.2.1 = M.1 then 2 * M.1 else M.1)
  split <;> omega
theorem bm_sa_le (kn : Nat → Nat → Nat) (ex : Option Nat) (r id : Nat) (M : bm_M Nat) : ∀ (n j : Nat), j ≤ n → (bm_sa kn ex r id M j).1 ≤ (bm_sa kn ex r id M n).1
  | 0, j, h => by
    rw [show j = 0 by omega]
    exact Nat.le_refl _
  | n + 1, j, h => by
    by_cases e : j = n + 1
    · rw [e]
      exact Nat.le_refl _
    · refine Nat.le_trans (bm_sa_le kn ex r id M n j (by omega)) ?_
      show _ ≤ (if some n ≠ ex ∧ kn r n ≠ 0 then bm_push (bm_sa kn ex r id M n) (bm_row3 r n id) else bm_sa kn ex r id M n).1
      split
      · exact bm_push_le _ _
      · exact Nat.le_refl _
theorem bm_ss_le (hd : Nat → Nat → Nat) (a b : Nat) (M : bm_M Nat) : ∀ (n j : Nat), j ≤ n → (bm_ss hd a b M j).1 ≤ (bm_ss hd a b M n).1
  | 0, j, h => by
    rw [show j = 0 by omega]
    exact Nat.le_refl _
  | n + 1, j, h => by
    by_cases e : j = n + 1
    · rw [e]
      exact Nat.le_refl _
    · refine Nat.le_trans (bm_ss_le hd a b M n j (by omega)) ?_
      show _ ≤ (if n ≠ a ∧ hd a n ≠ 0 then bm_push (bm_ss hd a b M n) (bm_row3 a b (hd a n)) else bm_ss hd a b M n).1
      split
      · exact bm_push_le _ _
      · exact Nat.le_refl _
theorem bm_adv_le (kn : Nat → Nat → Nat) (r : Nat) (T : bm_T) : bm_le T (bm_adv kn r T) := ⟨bm_push_le _ _, bm_sa_le kn none r T.1.2.1 T.2.2.1 12 0 (by omega)⟩
theorem bm_sst_le (a b : Nat) (T : bm_T) : bm_le T (bm_sst a b T) := ⟨Nat.le_refl _, bm_ss_le T.2.1 a b T.2.2.1 12 0 (by omega)⟩
theorem bm_greet_le (kn : Nat → Nat → Nat) (a b : Nat) (T : bm_T) : bm_le T (bm_greet kn a b T) := ((bm_adv_le kn a T).tr (bm_adv_le kn b _)).tr ((bm_sst_le a b _).tr (bm_sst_le b a _))
theorem bm_dropT_le (T : bm_T) : bm_le T (bm_dropT T) := ⟨Nat.le_refl _, Nat.le_refl _⟩
theorem bm_recv_le (kn : Nat → Nat → Nat) (r f id : Nat) (T : bm_T) : bm_le T (bm_recv kn r f id T) := by
  unfold bm_recv
  split
  · exact ⟨Nat.le_refl _, bm_sa_le kn (some f) r id T.2.2.1 12 0 (by omega)⟩
  · split
    · exact ⟨Nat.le_refl _, bm_push_le _ _⟩
    · exact bm_le.rf T
theorem bm_del_le (lk kn : Nat → Nat → Nat) (S : bm_T × Int32) : bm_le S.1 (bm_del lk kn S).1 := by
  unfold bm_del
  split
  · exact (bm_dropT_le S.1).tr (bm_recv_le kn _ _ _ _)
  · exact bm_dropT_le S.1
theorem bm_step_le (lk kn : Nat → Nat → Nat) : ∀ (n : Nat) (S : bm_T × Int32), bm_le S.1 (bm_step lk kn n S).2.1
  | 0, S => bm_le.rf S.1
  | n + 1, S => by
    unfold bm_step
    split
    · exact (bm_del_le lk kn S).tr (bm_step_le lk kn n (bm_del lk kn S))
    · exact bm_le.rf S.1
/-- the weights that count by r's store -/
def bm_vw (T : bm_T) (r : Nat) : Nat → Nat → Nat := fun x y => if x < 12 ∧ y < 12 then (if T.1.2.2 (T.2.1 r y) (2 + x) = 0 then 0 else T.1.2.2 (T.2.1 r x) (2 + y)) else 0
/-- the mask of r for its neighbour n, out of the routers below k -/
def bm_mask (w : Nat → Nat → Nat) (eb : Nat → Option Nat) (r n : Nat) : Nat → Int32
  | 0 => 0
  | k + 1 => if k ≠ r ∧ bn_nh w r k = some n then bm_mask w eb r n k ||| bm_em (eb k) else bm_mask w eb r n k
/-- the spare neighbour of r on its way to d -/
def bm_alt (w : Nat → Nat → Nat) (r d : Nat) : Option Nat :=
  if r = d then none else match bn_nh w r d with
    | none => none
    | some h => bn_fst (fun m => decide (w r m ≠ 0 ∧ m ≠ h ∧ bn_far w m d < bn_far w m r + bn_far w r d)) 12
/-! ### packets (rows: bits delivered, links crossed) and copies (rows: packet, from, to, set, hops) -/
abbrev bm_D : Type := bm_M Int32 × bm_M Int32 × Int32 × Int32 × Int32
def bm_row5 (a b c d e : Int32) : Nat → Int32 := fun j => if j = 0 then a else if j = 1 then b else if j = 2 then c else if j = 3 then d else e
def bm_on (p r m : Nat) (part : Int32) (h : Nat) (D : bm_D) : bm_D :=
  if 255 ≤ h then (D.1, D.2.1, D.2.2.1, D.2.2.2.1 + 1, D.2.2.2.2)
  else (bm_set D.1 (p - 1) 1 (D.1.2.2 (p - 1) 1 + 1), bm_push D.2.1 (bm_row5 (nI p) (nI r) (nI m) part (nI (h + 1))), D.2.2.1, D.2.2.2.1, D.2.2.2.2)
/-- the parts of a set, by the masks mk -/
def bm_parts (mk : Nat → Int32) (p r h : Nat) (S : Int32 × bm_D) : Nat → Int32 × bm_D
  | 0 => S
  | m + 1 => if (bm_parts mk p r h S m).1 &&& mk m = 0 then bm_parts mk p r h S m
    else ((bm_parts mk p r h S m).1 &&& (((bm_parts mk p r h S m).1 &&& mk m) ^^^ (-1)), bm_on p r m ((bm_parts mk p r h S m).1 &&& mk m) h (bm_parts mk p r h S m).2)
def bm_pop (x : Int32) : Nat → Int32
  | 0 => 0
  | k + 1 => bm_pop x k + ((x >>> (nI k &&& 31)) &&& 1)
def bm_own (own : Int32) (p : Nat) (D : bm_D) : bm_D := if own = 0 then D else (bm_set D.1 (p - 1) 0 (D.1.2.2 (p - 1) 0 ||| own), D.2.1, D.2.2.1 + 1, D.2.2.2.1, D.2.2.2.2)
def bm_loses (left : Int32) (D : bm_D) : bm_D := (D.1, D.2.1, D.2.2.1, D.2.2.2.1, D.2.2.2.2 + bm_pop left 32)
/-- a packet that has come to r -/
def bm_handle (eb : Nat → Option Nat) (mk : Nat → Int32) (p r : Nat) (set : Int32) (h : Nat) (D : bm_D) : bm_D :=
  bm_loses (bm_parts mk p r h (set &&& ((set &&& bm_em (eb r)) ^^^ (-1)), bm_own (set &&& bm_em (eb r)) p D) 12).1 (bm_parts mk p r h (set &&& ((set &&& bm_em (eb r)) ^^^ (-1)), bm_own (set &&& bm_em (eb r)) p D) 12).2
/-- how many copies would set out -/
def bm_would (mk : Nat → Int32) (left : Int32) : Nat → Nat
  | 0 => 0
  | m + 1 => if left &&& mk m = 0 then bm_would mk left m else bm_would mk left m + 1
