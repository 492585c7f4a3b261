/-! What the system does, as functions of plain values: the class and the reference are both held against these. -/
/-- rows in the order of their coming: how many there is room for, how many there are, what stands in them -/
abbrev bm_M (α : Type) : Type := Nat × Nat × (Nat → Nat → α)
def bm_push {α : Type} (M : bm_M α) (row : Nat → α) : bm_M α := (if M.2.1 = M.1 then 2 * M.1 else M.1, M.2.1 + 1, fun i => if i = M.2.1 then row else M.2.2 i)
def bm_drop {α : Type} (M : bm_M α) : bm_M α := (M.1, M.2.1 - 1, fun i => M.2.2 (i + 1))
def bm_set {α : Type} (M : bm_M α) (i j : Nat) (v : α) : bm_M α := (M.1, M.2.1, fun a b => if a = i ∧ b = j then v else M.2.2 a b)
def bm_up2 {α : Type} (f : Nat → Nat → α) (i j : Nat) (v : α) : Nat → Nat → α := fun a b => if a = i ∧ b = j then v else f a b
def bm_up1 {α : Type} (f : Nat → α) (i : Nat) (v : α) : Nat → α := fun a => if a = i then v else f a
def bm_row3 {α : Type} (a b c : α) : Nat → α := fun j => if j = 0 then a else if j = 1 then b else c
/-- an optional number as an int: -1 for none -/
def bm_oI : Option Nat → Int32
  | none => -1
  | some n => nI n
/-- a bit by its number, as an int in which it alone is set; no bit at all for none -/
def bm_em : Option Nat → Int32
  | none => 0
  | some b => (1 : Int32) <<< (nI b &&& 31)
/-! ### advertisements (rows: origin, number, twelve weights; row 0 is 'none'), stores, messages (rows: from, to, advertisement) -/
abbrev bm_T : Type := bm_M Nat × (Nat → Nat → Nat) × bm_M Nat
def bm_adrow (r num : Nat) (kn : Nat → Nat) : Nat → Nat := fun j => if j = 0 then r else if j = 1 then num else kn (j - 2)
/-- to all that r knows, but one -/
def bm_sa (kn : Nat → Nat → Nat) (ex : Option Nat) (r id : Nat) (M : bm_M Nat) : Nat → bm_M Nat
  | 0 => M
  | m + 1 => if some m ≠ ex ∧ kn r m ≠ 0 then bm_push (bm_sa kn ex r id M m) (bm_row3 r m id) else bm_sa kn ex r id M m
/-- a store, but its own router's -/
def bm_ss (hd : Nat → Nat → Nat) (a b : Nat) (M : bm_M Nat) : Nat → bm_M Nat
  | 0 => M
  | k + 1 => if k ≠ a ∧ hd a k ≠ 0 then bm_push (bm_ss hd a b M k) (bm_row3 a b (hd a k)) else bm_ss hd a b M k
def bm_adv (kn : Nat → Nat → Nat) (r : Nat) (T : bm_T) : bm_T :=
  (bm_push T.1 (bm_adrow r (T.1.2.2 (T.2.1 r r) 1 + 1) (kn r)), bm_up2 T.2.1 r r T.1.2.1, bm_sa kn none r T.1.2.1 T.2.2 12)
def bm_greet (kn : Nat → Nat → Nat) (a b : Nat) (T : bm_T) : bm_T :=
  ((bm_adv kn b (bm_adv kn a T)).1, (bm_adv kn b (bm_adv kn a T)).2.1,
    bm_ss (bm_adv kn b (bm_adv kn a T)).2.1 b a (bm_ss (bm_adv kn b (bm_adv kn a T)).2.1 a b (bm_adv kn b (bm_adv kn a T)).2.2 12) 12)
/-- r takes in an advertisement that came from f -/
def bm_recv (kn : Nat → Nat → Nat) (r f id : Nat) (T : bm_T) : bm_T :=
  if T.1.2.2 (T.2.1 r (T.1.2.2 id 0)) 1 < T.1.2.2 id 1 then (T.1, bm_up2 T.2.1 r (T.1.2.2 id 0) id, bm_sa kn (some f) r id T.2.2 12)
  else if T.1.2.2 id 1 < T.1.2.2 (T.2.1 r (T.1.2.2 id 0)) 1 then (T.1, T.2.1, bm_push T.2.2 (bm_row3 r f (T.2.1 r (T.1.2.2 id 0))))
  else T
/-- the oldest message is delivered, or lost -/
def bm_del (ls kn : Nat → Nat → Nat) (S : bm_T × Int32) : bm_T × Int32 :=
  if ls (S.1.2.2.2.2 0 0) (S.1.2.2.2.2 0 1) = 1 then (bm_recv kn (S.1.2.2.2.2 0 1) (S.1.2.2.2.2 0 0) (S.1.2.2.2.2 0 2) (S.1.1, S.1.2.1, bm_drop S.1.2.2), S.2)
  else ((S.1.1, S.1.2.1, bm_drop S.1.2.2), S.2 + 1)
/-- at most n messages; how many were delivered -/
def bm_step (ls kn : Nat → Nat → Nat) : Nat → (bm_T × Int32) → Nat × (bm_T × Int32)
  | 0, S => (0, S)
  | n + 1, S => if 0 < S.1.2.2.2.1 ∧ S.1.2.2.2.1 < 3900 then ((bm_step ls kn n (bm_del ls kn S)).1 + 1, (bm_step ls kn n (bm_del ls kn S)).2) else (0, S)
/-- the weights that count by r's store -/
def bm_vw (T : bm_T) (r : Nat) : Nat → Nat → Nat := fun x y => if x < 12 ∧ y < 12 then (if T.1.2.2 (T.2.1 r y) (2 + x) = 0 then 0 else T.1.2.2 (T.2.1 r x) (2 + y)) else 0
/-- the mask of r for its neighbour n, out of the routers below k -/
def bm_mask (w : Nat → Nat → Nat) (eb : Nat → Option Nat) (r n : Nat) : Nat → Int32
  | 0 => 0
  | k + 1 => if k ≠ r ∧ bn_nh w r k = some n then bm_mask w eb r n k ||| bm_em (eb k) else bm_mask w eb r n k
/-- the spare neighbour of r on its way to d -/
def bm_alt (w : Nat → Nat → Nat) (r d : Nat) : Option Nat :=
  if r = d then none else match bn_nh w r d with
    | none => none
    | some h => bn_fst (fun m => decide (w r m ≠ 0 ∧ m ≠ h ∧ bn_far w m d < bn_far w m r + bn_far w r d)) 12
/-! ### packets (rows: bits delivered, links crossed) and copies (rows: packet, from, to, set, hops) -/
abbrev bm_D : Type := bm_M Int32 × bm_M Int32 × Int32 × Int32 × Int32
def bm_row5 (a b c d e : Int32) : Nat → Int32 := fun j => if j = 0 then a else if j = 1 then b else if j = 2 then c else if j = 3 then d else e
def bm_on (p r m : Nat) (part : Int32) (h : Nat) (D : bm_D) : bm_D :=
  if 255 ≤ h then (D.1, D.2.1, D.2.2.1, D.2.2.2.1 + 1, D.2.2.2.2)
  else (bm_set D.1 (p - 1) 1 (D.1.2.2 (p - 1) 1 + 1), bm_push D.2.1 (bm_row5 (nI p) (nI r) (nI m) part (nI (h + 1))), D.2.2.1, D.2.2.2.1, D.2.2.2.2)
/-- the parts of a set, by the masks mk -/
def bm_parts (mk : Nat → Int32) (p r h : Nat) (S : Int32 × bm_D) : Nat → Int32 × bm_D
  | 0 => S
  | m + 1 => if (bm_parts mk p r h S m).1 &&& mk m = 0 then bm_parts mk p r h S m
    else ((bm_parts mk p r h S m).1 &&& (((bm_parts mk p r h S m).1 &&& mk m) ^^^ (-1)), bm_on p r m ((bm_parts mk p r h S m).1 &&& mk m) h (bm_parts mk p r h S m).2)
def bm_pop (x : Int32) : Nat → Int32
  | 0 => 0
  | k + 1 => bm_pop x k + ((x >>> (nI k &&& 31)) &&& 1)
def bm_own (own : Int32) (p : Nat) (D : bm_D) : bm_D := if own = 0 then D else (bm_set D.1 (p - 1) 0 (D.1.2.2 (p - 1) 0 ||| own), D.2.1, D.2.2.1 + 1, D.2.2.2.1, D.2.2.2.2)
def bm_loses (left : Int32) (D : bm_D) : bm_D := (D.1, D.2.1, D.2.2.1, D.2.2.2.1, D.2.2.2.2 + bm_pop left 32)
/-- a packet that has come to r -/
def bm_handle (eb : Nat → Option Nat) (mk : Nat → Int32) (p r : Nat) (set : Int32) (h : Nat) (D : bm_D) : bm_D :=
  bm_loses (bm_parts mk p r h (set &&& ((set &&& bm_em (eb r)) ^^^ (-1)), bm_own (set &&& bm_em (eb r)) p D) 12).1 (bm_parts mk p r h (set &&& ((set &&& bm_em (eb r)) ^^^ (-1)), bm_own (set &&& bm_em (eb r)) p D) 12).2
/-- how many copies would set out -/
def bm_would (mk : Nat → Int32) (left : Int32) : Nat → Nat
  | 0 => 0
  | m + 1 => if left &&& mk m = 0 then bm_would mk left m else bm_would mk left m + 1
