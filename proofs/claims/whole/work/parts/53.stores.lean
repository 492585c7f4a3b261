/-! Stores: contracts of its methods. -/
def bm_same (hd : Nat → Nat → Nat) (a b : Nat) : Nat → Bool
  | 0 => true
  | n + 1 => bm_same hd a b n && decide (hd a n = hd b n)
theorem bm_same_t {hd : Nat → Nat → Nat} {a b : Nat} : ∀ n, (∀ x, x < n → hd a x = hd b x) → bm_same hd a b n = true
  | 0, _ => rfl
  | n + 1, h => by
    unfold bm_same
    rw [bm_same_t n (fun x hx => h x (by omega)), decide_eq_true (h n (by omega))]
    rfl
theorem bm_same_f {hd : Nat → Nat → Nat} {a b x : Nat} (hx : hd a x ≠ hd b x) : ∀ n, x < n → bm_same hd a b n = false
  | 0, h => absurd h (Nat.not_lt_zero x)
  | n + 1, h => by
    unfold bm_same
    by_cases e : x = n
    · subst e
      rw [decide_eq_false hx, Bool.and_false]
    · rw [bm_same_f hx n (by omega), Bool.false_and]
theorem wd_rP {D : va_G} {cl : List vw_C} {H : Heap} {Bs : List va_W} (n : Nat) (hn : Bs.length = n) (is : List Nat) (h : is.Perm (List.range n)) (hP : va_P D cl Bs.flatten H) : va_P D cl (wd_pk is Bs).flatten H := by
  subst hn
  exact wd_Pp (wd_perm is h) hP
theorem wd_rD {A : Nat → Prop} {Bs : List va_W} (n : Nat) (hn : Bs.length = n) (is : List Nat) (h : is.Perm (List.range n)) (hD : va_D A Bs.flatten) : va_D A (wd_pk is Bs).flatten := by
  subst hn
  exact wd_Dp (wd_perm is h) hD
/-- counts, as ints -/
def cN (f : Nat → Nat) : Nat → Int32 := fun r => nI (f r)
theorem cN_up {f : Nat → Nat} {r v : Nat} : upd (cN f) r (nI v) = cN (bm_up1 f r v) := by
  funext a
  show (if a = r then nI v else nI (f a)) = nI (if a = r then v else f a)
  by_cases e : a = r
  · rw [if_pos e, if_pos e]
  · rw [if_neg e, if_neg e]
theorem fl_exp (X Y : List va_W) : List.flatten (List.flatten X :: Y) = List.flatten (X ++ Y) := by simp
/-- the cells of a Stores -/
abbrev so_w (cI cG : ClassId) (h qA g qc : Nat) (rh : Nat → Nat) (hd : Nat → Nat → Nat) (ch : Nat → Nat) (wA : va_W) : va_W := List.flatten [[(h, .inr (3, [.ref qA, .ref g, .ref qc]))], [(g, .inl (cG, 12, .inr (.inr (.inr (.inr (go rh))))))], [(qc, .inl (cI, 12, .inl (cN ch)))], gd cI 12 rh (gN hd), wA]
/-- a Stores at h: the advertisements T1 (room, number, rows), the stores hd, how often each has changed -/
def so_R (cI cG : ClassId) (h : Nat) (T1 : bm_M Nat) (hd : Nat → Nat → Nat) (ch : Nat → Nat) (ws : va_W) : Prop := ∃ (qA g qc : Nat) (rh : Nat → Nat) (wA : va_W), ws = so_w cI cG h qA g qc rh hd ch wA ∧ rw_R cI 14 T1.1 T1.2.1 (gN T1.2.2) qA wA
theorem so_R.mem {cI cG : ClassId} {h : Nat} {T1 : bm_M Nat} {hd : Nat → Nat → Nat} {ch : Nat → Nat} {ws : va_W} (hR : so_R cI cG h T1 hd ch ws) : ∃ fs, (h, Sum.inr (3, fs)) ∈ ws := by
  obtain ⟨qA, g, qc, rh, wA, rfl, -⟩ := hR
  exact ⟨_, List.mem_of_getElem? (i := 0) rfl⟩
set_option maxHeartbeats 4000000 in
set_option maxRecDepth 100000 in
theorem k_Stores_hasRoomForTwo (l : Launch) (D : va_G) (cI cZ cJ cG : ClassId) {h : Nat} {T1 : bm_M Nat} {hd : Nat → Nat → Nat} {ch : Nat → Nat} {ws : va_W} (hR : so_R cI cG h T1 hd ch ws) (hn : T1.2.1 < 100000) : ct_I l D kls (ty4 cI cZ cJ cG) y_Stores_hasRoomForTwo ws_Stores_hasRoomForTwo (rm_ 1 20 0 0) [.ref h] (ws) (fun z u => z = bI (decide (T1.2.1 + 2 ≤ 1025)) ∧ u = ws) 0 0 := by
  obtain ⟨qA, g, qc, rh, wA, rfl, qA9⟩ := hR
  obtain ⟨fsA, hmA⟩ := qA9.mem
  refine ct_enterI (cc := b_Stores_hasRoomForTwo) (maxL := 1) (ret := (some .boolean)) (by decide +kernel) (Nat.le_of_ble_eq_true rfl) ?_
  intro p e s m args below meth c hx hb hml hr ht hown hlk hnm A Q hA hK hP hD hQ ls hl
  have hown : s.vm.findClass R_Stores = some m.cls := hown
  have hS : va_S A s.heap s.heap [] := va_S.rf
  have hl : lv_has ls 1 [(0, .ref h)] := hl
  refine lv_aload_n hx hb d_Stores_hasRoomForTwo_0 rfl (lv_at hl 0 rfl) ?_
  refine va_get (D := D) (ci := 3) (v := .ref qA) (C := R_Stores) (T := T_Stores) (N := 3) hx hb ht in_Stores hown hK hP 0 rfl rfl 0 (by decide) (ht _ kl_Stores_16) (fun _ h9 => h9) rfl d_Stores_hasRoomForTwo_1 ?_
  refine ct_rdV (C := R_Rows) (ci := 0) (As := []) (rest := []) ⟨hx, hb, hml, hown, ht⟩ (k_Rows_size l D cI cZ cJ cG qA9) (cb_V ht kc_Rows_size kl_Stores_33 kn_Rows ki_Rows_size ks_Rows_size hd_Rows_size ⟨Nat.le_of_ble_eq_true rfl, Nat.le_of_ble_eq_true rfl⟩) (wd_mem 4 rfl hmA) rfl rfl (wd_ct (Bs := [[(h, .inr (3, [.ref qA, .ref g, .ref qc]))], [(g, .inl (cG, 12, .inr (.inr (.inr (.inr (go rh))))))], [(qc, .inl (cI, 12, .inl (cN ch)))], gd cI 12 rh (gN hd), wA]) 5 rfl [4] [0, 1, 2, 3] (by decide) (wd_1 _)) hK hP hD hS hA rfl hl.1 rfl (Nat.le_of_ble_eq_true rfl) ⟨(show 0 + 0 ≤ 0 by omega), (show 0 + 0 ≤ 0 by omega)⟩ d_Stores_hasRoomForTwo_4 (fun rhr1 H locs hr1 hP hD hS => ?_)
  subst hr1
  refine lv_iconst (v := nI 2) hx hb d_Stores_hasRoomForTwo_7 (by decide) ?_
  refine ri_iadd hx hb d_Stores_hasRoomForTwo_8 ?_
  refine lv_sipush (v := nI 1025) hx hb d_Stores_hasRoomForTwo_9 (by decide) ?_
  refine ri_icmp_gt hx hb (by omega) (by omega) d_Stores_hasRoomForTwo_12 (tgt := 19) (by decide) (fun h1 => ?_) (fun h1 => ?_)
  · refine lv_iconst (v := nI 0) hx hb d_Stores_hasRoomForTwo_19 (by decide) ?_
    exact ct_zret (b := false) hQ hx hb hr hlk hP hD hS hK (by omega) (by omega) d_Stores_hasRoomForTwo_20 (⟨congrArg bI (decide_eq_false (by omega)).symm, rfl⟩)
  · refine lv_iconst (v := nI 1) hx hb d_Stores_hasRoomForTwo_15 (by decide) ?_
    refine lv_goto hx hb d_Stores_hasRoomForTwo_16 (tgt := 20) (by decide) ?_
    exact ct_zret (b := true) hQ hx hb hr hlk hP hD hS hK (by omega) (by omega) d_Stores_hasRoomForTwo_20 (⟨congrArg bI (decide_eq_true h1).symm, rfl⟩)
set_option maxHeartbeats 4000000 in
set_option maxRecDepth 100000 in
theorem k_Stores_advertOf (l : Launch) (D : va_G) (cI cZ cJ cG : ClassId) {h : Nat} {T1 : bm_M Nat} {hd : Nat → Nat → Nat} {ch : Nat → Nat} {ws : va_W} (hR : so_R cI cG h T1 hd ch ws) (a b : Nat) (ha : a < 12) (hb9 : b < 12) : ct_I l D kls (ty4 cI cZ cJ cG) y_Stores_advertOf ws_Stores_advertOf (rm_ 0 0 0 0) [.ref h, .int (nI a), .int (nI b)] (ws) (fun z u => z = nI (hd a b) ∧ u = ws) 0 0 := by
  obtain ⟨qA, g, qc, rh, wA, rfl, qA9⟩ := hR
  obtain ⟨fsA, hmA⟩ := qA9.mem
  refine ct_enterI (cc := b_Stores_advertOf) (maxL := 3) (ret := (some .int)) (by decide +kernel) (Nat.le_of_ble_eq_true rfl) ?_
  intro p e s m args below meth c hx hb hml hr ht hown hlk hnm A Q hA hK hP hD hQ ls hl
  have hown : s.vm.findClass R_Stores = some m.cls := hown
  have hS : va_S A s.heap s.heap [] := va_S.rf
  have hl : lv_has ls 3 [(0, .ref h), (1, .int (nI a)), (2, .int (nI b))] := hl
  refine lv_aload_n hx hb d_Stores_advertOf_0 rfl (lv_at hl 0 rfl) ?_
  refine va_get (D := D) (ci := 3) (v := .ref g) (C := R_Stores) (T := T_Stores) (N := 3) hx hb ht in_Stores hown hK hP 0 rfl rfl 1 (by decide) (ht _ kl_Stores_22) (fun _ h9 => h9) rfl d_Stores_advertOf_1 ?_
  refine lv_iload_n hx hb d_Stores_advertOf_4 rfl (lv_at hl 1 rfl) ?_
  refine ri_aald hx hb hK hP 1 3 rfl rfl (j := a) (by omega) (by omega) (go_at (by omega)) d_Stores_advertOf_5 ?_
  refine lv_iload_n hx hb d_Stores_advertOf_6 rfl (lv_at hl 2 rfl) ?_
  refine ri_gld hx hb hK hP 3 0 rfl rfl (i := a) (j := b) (by omega) (by omega) (by decide) d_Stores_advertOf_7 ?_
  refine W.eq (g2 := F0 m 8 ls [.int (nI (hd a b))]) rfl ?_
  exact ct_iret hQ hx hb hr hlk hP hD hS hK (by omega) (by omega) d_Stores_advertOf_8 (⟨rfl, rfl⟩)
set_option maxHeartbeats 4000000 in
set_option maxRecDepth 100000 in
theorem k_Stores_hasAdvertOf (l : Launch) (D : va_G) (cI cZ cJ cG : ClassId) {h : Nat} {T1 : bm_M Nat} {hd : Nat → Nat → Nat} {ch : Nat → Nat} {ws : va_W} (hR : so_R cI cG h T1 hd ch ws) (a b : Nat) (ha : a < 12) (hb9 : b < 12) (hh : hd a b < 2147483648) : ct_I l D kls (ty4 cI cZ cJ cG) y_Stores_hasAdvertOf ws_Stores_hasAdvertOf (rm_ 0 0 0 0) [.ref h, .int (nI a), .int (nI b)] (ws) (fun z u => z = bI (decide (hd a b ≠ 0)) ∧ u = ws) 0 0 := by
  obtain ⟨qA, g, qc, rh, wA, rfl, qA9⟩ := hR
  obtain ⟨fsA, hmA⟩ := qA9.mem
  refine ct_enterI (cc := b_Stores_hasAdvertOf) (maxL := 3) (ret := (some .boolean)) (by decide +kernel) (Nat.le_of_ble_eq_true rfl) ?_
  intro p e s m args below meth c hx hb hml hr ht hown hlk hnm A Q hA hK hP hD hQ ls hl
  have hown : s.vm.findClass R_Stores = some m.cls := hown
  have hS : va_S A s.heap s.heap [] := va_S.rf
  have hl : lv_has ls 3 [(0, .ref h), (1, .int (nI a)), (2, .int (nI b))] := hl
  refine lv_aload_n hx hb d_Stores_hasAdvertOf_0 rfl (lv_at hl 0 rfl) ?_
  refine va_get (D := D) (ci := 3) (v := .ref g) (C := R_Stores) (T := T_Stores) (N := 3) hx hb ht in_Stores hown hK hP 0 rfl rfl 1 (by decide) (ht _ kl_Stores_22) (fun _ h9 => h9) rfl d_Stores_hasAdvertOf_1 ?_
  refine lv_iload_n hx hb d_Stores_hasAdvertOf_4 rfl (lv_at hl 1 rfl) ?_
  refine ri_aald hx hb hK hP 1 3 rfl rfl (j := a) (by omega) (by omega) (go_at (by omega)) d_Stores_hasAdvertOf_5 ?_
  refine lv_iload_n hx hb d_Stores_hasAdvertOf_6 rfl (lv_at hl 2 rfl) ?_
  refine ri_gld hx hb hK hP 3 0 rfl rfl (i := a) (j := b) (by omega) (by omega) (by decide) d_Stores_hasAdvertOf_7 ?_
  refine W.eq (g2 := F0 m 8 ls [.int (nI (hd a b))]) rfl ?_
  refine ri_if_eq hx hb (by omega) d_Stores_hasAdvertOf_8 (tgt := 15) (by decide) (fun h1 => ?_) (fun h1 => ?_)
  · refine lv_iconst (v := nI 0) hx hb d_Stores_hasAdvertOf_15 (by decide) ?_
    exact ct_zret (b := false) hQ hx hb hr hlk hP hD hS hK (by omega) (by omega) d_Stores_hasAdvertOf_16 (⟨congrArg bI (decide_eq_false (by omega)).symm, rfl⟩)
  · refine lv_iconst (v := nI 1) hx hb d_Stores_hasAdvertOf_11 (by decide) ?_
    refine lv_goto hx hb d_Stores_hasAdvertOf_12 (tgt := 16) (by decide) ?_
    exact ct_zret (b := true) hQ hx hb hr hlk hP hD hS hK (by omega) (by omega) d_Stores_hasAdvertOf_16 (⟨congrArg bI (decide_eq_true h1).symm, rfl⟩)
set_option maxHeartbeats 4000000 in
set_option maxRecDepth 100000 in
theorem k_Stores_originOf (l : Launch) (D : va_G) (cI cZ cJ cG : ClassId) {h : Nat} {T1 : bm_M Nat} {hd : Nat → Nat → Nat} {ch : Nat → Nat} {ws : va_W} (hR : so_R cI cG h T1 hd ch ws) (i : Nat) (hi : i < T1.2.1) : ct_I l D kls (ty4 cI cZ cJ cG) y_Stores_originOf ws_Stores_originOf (rm_ 2 45 0 0) [.ref h, .int (nI i)] (ws) (fun z u => z = nI (T1.2.2 i 0) ∧ u = ws) 0 0 := by
  obtain ⟨qA, g, qc, rh, wA, rfl, qA9⟩ := hR
  obtain ⟨fsA, hmA⟩ := qA9.mem
  refine ct_enterI (cc := b_Stores_originOf) (maxL := 2) (ret := (some .int)) (by decide +kernel) (Nat.le_of_ble_eq_true rfl) ?_
  intro p e s m args below meth c hx hb hml hr ht hown hlk hnm A Q hA hK hP hD hQ ls hl
  have hown : s.vm.findClass R_Stores = some m.cls := hown
  have hS : va_S A s.heap s.heap [] := va_S.rf
  have hl : lv_has ls 2 [(0, .ref h), (1, .int (nI i))] := hl
  refine lv_aload_n hx hb d_Stores_originOf_0 rfl (lv_at hl 0 rfl) ?_
  refine va_get (D := D) (ci := 3) (v := .ref qA) (C := R_Stores) (T := T_Stores) (N := 3) hx hb ht in_Stores hown hK hP 0 rfl rfl 0 (by decide) (ht _ kl_Stores_16) (fun _ h9 => h9) rfl d_Stores_originOf_1 ?_
  refine lv_iload_n hx hb d_Stores_originOf_4 rfl (lv_at hl 1 rfl) ?_
  refine lv_iconst (v := nI 0) hx hb d_Stores_originOf_5 (by decide) ?_
  refine ct_rdV (C := R_Rows) (ci := 0) (As := [.int (nI i), .int (nI 0)]) (rest := []) ⟨hx, hb, hml, hown, ht⟩ (k_Rows_get l D cI cZ cJ cG qA9 i 0 hi (by decide)) (cb_V ht kc_Rows_get kl_Stores_36 kn_Rows ki_Rows_get ks_Rows_get hd_Rows_get ⟨Nat.le_of_ble_eq_true rfl, Nat.le_of_ble_eq_true rfl⟩) (wd_mem 4 rfl hmA) rfl rfl (wd_ct (Bs := [[(h, .inr (3, [.ref qA, .ref g, .ref qc]))], [(g, .inl (cG, 12, .inr (.inr (.inr (.inr (go rh))))))], [(qc, .inl (cI, 12, .inl (cN ch)))], gd cI 12 rh (gN hd), wA]) 5 rfl [4] [0, 1, 2, 3] (by decide) (wd_1 _)) hK hP hD hS hA rfl hl.1 rfl (Nat.le_of_ble_eq_true rfl) ⟨(show 0 + 0 ≤ 0 by omega), (show 0 + 0 ≤ 0 by omega)⟩ d_Stores_originOf_6 (fun rhr1 H locs hr1 hP hD hS => ?_)
  subst hr1
  refine W.eq (g2 := F0 m 9 ls [.int (nI (T1.2.2 i 0))]) rfl ?_
  exact ct_iret hQ hx hb hr hlk hP hD hS hK (by omega) (by omega) d_Stores_originOf_9 (⟨rfl, rfl⟩)
set_option maxHeartbeats 4000000 in
set_option maxRecDepth 100000 in
theorem k_Stores_numberOf (l : Launch) (D : va_G) (cI cZ cJ cG : ClassId) {h : Nat} {T1 : bm_M Nat} {hd : Nat → Nat → Nat} {ch : Nat → Nat} {ws : va_W} (hR : so_R cI cG h T1 hd ch ws) (i : Nat) (hi : i < T1.2.1) : ct_I l D kls (ty4 cI cZ cJ cG) y_Stores_numberOf ws_Stores_numberOf (rm_ 2 45 0 0) [.ref h, .int (nI i)] (ws) (fun z u => z = nI (T1.2.2 i 1) ∧ u = ws) 0 0 := by
  obtain ⟨qA, g, qc, rh, wA, rfl, qA9⟩ := hR
  obtain ⟨fsA, hmA⟩ := qA9.mem
  refine ct_enterI (cc := b_Stores_numberOf) (maxL := 2) (ret := (some .int)) (by decide +kernel) (Nat.le_of_ble_eq_true rfl) ?_
  intro p e s m args below meth c hx hb hml hr ht hown hlk hnm A Q hA hK hP hD hQ ls hl
  have hown : s.vm.findClass R_Stores = some m.cls := hown
  have hS : va_S A s.heap s.heap [] := va_S.rf
  have hl : lv_has ls 2 [(0, .ref h), (1, .int (nI i))] := hl
  refine lv_aload_n hx hb d_Stores_numberOf_0 rfl (lv_at hl 0 rfl) ?_
  refine va_get (D := D) (ci := 3) (v := .ref qA) (C := R_Stores) (T := T_Stores) (N := 3) hx hb ht in_Stores hown hK hP 0 rfl rfl 0 (by decide) (ht _ kl_Stores_16) (fun _ h9 => h9) rfl d_Stores_numberOf_1 ?_
  refine lv_iload_n hx hb d_Stores_numberOf_4 rfl (lv_at hl 1 rfl) ?_
  refine lv_iconst (v := nI 1) hx hb d_Stores_numberOf_5 (by decide) ?_
  refine ct_rdV (C := R_Rows) (ci := 0) (As := [.int (nI i), .int (nI 1)]) (rest := []) ⟨hx, hb, hml, hown, ht⟩ (k_Rows_get l D cI cZ cJ cG qA9 i 1 hi (by decide)) (cb_V ht kc_Rows_get kl_Stores_36 kn_Rows ki_Rows_get ks_Rows_get hd_Rows_get ⟨Nat.le_of_ble_eq_true rfl, Nat.le_of_ble_eq_true rfl⟩) (wd_mem 4 rfl hmA) rfl rfl (wd_ct (Bs := [[(h, .inr (3, [.ref qA, .ref g, .ref qc]))], [(g, .inl (cG, 12, .inr (.inr (.inr (.inr (go rh))))))], [(qc, .inl (cI, 12, .inl (cN ch)))], gd cI 12 rh (gN hd), wA]) 5 rfl [4] [0, 1, 2, 3] (by decide) (wd_1 _)) hK hP hD hS hA rfl hl.1 rfl (Nat.le_of_ble_eq_true rfl) ⟨(show 0 + 0 ≤ 0 by omega), (show 0 + 0 ≤ 0 by omega)⟩ d_Stores_numberOf_6 (fun rhr1 H locs hr1 hP hD hS => ?_)
  subst hr1
  refine W.eq (g2 := F0 m 9 ls [.int (nI (T1.2.2 i 1))]) rfl ?_
  exact ct_iret hQ hx hb hr hlk hP hD hS hK (by omega) (by omega) d_Stores_numberOf_9 (⟨rfl, rfl⟩)
set_option maxHeartbeats 4000000 in
set_option maxRecDepth 100000 in
theorem k_Stores_changesOf (l : Launch) (D : va_G) (cI cZ cJ cG : ClassId) {h : Nat} {T1 : bm_M Nat} {hd : Nat → Nat → Nat} {ch : Nat → Nat} {ws : va_W} (hR : so_R cI cG h T1 hd ch ws) (a : Nat) (ha : a < 12) : ct_I l D kls (ty4 cI cZ cJ cG) y_Stores_changesOf ws_Stores_changesOf (rm_ 0 0 0 0) [.ref h, .int (nI a)] (ws) (fun z u => z = nI (ch a) ∧ u = ws) 0 0 := by
  obtain ⟨qA, g, qc, rh, wA, rfl, qA9⟩ := hR
  obtain ⟨fsA, hmA⟩ := qA9.mem
  refine ct_enterI (cc := b_Stores_changesOf) (maxL := 2) (ret := (some .int)) (by decide +kernel) (Nat.le_of_ble_eq_true rfl) ?_
  intro p e s m args below meth c hx hb hml hr ht hown hlk hnm A Q hA hK hP hD hQ ls hl
  have hown : s.vm.findClass R_Stores = some m.cls := hown
  have hS : va_S A s.heap s.heap [] := va_S.rf
  have hl : lv_has ls 2 [(0, .ref h), (1, .int (nI a))] := hl
  refine lv_aload_n hx hb d_Stores_changesOf_0 rfl (lv_at hl 0 rfl) ?_
  refine va_get (D := D) (ci := 3) (v := .ref qc) (C := R_Stores) (T := T_Stores) (N := 3) hx hb ht in_Stores hown hK hP 0 rfl rfl 2 (by decide) (ht _ kl_Stores_25) (fun _ h9 => h9) rfl d_Stores_changesOf_1 ?_
  refine lv_iload_n hx hb d_Stores_changesOf_4 rfl (lv_at hl 1 rfl) ?_
  refine ri_iald hx hb hK hP 2 0 rfl rfl (j := a) (by omega) (by omega) d_Stores_changesOf_5 ?_
  refine W.eq (g2 := F0 m 6 ls [.int (nI (ch a))]) rfl ?_
  exact ct_iret hQ hx hb hr hlk hP hD hS hK (by omega) (by omega) d_Stores_changesOf_6 (⟨rfl, rfl⟩)
set_option maxHeartbeats 4000000 in
set_option maxRecDepth 100000 in
theorem k_Stores_keep (l : Launch) (D : va_G) (cI cZ cJ cG : ClassId) {h : Nat} {T1 : bm_M Nat} {hd : Nat → Nat → Nat} {ch : Nat → Nat} {ws : va_W} (hR : so_R cI cG h T1 hd ch ws) (a i : Nat) (ha : a < 12) (hi : i < T1.2.1) (ho : T1.2.2 i 0 < 12) : ct_V l D kls (ty4 cI cZ cJ cG) y_Stores_keep ws_Stores_keep (rm_ 3 66 0 0) [.ref h, .int (nI a), .int (nI i)] (ws) (fun u => so_R cI cG h T1 (bm_up2 hd a (T1.2.2 i 0) i) (bm_up1 ch a (ch a + 1)) u) 0 0 := by
  obtain ⟨qA, g, qc, rh, wA, rfl, qA9⟩ := hR
  obtain ⟨fsA, hmA⟩ := qA9.mem
  have hR2 : so_R cI cG h T1 hd ch (so_w cI cG h qA g qc rh hd ch wA) := ⟨qA, g, qc, rh, wA, rfl, qA9⟩
  refine ct_enterV (cc := b_Stores_keep) (maxL := 3) (ret := none) (by decide +kernel) (Nat.le_of_ble_eq_true rfl) ?_
  intro p e s m args below meth c hx hb hml hr ht hown hlk hnm A Q hA hK hP hD hQ ls hl
  have hown : s.vm.findClass R_Stores = some m.cls := hown
  have hS : va_S A s.heap s.heap [] := va_S.rf
  have hl : lv_has ls 3 [(0, .ref h), (1, .int (nI a)), (2, .int (nI i))] := hl
  refine lv_aload_n hx hb d_Stores_keep_0 rfl (lv_at hl 0 rfl) ?_
  refine va_get (D := D) (ci := 3) (v := .ref g) (C := R_Stores) (T := T_Stores) (N := 3) hx hb ht in_Stores hown hK hP 0 rfl rfl 1 (by decide) (ht _ kl_Stores_22) (fun _ h9 => h9) rfl d_Stores_keep_1 ?_
  refine lv_iload_n hx hb d_Stores_keep_4 rfl (lv_at hl 1 rfl) ?_
  refine ri_aald hx hb hK hP 1 3 rfl rfl (j := a) (by omega) (by omega) (go_at (by omega)) d_Stores_keep_5 ?_
  refine lv_aload_n hx hb d_Stores_keep_6 rfl (lv_at hl 0 rfl) ?_
  refine lv_iload_n hx hb d_Stores_keep_7 rfl (lv_at hl 2 rfl) ?_
  refine ct_rdV (C := R_Stores) (ci := 3) (As := [.int (nI i)]) (rest := [.ref (rh a)]) ⟨hx, hb, hml, hown, ht⟩ (k_Stores_originOf l D cI cZ cJ cG hR2 i hi) (cb_V ht kc_Stores_originOf kl_Stores_40 kn_Stores ki_Stores_originOf ks_Stores_originOf hd_Stores_originOf ⟨Nat.le_of_ble_eq_true rfl, Nat.le_of_ble_eq_true rfl⟩) (List.mem_of_getElem? (i := 0) rfl) rfl rfl (pm_all _) hK hP hD hS hA rfl hl.1 rfl (Nat.le_of_ble_eq_true rfl) ⟨(show 0 + 0 ≤ 0 by omega), (show 0 + 0 ≤ 0 by omega)⟩ d_Stores_keep_8 (fun rhr1 H locs hr1 hP hD hS => ?_)
  subst hr1
  refine lv_iload_n hx hb d_Stores_keep_11 rfl (lv_at hl 2 rfl) ?_
  refine ri_gst hx hb hK hP hD hS 3 0 rfl rfl (i := a) (j := T1.2.2 i 0) (by omega) (by omega) (by decide) d_Stores_keep_12 (fun H locs hP hD hS => ?_)
  rw [gN_up] at hP hD
  have hP : va_P D kls (List.flatten [[(h, .inr (3, [.ref qA, .ref g, .ref qc]))], [(g, .inl (cG, 12, .inr (.inr (.inr (.inr (go rh))))))], [(qc, .inl (cI, 12, .inl (cN ch)))], gd cI 12 rh (gN (bm_up2 hd a (T1.2.2 i 0) i)), wA]) H := hP
  have hD : va_D A (List.flatten [[(h, .inr (3, [.ref qA, .ref g, .ref qc]))], [(g, .inl (cG, 12, .inr (.inr (.inr (.inr (go rh))))))], [(qc, .inl (cI, 12, .inl (cN ch)))], gd cI 12 rh (gN (bm_up2 hd a (T1.2.2 i 0) i)), wA]) := hD
  refine lv_aload_n hx hb d_Stores_keep_13 rfl (lv_at hl 0 rfl) ?_
  refine va_get (D := D) (ci := 3) (v := .ref qc) (C := R_Stores) (T := T_Stores) (N := 3) hx hb ht in_Stores hown hK hP 0 rfl rfl 2 (by decide) (ht _ kl_Stores_25) (fun _ h9 => h9) rfl d_Stores_keep_14 ?_
  refine lv_iload_n hx hb d_Stores_keep_17 rfl (lv_at hl 1 rfl) ?_
  refine lv_dup2_11 hx hb d_Stores_keep_18 rfl rfl ?_
  refine ri_iald hx hb hK hP 2 0 rfl rfl (j := a) (by omega) (by omega) d_Stores_keep_19 ?_
  refine W.eq (g2 := F0 m 20 ls [.int (nI (ch a)), .int (nI a), .ref qc]) rfl ?_
  refine lv_iconst (v := nI 1) hx hb d_Stores_keep_20 (by decide) ?_
  refine ri_iadd hx hb d_Stores_keep_21 ?_
  refine ri_iast hx hb hK hP hD hS 2 0 rfl rfl (j := a) (by omega) (by omega) d_Stores_keep_22 (fun H locs hP hD hS => ?_)
  have hP : va_P D kls (List.flatten [[(h, .inr (3, [.ref qA, .ref g, .ref qc]))], [(g, .inl (cG, 12, .inr (.inr (.inr (.inr (go rh))))))], [(qc, .inl (cI, 12, .inl (upd (cN ch) a (nI ((ch a) + 1)))))], gd cI 12 rh (gN (bm_up2 hd a (T1.2.2 i 0) i)), wA]) H := hP
  have hD : va_D A (List.flatten [[(h, .inr (3, [.ref qA, .ref g, .ref qc]))], [(g, .inl (cG, 12, .inr (.inr (.inr (.inr (go rh))))))], [(qc, .inl (cI, 12, .inl (upd (cN ch) a (nI ((ch a) + 1)))))], gd cI 12 rh (gN (bm_up2 hd a (T1.2.2 i 0) i)), wA]) := hD
  exact ct_vret hQ hx hb hr hlk hP hD hS hK (by omega) (by omega) d_Stores_keep_23 (⟨qA, g, qc, rh, wA, by rw [cN_up], qA9⟩)
set_option maxHeartbeats 4000000 in
set_option maxRecDepth 100000 in
theorem k_Stores_areSame (l : Launch) (D : va_G) (cI cZ cJ cG : ClassId) {h : Nat} {T1 : bm_M Nat} {hd : Nat → Nat → Nat} {ch : Nat → Nat} {ws : va_W} (hR : so_R cI cG h T1 hd ch ws) (a b : Nat) (ha : a < 12) (hb9 : b < 12) (hh : ∀ x y, x < 12 → y < 12 → hd x y < 2147483648) : ct_I l D kls (ty4 cI cZ cJ cG) y_Stores_areSame ws_Stores_areSame (rm_ 0 0 0 0) [.ref h, .int (nI a), .int (nI b)] (ws) (fun z u => z = bI (bm_same hd a b 12) ∧ u = ws) 0 0 := by
  obtain ⟨qA, g, qc, rh, wA, rfl, qA9⟩ := hR
  obtain ⟨fsA, hmA⟩ := qA9.mem
  refine ct_enterI (cc := b_Stores_areSame) (maxL := 4) (ret := (some .boolean)) (by decide +kernel) (Nat.le_of_ble_eq_true rfl) ?_
  intro p e s m args below meth c hx hb hml hr ht hown hlk hnm A Q hA hK hP hD hQ ls hl
  have hown : s.vm.findClass R_Stores = some m.cls := hown
  have hS : va_S A s.heap s.heap [] := va_S.rf
  have hl : lv_has ls 4 [(0, .ref h), (1, .int (nI a)), (2, .int (nI b))] := hl
  have loop : ∀ (k j : Nat)  (H : Heap) (locs : List Loc) (ls : Array Slot), j + k = 12 → (∀ x, x < j → hd a x = hd b x) → va_P D kls (List.flatten [[(h, .inr (3, [.ref qA, .ref g, .ref qc]))], [(g, .inl (cG, 12, .inr (.inr (.inr (.inr (go rh))))))], [(qc, .inl (cI, 12, .inl (cN ch)))], gd cI 12 rh (gN hd), wA]) H → va_D A (List.flatten [[(h, .inr (3, [.ref qA, .ref g, .ref qc]))], [(g, .inl (cG, 12, .inr (.inr (.inr (.inr (go rh))))))], [(qc, .inl (cI, 12, .inl (cN ch)))], gd cI 12 rh (gN hd), wA]) → va_S A s.heap H locs → lv_has ls 4 [(3, .int (nI j)), (0, .ref h), (1, .int (nI a)), (2, .int (nI b))] → W p l e (rm_ 0 0 0 0) s m args below meth c H locs 0 0 Q (F0 m 2 ls []) := by
    intro k
    induction k with
    | zero =>
      intro j H locs ls hk hs hP hD hS hl
      refine lv_iload_n hx hb d_Stores_areSame_2 rfl (lv_at hl 0 rfl) ?_
      refine lv_bipush (v := nI 12) hx hb d_Stores_areSame_3 (by decide) ?_
      refine ri_icmp_ge hx hb (by omega) (by omega) d_Stores_areSame_5 (tgt := 35) (by decide) (fun hc9 => ?_) (fun hc9 => ?_)
      · refine lv_iconst (v := nI 1) hx hb d_Stores_areSame_35 (by decide) ?_
        exact ct_zret (b := true) hQ hx hb hr hlk hP hD hS hK (by omega) (by omega) d_Stores_areSame_36 (⟨congrArg bI (bm_same_t 12 (fun x hx => hs x (by omega))).symm, rfl⟩)
      · exact absurd hc9 (by omega)
    | succ k ih =>
      intro j H locs ls hk hs hP hD hS hl
      refine lv_iload_n hx hb d_Stores_areSame_2 rfl (lv_at hl 0 rfl) ?_
      refine lv_bipush (v := nI 12) hx hb d_Stores_areSame_3 (by decide) ?_
      refine ri_icmp_ge hx hb (by omega) (by omega) d_Stores_areSame_5 (tgt := 35) (by decide) (fun hc9 => ?_) (fun hc9 => ?_)
      · exact absurd hc9 (by omega)
      · refine lv_aload_n hx hb d_Stores_areSame_8 rfl (lv_at hl 1 rfl) ?_
        refine va_get (D := D) (ci := 3) (v := .ref g) (C := R_Stores) (T := T_Stores) (N := 3) hx hb ht in_Stores hown hK hP 0 rfl rfl 1 (by decide) (ht _ kl_Stores_22) (fun _ h9 => h9) rfl d_Stores_areSame_9 ?_
        refine lv_iload_n hx hb d_Stores_areSame_12 rfl (lv_at hl 2 rfl) ?_
        refine ri_aald hx hb hK hP 1 3 rfl rfl (j := a) (by omega) (by omega) (go_at (by omega)) d_Stores_areSame_13 ?_
        refine lv_iload_n hx hb d_Stores_areSame_14 rfl (lv_at hl 0 rfl) ?_
        refine ri_gld hx hb hK hP 3 0 rfl rfl (i := a) (j := j) (by omega) (by omega) (by decide) d_Stores_areSame_15 ?_
        refine W.eq (g2 := F0 m 16 ls [.int (nI (hd a j))]) rfl ?_
        refine lv_aload_n hx hb d_Stores_areSame_16 rfl (lv_at hl 1 rfl) ?_
        refine va_get (D := D) (ci := 3) (v := .ref g) (C := R_Stores) (T := T_Stores) (N := 3) hx hb ht in_Stores hown hK hP 0 rfl rfl 1 (by decide) (ht _ kl_Stores_22) (fun _ h9 => h9) rfl d_Stores_areSame_17 ?_
        refine lv_iload_n hx hb d_Stores_areSame_20 rfl (lv_at hl 3 rfl) ?_
        refine ri_aald hx hb hK hP 1 3 rfl rfl (j := b) (by omega) (by omega) (go_at (by omega)) d_Stores_areSame_21 ?_
        refine lv_iload_n hx hb d_Stores_areSame_22 rfl (lv_at hl 0 rfl) ?_
        refine ri_gld hx hb hK hP 3 0 rfl rfl (i := b) (j := j) (by omega) (by omega) (by decide) d_Stores_areSame_23 ?_
        refine W.eq (g2 := F0 m 24 ls [.int (nI (hd b j)), .int (nI (hd a j))]) rfl ?_
        refine ri_icmp_eq hx hb (hh _ _ ha (by omega)) (hh _ _ hb9 (by omega)) d_Stores_areSame_24 (tgt := 29) (by decide) (fun h1 => ?_) (fun h1 => ?_)
        · refine ri_iinc hx hb d_Stores_areSame_29 hl (k := 0) rfl (by decide) rfl (fun ls hl => ?_)
          have hl : lv_has ls 4 [(3, .int (nI (j + 1))), (0, .ref h), (1, .int (nI a)), (2, .int (nI b))] := hl
          refine lv_goto hx hb d_Stores_areSame_32 (tgt := 2) (by decide) ?_
          exact ih (j + 1) H locs ls (by omega) (lt_s hs h1) hP hD hS hl
        · refine lv_iconst (v := nI 0) hx hb d_Stores_areSame_27 (by decide) ?_
          exact ct_zret (b := false) hQ hx hb hr hlk hP hD hS hK (by omega) (by omega) d_Stores_areSame_28 (⟨congrArg bI (bm_same_f h1 12 (by omega)).symm, rfl⟩)
  refine lv_iconst (v := nI 0) hx hb d_Stores_areSame_0 (by decide) ?_
  refine lv_istore_n hx hb d_Stores_areSame_1 rfl hl (by decide) rfl (fun ls hl => ?_)
  have hl : lv_has ls 4 [(3, .int (nI 0)), (0, .ref h), (1, .int (nI a)), (2, .int (nI b))] := hl
  exact loop 12 0 s.heap [] ls (by omega) (fun x hx => absurd hx (by omega)) hP hD hS hl
set_option maxHeartbeats 4000000 in
set_option maxRecDepth 100000 in
theorem k_Stores_makeAdvert (l : Launch) (D : va_G) (cI cZ cJ cG : ClassId) {h : Nat} {T1 : bm_M Nat} {hd : Nat → Nat → Nat} {ch : Nat → Nat} {ws : va_W} {hL : Nat} {lk kn : Nat → Nat → Nat} {wL : va_W} (hR : so_R cI cG h T1 hd ch ws) (hRL : lk_R cI cG hL lk kn wL) (r : Nat) (hr9 : r < 12) (hi : hd r r < T1.2.1) (hc : T1.1 ≤ 50000) : ct_I l D kls (ty4 cI cZ cJ cG) y_Stores_makeAdvert ws_Stores_makeAdvert (rm_ 3 73 ((if T1.2.1 = T1.1 then 2 * T1.1 else T1.1) - T1.1) (2 * 14 * ((if T1.2.1 = T1.1 then 2 * T1.1 else T1.1) - T1.1))) [.ref h, .int (nI r), .ref hL] (List.flatten [ws, wL]) (fun z u => z = nI T1.2.1 ∧ ∃ wS, u = List.flatten [wS, wL] ∧ so_R cI cG h (bm_push T1 (bm_adrow r (T1.2.2 (hd r r) 1 + 1) (kn r))) hd ch wS) ((if T1.2.1 = T1.1 then 2 * T1.1 else T1.1) - T1.1) (2 * 14 * ((if T1.2.1 = T1.1 then 2 * T1.1 else T1.1) - T1.1)) := by
  obtain ⟨qA, g, qc, rh, wA, rfl, qA9⟩ := hR
  obtain ⟨fsA, hmA⟩ := qA9.mem
  obtain ⟨fsL, hmL⟩ := hRL.mem
  have hR2 : so_R cI cG h T1 hd ch (so_w cI cG h qA g qc rh hd ch wA) := ⟨qA, g, qc, rh, wA, rfl, qA9⟩
  refine ct_enterI (cc := b_Stores_makeAdvert) (maxL := 6) (ret := (some .int)) (by decide +kernel) (Nat.le_of_ble_eq_true rfl) ?_
  intro p e s m args below meth c hx hb hml hr ht hown hlk hnm A Q hA hK hP hD hQ ls hl
  have hown : s.vm.findClass R_Stores = some m.cls := hown
  have hS : va_S A s.heap s.heap [] := va_S.rf
  have hl : lv_has ls 6 [(0, .ref h), (1, .int (nI r)), (2, .ref hL)] := hl
  rw [fl_exp] at hP hD
  have hP : va_P D kls (List.flatten [[(h, .inr (3, [.ref qA, .ref g, .ref qc]))], [(g, .inl (cG, 12, .inr (.inr (.inr (.inr (go rh))))))], [(qc, .inl (cI, 12, .inl (cN ch)))], gd cI 12 rh (gN hd), wA, wL]) s.heap := hP
  have hD : va_D A (List.flatten [[(h, .inr (3, [.ref qA, .ref g, .ref qc]))], [(g, .inl (cG, 12, .inr (.inr (.inr (.inr (go rh))))))], [(qc, .inl (cI, 12, .inl (cN ch)))], gd cI 12 rh (gN hd), wA, wL]) := hD
  have loop : ∀ (k j : Nat) (gg : Nat → Nat → Int32) (wB : va_W) (H : Heap) (locs : List Loc) (ls : Array Slot), j + k = 12 → (rw_R cI 14 (if T1.2.1 = T1.1 then 2 * T1.1 else T1.1) (T1.2.1 + 1) gg qA wB) → (∀ i x, i < T1.2.1 → x < 14 → gg i x = nI (T1.2.2 i x)) → (gg T1.2.1 0 = nI r) → (gg T1.2.1 1 = nI (T1.2.2 (hd r r) 1 + 1)) → (∀ x, x < j → gg T1.2.1 (2 + x) = nI (kn r x)) → va_P D kls (List.flatten [[(h, .inr (3, [.ref qA, .ref g, .ref qc]))], [(g, .inl (cG, 12, .inr (.inr (.inr (.inr (go rh))))))], [(qc, .inl (cI, 12, .inl (cN ch)))], wB, gd cI 12 rh (gN hd), wL]) H → va_D A (List.flatten [[(h, .inr (3, [.ref qA, .ref g, .ref qc]))], [(g, .inl (cG, 12, .inr (.inr (.inr (.inr (go rh))))))], [(qc, .inl (cI, 12, .inl (cN ch)))], wB, gd cI 12 rh (gN hd), wL]) → va_S A s.heap H locs → lv_has ls 6 [(5, .int (nI j)), (4, .int (nI T1.2.1)), (3, .int (nI (T1.2.2 (hd r r) 1 + 1))), (0, .ref h), (1, .int (nI r)), (2, .ref hL)] → W p l e (rm_ 3 73 ((if T1.2.1 = T1.1 then 2 * T1.1 else T1.1) - T1.1) (2 * 14 * ((if T1.2.1 = T1.1 then 2 * T1.1 else T1.1) - T1.1))) s m args below meth c H locs (0 + ((if T1.2.1 = T1.1 then 2 * T1.1 else T1.1) - T1.1) + 0 + 0) (0 + 2 * 14 * ((if T1.2.1 = T1.1 then 2 * T1.1 else T1.1) - T1.1) + 0 + 0) Q (F0 m 49 ls []) := by
    intro k
    induction k with
    | zero =>
      intro j gg wB H locs ls hk q5 f1 f2 f3 f4 hP hD hS hl
      refine lv_iload hx hb d_Stores_makeAdvert_49 (lv_at hl 0 rfl) ?_
      refine lv_bipush (v := nI 12) hx hb d_Stores_makeAdvert_51 (by decide) ?_
      refine ri_icmp_ge hx hb (by omega) (by omega) d_Stores_makeAdvert_53 (tgt := 82) (by decide) (fun hc9 => ?_) (fun hc9 => ?_)
      · have hP := wd_rP 6 rfl [0, 1, 2, 4, 3, 5] (by decide) hP
        have hD := wd_rD 6 rfl [0, 1, 2, 4, 3, 5] (by decide) hD
        have hP : va_P D kls (List.flatten [[(h, .inr (3, [.ref qA, .ref g, .ref qc]))], [(g, .inl (cG, 12, .inr (.inr (.inr (.inr (go rh))))))], [(qc, .inl (cI, 12, .inl (cN ch)))], gd cI 12 rh (gN hd), wB, wL]) H := hP
        have hD : va_D A (List.flatten [[(h, .inr (3, [.ref qA, .ref g, .ref qc]))], [(g, .inl (cG, 12, .inr (.inr (.inr (.inr (go rh))))))], [(qc, .inl (cI, 12, .inl (cN ch)))], gd cI 12 rh (gN hd), wB, wL]) := hD
        have hend : ∃ wS, List.flatten [[(h, .inr (3, [.ref qA, .ref g, .ref qc]))], [(g, .inl (cG, 12, .inr (.inr (.inr (.inr (go rh))))))], [(qc, .inl (cI, 12, .inl (cN ch)))], gd cI 12 rh (gN hd), wB, wL] = List.flatten [wS, wL] ∧ so_R cI cG h (bm_push T1 (bm_adrow r (T1.2.2 (hd r r) 1 + 1) (kn r))) hd ch wS := by
          refine ⟨so_w cI cG h qA g qc rh hd ch wB, (by rw [fl_exp]; rfl), qA, g, qc, rh, wB, rfl, ?_⟩
          refine rw_R.congr q5 (fun i x hi hx => ?_)
          have hi : i < T1.2.1 + 1 := hi
          show gg i x = nI ((if i = T1.2.1 then bm_adrow r (T1.2.2 (hd r r) 1 + 1) (kn r) else T1.2.2 i) x)
          by_cases e : i = T1.2.1
          · rw [if_pos e, e]
            unfold bm_adrow
            by_cases e0 : x = 0
            · rw [if_pos e0, e0]; exact f2
            · by_cases e1 : x = 1
              · rw [if_neg e0, if_pos e1, e1]; exact f3
              · rw [if_neg e0, if_neg e1, ← f4 (x - 2) (by omega), show 2 + (x - 2) = x by omega]
          · rw [if_neg e]
            exact f1 i x (by omega) hx
        refine lv_iload hx hb d_Stores_makeAdvert_82 (lv_at hl 1 rfl) ?_
        exact ct_iret hQ hx hb hr hlk hP hD hS hK (by omega) (by omega) d_Stores_makeAdvert_84 (⟨rfl, hend⟩)
      · exact absurd hc9 (by omega)
    | succ k ih =>
      intro j gg wB H locs ls hk q5 f1 f2 f3 f4 hP hD hS hl
      refine lv_iload hx hb d_Stores_makeAdvert_49 (lv_at hl 0 rfl) ?_
      refine lv_bipush (v := nI 12) hx hb d_Stores_makeAdvert_51 (by decide) ?_
      refine ri_icmp_ge hx hb (by omega) (by omega) d_Stores_makeAdvert_53 (tgt := 82) (by decide) (fun hc9 => ?_) (fun hc9 => ?_)
      · exact absurd hc9 (by omega)
      · obtain ⟨fs5, hm5⟩ := q5.mem
        refine lv_aload_n hx hb d_Stores_makeAdvert_56 rfl (lv_at hl 3 rfl) ?_
        refine va_get (D := D) (ci := 3) (v := .ref qA) (C := R_Stores) (T := T_Stores) (N := 3) hx hb ht in_Stores hown hK hP 0 rfl rfl 0 (by decide) (ht _ kl_Stores_16) (fun _ h9 => h9) rfl d_Stores_makeAdvert_57 ?_
        refine lv_iload hx hb d_Stores_makeAdvert_60 (lv_at hl 1 rfl) ?_
        refine lv_iconst (v := nI 2) hx hb d_Stores_makeAdvert_62 (by decide) ?_
        refine lv_iload hx hb d_Stores_makeAdvert_63 (lv_at hl 0 rfl) ?_
        refine ri_iadd hx hb d_Stores_makeAdvert_65 ?_
        refine lv_aload_n hx hb d_Stores_makeAdvert_66 rfl (lv_at hl 5 rfl) ?_
        refine lv_iload_n hx hb d_Stores_makeAdvert_67 rfl (lv_at hl 4 rfl) ?_
        refine lv_iload hx hb d_Stores_makeAdvert_68 (lv_at hl 0 rfl) ?_
        refine ct_rdV (C := R_Links) (ci := 2) (As := [.int (nI r), .int (nI j)]) (rest := [.int (nI (2 + j)), .int (nI T1.2.1), .ref qA]) ⟨hx, hb, hml, hown, ht⟩ (k_Links_knownWeight l D cI cZ cJ cG hRL r j hr9 (by omega)) (cb_V ht kc_Links_knownWeight kl_Stores_51 kn_Links ki_Links_knownWeight ks_Links_knownWeight hd_Links_knownWeight ⟨Nat.le_of_ble_eq_true rfl, Nat.le_of_ble_eq_true rfl⟩) (wd_mem 5 rfl hmL) rfl rfl (wd_ct (Bs := [[(h, .inr (3, [.ref qA, .ref g, .ref qc]))], [(g, .inl (cG, 12, .inr (.inr (.inr (.inr (go rh))))))], [(qc, .inl (cI, 12, .inl (cN ch)))], wB, gd cI 12 rh (gN hd), wL]) 6 rfl [5] [0, 1, 2, 3, 4] (by decide) (wd_1 _)) hK hP hD hS hA rfl hl.1 rfl (Nat.le_of_ble_eq_true rfl) ⟨(show (0 + ((if T1.2.1 = T1.1 then 2 * T1.1 else T1.1) - T1.1) + 0 + 0) + 0 ≤ ((if T1.2.1 = T1.1 then 2 * T1.1 else T1.1) - T1.1) by omega), (show (0 + 2 * 14 * ((if T1.2.1 = T1.1 then 2 * T1.1 else T1.1) - T1.1) + 0 + 0) + 0 ≤ (2 * 14 * ((if T1.2.1 = T1.1 then 2 * T1.1 else T1.1) - T1.1)) by omega)⟩ d_Stores_makeAdvert_70 (fun rhr3 H locs hr3 hP hD hS => ?_)
        subst hr3
        refine ct_callVV (C := R_Rows) (ci := 0) (As := [.int (nI T1.2.1), .int (nI (2 + j)), .int (nI (kn r j))]) (rest := []) ⟨hx, hb, hml, hown, ht⟩ (k_Rows_set l D cI cZ cJ cG q5 (T1.2.1) (2 + j) (nI (kn r j)) (by omega) (by omega)) (cb_V ht kc_Rows_set kl_Stores_47 kn_Rows ki_Rows_set ks_Rows_set hd_Rows_set ⟨Nat.le_of_ble_eq_true rfl, Nat.le_of_ble_eq_true rfl⟩) (wd_mem 3 rfl hm5) rfl rfl (wd_ct (Bs := [[(h, .inr (3, [.ref qA, .ref g, .ref qc]))], [(g, .inl (cG, 12, .inr (.inr (.inr (.inr (go rh))))))], [(qc, .inl (cI, 12, .inl (cN ch)))], wB, gd cI 12 rh (gN hd), wL]) 6 rfl [3] [0, 1, 2, 4, 5] (by decide) (wd_1 _)) hK hP hD hS hA rfl hl.1 rfl (Nat.le_of_ble_eq_true rfl) ⟨(by simp only [Nat.add_zero, Nat.zero_add]; exact Nat.le_refl _), (by simp only [Nat.add_zero, Nat.zero_add]; exact Nat.le_refl _)⟩ d_Stores_makeAdvert_73 (fun u4 H locs hu4 hP hD hS => ?_)
        have q6 := hu4
        obtain ⟨fsq6, hm6⟩ := q6.mem
        refine W.widen (k := 0 + ((if T1.2.1 = T1.1 then 2 * T1.1 else T1.1) - T1.1) + 0 + 0) (n := 0 + 2 * 14 * ((if T1.2.1 = T1.1 then 2 * T1.1 else T1.1) - T1.1) + 0 + 0) (Nat.le_refl _) (Nat.le_refl _) ?_
        have hP := wd_nP (N := [u4]) (wd_1 _) 6 rfl [1, 2, 3, 0, 4, 5] (by decide) hP
        have hD := wd_nD (N := [u4]) (wd_1 _) 6 rfl [1, 2, 3, 0, 4, 5] (by decide) hD
        have hP : va_P D kls (List.flatten [[(h, .inr (3, [.ref qA, .ref g, .ref qc]))], [(g, .inl (cG, 12, .inr (.inr (.inr (.inr (go rh))))))], [(qc, .inl (cI, 12, .inl (cN ch)))], u4, gd cI 12 rh (gN hd), wL]) H := hP
        have hD : va_D A (List.flatten [[(h, .inr (3, [.ref qA, .ref g, .ref qc]))], [(g, .inl (cG, 12, .inr (.inr (.inr (.inr (go rh))))))], [(qc, .inl (cI, 12, .inl (cN ch)))], u4, gd cI 12 rh (gN hd), wL]) := hD
        refine W.eq (g2 := F0 m 76 ls []) rfl ?_
        refine ri_iinc hx hb d_Stores_makeAdvert_76 hl (k := 0) rfl (by decide) rfl (fun ls hl => ?_)
        have hl : lv_has ls 6 [(5, .int (nI (j + 1))), (4, .int (nI T1.2.1)), (3, .int (nI (T1.2.2 (hd r r) 1 + 1))), (0, .ref h), (1, .int (nI r)), (2, .ref hL)] := hl
        refine lv_goto hx hb d_Stores_makeAdvert_79 (tgt := 49) (by decide) ?_
        refine W.widen (k := 0 + ((if T1.2.1 = T1.1 then 2 * T1.1 else T1.1) - T1.1) + 0 + 0) (n := 0 + 2 * 14 * ((if T1.2.1 = T1.1 then 2 * T1.1 else T1.1) - T1.1) + 0 + 0) (by omega) (by omega) ?_
        refine ih (j + 1) _ _ H locs ls (by omega) q6 (fun i x hi hx => ?_) ?_ ?_ (fun x hx => ?_) hP hD hS hl
        · show (if _ then _ else _) = _
          rw [if_neg (by omega)]
          exact f1 i x hi hx
        · show (if _ then _ else _) = _
          rw [if_neg (by omega)]
          exact f2
        · show (if _ then _ else _) = _
          rw [if_neg (by omega)]
          exact f3
        · show (if _ then _ else _) = _
          by_cases e : x = j
          · rw [if_pos ⟨rfl, by omega⟩, e]
          · rw [if_neg (by omega)]
            exact f4 x (by omega)
  refine lv_aload_n hx hb d_Stores_makeAdvert_0 rfl (lv_at hl 0 rfl) ?_
  refine lv_aload_n hx hb d_Stores_makeAdvert_1 rfl (lv_at hl 0 rfl) ?_
  refine va_get (D := D) (ci := 3) (v := .ref g) (C := R_Stores) (T := T_Stores) (N := 3) hx hb ht in_Stores hown hK hP 0 rfl rfl 1 (by decide) (ht _ kl_Stores_22) (fun _ h9 => h9) rfl d_Stores_makeAdvert_2 ?_
  refine lv_iload_n hx hb d_Stores_makeAdvert_5 rfl (lv_at hl 1 rfl) ?_
  refine ri_aald hx hb hK hP 1 3 rfl rfl (j := r) (by omega) (by omega) (go_at (by omega)) d_Stores_makeAdvert_6 ?_
  refine lv_iload_n hx hb d_Stores_makeAdvert_7 rfl (lv_at hl 1 rfl) ?_
  refine ri_gld hx hb hK hP 3 0 rfl rfl (i := r) (j := r) (by omega) (by omega) (by decide) d_Stores_makeAdvert_8 ?_
  refine W.eq (g2 := F0 m 9 ls [.int (nI (hd r r)), .ref h]) rfl ?_
  refine ct_rdV (C := R_Stores) (ci := 3) (As := [.int (nI (hd r r))]) (rest := []) ⟨hx, hb, hml, hown, ht⟩ (k_Stores_numberOf l D cI cZ cJ cG hR2 (hd r r) hi) (cb_V ht kc_Stores_numberOf kl_Stores_44 kn_Stores ki_Stores_numberOf ks_Stores_numberOf hd_Stores_numberOf ⟨Nat.le_of_ble_eq_true rfl, Nat.le_of_ble_eq_true rfl⟩) (List.mem_of_getElem? (i := 0) rfl) rfl rfl (wd_ct (Bs := [[(h, .inr (3, [.ref qA, .ref g, .ref qc]))], [(g, .inl (cG, 12, .inr (.inr (.inr (.inr (go rh))))))], [(qc, .inl (cI, 12, .inl (cN ch)))], gd cI 12 rh (gN hd), wA, wL]) 6 rfl [0, 1, 2, 3, 4] [5] (by decide) rfl) hK hP hD hS hA rfl hl.1 rfl (Nat.le_of_ble_eq_true rfl) ⟨(show 0 + 0 ≤ ((if T1.2.1 = T1.1 then 2 * T1.1 else T1.1) - T1.1) by omega), (show 0 + 0 ≤ (2 * 14 * ((if T1.2.1 = T1.1 then 2 * T1.1 else T1.1) - T1.1)) by omega)⟩ d_Stores_makeAdvert_9 (fun rhr5 H locs hr5 hP hD hS => ?_)
  subst hr5
  refine lv_iconst (v := nI 1) hx hb d_Stores_makeAdvert_12 (by decide) ?_
  refine ri_iadd hx hb d_Stores_makeAdvert_13 ?_
  refine lv_istore_n hx hb d_Stores_makeAdvert_14 rfl hl (by decide) rfl (fun ls hl => ?_)
  have hl : lv_has ls 6 [(3, .int (nI ((T1.2.2 (hd r r) 1) + 1))), (0, .ref h), (1, .int (nI r)), (2, .ref hL)] := hl
  refine lv_aload_n hx hb d_Stores_makeAdvert_15 rfl (lv_at hl 1 rfl) ?_
  refine va_get (D := D) (ci := 3) (v := .ref qA) (C := R_Stores) (T := T_Stores) (N := 3) hx hb ht in_Stores hown hK hP 0 rfl rfl 0 (by decide) (ht _ kl_Stores_16) (fun _ h9 => h9) rfl d_Stores_makeAdvert_16 ?_
  refine ct_callVI (C := R_Rows) (ci := 0) (As := []) (rest := []) ⟨hx, hb, hml, hown, ht⟩ (k_Rows_add l D cI cZ cJ cG qA9 hc) (cb_V ht kc_Rows_add kl_Stores_29 kn_Rows ki_Rows_add ks_Rows_add hd_Rows_add ⟨Nat.le_of_ble_eq_true rfl, Nat.le_of_ble_eq_true rfl⟩) (wd_mem 4 rfl hmA) rfl rfl (wd_ct (Bs := [[(h, .inr (3, [.ref qA, .ref g, .ref qc]))], [(g, .inl (cG, 12, .inr (.inr (.inr (.inr (go rh))))))], [(qc, .inl (cI, 12, .inl (cN ch)))], gd cI 12 rh (gN hd), wA, wL]) 6 rfl [4] [0, 1, 2, 3, 5] (by decide) (wd_1 _)) hK hP hD hS hA rfl hl.1 rfl (Nat.le_of_ble_eq_true rfl) ⟨(by rw [Nat.zero_add]; exact Nat.le_refl _), (by rw [Nat.zero_add]; exact Nat.le_refl _)⟩ d_Stores_makeAdvert_19 (fun ru6 u6 H locs hu6 hP hD hS => ?_)
  obtain ⟨rfl, qB⟩ := hu6
  obtain ⟨fsB, hmB⟩ := qB.mem
  have hP := wd_nP (N := [u6]) (wd_1 _) 6 rfl [1, 2, 3, 0, 4, 5] (by decide) hP
  have hD := wd_nD (N := [u6]) (wd_1 _) 6 rfl [1, 2, 3, 0, 4, 5] (by decide) hD
  have hP : va_P D kls (List.flatten [[(h, .inr (3, [.ref qA, .ref g, .ref qc]))], [(g, .inl (cG, 12, .inr (.inr (.inr (.inr (go rh))))))], [(qc, .inl (cI, 12, .inl (cN ch)))], u6, gd cI 12 rh (gN hd), wL]) H := hP
  have hD : va_D A (List.flatten [[(h, .inr (3, [.ref qA, .ref g, .ref qc]))], [(g, .inl (cG, 12, .inr (.inr (.inr (.inr (go rh))))))], [(qc, .inl (cI, 12, .inl (cN ch)))], u6, gd cI 12 rh (gN hd), wL]) := hD
  refine lv_istore hx hb d_Stores_makeAdvert_22 hl (by decide) rfl (fun ls hl => ?_)
  have hl : lv_has ls 6 [(4, .int (nI T1.2.1)), (3, .int (nI ((T1.2.2 (hd r r) 1) + 1))), (0, .ref h), (1, .int (nI r)), (2, .ref hL)] := hl
  refine lv_aload_n hx hb d_Stores_makeAdvert_24 rfl (lv_at hl 2 rfl) ?_
  refine va_get (D := D) (ci := 3) (v := .ref qA) (C := R_Stores) (T := T_Stores) (N := 3) hx hb ht in_Stores hown hK hP 0 rfl rfl 0 (by decide) (ht _ kl_Stores_16) (fun _ h9 => h9) rfl d_Stores_makeAdvert_25 ?_
  refine lv_iload hx hb d_Stores_makeAdvert_28 (lv_at hl 0 rfl) ?_
  refine lv_iconst (v := nI 0) hx hb d_Stores_makeAdvert_30 (by decide) ?_
  refine lv_iload_n hx hb d_Stores_makeAdvert_31 rfl (lv_at hl 3 rfl) ?_
  refine ct_callVV (C := R_Rows) (ci := 0) (As := [.int (nI T1.2.1), .int (nI 0), .int (nI r)]) (rest := []) ⟨hx, hb, hml, hown, ht⟩ (k_Rows_set l D cI cZ cJ cG qB (T1.2.1) (0) (nI r) (by omega) (by omega)) (cb_V ht kc_Rows_set kl_Stores_47 kn_Rows ki_Rows_set ks_Rows_set hd_Rows_set ⟨Nat.le_of_ble_eq_true rfl, Nat.le_of_ble_eq_true rfl⟩) (wd_mem 3 rfl hmB) rfl rfl (wd_ct (Bs := [[(h, .inr (3, [.ref qA, .ref g, .ref qc]))], [(g, .inl (cG, 12, .inr (.inr (.inr (.inr (go rh))))))], [(qc, .inl (cI, 12, .inl (cN ch)))], u6, gd cI 12 rh (gN hd), wL]) 6 rfl [3] [0, 1, 2, 4, 5] (by decide) (wd_1 _)) hK hP hD hS hA rfl hl.1 rfl (Nat.le_of_ble_eq_true rfl) ⟨(by simp only [Nat.add_zero, Nat.zero_add]; exact Nat.le_refl _), (by simp only [Nat.add_zero, Nat.zero_add]; exact Nat.le_refl _)⟩ d_Stores_makeAdvert_32 (fun u7 H locs hu7 hP hD hS => ?_)
  have qC := hu7
  obtain ⟨fsqC, hmC⟩ := qC.mem
  refine W.widen (k := 0 + ((if T1.2.1 = T1.1 then 2 * T1.1 else T1.1) - T1.1)) (n := 0 + (2 * 14 * ((if T1.2.1 = T1.1 then 2 * T1.1 else T1.1) - T1.1))) (Nat.le_refl _) (Nat.le_refl _) ?_
  have hP := wd_nP (N := [u7]) (wd_1 _) 6 rfl [1, 2, 3, 0, 4, 5] (by decide) hP
  have hD := wd_nD (N := [u7]) (wd_1 _) 6 rfl [1, 2, 3, 0, 4, 5] (by decide) hD
  have hP : va_P D kls (List.flatten [[(h, .inr (3, [.ref qA, .ref g, .ref qc]))], [(g, .inl (cG, 12, .inr (.inr (.inr (.inr (go rh))))))], [(qc, .inl (cI, 12, .inl (cN ch)))], u7, gd cI 12 rh (gN hd), wL]) H := hP
  have hD : va_D A (List.flatten [[(h, .inr (3, [.ref qA, .ref g, .ref qc]))], [(g, .inl (cG, 12, .inr (.inr (.inr (.inr (go rh))))))], [(qc, .inl (cI, 12, .inl (cN ch)))], u7, gd cI 12 rh (gN hd), wL]) := hD
  refine W.eq (g2 := F0 m 35 ls []) rfl ?_
  refine lv_aload_n hx hb d_Stores_makeAdvert_35 rfl (lv_at hl 2 rfl) ?_
  refine va_get (D := D) (ci := 3) (v := .ref qA) (C := R_Stores) (T := T_Stores) (N := 3) hx hb ht in_Stores hown hK hP 0 rfl rfl 0 (by decide) (ht _ kl_Stores_16) (fun _ h9 => h9) rfl d_Stores_makeAdvert_36 ?_
  refine lv_iload hx hb d_Stores_makeAdvert_39 (lv_at hl 0 rfl) ?_
  refine lv_iconst (v := nI 1) hx hb d_Stores_makeAdvert_41 (by decide) ?_
  refine lv_iload_n hx hb d_Stores_makeAdvert_42 rfl (lv_at hl 1 rfl) ?_
  refine ct_callVV (C := R_Rows) (ci := 0) (As := [.int (nI T1.2.1), .int (nI 1), .int (nI ((T1.2.2 (hd r r) 1) + 1))]) (rest := []) ⟨hx, hb, hml, hown, ht⟩ (k_Rows_set l D cI cZ cJ cG qC (T1.2.1) (1) (nI (T1.2.2 (hd r r) 1 + 1)) (by omega) (by omega)) (cb_V ht kc_Rows_set kl_Stores_47 kn_Rows ki_Rows_set ks_Rows_set hd_Rows_set ⟨Nat.le_of_ble_eq_true rfl, Nat.le_of_ble_eq_true rfl⟩) (wd_mem 3 rfl hmC) rfl rfl (wd_ct (Bs := [[(h, .inr (3, [.ref qA, .ref g, .ref qc]))], [(g, .inl (cG, 12, .inr (.inr (.inr (.inr (go rh))))))], [(qc, .inl (cI, 12, .inl (cN ch)))], u7, gd cI 12 rh (gN hd), wL]) 6 rfl [3] [0, 1, 2, 4, 5] (by decide) (wd_1 _)) hK hP hD hS hA rfl hl.1 rfl (Nat.le_of_ble_eq_true rfl) ⟨(by simp only [Nat.add_zero, Nat.zero_add]; exact Nat.le_refl _), (by simp only [Nat.add_zero, Nat.zero_add]; exact Nat.le_refl _)⟩ d_Stores_makeAdvert_43 (fun u8 H locs hu8 hP hD hS => ?_)
  have qD := hu8
  obtain ⟨fsqD, hmD⟩ := qD.mem
  refine W.widen (k := 0 + ((if T1.2.1 = T1.1 then 2 * T1.1 else T1.1) - T1.1)) (n := 0 + (2 * 14 * ((if T1.2.1 = T1.1 then 2 * T1.1 else T1.1) - T1.1))) (Nat.le_refl _) (Nat.le_refl _) ?_
  have hP := wd_nP (N := [u8]) (wd_1 _) 6 rfl [1, 2, 3, 0, 4, 5] (by decide) hP
  have hD := wd_nD (N := [u8]) (wd_1 _) 6 rfl [1, 2, 3, 0, 4, 5] (by decide) hD
  have hP : va_P D kls (List.flatten [[(h, .inr (3, [.ref qA, .ref g, .ref qc]))], [(g, .inl (cG, 12, .inr (.inr (.inr (.inr (go rh))))))], [(qc, .inl (cI, 12, .inl (cN ch)))], u8, gd cI 12 rh (gN hd), wL]) H := hP
  have hD : va_D A (List.flatten [[(h, .inr (3, [.ref qA, .ref g, .ref qc]))], [(g, .inl (cG, 12, .inr (.inr (.inr (.inr (go rh))))))], [(qc, .inl (cI, 12, .inl (cN ch)))], u8, gd cI 12 rh (gN hd), wL]) := hD
  refine W.eq (g2 := F0 m 46 ls []) rfl ?_
  refine lv_iconst (v := nI 0) hx hb d_Stores_makeAdvert_46 (by decide) ?_
  refine lv_istore hx hb d_Stores_makeAdvert_47 hl (by decide) rfl (fun ls hl => ?_)
  have hl : lv_has ls 6 [(5, .int (nI 0)), (4, .int (nI T1.2.1)), (3, .int (nI ((T1.2.2 (hd r r) 1) + 1))), (0, .ref h), (1, .int (nI r)), (2, .ref hL)] := hl
  refine W.widen (k := 0 + ((if T1.2.1 = T1.1 then 2 * T1.1 else T1.1) - T1.1) + 0 + 0) (n := 0 + 2 * 14 * ((if T1.2.1 = T1.1 then 2 * T1.1 else T1.1) - T1.1) + 0 + 0) (by omega) (by omega) ?_
  refine loop 12 0 _ _ H locs ls (by omega) qD (fun i x hi hx => ?_) ?_ ?_ (fun x hx => absurd hx (by omega)) hP hD hS hl
  · show (if _ then _ else bm_up2 _ _ _ _ i x) = _
    rw [if_neg (by omega)]
    show (if _ then _ else (fun i => if i = T1.2.1 then (fun _ => (0 : Int32)) else gN T1.2.2 i) i x) = _
    rw [if_neg (by omega)]
    show (if i = T1.2.1 then (fun _ => (0 : Int32)) else gN T1.2.2 i) x = _
    rw [if_neg (by omega)]
    rfl
  · show (if _ then _ else bm_up2 _ _ _ _ _ _) = _
    rw [if_neg (by omega)]
    show (if _ then _ else _) = _
    rw [if_pos ⟨rfl, rfl⟩]
  · show (if _ then _ else _) = _
    rw [if_pos ⟨rfl, rfl⟩]
