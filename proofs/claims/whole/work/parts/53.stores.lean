/-! Stores: contracts of its methods. -/
def bm_same (hd : Nat → Nat → Nat) (a b : Nat) : Nat → Bool
  | 0 => true
  | n + 1 => bm_same hd a b n && decide (hd a n = hd b n)
theorem bm_same_t {hd : Nat → Nat → Nat} {a b : Nat} : ∀ n, (∀ x, x < n → hd a x = hd b x) → bm_same hd a b n = true
  | 0, _ => rfl
  | n + 1, h => by
    unfold bm_same
    rw [bm_same_t n (fun x hx => h x (by omega)), decide_eq_true (h n (by omega))]
    rfl
theorem bm_same_f {hd : Nat → Nat → Nat} {a b x : Nat} (hx : hd a x ≠ hd b x) : ∀ n, x < n → bm_same hd a b n = false
  | 0, h => absurd h (Nat.not_lt_zero x)
  | n + 1, h => by
    unfold bm_same
    by_cases e : x = n
    · subst e
      rw [decide_eq_false hx, Bool.and_false]
    · rw [bm_same_f hx n (by omega), Bool.false_and]
theorem fl_exp (X Y : List va_W) : List.flatten (List.flatten X :: Y) = List.flatten (X ++ Y) := by simp
/-- the cells of a Stores -/
abbrev so_w (cI cG : ClassId) (h qA g qc : Nat) (rh : Nat → Nat) (hd : Nat → Nat → Nat) (ch : Nat → Int32) (wA : va_W) : va_W := List.flatten [[(h, .inr (3, [.ref qA, .ref g, .ref qc]))], [(g, .inl (cG, 12, .inr (.inr (.inr (.inr (go rh))))))], [(qc, .inl (cI, 12, .inl ch))], gd cI 12 rh (gN hd), wA]
/-- a Stores at h: the advertisements T1 (room, number, rows), the stores hd, how often each has changed -/
def so_R (cI cG : ClassId) (h : Nat) (T1 : bm_M Nat) (hd : Nat → Nat → Nat) (ch : Nat → Int32) (ws : va_W) : Prop := ∃ (qA g qc : Nat) (rh : Nat → Nat) (wA : va_W), ws = so_w cI cG h qA g qc rh hd ch wA ∧ rw_R cI 14 T1.1 T1.2.1 (gN T1.2.2) qA wA
theorem so_R.mem {cI cG : ClassId} {h : Nat} {T1 : bm_M Nat} {hd : Nat → Nat → Nat} {ch : Nat → Int32} {ws : va_W} (hR : so_R cI cG h T1 hd ch ws) : ∃ fs, (h, Sum.inr (3, fs)) ∈ ws := by
  obtain ⟨qA, g, qc, rh, wA, rfl, -⟩ := hR
  exact ⟨_, List.mem_of_getElem? (i := 0) rfl⟩
set_option maxHeartbeats 4000000 in
set_option maxRecDepth 100000 in
theorem k_Stores_hasRoomForTwo (l : Launch) (D : va_G) (cI cZ cJ cG : ClassId) {h : Nat} {T1 : bm_M Nat} {hd : Nat → Nat → Nat} {ch : Nat → Int32} {ws : va_W} (hR : so_R cI cG h T1 hd ch ws) (hn : T1.2.1 < 100000) : ct_I l D kls (ty4 cI cZ cJ cG) y_Stores_hasRoomForTwo ws_Stores_hasRoomForTwo (rm_ 1 20 0 0) [.ref h] (ws) (fun z u => z = bI (decide (T1.2.1 + 2 ≤ 1025)) ∧ u = ws) 0 0 := by
  obtain ⟨qA, g, qc, rh, wA, rfl, qA9⟩ := hR
  obtain ⟨fsA, hmA⟩ := qA9.mem
  refine ct_enterI (cc := b_Stores_hasRoomForTwo) (maxL := 1) (ret := (some .boolean)) (by decide +kernel) (Nat.le_of_ble_eq_true rfl) ?_
  intro p e s m args below meth c hx hb hml hr ht hown hlk hnm A Q hA hK hP hD hQ ls hl
  have hown : s.vm.findClass R_Stores = some m.cls := hown
  have hS : va_S A s.heap s.heap [] := va_S.rf
  have hl : lv_has ls 1 [(0, .ref h)] := hl
  refine lv_aload_n hx hb d_Stores_hasRoomForTwo_0 rfl (lv_at hl 0 rfl) ?_
  refine va_get (D := D) (ci := 3) (v := .ref qA) (C := R_Stores) (T := T_Stores) (N := 3) hx hb ht in_Stores hown hK hP 0 rfl rfl 0 (by decide) (ht _ kl_Stores_16) (fun _ h9 => h9) rfl d_Stores_hasRoomForTwo_1 ?_
  refine ct_rdV (C := R_Rows) (ci := 0) (As := []) (rest := []) ⟨hx, hb, hml, hown, ht⟩ (k_Rows_size l D cI cZ cJ cG qA9) (cb_V ht kc_Rows_size kl_Stores_33 kn_Rows ki_Rows_size ks_Rows_size hd_Rows_size ⟨Nat.le_of_ble_eq_true rfl, Nat.le_of_ble_eq_true rfl⟩) (wd_mem 4 rfl hmA) rfl rfl (wd_ct (Bs := [[(h, .inr (3, [.ref qA, .ref g, .ref qc]))], [(g, .inl (cG, 12, .inr (.inr (.inr (.inr (go rh))))))], [(qc, .inl (cI, 12, .inl ch))], gd cI 12 rh (gN hd), wA]) 5 rfl [4] [0, 1, 2, 3] (by decide) (wd_1 _)) hK hP hD hS hA rfl hl.1 rfl (Nat.le_of_ble_eq_true rfl) ⟨(show 0 + 0 ≤ 0 by omega), (show 0 + 0 ≤ 0 by omega)⟩ d_Stores_hasRoomForTwo_4 (fun rhr1 H locs hr1 hP hD hS => ?_)
  subst hr1
  refine lv_iconst (v := nI 2) hx hb d_Stores_hasRoomForTwo_7 (by decide) ?_
  refine ri_iadd hx hb d_Stores_hasRoomForTwo_8 ?_
  refine lv_sipush (v := nI 1025) hx hb d_Stores_hasRoomForTwo_9 (by decide) ?_
  refine ri_icmp_gt hx hb (by omega) (by omega) d_Stores_hasRoomForTwo_12 (tgt := 19) (by decide) (fun h1 => ?_) (fun h1 => ?_)
  · refine lv_iconst (v := nI 0) hx hb d_Stores_hasRoomForTwo_19 (by decide) ?_
    exact ct_zret (b := false) hQ hx hb hr hlk hP hD hS hK (by omega) (by omega) d_Stores_hasRoomForTwo_20 (⟨congrArg bI (decide_eq_false (by omega)).symm, rfl⟩)
  · refine lv_iconst (v := nI 1) hx hb d_Stores_hasRoomForTwo_15 (by decide) ?_
    refine lv_goto hx hb d_Stores_hasRoomForTwo_16 (tgt := 20) (by decide) ?_
    exact ct_zret (b := true) hQ hx hb hr hlk hP hD hS hK (by omega) (by omega) d_Stores_hasRoomForTwo_20 (⟨congrArg bI (decide_eq_true h1).symm, rfl⟩)
set_option maxHeartbeats 4000000 in
set_option maxRecDepth 100000 in
theorem k_Stores_advertOf (l : Launch) (D : va_G) (cI cZ cJ cG : ClassId) {h : Nat} {T1 : bm_M Nat} {hd : Nat → Nat → Nat} {ch : Nat → Int32} {ws : va_W} (hR : so_R cI cG h T1 hd ch ws) (a b : Nat) (ha : a < 12) (hb9 : b < 12) : ct_I l D kls (ty4 cI cZ cJ cG) y_Stores_advertOf ws_Stores_advertOf (rm_ 0 0 0 0) [.ref h, .int (nI a), .int (nI b)] (ws) (fun z u => z = nI (hd a b) ∧ u = ws) 0 0 := by
  obtain ⟨qA, g, qc, rh, wA, rfl, qA9⟩ := hR
  obtain ⟨fsA, hmA⟩ := qA9.mem
  refine ct_enterI (cc := b_Stores_advertOf) (maxL := 3) (ret := (some .int)) (by decide +kernel) (Nat.le_of_ble_eq_true rfl) ?_
  intro p e s m args below meth c hx hb hml hr ht hown hlk hnm A Q hA hK hP hD hQ ls hl
  have hown : s.vm.findClass R_Stores = some m.cls := hown
  have hS : va_S A s.heap s.heap [] := va_S.rf
  have hl : lv_has ls 3 [(0, .ref h), (1, .int (nI a)), (2, .int (nI b))] := hl
  refine lv_aload_n hx hb d_Stores_advertOf_0 rfl (lv_at hl 0 rfl) ?_
  refine va_get (D := D) (ci := 3) (v := .ref g) (C := R_Stores) (T := T_Stores) (N := 3) hx hb ht in_Stores hown hK hP 0 rfl rfl 1 (by decide) (ht _ kl_Stores_22) (fun _ h9 => h9) rfl d_Stores_advertOf_1 ?_
  refine lv_iload_n hx hb d_Stores_advertOf_4 rfl (lv_at hl 1 rfl) ?_
  refine ri_aald hx hb hK hP 1 3 rfl rfl (j := a) (by omega) (by omega) (go_at (by omega)) d_Stores_advertOf_5 ?_
  refine lv_iload_n hx hb d_Stores_advertOf_6 rfl (lv_at hl 2 rfl) ?_
  refine ri_gld hx hb hK hP 3 0 rfl rfl (i := a) (j := b) (by omega) (by omega) (by decide) d_Stores_advertOf_7 ?_
  refine W.eq (g2 := F0 m 8 ls [.int (nI (hd a b))]) rfl ?_
  exact ct_iret hQ hx hb hr hlk hP hD hS hK (by omega) (by omega) d_Stores_advertOf_8 (⟨rfl, rfl⟩)
set_option maxHeartbeats 4000000 in
set_option maxRecDepth 100000 in
theorem k_Stores_hasAdvertOf (l : Launch) (D : va_G) (cI cZ cJ cG : ClassId) {h : Nat} {T1 : bm_M Nat} {hd : Nat → Nat → Nat} {ch : Nat → Int32} {ws : va_W} (hR : so_R cI cG h T1 hd ch ws) (a b : Nat) (ha : a < 12) (hb9 : b < 12) (hh : hd a b < 2147483648) : ct_I l D kls (ty4 cI cZ cJ cG) y_Stores_hasAdvertOf ws_Stores_hasAdvertOf (rm_ 0 0 0 0) [.ref h, .int (nI a), .int (nI b)] (ws) (fun z u => z = bI (decide (hd a b ≠ 0)) ∧ u = ws) 0 0 := by
  obtain ⟨qA, g, qc, rh, wA, rfl, qA9⟩ := hR
  obtain ⟨fsA, hmA⟩ := qA9.mem
  refine ct_enterI (cc := b_Stores_hasAdvertOf) (maxL := 3) (ret := (some .boolean)) (by decide +kernel) (Nat.le_of_ble_eq_true rfl) ?_
  intro p e s m args below meth c hx hb hml hr ht hown hlk hnm A Q hA hK hP hD hQ ls hl
  have hown : s.vm.findClass R_Stores = some m.cls := hown
  have hS : va_S A s.heap s.heap [] := va_S.rf
  have hl : lv_has ls 3 [(0, .ref h), (1, .int (nI a)), (2, .int (nI b))] := hl
  refine lv_aload_n hx hb d_Stores_hasAdvertOf_0 rfl (lv_at hl 0 rfl) ?_
  refine va_get (D := D) (ci := 3) (v := .ref g) (C := R_Stores) (T := T_Stores) (N := 3) hx hb ht in_Stores hown hK hP 0 rfl rfl 1 (by decide) (ht _ kl_Stores_22) (fun _ h9 => h9) rfl d_Stores_hasAdvertOf_1 ?_
  refine lv_iload_n hx hb d_Stores_hasAdvertOf_4 rfl (lv_at hl 1 rfl) ?_
  refine ri_aald hx hb hK hP 1 3 rfl rfl (j := a) (by omega) (by omega) (go_at (by omega)) d_Stores_hasAdvertOf_5 ?_
  refine lv_iload_n hx hb d_Stores_hasAdvertOf_6 rfl (lv_at hl 2 rfl) ?_
  refine ri_gld hx hb hK hP 3 0 rfl rfl (i := a) (j := b) (by omega) (by omega) (by decide) d_Stores_hasAdvertOf_7 ?_
  refine W.eq (g2 := F0 m 8 ls [.int (nI (hd a b))]) rfl ?_
  refine ri_if_eq hx hb (by omega) d_Stores_hasAdvertOf_8 (tgt := 15) (by decide) (fun h1 => ?_) (fun h1 => ?_)
  · refine lv_iconst (v := nI 0) hx hb d_Stores_hasAdvertOf_15 (by decide) ?_
    exact ct_zret (b := false) hQ hx hb hr hlk hP hD hS hK (by omega) (by omega) d_Stores_hasAdvertOf_16 (⟨congrArg bI (decide_eq_false (by omega)).symm, rfl⟩)
  · refine lv_iconst (v := nI 1) hx hb d_Stores_hasAdvertOf_11 (by decide) ?_
    refine lv_goto hx hb d_Stores_hasAdvertOf_12 (tgt := 16) (by decide) ?_
    exact ct_zret (b := true) hQ hx hb hr hlk hP hD hS hK (by omega) (by omega) d_Stores_hasAdvertOf_16 (⟨congrArg bI (decide_eq_true h1).symm, rfl⟩)
set_option maxHeartbeats 4000000 in
set_option maxRecDepth 100000 in
theorem k_Stores_originOf (l : Launch) (D : va_G) (cI cZ cJ cG : ClassId) {h : Nat} {T1 : bm_M Nat} {hd : Nat → Nat → Nat} {ch : Nat → Int32} {ws : va_W} (hR : so_R cI cG h T1 hd ch ws) (i : Nat) (hi : i < T1.2.1) : ct_I l D kls (ty4 cI cZ cJ cG) y_Stores_originOf ws_Stores_originOf (rm_ 2 45 0 0) [.ref h, .int (nI i)] (ws) (fun z u => z = nI (T1.2.2 i 0) ∧ u = ws) 0 0 := by
  obtain ⟨qA, g, qc, rh, wA, rfl, qA9⟩ := hR
  obtain ⟨fsA, hmA⟩ := qA9.mem
  refine ct_enterI (cc := b_Stores_originOf) (maxL := 2) (ret := (some .int)) (by decide +kernel) (Nat.le_of_ble_eq_true rfl) ?_
  intro p e s m args below meth c hx hb hml hr ht hown hlk hnm A Q hA hK hP hD hQ ls hl
  have hown : s.vm.findClass R_Stores = some m.cls := hown
  have hS : va_S A s.heap s.heap [] := va_S.rf
  have hl : lv_has ls 2 [(0, .ref h), (1, .int (nI i))] := hl
  refine lv_aload_n hx hb d_Stores_originOf_0 rfl (lv_at hl 0 rfl) ?_
  refine va_get (D := D) (ci := 3) (v := .ref qA) (C := R_Stores) (T := T_Stores) (N := 3) hx hb ht in_Stores hown hK hP 0 rfl rfl 0 (by decide) (ht _ kl_Stores_16) (fun _ h9 => h9) rfl d_Stores_originOf_1 ?_
  refine lv_iload_n hx hb d_Stores_originOf_4 rfl (lv_at hl 1 rfl) ?_
  refine lv_iconst (v := nI 0) hx hb d_Stores_originOf_5 (by decide) ?_
  refine ct_rdV (C := R_Rows) (ci := 0) (As := [.int (nI i), .int (nI 0)]) (rest := []) ⟨hx, hb, hml, hown, ht⟩ (k_Rows_get l D cI cZ cJ cG qA9 i 0 hi (by decide)) (cb_V ht kc_Rows_get kl_Stores_36 kn_Rows ki_Rows_get ks_Rows_get hd_Rows_get ⟨Nat.le_of_ble_eq_true rfl, Nat.le_of_ble_eq_true rfl⟩) (wd_mem 4 rfl hmA) rfl rfl (wd_ct (Bs := [[(h, .inr (3, [.ref qA, .ref g, .ref qc]))], [(g, .inl (cG, 12, .inr (.inr (.inr (.inr (go rh))))))], [(qc, .inl (cI, 12, .inl ch))], gd cI 12 rh (gN hd), wA]) 5 rfl [4] [0, 1, 2, 3] (by decide) (wd_1 _)) hK hP hD hS hA rfl hl.1 rfl (Nat.le_of_ble_eq_true rfl) ⟨(show 0 + 0 ≤ 0 by omega), (show 0 + 0 ≤ 0 by omega)⟩ d_Stores_originOf_6 (fun rhr1 H locs hr1 hP hD hS => ?_)
  subst hr1
  refine W.eq (g2 := F0 m 9 ls [.int (nI (T1.2.2 i 0))]) rfl ?_
  exact ct_iret hQ hx hb hr hlk hP hD hS hK (by omega) (by omega) d_Stores_originOf_9 (⟨rfl, rfl⟩)
set_option maxHeartbeats 4000000 in
set_option maxRecDepth 100000 in
theorem k_Stores_numberOf (l : Launch) (D : va_G) (cI cZ cJ cG : ClassId) {h : Nat} {T1 : bm_M Nat} {hd : Nat → Nat → Nat} {ch : Nat → Int32} {ws : va_W} (hR : so_R cI cG h T1 hd ch ws) (i : Nat) (hi : i < T1.2.1) : ct_I l D kls (ty4 cI cZ cJ cG) y_Stores_numberOf ws_Stores_numberOf (rm_ 2 45 0 0) [.ref h, .int (nI i)] (ws) (fun z u => z = nI (T1.2.2 i 1) ∧ u = ws) 0 0 := by
  obtain ⟨qA, g, qc, rh, wA, rfl, qA9⟩ := hR
  obtain ⟨fsA, hmA⟩ := qA9.mem
  refine ct_enterI (cc := b_Stores_numberOf) (maxL := 2) (ret := (some .int)) (by decide +kernel) (Nat.le_of_ble_eq_true rfl) ?_
  intro p e s m args below meth c hx hb hml hr ht hown hlk hnm A Q hA hK hP hD hQ ls hl
  have hown : s.vm.findClass R_Stores = some m.cls := hown
  have hS : va_S A s.heap s.heap [] := va_S.rf
  have hl : lv_has ls 2 [(0, .ref h), (1, .int (nI i))] := hl
  refine lv_aload_n hx hb d_Stores_numberOf_0 rfl (lv_at hl 0 rfl) ?_
  refine va_get (D := D) (ci := 3) (v := .ref qA) (C := R_Stores) (T := T_Stores) (N := 3) hx hb ht in_Stores hown hK hP 0 rfl rfl 0 (by decide) (ht _ kl_Stores_16) (fun _ h9 => h9) rfl d_Stores_numberOf_1 ?_
  refine lv_iload_n hx hb d_Stores_numberOf_4 rfl (lv_at hl 1 rfl) ?_
  refine lv_iconst (v := nI 1) hx hb d_Stores_numberOf_5 (by decide) ?_
  refine ct_rdV (C := R_Rows) (ci := 0) (As := [.int (nI i), .int (nI 1)]) (rest := []) ⟨hx, hb, hml, hown, ht⟩ (k_Rows_get l D cI cZ cJ cG qA9 i 1 hi (by decide)) (cb_V ht kc_Rows_get kl_Stores_36 kn_Rows ki_Rows_get ks_Rows_get hd_Rows_get ⟨Nat.le_of_ble_eq_true rfl, Nat.le_of_ble_eq_true rfl⟩) (wd_mem 4 rfl hmA) rfl rfl (wd_ct (Bs := [[(h, .inr (3, [.ref qA, .ref g, .ref qc]))], [(g, .inl (cG, 12, .inr (.inr (.inr (.inr (go rh))))))], [(qc, .inl (cI, 12, .inl ch))], gd cI 12 rh (gN hd), wA]) 5 rfl [4] [0, 1, 2, 3] (by decide) (wd_1 _)) hK hP hD hS hA rfl hl.1 rfl (Nat.le_of_ble_eq_true rfl) ⟨(show 0 + 0 ≤ 0 by omega), (show 0 + 0 ≤ 0 by omega)⟩ d_Stores_numberOf_6 (fun rhr1 H locs hr1 hP hD hS => ?_)
  subst hr1
  refine W.eq (g2 := F0 m 9 ls [.int (nI (T1.2.2 i 1))]) rfl ?_
  exact ct_iret hQ hx hb hr hlk hP hD hS hK (by omega) (by omega) d_Stores_numberOf_9 (⟨rfl, rfl⟩)
set_option maxHeartbeats 4000000 in
set_option maxRecDepth 100000 in
theorem k_Stores_changesOf (l : Launch) (D : va_G) (cI cZ cJ cG : ClassId) {h : Nat} {T1 : bm_M Nat} {hd : Nat → Nat → Nat} {ch : Nat → Int32} {ws : va_W} (hR : so_R cI cG h T1 hd ch ws) (a : Nat) (ha : a < 12) : ct_I l D kls (ty4 cI cZ cJ cG) y_Stores_changesOf ws_Stores_changesOf (rm_ 0 0 0 0) [.ref h, .int (nI a)] (ws) (fun z u => z = ch a ∧ u = ws) 0 0 := by
  obtain ⟨qA, g, qc, rh, wA, rfl, qA9⟩ := hR
  obtain ⟨fsA, hmA⟩ := qA9.mem
  refine ct_enterI (cc := b_Stores_changesOf) (maxL := 2) (ret := (some .int)) (by decide +kernel) (Nat.le_of_ble_eq_true rfl) ?_
  intro p e s m args below meth c hx hb hml hr ht hown hlk hnm A Q hA hK hP hD hQ ls hl
  have hown : s.vm.findClass R_Stores = some m.cls := hown
  have hS : va_S A s.heap s.heap [] := va_S.rf
  have hl : lv_has ls 2 [(0, .ref h), (1, .int (nI a))] := hl
  refine lv_aload_n hx hb d_Stores_changesOf_0 rfl (lv_at hl 0 rfl) ?_
  refine va_get (D := D) (ci := 3) (v := .ref qc) (C := R_Stores) (T := T_Stores) (N := 3) hx hb ht in_Stores hown hK hP 0 rfl rfl 2 (by decide) (ht _ kl_Stores_25) (fun _ h9 => h9) rfl d_Stores_changesOf_1 ?_
  refine lv_iload_n hx hb d_Stores_changesOf_4 rfl (lv_at hl 1 rfl) ?_
  refine ri_iald hx hb hK hP 2 0 rfl rfl (j := a) (by omega) (by omega) d_Stores_changesOf_5 ?_
  exact ct_iret hQ hx hb hr hlk hP hD hS hK (by omega) (by omega) d_Stores_changesOf_6 (⟨rfl, rfl⟩)
set_option maxHeartbeats 4000000 in
set_option maxRecDepth 100000 in
theorem k_Stores_keep (l : Launch) (D : va_G) (cI cZ cJ cG : ClassId) {h : Nat} {T1 : bm_M Nat} {hd : Nat → Nat → Nat} {ch : Nat → Int32} {ws : va_W} (hR : so_R cI cG h T1 hd ch ws) (a i : Nat) (ha : a < 12) (hi : i < T1.2.1) (ho : T1.2.2 i 0 < 12) : ct_V l D kls (ty4 cI cZ cJ cG) y_Stores_keep ws_Stores_keep (rm_ 3 66 0 0) [.ref h, .int (nI a), .int (nI i)] (ws) (fun u => so_R cI cG h T1 (bm_up2 hd a (T1.2.2 i 0) i) (upd ch a (ch a + nI 1)) u) 0 0 := by
  obtain ⟨qA, g, qc, rh, wA, rfl, qA9⟩ := hR
  obtain ⟨fsA, hmA⟩ := qA9.mem
  have hR2 : so_R cI cG h T1 hd ch (so_w cI cG h qA g qc rh hd ch wA) := ⟨qA, g, qc, rh, wA, rfl, qA9⟩
  refine ct_enterV (cc := b_Stores_keep) (maxL := 3) (ret := none) (by decide +kernel) (Nat.le_of_ble_eq_true rfl) ?_
  intro p e s m args below meth c hx hb hml hr ht hown hlk hnm A Q hA hK hP hD hQ ls hl
  have hown : s.vm.findClass R_Stores = some m.cls := hown
  have hS : va_S A s.heap s.heap [] := va_S.rf
  have hl : lv_has ls 3 [(0, .ref h), (1, .int (nI a)), (2, .int (nI i))] := hl
  refine lv_aload_n hx hb d_Stores_keep_0 rfl (lv_at hl 0 rfl) ?_
  refine va_get (D := D) (ci := 3) (v := .ref g) (C := R_Stores) (T := T_Stores) (N := 3) hx hb ht in_Stores hown hK hP 0 rfl rfl 1 (by decide) (ht _ kl_Stores_22) (fun _ h9 => h9) rfl d_Stores_keep_1 ?_
  refine lv_iload_n hx hb d_Stores_keep_4 rfl (lv_at hl 1 rfl) ?_
  refine ri_aald hx hb hK hP 1 3 rfl rfl (j := a) (by omega) (by omega) (go_at (by omega)) d_Stores_keep_5 ?_
  refine lv_aload_n hx hb d_Stores_keep_6 rfl (lv_at hl 0 rfl) ?_
  refine lv_iload_n hx hb d_Stores_keep_7 rfl (lv_at hl 2 rfl) ?_
  refine ct_rdV (C := R_Stores) (ci := 3) (As := [.int (nI i)]) (rest := [.ref (rh a)]) ⟨hx, hb, hml, hown, ht⟩ (k_Stores_originOf l D cI cZ cJ cG hR2 i hi) (cb_V ht kc_Stores_originOf kl_Stores_40 kn_Stores ki_Stores_originOf ks_Stores_originOf hd_Stores_originOf ⟨Nat.le_of_ble_eq_true rfl, Nat.le_of_ble_eq_true rfl⟩) (List.mem_of_getElem? (i := 0) rfl) rfl rfl (pm_all _) hK hP hD hS hA rfl hl.1 rfl (Nat.le_of_ble_eq_true rfl) ⟨(show 0 + 0 ≤ 0 by omega), (show 0 + 0 ≤ 0 by omega)⟩ d_Stores_keep_8 (fun rhr1 H locs hr1 hP hD hS => ?_)
  subst hr1
  refine lv_iload_n hx hb d_Stores_keep_11 rfl (lv_at hl 2 rfl) ?_
  refine ri_gst hx hb hK hP hD hS 3 0 rfl rfl (i := a) (j := T1.2.2 i 0) (by omega) (by omega) (by decide) d_Stores_keep_12 (fun H locs hP hD hS => ?_)
  rw [gN_up] at hP hD
  have hP : va_P D kls (List.flatten [[(h, .inr (3, [.ref qA, .ref g, .ref qc]))], [(g, .inl (cG, 12, .inr (.inr (.inr (.inr (go rh))))))], [(qc, .inl (cI, 12, .inl ch))], gd cI 12 rh (gN (bm_up2 hd a (T1.2.2 i 0) i)), wA]) H := hP
  have hD : va_D A (List.flatten [[(h, .inr (3, [.ref qA, .ref g, .ref qc]))], [(g, .inl (cG, 12, .inr (.inr (.inr (.inr (go rh))))))], [(qc, .inl (cI, 12, .inl ch))], gd cI 12 rh (gN (bm_up2 hd a (T1.2.2 i 0) i)), wA]) := hD
  refine lv_aload_n hx hb d_Stores_keep_13 rfl (lv_at hl 0 rfl) ?_
  refine va_get (D := D) (ci := 3) (v := .ref qc) (C := R_Stores) (T := T_Stores) (N := 3) hx hb ht in_Stores hown hK hP 0 rfl rfl 2 (by decide) (ht _ kl_Stores_25) (fun _ h9 => h9) rfl d_Stores_keep_14 ?_
  refine lv_iload_n hx hb d_Stores_keep_17 rfl (lv_at hl 1 rfl) ?_
  refine lv_dup2_11 hx hb d_Stores_keep_18 rfl rfl ?_
  refine ri_iald hx hb hK hP 2 0 rfl rfl (j := a) (by omega) (by omega) d_Stores_keep_19 ?_
  refine lv_iconst (v := nI 1) hx hb d_Stores_keep_20 (by decide) ?_
  refine lv_iadd hx hb d_Stores_keep_21 ?_
  refine ri_iast hx hb hK hP hD hS 2 0 rfl rfl (j := a) (by omega) (by omega) d_Stores_keep_22 (fun H locs hP hD hS => ?_)
  have hP : va_P D kls (List.flatten [[(h, .inr (3, [.ref qA, .ref g, .ref qc]))], [(g, .inl (cG, 12, .inr (.inr (.inr (.inr (go rh))))))], [(qc, .inl (cI, 12, .inl (upd ch a ((ch a) + (nI 1)))))], gd cI 12 rh (gN (bm_up2 hd a (T1.2.2 i 0) i)), wA]) H := hP
  have hD : va_D A (List.flatten [[(h, .inr (3, [.ref qA, .ref g, .ref qc]))], [(g, .inl (cG, 12, .inr (.inr (.inr (.inr (go rh))))))], [(qc, .inl (cI, 12, .inl (upd ch a ((ch a) + (nI 1)))))], gd cI 12 rh (gN (bm_up2 hd a (T1.2.2 i 0) i)), wA]) := hD
  exact ct_vret hQ hx hb hr hlk hP hD hS hK (by omega) (by omega) d_Stores_keep_23 (⟨qA, g, qc, rh, wA, rfl, qA9⟩)
set_option maxHeartbeats 4000000 in
set_option maxRecDepth 100000 in
theorem k_Stores_areSame (l : Launch) (D : va_G) (cI cZ cJ cG : ClassId) {h : Nat} {T1 : bm_M Nat} {hd : Nat → Nat → Nat} {ch : Nat → Int32} {ws : va_W} (hR : so_R cI cG h T1 hd ch ws) (a b : Nat) (ha : a < 12) (hb9 : b < 12) (hh : ∀ x y, hd x y < 2147483648) : ct_I l D kls (ty4 cI cZ cJ cG) y_Stores_areSame ws_Stores_areSame (rm_ 0 0 0 0) [.ref h, .int (nI a), .int (nI b)] (ws) (fun z u => z = bI (bm_same hd a b 12) ∧ u = ws) 0 0 := by
  obtain ⟨qA, g, qc, rh, wA, rfl, qA9⟩ := hR
  obtain ⟨fsA, hmA⟩ := qA9.mem
  refine ct_enterI (cc := b_Stores_areSame) (maxL := 4) (ret := (some .boolean)) (by decide +kernel) (Nat.le_of_ble_eq_true rfl) ?_
  intro p e s m args below meth c hx hb hml hr ht hown hlk hnm A Q hA hK hP hD hQ ls hl
  have hown : s.vm.findClass R_Stores = some m.cls := hown
  have hS : va_S A s.heap s.heap [] := va_S.rf
  have hl : lv_has ls 4 [(0, .ref h), (1, .int (nI a)), (2, .int (nI b))] := hl
  have loop : ∀ (k j : Nat)  (H : Heap) (locs : List Loc) (ls : Array Slot), j + k = 12 → (∀ x, x < j → hd a x = hd b x) → va_P D kls (List.flatten [[(h, .inr (3, [.ref qA, .ref g, .ref qc]))], [(g, .inl (cG, 12, .inr (.inr (.inr (.inr (go rh))))))], [(qc, .inl (cI, 12, .inl ch))], gd cI 12 rh (gN hd), wA]) H → va_D A (List.flatten [[(h, .inr (3, [.ref qA, .ref g, .ref qc]))], [(g, .inl (cG, 12, .inr (.inr (.inr (.inr (go rh))))))], [(qc, .inl (cI, 12, .inl ch))], gd cI 12 rh (gN hd), wA]) → va_S A s.heap H locs → lv_has ls 4 [(3, .int (nI j)), (0, .ref h), (1, .int (nI a)), (2, .int (nI b))] → W p l e (rm_ 0 0 0 0) s m args below meth c H locs 0 0 Q (F0 m 2 ls []) := by
    intro k
    induction k with
    | zero =>
      intro j H locs ls hk hs hP hD hS hl
      refine lv_iload_n hx hb d_Stores_areSame_2 rfl (lv_at hl 0 rfl) ?_
      refine lv_bipush (v := nI 12) hx hb d_Stores_areSame_3 (by decide) ?_
      refine ri_icmp_ge hx hb (by omega) (by omega) d_Stores_areSame_5 (tgt := 35) (by decide) (fun hc9 => ?_) (fun hc9 => ?_)
      · refine lv_iconst (v := nI 1) hx hb d_Stores_areSame_35 (by decide) ?_
        exact ct_zret (b := true) hQ hx hb hr hlk hP hD hS hK (by omega) (by omega) d_Stores_areSame_36 (⟨congrArg bI (bm_same_t 12 (fun x hx => hs x (by omega))).symm, rfl⟩)
      · exact absurd hc9 (by omega)
    | succ k ih =>
      intro j H locs ls hk hs hP hD hS hl
      refine lv_iload_n hx hb d_Stores_areSame_2 rfl (lv_at hl 0 rfl) ?_
      refine lv_bipush (v := nI 12) hx hb d_Stores_areSame_3 (by decide) ?_
      refine ri_icmp_ge hx hb (by omega) (by omega) d_Stores_areSame_5 (tgt := 35) (by decide) (fun hc9 => ?_) (fun hc9 => ?_)
      · exact absurd hc9 (by omega)
      · refine lv_aload_n hx hb d_Stores_areSame_8 rfl (lv_at hl 1 rfl) ?_
        refine va_get (D := D) (ci := 3) (v := .ref g) (C := R_Stores) (T := T_Stores) (N := 3) hx hb ht in_Stores hown hK hP 0 rfl rfl 1 (by decide) (ht _ kl_Stores_22) (fun _ h9 => h9) rfl d_Stores_areSame_9 ?_
        refine lv_iload_n hx hb d_Stores_areSame_12 rfl (lv_at hl 2 rfl) ?_
        refine ri_aald hx hb hK hP 1 3 rfl rfl (j := a) (by omega) (by omega) (go_at (by omega)) d_Stores_areSame_13 ?_
        refine lv_iload_n hx hb d_Stores_areSame_14 rfl (lv_at hl 0 rfl) ?_
        refine ri_gld hx hb hK hP 3 0 rfl rfl (i := a) (j := j) (by omega) (by omega) (by decide) d_Stores_areSame_15 ?_
        refine W.eq (g2 := F0 m 16 ls [.int (nI (hd a j))]) rfl ?_
        refine lv_aload_n hx hb d_Stores_areSame_16 rfl (lv_at hl 1 rfl) ?_
        refine va_get (D := D) (ci := 3) (v := .ref g) (C := R_Stores) (T := T_Stores) (N := 3) hx hb ht in_Stores hown hK hP 0 rfl rfl 1 (by decide) (ht _ kl_Stores_22) (fun _ h9 => h9) rfl d_Stores_areSame_17 ?_
        refine lv_iload_n hx hb d_Stores_areSame_20 rfl (lv_at hl 3 rfl) ?_
        refine ri_aald hx hb hK hP 1 3 rfl rfl (j := b) (by omega) (by omega) (go_at (by omega)) d_Stores_areSame_21 ?_
        refine lv_iload_n hx hb d_Stores_areSame_22 rfl (lv_at hl 0 rfl) ?_
        refine ri_gld hx hb hK hP 3 0 rfl rfl (i := b) (j := j) (by omega) (by omega) (by decide) d_Stores_areSame_23 ?_
        refine W.eq (g2 := F0 m 24 ls [.int (nI (hd b j)), .int (nI (hd a j))]) rfl ?_
        refine ri_icmp_eq hx hb (hh _ _) (hh _ _) d_Stores_areSame_24 (tgt := 29) (by decide) (fun h1 => ?_) (fun h1 => ?_)
        · refine ri_iinc hx hb d_Stores_areSame_29 hl (k := 0) rfl (by decide) rfl (fun ls hl => ?_)
          have hl : lv_has ls 4 [(3, .int (nI (j + 1))), (0, .ref h), (1, .int (nI a)), (2, .int (nI b))] := hl
          refine lv_goto hx hb d_Stores_areSame_32 (tgt := 2) (by decide) ?_
          exact ih (j + 1) H locs ls (by omega) (lt_s hs h1) hP hD hS hl
        · refine lv_iconst (v := nI 0) hx hb d_Stores_areSame_27 (by decide) ?_
          exact ct_zret (b := false) hQ hx hb hr hlk hP hD hS hK (by omega) (by omega) d_Stores_areSame_28 (⟨congrArg bI (bm_same_f h1 12 (by omega)).symm, rfl⟩)
  refine lv_iconst (v := nI 0) hx hb d_Stores_areSame_0 (by decide) ?_
  refine lv_istore_n hx hb d_Stores_areSame_1 rfl hl (by decide) rfl (fun ls hl => ?_)
  have hl : lv_has ls 4 [(3, .int (nI 0)), (0, .ref h), (1, .int (nI a)), (2, .int (nI b))] := hl
  exact loop 12 0 s.heap [] ls (by omega) (fun x hx => absurd hx (by omega)) hP hD hS hl
