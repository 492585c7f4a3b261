/-! Rows: contracts of its methods. -/
/-- the cells of a Rows: its object at h, its ints f at q, w to a row, n rows from o on, L ints in all -/
abbrev rw_w (cI : ClassId) (h q w o n L : Nat) (f : Nat → Int32) : va_W := [(h, .inr (0, [.int (nI w), .ref q, .int (nI o), .int (nI n)])), (q, .inl (cI, L, .inl f))]
def rw_i (w o L i j : Nat) : Nat := if o + i * w + j < L then o + i * w + j else o + i * w + j - L
set_option maxHeartbeats 4000000 in
set_option maxRecDepth 100000 in
theorem c_Rows_size (l : Launch) (D : va_G) (cI cZ cJ cG : ClassId) (h q w o n L : Nat) (f : Nat → Int32)  : ct_I l D kls (ty4 cI cZ cJ cG) y_Rows_size ws_Rows_size (rm_ 0 0 0 0) [.ref h] (rw_w cI h q w o n L f) (fun r u => r = nI n ∧ u = rw_w cI h q w o n L f) 0 0 := by
  refine ct_enterI (cc := b_Rows_size) (maxL := 1) (ret := (some .int)) (by decide +kernel) (Nat.le_of_ble_eq_true rfl) ?_
  intro p e s m args below meth c hx hb hml hr ht hown hlk hnm A Q hA hK hP hD hQ ls hl
  have hown : s.vm.findClass R_Rows = some m.cls := hown
  have hS : va_S A s.heap s.heap [] := va_S.rf
  have hl : lv_has ls 1 [(0, .ref h)] := hl
  refine lv_aload_n hx hb d_Rows_size_0 rfl (lv_at hl 0 rfl) ?_
  refine va_get (D := D) (ci := 0) (v := .int (nI n)) (C := R_Rows) (T := T_Rows) (N := 4) hx hb ht in_Rows hown hK hP 0 rfl rfl 3 (by decide) (ht _ kl_Rows_17) (fun _ h9 => h9) rfl d_Rows_size_1 ?_
  exact ct_iret hQ hx hb hr hlk hP hD hS hK (by omega) (by omega) d_Rows_size_4 (⟨rfl, rfl⟩)
set_option maxHeartbeats 4000000 in
set_option maxRecDepth 100000 in
theorem c_Rows_cellOf (l : Launch) (D : va_G) (cI cZ cJ cG : ClassId) (h q w o n L : Nat) (f : Nat → Int32) (i j : Nat) (hb1 : o + i * w + j < 2147483648) (hL : L < 2147483648) : ct_I l D kls (ty4 cI cZ cJ cG) y_Rows_cellOf ws_Rows_cellOf (rm_ 0 0 0 0) [.ref h, .int (nI i), .int (nI j)] (rw_w cI h q w o n L f) (fun r u => r = nI (rw_i w o L i j) ∧ u = rw_w cI h q w o n L f) 0 0 := by
  refine ct_enterI (cc := b_Rows_cellOf) (maxL := 4) (ret := (some .int)) (by decide +kernel) (Nat.le_of_ble_eq_true rfl) ?_
  intro p e s m args below meth c hx hb hml hr ht hown hlk hnm A Q hA hK hP hD hQ ls hl
  have hown : s.vm.findClass R_Rows = some m.cls := hown
  have hS : va_S A s.heap s.heap [] := va_S.rf
  have hl : lv_has ls 4 [(0, .ref h), (1, .int (nI i)), (2, .int (nI j))] := hl
  refine lv_aload_n hx hb d_Rows_cellOf_0 rfl (lv_at hl 0 rfl) ?_
  refine va_get (D := D) (ci := 0) (v := .int (nI o)) (C := R_Rows) (T := T_Rows) (N := 4) hx hb ht in_Rows hown hK hP 0 rfl rfl 2 (by decide) (ht _ kl_Rows_31) (fun _ h9 => h9) rfl d_Rows_cellOf_1 ?_
  refine lv_iload_n hx hb d_Rows_cellOf_4 rfl (lv_at hl 1 rfl) ?_
  refine lv_aload_n hx hb d_Rows_cellOf_5 rfl (lv_at hl 0 rfl) ?_
  refine va_get (D := D) (ci := 0) (v := .int (nI w)) (C := R_Rows) (T := T_Rows) (N := 4) hx hb ht in_Rows hown hK hP 0 rfl rfl 0 (by decide) (ht _ kl_Rows_7) (fun _ h9 => h9) rfl d_Rows_cellOf_6 ?_
  refine ri_imul hx hb d_Rows_cellOf_9 ?_
  refine ri_iadd hx hb d_Rows_cellOf_10 ?_
  refine lv_iload_n hx hb d_Rows_cellOf_11 rfl (lv_at hl 2 rfl) ?_
  refine ri_iadd hx hb d_Rows_cellOf_12 ?_
  refine lv_istore_n hx hb d_Rows_cellOf_13 rfl hl (by decide) rfl (fun ls hl => ?_)
  have hl : lv_has ls 4 [(3, .int (nI ((o + (i * w)) + j))), (0, .ref h), (1, .int (nI i)), (2, .int (nI j))] := hl
  refine lv_iload_n hx hb d_Rows_cellOf_14 rfl (lv_at hl 0 rfl) ?_
  refine lv_aload_n hx hb d_Rows_cellOf_15 rfl (lv_at hl 1 rfl) ?_
  refine va_get (D := D) (ci := 0) (v := .ref q) (C := R_Rows) (T := T_Rows) (N := 4) hx hb ht in_Rows hown hK hP 0 rfl rfl 1 (by decide) (ht _ kl_Rows_13) (fun _ h9 => h9) rfl d_Rows_cellOf_16 ?_
  refine va_alen hx hb hK hP 1 0 rfl rfl (v := nI L) rfl d_Rows_cellOf_19 ?_
  refine ri_icmp_ge hx hb (by omega) (by omega) d_Rows_cellOf_20 (tgt := 27) (by decide) (fun h1 => ?_) (fun h1 => ?_)
  · refine lv_iload_n hx hb d_Rows_cellOf_27 rfl (lv_at hl 0 rfl) ?_
    refine lv_aload_n hx hb d_Rows_cellOf_28 rfl (lv_at hl 1 rfl) ?_
    refine va_get (D := D) (ci := 0) (v := .ref q) (C := R_Rows) (T := T_Rows) (N := 4) hx hb ht in_Rows hown hK hP 0 rfl rfl 1 (by decide) (ht _ kl_Rows_13) (fun _ h9 => h9) rfl d_Rows_cellOf_29 ?_
    refine va_alen hx hb hK hP 1 0 rfl rfl (v := nI L) rfl d_Rows_cellOf_32 ?_
    refine ri_isub hx hb (by omega) d_Rows_cellOf_33 ?_
    exact ct_iret hQ hx hb hr hlk hP hD hS hK (by omega) (by omega) d_Rows_cellOf_34 (⟨by unfold rw_i; rw [if_neg (by omega)], rfl⟩)
  · refine lv_iload_n hx hb d_Rows_cellOf_23 rfl (lv_at hl 0 rfl) ?_
    refine lv_goto hx hb d_Rows_cellOf_24 (tgt := 34) (by decide) ?_
    exact ct_iret hQ hx hb hr hlk hP hD hS hK (by omega) (by omega) d_Rows_cellOf_34 (⟨by unfold rw_i; rw [if_pos h1], rfl⟩)
set_option maxHeartbeats 4000000 in
set_option maxRecDepth 100000 in
theorem c_Rows_get (l : Launch) (D : va_G) (cI cZ cJ cG : ClassId) (h q w o n L : Nat) (f : Nat → Int32) (i j : Nat) (hb1 : o + i * w + j < 2147483648) (hL : L < 2147483648) (hi : rw_i w o L i j < L) : ct_I l D kls (ty4 cI cZ cJ cG) y_Rows_get ws_Rows_get (rm_ 1 23 0 0) [.ref h, .int (nI i), .int (nI j)] (rw_w cI h q w o n L f) (fun r u => r = f (rw_i w o L i j) ∧ u = rw_w cI h q w o n L f) 0 0 := by
  refine ct_enterI (cc := b_Rows_get) (maxL := 3) (ret := (some .int)) (by decide +kernel) (Nat.le_of_ble_eq_true rfl) ?_
  intro p e s m args below meth c hx hb hml hr ht hown hlk hnm A Q hA hK hP hD hQ ls hl
  have hown : s.vm.findClass R_Rows = some m.cls := hown
  have hS : va_S A s.heap s.heap [] := va_S.rf
  have hl : lv_has ls 3 [(0, .ref h), (1, .int (nI i)), (2, .int (nI j))] := hl
  refine lv_aload_n hx hb d_Rows_get_0 rfl (lv_at hl 0 rfl) ?_
  refine va_get (D := D) (ci := 0) (v := .ref q) (C := R_Rows) (T := T_Rows) (N := 4) hx hb ht in_Rows hown hK hP 0 rfl rfl 1 (by decide) (ht _ kl_Rows_13) (fun _ h9 => h9) rfl d_Rows_get_1 ?_
  refine lv_aload_n hx hb d_Rows_get_4 rfl (lv_at hl 0 rfl) ?_
  refine lv_iload_n hx hb d_Rows_get_5 rfl (lv_at hl 1 rfl) ?_
  refine lv_iload_n hx hb d_Rows_get_6 rfl (lv_at hl 2 rfl) ?_
  refine ct_rdV (C := R_Rows) (ci := 0) (As := [.int (nI i), .int (nI j)]) (rest := [.ref q]) ⟨hx, hb, hml, hown, ht⟩ (c_Rows_cellOf l D cI cZ cJ cG h q w o n L f i j hb1 hL) (cb_V ht kc_Rows_cellOf kl_Rows_20 kn_Rows ki_Rows_cellOf ks_Rows_cellOf hd_Rows_cellOf ⟨Nat.le_of_ble_eq_true rfl, Nat.le_of_ble_eq_true rfl⟩) (List.mem_of_getElem? (i := 0) rfl) rfl rfl (pm_all _) hK hP hD hS hA rfl hl.1 rfl (Nat.le_of_ble_eq_true rfl) ⟨(show 0 + 0 ≤ 0 by omega), (show 0 + 0 ≤ 0 by omega)⟩ d_Rows_get_7 (fun rhr1 H locs hr1 hP hD hS => ?_)
  subst hr1
  refine ri_iald hx hb hK hP 1 0 rfl rfl (j := rw_i w o L i j) hi hL d_Rows_get_10 ?_
  exact ct_iret hQ hx hb hr hlk hP hD hS hK (by omega) (by omega) d_Rows_get_11 (⟨rfl, rfl⟩)
set_option maxHeartbeats 4000000 in
set_option maxRecDepth 100000 in
theorem c_Rows_set (l : Launch) (D : va_G) (cI cZ cJ cG : ClassId) (h q w o n L : Nat) (f : Nat → Int32) (i j : Nat) (v : Int32) (hb1 : o + i * w + j < 2147483648) (hL : L < 2147483648) (hi : rw_i w o L i j < L) : ct_V l D kls (ty4 cI cZ cJ cG) y_Rows_set ws_Rows_set (rm_ 1 23 0 0) [.ref h, .int (nI i), .int (nI j), .int v] (rw_w cI h q w o n L f) (fun u => u = rw_w cI h q w o n L (upd f (rw_i w o L i j) v)) 0 0 := by
  refine ct_enterV (cc := b_Rows_set) (maxL := 4) (ret := none) (by decide +kernel) (Nat.le_of_ble_eq_true rfl) ?_
  intro p e s m args below meth c hx hb hml hr ht hown hlk hnm A Q hA hK hP hD hQ ls hl
  have hown : s.vm.findClass R_Rows = some m.cls := hown
  have hS : va_S A s.heap s.heap [] := va_S.rf
  have hl : lv_has ls 4 [(0, .ref h), (1, .int (nI i)), (2, .int (nI j)), (3, .int v)] := hl
  refine lv_aload_n hx hb d_Rows_set_0 rfl (lv_at hl 0 rfl) ?_
  refine va_get (D := D) (ci := 0) (v := .ref q) (C := R_Rows) (T := T_Rows) (N := 4) hx hb ht in_Rows hown hK hP 0 rfl rfl 1 (by decide) (ht _ kl_Rows_13) (fun _ h9 => h9) rfl d_Rows_set_1 ?_
  refine lv_aload_n hx hb d_Rows_set_4 rfl (lv_at hl 0 rfl) ?_
  refine lv_iload_n hx hb d_Rows_set_5 rfl (lv_at hl 1 rfl) ?_
  refine lv_iload_n hx hb d_Rows_set_6 rfl (lv_at hl 2 rfl) ?_
  refine ct_rdV (C := R_Rows) (ci := 0) (As := [.int (nI i), .int (nI j)]) (rest := [.ref q]) ⟨hx, hb, hml, hown, ht⟩ (c_Rows_cellOf l D cI cZ cJ cG h q w o n L f i j hb1 hL) (cb_V ht kc_Rows_cellOf kl_Rows_20 kn_Rows ki_Rows_cellOf ks_Rows_cellOf hd_Rows_cellOf ⟨Nat.le_of_ble_eq_true rfl, Nat.le_of_ble_eq_true rfl⟩) (List.mem_of_getElem? (i := 0) rfl) rfl rfl (pm_all _) hK hP hD hS hA rfl hl.1 rfl (Nat.le_of_ble_eq_true rfl) ⟨(show 0 + 0 ≤ 0 by omega), (show 0 + 0 ≤ 0 by omega)⟩ d_Rows_set_7 (fun rhr1 H locs hr1 hP hD hS => ?_)
  subst hr1
  refine lv_iload_n hx hb d_Rows_set_10 rfl (lv_at hl 3 rfl) ?_
  refine ri_iast hx hb hK hP hD hS 1 0 rfl rfl (j := rw_i w o L i j) hi hL d_Rows_set_11 (fun H locs hP hD hS => ?_)
  have hP : va_P D kls ([(h, .inr (0, [.int (nI w), .ref q, .int (nI o), .int (nI n)])), (q, .inl (cI, L, .inl (upd f (rw_i w o L i j) v)))]) H := hP
  have hD : va_D A ([(h, .inr (0, [.int (nI w), .ref q, .int (nI o), .int (nI n)])), (q, .inl (cI, L, .inl (upd f (rw_i w o L i j) v)))]) := hD
  exact ct_vret hQ hx hb hr hlk hP hD hS hK (by omega) (by omega) d_Rows_set_12 (rfl)
set_option maxHeartbeats 4000000 in
set_option maxRecDepth 100000 in
theorem c_Rows_dropOldest (l : Launch) (D : va_G) (cI cZ cJ cG : ClassId) (h q w o n L : Nat) (f : Nat → Int32) (hn : 0 < n) (hb1 : o + w < 2147483648) (hL : L < 2147483648) : ct_V l D kls (ty4 cI cZ cJ cG) y_Rows_dropOldest ws_Rows_dropOldest (rm_ 0 0 0 0) [.ref h] (rw_w cI h q w o n L f) (fun u => u = rw_w cI h q w (if o + w = L then 0 else o + w) (n - 1) L f) 0 0 := by
  refine ct_enterV (cc := b_Rows_dropOldest) (maxL := 1) (ret := none) (by decide +kernel) (Nat.le_of_ble_eq_true rfl) ?_
  intro p e s m args below meth c hx hb hml hr ht hown hlk hnm A Q hA hK hP hD hQ ls hl
  have hown : s.vm.findClass R_Rows = some m.cls := hown
  have hS : va_S A s.heap s.heap [] := va_S.rf
  have hl : lv_has ls 1 [(0, .ref h)] := hl
  refine lv_aload_n hx hb d_Rows_dropOldest_0 rfl (lv_at hl 0 rfl) ?_
  refine lv_dup hx hb d_Rows_dropOldest_1 rfl ?_
  refine va_get (D := D) (ci := 0) (v := .int (nI o)) (C := R_Rows) (T := T_Rows) (N := 4) hx hb ht in_Rows hown hK hP 0 rfl rfl 2 (by decide) (ht _ kl_Rows_31) (fun _ h9 => h9) rfl d_Rows_dropOldest_2 ?_
  refine lv_aload_n hx hb d_Rows_dropOldest_5 rfl (lv_at hl 0 rfl) ?_
  refine va_get (D := D) (ci := 0) (v := .int (nI w)) (C := R_Rows) (T := T_Rows) (N := 4) hx hb ht in_Rows hown hK hP 0 rfl rfl 0 (by decide) (ht _ kl_Rows_7) (fun _ h9 => h9) rfl d_Rows_dropOldest_6 ?_
  refine ri_iadd hx hb d_Rows_dropOldest_9 ?_
  refine va_put (D := D) (ci := 0) (v := .int (nI (o + w))) (ty := .int) (C := R_Rows) (T := T_Rows) (N := 4) hx hb ht in_Rows t_Rows ok_Rows nm_Rows hown hK hP hD hS 0 rfl rfl 2 (by decide) (ht _ kl_Rows_31) (fun _ h9 => h9) rfl (by decide +kernel) rfl rfl (Nat.le_of_ble_eq_true rfl) d_Rows_dropOldest_10 (fun H locs hP hD hS => ?_)
  have hP : va_P D kls ([(h, .inr (0, [.int (nI w), .ref q, .int (nI (o + w)), .int (nI n)])), (q, .inl (cI, L, .inl f))]) H := hP
  have hD : va_D A ([(h, .inr (0, [.int (nI w), .ref q, .int (nI (o + w)), .int (nI n)])), (q, .inl (cI, L, .inl f))]) := hD
  refine lv_aload_n hx hb d_Rows_dropOldest_13 rfl (lv_at hl 0 rfl) ?_
  refine va_get (D := D) (ci := 0) (v := .int (nI (o + w))) (C := R_Rows) (T := T_Rows) (N := 4) hx hb ht in_Rows hown hK hP 0 rfl rfl 2 (by decide) (ht _ kl_Rows_31) (fun _ h9 => h9) rfl d_Rows_dropOldest_14 ?_
  refine lv_aload_n hx hb d_Rows_dropOldest_17 rfl (lv_at hl 0 rfl) ?_
  refine va_get (D := D) (ci := 0) (v := .ref q) (C := R_Rows) (T := T_Rows) (N := 4) hx hb ht in_Rows hown hK hP 0 rfl rfl 1 (by decide) (ht _ kl_Rows_13) (fun _ h9 => h9) rfl d_Rows_dropOldest_18 ?_
  refine va_alen hx hb hK hP 1 0 rfl rfl (v := nI L) rfl d_Rows_dropOldest_21 ?_
  refine ri_icmp_ne hx hb (by omega) (by omega) d_Rows_dropOldest_22 (tgt := 30) (by decide) (fun h1 => ?_) (fun h1 => ?_)
  · refine lv_aload_n hx hb d_Rows_dropOldest_30 rfl (lv_at hl 0 rfl) ?_
    refine lv_dup hx hb d_Rows_dropOldest_31 rfl ?_
    refine va_get (D := D) (ci := 0) (v := .int (nI n)) (C := R_Rows) (T := T_Rows) (N := 4) hx hb ht in_Rows hown hK hP 0 rfl rfl 3 (by decide) (ht _ kl_Rows_17) (fun _ h9 => h9) rfl d_Rows_dropOldest_32 ?_
    refine lv_iconst (v := nI 1) hx hb d_Rows_dropOldest_35 (by decide) ?_
    refine ri_isub hx hb (by omega) d_Rows_dropOldest_36 ?_
    refine va_put (D := D) (ci := 0) (v := .int (nI (n - 1))) (ty := .int) (C := R_Rows) (T := T_Rows) (N := 4) hx hb ht in_Rows t_Rows ok_Rows nm_Rows hown hK hP hD hS 0 rfl rfl 3 (by decide) (ht _ kl_Rows_17) (fun _ h9 => h9) rfl (by decide +kernel) rfl rfl (Nat.le_of_ble_eq_true rfl) d_Rows_dropOldest_37 (fun H locs hP hD hS => ?_)
    have hP : va_P D kls ([(h, .inr (0, [.int (nI w), .ref q, .int (nI (o + w)), .int (nI (n - 1))])), (q, .inl (cI, L, .inl f))]) H := hP
    have hD : va_D A ([(h, .inr (0, [.int (nI w), .ref q, .int (nI (o + w)), .int (nI (n - 1))])), (q, .inl (cI, L, .inl f))]) := hD
    exact ct_vret hQ hx hb hr hlk hP hD hS hK (by omega) (by omega) d_Rows_dropOldest_40 (by rw [if_neg h1])
  · refine lv_aload_n hx hb d_Rows_dropOldest_25 rfl (lv_at hl 0 rfl) ?_
    refine lv_iconst (v := nI 0) hx hb d_Rows_dropOldest_26 (by decide) ?_
    refine va_put (D := D) (ci := 0) (v := .int (nI 0)) (ty := .int) (C := R_Rows) (T := T_Rows) (N := 4) hx hb ht in_Rows t_Rows ok_Rows nm_Rows hown hK hP hD hS 0 rfl rfl 2 (by decide) (ht _ kl_Rows_31) (fun _ h9 => h9) rfl (by decide +kernel) rfl rfl (Nat.le_of_ble_eq_true rfl) d_Rows_dropOldest_27 (fun H locs hP hD hS => ?_)
    have hP : va_P D kls ([(h, .inr (0, [.int (nI w), .ref q, .int (nI 0), .int (nI n)])), (q, .inl (cI, L, .inl f))]) H := hP
    have hD : va_D A ([(h, .inr (0, [.int (nI w), .ref q, .int (nI 0), .int (nI n)])), (q, .inl (cI, L, .inl f))]) := hD
    refine lv_aload_n hx hb d_Rows_dropOldest_30 rfl (lv_at hl 0 rfl) ?_
    refine lv_dup hx hb d_Rows_dropOldest_31 rfl ?_
    refine va_get (D := D) (ci := 0) (v := .int (nI n)) (C := R_Rows) (T := T_Rows) (N := 4) hx hb ht in_Rows hown hK hP 0 rfl rfl 3 (by decide) (ht _ kl_Rows_17) (fun _ h9 => h9) rfl d_Rows_dropOldest_32 ?_
    refine lv_iconst (v := nI 1) hx hb d_Rows_dropOldest_35 (by decide) ?_
    refine ri_isub hx hb (by omega) d_Rows_dropOldest_36 ?_
    refine va_put (D := D) (ci := 0) (v := .int (nI (n - 1))) (ty := .int) (C := R_Rows) (T := T_Rows) (N := 4) hx hb ht in_Rows t_Rows ok_Rows nm_Rows hown hK hP hD hS 0 rfl rfl 3 (by decide) (ht _ kl_Rows_17) (fun _ h9 => h9) rfl (by decide +kernel) rfl rfl (Nat.le_of_ble_eq_true rfl) d_Rows_dropOldest_37 (fun H locs hP hD hS => ?_)
    have hP : va_P D kls ([(h, .inr (0, [.int (nI w), .ref q, .int (nI 0), .int (nI (n - 1))])), (q, .inl (cI, L, .inl f))]) H := hP
    have hD : va_D A ([(h, .inr (0, [.int (nI w), .ref q, .int (nI 0), .int (nI (n - 1))])), (q, .inl (cI, L, .inl f))]) := hD
    exact ct_vret hQ hx hb hr hlk hP hD hS hK (by omega) (by omega) d_Rows_dropOldest_40 (by rw [if_pos h1])
set_option maxHeartbeats 4000000 in
set_option maxRecDepth 100000 in
theorem c_Rows_grow (l : Launch) (D : va_G) (cI cZ cJ cG : ClassId) (h q w o n L : Nat) (f : Nat → Int32) (hL : L < 16777216) (ho : o ≤ L) : ct_V l D kls (ty4 cI cZ cJ cG) y_Rows_grow ws_Rows_grow (rm_ 1 30 1 (L * 2)) [.ref h] (rw_w cI h q w o n L f) (fun u => ∃ q2, u = rw_w cI h q2 w 0 n (L * 2) (va_cpy f (va_cpy f (fun _ => 0) o 0 (L - o)) 0 (L - o) o)) 1 (L * 2) := by
  refine ct_enterV (cc := b_Rows_grow) (maxL := 3) (ret := none) (by decide +kernel) (Nat.le_of_ble_eq_true rfl) ?_
  intro p e s m args below meth c hx hb hml hr ht hown hlk hnm A Q hA hK hP hD hQ ls hl
  have hown : s.vm.findClass R_Rows = some m.cls := hown
  have hS : va_S A s.heap s.heap [] := va_S.rf
  have hl : lv_has ls 3 [(0, .ref h)] := hl
  refine lv_aload_n hx hb d_Rows_grow_0 rfl (lv_at hl 0 rfl) ?_
  refine va_get (D := D) (ci := 0) (v := .ref q) (C := R_Rows) (T := T_Rows) (N := 4) hx hb ht in_Rows hown hK hP 0 rfl rfl 1 (by decide) (ht _ kl_Rows_13) (fun _ h9 => h9) rfl d_Rows_grow_1 ?_
  refine va_alen hx hb hK hP 1 0 rfl rfl (v := nI L) rfl d_Rows_grow_4 ?_
  refine lv_iconst (v := nI 2) hx hb d_Rows_grow_5 (by decide) ?_
  refine ri_imul hx hb d_Rows_grow_6 ?_
  refine ri_newi hx hb (ht _ ka_int) hK hP hD hS hA 0 rfl (by omega) (show 0 + 1 ≤ 1 by omega) (show 0 + (L * 2) ≤ (L * 2) by omega) d_Rows_grow_7 (fun q7 H hP hD hS => ?_)
  have hP : va_P D kls ([(h, .inr (0, [.int (nI w), .ref q, .int (nI o), .int (nI n)])), (q, .inl (cI, L, .inl f)), (q7, .inl (cI, L * 2, .inl (fun _ => 0)))]) H := hP
  have hD : va_D A ([(h, .inr (0, [.int (nI w), .ref q, .int (nI o), .int (nI n)])), (q, .inl (cI, L, .inl f)), (q7, .inl (cI, L * 2, .inl (fun _ => 0)))]) := hD
  refine lv_astore_n hx hb d_Rows_grow_9 rfl hl (by decide) rfl (fun ls hl => ?_)
  have hl : lv_has ls 3 [(1, .ref q7), (0, .ref h)] := hl
  refine lv_aload_n hx hb d_Rows_grow_10 rfl (lv_at hl 1 rfl) ?_
  refine va_get (D := D) (ci := 0) (v := .ref q) (C := R_Rows) (T := T_Rows) (N := 4) hx hb ht in_Rows hown hK hP 0 rfl rfl 1 (by decide) (ht _ kl_Rows_13) (fun _ h9 => h9) rfl d_Rows_grow_11 ?_
  refine va_alen hx hb hK hP 1 0 rfl rfl (v := nI L) rfl d_Rows_grow_14 ?_
  refine lv_aload_n hx hb d_Rows_grow_15 rfl (lv_at hl 1 rfl) ?_
  refine va_get (D := D) (ci := 0) (v := .int (nI o)) (C := R_Rows) (T := T_Rows) (N := 4) hx hb ht in_Rows hown hK hP 0 rfl rfl 2 (by decide) (ht _ kl_Rows_31) (fun _ h9 => h9) rfl d_Rows_grow_16 ?_
  refine ri_isub hx hb (by omega) d_Rows_grow_19 ?_
  refine lv_istore_n hx hb d_Rows_grow_20 rfl hl (by decide) rfl (fun ls hl => ?_)
  have hl : lv_has ls 3 [(2, .int (nI (L - o))), (1, .ref q7), (0, .ref h)] := hl
  refine lv_aload_n hx hb d_Rows_grow_21 rfl (lv_at hl 2 rfl) ?_
  refine va_get (D := D) (ci := 0) (v := .ref q) (C := R_Rows) (T := T_Rows) (N := 4) hx hb ht in_Rows hown hK hP 0 rfl rfl 1 (by decide) (ht _ kl_Rows_13) (fun _ h9 => h9) rfl d_Rows_grow_22 ?_
  refine lv_aload_n hx hb d_Rows_grow_25 rfl (lv_at hl 2 rfl) ?_
  refine va_get (D := D) (ci := 0) (v := .int (nI o)) (C := R_Rows) (T := T_Rows) (N := 4) hx hb ht in_Rows hown hK hP 0 rfl rfl 2 (by decide) (ht _ kl_Rows_31) (fun _ h9 => h9) rfl d_Rows_grow_26 ?_
  refine lv_aload_n hx hb d_Rows_grow_29 rfl (lv_at hl 1 rfl) ?_
  refine lv_iconst (v := nI 0) hx hb d_Rows_grow_30 (by decide) ?_
  refine lv_iload_n hx hb d_Rows_grow_31 rfl (lv_at hl 0 rfl) ?_
  refine ri_copy hx hb (hml.trans hl.1.symm) hown (ht _ kl_Rows_34) (ht _ kv_arraycopy) (ht _ ki_arraycopy) (ht _ kn_System) hK hP hD hS 1 2 0 rfl rfl rfl (by omega) (by omega) (by omega) (by omega) (Nat.le_of_ble_eq_true rfl) (Nat.le_of_ble_eq_true rfl) d_Rows_grow_32 (fun H locs hP hD hS => ?_)
  have hP : va_P D kls ([(h, .inr (0, [.int (nI w), .ref q, .int (nI o), .int (nI n)])), (q, .inl (cI, L, .inl f)), (q7, .inl (cI, L * 2, .inl (va_cpy f (fun _ => 0) o 0 (L - o))))]) H := hP
  have hD : va_D A ([(h, .inr (0, [.int (nI w), .ref q, .int (nI o), .int (nI n)])), (q, .inl (cI, L, .inl f)), (q7, .inl (cI, L * 2, .inl (va_cpy f (fun _ => 0) o 0 (L - o))))]) := hD
  refine lv_aload_n hx hb d_Rows_grow_35 rfl (lv_at hl 2 rfl) ?_
  refine va_get (D := D) (ci := 0) (v := .ref q) (C := R_Rows) (T := T_Rows) (N := 4) hx hb ht in_Rows hown hK hP 0 rfl rfl 1 (by decide) (ht _ kl_Rows_13) (fun _ h9 => h9) rfl d_Rows_grow_36 ?_
  refine lv_iconst (v := nI 0) hx hb d_Rows_grow_39 (by decide) ?_
  refine lv_aload_n hx hb d_Rows_grow_40 rfl (lv_at hl 1 rfl) ?_
  refine lv_iload_n hx hb d_Rows_grow_41 rfl (lv_at hl 0 rfl) ?_
  refine lv_aload_n hx hb d_Rows_grow_42 rfl (lv_at hl 2 rfl) ?_
  refine va_get (D := D) (ci := 0) (v := .int (nI o)) (C := R_Rows) (T := T_Rows) (N := 4) hx hb ht in_Rows hown hK hP 0 rfl rfl 2 (by decide) (ht _ kl_Rows_31) (fun _ h9 => h9) rfl d_Rows_grow_43 ?_
  refine ri_copy hx hb (hml.trans hl.1.symm) hown (ht _ kl_Rows_34) (ht _ kv_arraycopy) (ht _ ki_arraycopy) (ht _ kn_System) hK hP hD hS 1 2 0 rfl rfl rfl (by omega) (by omega) (by omega) (by omega) (Nat.le_of_ble_eq_true rfl) (Nat.le_of_ble_eq_true rfl) d_Rows_grow_46 (fun H locs hP hD hS => ?_)
  have hP : va_P D kls ([(h, .inr (0, [.int (nI w), .ref q, .int (nI o), .int (nI n)])), (q, .inl (cI, L, .inl f)), (q7, .inl (cI, L * 2, .inl (va_cpy f (va_cpy f (fun _ => 0) o 0 (L - o)) 0 (L - o) o)))]) H := hP
  have hD : va_D A ([(h, .inr (0, [.int (nI w), .ref q, .int (nI o), .int (nI n)])), (q, .inl (cI, L, .inl f)), (q7, .inl (cI, L * 2, .inl (va_cpy f (va_cpy f (fun _ => 0) o 0 (L - o)) 0 (L - o) o)))]) := hD
  refine lv_aload_n hx hb d_Rows_grow_49 rfl (lv_at hl 2 rfl) ?_
  refine lv_aload_n hx hb d_Rows_grow_50 rfl (lv_at hl 1 rfl) ?_
  refine va_put (D := D) (ci := 0) (v := .ref q7) (ty := (.array .int)) (C := R_Rows) (T := T_Rows) (N := 4) hx hb ht in_Rows t_Rows ok_Rows nm_Rows hown hK hP hD hS 0 rfl rfl 1 (by decide) (ht _ kl_Rows_13) (fun _ h9 => h9) rfl (by decide +kernel) rfl rfl (Nat.le_of_ble_eq_true rfl) d_Rows_grow_51 (fun H locs hP hD hS => ?_)
  have hP : va_P D kls ([(h, .inr (0, [.int (nI w), .ref q7, .int (nI o), .int (nI n)])), (q, .inl (cI, L, .inl f)), (q7, .inl (cI, L * 2, .inl (va_cpy f (va_cpy f (fun _ => 0) o 0 (L - o)) 0 (L - o) o)))]) H := hP
  have hD : va_D A ([(h, .inr (0, [.int (nI w), .ref q7, .int (nI o), .int (nI n)])), (q, .inl (cI, L, .inl f)), (q7, .inl (cI, L * 2, .inl (va_cpy f (va_cpy f (fun _ => 0) o 0 (L - o)) 0 (L - o) o)))]) := hD
  refine lv_aload_n hx hb d_Rows_grow_54 rfl (lv_at hl 2 rfl) ?_
  refine lv_iconst (v := nI 0) hx hb d_Rows_grow_55 (by decide) ?_
  refine va_put (D := D) (ci := 0) (v := .int (nI 0)) (ty := .int) (C := R_Rows) (T := T_Rows) (N := 4) hx hb ht in_Rows t_Rows ok_Rows nm_Rows hown hK hP hD hS 0 rfl rfl 2 (by decide) (ht _ kl_Rows_31) (fun _ h9 => h9) rfl (by decide +kernel) rfl rfl (Nat.le_of_ble_eq_true rfl) d_Rows_grow_56 (fun H locs hP hD hS => ?_)
  have hP : va_P D kls ([(h, .inr (0, [.int (nI w), .ref q7, .int (nI 0), .int (nI n)])), (q, .inl (cI, L, .inl f)), (q7, .inl (cI, L * 2, .inl (va_cpy f (va_cpy f (fun _ => 0) o 0 (L - o)) 0 (L - o) o)))]) H := hP
  have hD : va_D A ([(h, .inr (0, [.int (nI w), .ref q7, .int (nI 0), .int (nI n)])), (q, .inl (cI, L, .inl f)), (q7, .inl (cI, L * 2, .inl (va_cpy f (va_cpy f (fun _ => 0) o 0 (L - o)) 0 (L - o) o)))]) := hD
  have hP := hP.sub (ws' := rw_w cI h q7 w 0 n (L * 2) (va_cpy f (va_cpy f (fun _ => 0) o 0 (L - o)) 0 (L - o) o)) [0, 2] rfl
  have hD := hD.sub (ws' := rw_w cI h q7 w 0 n (L * 2) (va_cpy f (va_cpy f (fun _ => 0) o 0 (L - o)) 0 (L - o) o)) [0, 2] (by decide) rfl
  exact ct_vret hQ hx hb hr hlk hP hD hS hK (by omega) (by omega) d_Rows_grow_59 (⟨q7, rfl⟩)
