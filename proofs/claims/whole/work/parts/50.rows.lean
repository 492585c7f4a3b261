/-! Rows: contracts of its methods. -/
/-- the cells of a Rows: its object at h, its ints f at q, w to a row, n rows from o on, L ints in all -/
abbrev rw_w (cI : ClassId) (h q w o n L : Nat) (f : Nat → Int32) : va_W := [(h, .inr (0, [.int (nI w), .ref q, .int (nI o), .int (nI n)])), (q, .inl (cI, L, .inl f))]
def rw_i (w o L i j : Nat) : Nat := if o + i * w + j < L then o + i * w + j else o + i * w + j - L
set_option maxHeartbeats 4000000 in
set_option maxRecDepth 100000 in
theorem c_Rows_size (l : Launch) (D : va_G) (cI cZ cJ cG : ClassId) (h q w o n L : Nat) (f : Nat → Int32)  : ct_I l D kls (ty4 cI cZ cJ cG) y_Rows_size ws_Rows_size (rm_ 0 0 0 0) [.ref h] (rw_w cI h q w o n L f) (fun r u => r = nI n ∧ u = rw_w cI h q w o n L f) 0 0 := by
  refine ct_enterI (cc := b_Rows_size) (maxL := 1) (ret := (some .int)) (by decide +kernel) (Nat.le_of_ble_eq_true rfl) ?_
  intro p e s m args below meth c hx hb hml hr ht hown hlk hnm A Q hA hK hP hD hQ ls hl
  have hown : s.vm.findClass R_Rows = some m.cls := hown
  have hS : va_S A s.heap s.heap [] := va_S.rf
  have hl : lv_has ls 1 [(0, .ref h)] := hl
  refine lv_aload_n hx hb d_Rows_size_0 rfl (lv_at hl 0 rfl) ?_
  refine va_get (D := D) (ci := 0) (v := .int (nI n)) (C := R_Rows) (T := T_Rows) (N := 4) hx hb ht in_Rows hown hK hP 0 rfl rfl 3 (by decide) (ht _ kl_Rows_17) (fun _ h9 => h9) rfl d_Rows_size_1 ?_
  exact ct_iret hQ hx hb hr hlk hP hD hS hK (by omega) (by omega) d_Rows_size_4 (⟨rfl, rfl⟩)
set_option maxHeartbeats 4000000 in
set_option maxRecDepth 100000 in
theorem c_Rows_cellOf (l : Launch) (D : va_G) (cI cZ cJ cG : ClassId) (h q w o n L : Nat) (f : Nat → Int32) (i j : Nat) (hb1 : o + i * w + j < 2147483648) (hL : L < 2147483648) : ct_I l D kls (ty4 cI cZ cJ cG) y_Rows_cellOf ws_Rows_cellOf (rm_ 0 0 0 0) [.ref h, .int (nI i), .int (nI j)] (rw_w cI h q w o n L f) (fun r u => r = nI (rw_i w o L i j) ∧ u = rw_w cI h q w o n L f) 0 0 := by
  refine ct_enterI (cc := b_Rows_cellOf) (maxL := 4) (ret := (some .int)) (by decide +kernel) (Nat.le_of_ble_eq_true rfl) ?_
  intro p e s m args below meth c hx hb hml hr ht hown hlk hnm A Q hA hK hP hD hQ ls hl
  have hown : s.vm.findClass R_Rows = some m.cls := hown
  have hS : va_S A s.heap s.heap [] := va_S.rf
  have hl : lv_has ls 4 [(0, .ref h), (1, .int (nI i)), (2, .int (nI j))] := hl
  refine lv_aload_n hx hb d_Rows_cellOf_0 rfl (lv_at hl 0 rfl) ?_
  refine va_get (D := D) (ci := 0) (v := .int (nI o)) (C := R_Rows) (T := T_Rows) (N := 4) hx hb ht in_Rows hown hK hP 0 rfl rfl 2 (by decide) (ht _ kl_Rows_31) (fun _ h9 => h9) rfl d_Rows_cellOf_1 ?_
  refine lv_iload_n hx hb d_Rows_cellOf_4 rfl (lv_at hl 1 rfl) ?_
  refine lv_aload_n hx hb d_Rows_cellOf_5 rfl (lv_at hl 0 rfl) ?_
  refine va_get (D := D) (ci := 0) (v := .int (nI w)) (C := R_Rows) (T := T_Rows) (N := 4) hx hb ht in_Rows hown hK hP 0 rfl rfl 0 (by decide) (ht _ kl_Rows_7) (fun _ h9 => h9) rfl d_Rows_cellOf_6 ?_
  refine ri_imul hx hb d_Rows_cellOf_9 ?_
  refine ri_iadd hx hb d_Rows_cellOf_10 ?_
  refine lv_iload_n hx hb d_Rows_cellOf_11 rfl (lv_at hl 2 rfl) ?_
  refine ri_iadd hx hb d_Rows_cellOf_12 ?_
  refine lv_istore_n hx hb d_Rows_cellOf_13 rfl hl (by decide) rfl (fun ls hl => ?_)
  have hl : lv_has ls 4 [(3, .int (nI ((o + (i * w)) + j))), (0, .ref h), (1, .int (nI i)), (2, .int (nI j))] := hl
  refine lv_iload_n hx hb d_Rows_cellOf_14 rfl (lv_at hl 0 rfl) ?_
  refine lv_aload_n hx hb d_Rows_cellOf_15 rfl (lv_at hl 1 rfl) ?_
  refine va_get (D := D) (ci := 0) (v := .ref q) (C := R_Rows) (T := T_Rows) (N := 4) hx hb ht in_Rows hown hK hP 0 rfl rfl 1 (by decide) (ht _ kl_Rows_13) (fun _ h9 => h9) rfl d_Rows_cellOf_16 ?_
  refine va_alen hx hb hK hP 1 0 rfl rfl (v := nI L) rfl d_Rows_cellOf_19 ?_
  refine ri_icmp_ge hx hb (by omega) (by omega) d_Rows_cellOf_20 (tgt := 27) (by decide) (fun h1 => ?_) (fun h1 => ?_)
  · refine lv_iload_n hx hb d_Rows_cellOf_27 rfl (lv_at hl 0 rfl) ?_
    refine lv_aload_n hx hb d_Rows_cellOf_28 rfl (lv_at hl 1 rfl) ?_
    refine va_get (D := D) (ci := 0) (v := .ref q) (C := R_Rows) (T := T_Rows) (N := 4) hx hb ht in_Rows hown hK hP 0 rfl rfl 1 (by decide) (ht _ kl_Rows_13) (fun _ h9 => h9) rfl d_Rows_cellOf_29 ?_
    refine va_alen hx hb hK hP 1 0 rfl rfl (v := nI L) rfl d_Rows_cellOf_32 ?_
    refine ri_isub hx hb (by omega) d_Rows_cellOf_33 ?_
    exact ct_iret hQ hx hb hr hlk hP hD hS hK (by omega) (by omega) d_Rows_cellOf_34 (⟨by unfold rw_i; rw [if_neg (by omega)], rfl⟩)
  · refine lv_iload_n hx hb d_Rows_cellOf_23 rfl (lv_at hl 0 rfl) ?_
    refine lv_goto hx hb d_Rows_cellOf_24 (tgt := 34) (by decide) ?_
    exact ct_iret hQ hx hb hr hlk hP hD hS hK (by omega) (by omega) d_Rows_cellOf_34 (⟨by unfold rw_i; rw [if_pos h1], rfl⟩)
set_option maxHeartbeats 4000000 in
set_option maxRecDepth 100000 in
theorem c_Rows_get (l : Launch) (D : va_G) (cI cZ cJ cG : ClassId) (h q w o n L : Nat) (f : Nat → Int32) (i j : Nat) (hb1 : o + i * w + j < 2147483648) (hL : L < 2147483648) (hi : rw_i w o L i j < L) : ct_I l D kls (ty4 cI cZ cJ cG) y_Rows_get ws_Rows_get (rm_ 1 23 0 0) [.ref h, .int (nI i), .int (nI j)] (rw_w cI h q w o n L f) (fun r u => r = f (rw_i w o L i j) ∧ u = rw_w cI h q w o n L f) 0 0 := by
  refine ct_enterI (cc := b_Rows_get) (maxL := 3) (ret := (some .int)) (by decide +kernel) (Nat.le_of_ble_eq_true rfl) ?_
  intro p e s m args below meth c hx hb hml hr ht hown hlk hnm A Q hA hK hP hD hQ ls hl
  have hown : s.vm.findClass R_Rows = some m.cls := hown
  have hS : va_S A s.heap s.heap [] := va_S.rf
  have hl : lv_has ls 3 [(0, .ref h), (1, .int (nI i)), (2, .int (nI j))] := hl
  refine lv_aload_n hx hb d_Rows_get_0 rfl (lv_at hl 0 rfl) ?_
  refine va_get (D := D) (ci := 0) (v := .ref q) (C := R_Rows) (T := T_Rows) (N := 4) hx hb ht in_Rows hown hK hP 0 rfl rfl 1 (by decide) (ht _ kl_Rows_13) (fun _ h9 => h9) rfl d_Rows_get_1 ?_
  refine lv_aload_n hx hb d_Rows_get_4 rfl (lv_at hl 0 rfl) ?_
  refine lv_iload_n hx hb d_Rows_get_5 rfl (lv_at hl 1 rfl) ?_
  refine lv_iload_n hx hb d_Rows_get_6 rfl (lv_at hl 2 rfl) ?_
  refine ct_rdV (C := R_Rows) (ci := 0) (As := [.int (nI i), .int (nI j)]) (rest := [.ref q]) ⟨hx, hb, hml, hown, ht⟩ (c_Rows_cellOf l D cI cZ cJ cG h q w o n L f i j hb1 hL) (cb_V ht kc_Rows_cellOf kl_Rows_20 kn_Rows ki_Rows_cellOf ks_Rows_cellOf hd_Rows_cellOf ⟨Nat.le_of_ble_eq_true rfl, Nat.le_of_ble_eq_true rfl⟩) (List.mem_of_getElem? (i := 0) rfl) rfl rfl (pm_all _) hK hP hD hS hA rfl hl.1 rfl (Nat.le_of_ble_eq_true rfl) ⟨(show 0 + 0 ≤ 0 by omega), (show 0 + 0 ≤ 0 by omega)⟩ d_Rows_get_7 (fun rhr1 H locs hr1 hP hD hS => ?_)
  subst hr1
  refine ri_iald hx hb hK hP 1 0 rfl rfl (j := rw_i w o L i j) hi hL d_Rows_get_10 ?_
  exact ct_iret hQ hx hb hr hlk hP hD hS hK (by omega) (by omega) d_Rows_get_11 (⟨rfl, rfl⟩)
set_option maxHeartbeats 4000000 in
set_option maxRecDepth 100000 in
theorem c_Rows_set (l : Launch) (D : va_G) (cI cZ cJ cG : ClassId) (h q w o n L : Nat) (f : Nat → Int32) (i j : Nat) (v : Int32) (hb1 : o + i * w + j < 2147483648) (hL : L < 2147483648) (hi : rw_i w o L i j < L) : ct_V l D kls (ty4 cI cZ cJ cG) y_Rows_set ws_Rows_set (rm_ 1 23 0 0) [.ref h, .int (nI i), .int (nI j), .int v] (rw_w cI h q w o n L f) (fun u => u = rw_w cI h q w o n L (upd f (rw_i w o L i j) v)) 0 0 := by
  refine ct_enterV (cc := b_Rows_set) (maxL := 4) (ret := none) (by decide +kernel) (Nat.le_of_ble_eq_true rfl) ?_
  intro p e s m args below meth c hx hb hml hr ht hown hlk hnm A Q hA hK hP hD hQ ls hl
  have hown : s.vm.findClass R_Rows = some m.cls := hown
  have hS : va_S A s.heap s.heap [] := va_S.rf
  have hl : lv_has ls 4 [(0, .ref h), (1, .int (nI i)), (2, .int (nI j)), (3, .int v)] := hl
  refine lv_aload_n hx hb d_Rows_set_0 rfl (lv_at hl 0 rfl) ?_
  refine va_get (D := D) (ci := 0) (v := .ref q) (C := R_Rows) (T := T_Rows) (N := 4) hx hb ht in_Rows hown hK hP 0 rfl rfl 1 (by decide) (ht _ kl_Rows_13) (fun _ h9 => h9) rfl d_Rows_set_1 ?_
  refine lv_aload_n hx hb d_Rows_set_4 rfl (lv_at hl 0 rfl) ?_
  refine lv_iload_n hx hb d_Rows_set_5 rfl (lv_at hl 1 rfl) ?_
  refine lv_iload_n hx hb d_Rows_set_6 rfl (lv_at hl 2 rfl) ?_
  refine ct_rdV (C := R_Rows) (ci := 0) (As := [.int (nI i), .int (nI j)]) (rest := [.ref q]) ⟨hx, hb, hml, hown, ht⟩ (c_Rows_cellOf l D cI cZ cJ cG h q w o n L f i j hb1 hL) (cb_V ht kc_Rows_cellOf kl_Rows_20 kn_Rows ki_Rows_cellOf ks_Rows_cellOf hd_Rows_cellOf ⟨Nat.le_of_ble_eq_true rfl, Nat.le_of_ble_eq_true rfl⟩) (List.mem_of_getElem? (i := 0) rfl) rfl rfl (pm_all _) hK hP hD hS hA rfl hl.1 rfl (Nat.le_of_ble_eq_true rfl) ⟨(show 0 + 0 ≤ 0 by omega), (show 0 + 0 ≤ 0 by omega)⟩ d_Rows_set_7 (fun rhr1 H locs hr1 hP hD hS => ?_)
  subst hr1
  refine lv_iload_n hx hb d_Rows_set_10 rfl (lv_at hl 3 rfl) ?_
  refine ri_iast hx hb hK hP hD hS 1 0 rfl rfl (j := rw_i w o L i j) hi hL d_Rows_set_11 (fun H locs hP hD hS => ?_)
  have hP : va_P D kls ([(h, .inr (0, [.int (nI w), .ref q, .int (nI o), .int (nI n)])), (q, .inl (cI, L, .inl (upd f (rw_i w o L i j) v)))]) H := hP
  have hD : va_D A ([(h, .inr (0, [.int (nI w), .ref q, .int (nI o), .int (nI n)])), (q, .inl (cI, L, .inl (upd f (rw_i w o L i j) v)))]) := hD
  exact ct_vret hQ hx hb hr hlk hP hD hS hK (by omega) (by omega) d_Rows_set_12 (rfl)
set_option maxHeartbeats 4000000 in
set_option maxRecDepth 100000 in
theorem c_Rows_dropOldest (l : Launch) (D : va_G) (cI cZ cJ cG : ClassId) (h q w o n L : Nat) (f : Nat → Int32) (hn : 0 < n) (hb1 : o + w < 2147483648) (hL : L < 2147483648) : ct_V l D kls (ty4 cI cZ cJ cG) y_Rows_dropOldest ws_Rows_dropOldest (rm_ 0 0 0 0) [.ref h] (rw_w cI h q w o n L f) (fun u => u = rw_w cI h q w (if o + w = L then 0 else o + w) (n - 1) L f) 0 0 := by
  refine ct_enterV (cc := b_Rows_dropOldest) (maxL := 1) (ret := none) (by decide +kernel) (Nat.le_of_ble_eq_true rfl) ?_
  intro p e s m args below meth c hx hb hml hr ht hown hlk hnm A Q hA hK hP hD hQ ls hl
  have hown : s.vm.findClass R_Rows = some m.cls := hown
  have hS : va_S A s.heap s.heap [] := va_S.rf
  have hl : lv_has ls 1 [(0, .ref h)] := hl
  refine lv_aload_n hx hb d_Rows_dropOldest_0 rfl (lv_at hl 0 rfl) ?_
  refine lv_dup hx hb d_Rows_dropOldest_1 rfl ?_
  refine va_get (D := D) (ci := 0) (v := .int (nI o)) (C := R_Rows) (T := T_Rows) (N := 4) hx hb ht in_Rows hown hK hP 0 rfl rfl 2 (by decide) (ht _ kl_Rows_31) (fun _ h9 => h9) rfl d_Rows_dropOldest_2 ?_
  refine lv_aload_n hx hb d_Rows_dropOldest_5 rfl (lv_at hl 0 rfl) ?_
  refine va_get (D := D) (ci := 0) (v := .int (nI w)) (C := R_Rows) (T := T_Rows) (N := 4) hx hb ht in_Rows hown hK hP 0 rfl rfl 0 (by decide) (ht _ kl_Rows_7) (fun _ h9 => h9) rfl d_Rows_dropOldest_6 ?_
  refine ri_iadd hx hb d_Rows_dropOldest_9 ?_
  refine va_put (D := D) (ci := 0) (v := .int (nI (o + w))) (ty := .int) (C := R_Rows) (T := T_Rows) (N := 4) hx hb ht in_Rows t_Rows ok_Rows nm_Rows hown hK hP hD hS 0 rfl rfl 2 (by decide) (ht _ kl_Rows_31) (fun _ h9 => h9) rfl (by decide +kernel) rfl rfl (Nat.le_of_ble_eq_true rfl) d_Rows_dropOldest_10 (fun H locs hP hD hS => ?_)
  have hP : va_P D kls ([(h, .inr (0, [.int (nI w), .ref q, .int (nI (o + w)), .int (nI n)])), (q, .inl (cI, L, .inl f))]) H := hP
  have hD : va_D A ([(h, .inr (0, [.int (nI w), .ref q, .int (nI (o + w)), .int (nI n)])), (q, .inl (cI, L, .inl f))]) := hD
  refine lv_aload_n hx hb d_Rows_dropOldest_13 rfl (lv_at hl 0 rfl) ?_
  refine va_get (D := D) (ci := 0) (v := .int (nI (o + w))) (C := R_Rows) (T := T_Rows) (N := 4) hx hb ht in_Rows hown hK hP 0 rfl rfl 2 (by decide) (ht _ kl_Rows_31) (fun _ h9 => h9) rfl d_Rows_dropOldest_14 ?_
  refine lv_aload_n hx hb d_Rows_dropOldest_17 rfl (lv_at hl 0 rfl) ?_
  refine va_get (D := D) (ci := 0) (v := .ref q) (C := R_Rows) (T := T_Rows) (N := 4) hx hb ht in_Rows hown hK hP 0 rfl rfl 1 (by decide) (ht _ kl_Rows_13) (fun _ h9 => h9) rfl d_Rows_dropOldest_18 ?_
  refine va_alen hx hb hK hP 1 0 rfl rfl (v := nI L) rfl d_Rows_dropOldest_21 ?_
  refine ri_icmp_ne hx hb (by omega) (by omega) d_Rows_dropOldest_22 (tgt := 30) (by decide) (fun h1 => ?_) (fun h1 => ?_)
  · refine lv_aload_n hx hb d_Rows_dropOldest_30 rfl (lv_at hl 0 rfl) ?_
    refine lv_dup hx hb d_Rows_dropOldest_31 rfl ?_
    refine va_get (D := D) (ci := 0) (v := .int (nI n)) (C := R_Rows) (T := T_Rows) (N := 4) hx hb ht in_Rows hown hK hP 0 rfl rfl 3 (by decide) (ht _ kl_Rows_17) (fun _ h9 => h9) rfl d_Rows_dropOldest_32 ?_
    refine lv_iconst (v := nI 1) hx hb d_Rows_dropOldest_35 (by decide) ?_
    refine ri_isub hx hb (by omega) d_Rows_dropOldest_36 ?_
    refine va_put (D := D) (ci := 0) (v := .int (nI (n - 1))) (ty := .int) (C := R_Rows) (T := T_Rows) (N := 4) hx hb ht in_Rows t_Rows ok_Rows nm_Rows hown hK hP hD hS 0 rfl rfl 3 (by decide) (ht _ kl_Rows_17) (fun _ h9 => h9) rfl (by decide +kernel) rfl rfl (Nat.le_of_ble_eq_true rfl) d_Rows_dropOldest_37 (fun H locs hP hD hS => ?_)
    have hP : va_P D kls ([(h, .inr (0, [.int (nI w), .ref q, .int (nI (o + w)), .int (nI (n - 1))])), (q, .inl (cI, L, .inl f))]) H := hP
    have hD : va_D A ([(h, .inr (0, [.int (nI w), .ref q, .int (nI (o + w)), .int (nI (n - 1))])), (q, .inl (cI, L, .inl f))]) := hD
    exact ct_vret hQ hx hb hr hlk hP hD hS hK (by omega) (by omega) d_Rows_dropOldest_40 (by rw [if_neg h1])
  · refine lv_aload_n hx hb d_Rows_dropOldest_25 rfl (lv_at hl 0 rfl) ?_
    refine lv_iconst (v := nI 0) hx hb d_Rows_dropOldest_26 (by decide) ?_
    refine va_put (D := D) (ci := 0) (v := .int (nI 0)) (ty := .int) (C := R_Rows) (T := T_Rows) (N := 4) hx hb ht in_Rows t_Rows ok_Rows nm_Rows hown hK hP hD hS 0 rfl rfl 2 (by decide) (ht _ kl_Rows_31) (fun _ h9 => h9) rfl (by decide +kernel) rfl rfl (Nat.le_of_ble_eq_true rfl) d_Rows_dropOldest_27 (fun H locs hP hD hS => ?_)
    have hP : va_P D kls ([(h, .inr (0, [.int (nI w), .ref q, .int (nI 0), .int (nI n)])), (q, .inl (cI, L, .inl f))]) H := hP
    have hD : va_D A ([(h, .inr (0, [.int (nI w), .ref q, .int (nI 0), .int (nI n)])), (q, .inl (cI, L, .inl f))]) := hD
    refine lv_aload_n hx hb d_Rows_dropOldest_30 rfl (lv_at hl 0 rfl) ?_
    refine lv_dup hx hb d_Rows_dropOldest_31 rfl ?_
    refine va_get (D := D) (ci := 0) (v := .int (nI n)) (C := R_Rows) (T := T_Rows) (N := 4) hx hb ht in_Rows hown hK hP 0 rfl rfl 3 (by decide) (ht _ kl_Rows_17) (fun _ h9 => h9) rfl d_Rows_dropOldest_32 ?_
    refine lv_iconst (v := nI 1) hx hb d_Rows_dropOldest_35 (by decide) ?_
    refine ri_isub hx hb (by omega) d_Rows_dropOldest_36 ?_
    refine va_put (D := D) (ci := 0) (v := .int (nI (n - 1))) (ty := .int) (C := R_Rows) (T := T_Rows) (N := 4) hx hb ht in_Rows t_Rows ok_Rows nm_Rows hown hK hP hD hS 0 rfl rfl 3 (by decide) (ht _ kl_Rows_17) (fun _ h9 => h9) rfl (by decide +kernel) rfl rfl (Nat.le_of_ble_eq_true rfl) d_Rows_dropOldest_37 (fun H locs hP hD hS => ?_)
    have hP : va_P D kls ([(h, .inr (0, [.int (nI w), .ref q, .int (nI 0), .int (nI (n - 1))])), (q, .inl (cI, L, .inl f))]) H := hP
    have hD : va_D A ([(h, .inr (0, [.int (nI w), .ref q, .int (nI 0), .int (nI (n - 1))])), (q, .inl (cI, L, .inl f))]) := hD
    exact ct_vret hQ hx hb hr hlk hP hD hS hK (by omega) (by omega) d_Rows_dropOldest_40 (by rw [if_pos h1])
set_option maxHeartbeats 4000000 in
set_option maxRecDepth 100000 in
theorem c_Rows_grow (l : Launch) (D : va_G) (cI cZ cJ cG : ClassId) (h q w o n L : Nat) (f : Nat → Int32) (hL : L < 16777216) (ho : o ≤ L) : ct_V l D kls (ty4 cI cZ cJ cG) y_Rows_grow ws_Rows_grow (rm_ 1 30 1 (L * 2)) [.ref h] (rw_w cI h q w o n L f) (fun u => ∃ q2, u = rw_w cI h q2 w 0 n (L * 2) (va_cpy f (va_cpy f (fun _ => 0) o 0 (L - o)) 0 (L - o) o)) 1 (L * 2) := by
  refine ct_enterV (cc := b_Rows_grow) (maxL := 3) (ret := none) (by decide +kernel) (Nat.le_of_ble_eq_true rfl) ?_
  intro p e s m args below meth c hx hb hml hr ht hown hlk hnm A Q hA hK hP hD hQ ls hl
  have hown : s.vm.findClass R_Rows = some m.cls := hown
  have hS : va_S A s.heap s.heap [] := va_S.rf
  have hl : lv_has ls 3 [(0, .ref h)] := hl
  refine lv_aload_n hx hb d_Rows_grow_0 rfl (lv_at hl 0 rfl) ?_
  refine va_get (D := D) (ci := 0) (v := .ref q) (C := R_Rows) (T := T_Rows) (N := 4) hx hb ht in_Rows hown hK hP 0 rfl rfl 1 (by decide) (ht _ kl_Rows_13) (fun _ h9 => h9) rfl d_Rows_grow_1 ?_
  refine va_alen hx hb hK hP 1 0 rfl rfl (v := nI L) rfl d_Rows_grow_4 ?_
  refine lv_iconst (v := nI 2) hx hb d_Rows_grow_5 (by decide) ?_
  refine ri_imul hx hb d_Rows_grow_6 ?_
  refine ri_newi hx hb (ht _ ka_int) hK hP hD hS hA 0 rfl (by omega) (show 0 + 1 ≤ 1 by omega) (show 0 + (L * 2) ≤ (L * 2) by omega) d_Rows_grow_7 (fun q7 H hP hD hS => ?_)
  have hP : va_P D kls ([(h, .inr (0, [.int (nI w), .ref q, .int (nI o), .int (nI n)])), (q, .inl (cI, L, .inl f)), (q7, .inl (cI, L * 2, .inl (fun _ => 0)))]) H := hP
  have hD : va_D A ([(h, .inr (0, [.int (nI w), .ref q, .int (nI o), .int (nI n)])), (q, .inl (cI, L, .inl f)), (q7, .inl (cI, L * 2, .inl (fun _ => 0)))]) := hD
  refine lv_astore_n hx hb d_Rows_grow_9 rfl hl (by decide) rfl (fun ls hl => ?_)
  have hl : lv_has ls 3 [(1, .ref q7), (0, .ref h)] := hl
  refine lv_aload_n hx hb d_Rows_grow_10 rfl (lv_at hl 1 rfl) ?_
  refine va_get (D := D) (ci := 0) (v := .ref q) (C := R_Rows) (T := T_Rows) (N := 4) hx hb ht in_Rows hown hK hP 0 rfl rfl 1 (by decide) (ht _ kl_Rows_13) (fun _ h9 => h9) rfl d_Rows_grow_11 ?_
  refine va_alen hx hb hK hP 1 0 rfl rfl (v := nI L) rfl d_Rows_grow_14 ?_
  refine lv_aload_n hx hb d_Rows_grow_15 rfl (lv_at hl 1 rfl) ?_
  refine va_get (D := D) (ci := 0) (v := .int (nI o)) (C := R_Rows) (T := T_Rows) (N := 4) hx hb ht in_Rows hown hK hP 0 rfl rfl 2 (by decide) (ht _ kl_Rows_31) (fun _ h9 => h9) rfl d_Rows_grow_16 ?_
  refine ri_isub hx hb (by omega) d_Rows_grow_19 ?_
  refine lv_istore_n hx hb d_Rows_grow_20 rfl hl (by decide) rfl (fun ls hl => ?_)
  have hl : lv_has ls 3 [(2, .int (nI (L - o))), (1, .ref q7), (0, .ref h)] := hl
  refine lv_aload_n hx hb d_Rows_grow_21 rfl (lv_at hl 2 rfl) ?_
  refine va_get (D := D) (ci := 0) (v := .ref q) (C := R_Rows) (T := T_Rows) (N := 4) hx hb ht in_Rows hown hK hP 0 rfl rfl 1 (by decide) (ht _ kl_Rows_13) (fun _ h9 => h9) rfl d_Rows_grow_22 ?_
  refine lv_aload_n hx hb d_Rows_grow_25 rfl (lv_at hl 2 rfl) ?_
  refine va_get (D := D) (ci := 0) (v := .int (nI o)) (C := R_Rows) (T := T_Rows) (N := 4) hx hb ht in_Rows hown hK hP 0 rfl rfl 2 (by decide) (ht _ kl_Rows_31) (fun _ h9 => h9) rfl d_Rows_grow_26 ?_
  refine lv_aload_n hx hb d_Rows_grow_29 rfl (lv_at hl 1 rfl) ?_
  refine lv_iconst (v := nI 0) hx hb d_Rows_grow_30 (by decide) ?_
  refine lv_iload_n hx hb d_Rows_grow_31 rfl (lv_at hl 0 rfl) ?_
  refine ri_copy hx hb (hml.trans hl.1.symm) hown (ht _ kl_Rows_34) (ht _ kv_arraycopy) (ht _ ki_arraycopy) (ht _ kn_System) hK hP hD hS 1 2 0 rfl rfl rfl (by omega) (by omega) (by omega) (by omega) (Nat.le_of_ble_eq_true rfl) (Nat.le_of_ble_eq_true rfl) d_Rows_grow_32 (fun H locs hP hD hS => ?_)
  have hP : va_P D kls ([(h, .inr (0, [.int (nI w), .ref q, .int (nI o), .int (nI n)])), (q, .inl (cI, L, .inl f)), (q7, .inl (cI, L * 2, .inl (va_cpy f (fun _ => 0) o 0 (L - o))))]) H := hP
  have hD : va_D A ([(h, .inr (0, [.int (nI w), .ref q, .int (nI o), .int (nI n)])), (q, .inl (cI, L, .inl f)), (q7, .inl (cI, L * 2, .inl (va_cpy f (fun _ => 0) o 0 (L - o))))]) := hD
  refine lv_aload_n hx hb d_Rows_grow_35 rfl (lv_at hl 2 rfl) ?_
  refine va_get (D := D) (ci := 0) (v := .ref q) (C := R_Rows) (T := T_Rows) (N := 4) hx hb ht in_Rows hown hK hP 0 rfl rfl 1 (by decide) (ht _ kl_Rows_13) (fun _ h9 => h9) rfl d_Rows_grow_36 ?_
  refine lv_iconst (v := nI 0) hx hb d_Rows_grow_39 (by decide) ?_
  refine lv_aload_n hx hb d_Rows_grow_40 rfl (lv_at hl 1 rfl) ?_
  refine lv_iload_n hx hb d_Rows_grow_41 rfl (lv_at hl 0 rfl) ?_
  refine lv_aload_n hx hb d_Rows_grow_42 rfl (lv_at hl 2 rfl) ?_
  refine va_get (D := D) (ci := 0) (v := .int (nI o)) (C := R_Rows) (T := T_Rows) (N := 4) hx hb ht in_Rows hown hK hP 0 rfl rfl 2 (by decide) (ht _ kl_Rows_31) (fun _ h9 => h9) rfl d_Rows_grow_43 ?_
  refine ri_copy hx hb (hml.trans hl.1.symm) hown (ht _ kl_Rows_34) (ht _ kv_arraycopy) (ht _ ki_arraycopy) (ht _ kn_System) hK hP hD hS 1 2 0 rfl rfl rfl (by omega) (by omega) (by omega) (by omega) (Nat.le_of_ble_eq_true rfl) (Nat.le_of_ble_eq_true rfl) d_Rows_grow_46 (fun H locs hP hD hS => ?_)
  have hP : va_P D kls ([(h, .inr (0, [.int (nI w), .ref q, .int (nI o), .int (nI n)])), (q, .inl (cI, L, .inl f)), (q7, .inl (cI, L * 2, .inl (va_cpy f (va_cpy f (fun _ => 0) o 0 (L - o)) 0 (L - o) o)))]) H := hP
  have hD : va_D A ([(h, .inr (0, [.int (nI w), .ref q, .int (nI o), .int (nI n)])), (q, .inl (cI, L, .inl f)), (q7, .inl (cI, L * 2, .inl (va_cpy f (va_cpy f (fun _ => 0) o 0 (L - o)) 0 (L - o) o)))]) := hD
  refine lv_aload_n hx hb d_Rows_grow_49 rfl (lv_at hl 2 rfl) ?_
  refine lv_aload_n hx hb d_Rows_grow_50 rfl (lv_at hl 1 rfl) ?_
  refine va_put (D := D) (ci := 0) (v := .ref q7) (ty := (.array .int)) (C := R_Rows) (T := T_Rows) (N := 4) hx hb ht in_Rows t_Rows ok_Rows nm_Rows hown hK hP hD hS 0 rfl rfl 1 (by decide) (ht _ kl_Rows_13) (fun _ h9 => h9) rfl (by decide +kernel) rfl rfl (Nat.le_of_ble_eq_true rfl) d_Rows_grow_51 (fun H locs hP hD hS => ?_)
  have hP : va_P D kls ([(h, .inr (0, [.int (nI w), .ref q7, .int (nI o), .int (nI n)])), (q, .inl (cI, L, .inl f)), (q7, .inl (cI, L * 2, .inl (va_cpy f (va_cpy f (fun _ => 0) o 0 (L - o)) 0 (L - o) o)))]) H := hP
  have hD : va_D A ([(h, .inr (0, [.int (nI w), .ref q7, .int (nI o), .int (nI n)])), (q, .inl (cI, L, .inl f)), (q7, .inl (cI, L * 2, .inl (va_cpy f (va_cpy f (fun _ => 0) o 0 (L - o)) 0 (L - o) o)))]) := hD
  refine lv_aload_n hx hb d_Rows_grow_54 rfl (lv_at hl 2 rfl) ?_
  refine lv_iconst (v := nI 0) hx hb d_Rows_grow_55 (by decide) ?_
  refine va_put (D := D) (ci := 0) (v := .int (nI 0)) (ty := .int) (C := R_Rows) (T := T_Rows) (N := 4) hx hb ht in_Rows t_Rows ok_Rows nm_Rows hown hK hP hD hS 0 rfl rfl 2 (by decide) (ht _ kl_Rows_31) (fun _ h9 => h9) rfl (by decide +kernel) rfl rfl (Nat.le_of_ble_eq_true rfl) d_Rows_grow_56 (fun H locs hP hD hS => ?_)
  have hP : va_P D kls ([(h, .inr (0, [.int (nI w), .ref q7, .int (nI 0), .int (nI n)])), (q, .inl (cI, L, .inl f)), (q7, .inl (cI, L * 2, .inl (va_cpy f (va_cpy f (fun _ => 0) o 0 (L - o)) 0 (L - o) o)))]) H := hP
  have hD : va_D A ([(h, .inr (0, [.int (nI w), .ref q7, .int (nI 0), .int (nI n)])), (q, .inl (cI, L, .inl f)), (q7, .inl (cI, L * 2, .inl (va_cpy f (va_cpy f (fun _ => 0) o 0 (L - o)) 0 (L - o) o)))]) := hD
  have hP := hP.sub (ws' := rw_w cI h q7 w 0 n (L * 2) (va_cpy f (va_cpy f (fun _ => 0) o 0 (L - o)) 0 (L - o) o)) [0, 2] rfl
  have hD := hD.sub (ws' := rw_w cI h q7 w 0 n (L * 2) (va_cpy f (va_cpy f (fun _ => 0) o 0 (L - o)) 0 (L - o) o)) [0, 2] (by decide) rfl
  exact ct_vret hQ hx hb hr hlk hP hD hS hK (by omega) (by omega) d_Rows_grow_59 (⟨q7, rfl⟩)
/-- a Rows at h: w to a row, room for c rows, n rows, g what stands in them -/
def rw_R (cI : ClassId) (w c n : Nat) (g : Nat → Nat → Int32) (h : Nat) (ws : va_W) : Prop :=
  ∃ (q a : Nat) (f : Nat → Int32), ws = rw_w cI h q w (w * a) n (w * c) f ∧ a < c ∧ n ≤ c ∧ 0 < w ∧ w ≤ 14 ∧ c ≤ 100000 ∧ ∀ i j, i < n → j < w → f (w * sl a i c + j) = g i j
theorem rw_R.mem {cI : ClassId} {w c n h : Nat} {g : Nat → Nat → Int32} {ws : va_W} (hR : rw_R cI w c n g h ws) : ∃ fs, (h, Sum.inr (0, fs)) ∈ ws := by
  obtain ⟨q, a, f, rfl, -⟩ := hR
  exact ⟨_, List.mem_cons_self⟩
theorem rw_R.congr {cI : ClassId} {w c n h : Nat} {g g2 : Nat → Nat → Int32} {ws : va_W} (hR : rw_R cI w c n g h ws) (hg : ∀ i j, i < n → j < w → g i j = g2 i j) : rw_R cI w c n g2 h ws := by
  obtain ⟨q, a, f, rfl, h1, h2, h3, h4, h5, h6⟩ := hR
  exact ⟨q, a, f, rfl, h1, h2, h3, h4, h5, fun i j hi hj => (h6 i j hi hj).trans (hg i j hi hj)⟩
theorem rw_ix {w a i j c : Nat} (hj : j < w) : rw_i w (w * a) (w * c) i j = w * sl a i c + j := ix_of hj
theorem k_Rows_size (l : Launch) (D : va_G) (cI cZ cJ cG : ClassId) {w c n h : Nat} {g : Nat → Nat → Int32} {ws : va_W} (hR : rw_R cI w c n g h ws) : ct_I l D kls (ty4 cI cZ cJ cG) y_Rows_size ws_Rows_size (rm_ 0 0 0 0) [.ref h] ws (fun r u => r = nI n ∧ u = ws) 0 0 := by
  obtain ⟨q, a, f, rfl, -⟩ := hR
  exact c_Rows_size l D cI cZ cJ cG h q w (w * a) n (w * c) f
theorem k_Rows_get (l : Launch) (D : va_G) (cI cZ cJ cG : ClassId) {w c n h : Nat} {g : Nat → Nat → Int32} {ws : va_W} (hR : rw_R cI w c n g h ws) (i j : Nat) (hi : i < n) (hj : j < w) : ct_I l D kls (ty4 cI cZ cJ cG) y_Rows_get ws_Rows_get (rm_ 1 23 0 0) [.ref h, .int (nI i), .int (nI j)] ws (fun r u => r = g i j ∧ u = ws) 0 0 := by
  obtain ⟨q, a, f, rfl, h1, h2, h3, h4, h5, h6⟩ := hR
  obtain ⟨b1, b2⟩ := ix_big (i := i) (j := j) h4 h1 (by omega) h5 hj
  rw [← h6 i j hi hj, ← rw_ix hj]
  exact c_Rows_get l D cI cZ cJ cG h q w (w * a) n (w * c) f i j b1 b2 (by rw [rw_ix hj]; exact ix_lt (sl_lt h1 (by omega)) hj)
theorem k_Rows_set (l : Launch) (D : va_G) (cI cZ cJ cG : ClassId) {w c n h : Nat} {g : Nat → Nat → Int32} {ws : va_W} (hR : rw_R cI w c n g h ws) (i j : Nat) (v : Int32) (hi : i < n) (hj : j < w) : ct_V l D kls (ty4 cI cZ cJ cG) y_Rows_set ws_Rows_set (rm_ 1 23 0 0) [.ref h, .int (nI i), .int (nI j), .int v] ws (fun u => rw_R cI w c n (bm_up2 g i j v) h u) 0 0 := by
  obtain ⟨q, a, f, rfl, h1, h2, h3, h4, h5, h6⟩ := hR
  obtain ⟨b1, b2⟩ := ix_big (i := i) (j := j) h4 h1 (by omega) h5 hj
  refine (c_Rows_set l D cI cZ cJ cG h q w (w * a) n (w * c) f i j v b1 b2 (by rw [rw_ix hj]; exact ix_lt (sl_lt h1 (by omega)) hj)).to (fun u hu => ?_)
  subst hu
  refine ⟨q, a, _, rfl, h1, h2, h3, h4, h5, fun i2 j2 hi2 hj2 => ?_⟩
  unfold bm_up2 upd
  rw [rw_ix hj]
  by_cases e : i2 = i ∧ j2 = j
  · rw [if_pos e, if_pos (by rw [e.1, e.2])]
  · rw [if_neg e, if_neg (fun q => e ?_)]
    · exact h6 i2 j2 hi2 hj2
    · obtain ⟨q1, q2⟩ := ix_inj hj2 hj q
      exact ⟨sl_inj h1 (by omega) (by omega) q1, q2⟩
theorem k_Rows_dropOldest (l : Launch) (D : va_G) (cI cZ cJ cG : ClassId) {w c n h : Nat} {g : Nat → Nat → Int32} {ws : va_W} (hR : rw_R cI w c n g h ws) (hn : 0 < n) : ct_V l D kls (ty4 cI cZ cJ cG) y_Rows_dropOldest ws_Rows_dropOldest (rm_ 0 0 0 0) [.ref h] ws (fun u => rw_R cI w c (n - 1) (fun i => g (i + 1)) h u) 0 0 := by
  obtain ⟨q, a, f, rfl, h1, h2, h3, h4, h5, h6⟩ := hR
  obtain ⟨b1, b2⟩ := ix_big (i := 1) (j := 0) h4 h1 (by omega) h5 h3
  refine (c_Rows_dropOldest l D cI cZ cJ cG h q w (w * a) n (w * c) f hn (by omega) b2).to (fun u hu => ?_)
  subst hu
  have e : (if w * a + w = w * c then 0 else w * a + w) = w * (if a + 1 = c then 0 else a + 1) := by
    by_cases ec : a + 1 = c
    · rw [if_pos ec, if_pos (by rw [← ec, Nat.mul_succ])]
      rfl
    · rw [if_neg ec, if_neg (fun z => ec ?_), Nat.mul_succ]
      rw [← Nat.mul_succ] at z
      exact Nat.eq_of_mul_eq_mul_left h3 z
  rw [e]
  refine ⟨q, _, f, rfl, by split <;> omega, by omega, h3, h4, h5, fun i j hi hj => ?_⟩
  rw [sl_drop h1 (by omega)]
  exact h6 (i + 1) j (by omega) hj
theorem grow_at {w a i j c : Nat} {f : Nat → Int32} (ha : a < c) (hj : j < w) (hi : i < c) : va_cpy f (va_cpy f (fun _ => 0) (w * a) 0 (w * c - w * a)) 0 (w * c - w * a) (w * a) (w * sl 0 i (2 * c) + j) = f (w * sl a i c + j) := by
  have e1 : sl 0 i (2 * c) = i := by
    unfold sl
    rw [if_pos (by omega)]
    omega
  rw [e1]
  have hac : w * a + w ≤ w * c := by
    have := Nat.mul_le_mul_left w (show a + 1 ≤ c from ha)
    rw [Nat.mul_succ] at this
    exact this
  have hic : w * i + w ≤ w * c := by
    have := Nat.mul_le_mul_left w (show i + 1 ≤ c from hi)
    rw [Nat.mul_succ] at this
    exact this
  by_cases h : a + i < c
  · have h2 : w * a + w * i + w ≤ w * c := by
      have := Nat.mul_le_mul_left w (show (a + i) + 1 ≤ c from h)
      rw [Nat.mul_succ, Nat.mul_add] at this
      exact this
    unfold sl
    rw [if_pos h, pk_cpy_out (Or.inl (by omega)), pk_cpy_in (by omega) (by omega), Nat.mul_add]
    congr 1
    omega
  · have h2 : w * c ≤ w * a + w * i := by
      have := Nat.mul_le_mul_left w (show c ≤ a + i by omega)
      rw [Nat.mul_add] at this
      exact this
    unfold sl
    rw [if_neg h, pk_cpy_in (by omega) (by omega), Nat.mul_sub, Nat.mul_add]
    congr 1
    omega
set_option maxHeartbeats 4000000 in
set_option maxRecDepth 100000 in
theorem k_Rows_add (l : Launch) (D : va_G) (cI cZ cJ cG : ClassId) {w c n h : Nat} {g : Nat → Nat → Int32} {ws : va_W} (hR : rw_R cI w c n g h ws) (hc : c ≤ 50000) : ct_I l D kls (ty4 cI cZ cJ cG) y_Rows_add ws_Rows_add (rm_ 2 52 ((if n = c then 2 * c else c) - c) (2 * w * ((if n = c then 2 * c else c) - c))) [.ref h] (ws) (fun r u => r = nI n ∧ rw_R cI w (if n = c then 2 * c else c) (n + 1) (fun i => if i = n then (fun _ => 0) else g i) h u) ((if n = c then 2 * c else c) - c) (2 * w * ((if n = c then 2 * c else c) - c)) := by
  obtain ⟨q, a, f, rfl, h1, h2, h3, h4, h5, h6⟩ := hR
  refine ct_enterI (cc := b_Rows_add) (maxL := 2) (ret := (some .int)) (by decide +kernel) (Nat.le_of_ble_eq_true rfl) ?_
  intro p e s m args below meth c₀ hx hb hml hr ht hown hlk hnm A Q hA hK hP hD hQ ls hl
  have hown : s.vm.findClass R_Rows = some m.cls := hown
  have hS : va_S A s.heap s.heap [] := va_S.rf
  have hl : lv_has ls 2 [(0, .ref h)] := hl
  have hwc : w * c ≤ 14 * 100000 := Nat.mul_le_mul h4 h5
  have hwn : n * w ≤ 100000 * 14 := Nat.mul_le_mul (by omega) h4
  have hnc : n * w = w * c ↔ n = c := ⟨fun z => Nat.eq_of_mul_eq_mul_left h3 (by rw [Nat.mul_comm w n]; exact z), fun z => by rw [z, Nat.mul_comm]⟩
  have kont : ∀ (q a d : Nat) (f : Nat → Int32) (H : Heap) (locs : List Loc), a < d → n + 1 ≤ d → d ≤ 100000 → d = (if n = c then 2 * c else c) → (∀ i j, i < n → j < w → f (w * sl a i d + j) = g i j) → va_P D kls (rw_w cI h q w (w * a) n (w * d) f) H → va_D A (rw_w cI h q w (w * a) n (w * d) f) → va_S A s.heap H locs → W p l e (rm_ 2 52 ((if n = c then 2 * c else c) - c) (2 * w * ((if n = c then 2 * c else c) - c))) s m args below meth c₀ H locs ((if n = c then 2 * c else c) - c) (2 * w * ((if n = c then 2 * c else c) - c)) Q (F0 m 21 ls []) := by
    intro q a d f H locs g1 g2 g3 g4 g5 hP hD hS
    have hwd : w * d ≤ 14 * 100000 := Nat.mul_le_mul h4 g3
    have hsl : sl a n d < d := sl_lt g1 (by omega)
    have loop : ∀ (k j : Nat) (f : Nat → Int32) (H : Heap) (locs : List Loc) (ls : Array Slot), j + k = w → (∀ i x, i < n → x < w → f (w * sl a i d + x) = g i x) → (∀ x, x < j → f (w * sl a n d + x) = 0) → va_P D kls (rw_w cI h q w (w * a) n (w * d) f) H → va_D A (rw_w cI h q w (w * a) n (w * d) f) → va_S A s.heap H locs → lv_has ls 2 [(1, .int (nI j)), (0, .ref h)] → W p l e (rm_ 2 52 ((if n = c then 2 * c else c) - c) (2 * w * ((if n = c then 2 * c else c) - c))) s m args below meth c₀ H locs ((if n = c then 2 * c else c) - c) (2 * w * ((if n = c then 2 * c else c) - c)) Q (F0 m 23 ls []) := by
      intro k
      induction k with
      | zero =>
        intro j f H locs ls hjk hf hz hP hD hS hl
        refine lv_iload_n hx hb d_Rows_add_23 rfl (lv_at hl 0 rfl) ?_
        refine lv_aload_n hx hb d_Rows_add_24 rfl (lv_at hl 1 rfl) ?_
        refine va_get (D := D) (ci := 0) (v := .int (nI w)) (C := R_Rows) (T := T_Rows) (N := 4) hx hb ht in_Rows hown hK hP 0 rfl rfl 0 (by decide) (ht _ kl_Rows_7) (fun _ h9 => h9) rfl d_Rows_add_25 ?_
        refine ri_icmp_ge hx hb (by omega) (by omega) d_Rows_add_28 (tgt := 47) (by decide) (fun hj => ?_) (fun hj => ?_)
        · refine lv_aload_n hx hb d_Rows_add_47 rfl (lv_at hl 1 rfl) ?_
          refine lv_dup hx hb d_Rows_add_48 rfl ?_
          refine va_get (D := D) (ci := 0) (v := .int (nI n)) (C := R_Rows) (T := T_Rows) (N := 4) hx hb ht in_Rows hown hK hP 0 rfl rfl 3 (by decide) (ht _ kl_Rows_17) (fun _ h9 => h9) rfl d_Rows_add_49 ?_
          refine lv_iconst (v := nI 1) hx hb d_Rows_add_52 (by decide) ?_
          refine ri_iadd hx hb d_Rows_add_53 ?_
          refine va_put (D := D) (ci := 0) (v := .int (nI (n + 1))) (ty := .int) (C := R_Rows) (T := T_Rows) (N := 4) hx hb ht in_Rows t_Rows ok_Rows nm_Rows hown hK hP hD hS 0 rfl rfl 3 (by decide) (ht _ kl_Rows_17) (fun _ h9 => h9) rfl (by decide +kernel) rfl rfl (Nat.le_of_ble_eq_true rfl) d_Rows_add_54 (fun H locs hP hD hS => ?_)
          have hP : va_P D kls ([(h, .inr (0, [.int (nI w), .ref q, .int (nI (w * a)), .int (nI (n + 1))])), (q, .inl (cI, w * d, .inl f))]) H := hP
          have hD : va_D A ([(h, .inr (0, [.int (nI w), .ref q, .int (nI (w * a)), .int (nI (n + 1))])), (q, .inl (cI, w * d, .inl f))]) := hD
          refine lv_aload_n hx hb d_Rows_add_57 rfl (lv_at hl 1 rfl) ?_
          refine va_get (D := D) (ci := 0) (v := .int (nI (n + 1))) (C := R_Rows) (T := T_Rows) (N := 4) hx hb ht in_Rows hown hK hP 0 rfl rfl 3 (by decide) (ht _ kl_Rows_17) (fun _ h9 => h9) rfl d_Rows_add_58 ?_
          refine lv_iconst (v := nI 1) hx hb d_Rows_add_61 (by decide) ?_
          refine ri_isub hx hb (by omega) d_Rows_add_62 ?_
          have hend : rw_R cI w (if n = c then 2 * c else c) (n + 1) (fun i => if i = n then (fun _ => 0) else g i) h (rw_w cI h q w (w * a) (n + 1) (w * d) f) := by
            rw [← g4]
            refine ⟨q, a, f, rfl, g1, g2, h3, h4, g3, fun i x hi hx => ?_⟩
            show f _ = (if i = n then (fun _ => 0) else g i) x
            by_cases e : i = n
            · subst e
              rw [if_pos rfl]
              exact hz x (by omega)
            · rw [if_neg e]
              exact hf i x (by omega) hx
          exact ct_iret hQ hx hb hr hlk hP hD hS hK (by omega) (by omega) d_Rows_add_63 (⟨rfl, hend⟩)
        · exact absurd hj (by omega)
      | succ k ih =>
        intro j f H locs ls hjk hf hz hP hD hS hl
        have hjw : j < w := by omega
        have hix : w * sl a n d + j < w * d := ix_lt hsl hjw
        refine lv_iload_n hx hb d_Rows_add_23 rfl (lv_at hl 0 rfl) ?_
        refine lv_aload_n hx hb d_Rows_add_24 rfl (lv_at hl 1 rfl) ?_
        refine va_get (D := D) (ci := 0) (v := .int (nI w)) (C := R_Rows) (T := T_Rows) (N := 4) hx hb ht in_Rows hown hK hP 0 rfl rfl 0 (by decide) (ht _ kl_Rows_7) (fun _ h9 => h9) rfl d_Rows_add_25 ?_
        refine ri_icmp_ge hx hb (by omega) (by omega) d_Rows_add_28 (tgt := 47) (by decide) (fun hj => ?_) (fun hj => ?_)
        · exact absurd hj (by omega)
        · refine lv_aload_n hx hb d_Rows_add_31 rfl (lv_at hl 1 rfl) ?_
          refine lv_aload_n hx hb d_Rows_add_32 rfl (lv_at hl 1 rfl) ?_
          refine va_get (D := D) (ci := 0) (v := .int (nI n)) (C := R_Rows) (T := T_Rows) (N := 4) hx hb ht in_Rows hown hK hP 0 rfl rfl 3 (by decide) (ht _ kl_Rows_17) (fun _ h9 => h9) rfl d_Rows_add_33 ?_
          refine lv_iload_n hx hb d_Rows_add_36 rfl (lv_at hl 0 rfl) ?_
          refine lv_iconst (v := nI 0) hx hb d_Rows_add_37 (by decide) ?_
          refine ct_callVV (C := R_Rows) (ci := 0) (As := [.int (nI n), .int (nI j), .int (nI 0)]) (rest := []) ⟨hx, hb, hml, hown, ht⟩ (c_Rows_set l D cI cZ cJ cG h q w (w * a) n (w * d) f n j (nI 0) (ix_big h4 g1 (by omega) g3 hjw).1 (ix_big h4 g1 (by omega) g3 hjw).2 (by rw [rw_ix hjw]; exact hix)) (cb_V ht kc_Rows_set kl_Rows_27 kn_Rows ki_Rows_set ks_Rows_set hd_Rows_set ⟨Nat.le_of_ble_eq_true rfl, Nat.le_of_ble_eq_true rfl⟩) (List.mem_of_getElem? (i := 0) rfl) rfl rfl (pm_all _) hK hP hD hS hA rfl hl.1 rfl (Nat.le_of_ble_eq_true rfl) ⟨(Nat.le_refl _), (Nat.le_refl _)⟩ d_Rows_add_38 (fun u3 H locs hu3 hP hD hS => ?_)
          subst hu3
          refine W.widen (k := ((if n = c then 2 * c else c) - c)) (n := (2 * w * ((if n = c then 2 * c else c) - c))) (Nat.le_refl _) (Nat.le_refl _) ?_
          rw [List.append_nil] at hP hD
          have hP : va_P D kls ([(h, .inr (0, [.int (nI w), .ref q, .int (nI (w * a)), .int (nI n)])), (q, .inl (cI, w * d, .inl (upd f (rw_i w (w * a) (w * d) n j) (nI 0))))]) H := hP
          have hD : va_D A ([(h, .inr (0, [.int (nI w), .ref q, .int (nI (w * a)), .int (nI n)])), (q, .inl (cI, w * d, .inl (upd f (rw_i w (w * a) (w * d) n j) (nI 0))))]) := hD
          refine W.eq (g2 := F0 m 41 ls []) rfl ?_
          refine ri_iinc hx hb d_Rows_add_41 hl (k := 0) rfl (by decide) rfl (fun ls hl => ?_)
          have hl : lv_has ls 2 [(1, .int (nI (j + 1))), (0, .ref h)] := hl
          refine lv_goto hx hb d_Rows_add_44 (tgt := 23) (by decide) ?_
          refine ih (j + 1) _ H locs ls (by omega) (fun i x hi hx => ?_) (fun x hx => ?_) hP hD hS hl
          · show (if _ = _ then _ else _) = _
            rw [rw_ix hjw, if_neg (fun z => ?_)]
            · exact hf i x hi hx
            · have := sl_inj g1 (by omega) (by omega) (ix_inj hx hjw z).1
              omega
          · show (if _ = _ then _ else _) = _
            rw [rw_ix hjw]
            by_cases e : x = j
            · rw [if_pos (by rw [e])]
              rfl
            · rw [if_neg (by omega)]
              exact hz x (by omega)
    refine lv_iconst (v := nI 0) hx hb d_Rows_add_21 (by decide) ?_
    refine lv_istore_n hx hb d_Rows_add_22 rfl hl (by decide) rfl (fun ls hl => ?_)
    have hl : lv_has ls 2 [(1, .int (nI 0)), (0, .ref h)] := hl
    exact loop w 0 f H locs ls (by omega) g5 (fun x hx => absurd hx (by omega)) hP hD hS hl
  refine lv_aload_n hx hb d_Rows_add_0 rfl (lv_at hl 0 rfl) ?_
  refine va_get (D := D) (ci := 0) (v := .int (nI n)) (C := R_Rows) (T := T_Rows) (N := 4) hx hb ht in_Rows hown hK hP 0 rfl rfl 3 (by decide) (ht _ kl_Rows_17) (fun _ h9 => h9) rfl d_Rows_add_1 ?_
  refine lv_aload_n hx hb d_Rows_add_4 rfl (lv_at hl 0 rfl) ?_
  refine va_get (D := D) (ci := 0) (v := .int (nI w)) (C := R_Rows) (T := T_Rows) (N := 4) hx hb ht in_Rows hown hK hP 0 rfl rfl 0 (by decide) (ht _ kl_Rows_7) (fun _ h9 => h9) rfl d_Rows_add_5 ?_
  refine ri_imul hx hb d_Rows_add_8 ?_
  refine lv_aload_n hx hb d_Rows_add_9 rfl (lv_at hl 0 rfl) ?_
  refine va_get (D := D) (ci := 0) (v := .ref q) (C := R_Rows) (T := T_Rows) (N := 4) hx hb ht in_Rows hown hK hP 0 rfl rfl 1 (by decide) (ht _ kl_Rows_13) (fun _ h9 => h9) rfl d_Rows_add_10 ?_
  refine va_alen hx hb hK hP 1 0 rfl rfl (v := nI (w * c)) rfl d_Rows_add_13 ?_
  refine ri_icmp_ne hx hb (by omega) (by omega) d_Rows_add_14 (tgt := 21) (by decide) (fun h9 => ?_) (fun h9 => ?_)
  · have hq : ¬ n = c := fun z => h9 (hnc.mpr z)
    refine W.widen (k := (if n = c then 2 * c else c) - c) (n := 2 * w * ((if n = c then 2 * c else c) - c)) (Nat.zero_le _) (Nat.zero_le _) ?_
    exact kont q a c f s.heap [] h1 (by omega) h5 (by rw [if_neg hq]) h6 hP hD hS
  · have hq : n = c := hnc.mp h9
    refine lv_aload_n hx hb d_Rows_add_17 rfl (lv_at hl 0 rfl) ?_
    refine ct_callVV (C := R_Rows) (ci := 0) (As := []) (rest := []) ⟨hx, hb, hml, hown, ht⟩ (c_Rows_grow l D cI cZ cJ cG h q w (w * a) n (w * c) f (by omega) (Nat.mul_le_mul_left w (by omega))) (cb_V ht kc_Rows_grow kl_Rows_24 kn_Rows ki_Rows_grow ks_Rows_grow hd_Rows_grow ⟨Nat.le_of_ble_eq_true rfl, Nat.le_of_ble_eq_true rfl⟩) (List.mem_of_getElem? (i := 0) rfl) rfl rfl (pm_all _) hK hP hD hS hA rfl hl.1 rfl (Nat.le_of_ble_eq_true rfl) ⟨(show 0 + 1 ≤ (if n = c then 2 * c else c) - c by rw [if_pos hq]; omega), (show 0 + w * c * 2 ≤ 2 * w * ((if n = c then 2 * c else c) - c) by rw [if_pos hq, show 2 * c - c = c by omega, Nat.mul_assoc 2 w c]; omega)⟩ d_Rows_add_18 (fun u5 H locs hu5 hP hD hS => ?_)
    obtain ⟨q2, rfl⟩ := hu5
    rw [List.append_nil] at hP hD
    have hP : va_P D kls ([(h, .inr (0, [.int (nI w), .ref q2, .int (nI 0), .int (nI n)])), (q2, .inl (cI, w * c * 2, .inl (va_cpy f (va_cpy f (fun _ => 0) (w * a) 0 (w * c - w * a)) 0 (w * c - w * a) (w * a))))]) H := hP
    have hD : va_D A ([(h, .inr (0, [.int (nI w), .ref q2, .int (nI 0), .int (nI n)])), (q2, .inl (cI, w * c * 2, .inl (va_cpy f (va_cpy f (fun _ => 0) (w * a) 0 (w * c - w * a)) 0 (w * c - w * a) (w * a))))]) := hD
    refine W.eq (g2 := F0 m 21 ls []) rfl ?_
    have e0 : (w * 0) = 0 := Nat.mul_zero w
    have e2 : w * c * 2 = w * (2 * c) := by rw [Nat.mul_assoc, Nat.mul_comm c 2]
    have hP : va_P D kls (rw_w cI h q2 w (w * 0) n (w * (2 * c)) (va_cpy f (va_cpy f (fun _ => 0) (w * a) 0 (w * c - w * a)) 0 (w * c - w * a) (w * a))) H := by rw [e0, ← e2]; exact hP
    have hD : va_D A (rw_w cI h q2 w (w * 0) n (w * (2 * c)) (va_cpy f (va_cpy f (fun _ => 0) (w * a) 0 (w * c - w * a)) 0 (w * c - w * a) (w * a))) := by rw [e0, ← e2]; exact hD
    refine W.widen (k := (if n = c then 2 * c else c) - c) (n := 2 * w * ((if n = c then 2 * c else c) - c)) (by rw [if_pos hq]; omega) (by rw [if_pos hq, show 2 * c - c = c by omega, Nat.mul_assoc 2 w c]; omega) ?_
    refine kont q2 0 (2 * c) _ H locs (by omega) (by omega) (by omega) (by rw [if_pos hq]) (fun i j hi hj => ?_) hP hD hS
    exact (grow_at h1 hj (by omega)).trans (h6 i j hi hj)
set_option maxHeartbeats 4000000 in
set_option maxRecDepth 100000 in
theorem k_Rows_init (l : Launch) (D : va_G) (cI cZ cJ cG : ClassId) (h w : Nat) (hw : 0 < w) (hw2 : w ≤ 14) : ct_V l D kls (ty4 cI cZ cJ cG) y_Rows_init ws_Rows_init (rm_ 1 12 1 (w * 16)) [.ref h, .int (nI w)] ([(h, .inr (0, [.int (nI 0), .null, .int (nI 0), .int (nI 0)]))]) (fun u => ∀ g, rw_R cI w 16 0 g h u) 1 (w * 16) := by
  refine ct_enterV (cc := b_Rows_init) (maxL := 2) (ret := none) (by decide +kernel) (Nat.le_of_ble_eq_true rfl) ?_
  intro p e s m args below meth c hx hb hml hr ht hown hlk hnm A Q hA hK hP hD hQ ls hl
  have hown : s.vm.findClass R_Rows = some m.cls := hown
  have hS : va_S A s.heap s.heap [] := va_S.rf
  have hl : lv_has ls 2 [(0, .ref h), (1, .int (nI w))] := hl
  refine lv_aload_n hx hb d_Rows_init_0 rfl (lv_at hl 0 rfl) ?_
  refine W.objInit hx hb hown (ht _ kl_Rows_1) (ht _ ki_objectInit) (ht _ kc_objectInit) rfl (by rw [hml]; exact hl.1) rfl d_Rows_init_1 (Nat.le_of_ble_eq_true rfl) (Nat.le_of_ble_eq_true rfl) ?_
  refine W.eq (g2 := F0 m 4 ls []) rfl ?_
  refine lv_aload_n hx hb d_Rows_init_4 rfl (lv_at hl 0 rfl) ?_
  refine lv_iload_n hx hb d_Rows_init_5 rfl (lv_at hl 1 rfl) ?_
  refine va_putF (D := D) (ci := 0) (v := .int (nI w)) (ty := .int) (C := R_Rows) (T := T_Rows) (N := 4) hx hb ht in_Rows t_Rows ok_Rows nm_Rows hown hK hP hD hS 0 rfl rfl 0 (by decide) (ht _ kl_Rows_7) (fun _ h9 => h9) rfl hnm rfl (by decide +kernel) rfl rfl (Nat.le_of_ble_eq_true rfl) d_Rows_init_6 (fun H locs hP hD hS => ?_)
  have hP : va_P D kls ([(h, .inr (0, [.int (nI w), .null, .int (nI 0), .int (nI 0)]))]) H := hP
  have hD : va_D A ([(h, .inr (0, [.int (nI w), .null, .int (nI 0), .int (nI 0)]))]) := hD
  refine lv_aload_n hx hb d_Rows_init_9 rfl (lv_at hl 0 rfl) ?_
  refine lv_iload_n hx hb d_Rows_init_10 rfl (lv_at hl 1 rfl) ?_
  refine lv_bipush (v := nI 16) hx hb d_Rows_init_11 (by decide) ?_
  refine ri_imul hx hb d_Rows_init_13 ?_
  refine ri_newi hx hb (ht _ ka_int) hK hP hD hS hA 0 rfl (by omega) (show 0 + 1 ≤ 1 by omega) (show 0 + (w * 16) ≤ (w * 16) by omega) d_Rows_init_14 (fun q14 H hP hD hS => ?_)
  have hP : va_P D kls ([(h, .inr (0, [.int (nI w), .null, .int (nI 0), .int (nI 0)])), (q14, .inl (cI, w * 16, .inl (fun _ => 0)))]) H := hP
  have hD : va_D A ([(h, .inr (0, [.int (nI w), .null, .int (nI 0), .int (nI 0)])), (q14, .inl (cI, w * 16, .inl (fun _ => 0)))]) := hD
  refine va_put (D := D) (ci := 0) (v := .ref q14) (ty := (.array .int)) (C := R_Rows) (T := T_Rows) (N := 4) hx hb ht in_Rows t_Rows ok_Rows nm_Rows hown hK hP hD hS 0 rfl rfl 1 (by decide) (ht _ kl_Rows_13) (fun _ h9 => h9) rfl (by decide +kernel) rfl rfl (Nat.le_of_ble_eq_true rfl) d_Rows_init_16 (fun H locs hP hD hS => ?_)
  have hP : va_P D kls ([(h, .inr (0, [.int (nI w), .ref q14, .int (nI 0), .int (nI 0)])), (q14, .inl (cI, w * 16, .inl (fun _ => 0)))]) H := hP
  have hD : va_D A ([(h, .inr (0, [.int (nI w), .ref q14, .int (nI 0), .int (nI 0)])), (q14, .inl (cI, w * 16, .inl (fun _ => 0)))]) := hD
  exact ct_vret hQ hx hb hr hlk hP hD hS hK (by omega) (by omega) d_Rows_init_19 (fun g => ⟨q14, 0, _, by rw [Nat.mul_zero], by decide, by omega, hw, hw2, by decide, fun i j hi => absurd hi (by omega)⟩)
