/-! Rows: contracts of its methods. -/
/-- the cells of a Rows: its object at h, its ints f at q, w to a row, n rows from o on, L ints in all -/
abbrev rw_w (cI : ClassId) (h q w o n L : Nat) (f : Nat → Int32) : va_W := [(h, .inr (0, [.int (nI w), .ref q, .int (nI o), .int (nI n)])), (q, .inl (cI, L, .inl f))]
set_option maxHeartbeats 4000000 in
set_option maxRecDepth 100000 in
theorem c_Rows_size (l : Launch) (D : va_G) (cI cZ cJ cG : ClassId) (h q w o n L : Nat) (f : Nat → Int32)  : ct_I l D kls (ty4 cI cZ cJ cG) y_Rows_size ws_Rows_size (rm_ 0 0 0 0) [.ref h] (rw_w cI h q w o n L f) (fun r u => r = nI n ∧ u = rw_w cI h q w o n L f) 0 0 := by
  refine ct_enterI (cc := b_Rows_size) (maxL := 1) (ret := (some .int)) (by decide +kernel) (Nat.le_of_ble_eq_true rfl) ?_
  intro p e s m args below meth c hx hb hml hr ht hown hlk hnm A Q hA hK hP hD hQ ls hl
  have hown : s.vm.findClass R_Rows = some m.cls := hown
  have hS : va_S A s.heap s.heap [] := va_S.rf
  have hl : lv_has ls 1 [(0, .ref h)] := hl
  refine lv_aload_n hx hb d_Rows_size_0 rfl (lv_at hl 0 rfl) ?_
  refine va_get (D := D) (ci := 0) (v := .int (nI n)) (C := R_Rows) (T := T_Rows) (N := 4) hx hb ht in_Rows hown hK hP 0 rfl rfl 3 (by decide) (ht _ kl_Rows_17) (fun _ h9 => h9) rfl d_Rows_size_1 ?_
  exact ct_iret hQ hx hb hr hlk hP hD hS hK (by omega) (by omega) d_Rows_size_4 (⟨rfl, rfl⟩)
set_option maxHeartbeats 4000000 in
set_option maxRecDepth 100000 in
theorem c_Rows_cellOf (l : Launch) (D : va_G) (cI cZ cJ cG : ClassId) (h q w o n L : Nat) (f : Nat → Int32) (i j : Nat) (hb1 : o + i * w + j < 2147483648) (hL : L < 2147483648) : ct_I l D kls (ty4 cI cZ cJ cG) y_Rows_cellOf ws_Rows_cellOf (rm_ 0 0 0 0) [.ref h, .int (nI i), .int (nI j)] (rw_w cI h q w o n L f) (fun r u => r = nI (if o + i * w + j < L then o + i * w + j else o + i * w + j - L) ∧ u = rw_w cI h q w o n L f) 0 0 := by
  refine ct_enterI (cc := b_Rows_cellOf) (maxL := 4) (ret := (some .int)) (by decide +kernel) (Nat.le_of_ble_eq_true rfl) ?_
  intro p e s m args below meth c hx hb hml hr ht hown hlk hnm A Q hA hK hP hD hQ ls hl
  have hown : s.vm.findClass R_Rows = some m.cls := hown
  have hS : va_S A s.heap s.heap [] := va_S.rf
  have hl : lv_has ls 4 [(0, .ref h), (1, .int (nI i)), (2, .int (nI j))] := hl
  refine lv_aload_n hx hb d_Rows_cellOf_0 rfl (lv_at hl 0 rfl) ?_
  refine va_get (D := D) (ci := 0) (v := .int (nI o)) (C := R_Rows) (T := T_Rows) (N := 4) hx hb ht in_Rows hown hK hP 0 rfl rfl 2 (by decide) (ht _ kl_Rows_31) (fun _ h9 => h9) rfl d_Rows_cellOf_1 ?_
  refine lv_iload_n hx hb d_Rows_cellOf_4 rfl (lv_at hl 1 rfl) ?_
  refine lv_aload_n hx hb d_Rows_cellOf_5 rfl (lv_at hl 0 rfl) ?_
  refine va_get (D := D) (ci := 0) (v := .int (nI w)) (C := R_Rows) (T := T_Rows) (N := 4) hx hb ht in_Rows hown hK hP 0 rfl rfl 0 (by decide) (ht _ kl_Rows_7) (fun _ h9 => h9) rfl d_Rows_cellOf_6 ?_
  refine ri_imul hx hb d_Rows_cellOf_9 ?_
  refine ri_iadd hx hb d_Rows_cellOf_10 ?_
  refine lv_iload_n hx hb d_Rows_cellOf_11 rfl (lv_at hl 2 rfl) ?_
  refine ri_iadd hx hb d_Rows_cellOf_12 ?_
  refine lv_istore_n hx hb d_Rows_cellOf_13 rfl hl (by decide) rfl (fun ls hl => ?_)
  have hl : lv_has ls 4 [(3, .int (nI ((o + (i * w)) + j))), (0, .ref h), (1, .int (nI i)), (2, .int (nI j))] := hl
  refine lv_iload_n hx hb d_Rows_cellOf_14 rfl (lv_at hl 0 rfl) ?_
  refine lv_aload_n hx hb d_Rows_cellOf_15 rfl (lv_at hl 1 rfl) ?_
  refine va_get (D := D) (ci := 0) (v := .ref q) (C := R_Rows) (T := T_Rows) (N := 4) hx hb ht in_Rows hown hK hP 0 rfl rfl 1 (by decide) (ht _ kl_Rows_13) (fun _ h9 => h9) rfl d_Rows_cellOf_16 ?_
  refine va_alen hx hb hK hP 1 0 rfl rfl (v := nI L) rfl d_Rows_cellOf_19 ?_
  refine ri_icmp_ge hx hb (by omega) (by omega) d_Rows_cellOf_20 (tgt := 27) (by decide) (fun h1 => ?_) (fun h1 => ?_)
  · refine lv_iload_n hx hb d_Rows_cellOf_27 rfl (lv_at hl 0 rfl) ?_
    refine lv_aload_n hx hb d_Rows_cellOf_28 rfl (lv_at hl 1 rfl) ?_
    refine va_get (D := D) (ci := 0) (v := .ref q) (C := R_Rows) (T := T_Rows) (N := 4) hx hb ht in_Rows hown hK hP 0 rfl rfl 1 (by decide) (ht _ kl_Rows_13) (fun _ h9 => h9) rfl d_Rows_cellOf_29 ?_
    refine va_alen hx hb hK hP 1 0 rfl rfl (v := nI L) rfl d_Rows_cellOf_32 ?_
    refine ri_isub hx hb (by omega) d_Rows_cellOf_33 ?_
    exact ct_iret hQ hx hb hr hlk hP hD hS hK (by omega) (by omega) d_Rows_cellOf_34 (⟨by rw [if_neg (by omega)], rfl⟩)
  · refine lv_iload_n hx hb d_Rows_cellOf_23 rfl (lv_at hl 0 rfl) ?_
    refine lv_goto hx hb d_Rows_cellOf_24 (tgt := 34) (by decide) ?_
    exact ct_iret hQ hx hb hr hlk hP hD hS hK (by omega) (by omega) d_Rows_cellOf_34 (⟨by rw [if_pos h1], rfl⟩)
