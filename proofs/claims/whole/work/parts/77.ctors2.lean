/-! Constructors of Groups and of BitNet. -/
/-- no ingress yet (the eight groups) -/
def ng_i (j : Nat) : Nat → Int32 := fun i => if i < j then -1 else 0
theorem ng_up (j : Nat) : upd (ng_i j) j (-1) = ng_i (j + 1) := by
  funext a
  unfold upd ng_i
  by_cases e : a = j
  · rw [if_pos e, if_pos (by omega)]
  · rw [if_neg e]
    by_cases c : a < j
    · rw [if_pos c, if_pos (by omega)]
    · rw [if_neg c, if_neg (by omega)]
def bm_ing0 : Nat → Option Nat := fun i => if i < 8 then none else some 0
theorem ng_8 : ng_i 8 = lI bm_ing0 := by
  funext a
  show (if a < 8 then -1 else 0) = bm_oI (if a < 8 then none else some 0)
  split
  · rfl
  · rfl
def bm_G0 (g : Nat → Nat → Int32) : bm_G := (bm_ing0, fun _ => 0, fun _ _ => 0, (16, 0, g), fun _ => 0)
set_option maxHeartbeats 4000000 in
set_option maxRecDepth 100000 in
theorem k_Groups_init (l : Launch) (D : va_G) (cI cZ cJ cG : ClassId) (h aE : Nat)  : ct_N l D kls (ty4 cI cZ cJ cG) y_Groups_init ws_Groups_init (rm_ 2 33 18 184) [.ref h, .ref aE] ([(h, .inr (7, [.null, .null, .null, .null, .null, .null]))]) (fun u => ∀ g, gp_R cI cG h aE (bm_G0 g) u) 18 184 := by
  refine ct_enterN (cc := b_Groups_init) (maxL := 3) (ret := none) (by decide +kernel) (Nat.le_of_ble_eq_true rfl) ?_
  intro p e s m args below meth c hx hb hml hr ht hown hlk hnm A Q hA hK hP hD hQ ls hl hZ
  have hown : s.vm.findClass R_Groups = some m.cls := hown
  have hS : va_S A s.heap s.heap [] := va_S.rf
  have hl : lv_has ls 3 [(0, .ref h), (1, .ref aE)] := hl
  have hP : va_P D kls (List.flatten [[(h, .inr (7, [.null, .null, .null, .null, .null, .null]))]]) s.heap := hP
  have hD : va_D A (List.flatten [[(h, .inr (7, [.null, .null, .null, .null, .null, .null]))]]) := hD
  refine lv_aload_n hx hb d_Groups_init_0 rfl (lv_at hl 0 rfl) ?_
  refine W.objInit hx hb hown (ht _ kl_Groups_3) (ht _ ki_objectInit) (ht _ kc_objectInit) rfl (by rw [hml]; exact hl.1) rfl d_Groups_init_1 (Nat.le_of_ble_eq_true rfl) (Nat.le_of_ble_eq_true rfl) ?_
  refine W.eq (g2 := F0 m 4 ls []) rfl ?_
  refine lv_aload_n hx hb d_Groups_init_4 rfl (lv_at hl 0 rfl) ?_
  refine lv_bipush (v := nI 8) hx hb d_Groups_init_5 (by decide) ?_
  refine ri_newi hx hb (ht _ ka_int) hK hP hD hS hA 0 rfl (by omega) (show 0 + 1 ≤ 18 by omega) (show 0 + 8 ≤ 184 by omega) d_Groups_init_7 (fun q7 H hP hD hS => ?_)
  rw [fl_add] at hP hD
  have hP : va_P D kls (List.flatten [[(h, .inr (7, [.null, .null, .null, .null, .null, .null]))], [(q7, .inl (cI, 8, .inl (fun _ => 0)))]]) H := hP
  have hD : va_D A (List.flatten [[(h, .inr (7, [.null, .null, .null, .null, .null, .null]))], [(q7, .inl (cI, 8, .inl (fun _ => 0)))]]) := hD
  refine va_putF (D := D) (ci := 7) (v := .ref q7) (ty := (.array .int)) (C := R_Groups) (T := T_Groups) (N := 6) hx hb ht in_Groups t_Groups ok_Groups nm_Groups hown hK hP hD hS 0 rfl rfl 1 (by decide) (ht _ kl_Groups_9) (fun _ h9 => h9) rfl hnm rfl (by decide +kernel) rfl rfl (Nat.le_of_ble_eq_true rfl) d_Groups_init_9 (fun H locs hP hD hS => ?_)
  have hP : va_P D kls (List.flatten [[(h, .inr (7, [.null, .ref q7, .null, .null, .null, .null]))], [(q7, .inl (cI, 8, .inl (fun _ => 0)))]]) H := hP
  have hD : va_D A (List.flatten [[(h, .inr (7, [.null, .ref q7, .null, .null, .null, .null]))], [(q7, .inl (cI, 8, .inl (fun _ => 0)))]]) := hD
  refine lv_aload_n hx hb d_Groups_init_12 rfl (lv_at hl 0 rfl) ?_
  refine lv_bipush (v := nI 8) hx hb d_Groups_init_13 (by decide) ?_
  refine ri_newi hx hb (ht _ ka_int) hK hP hD hS hA 0 rfl (by omega) (show (0 + 1) + 1 ≤ 18 by omega) (show (0 + 8) + 8 ≤ 184 by omega) d_Groups_init_15 (fun q15 H hP hD hS => ?_)
  rw [fl_add] at hP hD
  have hP : va_P D kls (List.flatten [[(h, .inr (7, [.null, .ref q7, .null, .null, .null, .null]))], [(q7, .inl (cI, 8, .inl (fun _ => 0)))], [(q15, .inl (cI, 8, .inl (fun _ => 0)))]]) H := hP
  have hD : va_D A (List.flatten [[(h, .inr (7, [.null, .ref q7, .null, .null, .null, .null]))], [(q7, .inl (cI, 8, .inl (fun _ => 0)))], [(q15, .inl (cI, 8, .inl (fun _ => 0)))]]) := hD
  refine va_putF (D := D) (ci := 7) (v := .ref q15) (ty := (.array .int)) (C := R_Groups) (T := T_Groups) (N := 6) hx hb ht in_Groups t_Groups ok_Groups nm_Groups hown hK hP hD hS 0 rfl rfl 2 (by decide) (ht _ kl_Groups_15) (fun _ h9 => h9) rfl hnm rfl (by decide +kernel) rfl rfl (Nat.le_of_ble_eq_true rfl) d_Groups_init_17 (fun H locs hP hD hS => ?_)
  have hP : va_P D kls (List.flatten [[(h, .inr (7, [.null, .ref q7, .ref q15, .null, .null, .null]))], [(q7, .inl (cI, 8, .inl (fun _ => 0)))], [(q15, .inl (cI, 8, .inl (fun _ => 0)))]]) H := hP
  have hD : va_D A (List.flatten [[(h, .inr (7, [.null, .ref q7, .ref q15, .null, .null, .null]))], [(q7, .inl (cI, 8, .inl (fun _ => 0)))], [(q15, .inl (cI, 8, .inl (fun _ => 0)))]]) := hD
  refine lv_aload_n hx hb d_Groups_init_20 rfl (lv_at hl 0 rfl) ?_
  refine lv_bipush (v := nI 8) hx hb d_Groups_init_21 (by decide) ?_
  refine ri_newi hx hb (ht _ ka_int) hK hP hD hS hA 0 rfl (by omega) (show ((0 + 1) + 1) + 1 ≤ 18 by omega) (show ((0 + 8) + 8) + 8 ≤ 184 by omega) d_Groups_init_23 (fun q23 H hP hD hS => ?_)
  rw [fl_add] at hP hD
  have hP : va_P D kls (List.flatten [[(h, .inr (7, [.null, .ref q7, .ref q15, .null, .null, .null]))], [(q7, .inl (cI, 8, .inl (fun _ => 0)))], [(q15, .inl (cI, 8, .inl (fun _ => 0)))], [(q23, .inl (cI, 8, .inl (fun _ => 0)))]]) H := hP
  have hD : va_D A (List.flatten [[(h, .inr (7, [.null, .ref q7, .ref q15, .null, .null, .null]))], [(q7, .inl (cI, 8, .inl (fun _ => 0)))], [(q15, .inl (cI, 8, .inl (fun _ => 0)))], [(q23, .inl (cI, 8, .inl (fun _ => 0)))]]) := hD
  refine va_putF (D := D) (ci := 7) (v := .ref q23) (ty := (.array .int)) (C := R_Groups) (T := T_Groups) (N := 6) hx hb ht in_Groups t_Groups ok_Groups nm_Groups hown hK hP hD hS 0 rfl rfl 3 (by decide) (ht _ kl_Groups_18) (fun _ h9 => h9) rfl hnm rfl (by decide +kernel) rfl rfl (Nat.le_of_ble_eq_true rfl) d_Groups_init_25 (fun H locs hP hD hS => ?_)
  have hP : va_P D kls (List.flatten [[(h, .inr (7, [.null, .ref q7, .ref q15, .ref q23, .null, .null]))], [(q7, .inl (cI, 8, .inl (fun _ => 0)))], [(q15, .inl (cI, 8, .inl (fun _ => 0)))], [(q23, .inl (cI, 8, .inl (fun _ => 0)))]]) H := hP
  have hD : va_D A (List.flatten [[(h, .inr (7, [.null, .ref q7, .ref q15, .ref q23, .null, .null]))], [(q7, .inl (cI, 8, .inl (fun _ => 0)))], [(q15, .inl (cI, 8, .inl (fun _ => 0)))], [(q23, .inl (cI, 8, .inl (fun _ => 0)))]]) := hD
  refine lv_aload_n hx hb d_Groups_init_28 rfl (lv_at hl 0 rfl) ?_
  refine lv_bipush (v := nI 12) hx hb d_Groups_init_29 (by decide) ?_
  refine lv_bipush (v := nI 8) hx hb d_Groups_init_31 (by decide) ?_
  refine ri_mna (k := 8) hx hb hown (ht _ kl_Groups_21) (hZ.1 _) (ht _ ka_int) hK hP hD hS hA (by decide) (show (((0 + 1) + 1) + 1) + 13 ≤ 18 by omega) (show (((0 + 8) + 8) + 8) + (12 + 12 * 8) ≤ 184 by omega) d_Groups_init_33 (fun g33 r33 H hP hD hS => ?_)
  rw [fl_add2] at hP hD
  have hP : va_P D kls (List.flatten [[(h, .inr (7, [.null, .ref q7, .ref q15, .ref q23, .null, .null]))], [(q7, .inl (cI, 8, .inl (fun _ => 0)))], [(q15, .inl (cI, 8, .inl (fun _ => 0)))], [(q23, .inl (cI, 8, .inl (fun _ => 0)))], [(g33, .inl (cG, 12, .inr (.inr (.inr (.inr (go r33))))))], gd cI 8 r33 (gN (fun _ _ => 0))]) H := hP
  have hD : va_D A (List.flatten [[(h, .inr (7, [.null, .ref q7, .ref q15, .ref q23, .null, .null]))], [(q7, .inl (cI, 8, .inl (fun _ => 0)))], [(q15, .inl (cI, 8, .inl (fun _ => 0)))], [(q23, .inl (cI, 8, .inl (fun _ => 0)))], [(g33, .inl (cG, 12, .inr (.inr (.inr (.inr (go r33))))))], gd cI 8 r33 (gN (fun _ _ => 0))]) := hD
  refine va_putF (D := D) (ci := 7) (v := .ref g33) (ty := (.array (.array .int))) (C := R_Groups) (T := T_Groups) (N := 6) hx hb ht in_Groups t_Groups ok_Groups nm_Groups hown hK hP hD hS 0 rfl rfl 4 (by decide) (ht _ kl_Groups_23) (fun _ h9 => h9) rfl hnm rfl (by decide +kernel) rfl rfl (Nat.le_of_ble_eq_true rfl) d_Groups_init_37 (fun H locs hP hD hS => ?_)
  have hP : va_P D kls (List.flatten [[(h, .inr (7, [.null, .ref q7, .ref q15, .ref q23, .ref g33, .null]))], [(q7, .inl (cI, 8, .inl (fun _ => 0)))], [(q15, .inl (cI, 8, .inl (fun _ => 0)))], [(q23, .inl (cI, 8, .inl (fun _ => 0)))], [(g33, .inl (cG, 12, .inr (.inr (.inr (.inr (go r33))))))], gd cI 8 r33 (gN (fun _ _ => 0))]) H := hP
  have hD : va_D A (List.flatten [[(h, .inr (7, [.null, .ref q7, .ref q15, .ref q23, .ref g33, .null]))], [(q7, .inl (cI, 8, .inl (fun _ => 0)))], [(q15, .inl (cI, 8, .inl (fun _ => 0)))], [(q23, .inl (cI, 8, .inl (fun _ => 0)))], [(g33, .inl (cG, 12, .inr (.inr (.inr (.inr (go r33))))))], gd cI 8 r33 (gN (fun _ _ => 0))]) := hD
  refine lv_aload_n hx hb d_Groups_init_40 rfl (lv_at hl 0 rfl) ?_
  refine va_new (D := D) (ci := 0) (C := R_Rows) (T := T_Rows) (N := 4) (fs := [.int (nI 0), .null, .int (nI 0), .int (nI 0)]) hx hb ht in_Rows t_Rows ok_Rows hown (ht _ kl_Groups_26) (ht _ kt_Rows) (ht _ kn_Rows) hK hP hD hS hA rfl (fun j hj => by rcases nt_lt4 hj with rfl | rfl | rfl | rfl <;> rfl) (show ((((0 + 1) + 1) + 1) + 13) + 1 ≤ 18 by omega) (show ((((0 + 8) + 8) + 8) + (12 + 12 * 8)) + 4 ≤ 184 by omega) d_Groups_init_41 (fun o41 H hP hD hS => ?_)
  rw [fl_add] at hP hD
  have hP := wd_rP 7 rfl [0, 1, 2, 3, 4, 6, 5] (by decide) hP
  have hD := wd_rD 7 rfl [0, 1, 2, 3, 4, 6, 5] (by decide) hD
  have hP : va_P D kls (List.flatten [[(h, .inr (7, [.null, .ref q7, .ref q15, .ref q23, .ref g33, .null]))], [(q7, .inl (cI, 8, .inl (fun _ => 0)))], [(q15, .inl (cI, 8, .inl (fun _ => 0)))], [(q23, .inl (cI, 8, .inl (fun _ => 0)))], [(g33, .inl (cG, 12, .inr (.inr (.inr (.inr (go r33))))))], [(o41, .inr (0, [.int (nI 0), .null, .int (nI 0), .int (nI 0)]))], gd cI 8 r33 (gN (fun _ _ => 0))]) H := hP
  have hD : va_D A (List.flatten [[(h, .inr (7, [.null, .ref q7, .ref q15, .ref q23, .ref g33, .null]))], [(q7, .inl (cI, 8, .inl (fun _ => 0)))], [(q15, .inl (cI, 8, .inl (fun _ => 0)))], [(q23, .inl (cI, 8, .inl (fun _ => 0)))], [(g33, .inl (cG, 12, .inr (.inr (.inr (.inr (go r33))))))], [(o41, .inr (0, [.int (nI 0), .null, .int (nI 0), .int (nI 0)]))], gd cI 8 r33 (gN (fun _ _ => 0))]) := hD
  refine lv_dup hx hb d_Groups_init_44 rfl ?_
  refine lv_iconst (v := nI 3) hx hb d_Groups_init_45 (by decide) ?_
  refine ct_callI (As := [.int (nI 3)]) (rest := [.ref o41, .ref h]) ⟨hx, hb, hml, hown, ht⟩ (k_Rows_init l D cI cZ cJ cG o41 3 (by decide) (by decide)) (cb_I ht kc_Rows_init kl_Groups_28 kn_Rows ki_Rows_init hd_Rows_init rfl ⟨Nat.le_of_ble_eq_true rfl, Nat.le_of_ble_eq_true rfl⟩) (wd_ct (Bs := [[(h, .inr (7, [.null, .ref q7, .ref q15, .ref q23, .ref g33, .null]))], [(q7, .inl (cI, 8, .inl (fun _ => 0)))], [(q15, .inl (cI, 8, .inl (fun _ => 0)))], [(q23, .inl (cI, 8, .inl (fun _ => 0)))], [(g33, .inl (cG, 12, .inr (.inr (.inr (.inr (go r33))))))], [(o41, .inr (0, [.int (nI 0), .null, .int (nI 0), .int (nI 0)]))], gd cI 8 r33 (gN (fun _ _ => 0))]) 7 rfl [5] [0, 1, 2, 3, 4, 6] (by decide) (wd_1 _)) hK hP hD hS hA rfl hl.1 rfl (Nat.le_of_ble_eq_true rfl) ⟨(show (((((0 + 1) + 1) + 1) + 13) + 1) + 1 ≤ 18 by omega), (show (((((0 + 8) + 8) + 8) + (12 + 12 * 8)) + 4) + (3 * 16) ≤ 184 by omega)⟩ d_Groups_init_46 (fun u1 H locs hu1 hP hD hS => ?_)
  have kN := hu1
  have hP := wd_nP (N := [u1]) (wd_1 _) 7 rfl [1, 2, 3, 4, 5, 0, 6] (by decide) hP
  have hD := wd_nD (N := [u1]) (wd_1 _) 7 rfl [1, 2, 3, 4, 5, 0, 6] (by decide) hD
  have hP : va_P D kls (List.flatten [[(h, .inr (7, [.null, .ref q7, .ref q15, .ref q23, .ref g33, .null]))], [(q7, .inl (cI, 8, .inl (fun _ => 0)))], [(q15, .inl (cI, 8, .inl (fun _ => 0)))], [(q23, .inl (cI, 8, .inl (fun _ => 0)))], [(g33, .inl (cG, 12, .inr (.inr (.inr (.inr (go r33))))))], u1, gd cI 8 r33 (gN (fun _ _ => 0))]) H := hP
  have hD : va_D A (List.flatten [[(h, .inr (7, [.null, .ref q7, .ref q15, .ref q23, .ref g33, .null]))], [(q7, .inl (cI, 8, .inl (fun _ => 0)))], [(q15, .inl (cI, 8, .inl (fun _ => 0)))], [(q23, .inl (cI, 8, .inl (fun _ => 0)))], [(g33, .inl (cG, 12, .inr (.inr (.inr (.inr (go r33))))))], u1, gd cI 8 r33 (gN (fun _ _ => 0))]) := hD
  refine W.eq (g2 := F0 m 49 ls [.ref o41, .ref h]) rfl ?_
  refine va_putF (D := D) (ci := 7) (v := .ref o41) (ty := (.object "BitNet$Rows")) (C := R_Groups) (T := T_Groups) (N := 6) hx hb ht in_Groups t_Groups ok_Groups nm_Groups hown hK hP hD hS 0 rfl rfl 5 (by decide) (ht _ kl_Groups_31) (fun _ h9 => h9) rfl hnm rfl (by decide +kernel) rfl rfl (Nat.le_of_ble_eq_true rfl) d_Groups_init_49 (fun H locs hP hD hS => ?_)
  have hP : va_P D kls (List.flatten [[(h, .inr (7, [.null, .ref q7, .ref q15, .ref q23, .ref g33, .ref o41]))], [(q7, .inl (cI, 8, .inl (fun _ => 0)))], [(q15, .inl (cI, 8, .inl (fun _ => 0)))], [(q23, .inl (cI, 8, .inl (fun _ => 0)))], [(g33, .inl (cG, 12, .inr (.inr (.inr (.inr (go r33))))))], u1, gd cI 8 r33 (gN (fun _ _ => 0))]) H := hP
  have hD : va_D A (List.flatten [[(h, .inr (7, [.null, .ref q7, .ref q15, .ref q23, .ref g33, .ref o41]))], [(q7, .inl (cI, 8, .inl (fun _ => 0)))], [(q15, .inl (cI, 8, .inl (fun _ => 0)))], [(q23, .inl (cI, 8, .inl (fun _ => 0)))], [(g33, .inl (cG, 12, .inr (.inr (.inr (.inr (go r33))))))], u1, gd cI 8 r33 (gN (fun _ _ => 0))]) := hD
  refine lv_aload_n hx hb d_Groups_init_52 rfl (lv_at hl 0 rfl) ?_
  refine lv_aload_n hx hb d_Groups_init_53 rfl (lv_at hl 1 rfl) ?_
  refine va_putF (D := D) (ci := 7) (v := .ref aE) (ty := (.object "BitNet$Edges")) (C := R_Groups) (T := T_Groups) (N := 6) hx hb ht in_Groups t_Groups ok_Groups nm_Groups hown hK hP hD hS 0 rfl rfl 0 (by decide) (ht _ kl_Groups_35) (fun _ h9 => h9) rfl hnm rfl (by decide +kernel) rfl rfl (Nat.le_of_ble_eq_true rfl) d_Groups_init_54 (fun H locs hP hD hS => ?_)
  have hP : va_P D kls (List.flatten [[(h, .inr (7, [.ref aE, .ref q7, .ref q15, .ref q23, .ref g33, .ref o41]))], [(q7, .inl (cI, 8, .inl (fun _ => 0)))], [(q15, .inl (cI, 8, .inl (fun _ => 0)))], [(q23, .inl (cI, 8, .inl (fun _ => 0)))], [(g33, .inl (cG, 12, .inr (.inr (.inr (.inr (go r33))))))], u1, gd cI 8 r33 (gN (fun _ _ => 0))]) H := hP
  have hD : va_D A (List.flatten [[(h, .inr (7, [.ref aE, .ref q7, .ref q15, .ref q23, .ref g33, .ref o41]))], [(q7, .inl (cI, 8, .inl (fun _ => 0)))], [(q15, .inl (cI, 8, .inl (fun _ => 0)))], [(q23, .inl (cI, 8, .inl (fun _ => 0)))], [(g33, .inl (cG, 12, .inr (.inr (.inr (.inr (go r33))))))], u1, gd cI 8 r33 (gN (fun _ _ => 0))]) := hD
  refine lv_iconst (v := nI 0) hx hb d_Groups_init_57 (by decide) ?_
  refine lv_istore_n hx hb d_Groups_init_58 rfl hl (by decide) rfl (fun ls hl => ?_)
  have hl : lv_has ls 3 [(2, .int (nI 0)), (0, .ref h), (1, .ref aE)] := hl
  have hP := wd_rP 7 rfl [0, 1, 2, 3, 4, 6, 5] (by decide) hP
  have hD := wd_rD 7 rfl [0, 1, 2, 3, 4, 6, 5] (by decide) hD
  have hP : va_P D kls (List.flatten [[(h, .inr (7, [.ref aE, .ref q7, .ref q15, .ref q23, .ref g33, .ref o41]))], [(q7, .inl (cI, 8, .inl (fun _ => 0)))], [(q15, .inl (cI, 8, .inl (fun _ => 0)))], [(q23, .inl (cI, 8, .inl (fun _ => 0)))], [(g33, .inl (cG, 12, .inr (.inr (.inr (.inr (go r33))))))], gd cI 8 r33 (gN (fun _ _ => 0)), u1]) H := hP
  have hD : va_D A (List.flatten [[(h, .inr (7, [.ref aE, .ref q7, .ref q15, .ref q23, .ref g33, .ref o41]))], [(q7, .inl (cI, 8, .inl (fun _ => 0)))], [(q15, .inl (cI, 8, .inl (fun _ => 0)))], [(q23, .inl (cI, 8, .inl (fun _ => 0)))], [(g33, .inl (cG, 12, .inr (.inr (.inr (.inr (go r33))))))], gd cI 8 r33 (gN (fun _ _ => 0)), u1]) := hD
  have loop : ∀ (k j : Nat)  (H : Heap) (locs : List Loc) (ls : Array Slot), j + k = 8 → va_P D kls (List.flatten [[(h, .inr (7, [.ref aE, .ref q7, .ref q15, .ref q23, .ref g33, .ref o41]))], [(q7, .inl (cI, 8, .inl (ng_i j)))], [(q15, .inl (cI, 8, .inl (fun _ => 0)))], [(q23, .inl (cI, 8, .inl (fun _ => 0)))], [(g33, .inl (cG, 12, .inr (.inr (.inr (.inr (go r33))))))], gd cI 8 r33 (gN (fun _ _ => 0)), u1]) H → va_D A (List.flatten [[(h, .inr (7, [.ref aE, .ref q7, .ref q15, .ref q23, .ref g33, .ref o41]))], [(q7, .inl (cI, 8, .inl (ng_i j)))], [(q15, .inl (cI, 8, .inl (fun _ => 0)))], [(q23, .inl (cI, 8, .inl (fun _ => 0)))], [(g33, .inl (cG, 12, .inr (.inr (.inr (.inr (go r33))))))], gd cI 8 r33 (gN (fun _ _ => 0)), u1]) → va_S A s.heap H locs → lv_has ls 3 [(2, .int (nI j)), (0, .ref h), (1, .ref aE)] → W p l e (rm_ 2 33 18 184) s m args below meth c H locs ((((((0 + 1) + 1) + 1) + 13) + 1) + 1) ((((((0 + 8) + 8) + 8) + (12 + 12 * 8)) + 4) + (3 * 16)) Q (F0 m 59 ls []) := by
    intro k
    induction k with
    | zero =>
      intro j H locs ls hk hP hD hS hl
      refine lv_iload_n hx hb d_Groups_init_59 rfl (lv_at hl 0 rfl) ?_
      refine lv_bipush (v := nI 8) hx hb d_Groups_init_60 (by decide) ?_
      refine ri_icmp_ge hx hb (by omega) (by omega) d_Groups_init_62 (tgt := 78) (by decide) (fun hc9 => ?_) (fun hc9 => ?_)
      · have hj : j = 8 := by omega
        subst hj
        rw [ng_8] at hP hD
        exact ct_vret hQ hx hb hr hlk hP hD hS hK (by omega) (by omega) d_Groups_init_78 (fun g => ⟨q7, q15, q23, g33, o41, r33, u1, rfl, kN g⟩)
      · exact absurd hc9 (by omega)
    | succ k ih =>
      intro j H locs ls hk hP hD hS hl
      refine lv_iload_n hx hb d_Groups_init_59 rfl (lv_at hl 0 rfl) ?_
      refine lv_bipush (v := nI 8) hx hb d_Groups_init_60 (by decide) ?_
      refine ri_icmp_ge hx hb (by omega) (by omega) d_Groups_init_62 (tgt := 78) (by decide) (fun hc9 => ?_) (fun hc9 => ?_)
      · exact absurd hc9 (by omega)
      · refine lv_aload_n hx hb d_Groups_init_65 rfl (lv_at hl 1 rfl) ?_
        refine va_get (D := D) (ci := 7) (v := .ref q7) (C := R_Groups) (T := T_Groups) (N := 6) hx hb ht in_Groups hown hK hP 0 rfl rfl 1 (by decide) (ht _ kl_Groups_9) (fun _ h9 => h9) rfl d_Groups_init_66 ?_
        refine lv_iload_n hx hb d_Groups_init_69 rfl (lv_at hl 0 rfl) ?_
        refine lv_iconst (v := (-1)) hx hb d_Groups_init_70 (by decide) ?_
        refine ri_iast hx hb hK hP hD hS 1 0 rfl rfl (j := j) (by omega) (by omega) d_Groups_init_71 (fun H locs hP hD hS => ?_)
        rw [ng_up] at hP hD
        have hP : va_P D kls (List.flatten [[(h, .inr (7, [.ref aE, .ref q7, .ref q15, .ref q23, .ref g33, .ref o41]))], [(q7, .inl (cI, 8, .inl (ng_i (j + 1))))], [(q15, .inl (cI, 8, .inl (fun _ => 0)))], [(q23, .inl (cI, 8, .inl (fun _ => 0)))], [(g33, .inl (cG, 12, .inr (.inr (.inr (.inr (go r33))))))], gd cI 8 r33 (gN (fun _ _ => 0)), u1]) H := hP
        have hD : va_D A (List.flatten [[(h, .inr (7, [.ref aE, .ref q7, .ref q15, .ref q23, .ref g33, .ref o41]))], [(q7, .inl (cI, 8, .inl (ng_i (j + 1))))], [(q15, .inl (cI, 8, .inl (fun _ => 0)))], [(q23, .inl (cI, 8, .inl (fun _ => 0)))], [(g33, .inl (cG, 12, .inr (.inr (.inr (.inr (go r33))))))], gd cI 8 r33 (gN (fun _ _ => 0)), u1]) := hD
        refine ri_iinc hx hb d_Groups_init_72 hl (k := 0) rfl (by decide) rfl (fun ls hl => ?_)
        have hl : lv_has ls 3 [(2, .int (nI (j + 1))), (0, .ref h), (1, .ref aE)] := hl
        refine lv_goto hx hb d_Groups_init_75 (tgt := 59) (by decide) ?_
        exact ih (j + 1) H locs ls (by omega) hP hD hS hl
  exact loop 8 0 H locs ls (by omega) hP hD hS hl
