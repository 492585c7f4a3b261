/-! Constructors. -/
theorem fl_add (Bs : List va_W) (B : va_W) : Bs.flatten ++ B = (Bs ++ [B]).flatten := by simp
theorem fl_add2 (Bs : List va_W) (B C : va_W) : Bs.flatten ++ (B ++ C) = (Bs ++ [B, C]).flatten := by simp
theorem nt_lt2 {j : Nat} (h : j < 2) : j = 0 ∨ j = 1 := by omega
theorem nt_lt3 {j : Nat} (h : j < 3) : j = 0 ∨ j = 1 ∨ j = 2 := by omega
theorem nt_lt4 {j : Nat} (h : j < 4) : j = 0 ∨ j = 1 ∨ j = 2 ∨ j = 3 := by omega
theorem nt_lt6 {j : Nat} (h : j < 6) : j = 0 ∨ j = 1 ∨ j = 2 ∨ j = 3 ∨ j = 4 ∨ j = 5 := by omega
theorem nt_lt7 {j : Nat} (h : j < 7) : j = 0 ∨ j = 1 ∨ j = 2 ∨ j = 3 ∨ j = 4 ∨ j = 5 ∨ j = 6 := by omega
theorem nt_lt8 {j : Nat} (h : j < 8) : j = 0 ∨ j = 1 ∨ j = 2 ∨ j = 3 ∨ j = 4 ∨ j = 5 ∨ j = 6 ∨ j = 7 := by omega
set_option maxHeartbeats 4000000 in
set_option maxRecDepth 100000 in
theorem k_Links_init (l : Launch) (D : va_G) (cI cZ cJ cG : ClassId) (h : Nat)  : ct_N l D kls (ty4 cI cZ cJ cG) y_Links_init ws_Links_init (rm_ 1 12 26 312) [.ref h] ([(h, .inr (2, [.null, .null]))]) (fun u => lk_R cI cG h (fun _ _ => 0) (fun _ _ => 0) u) 26 312 := by
  refine ct_enterN (cc := b_Links_init) (maxL := 1) (ret := none) (by decide +kernel) (Nat.le_of_ble_eq_true rfl) ?_
  intro p e s m args below meth c hx hb hml hr ht hown hlk hnm A Q hA hK hP hD hQ ls hl hZ
  have hown : s.vm.findClass R_Links = some m.cls := hown
  have hS : va_S A s.heap s.heap [] := va_S.rf
  have hl : lv_has ls 1 [(0, .ref h)] := hl
  have hP : va_P D kls (List.flatten [[(h, .inr (2, [.null, .null]))]]) s.heap := hP
  have hD : va_D A (List.flatten [[(h, .inr (2, [.null, .null]))]]) := hD
  refine lv_aload_n hx hb d_Links_init_0 rfl (lv_at hl 0 rfl) ?_
  refine W.objInit hx hb hown (ht _ kl_Links_3) (ht _ ki_objectInit) (ht _ kc_objectInit) rfl (by rw [hml]; exact hl.1) rfl d_Links_init_1 (Nat.le_of_ble_eq_true rfl) (Nat.le_of_ble_eq_true rfl) ?_
  refine W.eq (g2 := F0 m 4 ls []) rfl ?_
  refine lv_aload_n hx hb d_Links_init_4 rfl (lv_at hl 0 rfl) ?_
  refine lv_bipush (v := nI 12) hx hb d_Links_init_5 (by decide) ?_
  refine lv_bipush (v := nI 12) hx hb d_Links_init_7 (by decide) ?_
  refine ri_mna (k := 12) hx hb hown (ht _ kl_Links_9) (hZ.1 _) (ht _ ka_int) hK hP hD hS hA (by decide) (show 0 + 13 ≤ 26 by omega) (show 0 + (12 + 12 * 12) ≤ 312 by omega) d_Links_init_9 (fun g9 r9 H hP hD hS => ?_)
  rw [fl_add2] at hP hD
  have hP : va_P D kls (List.flatten [[(h, .inr (2, [.null, .null]))], [(g9, .inl (cG, 12, .inr (.inr (.inr (.inr (go r9))))))], gd cI 12 r9 (gN (fun _ _ => 0))]) H := hP
  have hD : va_D A (List.flatten [[(h, .inr (2, [.null, .null]))], [(g9, .inl (cG, 12, .inr (.inr (.inr (.inr (go r9))))))], gd cI 12 r9 (gN (fun _ _ => 0))]) := hD
  refine va_putF (D := D) (ci := 2) (v := .ref g9) (ty := (.array (.array .int))) (C := R_Links) (T := T_Links) (N := 2) hx hb ht in_Links t_Links ok_Links nm_Links hown hK hP hD hS 0 rfl rfl 0 (by decide) (ht _ kl_Links_11) (fun _ h9 => h9) rfl hnm rfl (by decide +kernel) rfl rfl (Nat.le_of_ble_eq_true rfl) d_Links_init_13 (fun H locs hP hD hS => ?_)
  have hP : va_P D kls (List.flatten [[(h, .inr (2, [.ref g9, .null]))], [(g9, .inl (cG, 12, .inr (.inr (.inr (.inr (go r9))))))], gd cI 12 r9 (gN (fun _ _ => 0))]) H := hP
  have hD : va_D A (List.flatten [[(h, .inr (2, [.ref g9, .null]))], [(g9, .inl (cG, 12, .inr (.inr (.inr (.inr (go r9))))))], gd cI 12 r9 (gN (fun _ _ => 0))]) := hD
  refine lv_aload_n hx hb d_Links_init_16 rfl (lv_at hl 0 rfl) ?_
  refine lv_bipush (v := nI 12) hx hb d_Links_init_17 (by decide) ?_
  refine lv_bipush (v := nI 12) hx hb d_Links_init_19 (by decide) ?_
  refine ri_mna (k := 12) hx hb hown (ht _ kl_Links_9) (hZ.1 _) (ht _ ka_int) hK hP hD hS hA (by decide) (show (0 + 13) + 13 ≤ 26 by omega) (show (0 + (12 + 12 * 12)) + (12 + 12 * 12) ≤ 312 by omega) d_Links_init_21 (fun g21 r21 H hP hD hS => ?_)
  rw [fl_add2] at hP hD
  have hP := wd_rP 5 rfl [0, 1, 3, 2, 4] (by decide) hP
  have hD := wd_rD 5 rfl [0, 1, 3, 2, 4] (by decide) hD
  have hP : va_P D kls (List.flatten [[(h, .inr (2, [.ref g9, .null]))], [(g9, .inl (cG, 12, .inr (.inr (.inr (.inr (go r9))))))], [(g21, .inl (cG, 12, .inr (.inr (.inr (.inr (go r21))))))], gd cI 12 r9 (gN (fun _ _ => 0)), gd cI 12 r21 (gN (fun _ _ => 0))]) H := hP
  have hD : va_D A (List.flatten [[(h, .inr (2, [.ref g9, .null]))], [(g9, .inl (cG, 12, .inr (.inr (.inr (.inr (go r9))))))], [(g21, .inl (cG, 12, .inr (.inr (.inr (.inr (go r21))))))], gd cI 12 r9 (gN (fun _ _ => 0)), gd cI 12 r21 (gN (fun _ _ => 0))]) := hD
  refine va_putF (D := D) (ci := 2) (v := .ref g21) (ty := (.array (.array .int))) (C := R_Links) (T := T_Links) (N := 2) hx hb ht in_Links t_Links ok_Links nm_Links hown hK hP hD hS 0 rfl rfl 1 (by decide) (ht _ kl_Links_16) (fun _ h9 => h9) rfl hnm rfl (by decide +kernel) rfl rfl (Nat.le_of_ble_eq_true rfl) d_Links_init_25 (fun H locs hP hD hS => ?_)
  have hP : va_P D kls (List.flatten [[(h, .inr (2, [.ref g9, .ref g21]))], [(g9, .inl (cG, 12, .inr (.inr (.inr (.inr (go r9))))))], [(g21, .inl (cG, 12, .inr (.inr (.inr (.inr (go r21))))))], gd cI 12 r9 (gN (fun _ _ => 0)), gd cI 12 r21 (gN (fun _ _ => 0))]) H := hP
  have hD : va_D A (List.flatten [[(h, .inr (2, [.ref g9, .ref g21]))], [(g9, .inl (cG, 12, .inr (.inr (.inr (.inr (go r9))))))], [(g21, .inl (cG, 12, .inr (.inr (.inr (.inr (go r21))))))], gd cI 12 r9 (gN (fun _ _ => 0)), gd cI 12 r21 (gN (fun _ _ => 0))]) := hD
  exact ct_vret hQ hx hb hr hlk hP hD hS hK (by omega) (by omega) d_Links_init_28 (⟨g9, g21, r9, r21, rfl⟩)
set_option maxHeartbeats 4000000 in
set_option maxRecDepth 100000 in
theorem k_Control_init (l : Launch) (D : va_G) (cI cZ cJ cG : ClassId) (h aL aS : Nat)  : ct_V l D kls (ty4 cI cZ cJ cG) y_Control_init ws_Control_init (rm_ 2 33 2 52) [.ref h, .ref aL, .ref aS] ([(h, .inr (4, [.null, .null, .null, .int (nI 0)]))]) (fun u => ∃ aM wM, u = List.flatten [[(h, .inr (4, [.ref aL, .ref aS, .ref aM, .int (nI 0)]))], wM] ∧ ∀ g, rw_R cI 3 16 0 g aM wM) 2 52 := by
  refine ct_enterV (cc := b_Control_init) (maxL := 3) (ret := none) (by decide +kernel) (Nat.le_of_ble_eq_true rfl) ?_
  intro p e s m args below meth c hx hb hml hr ht hown hlk hnm A Q hA hK hP hD hQ ls hl
  have hown : s.vm.findClass R_Control = some m.cls := hown
  have hS : va_S A s.heap s.heap [] := va_S.rf
  have hl : lv_has ls 3 [(0, .ref h), (1, .ref aL), (2, .ref aS)] := hl
  have hP : va_P D kls (List.flatten [[(h, .inr (4, [.null, .null, .null, .int (nI 0)]))]]) s.heap := hP
  have hD : va_D A (List.flatten [[(h, .inr (4, [.null, .null, .null, .int (nI 0)]))]]) := hD
  refine lv_aload_n hx hb d_Control_init_0 rfl (lv_at hl 0 rfl) ?_
  refine W.objInit hx hb hown (ht _ kl_Control_3) (ht _ ki_objectInit) (ht _ kc_objectInit) rfl (by rw [hml]; exact hl.1) rfl d_Control_init_1 (Nat.le_of_ble_eq_true rfl) (Nat.le_of_ble_eq_true rfl) ?_
  refine W.eq (g2 := F0 m 4 ls []) rfl ?_
  refine lv_aload_n hx hb d_Control_init_4 rfl (lv_at hl 0 rfl) ?_
  refine va_new (D := D) (ci := 0) (C := R_Rows) (T := T_Rows) (N := 4) (fs := [.int (nI 0), .null, .int (nI 0), .int (nI 0)]) hx hb ht in_Rows t_Rows ok_Rows hown (ht _ kl_Control_9) (ht _ kt_Rows) (ht _ kn_Rows) hK hP hD hS hA rfl (fun j hj => by rcases nt_lt4 hj with rfl | rfl | rfl | rfl <;> rfl) (show 0 + 1 ≤ 2 by omega) (show 0 + 4 ≤ 52 by omega) d_Control_init_5 (fun o5 H hP hD hS => ?_)
  rw [fl_add] at hP hD
  have hP : va_P D kls (List.flatten [[(h, .inr (4, [.null, .null, .null, .int (nI 0)]))], [(o5, .inr (0, [.int (nI 0), .null, .int (nI 0), .int (nI 0)]))]]) H := hP
  have hD : va_D A (List.flatten [[(h, .inr (4, [.null, .null, .null, .int (nI 0)]))], [(o5, .inr (0, [.int (nI 0), .null, .int (nI 0), .int (nI 0)]))]]) := hD
  refine lv_dup hx hb d_Control_init_8 rfl ?_
  refine lv_iconst (v := nI 3) hx hb d_Control_init_9 (by decide) ?_
  refine ct_callI (As := [.int (nI 3)]) (rest := [.ref o5, .ref h]) ⟨hx, hb, hml, hown, ht⟩ (k_Rows_init l D cI cZ cJ cG o5 3 (by decide) (by decide)) (cb_I ht kc_Rows_init kl_Control_11 kn_Rows ki_Rows_init hd_Rows_init rfl ⟨Nat.le_of_ble_eq_true rfl, Nat.le_of_ble_eq_true rfl⟩) (wd_ct (Bs := [[(h, .inr (4, [.null, .null, .null, .int (nI 0)]))], [(o5, .inr (0, [.int (nI 0), .null, .int (nI 0), .int (nI 0)]))]]) 2 rfl [1] [0] (by decide) (wd_1 _)) hK hP hD hS hA rfl hl.1 rfl (Nat.le_of_ble_eq_true rfl) ⟨(show (0 + 1) + 1 ≤ 2 by omega), (show (0 + 4) + (3 * 16) ≤ 52 by omega)⟩ d_Control_init_10 (fun u1 H locs hu1 hP hD hS => ?_)
  have kM := hu1
  have hP := wd_nP (N := [u1]) (wd_1 _) 2 rfl [1, 0] (by decide) hP
  have hD := wd_nD (N := [u1]) (wd_1 _) 2 rfl [1, 0] (by decide) hD
  have hP : va_P D kls (List.flatten [[(h, .inr (4, [.null, .null, .null, .int (nI 0)]))], u1]) H := hP
  have hD : va_D A (List.flatten [[(h, .inr (4, [.null, .null, .null, .int (nI 0)]))], u1]) := hD
  refine W.eq (g2 := F0 m 13 ls [.ref o5, .ref h]) rfl ?_
  refine va_putF (D := D) (ci := 4) (v := .ref o5) (ty := (.object "BitNet$Rows")) (C := R_Control) (T := T_Control) (N := 4) hx hb ht in_Control t_Control ok_Control nm_Control hown hK hP hD hS 0 rfl rfl 2 (by decide) (ht _ kl_Control_14) (fun _ h9 => h9) rfl hnm rfl (by decide +kernel) rfl rfl (Nat.le_of_ble_eq_true rfl) d_Control_init_13 (fun H locs hP hD hS => ?_)
  have hP : va_P D kls (List.flatten [[(h, .inr (4, [.null, .null, .ref o5, .int (nI 0)]))], u1]) H := hP
  have hD : va_D A (List.flatten [[(h, .inr (4, [.null, .null, .ref o5, .int (nI 0)]))], u1]) := hD
  refine lv_aload_n hx hb d_Control_init_16 rfl (lv_at hl 0 rfl) ?_
  refine lv_aload_n hx hb d_Control_init_17 rfl (lv_at hl 1 rfl) ?_
  refine va_putF (D := D) (ci := 4) (v := .ref aL) (ty := (.object "BitNet$Links")) (C := R_Control) (T := T_Control) (N := 4) hx hb ht in_Control t_Control ok_Control nm_Control hown hK hP hD hS 0 rfl rfl 0 (by decide) (ht _ kl_Control_20) (fun _ h9 => h9) rfl hnm rfl (by decide +kernel) rfl rfl (Nat.le_of_ble_eq_true rfl) d_Control_init_18 (fun H locs hP hD hS => ?_)
  have hP : va_P D kls (List.flatten [[(h, .inr (4, [.ref aL, .null, .ref o5, .int (nI 0)]))], u1]) H := hP
  have hD : va_D A (List.flatten [[(h, .inr (4, [.ref aL, .null, .ref o5, .int (nI 0)]))], u1]) := hD
  refine lv_aload_n hx hb d_Control_init_21 rfl (lv_at hl 0 rfl) ?_
  refine lv_aload_n hx hb d_Control_init_22 rfl (lv_at hl 2 rfl) ?_
  refine va_putF (D := D) (ci := 4) (v := .ref aS) (ty := (.object "BitNet$Stores")) (C := R_Control) (T := T_Control) (N := 4) hx hb ht in_Control t_Control ok_Control nm_Control hown hK hP hD hS 0 rfl rfl 1 (by decide) (ht _ kl_Control_24) (fun _ h9 => h9) rfl hnm rfl (by decide +kernel) rfl rfl (Nat.le_of_ble_eq_true rfl) d_Control_init_23 (fun H locs hP hD hS => ?_)
  have hP : va_P D kls (List.flatten [[(h, .inr (4, [.ref aL, .ref aS, .ref o5, .int (nI 0)]))], u1]) H := hP
  have hD : va_D A (List.flatten [[(h, .inr (4, [.ref aL, .ref aS, .ref o5, .int (nI 0)]))], u1]) := hD
  exact ct_vret hQ hx hb hr hlk hP hD hS hK (by omega) (by omega) d_Control_init_26 (⟨o5, u1, rfl, kM⟩)
set_option maxHeartbeats 4000000 in
set_option maxRecDepth 100000 in
theorem k_Data_init (l : Launch) (D : va_G) (cI cZ cJ cG : ClassId) (h aL aE aR : Nat)  : ct_V l D kls (ty4 cI cZ cJ cG) y_Data_init ws_Data_init (rm_ 2 33 4 120) [.ref h, .ref aL, .ref aE, .ref aR] ([(h, .inr (6, [.null, .null, .null, .null, .null, .int (nI 0), .int (nI 0), .int (nI 0)]))]) (fun u => ∃ aP aC, ∀ g g2, da_R cI h aL aE aR aP aC ((16, 0, g), (16, 0, g2), 0, 0, 0) u) 4 120 := by
  refine ct_enterV (cc := b_Data_init) (maxL := 4) (ret := none) (by decide +kernel) (Nat.le_of_ble_eq_true rfl) ?_
  intro p e s m args below meth c hx hb hml hr ht hown hlk hnm A Q hA hK hP hD hQ ls hl
  have hown : s.vm.findClass R_Data = some m.cls := hown
  have hS : va_S A s.heap s.heap [] := va_S.rf
  have hl : lv_has ls 4 [(0, .ref h), (1, .ref aL), (2, .ref aE), (3, .ref aR)] := hl
  have hP : va_P D kls (List.flatten [[(h, .inr (6, [.null, .null, .null, .null, .null, .int (nI 0), .int (nI 0), .int (nI 0)]))]]) s.heap := hP
  have hD : va_D A (List.flatten [[(h, .inr (6, [.null, .null, .null, .null, .null, .int (nI 0), .int (nI 0), .int (nI 0)]))]]) := hD
  refine lv_aload_n hx hb d_Data_init_0 rfl (lv_at hl 0 rfl) ?_
  refine W.objInit hx hb hown (ht _ kl_Data_3) (ht _ ki_objectInit) (ht _ kc_objectInit) rfl (by rw [hml]; exact hl.1) rfl d_Data_init_1 (Nat.le_of_ble_eq_true rfl) (Nat.le_of_ble_eq_true rfl) ?_
  refine W.eq (g2 := F0 m 4 ls []) rfl ?_
  refine lv_aload_n hx hb d_Data_init_4 rfl (lv_at hl 0 rfl) ?_
  refine va_new (D := D) (ci := 0) (C := R_Rows) (T := T_Rows) (N := 4) (fs := [.int (nI 0), .null, .int (nI 0), .int (nI 0)]) hx hb ht in_Rows t_Rows ok_Rows hown (ht _ kl_Data_9) (ht _ kt_Rows) (ht _ kn_Rows) hK hP hD hS hA rfl (fun j hj => by rcases nt_lt4 hj with rfl | rfl | rfl | rfl <;> rfl) (show 0 + 1 ≤ 4 by omega) (show 0 + 4 ≤ 120 by omega) d_Data_init_5 (fun o5 H hP hD hS => ?_)
  rw [fl_add] at hP hD
  have hP : va_P D kls (List.flatten [[(h, .inr (6, [.null, .null, .null, .null, .null, .int (nI 0), .int (nI 0), .int (nI 0)]))], [(o5, .inr (0, [.int (nI 0), .null, .int (nI 0), .int (nI 0)]))]]) H := hP
  have hD : va_D A (List.flatten [[(h, .inr (6, [.null, .null, .null, .null, .null, .int (nI 0), .int (nI 0), .int (nI 0)]))], [(o5, .inr (0, [.int (nI 0), .null, .int (nI 0), .int (nI 0)]))]]) := hD
  refine lv_dup hx hb d_Data_init_8 rfl ?_
  refine lv_iconst (v := nI 2) hx hb d_Data_init_9 (by decide) ?_
  refine ct_callI (As := [.int (nI 2)]) (rest := [.ref o5, .ref h]) ⟨hx, hb, hml, hown, ht⟩ (k_Rows_init l D cI cZ cJ cG o5 2 (by decide) (by decide)) (cb_I ht kc_Rows_init kl_Data_11 kn_Rows ki_Rows_init hd_Rows_init rfl ⟨Nat.le_of_ble_eq_true rfl, Nat.le_of_ble_eq_true rfl⟩) (wd_ct (Bs := [[(h, .inr (6, [.null, .null, .null, .null, .null, .int (nI 0), .int (nI 0), .int (nI 0)]))], [(o5, .inr (0, [.int (nI 0), .null, .int (nI 0), .int (nI 0)]))]]) 2 rfl [1] [0] (by decide) (wd_1 _)) hK hP hD hS hA rfl hl.1 rfl (Nat.le_of_ble_eq_true rfl) ⟨(show (0 + 1) + 1 ≤ 4 by omega), (show (0 + 4) + (2 * 16) ≤ 120 by omega)⟩ d_Data_init_10 (fun u1 H locs hu1 hP hD hS => ?_)
  have kP := hu1
  have hP := wd_nP (N := [u1]) (wd_1 _) 2 rfl [1, 0] (by decide) hP
  have hD := wd_nD (N := [u1]) (wd_1 _) 2 rfl [1, 0] (by decide) hD
  have hP : va_P D kls (List.flatten [[(h, .inr (6, [.null, .null, .null, .null, .null, .int (nI 0), .int (nI 0), .int (nI 0)]))], u1]) H := hP
  have hD : va_D A (List.flatten [[(h, .inr (6, [.null, .null, .null, .null, .null, .int (nI 0), .int (nI 0), .int (nI 0)]))], u1]) := hD
  refine W.eq (g2 := F0 m 13 ls [.ref o5, .ref h]) rfl ?_
  refine va_putF (D := D) (ci := 6) (v := .ref o5) (ty := (.object "BitNet$Rows")) (C := R_Data) (T := T_Data) (N := 8) hx hb ht in_Data t_Data ok_Data nm_Data hown hK hP hD hS 0 rfl rfl 3 (by decide) (ht _ kl_Data_14) (fun _ h9 => h9) rfl hnm rfl (by decide +kernel) rfl rfl (Nat.le_of_ble_eq_true rfl) d_Data_init_13 (fun H locs hP hD hS => ?_)
  have hP : va_P D kls (List.flatten [[(h, .inr (6, [.null, .null, .null, .ref o5, .null, .int (nI 0), .int (nI 0), .int (nI 0)]))], u1]) H := hP
  have hD : va_D A (List.flatten [[(h, .inr (6, [.null, .null, .null, .ref o5, .null, .int (nI 0), .int (nI 0), .int (nI 0)]))], u1]) := hD
  refine lv_aload_n hx hb d_Data_init_16 rfl (lv_at hl 0 rfl) ?_
  refine va_new (D := D) (ci := 0) (C := R_Rows) (T := T_Rows) (N := 4) (fs := [.int (nI 0), .null, .int (nI 0), .int (nI 0)]) hx hb ht in_Rows t_Rows ok_Rows hown (ht _ kl_Data_9) (ht _ kt_Rows) (ht _ kn_Rows) hK hP hD hS hA rfl (fun j hj => by rcases nt_lt4 hj with rfl | rfl | rfl | rfl <;> rfl) (show ((0 + 1) + 1) + 1 ≤ 4 by omega) (show ((0 + 4) + (2 * 16)) + 4 ≤ 120 by omega) d_Data_init_17 (fun o17 H hP hD hS => ?_)
  rw [fl_add] at hP hD
  have hP := wd_rP 3 rfl [0, 2, 1] (by decide) hP
  have hD := wd_rD 3 rfl [0, 2, 1] (by decide) hD
  have hP : va_P D kls (List.flatten [[(h, .inr (6, [.null, .null, .null, .ref o5, .null, .int (nI 0), .int (nI 0), .int (nI 0)]))], [(o17, .inr (0, [.int (nI 0), .null, .int (nI 0), .int (nI 0)]))], u1]) H := hP
  have hD : va_D A (List.flatten [[(h, .inr (6, [.null, .null, .null, .ref o5, .null, .int (nI 0), .int (nI 0), .int (nI 0)]))], [(o17, .inr (0, [.int (nI 0), .null, .int (nI 0), .int (nI 0)]))], u1]) := hD
  refine lv_dup hx hb d_Data_init_20 rfl ?_
  refine lv_iconst (v := nI 5) hx hb d_Data_init_21 (by decide) ?_
  refine ct_callI (As := [.int (nI 5)]) (rest := [.ref o17, .ref h]) ⟨hx, hb, hml, hown, ht⟩ (k_Rows_init l D cI cZ cJ cG o17 5 (by decide) (by decide)) (cb_I ht kc_Rows_init kl_Data_11 kn_Rows ki_Rows_init hd_Rows_init rfl ⟨Nat.le_of_ble_eq_true rfl, Nat.le_of_ble_eq_true rfl⟩) (wd_ct (Bs := [[(h, .inr (6, [.null, .null, .null, .ref o5, .null, .int (nI 0), .int (nI 0), .int (nI 0)]))], [(o17, .inr (0, [.int (nI 0), .null, .int (nI 0), .int (nI 0)]))], u1]) 3 rfl [1] [0, 2] (by decide) (wd_1 _)) hK hP hD hS hA rfl hl.1 rfl (Nat.le_of_ble_eq_true rfl) ⟨(show (((0 + 1) + 1) + 1) + 1 ≤ 4 by omega), (show (((0 + 4) + (2 * 16)) + 4) + (5 * 16) ≤ 120 by omega)⟩ d_Data_init_22 (fun u2 H locs hu2 hP hD hS => ?_)
  have kC := hu2
  have hP := wd_nP (N := [u2]) (wd_1 _) 3 rfl [1, 0, 2] (by decide) hP
  have hD := wd_nD (N := [u2]) (wd_1 _) 3 rfl [1, 0, 2] (by decide) hD
  have hP : va_P D kls (List.flatten [[(h, .inr (6, [.null, .null, .null, .ref o5, .null, .int (nI 0), .int (nI 0), .int (nI 0)]))], u2, u1]) H := hP
  have hD : va_D A (List.flatten [[(h, .inr (6, [.null, .null, .null, .ref o5, .null, .int (nI 0), .int (nI 0), .int (nI 0)]))], u2, u1]) := hD
  refine W.eq (g2 := F0 m 25 ls [.ref o17, .ref h]) rfl ?_
  refine va_putF (D := D) (ci := 6) (v := .ref o17) (ty := (.object "BitNet$Rows")) (C := R_Data) (T := T_Data) (N := 8) hx hb ht in_Data t_Data ok_Data nm_Data hown hK hP hD hS 0 rfl rfl 4 (by decide) (ht _ kl_Data_20) (fun _ h9 => h9) rfl hnm rfl (by decide +kernel) rfl rfl (Nat.le_of_ble_eq_true rfl) d_Data_init_25 (fun H locs hP hD hS => ?_)
  have hP : va_P D kls (List.flatten [[(h, .inr (6, [.null, .null, .null, .ref o5, .ref o17, .int (nI 0), .int (nI 0), .int (nI 0)]))], u2, u1]) H := hP
  have hD : va_D A (List.flatten [[(h, .inr (6, [.null, .null, .null, .ref o5, .ref o17, .int (nI 0), .int (nI 0), .int (nI 0)]))], u2, u1]) := hD
  refine lv_aload_n hx hb d_Data_init_28 rfl (lv_at hl 0 rfl) ?_
  refine lv_aload_n hx hb d_Data_init_29 rfl (lv_at hl 1 rfl) ?_
  refine va_putF (D := D) (ci := 6) (v := .ref aL) (ty := (.object "BitNet$Links")) (C := R_Data) (T := T_Data) (N := 8) hx hb ht in_Data t_Data ok_Data nm_Data hown hK hP hD hS 0 rfl rfl 0 (by decide) (ht _ kl_Data_23) (fun _ h9 => h9) rfl hnm rfl (by decide +kernel) rfl rfl (Nat.le_of_ble_eq_true rfl) d_Data_init_30 (fun H locs hP hD hS => ?_)
  have hP : va_P D kls (List.flatten [[(h, .inr (6, [.ref aL, .null, .null, .ref o5, .ref o17, .int (nI 0), .int (nI 0), .int (nI 0)]))], u2, u1]) H := hP
  have hD : va_D A (List.flatten [[(h, .inr (6, [.ref aL, .null, .null, .ref o5, .ref o17, .int (nI 0), .int (nI 0), .int (nI 0)]))], u2, u1]) := hD
  refine lv_aload_n hx hb d_Data_init_33 rfl (lv_at hl 0 rfl) ?_
  refine lv_aload_n hx hb d_Data_init_34 rfl (lv_at hl 2 rfl) ?_
  refine va_putF (D := D) (ci := 6) (v := .ref aE) (ty := (.object "BitNet$Edges")) (C := R_Data) (T := T_Data) (N := 8) hx hb ht in_Data t_Data ok_Data nm_Data hown hK hP hD hS 0 rfl rfl 1 (by decide) (ht _ kl_Data_27) (fun _ h9 => h9) rfl hnm rfl (by decide +kernel) rfl rfl (Nat.le_of_ble_eq_true rfl) d_Data_init_35 (fun H locs hP hD hS => ?_)
  have hP : va_P D kls (List.flatten [[(h, .inr (6, [.ref aL, .ref aE, .null, .ref o5, .ref o17, .int (nI 0), .int (nI 0), .int (nI 0)]))], u2, u1]) H := hP
  have hD : va_D A (List.flatten [[(h, .inr (6, [.ref aL, .ref aE, .null, .ref o5, .ref o17, .int (nI 0), .int (nI 0), .int (nI 0)]))], u2, u1]) := hD
  refine lv_aload_n hx hb d_Data_init_38 rfl (lv_at hl 0 rfl) ?_
  refine lv_aload_n hx hb d_Data_init_39 rfl (lv_at hl 3 rfl) ?_
  refine va_putF (D := D) (ci := 6) (v := .ref aR) (ty := (.object "BitNet$Routes")) (C := R_Data) (T := T_Data) (N := 8) hx hb ht in_Data t_Data ok_Data nm_Data hown hK hP hD hS 0 rfl rfl 2 (by decide) (ht _ kl_Data_31) (fun _ h9 => h9) rfl hnm rfl (by decide +kernel) rfl rfl (Nat.le_of_ble_eq_true rfl) d_Data_init_40 (fun H locs hP hD hS => ?_)
  have hP : va_P D kls (List.flatten [[(h, .inr (6, [.ref aL, .ref aE, .ref aR, .ref o5, .ref o17, .int (nI 0), .int (nI 0), .int (nI 0)]))], u2, u1]) H := hP
  have hD : va_D A (List.flatten [[(h, .inr (6, [.ref aL, .ref aE, .ref aR, .ref o5, .ref o17, .int (nI 0), .int (nI 0), .int (nI 0)]))], u2, u1]) := hD
  have hP := wd_rP 3 rfl [0, 2, 1] (by decide) hP
  have hD := wd_rD 3 rfl [0, 2, 1] (by decide) hD
  have hP : va_P D kls (List.flatten [[(h, .inr (6, [.ref aL, .ref aE, .ref aR, .ref o5, .ref o17, .int (nI 0), .int (nI 0), .int (nI 0)]))], u1, u2]) H := hP
  have hD : va_D A (List.flatten [[(h, .inr (6, [.ref aL, .ref aE, .ref aR, .ref o5, .ref o17, .int (nI 0), .int (nI 0), .int (nI 0)]))], u1, u2]) := hD
  exact ct_vret hQ hx hb hr hlk hP hD hS hK (by omega) (by omega) d_Data_init_43 (⟨o5, o17, fun g g2 => ⟨u1, u2, rfl, kP g, kC g2⟩⟩)
set_option maxHeartbeats 4000000 in
set_option maxRecDepth 100000 in
theorem k_Stores_init (l : Launch) (D : va_G) (cI cZ cJ cG : ClassId) (h : Nat)  : ct_N l D kls (ty4 cI cZ cJ cG) y_Stores_init ws_Stores_init (rm_ 3 73 16 396) [.ref h] ([(h, .inr (3, [.null, .null, .null]))]) (fun u => so_R cI cG h (16, 1, fun _ _ => 0) (fun _ _ => 0) (fun _ => 0) u) 16 396 := by
  refine ct_enterN (cc := b_Stores_init) (maxL := 1) (ret := none) (by decide +kernel) (Nat.le_of_ble_eq_true rfl) ?_
  intro p e s m args below meth c hx hb hml hr ht hown hlk hnm A Q hA hK hP hD hQ ls hl hZ
  have hown : s.vm.findClass R_Stores = some m.cls := hown
  have hS : va_S A s.heap s.heap [] := va_S.rf
  have hl : lv_has ls 1 [(0, .ref h)] := hl
  have hP : va_P D kls (List.flatten [[(h, .inr (3, [.null, .null, .null]))]]) s.heap := hP
  have hD : va_D A (List.flatten [[(h, .inr (3, [.null, .null, .null]))]]) := hD
  refine lv_aload_n hx hb d_Stores_init_0 rfl (lv_at hl 0 rfl) ?_
  refine W.objInit hx hb hown (ht _ kl_Stores_3) (ht _ ki_objectInit) (ht _ kc_objectInit) rfl (by rw [hml]; exact hl.1) rfl d_Stores_init_1 (Nat.le_of_ble_eq_true rfl) (Nat.le_of_ble_eq_true rfl) ?_
  refine W.eq (g2 := F0 m 4 ls []) rfl ?_
  refine lv_aload_n hx hb d_Stores_init_4 rfl (lv_at hl 0 rfl) ?_
  refine va_new (D := D) (ci := 0) (C := R_Rows) (T := T_Rows) (N := 4) (fs := [.int (nI 0), .null, .int (nI 0), .int (nI 0)]) hx hb ht in_Rows t_Rows ok_Rows hown (ht _ kl_Stores_9) (ht _ kt_Rows) (ht _ kn_Rows) hK hP hD hS hA rfl (fun j hj => by rcases nt_lt4 hj with rfl | rfl | rfl | rfl <;> rfl) (show 0 + 1 ≤ 16 by omega) (show 0 + 4 ≤ 396 by omega) d_Stores_init_5 (fun o5 H hP hD hS => ?_)
  rw [fl_add] at hP hD
  have hP : va_P D kls (List.flatten [[(h, .inr (3, [.null, .null, .null]))], [(o5, .inr (0, [.int (nI 0), .null, .int (nI 0), .int (nI 0)]))]]) H := hP
  have hD : va_D A (List.flatten [[(h, .inr (3, [.null, .null, .null]))], [(o5, .inr (0, [.int (nI 0), .null, .int (nI 0), .int (nI 0)]))]]) := hD
  refine lv_dup hx hb d_Stores_init_8 rfl ?_
  refine lv_bipush (v := nI 14) hx hb d_Stores_init_9 (by decide) ?_
  refine ct_callI (As := [.int (nI 14)]) (rest := [.ref o5, .ref h]) ⟨hx, hb, hml, hown, ht⟩ (k_Rows_init l D cI cZ cJ cG o5 14 (by decide) (by decide)) (cb_I ht kc_Rows_init kl_Stores_13 kn_Rows ki_Rows_init hd_Rows_init rfl ⟨Nat.le_of_ble_eq_true rfl, Nat.le_of_ble_eq_true rfl⟩) (wd_ct (Bs := [[(h, .inr (3, [.null, .null, .null]))], [(o5, .inr (0, [.int (nI 0), .null, .int (nI 0), .int (nI 0)]))]]) 2 rfl [1] [0] (by decide) (wd_1 _)) hK hP hD hS hA rfl hl.1 rfl (Nat.le_of_ble_eq_true rfl) ⟨(show (0 + 1) + 1 ≤ 16 by omega), (show (0 + 4) + (14 * 16) ≤ 396 by omega)⟩ d_Stores_init_11 (fun u1 H locs hu1 hP hD hS => ?_)
  have kA := hu1
  have hP := wd_nP (N := [u1]) (wd_1 _) 2 rfl [1, 0] (by decide) hP
  have hD := wd_nD (N := [u1]) (wd_1 _) 2 rfl [1, 0] (by decide) hD
  have hP : va_P D kls (List.flatten [[(h, .inr (3, [.null, .null, .null]))], u1]) H := hP
  have hD : va_D A (List.flatten [[(h, .inr (3, [.null, .null, .null]))], u1]) := hD
  refine W.eq (g2 := F0 m 14 ls [.ref o5, .ref h]) rfl ?_
  refine va_putF (D := D) (ci := 3) (v := .ref o5) (ty := (.object "BitNet$Rows")) (C := R_Stores) (T := T_Stores) (N := 3) hx hb ht in_Stores t_Stores ok_Stores nm_Stores hown hK hP hD hS 0 rfl rfl 0 (by decide) (ht _ kl_Stores_16) (fun _ h9 => h9) rfl hnm rfl (by decide +kernel) rfl rfl (Nat.le_of_ble_eq_true rfl) d_Stores_init_14 (fun H locs hP hD hS => ?_)
  have hP : va_P D kls (List.flatten [[(h, .inr (3, [.ref o5, .null, .null]))], u1]) H := hP
  have hD : va_D A (List.flatten [[(h, .inr (3, [.ref o5, .null, .null]))], u1]) := hD
  refine lv_aload_n hx hb d_Stores_init_17 rfl (lv_at hl 0 rfl) ?_
  refine lv_bipush (v := nI 12) hx hb d_Stores_init_18 (by decide) ?_
  refine lv_bipush (v := nI 12) hx hb d_Stores_init_20 (by decide) ?_
  refine ri_mna (k := 12) hx hb hown (ht _ kl_Stores_20) (hZ.1 _) (ht _ ka_int) hK hP hD hS hA (by decide) (show ((0 + 1) + 1) + 13 ≤ 16 by omega) (show ((0 + 4) + (14 * 16)) + (12 + 12 * 12) ≤ 396 by omega) d_Stores_init_22 (fun g22 r22 H hP hD hS => ?_)
  rw [fl_add2] at hP hD
  have hP := wd_rP 4 rfl [0, 2, 1, 3] (by decide) hP
  have hD := wd_rD 4 rfl [0, 2, 1, 3] (by decide) hD
  have hP : va_P D kls (List.flatten [[(h, .inr (3, [.ref o5, .null, .null]))], [(g22, .inl (cG, 12, .inr (.inr (.inr (.inr (go r22))))))], u1, gd cI 12 r22 (gN (fun _ _ => 0))]) H := hP
  have hD : va_D A (List.flatten [[(h, .inr (3, [.ref o5, .null, .null]))], [(g22, .inl (cG, 12, .inr (.inr (.inr (.inr (go r22))))))], u1, gd cI 12 r22 (gN (fun _ _ => 0))]) := hD
  refine va_putF (D := D) (ci := 3) (v := .ref g22) (ty := (.array (.array .int))) (C := R_Stores) (T := T_Stores) (N := 3) hx hb ht in_Stores t_Stores ok_Stores nm_Stores hown hK hP hD hS 0 rfl rfl 1 (by decide) (ht _ kl_Stores_22) (fun _ h9 => h9) rfl hnm rfl (by decide +kernel) rfl rfl (Nat.le_of_ble_eq_true rfl) d_Stores_init_26 (fun H locs hP hD hS => ?_)
  have hP : va_P D kls (List.flatten [[(h, .inr (3, [.ref o5, .ref g22, .null]))], [(g22, .inl (cG, 12, .inr (.inr (.inr (.inr (go r22))))))], u1, gd cI 12 r22 (gN (fun _ _ => 0))]) H := hP
  have hD : va_D A (List.flatten [[(h, .inr (3, [.ref o5, .ref g22, .null]))], [(g22, .inl (cG, 12, .inr (.inr (.inr (.inr (go r22))))))], u1, gd cI 12 r22 (gN (fun _ _ => 0))]) := hD
  refine lv_aload_n hx hb d_Stores_init_29 rfl (lv_at hl 0 rfl) ?_
  refine lv_bipush (v := nI 12) hx hb d_Stores_init_30 (by decide) ?_
  refine ri_newi hx hb (ht _ ka_int) hK hP hD hS hA 0 rfl (by omega) (show (((0 + 1) + 1) + 13) + 1 ≤ 16 by omega) (show (((0 + 4) + (14 * 16)) + (12 + 12 * 12)) + 12 ≤ 396 by omega) d_Stores_init_32 (fun q32 H hP hD hS => ?_)
  rw [fl_add] at hP hD
  have hP := wd_rP 5 rfl [0, 1, 4, 2, 3] (by decide) hP
  have hD := wd_rD 5 rfl [0, 1, 4, 2, 3] (by decide) hD
  have hP : va_P D kls (List.flatten [[(h, .inr (3, [.ref o5, .ref g22, .null]))], [(g22, .inl (cG, 12, .inr (.inr (.inr (.inr (go r22))))))], [(q32, .inl (cI, 12, .inl (fun _ => 0)))], u1, gd cI 12 r22 (gN (fun _ _ => 0))]) H := hP
  have hD : va_D A (List.flatten [[(h, .inr (3, [.ref o5, .ref g22, .null]))], [(g22, .inl (cG, 12, .inr (.inr (.inr (.inr (go r22))))))], [(q32, .inl (cI, 12, .inl (fun _ => 0)))], u1, gd cI 12 r22 (gN (fun _ _ => 0))]) := hD
  refine va_putF (D := D) (ci := 3) (v := .ref q32) (ty := (.array .int)) (C := R_Stores) (T := T_Stores) (N := 3) hx hb ht in_Stores t_Stores ok_Stores nm_Stores hown hK hP hD hS 0 rfl rfl 2 (by decide) (ht _ kl_Stores_25) (fun _ h9 => h9) rfl hnm rfl (by decide +kernel) rfl rfl (Nat.le_of_ble_eq_true rfl) d_Stores_init_34 (fun H locs hP hD hS => ?_)
  have hP : va_P D kls (List.flatten [[(h, .inr (3, [.ref o5, .ref g22, .ref q32]))], [(g22, .inl (cG, 12, .inr (.inr (.inr (.inr (go r22))))))], [(q32, .inl (cI, 12, .inl (fun _ => 0)))], u1, gd cI 12 r22 (gN (fun _ _ => 0))]) H := hP
  have hD : va_D A (List.flatten [[(h, .inr (3, [.ref o5, .ref g22, .ref q32]))], [(g22, .inl (cG, 12, .inr (.inr (.inr (.inr (go r22))))))], [(q32, .inl (cI, 12, .inl (fun _ => 0)))], u1, gd cI 12 r22 (gN (fun _ _ => 0))]) := hD
  refine lv_aload_n hx hb d_Stores_init_37 rfl (lv_at hl 0 rfl) ?_
  refine va_get (D := D) (ci := 3) (v := .ref o5) (C := R_Stores) (T := T_Stores) (N := 3) hx hb ht in_Stores hown hK hP 0 rfl rfl 0 (by decide) (ht _ kl_Stores_16) (fun _ h9 => h9) rfl d_Stores_init_38 ?_
  have kA0 := kA (fun _ _ => 0)
  obtain ⟨fsA, mA⟩ := kA0.mem
  refine ct_callVI (C := R_Rows) (ci := 0) (As := []) (rest := []) ⟨hx, hb, hml, hown, ht⟩ (k_Rows_add l D cI cZ cJ cG kA0 (by decide)) (cb_V ht kc_Rows_add kl_Stores_29 kn_Rows ki_Rows_add ks_Rows_add hd_Rows_add ⟨Nat.le_of_ble_eq_true rfl, Nat.le_of_ble_eq_true rfl⟩) (wd_mem 3 rfl mA) rfl rfl (wd_ct (Bs := [[(h, .inr (3, [.ref o5, .ref g22, .ref q32]))], [(g22, .inl (cG, 12, .inr (.inr (.inr (.inr (go r22))))))], [(q32, .inl (cI, 12, .inl (fun _ => 0)))], u1, gd cI 12 r22 (gN (fun _ _ => 0))]) 5 rfl [3] [0, 1, 2, 4] (by decide) (wd_1 _)) hK hP hD hS hA rfl hl.1 rfl (Nat.le_of_ble_eq_true rfl) ⟨(show ((((0 + 1) + 1) + 13) + 1) + 0 ≤ 16 by omega), (show ((((0 + 4) + (14 * 16)) + (12 + 12 * 12)) + 12) + 0 ≤ 396 by omega)⟩ d_Stores_init_41 (fun ru2 u2 H locs hu2 hP hD hS => ?_)
  obtain ⟨rfl, kB⟩ := hu2
  refine W.widen (k := (((0 + 1) + 1) + 13) + 1) (n := (((0 + 4) + (14 * 16)) + (12 + 12 * 12)) + 12) (Nat.le_refl _) (Nat.le_refl _) ?_
  have hP := wd_nP (N := [u2]) (wd_1 _) 5 rfl [1, 2, 3, 0, 4] (by decide) hP
  have hD := wd_nD (N := [u2]) (wd_1 _) 5 rfl [1, 2, 3, 0, 4] (by decide) hD
  have hP : va_P D kls (List.flatten [[(h, .inr (3, [.ref o5, .ref g22, .ref q32]))], [(g22, .inl (cG, 12, .inr (.inr (.inr (.inr (go r22))))))], [(q32, .inl (cI, 12, .inl (fun _ => 0)))], u2, gd cI 12 r22 (gN (fun _ _ => 0))]) H := hP
  have hD : va_D A (List.flatten [[(h, .inr (3, [.ref o5, .ref g22, .ref q32]))], [(g22, .inl (cG, 12, .inr (.inr (.inr (.inr (go r22))))))], [(q32, .inl (cI, 12, .inl (fun _ => 0)))], u2, gd cI 12 r22 (gN (fun _ _ => 0))]) := hD
  refine lv_pop hx hb d_Stores_init_44 rfl ?_
  have hP := wd_rP 5 rfl [0, 1, 2, 4, 3] (by decide) hP
  have hD := wd_rD 5 rfl [0, 1, 2, 4, 3] (by decide) hD
  have hP : va_P D kls (List.flatten [[(h, .inr (3, [.ref o5, .ref g22, .ref q32]))], [(g22, .inl (cG, 12, .inr (.inr (.inr (.inr (go r22))))))], [(q32, .inl (cI, 12, .inl (fun _ => 0)))], gd cI 12 r22 (gN (fun _ _ => 0)), u2]) H := hP
  have hD : va_D A (List.flatten [[(h, .inr (3, [.ref o5, .ref g22, .ref q32]))], [(g22, .inl (cG, 12, .inr (.inr (.inr (.inr (go r22))))))], [(q32, .inl (cI, 12, .inl (fun _ => 0)))], gd cI 12 r22 (gN (fun _ _ => 0)), u2]) := hD
  have kB2 : rw_R cI 14 16 1 (gN (fun _ _ => 0)) o5 u2 := rw_R.congr kB (fun a x ha hx => by show (if a = 0 then (fun _ => (0 : Int32)) else fun _ => 0) x = _; split <;> rfl)
  exact ct_vret hQ hx hb hr hlk hP hD hS hK (by omega) (by omega) d_Stores_init_45 (⟨o5, g22, q32, r22, u2, rfl, kB2⟩)
set_option maxHeartbeats 4000000 in
set_option maxRecDepth 100000 in
theorem k_Routes_init (l : Launch) (D : va_G) (cI cZ cJ cG : ClassId) (h aS aE : Nat)  : ct_N l D kls (ty4 cI cZ cJ cG) y_Routes_init ws_Routes_init (rm_ 1 12 30 360) [.ref h, .ref aS, .ref aE] ([(h, .inr (5, [.null, .null, .null, .null, .null, .null, .null, .null]))]) (fun u => ro_R cI cZ cG h aS aE (fun _ _ => 0) (fun _ => 0) u) 30 360 := by
  refine ct_enterN (cc := b_Routes_init) (maxL := 3) (ret := none) (by decide +kernel) (Nat.le_of_ble_eq_true rfl) ?_
  intro p e s m args below meth c hx hb hml hr ht hown hlk hnm A Q hA hK hP hD hQ ls hl hZ
  have hown : s.vm.findClass R_Routes = some m.cls := hown
  have hS : va_S A s.heap s.heap [] := va_S.rf
  have hl : lv_has ls 3 [(0, .ref h), (1, .ref aS), (2, .ref aE)] := hl
  have hP : va_P D kls (List.flatten [[(h, .inr (5, [.null, .null, .null, .null, .null, .null, .null, .null]))]]) s.heap := hP
  have hD : va_D A (List.flatten [[(h, .inr (5, [.null, .null, .null, .null, .null, .null, .null, .null]))]]) := hD
  refine lv_aload_n hx hb d_Routes_init_0 rfl (lv_at hl 0 rfl) ?_
  refine W.objInit hx hb hown (ht _ kl_Routes_3) (ht _ ki_objectInit) (ht _ kc_objectInit) rfl (by rw [hml]; exact hl.1) rfl d_Routes_init_1 (Nat.le_of_ble_eq_true rfl) (Nat.le_of_ble_eq_true rfl) ?_
  refine W.eq (g2 := F0 m 4 ls []) rfl ?_
  refine lv_aload_n hx hb d_Routes_init_4 rfl (lv_at hl 0 rfl) ?_
  refine lv_bipush (v := nI 12) hx hb d_Routes_init_5 (by decide) ?_
  refine lv_bipush (v := nI 12) hx hb d_Routes_init_7 (by decide) ?_
  refine ri_mna (k := 12) hx hb hown (ht _ kl_Routes_9) (hZ.1 _) (ht _ ka_int) hK hP hD hS hA (by decide) (show 0 + 13 ≤ 30 by omega) (show 0 + (12 + 12 * 12) ≤ 360 by omega) d_Routes_init_9 (fun g9 r9 H hP hD hS => ?_)
  rw [fl_add2] at hP hD
  have hP : va_P D kls (List.flatten [[(h, .inr (5, [.null, .null, .null, .null, .null, .null, .null, .null]))], [(g9, .inl (cG, 12, .inr (.inr (.inr (.inr (go r9))))))], gd cI 12 r9 (gN (fun _ _ => 0))]) H := hP
  have hD : va_D A (List.flatten [[(h, .inr (5, [.null, .null, .null, .null, .null, .null, .null, .null]))], [(g9, .inl (cG, 12, .inr (.inr (.inr (.inr (go r9))))))], gd cI 12 r9 (gN (fun _ _ => 0))]) := hD
  refine va_putF (D := D) (ci := 5) (v := .ref g9) (ty := (.array (.array .int))) (C := R_Routes) (T := T_Routes) (N := 8) hx hb ht in_Routes t_Routes ok_Routes nm_Routes hown hK hP hD hS 0 rfl rfl 2 (by decide) (ht _ kl_Routes_11) (fun _ h9 => h9) rfl hnm rfl (by decide +kernel) rfl rfl (Nat.le_of_ble_eq_true rfl) d_Routes_init_13 (fun H locs hP hD hS => ?_)
  have hP : va_P D kls (List.flatten [[(h, .inr (5, [.null, .null, .ref g9, .null, .null, .null, .null, .null]))], [(g9, .inl (cG, 12, .inr (.inr (.inr (.inr (go r9))))))], gd cI 12 r9 (gN (fun _ _ => 0))]) H := hP
  have hD : va_D A (List.flatten [[(h, .inr (5, [.null, .null, .ref g9, .null, .null, .null, .null, .null]))], [(g9, .inl (cG, 12, .inr (.inr (.inr (.inr (go r9))))))], gd cI 12 r9 (gN (fun _ _ => 0))]) := hD
  refine lv_aload_n hx hb d_Routes_init_16 rfl (lv_at hl 0 rfl) ?_
  refine lv_bipush (v := nI 12) hx hb d_Routes_init_17 (by decide) ?_
  refine ri_newi hx hb (ht _ ka_int) hK hP hD hS hA 0 rfl (by omega) (show (0 + 13) + 1 ≤ 30 by omega) (show (0 + (12 + 12 * 12)) + 12 ≤ 360 by omega) d_Routes_init_19 (fun q19 H hP hD hS => ?_)
  rw [fl_add] at hP hD
  have hP := wd_rP 4 rfl [0, 1, 3, 2] (by decide) hP
  have hD := wd_rD 4 rfl [0, 1, 3, 2] (by decide) hD
  have hP : va_P D kls (List.flatten [[(h, .inr (5, [.null, .null, .ref g9, .null, .null, .null, .null, .null]))], [(g9, .inl (cG, 12, .inr (.inr (.inr (.inr (go r9))))))], [(q19, .inl (cI, 12, .inl (fun _ => 0)))], gd cI 12 r9 (gN (fun _ _ => 0))]) H := hP
  have hD : va_D A (List.flatten [[(h, .inr (5, [.null, .null, .ref g9, .null, .null, .null, .null, .null]))], [(g9, .inl (cG, 12, .inr (.inr (.inr (.inr (go r9))))))], [(q19, .inl (cI, 12, .inl (fun _ => 0)))], gd cI 12 r9 (gN (fun _ _ => 0))]) := hD
  refine va_putF (D := D) (ci := 5) (v := .ref q19) (ty := (.array .int)) (C := R_Routes) (T := T_Routes) (N := 8) hx hb ht in_Routes t_Routes ok_Routes nm_Routes hown hK hP hD hS 0 rfl rfl 3 (by decide) (ht _ kl_Routes_16) (fun _ h9 => h9) rfl hnm rfl (by decide +kernel) rfl rfl (Nat.le_of_ble_eq_true rfl) d_Routes_init_21 (fun H locs hP hD hS => ?_)
  have hP : va_P D kls (List.flatten [[(h, .inr (5, [.null, .null, .ref g9, .ref q19, .null, .null, .null, .null]))], [(g9, .inl (cG, 12, .inr (.inr (.inr (.inr (go r9))))))], [(q19, .inl (cI, 12, .inl (fun _ => 0)))], gd cI 12 r9 (gN (fun _ _ => 0))]) H := hP
  have hD : va_D A (List.flatten [[(h, .inr (5, [.null, .null, .ref g9, .ref q19, .null, .null, .null, .null]))], [(g9, .inl (cG, 12, .inr (.inr (.inr (.inr (go r9))))))], [(q19, .inl (cI, 12, .inl (fun _ => 0)))], gd cI 12 r9 (gN (fun _ _ => 0))]) := hD
  refine lv_aload_n hx hb d_Routes_init_24 rfl (lv_at hl 0 rfl) ?_
  refine lv_bipush (v := nI 12) hx hb d_Routes_init_25 (by decide) ?_
  refine lv_bipush (v := nI 12) hx hb d_Routes_init_27 (by decide) ?_
  refine ri_mna (k := 12) hx hb hown (ht _ kl_Routes_9) (hZ.1 _) (ht _ ka_int) hK hP hD hS hA (by decide) (show ((0 + 13) + 1) + 13 ≤ 30 by omega) (show ((0 + (12 + 12 * 12)) + 12) + (12 + 12 * 12) ≤ 360 by omega) d_Routes_init_29 (fun g29 r29 H hP hD hS => ?_)
  rw [fl_add2] at hP hD
  have hP := wd_rP 6 rfl [0, 1, 2, 4, 3, 5] (by decide) hP
  have hD := wd_rD 6 rfl [0, 1, 2, 4, 3, 5] (by decide) hD
  have hP : va_P D kls (List.flatten [[(h, .inr (5, [.null, .null, .ref g9, .ref q19, .null, .null, .null, .null]))], [(g9, .inl (cG, 12, .inr (.inr (.inr (.inr (go r9))))))], [(q19, .inl (cI, 12, .inl (fun _ => 0)))], [(g29, .inl (cG, 12, .inr (.inr (.inr (.inr (go r29))))))], gd cI 12 r9 (gN (fun _ _ => 0)), gd cI 12 r29 (gN (fun _ _ => 0))]) H := hP
  have hD : va_D A (List.flatten [[(h, .inr (5, [.null, .null, .ref g9, .ref q19, .null, .null, .null, .null]))], [(g9, .inl (cG, 12, .inr (.inr (.inr (.inr (go r9))))))], [(q19, .inl (cI, 12, .inl (fun _ => 0)))], [(g29, .inl (cG, 12, .inr (.inr (.inr (.inr (go r29))))))], gd cI 12 r9 (gN (fun _ _ => 0)), gd cI 12 r29 (gN (fun _ _ => 0))]) := hD
  refine va_putF (D := D) (ci := 5) (v := .ref g29) (ty := (.array (.array .int))) (C := R_Routes) (T := T_Routes) (N := 8) hx hb ht in_Routes t_Routes ok_Routes nm_Routes hown hK hP hD hS 0 rfl rfl 4 (by decide) (ht _ kl_Routes_20) (fun _ h9 => h9) rfl hnm rfl (by decide +kernel) rfl rfl (Nat.le_of_ble_eq_true rfl) d_Routes_init_33 (fun H locs hP hD hS => ?_)
  have hP : va_P D kls (List.flatten [[(h, .inr (5, [.null, .null, .ref g9, .ref q19, .ref g29, .null, .null, .null]))], [(g9, .inl (cG, 12, .inr (.inr (.inr (.inr (go r9))))))], [(q19, .inl (cI, 12, .inl (fun _ => 0)))], [(g29, .inl (cG, 12, .inr (.inr (.inr (.inr (go r29))))))], gd cI 12 r9 (gN (fun _ _ => 0)), gd cI 12 r29 (gN (fun _ _ => 0))]) H := hP
  have hD : va_D A (List.flatten [[(h, .inr (5, [.null, .null, .ref g9, .ref q19, .ref g29, .null, .null, .null]))], [(g9, .inl (cG, 12, .inr (.inr (.inr (.inr (go r9))))))], [(q19, .inl (cI, 12, .inl (fun _ => 0)))], [(g29, .inl (cG, 12, .inr (.inr (.inr (.inr (go r29))))))], gd cI 12 r9 (gN (fun _ _ => 0)), gd cI 12 r29 (gN (fun _ _ => 0))]) := hD
  refine lv_aload_n hx hb d_Routes_init_36 rfl (lv_at hl 0 rfl) ?_
  refine lv_bipush (v := nI 12) hx hb d_Routes_init_37 (by decide) ?_
  refine ri_newi hx hb (ht _ ka_int) hK hP hD hS hA 0 rfl (by omega) (show (((0 + 13) + 1) + 13) + 1 ≤ 30 by omega) (show (((0 + (12 + 12 * 12)) + 12) + (12 + 12 * 12)) + 12 ≤ 360 by omega) d_Routes_init_39 (fun q39 H hP hD hS => ?_)
  rw [fl_add] at hP hD
  have hP := wd_rP 7 rfl [0, 1, 2, 3, 6, 4, 5] (by decide) hP
  have hD := wd_rD 7 rfl [0, 1, 2, 3, 6, 4, 5] (by decide) hD
  have hP : va_P D kls (List.flatten [[(h, .inr (5, [.null, .null, .ref g9, .ref q19, .ref g29, .null, .null, .null]))], [(g9, .inl (cG, 12, .inr (.inr (.inr (.inr (go r9))))))], [(q19, .inl (cI, 12, .inl (fun _ => 0)))], [(g29, .inl (cG, 12, .inr (.inr (.inr (.inr (go r29))))))], [(q39, .inl (cI, 12, .inl (fun _ => 0)))], gd cI 12 r9 (gN (fun _ _ => 0)), gd cI 12 r29 (gN (fun _ _ => 0))]) H := hP
  have hD : va_D A (List.flatten [[(h, .inr (5, [.null, .null, .ref g9, .ref q19, .ref g29, .null, .null, .null]))], [(g9, .inl (cG, 12, .inr (.inr (.inr (.inr (go r9))))))], [(q19, .inl (cI, 12, .inl (fun _ => 0)))], [(g29, .inl (cG, 12, .inr (.inr (.inr (.inr (go r29))))))], [(q39, .inl (cI, 12, .inl (fun _ => 0)))], gd cI 12 r9 (gN (fun _ _ => 0)), gd cI 12 r29 (gN (fun _ _ => 0))]) := hD
  refine va_putF (D := D) (ci := 5) (v := .ref q39) (ty := (.array .int)) (C := R_Routes) (T := T_Routes) (N := 8) hx hb ht in_Routes t_Routes ok_Routes nm_Routes hown hK hP hD hS 0 rfl rfl 5 (by decide) (ht _ kl_Routes_23) (fun _ h9 => h9) rfl hnm rfl (by decide +kernel) rfl rfl (Nat.le_of_ble_eq_true rfl) d_Routes_init_41 (fun H locs hP hD hS => ?_)
  have hP : va_P D kls (List.flatten [[(h, .inr (5, [.null, .null, .ref g9, .ref q19, .ref g29, .ref q39, .null, .null]))], [(g9, .inl (cG, 12, .inr (.inr (.inr (.inr (go r9))))))], [(q19, .inl (cI, 12, .inl (fun _ => 0)))], [(g29, .inl (cG, 12, .inr (.inr (.inr (.inr (go r29))))))], [(q39, .inl (cI, 12, .inl (fun _ => 0)))], gd cI 12 r9 (gN (fun _ _ => 0)), gd cI 12 r29 (gN (fun _ _ => 0))]) H := hP
  have hD : va_D A (List.flatten [[(h, .inr (5, [.null, .null, .ref g9, .ref q19, .ref g29, .ref q39, .null, .null]))], [(g9, .inl (cG, 12, .inr (.inr (.inr (.inr (go r9))))))], [(q19, .inl (cI, 12, .inl (fun _ => 0)))], [(g29, .inl (cG, 12, .inr (.inr (.inr (.inr (go r29))))))], [(q39, .inl (cI, 12, .inl (fun _ => 0)))], gd cI 12 r9 (gN (fun _ _ => 0)), gd cI 12 r29 (gN (fun _ _ => 0))]) := hD
  refine lv_aload_n hx hb d_Routes_init_44 rfl (lv_at hl 0 rfl) ?_
  refine lv_bipush (v := nI 12) hx hb d_Routes_init_45 (by decide) ?_
  refine ri_newi hx hb (ht _ ka_int) hK hP hD hS hA 0 rfl (by omega) (show ((((0 + 13) + 1) + 13) + 1) + 1 ≤ 30 by omega) (show ((((0 + (12 + 12 * 12)) + 12) + (12 + 12 * 12)) + 12) + 12 ≤ 360 by omega) d_Routes_init_47 (fun q47 H hP hD hS => ?_)
  rw [fl_add] at hP hD
  have hP := wd_rP 8 rfl [0, 1, 2, 3, 4, 7, 5, 6] (by decide) hP
  have hD := wd_rD 8 rfl [0, 1, 2, 3, 4, 7, 5, 6] (by decide) hD
  have hP : va_P D kls (List.flatten [[(h, .inr (5, [.null, .null, .ref g9, .ref q19, .ref g29, .ref q39, .null, .null]))], [(g9, .inl (cG, 12, .inr (.inr (.inr (.inr (go r9))))))], [(q19, .inl (cI, 12, .inl (fun _ => 0)))], [(g29, .inl (cG, 12, .inr (.inr (.inr (.inr (go r29))))))], [(q39, .inl (cI, 12, .inl (fun _ => 0)))], [(q47, .inl (cI, 12, .inl (fun _ => 0)))], gd cI 12 r9 (gN (fun _ _ => 0)), gd cI 12 r29 (gN (fun _ _ => 0))]) H := hP
  have hD : va_D A (List.flatten [[(h, .inr (5, [.null, .null, .ref g9, .ref q19, .ref g29, .ref q39, .null, .null]))], [(g9, .inl (cG, 12, .inr (.inr (.inr (.inr (go r9))))))], [(q19, .inl (cI, 12, .inl (fun _ => 0)))], [(g29, .inl (cG, 12, .inr (.inr (.inr (.inr (go r29))))))], [(q39, .inl (cI, 12, .inl (fun _ => 0)))], [(q47, .inl (cI, 12, .inl (fun _ => 0)))], gd cI 12 r9 (gN (fun _ _ => 0)), gd cI 12 r29 (gN (fun _ _ => 0))]) := hD
  refine va_putF (D := D) (ci := 5) (v := .ref q47) (ty := (.array .int)) (C := R_Routes) (T := T_Routes) (N := 8) hx hb ht in_Routes t_Routes ok_Routes nm_Routes hown hK hP hD hS 0 rfl rfl 6 (by decide) (ht _ kl_Routes_26) (fun _ h9 => h9) rfl hnm rfl (by decide +kernel) rfl rfl (Nat.le_of_ble_eq_true rfl) d_Routes_init_49 (fun H locs hP hD hS => ?_)
  have hP : va_P D kls (List.flatten [[(h, .inr (5, [.null, .null, .ref g9, .ref q19, .ref g29, .ref q39, .ref q47, .null]))], [(g9, .inl (cG, 12, .inr (.inr (.inr (.inr (go r9))))))], [(q19, .inl (cI, 12, .inl (fun _ => 0)))], [(g29, .inl (cG, 12, .inr (.inr (.inr (.inr (go r29))))))], [(q39, .inl (cI, 12, .inl (fun _ => 0)))], [(q47, .inl (cI, 12, .inl (fun _ => 0)))], gd cI 12 r9 (gN (fun _ _ => 0)), gd cI 12 r29 (gN (fun _ _ => 0))]) H := hP
  have hD : va_D A (List.flatten [[(h, .inr (5, [.null, .null, .ref g9, .ref q19, .ref g29, .ref q39, .ref q47, .null]))], [(g9, .inl (cG, 12, .inr (.inr (.inr (.inr (go r9))))))], [(q19, .inl (cI, 12, .inl (fun _ => 0)))], [(g29, .inl (cG, 12, .inr (.inr (.inr (.inr (go r29))))))], [(q39, .inl (cI, 12, .inl (fun _ => 0)))], [(q47, .inl (cI, 12, .inl (fun _ => 0)))], gd cI 12 r9 (gN (fun _ _ => 0)), gd cI 12 r29 (gN (fun _ _ => 0))]) := hD
  refine lv_aload_n hx hb d_Routes_init_52 rfl (lv_at hl 0 rfl) ?_
  refine lv_bipush (v := nI 12) hx hb d_Routes_init_53 (by decide) ?_
  refine ri_newz hx hb (ht _ ka_boolean) hK hP hD hS hA 1 rfl (by omega) (show (((((0 + 13) + 1) + 13) + 1) + 1) + 1 ≤ 30 by omega) (show (((((0 + (12 + 12 * 12)) + 12) + (12 + 12 * 12)) + 12) + 12) + 12 ≤ 360 by omega) d_Routes_init_55 (fun q55 H hP hD hS => ?_)
  rw [fl_add] at hP hD
  have hP := wd_rP 9 rfl [0, 1, 2, 3, 4, 5, 8, 6, 7] (by decide) hP
  have hD := wd_rD 9 rfl [0, 1, 2, 3, 4, 5, 8, 6, 7] (by decide) hD
  have hP : va_P D kls (List.flatten [[(h, .inr (5, [.null, .null, .ref g9, .ref q19, .ref g29, .ref q39, .ref q47, .null]))], [(g9, .inl (cG, 12, .inr (.inr (.inr (.inr (go r9))))))], [(q19, .inl (cI, 12, .inl (fun _ => 0)))], [(g29, .inl (cG, 12, .inr (.inr (.inr (.inr (go r29))))))], [(q39, .inl (cI, 12, .inl (fun _ => 0)))], [(q47, .inl (cI, 12, .inl (fun _ => 0)))], [(q55, .inl (cZ, 12, .inl (fun _ => 0)))], gd cI 12 r9 (gN (fun _ _ => 0)), gd cI 12 r29 (gN (fun _ _ => 0))]) H := hP
  have hD : va_D A (List.flatten [[(h, .inr (5, [.null, .null, .ref g9, .ref q19, .ref g29, .ref q39, .ref q47, .null]))], [(g9, .inl (cG, 12, .inr (.inr (.inr (.inr (go r9))))))], [(q19, .inl (cI, 12, .inl (fun _ => 0)))], [(g29, .inl (cG, 12, .inr (.inr (.inr (.inr (go r29))))))], [(q39, .inl (cI, 12, .inl (fun _ => 0)))], [(q47, .inl (cI, 12, .inl (fun _ => 0)))], [(q55, .inl (cZ, 12, .inl (fun _ => 0)))], gd cI 12 r9 (gN (fun _ _ => 0)), gd cI 12 r29 (gN (fun _ _ => 0))]) := hD
  refine va_putF (D := D) (ci := 5) (v := .ref q55) (ty := (.array .boolean)) (C := R_Routes) (T := T_Routes) (N := 8) hx hb ht in_Routes t_Routes ok_Routes nm_Routes hown hK hP hD hS 0 rfl rfl 7 (by decide) (ht _ kl_Routes_29) (fun _ h9 => h9) rfl hnm rfl (by decide +kernel) rfl rfl (Nat.le_of_ble_eq_true rfl) d_Routes_init_57 (fun H locs hP hD hS => ?_)
  have hP : va_P D kls (List.flatten [[(h, .inr (5, [.null, .null, .ref g9, .ref q19, .ref g29, .ref q39, .ref q47, .ref q55]))], [(g9, .inl (cG, 12, .inr (.inr (.inr (.inr (go r9))))))], [(q19, .inl (cI, 12, .inl (fun _ => 0)))], [(g29, .inl (cG, 12, .inr (.inr (.inr (.inr (go r29))))))], [(q39, .inl (cI, 12, .inl (fun _ => 0)))], [(q47, .inl (cI, 12, .inl (fun _ => 0)))], [(q55, .inl (cZ, 12, .inl (fun _ => 0)))], gd cI 12 r9 (gN (fun _ _ => 0)), gd cI 12 r29 (gN (fun _ _ => 0))]) H := hP
  have hD : va_D A (List.flatten [[(h, .inr (5, [.null, .null, .ref g9, .ref q19, .ref g29, .ref q39, .ref q47, .ref q55]))], [(g9, .inl (cG, 12, .inr (.inr (.inr (.inr (go r9))))))], [(q19, .inl (cI, 12, .inl (fun _ => 0)))], [(g29, .inl (cG, 12, .inr (.inr (.inr (.inr (go r29))))))], [(q39, .inl (cI, 12, .inl (fun _ => 0)))], [(q47, .inl (cI, 12, .inl (fun _ => 0)))], [(q55, .inl (cZ, 12, .inl (fun _ => 0)))], gd cI 12 r9 (gN (fun _ _ => 0)), gd cI 12 r29 (gN (fun _ _ => 0))]) := hD
  refine lv_aload_n hx hb d_Routes_init_60 rfl (lv_at hl 0 rfl) ?_
  refine lv_aload_n hx hb d_Routes_init_61 rfl (lv_at hl 1 rfl) ?_
  refine va_putF (D := D) (ci := 5) (v := .ref aS) (ty := (.object "BitNet$Stores")) (C := R_Routes) (T := T_Routes) (N := 8) hx hb ht in_Routes t_Routes ok_Routes nm_Routes hown hK hP hD hS 0 rfl rfl 0 (by decide) (ht _ kl_Routes_33) (fun _ h9 => h9) rfl hnm rfl (by decide +kernel) rfl rfl (Nat.le_of_ble_eq_true rfl) d_Routes_init_62 (fun H locs hP hD hS => ?_)
  have hP : va_P D kls (List.flatten [[(h, .inr (5, [.ref aS, .null, .ref g9, .ref q19, .ref g29, .ref q39, .ref q47, .ref q55]))], [(g9, .inl (cG, 12, .inr (.inr (.inr (.inr (go r9))))))], [(q19, .inl (cI, 12, .inl (fun _ => 0)))], [(g29, .inl (cG, 12, .inr (.inr (.inr (.inr (go r29))))))], [(q39, .inl (cI, 12, .inl (fun _ => 0)))], [(q47, .inl (cI, 12, .inl (fun _ => 0)))], [(q55, .inl (cZ, 12, .inl (fun _ => 0)))], gd cI 12 r9 (gN (fun _ _ => 0)), gd cI 12 r29 (gN (fun _ _ => 0))]) H := hP
  have hD : va_D A (List.flatten [[(h, .inr (5, [.ref aS, .null, .ref g9, .ref q19, .ref g29, .ref q39, .ref q47, .ref q55]))], [(g9, .inl (cG, 12, .inr (.inr (.inr (.inr (go r9))))))], [(q19, .inl (cI, 12, .inl (fun _ => 0)))], [(g29, .inl (cG, 12, .inr (.inr (.inr (.inr (go r29))))))], [(q39, .inl (cI, 12, .inl (fun _ => 0)))], [(q47, .inl (cI, 12, .inl (fun _ => 0)))], [(q55, .inl (cZ, 12, .inl (fun _ => 0)))], gd cI 12 r9 (gN (fun _ _ => 0)), gd cI 12 r29 (gN (fun _ _ => 0))]) := hD
  refine lv_aload_n hx hb d_Routes_init_65 rfl (lv_at hl 0 rfl) ?_
  refine lv_aload_n hx hb d_Routes_init_66 rfl (lv_at hl 2 rfl) ?_
  refine va_putF (D := D) (ci := 5) (v := .ref aE) (ty := (.object "BitNet$Edges")) (C := R_Routes) (T := T_Routes) (N := 8) hx hb ht in_Routes t_Routes ok_Routes nm_Routes hown hK hP hD hS 0 rfl rfl 1 (by decide) (ht _ kl_Routes_37) (fun _ h9 => h9) rfl hnm rfl (by decide +kernel) rfl rfl (Nat.le_of_ble_eq_true rfl) d_Routes_init_67 (fun H locs hP hD hS => ?_)
  have hP : va_P D kls (List.flatten [[(h, .inr (5, [.ref aS, .ref aE, .ref g9, .ref q19, .ref g29, .ref q39, .ref q47, .ref q55]))], [(g9, .inl (cG, 12, .inr (.inr (.inr (.inr (go r9))))))], [(q19, .inl (cI, 12, .inl (fun _ => 0)))], [(g29, .inl (cG, 12, .inr (.inr (.inr (.inr (go r29))))))], [(q39, .inl (cI, 12, .inl (fun _ => 0)))], [(q47, .inl (cI, 12, .inl (fun _ => 0)))], [(q55, .inl (cZ, 12, .inl (fun _ => 0)))], gd cI 12 r9 (gN (fun _ _ => 0)), gd cI 12 r29 (gN (fun _ _ => 0))]) H := hP
  have hD : va_D A (List.flatten [[(h, .inr (5, [.ref aS, .ref aE, .ref g9, .ref q19, .ref g29, .ref q39, .ref q47, .ref q55]))], [(g9, .inl (cG, 12, .inr (.inr (.inr (.inr (go r9))))))], [(q19, .inl (cI, 12, .inl (fun _ => 0)))], [(g29, .inl (cG, 12, .inr (.inr (.inr (.inr (go r29))))))], [(q39, .inl (cI, 12, .inl (fun _ => 0)))], [(q47, .inl (cI, 12, .inl (fun _ => 0)))], [(q55, .inl (cZ, 12, .inl (fun _ => 0)))], gd cI 12 r9 (gN (fun _ _ => 0)), gd cI 12 r29 (gN (fun _ _ => 0))]) := hD
  exact ct_vret hQ hx hb hr hlk hP hD hS hK (by omega) (by omega) d_Routes_init_70 (⟨g9, q19, g29, q39, q47, q55, r9, r29, fun _ _ => 0, fun _ => some 0, fun _ => 0, fun _ => false, rfl⟩)
