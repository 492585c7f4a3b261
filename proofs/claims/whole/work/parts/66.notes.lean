/-! Groups: notes. -/
set_option maxHeartbeats 4000000 in
set_option maxRecDepth 100000 in
theorem k_Groups_dropOldest (l : Launch) (D : va_G) (cI cZ cJ cG : ClassId) {h aE : Nat} {G : bm_G} {ws : va_W} (hR : gp_R cI cG h aE G ws) (g : Nat) (hg : g < 8) (hn : 0 < G.2.2.2.1.2.1) (hnf : 0 < G.2.2.2.2 g) : ct_V l D kls (ty4 cI cZ cJ cG) y_Groups_dropOldest ws_Groups_dropOldest (rm_ 1 20 0 0) [.ref h, .int (nI g)] (ws) (fun u => gp_R cI cG h aE (bm_gdrop g G) u) 0 0 := by
  obtain ⟨qi, qh, qn, g9, aN, rr, wN, rfl, kN⟩ := hR
  obtain ⟨fsN, mN⟩ := kN.mem
  have bN := kN.n
  refine ct_enterV (cc := b_Groups_dropOldest) (maxL := 2) (ret := none) (by decide +kernel) (Nat.le_of_ble_eq_true rfl) ?_
  intro p e s m args below meth c hx hb hml hr ht hown hlk hnm A Q hA hK hP hD hQ ls hl
  have hown : s.vm.findClass R_Groups = some m.cls := hown
  have hS : va_S A s.heap s.heap [] := va_S.rf
  have hl : lv_has ls 2 [(0, .ref h), (1, .int (nI g))] := hl
  refine lv_aload_n hx hb d_Groups_dropOldest_0 rfl (lv_at hl 0 rfl) ?_
  refine va_get (D := D) (ci := 7) (v := .ref aN) (C := R_Groups) (T := T_Groups) (N := 6) hx hb ht in_Groups hown hK hP 0 rfl rfl 5 (by decide) (ht _ kl_Groups_31) (fun _ h9 => h9) rfl d_Groups_dropOldest_1 ?_
  refine ct_callVV (C := R_Rows) (ci := 0) (As := []) (rest := []) ⟨hx, hb, hml, hown, ht⟩ (k_Rows_dropOldest l D cI cZ cJ cG kN hn) (cb_V ht kc_Rows_dropOldest kl_Groups_58 kn_Rows ki_Rows_dropOldest ks_Rows_dropOldest hd_Rows_dropOldest ⟨Nat.le_of_ble_eq_true rfl, Nat.le_of_ble_eq_true rfl⟩) (wd_mem 6 rfl mN) rfl rfl (wd_ct (Bs := [[(h, .inr (7, [.ref aE, .ref qi, .ref qh, .ref qn, .ref g9, .ref aN]))], [(qi, .inl (cI, 8, .inl (lI G.1)))], [(qh, .inl (cI, 8, .inl G.2.1))], [(qn, .inl (cI, 8, .inl (cN G.2.2.2.2)))], [(g9, .inl (cG, 12, .inr (.inr (.inr (.inr (go rr))))))], gd cI 8 rr (gN G.2.2.1), wN]) 7 rfl [6] [0, 1, 2, 3, 4, 5] (by decide) (wd_1 _)) hK hP hD hS hA rfl hl.1 rfl (Nat.le_of_ble_eq_true rfl) ⟨(show 0 + 0 ≤ 0 by omega), (show 0 + 0 ≤ 0 by omega)⟩ d_Groups_dropOldest_4 (fun u1 H locs hu1 hP hD hS => ?_)
  have kN2 := hu1
  refine W.widen (k := 0) (n := 0) (Nat.le_refl _) (Nat.le_refl _) ?_
  have hP := wd_nP (N := [u1]) (wd_1 _) 7 rfl [1, 2, 3, 4, 5, 6, 0] (by decide) hP
  have hD := wd_nD (N := [u1]) (wd_1 _) 7 rfl [1, 2, 3, 4, 5, 6, 0] (by decide) hD
  have hP : va_P D kls (List.flatten [[(h, .inr (7, [.ref aE, .ref qi, .ref qh, .ref qn, .ref g9, .ref aN]))], [(qi, .inl (cI, 8, .inl (lI G.1)))], [(qh, .inl (cI, 8, .inl G.2.1))], [(qn, .inl (cI, 8, .inl (cN G.2.2.2.2)))], [(g9, .inl (cG, 12, .inr (.inr (.inr (.inr (go rr))))))], gd cI 8 rr (gN G.2.2.1), u1]) H := hP
  have hD : va_D A (List.flatten [[(h, .inr (7, [.ref aE, .ref qi, .ref qh, .ref qn, .ref g9, .ref aN]))], [(qi, .inl (cI, 8, .inl (lI G.1)))], [(qh, .inl (cI, 8, .inl G.2.1))], [(qn, .inl (cI, 8, .inl (cN G.2.2.2.2)))], [(g9, .inl (cG, 12, .inr (.inr (.inr (.inr (go rr))))))], gd cI 8 rr (gN G.2.2.1), u1]) := hD
  refine W.eq (g2 := F0 m 7 ls []) rfl ?_
  refine lv_aload_n hx hb d_Groups_dropOldest_7 rfl (lv_at hl 0 rfl) ?_
  refine va_get (D := D) (ci := 7) (v := .ref qn) (C := R_Groups) (T := T_Groups) (N := 6) hx hb ht in_Groups hown hK hP 0 rfl rfl 3 (by decide) (ht _ kl_Groups_18) (fun _ h9 => h9) rfl d_Groups_dropOldest_8 ?_
  refine lv_iload_n hx hb d_Groups_dropOldest_11 rfl (lv_at hl 1 rfl) ?_
  refine lv_dup2_11 hx hb d_Groups_dropOldest_12 rfl rfl ?_
  refine ri_iald hx hb hK hP 3 0 rfl rfl (j := g) (by omega) (by omega) d_Groups_dropOldest_13 ?_
  refine W.eq (g2 := F0 m 14 ls [.int (nI (G.2.2.2.2 g)), .int (nI g), .ref qn]) rfl ?_
  refine lv_iconst (v := nI 1) hx hb d_Groups_dropOldest_14 (by decide) ?_
  refine ri_isub hx hb (by omega) d_Groups_dropOldest_15 ?_
  refine ri_iast hx hb hK hP hD hS 3 0 rfl rfl (j := g) (by omega) (by omega) d_Groups_dropOldest_16 (fun H locs hP hD hS => ?_)
  rw [cN_up] at hP hD
  have hP : va_P D kls (List.flatten [[(h, .inr (7, [.ref aE, .ref qi, .ref qh, .ref qn, .ref g9, .ref aN]))], [(qi, .inl (cI, 8, .inl (lI G.1)))], [(qh, .inl (cI, 8, .inl G.2.1))], [(qn, .inl (cI, 8, .inl (cN (bm_up1 G.2.2.2.2 g ((G.2.2.2.2 g) - 1)))))], [(g9, .inl (cG, 12, .inr (.inr (.inr (.inr (go rr))))))], gd cI 8 rr (gN G.2.2.1), u1]) H := hP
  have hD : va_D A (List.flatten [[(h, .inr (7, [.ref aE, .ref qi, .ref qh, .ref qn, .ref g9, .ref aN]))], [(qi, .inl (cI, 8, .inl (lI G.1)))], [(qh, .inl (cI, 8, .inl G.2.1))], [(qn, .inl (cI, 8, .inl (cN (bm_up1 G.2.2.2.2 g ((G.2.2.2.2 g) - 1)))))], [(g9, .inl (cG, 12, .inr (.inr (.inr (.inr (go rr))))))], gd cI 8 rr (gN G.2.2.1), u1]) := hD
  exact ct_vret hQ hx hb hr hlk hP hD hS hK (by omega) (by omega) d_Groups_dropOldest_17 (⟨qi, qh, qn, g9, aN, rr, u1, rfl, kN2⟩)
set_option maxHeartbeats 4000000 in
set_option maxRecDepth 100000 in
theorem k_Groups_tell (l : Launch) (D : va_G) (cI cZ cJ cG : ClassId) {h aE : Nat} {G : bm_G} {ws : va_W} {eb : Nat → Option Nat} {t9 n9 : Int32} {wE : va_W} (hR : gp_R cI cG h aE G ws) (kE : ed_R cI aE eb t9 n9 wE) (e9 g : Nat) (he : e9 < 12) (hg : g < 8) (hrc : ∀ a b, G.2.2.1 a b < 2147483648) (hc : G.2.2.2.1.1 ≤ 50000) : ct_V l D kls (ty4 cI cZ cJ cG) y_Groups_tell ws_Groups_tell (rm_ 3 73 ((bm_push G.2.2.2.1 (bm_ntrow eb G.2.2.1 e9 g)).1 - G.2.2.2.1.1) (2 * 3 * ((bm_push G.2.2.2.1 (bm_ntrow eb G.2.2.1 e9 g)).1 - G.2.2.2.1.1))) [.ref h, .int (nI e9), .int (nI g)] (List.flatten [ws, wE]) (fun u => ∃ wG, u = List.flatten [wG, wE] ∧ gp_R cI cG h aE (bm_tell eb e9 g G) wG) ((bm_push G.2.2.2.1 (bm_ntrow eb G.2.2.1 e9 g)).1 - G.2.2.2.1.1) (2 * 3 * ((bm_push G.2.2.2.1 (bm_ntrow eb G.2.2.1 e9 g)).1 - G.2.2.2.1.1)) := by
  obtain ⟨qi, qh, qn, g9, aN, rr, wN, rfl, kN⟩ := hR
  obtain ⟨fsN, mN⟩ := kN.mem
  have bN := kN.n
  obtain ⟨fsE, mE⟩ := kE.mem
  refine ct_enterV (cc := b_Groups_tell) (maxL := 4) (ret := none) (by decide +kernel) (Nat.le_of_ble_eq_true rfl) ?_
  intro p e s m args below meth c hx hb hml hr ht hown hlk hnm A Q hA hK hP hD hQ ls hl
  have hown : s.vm.findClass R_Groups = some m.cls := hown
  have hS : va_S A s.heap s.heap [] := va_S.rf
  have hl : lv_has ls 4 [(0, .ref h), (1, .int (nI e9)), (2, .int (nI g))] := hl
  rw [fl_exp] at hP hD
  have hP : va_P D kls (List.flatten [[(h, .inr (7, [.ref aE, .ref qi, .ref qh, .ref qn, .ref g9, .ref aN]))], [(qi, .inl (cI, 8, .inl (lI G.1)))], [(qh, .inl (cI, 8, .inl G.2.1))], [(qn, .inl (cI, 8, .inl (cN G.2.2.2.2)))], [(g9, .inl (cG, 12, .inr (.inr (.inr (.inr (go rr))))))], gd cI 8 rr (gN G.2.2.1), wN, wE]) s.heap := hP
  have hD : va_D A (List.flatten [[(h, .inr (7, [.ref aE, .ref qi, .ref qh, .ref qn, .ref g9, .ref aN]))], [(qi, .inl (cI, 8, .inl (lI G.1)))], [(qh, .inl (cI, 8, .inl G.2.1))], [(qn, .inl (cI, 8, .inl (cN G.2.2.2.2)))], [(g9, .inl (cG, 12, .inr (.inr (.inr (.inr (go rr))))))], gd cI 8 rr (gN G.2.2.1), wN, wE]) := hD
  refine lv_aload_n hx hb d_Groups_tell_0 rfl (lv_at hl 0 rfl) ?_
  refine va_get (D := D) (ci := 7) (v := .ref aN) (C := R_Groups) (T := T_Groups) (N := 6) hx hb ht in_Groups hown hK hP 0 rfl rfl 5 (by decide) (ht _ kl_Groups_31) (fun _ h9 => h9) rfl d_Groups_tell_1 ?_
  refine ct_callVI (C := R_Rows) (ci := 0) (As := []) (rest := []) ⟨hx, hb, hml, hown, ht⟩ (k_Rows_add l D cI cZ cJ cG kN hc) (cb_V ht kc_Rows_add kl_Groups_60 kn_Rows ki_Rows_add ks_Rows_add hd_Rows_add ⟨Nat.le_of_ble_eq_true rfl, Nat.le_of_ble_eq_true rfl⟩) (wd_mem 6 rfl mN) rfl rfl (wd_ct (Bs := [[(h, .inr (7, [.ref aE, .ref qi, .ref qh, .ref qn, .ref g9, .ref aN]))], [(qi, .inl (cI, 8, .inl (lI G.1)))], [(qh, .inl (cI, 8, .inl G.2.1))], [(qn, .inl (cI, 8, .inl (cN G.2.2.2.2)))], [(g9, .inl (cG, 12, .inr (.inr (.inr (.inr (go rr))))))], gd cI 8 rr (gN G.2.2.1), wN, wE]) 8 rfl [6] [0, 1, 2, 3, 4, 5, 7] (by decide) (wd_1 _)) hK hP hD hS hA rfl hl.1 rfl (Nat.le_of_ble_eq_true rfl) ⟨(by simp only [Nat.add_zero, Nat.zero_add]; exact Nat.le_refl _), (by simp only [Nat.add_zero, Nat.zero_add]; exact Nat.le_refl _)⟩ d_Groups_tell_4 (fun ru1 u1 H locs hu1 hP hD hS => ?_)
  obtain ⟨rfl, kA⟩ := hu1
  obtain ⟨fsA, mA⟩ := kA.mem
  refine W.widen (k := (bm_push G.2.2.2.1 (bm_ntrow eb G.2.2.1 e9 g)).1 - G.2.2.2.1.1) (n := 2 * 3 * ((bm_push G.2.2.2.1 (bm_ntrow eb G.2.2.1 e9 g)).1 - G.2.2.2.1.1)) (Nat.le_of_eq (Nat.zero_add _)) (Nat.le_of_eq (Nat.zero_add _)) ?_
  have hP := wd_nP (N := [u1]) (wd_1 _) 8 rfl [1, 2, 3, 4, 5, 6, 0, 7] (by decide) hP
  have hD := wd_nD (N := [u1]) (wd_1 _) 8 rfl [1, 2, 3, 4, 5, 6, 0, 7] (by decide) hD
  have hP : va_P D kls (List.flatten [[(h, .inr (7, [.ref aE, .ref qi, .ref qh, .ref qn, .ref g9, .ref aN]))], [(qi, .inl (cI, 8, .inl (lI G.1)))], [(qh, .inl (cI, 8, .inl G.2.1))], [(qn, .inl (cI, 8, .inl (cN G.2.2.2.2)))], [(g9, .inl (cG, 12, .inr (.inr (.inr (.inr (go rr))))))], gd cI 8 rr (gN G.2.2.1), u1, wE]) H := hP
  have hD : va_D A (List.flatten [[(h, .inr (7, [.ref aE, .ref qi, .ref qh, .ref qn, .ref g9, .ref aN]))], [(qi, .inl (cI, 8, .inl (lI G.1)))], [(qh, .inl (cI, 8, .inl G.2.1))], [(qn, .inl (cI, 8, .inl (cN G.2.2.2.2)))], [(g9, .inl (cG, 12, .inr (.inr (.inr (.inr (go rr))))))], gd cI 8 rr (gN G.2.2.1), u1, wE]) := hD
  refine lv_istore_n hx hb d_Groups_tell_7 rfl hl (by decide) rfl (fun ls hl => ?_)
  have hl : lv_has ls 4 [(3, .int (nI G.2.2.2.1.2.1)), (0, .ref h), (1, .int (nI e9)), (2, .int (nI g))] := hl
  refine lv_aload_n hx hb d_Groups_tell_8 rfl (lv_at hl 1 rfl) ?_
  refine va_get (D := D) (ci := 7) (v := .ref aN) (C := R_Groups) (T := T_Groups) (N := 6) hx hb ht in_Groups hown hK hP 0 rfl rfl 5 (by decide) (ht _ kl_Groups_31) (fun _ h9 => h9) rfl d_Groups_tell_9 ?_
  refine lv_iload_n hx hb d_Groups_tell_12 rfl (lv_at hl 0 rfl) ?_
  refine lv_iconst (v := nI 0) hx hb d_Groups_tell_13 (by decide) ?_
  refine lv_iload_n hx hb d_Groups_tell_14 rfl (lv_at hl 3 rfl) ?_
  refine ct_callVV (C := R_Rows) (ci := 0) (As := [.int (nI G.2.2.2.1.2.1), .int (nI 0), .int (nI g)]) (rest := []) ⟨hx, hb, hml, hown, ht⟩ (k_Rows_set l D cI cZ cJ cG kA (G.2.2.2.1.2.1) 0 (nI g) (by omega) (by omega)) (cb_V ht kc_Rows_set kl_Groups_63 kn_Rows ki_Rows_set ks_Rows_set hd_Rows_set ⟨Nat.le_of_ble_eq_true rfl, Nat.le_of_ble_eq_true rfl⟩) (wd_mem 6 rfl mA) rfl rfl (wd_ct (Bs := [[(h, .inr (7, [.ref aE, .ref qi, .ref qh, .ref qn, .ref g9, .ref aN]))], [(qi, .inl (cI, 8, .inl (lI G.1)))], [(qh, .inl (cI, 8, .inl G.2.1))], [(qn, .inl (cI, 8, .inl (cN G.2.2.2.2)))], [(g9, .inl (cG, 12, .inr (.inr (.inr (.inr (go rr))))))], gd cI 8 rr (gN G.2.2.1), u1, wE]) 8 rfl [6] [0, 1, 2, 3, 4, 5, 7] (by decide) (wd_1 _)) hK hP hD hS hA rfl hl.1 rfl (Nat.le_of_ble_eq_true rfl) ⟨(by simp only [Nat.add_zero, Nat.zero_add]; exact Nat.le_refl _), (by simp only [Nat.add_zero, Nat.zero_add]; exact Nat.le_refl _)⟩ d_Groups_tell_15 (fun u2 H locs hu2 hP hD hS => ?_)
  have kB := hu2
  obtain ⟨fskB, mB⟩ := kB.mem
  refine W.widen (k := (bm_push G.2.2.2.1 (bm_ntrow eb G.2.2.1 e9 g)).1 - G.2.2.2.1.1) (n := 2 * 3 * ((bm_push G.2.2.2.1 (bm_ntrow eb G.2.2.1 e9 g)).1 - G.2.2.2.1.1)) (Nat.le_refl _) (Nat.le_refl _) ?_
  have hP := wd_nP (N := [u2]) (wd_1 _) 8 rfl [1, 2, 3, 4, 5, 6, 0, 7] (by decide) hP
  have hD := wd_nD (N := [u2]) (wd_1 _) 8 rfl [1, 2, 3, 4, 5, 6, 0, 7] (by decide) hD
  have hP : va_P D kls (List.flatten [[(h, .inr (7, [.ref aE, .ref qi, .ref qh, .ref qn, .ref g9, .ref aN]))], [(qi, .inl (cI, 8, .inl (lI G.1)))], [(qh, .inl (cI, 8, .inl G.2.1))], [(qn, .inl (cI, 8, .inl (cN G.2.2.2.2)))], [(g9, .inl (cG, 12, .inr (.inr (.inr (.inr (go rr))))))], gd cI 8 rr (gN G.2.2.1), u2, wE]) H := hP
  have hD : va_D A (List.flatten [[(h, .inr (7, [.ref aE, .ref qi, .ref qh, .ref qn, .ref g9, .ref aN]))], [(qi, .inl (cI, 8, .inl (lI G.1)))], [(qh, .inl (cI, 8, .inl G.2.1))], [(qn, .inl (cI, 8, .inl (cN G.2.2.2.2)))], [(g9, .inl (cG, 12, .inr (.inr (.inr (.inr (go rr))))))], gd cI 8 rr (gN G.2.2.1), u2, wE]) := hD
  refine W.eq (g2 := F0 m 18 ls []) rfl ?_
  refine lv_aload_n hx hb d_Groups_tell_18 rfl (lv_at hl 1 rfl) ?_
  refine va_get (D := D) (ci := 7) (v := .ref aN) (C := R_Groups) (T := T_Groups) (N := 6) hx hb ht in_Groups hown hK hP 0 rfl rfl 5 (by decide) (ht _ kl_Groups_31) (fun _ h9 => h9) rfl d_Groups_tell_19 ?_
  refine lv_iload_n hx hb d_Groups_tell_22 rfl (lv_at hl 0 rfl) ?_
  refine lv_iconst (v := nI 1) hx hb d_Groups_tell_23 (by decide) ?_
  refine lv_aload_n hx hb d_Groups_tell_24 rfl (lv_at hl 1 rfl) ?_
  refine va_get (D := D) (ci := 7) (v := .ref aE) (C := R_Groups) (T := T_Groups) (N := 6) hx hb ht in_Groups hown hK hP 0 rfl rfl 0 (by decide) (ht _ kl_Groups_35) (fun _ h9 => h9) rfl d_Groups_tell_25 ?_
  refine lv_iload_n hx hb d_Groups_tell_28 rfl (lv_at hl 2 rfl) ?_
  refine ct_rdV (C := R_Edges) (ci := 1) (As := [.int (nI e9)]) (rest := [.int (nI 1), .int (nI G.2.2.2.1.2.1), .ref aN]) ⟨hx, hb, hml, hown, ht⟩ (k_Edges_bitOf l D cI cZ cJ cG kE e9 he) (cb_V ht kc_Edges_bitOf kl_Groups_67 kn_Edges ki_Edges_bitOf ks_Edges_bitOf hd_Edges_bitOf ⟨Nat.le_of_ble_eq_true rfl, Nat.le_of_ble_eq_true rfl⟩) (wd_mem 7 rfl mE) rfl rfl (wd_ct (Bs := [[(h, .inr (7, [.ref aE, .ref qi, .ref qh, .ref qn, .ref g9, .ref aN]))], [(qi, .inl (cI, 8, .inl (lI G.1)))], [(qh, .inl (cI, 8, .inl G.2.1))], [(qn, .inl (cI, 8, .inl (cN G.2.2.2.2)))], [(g9, .inl (cG, 12, .inr (.inr (.inr (.inr (go rr))))))], gd cI 8 rr (gN G.2.2.1), u2, wE]) 8 rfl [7] [0, 1, 2, 3, 4, 5, 6] (by decide) (wd_1 _)) hK hP hD hS hA rfl hl.1 rfl (Nat.le_of_ble_eq_true rfl) ⟨(show ((bm_push G.2.2.2.1 (bm_ntrow eb G.2.2.1 e9 g)).1 - G.2.2.2.1.1) + 0 ≤ ((bm_push G.2.2.2.1 (bm_ntrow eb G.2.2.1 e9 g)).1 - G.2.2.2.1.1) by omega), (show (2 * 3 * ((bm_push G.2.2.2.1 (bm_ntrow eb G.2.2.1 e9 g)).1 - G.2.2.2.1.1)) + 0 ≤ (2 * 3 * ((bm_push G.2.2.2.1 (bm_ntrow eb G.2.2.1 e9 g)).1 - G.2.2.2.1.1)) by omega)⟩ d_Groups_tell_29 (fun rhr3 H locs hr3 hP hD hS => ?_)
  subst hr3
  refine ct_callVV (C := R_Rows) (ci := 0) (As := [.int (nI G.2.2.2.1.2.1), .int (nI 1), .int (bm_em (eb e9))]) (rest := []) ⟨hx, hb, hml, hown, ht⟩ (k_Rows_set l D cI cZ cJ cG kB (G.2.2.2.1.2.1) 1 (bm_em (eb e9)) (by omega) (by omega)) (cb_V ht kc_Rows_set kl_Groups_63 kn_Rows ki_Rows_set ks_Rows_set hd_Rows_set ⟨Nat.le_of_ble_eq_true rfl, Nat.le_of_ble_eq_true rfl⟩) (wd_mem 6 rfl mB) rfl rfl (wd_ct (Bs := [[(h, .inr (7, [.ref aE, .ref qi, .ref qh, .ref qn, .ref g9, .ref aN]))], [(qi, .inl (cI, 8, .inl (lI G.1)))], [(qh, .inl (cI, 8, .inl G.2.1))], [(qn, .inl (cI, 8, .inl (cN G.2.2.2.2)))], [(g9, .inl (cG, 12, .inr (.inr (.inr (.inr (go rr))))))], gd cI 8 rr (gN G.2.2.1), u2, wE]) 8 rfl [6] [0, 1, 2, 3, 4, 5, 7] (by decide) (wd_1 _)) hK hP hD hS hA rfl hl.1 rfl (Nat.le_of_ble_eq_true rfl) ⟨(by simp only [Nat.add_zero, Nat.zero_add]; exact Nat.le_refl _), (by simp only [Nat.add_zero, Nat.zero_add]; exact Nat.le_refl _)⟩ d_Groups_tell_32 (fun u4 H locs hu4 hP hD hS => ?_)
  have kC := hu4
  obtain ⟨fskC, mC⟩ := kC.mem
  refine W.widen (k := (bm_push G.2.2.2.1 (bm_ntrow eb G.2.2.1 e9 g)).1 - G.2.2.2.1.1) (n := 2 * 3 * ((bm_push G.2.2.2.1 (bm_ntrow eb G.2.2.1 e9 g)).1 - G.2.2.2.1.1)) (Nat.le_refl _) (Nat.le_refl _) ?_
  have hP := wd_nP (N := [u4]) (wd_1 _) 8 rfl [1, 2, 3, 4, 5, 6, 0, 7] (by decide) hP
  have hD := wd_nD (N := [u4]) (wd_1 _) 8 rfl [1, 2, 3, 4, 5, 6, 0, 7] (by decide) hD
  have hP : va_P D kls (List.flatten [[(h, .inr (7, [.ref aE, .ref qi, .ref qh, .ref qn, .ref g9, .ref aN]))], [(qi, .inl (cI, 8, .inl (lI G.1)))], [(qh, .inl (cI, 8, .inl G.2.1))], [(qn, .inl (cI, 8, .inl (cN G.2.2.2.2)))], [(g9, .inl (cG, 12, .inr (.inr (.inr (.inr (go rr))))))], gd cI 8 rr (gN G.2.2.1), u4, wE]) H := hP
  have hD : va_D A (List.flatten [[(h, .inr (7, [.ref aE, .ref qi, .ref qh, .ref qn, .ref g9, .ref aN]))], [(qi, .inl (cI, 8, .inl (lI G.1)))], [(qh, .inl (cI, 8, .inl G.2.1))], [(qn, .inl (cI, 8, .inl (cN G.2.2.2.2)))], [(g9, .inl (cG, 12, .inr (.inr (.inr (.inr (go rr))))))], gd cI 8 rr (gN G.2.2.1), u4, wE]) := hD
  refine W.eq (g2 := F0 m 35 ls []) rfl ?_
  refine lv_aload_n hx hb d_Groups_tell_35 rfl (lv_at hl 1 rfl) ?_
  refine va_get (D := D) (ci := 7) (v := .ref aN) (C := R_Groups) (T := T_Groups) (N := 6) hx hb ht in_Groups hown hK hP 0 rfl rfl 5 (by decide) (ht _ kl_Groups_31) (fun _ h9 => h9) rfl d_Groups_tell_36 ?_
  refine lv_iload_n hx hb d_Groups_tell_39 rfl (lv_at hl 0 rfl) ?_
  refine lv_iconst (v := nI 2) hx hb d_Groups_tell_40 (by decide) ?_
  refine lv_aload_n hx hb d_Groups_tell_41 rfl (lv_at hl 1 rfl) ?_
  refine va_get (D := D) (ci := 7) (v := .ref g9) (C := R_Groups) (T := T_Groups) (N := 6) hx hb ht in_Groups hown hK hP 0 rfl rfl 4 (by decide) (ht _ kl_Groups_23) (fun _ h9 => h9) rfl d_Groups_tell_42 ?_
  refine lv_iload_n hx hb d_Groups_tell_45 rfl (lv_at hl 2 rfl) ?_
  refine ri_aald hx hb hK hP 4 3 rfl rfl (j := e9) (by omega) (by omega) (go_at (by omega)) d_Groups_tell_46 ?_
  refine lv_iload_n hx hb d_Groups_tell_47 rfl (lv_at hl 3 rfl) ?_
  refine ri_gld hx hb hK hP 5 0 rfl rfl (i := e9) (j := g) he hg (by decide) d_Groups_tell_48 ?_
  refine W.eq (g2 := F0 m 49 ls [.int (nI (G.2.2.1 e9 g)), .int (nI 2), .int (nI G.2.2.2.1.2.1), .ref aN]) rfl ?_
  refine ri_if_le hx hb (hrc _ _) d_Groups_tell_49 (tgt := 56) (by decide) (fun h1 => ?_) (fun h1 => ?_)
  · refine lv_iconst (v := nI 0) hx hb d_Groups_tell_56 (by decide) ?_
    refine ct_callVV (C := R_Rows) (ci := 0) (As := [.int (nI G.2.2.2.1.2.1), .int (nI 2), .int (nI 0)]) (rest := []) ⟨hx, hb, hml, hown, ht⟩ (k_Rows_set l D cI cZ cJ cG kC (G.2.2.2.1.2.1) 2 (nI 0) (by omega) (by omega)) (cb_V ht kc_Rows_set kl_Groups_63 kn_Rows ki_Rows_set ks_Rows_set hd_Rows_set ⟨Nat.le_of_ble_eq_true rfl, Nat.le_of_ble_eq_true rfl⟩) (wd_mem 6 rfl mC) rfl rfl (wd_ct (Bs := [[(h, .inr (7, [.ref aE, .ref qi, .ref qh, .ref qn, .ref g9, .ref aN]))], [(qi, .inl (cI, 8, .inl (lI G.1)))], [(qh, .inl (cI, 8, .inl G.2.1))], [(qn, .inl (cI, 8, .inl (cN G.2.2.2.2)))], [(g9, .inl (cG, 12, .inr (.inr (.inr (.inr (go rr))))))], gd cI 8 rr (gN G.2.2.1), u4, wE]) 8 rfl [6] [0, 1, 2, 3, 4, 5, 7] (by decide) (wd_1 _)) hK hP hD hS hA rfl hl.1 rfl (Nat.le_of_ble_eq_true rfl) ⟨(by simp only [Nat.add_zero, Nat.zero_add]; exact Nat.le_refl _), (by simp only [Nat.add_zero, Nat.zero_add]; exact Nat.le_refl _)⟩ d_Groups_tell_57 (fun u6 H locs hu6 hP hD hS => ?_)
    have kD := hu6
    obtain ⟨fskD, mD⟩ := kD.mem
    refine W.widen (k := (bm_push G.2.2.2.1 (bm_ntrow eb G.2.2.1 e9 g)).1 - G.2.2.2.1.1) (n := 2 * 3 * ((bm_push G.2.2.2.1 (bm_ntrow eb G.2.2.1 e9 g)).1 - G.2.2.2.1.1)) (Nat.le_refl _) (Nat.le_refl _) ?_
    have hP := wd_nP (N := [u6]) (wd_1 _) 8 rfl [1, 2, 3, 4, 5, 6, 0, 7] (by decide) hP
    have hD := wd_nD (N := [u6]) (wd_1 _) 8 rfl [1, 2, 3, 4, 5, 6, 0, 7] (by decide) hD
    have hP : va_P D kls (List.flatten [[(h, .inr (7, [.ref aE, .ref qi, .ref qh, .ref qn, .ref g9, .ref aN]))], [(qi, .inl (cI, 8, .inl (lI G.1)))], [(qh, .inl (cI, 8, .inl G.2.1))], [(qn, .inl (cI, 8, .inl (cN G.2.2.2.2)))], [(g9, .inl (cG, 12, .inr (.inr (.inr (.inr (go rr))))))], gd cI 8 rr (gN G.2.2.1), u6, wE]) H := hP
    have hD : va_D A (List.flatten [[(h, .inr (7, [.ref aE, .ref qi, .ref qh, .ref qn, .ref g9, .ref aN]))], [(qi, .inl (cI, 8, .inl (lI G.1)))], [(qh, .inl (cI, 8, .inl G.2.1))], [(qn, .inl (cI, 8, .inl (cN G.2.2.2.2)))], [(g9, .inl (cG, 12, .inr (.inr (.inr (.inr (go rr))))))], gd cI 8 rr (gN G.2.2.1), u6, wE]) := hD
    refine W.eq (g2 := F0 m 60 ls []) rfl ?_
    refine lv_aload_n hx hb d_Groups_tell_60 rfl (lv_at hl 1 rfl) ?_
    refine va_get (D := D) (ci := 7) (v := .ref qn) (C := R_Groups) (T := T_Groups) (N := 6) hx hb ht in_Groups hown hK hP 0 rfl rfl 3 (by decide) (ht _ kl_Groups_18) (fun _ h9 => h9) rfl d_Groups_tell_61 ?_
    refine lv_iload_n hx hb d_Groups_tell_64 rfl (lv_at hl 3 rfl) ?_
    refine lv_dup2_11 hx hb d_Groups_tell_65 rfl rfl ?_
    refine ri_iald hx hb hK hP 3 0 rfl rfl (j := g) (by omega) (by omega) d_Groups_tell_66 ?_
    refine W.eq (g2 := F0 m 67 ls [.int (nI (G.2.2.2.2 g)), .int (nI g), .ref qn]) rfl ?_
    refine lv_iconst (v := nI 1) hx hb d_Groups_tell_67 (by decide) ?_
    refine ri_iadd hx hb d_Groups_tell_68 ?_
    refine ri_iast hx hb hK hP hD hS 3 0 rfl rfl (j := g) (by omega) (by omega) d_Groups_tell_69 (fun H locs hP hD hS => ?_)
    rw [cN_up] at hP hD
    have hP : va_P D kls (List.flatten [[(h, .inr (7, [.ref aE, .ref qi, .ref qh, .ref qn, .ref g9, .ref aN]))], [(qi, .inl (cI, 8, .inl (lI G.1)))], [(qh, .inl (cI, 8, .inl G.2.1))], [(qn, .inl (cI, 8, .inl (cN (bm_up1 G.2.2.2.2 g ((G.2.2.2.2 g) + 1)))))], [(g9, .inl (cG, 12, .inr (.inr (.inr (.inr (go rr))))))], gd cI 8 rr (gN G.2.2.1), u6, wE]) H := hP
    have hD : va_D A (List.flatten [[(h, .inr (7, [.ref aE, .ref qi, .ref qh, .ref qn, .ref g9, .ref aN]))], [(qi, .inl (cI, 8, .inl (lI G.1)))], [(qh, .inl (cI, 8, .inl G.2.1))], [(qn, .inl (cI, 8, .inl (cN (bm_up1 G.2.2.2.2 g ((G.2.2.2.2 g) + 1)))))], [(g9, .inl (cG, 12, .inr (.inr (.inr (.inr (go rr))))))], gd cI 8 rr (gN G.2.2.1), u6, wE]) := hD
    have hend : rw_R cI 3 (bm_push G.2.2.2.1 (bm_ntrow eb G.2.2.1 e9 g)).1 (bm_push G.2.2.2.1 (bm_ntrow eb G.2.2.1 e9 g)).2.1 (bm_push G.2.2.2.1 (bm_ntrow eb G.2.2.1 e9 g)).2.2 aN u6 := by
      refine rw_R.congr kD (fun a x ha hx => ?_)
      have ha : a < G.2.2.2.1.2.1 + 1 := ha
      show _ = (if a = G.2.2.2.1.2.1 then (bm_ntrow eb G.2.2.1 e9 g) else G.2.2.2.1.2.2 a) x
      show (if a = G.2.2.2.1.2.1 ∧ x = 2 then _ else if a = G.2.2.2.1.2.1 ∧ x = 1 then _ else if a = G.2.2.2.1.2.1 ∧ x = 0 then _ else (if a = G.2.2.2.1.2.1 then (fun _ => (0 : Int32)) else G.2.2.2.1.2.2 a) x) = _
      by_cases e : a = G.2.2.2.1.2.1
      · rw [if_pos e, if_pos e]
        unfold bm_ntrow bm_row3
        by_cases e0 : x = 0
        · rw [if_neg (by omega), if_neg (by omega), if_pos ⟨e, e0⟩, if_pos e0]
        · by_cases e1 : x = 1
          · rw [if_neg (by omega), if_pos ⟨e, e1⟩, if_neg e0, if_pos e1]
          · rw [if_pos ⟨e, by omega⟩, if_neg e0, if_neg e1]
            first | rw [decide_eq_true h1]; rfl | rw [decide_eq_false (by omega)]; rfl
      · rw [if_neg (fun z => e z.1), if_neg (fun z => e z.1), if_neg (fun z => e z.1), if_neg e, if_neg e]
    exact ct_vret hQ hx hb hr hlk hP hD hS hK (by omega) (by omega) d_Groups_tell_70 (⟨gp_w cI cG h aE qi qh qn g9 aN rr G.1 G.2.1 (bm_up1 G.2.2.2.2 g (G.2.2.2.2 g + 1)) G.2.2.1 u6, by rw [fl_exp]; rfl, qi, qh, qn, g9, aN, rr, u6, rfl, hend⟩)
  · refine lv_iconst (v := nI 1) hx hb d_Groups_tell_52 (by decide) ?_
    refine lv_goto hx hb d_Groups_tell_53 (tgt := 57) (by decide) ?_
    refine ct_callVV (C := R_Rows) (ci := 0) (As := [.int (nI G.2.2.2.1.2.1), .int (nI 2), .int (nI 1)]) (rest := []) ⟨hx, hb, hml, hown, ht⟩ (k_Rows_set l D cI cZ cJ cG kC (G.2.2.2.1.2.1) 2 (nI 1) (by omega) (by omega)) (cb_V ht kc_Rows_set kl_Groups_63 kn_Rows ki_Rows_set ks_Rows_set hd_Rows_set ⟨Nat.le_of_ble_eq_true rfl, Nat.le_of_ble_eq_true rfl⟩) (wd_mem 6 rfl mC) rfl rfl (wd_ct (Bs := [[(h, .inr (7, [.ref aE, .ref qi, .ref qh, .ref qn, .ref g9, .ref aN]))], [(qi, .inl (cI, 8, .inl (lI G.1)))], [(qh, .inl (cI, 8, .inl G.2.1))], [(qn, .inl (cI, 8, .inl (cN G.2.2.2.2)))], [(g9, .inl (cG, 12, .inr (.inr (.inr (.inr (go rr))))))], gd cI 8 rr (gN G.2.2.1), u4, wE]) 8 rfl [6] [0, 1, 2, 3, 4, 5, 7] (by decide) (wd_1 _)) hK hP hD hS hA rfl hl.1 rfl (Nat.le_of_ble_eq_true rfl) ⟨(by simp only [Nat.add_zero, Nat.zero_add]; exact Nat.le_refl _), (by simp only [Nat.add_zero, Nat.zero_add]; exact Nat.le_refl _)⟩ d_Groups_tell_57 (fun u7 H locs hu7 hP hD hS => ?_)
    have kD := hu7
    obtain ⟨fskD, mD⟩ := kD.mem
    refine W.widen (k := (bm_push G.2.2.2.1 (bm_ntrow eb G.2.2.1 e9 g)).1 - G.2.2.2.1.1) (n := 2 * 3 * ((bm_push G.2.2.2.1 (bm_ntrow eb G.2.2.1 e9 g)).1 - G.2.2.2.1.1)) (Nat.le_refl _) (Nat.le_refl _) ?_
    have hP := wd_nP (N := [u7]) (wd_1 _) 8 rfl [1, 2, 3, 4, 5, 6, 0, 7] (by decide) hP
    have hD := wd_nD (N := [u7]) (wd_1 _) 8 rfl [1, 2, 3, 4, 5, 6, 0, 7] (by decide) hD
    have hP : va_P D kls (List.flatten [[(h, .inr (7, [.ref aE, .ref qi, .ref qh, .ref qn, .ref g9, .ref aN]))], [(qi, .inl (cI, 8, .inl (lI G.1)))], [(qh, .inl (cI, 8, .inl G.2.1))], [(qn, .inl (cI, 8, .inl (cN G.2.2.2.2)))], [(g9, .inl (cG, 12, .inr (.inr (.inr (.inr (go rr))))))], gd cI 8 rr (gN G.2.2.1), u7, wE]) H := hP
    have hD : va_D A (List.flatten [[(h, .inr (7, [.ref aE, .ref qi, .ref qh, .ref qn, .ref g9, .ref aN]))], [(qi, .inl (cI, 8, .inl (lI G.1)))], [(qh, .inl (cI, 8, .inl G.2.1))], [(qn, .inl (cI, 8, .inl (cN G.2.2.2.2)))], [(g9, .inl (cG, 12, .inr (.inr (.inr (.inr (go rr))))))], gd cI 8 rr (gN G.2.2.1), u7, wE]) := hD
    refine W.eq (g2 := F0 m 60 ls []) rfl ?_
    refine lv_aload_n hx hb d_Groups_tell_60 rfl (lv_at hl 1 rfl) ?_
    refine va_get (D := D) (ci := 7) (v := .ref qn) (C := R_Groups) (T := T_Groups) (N := 6) hx hb ht in_Groups hown hK hP 0 rfl rfl 3 (by decide) (ht _ kl_Groups_18) (fun _ h9 => h9) rfl d_Groups_tell_61 ?_
    refine lv_iload_n hx hb d_Groups_tell_64 rfl (lv_at hl 3 rfl) ?_
    refine lv_dup2_11 hx hb d_Groups_tell_65 rfl rfl ?_
    refine ri_iald hx hb hK hP 3 0 rfl rfl (j := g) (by omega) (by omega) d_Groups_tell_66 ?_
    refine W.eq (g2 := F0 m 67 ls [.int (nI (G.2.2.2.2 g)), .int (nI g), .ref qn]) rfl ?_
    refine lv_iconst (v := nI 1) hx hb d_Groups_tell_67 (by decide) ?_
    refine ri_iadd hx hb d_Groups_tell_68 ?_
    refine ri_iast hx hb hK hP hD hS 3 0 rfl rfl (j := g) (by omega) (by omega) d_Groups_tell_69 (fun H locs hP hD hS => ?_)
    rw [cN_up] at hP hD
    have hP : va_P D kls (List.flatten [[(h, .inr (7, [.ref aE, .ref qi, .ref qh, .ref qn, .ref g9, .ref aN]))], [(qi, .inl (cI, 8, .inl (lI G.1)))], [(qh, .inl (cI, 8, .inl G.2.1))], [(qn, .inl (cI, 8, .inl (cN (bm_up1 G.2.2.2.2 g ((G.2.2.2.2 g) + 1)))))], [(g9, .inl (cG, 12, .inr (.inr (.inr (.inr (go rr))))))], gd cI 8 rr (gN G.2.2.1), u7, wE]) H := hP
    have hD : va_D A (List.flatten [[(h, .inr (7, [.ref aE, .ref qi, .ref qh, .ref qn, .ref g9, .ref aN]))], [(qi, .inl (cI, 8, .inl (lI G.1)))], [(qh, .inl (cI, 8, .inl G.2.1))], [(qn, .inl (cI, 8, .inl (cN (bm_up1 G.2.2.2.2 g ((G.2.2.2.2 g) + 1)))))], [(g9, .inl (cG, 12, .inr (.inr (.inr (.inr (go rr))))))], gd cI 8 rr (gN G.2.2.1), u7, wE]) := hD
    have hend : rw_R cI 3 (bm_push G.2.2.2.1 (bm_ntrow eb G.2.2.1 e9 g)).1 (bm_push G.2.2.2.1 (bm_ntrow eb G.2.2.1 e9 g)).2.1 (bm_push G.2.2.2.1 (bm_ntrow eb G.2.2.1 e9 g)).2.2 aN u7 := by
      refine rw_R.congr kD (fun a x ha hx => ?_)
      have ha : a < G.2.2.2.1.2.1 + 1 := ha
      show _ = (if a = G.2.2.2.1.2.1 then (bm_ntrow eb G.2.2.1 e9 g) else G.2.2.2.1.2.2 a) x
      show (if a = G.2.2.2.1.2.1 ∧ x = 2 then _ else if a = G.2.2.2.1.2.1 ∧ x = 1 then _ else if a = G.2.2.2.1.2.1 ∧ x = 0 then _ else (if a = G.2.2.2.1.2.1 then (fun _ => (0 : Int32)) else G.2.2.2.1.2.2 a) x) = _
      by_cases e : a = G.2.2.2.1.2.1
      · rw [if_pos e, if_pos e]
        unfold bm_ntrow bm_row3
        by_cases e0 : x = 0
        · rw [if_neg (by omega), if_neg (by omega), if_pos ⟨e, e0⟩, if_pos e0]
        · by_cases e1 : x = 1
          · rw [if_neg (by omega), if_pos ⟨e, e1⟩, if_neg e0, if_pos e1]
          · rw [if_pos ⟨e, by omega⟩, if_neg e0, if_neg e1]
            first | rw [decide_eq_true h1]; rfl | rw [decide_eq_false (by omega)]; rfl
      · rw [if_neg (fun z => e z.1), if_neg (fun z => e z.1), if_neg (fun z => e z.1), if_neg e, if_neg e]
    exact ct_vret hQ hx hb hr hlk hP hD hS hK (by omega) (by omega) d_Groups_tell_70 (⟨gp_w cI cG h aE qi qh qn g9 aN rr G.1 G.2.1 (bm_up1 G.2.2.2.2 g (G.2.2.2.2 g + 1)) G.2.2.1 u7, by rw [fl_exp]; rfl, qi, qh, qn, g9, aN, rr, u7, rfl, hend⟩)
set_option maxHeartbeats 4000000 in
set_option maxRecDepth 100000 in
theorem k_Groups_tellAll (l : Launch) (D : va_G) (cI cZ cJ cG : ClassId) {h aE : Nat} {G : bm_G} {ws : va_W} {eb : Nat → Option Nat} {t9 n9 : Int32} {wE : va_W} (hR : gp_R cI cG h aE G ws) (kE : ed_R cI aE eb t9 n9 wE) (e9 : Nat) (he : e9 < 12) (hrc : ∀ a b, G.2.2.1 a b < 2147483648) (hin : ∀ a b, G.1 a = some b → b < 12) (hc : (bm_tellA eb e9 G 8).2.2.2.1.1 ≤ 50000) : ct_V l D kls (ty4 cI cZ cJ cG) y_Groups_tellAll ws_Groups_tellAll (rm_ 4 96 ((bm_tellA eb e9 G 8).2.2.2.1.1 - G.2.2.2.1.1) (2 * 3 * ((bm_tellA eb e9 G 8).2.2.2.1.1 - G.2.2.2.1.1))) [.ref h, .int (nI e9)] (List.flatten [ws, wE]) (fun u => ∃ wG, u = List.flatten [wG, wE] ∧ gp_R cI cG h aE (bm_tellA eb e9 G 8) wG) ((bm_tellA eb e9 G 8).2.2.2.1.1 - G.2.2.2.1.1) (2 * 3 * ((bm_tellA eb e9 G 8).2.2.2.1.1 - G.2.2.2.1.1)) := by
  obtain ⟨fsE, mE⟩ := kE.mem
  refine ct_enterV (cc := b_Groups_tellAll) (maxL := 3) (ret := none) (by decide +kernel) (Nat.le_of_ble_eq_true rfl) ?_
  intro p e s m args below meth c hx hb hml hr ht hown hlk hnm A Q hA hK hP hD hQ ls hl
  have hown : s.vm.findClass R_Groups = some m.cls := hown
  have hS : va_S A s.heap s.heap [] := va_S.rf
  have hl : lv_has ls 3 [(0, .ref h), (1, .int (nI e9))] := hl
  have hmo : ∀ a b, a ≤ b → (bm_tellA eb e9 G a).2.2.2.1.1 ≤ (bm_tellA eb e9 G b).2.2.2.1.1 := fun a b hab => bm_tellA_le eb e9 G b a hab
  have hm0 : (bm_tellA eb e9 G 0).2.2.2.1.1 = G.2.2.2.1.1 := rfl
  have loop : ∀ (k j : Nat) (wG : va_W) (H : Heap) (locs : List Loc) (ls : Array Slot), j + k = 8 → gp_R cI cG h aE (bm_tellA eb e9 G j) wG → va_P D kls (List.flatten [wG, wE]) H → va_D A (List.flatten [wG, wE]) → va_S A s.heap H locs → lv_has ls 3 [(2, .int (nI j)), (0, .ref h), (1, .int (nI e9))] → W p l e (rm_ 4 96 ((bm_tellA eb e9 G 8).2.2.2.1.1 - G.2.2.2.1.1) (2 * 3 * ((bm_tellA eb e9 G 8).2.2.2.1.1 - G.2.2.2.1.1))) s m args below meth c H locs ((bm_tellA eb e9 G j).2.2.2.1.1 - G.2.2.2.1.1) (2 * 3 * ((bm_tellA eb e9 G j).2.2.2.1.1 - G.2.2.2.1.1)) Q (F0 m 2 ls []) := by
    intro k
    induction k with
    | zero =>
      intro j wG H locs ls hk kG hP hD hS hl
      have kG9 := kG
      obtain ⟨qi, qh, qn, g9, aN, rr, wN, rfl, kN⟩ := kG
      have hfix := bm_tellA_1 eb e9 G j
      rw [fl_exp] at hP hD
      have hP : va_P D kls (List.flatten [[(h, .inr (7, [.ref aE, .ref qi, .ref qh, .ref qn, .ref g9, .ref aN]))], [(qi, .inl (cI, 8, .inl (lI ((bm_tellA eb e9 G j).1))))], [(qh, .inl (cI, 8, .inl ((bm_tellA eb e9 G j).2.1)))], [(qn, .inl (cI, 8, .inl (cN ((bm_tellA eb e9 G j).2.2.2.2))))], [(g9, .inl (cG, 12, .inr (.inr (.inr (.inr (go rr))))))], gd cI 8 rr (gN ((bm_tellA eb e9 G j).2.2.1)), wN, wE]) H := hP
      have hD : va_D A (List.flatten [[(h, .inr (7, [.ref aE, .ref qi, .ref qh, .ref qn, .ref g9, .ref aN]))], [(qi, .inl (cI, 8, .inl (lI ((bm_tellA eb e9 G j).1))))], [(qh, .inl (cI, 8, .inl ((bm_tellA eb e9 G j).2.1)))], [(qn, .inl (cI, 8, .inl (cN ((bm_tellA eb e9 G j).2.2.2.2))))], [(g9, .inl (cG, 12, .inr (.inr (.inr (.inr (go rr))))))], gd cI 8 rr (gN ((bm_tellA eb e9 G j).2.2.1)), wN, wE]) := hD
      refine lv_iload_n hx hb d_Groups_tellAll_2 rfl (lv_at hl 0 rfl) ?_
      refine lv_bipush (v := nI 8) hx hb d_Groups_tellAll_3 (by decide) ?_
      refine ri_icmp_ge hx hb (by omega) (by omega) d_Groups_tellAll_5 (tgt := 30) (by decide) (fun hc9 => ?_) (fun hc9 => ?_)
      · have hj : j = 8 := by omega
        subst hj
        exact ct_vret hQ hx hb hr hlk hP hD hS hK (by omega) (by omega) d_Groups_tellAll_30 (⟨gp_w cI cG h aE qi qh qn g9 aN rr (bm_tellA eb e9 G 8).1 (bm_tellA eb e9 G 8).2.1 (bm_tellA eb e9 G 8).2.2.2.2 (bm_tellA eb e9 G 8).2.2.1 wN, by rw [fl_exp]; rfl, kG9⟩)
      · exact absurd hc9 (by omega)
    | succ k ih =>
      intro j wG H locs ls hk kG hP hD hS hl
      have kG9 := kG
      obtain ⟨qi, qh, qn, g9, aN, rr, wN, rfl, kN⟩ := kG
      have hfix := bm_tellA_1 eb e9 G j
      rw [fl_exp] at hP hD
      have hP : va_P D kls (List.flatten [[(h, .inr (7, [.ref aE, .ref qi, .ref qh, .ref qn, .ref g9, .ref aN]))], [(qi, .inl (cI, 8, .inl (lI ((bm_tellA eb e9 G j).1))))], [(qh, .inl (cI, 8, .inl ((bm_tellA eb e9 G j).2.1)))], [(qn, .inl (cI, 8, .inl (cN ((bm_tellA eb e9 G j).2.2.2.2))))], [(g9, .inl (cG, 12, .inr (.inr (.inr (.inr (go rr))))))], gd cI 8 rr (gN ((bm_tellA eb e9 G j).2.2.1)), wN, wE]) H := hP
      have hD : va_D A (List.flatten [[(h, .inr (7, [.ref aE, .ref qi, .ref qh, .ref qn, .ref g9, .ref aN]))], [(qi, .inl (cI, 8, .inl (lI ((bm_tellA eb e9 G j).1))))], [(qh, .inl (cI, 8, .inl ((bm_tellA eb e9 G j).2.1)))], [(qn, .inl (cI, 8, .inl (cN ((bm_tellA eb e9 G j).2.2.2.2))))], [(g9, .inl (cG, 12, .inr (.inr (.inr (.inr (go rr))))))], gd cI 8 rr (gN ((bm_tellA eb e9 G j).2.2.1)), wN, wE]) := hD
      have g12 := hmo j 8 (by omega)
      refine lv_iload_n hx hb d_Groups_tellAll_2 rfl (lv_at hl 0 rfl) ?_
      refine lv_bipush (v := nI 8) hx hb d_Groups_tellAll_3 (by decide) ?_
      refine ri_icmp_ge hx hb (by omega) (by omega) d_Groups_tellAll_5 (tgt := 30) (by decide) (fun hc9 => ?_) (fun hc9 => ?_)
      · exact absurd hc9 (by omega)
      · rcases hig : G.1 j with _ | x
        · refine lv_aload_n hx hb d_Groups_tellAll_8 rfl (lv_at hl 1 rfl) ?_
          refine va_get (D := D) (ci := 7) (v := .ref qi) (C := R_Groups) (T := T_Groups) (N := 6) hx hb ht in_Groups hown hK hP 0 rfl rfl 1 (by decide) (ht _ kl_Groups_9) (fun _ h9 => h9) rfl d_Groups_tellAll_9 ?_
          refine lv_iload_n hx hb d_Groups_tellAll_12 rfl (lv_at hl 0 rfl) ?_
          refine ri_iald hx hb hK hP 1 0 rfl rfl (j := j) (by omega) (by omega) d_Groups_tellAll_13 ?_
          refine W.eq (g2 := F0 m 14 ls [.int (bm_oI (((bm_tellA eb e9 G j).1) j))]) rfl ?_
          refine W.eq (g2 := F0 m 14 ls [.int ((-1))]) (congrArg (fun z => F0 m 14 ls (.int z :: [])) (show bm_oI ((bm_tellA eb e9 G j).1 j) = -1 by rw [hfix.1, hig]; rfl)) ?_
          refine lv_iconst (v := (-1)) hx hb d_Groups_tellAll_14 (by decide) ?_
          refine lv_icmp_eq hx hb d_Groups_tellAll_15 (tgt := 24) (by decide) (fun h4 => ?_) (fun h4 => ?_)
          · refine ri_iinc hx hb d_Groups_tellAll_24 hl (k := 0) rfl (by decide) rfl (fun ls hl => ?_)
            have hl : lv_has ls 3 [(2, .int (nI (j + 1))), (0, .ref h), (1, .int (nI e9))] := hl
            refine lv_goto hx hb d_Groups_tellAll_27 (tgt := 2) (by decide) ?_
            have hst : bm_tellA eb e9 G (j + 1) = bm_tellA eb e9 G j := if_neg (fun z => z hig)
            refine W.widen (k := (bm_tellA eb e9 G (j + 1)).2.2.2.1.1 - G.2.2.2.1.1) (n := 2 * 3 * ((bm_tellA eb e9 G (j + 1)).2.2.2.1.1 - G.2.2.2.1.1)) (by rw [hst]; exact Nat.le_refl _) (by rw [hst]; exact Nat.le_refl _) ?_
            exact ih (j + 1) (gp_w cI cG h aE qi qh qn g9 aN rr (bm_tellA eb e9 G j).1 (bm_tellA eb e9 G j).2.1 (bm_tellA eb e9 G j).2.2.2.2 (bm_tellA eb e9 G j).2.2.1 wN) H locs ls (by omega) (by rw [hst]; exact kG9) (by rw [fl_exp]; exact hP) (by rw [fl_exp]; exact hD) hS hl
          · exact absurd h4 (fun z => z rfl)
        · have hx12 := hin j x hig
          refine lv_aload_n hx hb d_Groups_tellAll_8 rfl (lv_at hl 1 rfl) ?_
          refine va_get (D := D) (ci := 7) (v := .ref qi) (C := R_Groups) (T := T_Groups) (N := 6) hx hb ht in_Groups hown hK hP 0 rfl rfl 1 (by decide) (ht _ kl_Groups_9) (fun _ h9 => h9) rfl d_Groups_tellAll_9 ?_
          refine lv_iload_n hx hb d_Groups_tellAll_12 rfl (lv_at hl 0 rfl) ?_
          refine ri_iald hx hb hK hP 1 0 rfl rfl (j := j) (by omega) (by omega) d_Groups_tellAll_13 ?_
          refine W.eq (g2 := F0 m 14 ls [.int (bm_oI (((bm_tellA eb e9 G j).1) j))]) rfl ?_
          refine W.eq (g2 := F0 m 14 ls [.int (nI x)]) (congrArg (fun z => F0 m 14 ls (.int z :: [])) (show bm_oI ((bm_tellA eb e9 G j).1 j) = nI x by rw [hfix.1, hig]; rfl)) ?_
          refine lv_iconst (v := (-1)) hx hb d_Groups_tellAll_14 (by decide) ?_
          refine lv_icmp_eq hx hb d_Groups_tellAll_15 (tgt := 24) (by decide) (fun h4 => ?_) (fun h4 => ?_)
          · exact absurd h4 (nI_m1 (by omega))
          · refine lv_aload_n hx hb d_Groups_tellAll_18 rfl (lv_at hl 1 rfl) ?_
            refine lv_iload_n hx hb d_Groups_tellAll_19 rfl (lv_at hl 2 rfl) ?_
            refine lv_iload_n hx hb d_Groups_tellAll_20 rfl (lv_at hl 0 rfl) ?_
            have hst : bm_tellA eb e9 G (j + 1) = bm_tell eb e9 j (bm_tellA eb e9 G j) := if_pos (by rw [hig]; exact Option.some_ne_none x)
            have hst1 : (bm_tellA eb e9 G (j + 1)).2.2.2.1.1 = (bm_push (bm_tellA eb e9 G j).2.2.2.1 (bm_ntrow eb (bm_tellA eb e9 G j).2.2.1 e9 j)).1 := by rw [hst]; rfl
            have g1 := hmo 0 j (by omega)
            have g2 := hmo j (j + 1) (by omega)
            have g3 := hmo (j + 1) 8 (by omega)
            refine ct_callVV (C := R_Groups) (ci := 7) (As := [.int (nI e9), .int (nI j)]) (rest := []) ⟨hx, hb, hml, hown, ht⟩ (k_Groups_tell l D cI cZ cJ cG kG9 kE e9 j he (by omega) (by rw [hfix.2.2]; exact hrc) (Nat.le_trans g12 hc)) (cb_V ht kc_Groups_tell kl_Groups_47 kn_Groups ki_Groups_tell ks_Groups_tell hd_Groups_tell ⟨Nat.le_of_ble_eq_true rfl, Nat.le_of_ble_eq_true rfl⟩) (List.mem_of_getElem? (i := 0) rfl) rfl rfl (wd_ct (Bs := [[(h, .inr (7, [.ref aE, .ref qi, .ref qh, .ref qn, .ref g9, .ref aN]))], [(qi, .inl (cI, 8, .inl (lI ((bm_tellA eb e9 G j).1))))], [(qh, .inl (cI, 8, .inl ((bm_tellA eb e9 G j).2.1)))], [(qn, .inl (cI, 8, .inl (cN ((bm_tellA eb e9 G j).2.2.2.2))))], [(g9, .inl (cG, 12, .inr (.inr (.inr (.inr (go rr))))))], gd cI 8 rr (gN ((bm_tellA eb e9 G j).2.2.1)), wN, wE]) 8 rfl [0, 1, 2, 3, 4, 5, 6, 7] [] (by decide) (by show List.flatten _ = _; rw [fl_exp]; rfl)) hK hP hD hS hA rfl hl.1 rfl (Nat.le_of_ble_eq_true rfl) ⟨(show ((bm_tellA eb e9 G j).2.2.2.1.1 - G.2.2.2.1.1) + ((bm_push (bm_tellA eb e9 G j).2.2.2.1 (bm_ntrow eb (bm_tellA eb e9 G j).2.2.1 e9 j)).1 - (bm_tellA eb e9 G j).2.2.2.1.1) ≤ (bm_tellA eb e9 G 8).2.2.2.1.1 - G.2.2.2.1.1 by omega), (show 2 * 3 * ((bm_tellA eb e9 G j).2.2.2.1.1 - G.2.2.2.1.1) + 2 * 3 * ((bm_push (bm_tellA eb e9 G j).2.2.2.1 (bm_ntrow eb (bm_tellA eb e9 G j).2.2.1 e9 j)).1 - (bm_tellA eb e9 G j).2.2.2.1.1) ≤ 2 * 3 * ((bm_tellA eb e9 G 8).2.2.2.1.1 - G.2.2.2.1.1) by omega)⟩ d_Groups_tellAll_21 (fun u5 H locs hu5 hP hD hS => ?_)
            obtain ⟨wG2, rfl, kG2⟩ := hu5
            refine W.widen (k := (bm_tellA eb e9 G (j + 1)).2.2.2.1.1 - G.2.2.2.1.1) (n := 2 * 3 * ((bm_tellA eb e9 G (j + 1)).2.2.2.1.1 - G.2.2.2.1.1)) (show ((bm_tellA eb e9 G j).2.2.2.1.1 - G.2.2.2.1.1) + ((bm_push (bm_tellA eb e9 G j).2.2.2.1 (bm_ntrow eb (bm_tellA eb e9 G j).2.2.1 e9 j)).1 - (bm_tellA eb e9 G j).2.2.2.1.1) ≤ (bm_tellA eb e9 G (j + 1)).2.2.2.1.1 - G.2.2.2.1.1 by omega) (show 2 * 3 * ((bm_tellA eb e9 G j).2.2.2.1.1 - G.2.2.2.1.1) + 2 * 3 * ((bm_push (bm_tellA eb e9 G j).2.2.2.1 (bm_ntrow eb (bm_tellA eb e9 G j).2.2.1 e9 j)).1 - (bm_tellA eb e9 G j).2.2.2.1.1) ≤ 2 * 3 * ((bm_tellA eb e9 G (j + 1)).2.2.2.1.1 - G.2.2.2.1.1) by omega) ?_
            have hP := wd_nP (N := [wG2, wE]) rfl 2 rfl [0, 1] (by decide) hP
            have hD := wd_nD (N := [wG2, wE]) rfl 2 rfl [0, 1] (by decide) hD
            have hP : va_P D kls (List.flatten [wG2, wE]) H := hP
            have hD : va_D A (List.flatten [wG2, wE]) := hD
            refine W.eq (g2 := F0 m 24 ls []) rfl ?_
            refine ri_iinc hx hb d_Groups_tellAll_24 hl (k := 0) rfl (by decide) rfl (fun ls hl => ?_)
            have hl : lv_has ls 3 [(2, .int (nI (j + 1))), (0, .ref h), (1, .int (nI e9))] := hl
            refine lv_goto hx hb d_Groups_tellAll_27 (tgt := 2) (by decide) ?_
            have kG3 : gp_R cI cG h aE (bm_tellA eb e9 G (j + 1)) wG2 := by rw [hst]; exact kG2
            exact ih (j + 1) wG2 H locs ls (by omega) kG3 hP hD hS hl
  refine lv_iconst (v := nI 0) hx hb d_Groups_tellAll_0 (by decide) ?_
  refine lv_istore_n hx hb d_Groups_tellAll_1 rfl hl (by decide) rfl (fun ls hl => ?_)
  have hl : lv_has ls 3 [(2, .int (nI 0)), (0, .ref h), (1, .int (nI e9))] := hl
  refine W.widen (k := (bm_tellA eb e9 G 0).2.2.2.1.1 - G.2.2.2.1.1) (n := 2 * 3 * ((bm_tellA eb e9 G 0).2.2.2.1.1 - G.2.2.2.1.1)) (by omega) (by omega) ?_
  exact loop 8 0 ws s.heap [] ls (by omega) hR hP hD hS hl
