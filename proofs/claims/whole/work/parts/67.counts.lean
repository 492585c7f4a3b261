/-! Groups: counts, deliveries. -/
def bm_gdelAt (g : Nat) (G : bm_G) : bm_G := (G.1, bm_up1 G.2.1 g (if G.2.2.2.1.2.2 0 2 = nI 1 then G.2.1 g ||| G.2.2.2.1.2.2 0 1 else G.2.1 g &&& (G.2.2.2.1.2.2 0 1 ^^^ (-1))), (bm_gdrop g G).2.2)
theorem bm_gdel_at {G : bm_G} {g : Nat} (h : bm_gof G = g) : bm_gdel G = bm_gdelAt g G := by
  rw [← h]
  rfl
theorem bm_gof_at {G : bm_G} {g : Nat} (hg : g < 8) (h : G.2.2.2.1.2.2 0 0 = nI g) : bm_gof G = g := by
  unfold bm_gof
  rw [h]
  exact nI_clamp (show g < 2 ^ 31 by omega)
def bm_glose (G : bm_G) : bm_G := if G.2.2.2.1.2.1 = 0 then G else bm_gdrop (bm_gof G) G
set_option maxHeartbeats 4000000 in
set_option maxRecDepth 100000 in
theorem k_Groups_recount (l : Launch) (D : va_G) (cI cZ cJ cG : ClassId) {h aE : Nat} {G : bm_G} {ws : va_W} {eb : Nat → Option Nat} {t9 n9 : Int32} {wE : va_W} (hR : gp_R cI cG h aE G ws) (kE : ed_R cI aE eb t9 n9 wE) (e9 g nx : Nat) (he : e9 < 12) (hg : g < 8) (hrc : ∀ a b, G.2.2.1 a b < 2147483648) (hnx : nx < 2147483648) (hin : ∀ a b, G.1 a = some b → b < 12) (hc : G.2.2.2.1.1 ≤ 50000) : ct_V l D kls (ty4 cI cZ cJ cG) y_Groups_recount ws_Groups_recount (rm_ 4 96 ((bm_rec eb e9 g nx G).2.2.2.1.1 - G.2.2.2.1.1) (2 * 3 * ((bm_rec eb e9 g nx G).2.2.2.1.1 - G.2.2.2.1.1))) [.ref h, .int (nI e9), .int (nI g), .int (nI nx)] (List.flatten [ws, wE]) (fun u => ∃ wG, u = List.flatten [wG, wE] ∧ gp_R cI cG h aE (bm_rec eb e9 g nx G) wG) ((bm_rec eb e9 g nx G).2.2.2.1.1 - G.2.2.2.1.1) (2 * 3 * ((bm_rec eb e9 g nx G).2.2.2.1.1 - G.2.2.2.1.1)) := by
  have hR9 := hR
  obtain ⟨qi, qh, qn, g9, aN, rr, wN, rfl, kN⟩ := hR
  obtain ⟨fsN, mN⟩ := kN.mem
  have bN := kN.n
  obtain ⟨fsE, mE⟩ := kE.mem
  refine ct_enterV (cc := b_Groups_recount) (maxL := 5) (ret := none) (by decide +kernel) (Nat.le_of_ble_eq_true rfl) ?_
  intro p e s m args below meth c hx hb hml hr ht hown hlk hnm A Q hA hK hP hD hQ ls hl
  have hown : s.vm.findClass R_Groups = some m.cls := hown
  have hS : va_S A s.heap s.heap [] := va_S.rf
  have hl : lv_has ls 5 [(0, .ref h), (1, .int (nI e9)), (2, .int (nI g)), (3, .int (nI nx))] := hl
  rw [fl_exp] at hP hD
  have hP : va_P D kls (List.flatten [[(h, .inr (7, [.ref aE, .ref qi, .ref qh, .ref qn, .ref g9, .ref aN]))], [(qi, .inl (cI, 8, .inl (lI G.1)))], [(qh, .inl (cI, 8, .inl G.2.1))], [(qn, .inl (cI, 8, .inl (cN G.2.2.2.2)))], [(g9, .inl (cG, 12, .inr (.inr (.inr (.inr (go rr))))))], gd cI 8 rr (gN G.2.2.1), wN, wE]) s.heap := hP
  have hD : va_D A (List.flatten [[(h, .inr (7, [.ref aE, .ref qi, .ref qh, .ref qn, .ref g9, .ref aN]))], [(qi, .inl (cI, 8, .inl (lI G.1)))], [(qh, .inl (cI, 8, .inl G.2.1))], [(qn, .inl (cI, 8, .inl (cN G.2.2.2.2)))], [(g9, .inl (cG, 12, .inr (.inr (.inr (.inr (go rr))))))], gd cI 8 rr (gN G.2.2.1), wN, wE]) := hD
  refine lv_aload_n hx hb d_Groups_recount_0 rfl (lv_at hl 0 rfl) ?_
  refine lv_iload_n hx hb d_Groups_recount_1 rfl (lv_at hl 1 rfl) ?_
  refine lv_iload_n hx hb d_Groups_recount_2 rfl (lv_at hl 2 rfl) ?_
  refine lv_iload_n hx hb d_Groups_recount_3 rfl (lv_at hl 3 rfl) ?_
  refine ct_rdV (C := R_Groups) (ci := 7) (As := [.int (nI e9), .int (nI g), .int (nI nx)]) (rest := []) ⟨hx, hb, hml, hown, ht⟩ (k_Groups_needsNote l D cI cZ cJ cG hR9 e9 g nx he hg hrc hnx hin) (cb_V ht kc_Groups_needsNote kl_Groups_43 kn_Groups ki_Groups_needsNote ks_Groups_needsNote hd_Groups_needsNote ⟨Nat.le_of_ble_eq_true rfl, Nat.le_of_ble_eq_true rfl⟩) (List.mem_of_getElem? (i := 0) rfl) rfl rfl (wd_ct (Bs := [[(h, .inr (7, [.ref aE, .ref qi, .ref qh, .ref qn, .ref g9, .ref aN]))], [(qi, .inl (cI, 8, .inl (lI G.1)))], [(qh, .inl (cI, 8, .inl G.2.1))], [(qn, .inl (cI, 8, .inl (cN G.2.2.2.2)))], [(g9, .inl (cG, 12, .inr (.inr (.inr (.inr (go rr))))))], gd cI 8 rr (gN G.2.2.1), wN, wE]) 8 rfl [0, 1, 2, 3, 4, 5, 6] [7] (by decide) rfl) hK hP hD hS hA rfl hl.1 rfl (Nat.le_of_ble_eq_true rfl) ⟨(show 0 + 0 ≤ ((bm_rec eb e9 g nx G).2.2.2.1.1 - G.2.2.2.1.1) by omega), (show 0 + 0 ≤ (2 * 3 * ((bm_rec eb e9 g nx G).2.2.2.1.1 - G.2.2.2.1.1)) by omega)⟩ d_Groups_recount_4 (fun rhr1 H locs hr1 hP hD hS => ?_)
  subst hr1
  refine lv_istore hx hb d_Groups_recount_7 hl (by decide) rfl (fun ls hl => ?_)
  have hl : lv_has ls 5 [(4, .int (bI (bP (bm_news G.1 G.2.2.1 e9 g nx)))), (0, .ref h), (1, .int (nI e9)), (2, .int (nI g)), (3, .int (nI nx))] := hl
  refine lv_aload_n hx hb d_Groups_recount_9 rfl (lv_at hl 1 rfl) ?_
  refine va_get (D := D) (ci := 7) (v := .ref g9) (C := R_Groups) (T := T_Groups) (N := 6) hx hb ht in_Groups hown hK hP 0 rfl rfl 4 (by decide) (ht _ kl_Groups_23) (fun _ h9 => h9) rfl d_Groups_recount_10 ?_
  refine lv_iload_n hx hb d_Groups_recount_13 rfl (lv_at hl 2 rfl) ?_
  refine ri_aald hx hb hK hP 4 3 rfl rfl (j := e9) (by omega) (by omega) (go_at (by omega)) d_Groups_recount_14 ?_
  refine lv_iload_n hx hb d_Groups_recount_15 rfl (lv_at hl 3 rfl) ?_
  refine lv_iload_n hx hb d_Groups_recount_16 rfl (lv_at hl 4 rfl) ?_
  refine ri_gst hx hb hK hP hD hS 5 0 rfl rfl (i := e9) (j := g) he hg (by decide) d_Groups_recount_17 (fun H locs hP hD hS => ?_)
  rw [gN_up] at hP hD
  have hP : va_P D kls (List.flatten [[(h, .inr (7, [.ref aE, .ref qi, .ref qh, .ref qn, .ref g9, .ref aN]))], [(qi, .inl (cI, 8, .inl (lI G.1)))], [(qh, .inl (cI, 8, .inl G.2.1))], [(qn, .inl (cI, 8, .inl (cN G.2.2.2.2)))], [(g9, .inl (cG, 12, .inr (.inr (.inr (.inr (go rr))))))], gd cI 8 rr (gN (bm_up2 G.2.2.1 e9 g nx)), wN, wE]) H := hP
  have hD : va_D A (List.flatten [[(h, .inr (7, [.ref aE, .ref qi, .ref qh, .ref qn, .ref g9, .ref aN]))], [(qi, .inl (cI, 8, .inl (lI G.1)))], [(qh, .inl (cI, 8, .inl G.2.1))], [(qn, .inl (cI, 8, .inl (cN G.2.2.2.2)))], [(g9, .inl (cG, 12, .inr (.inr (.inr (.inr (go rr))))))], gd cI 8 rr (gN (bm_up2 G.2.2.1 e9 g nx)), wN, wE]) := hD
  refine lv_iload hx hb d_Groups_recount_18 (lv_at hl 0 rfl) ?_
  refine ri_ifeqB hx hb d_Groups_recount_20 (tgt := 29) (by decide) (fun h1 => ?_) (fun h1 => ?_)
  · have hRC : bm_rec eb e9 g nx G = (bm_count e9 g nx G) := if_neg (fun z => by rw [h1] at z; cases z)
    exact ct_vret hQ hx hb hr hlk hP hD hS hK (by omega) (by omega) d_Groups_recount_29 (by rw [hRC]; exact ⟨gp_w cI cG h aE qi qh qn g9 aN rr G.1 G.2.1 G.2.2.2.2 (bm_up2 G.2.2.1 e9 g nx) wN, by rw [fl_exp]; rfl, qi, qh, qn, g9, aN, rr, wN, rfl, kN⟩)
  · refine lv_aload_n hx hb d_Groups_recount_23 rfl (lv_at hl 1 rfl) ?_
    refine lv_iload_n hx hb d_Groups_recount_24 rfl (lv_at hl 2 rfl) ?_
    refine lv_iload_n hx hb d_Groups_recount_25 rfl (lv_at hl 3 rfl) ?_
    have hRC : bm_rec eb e9 g nx G = bm_tell eb e9 g (bm_count e9 g nx G) := if_pos h1
    have gc1 : (bm_rec eb e9 g nx G).2.2.2.1.1 - G.2.2.2.1.1 = (bm_push (bm_count e9 g nx G).2.2.2.1 (bm_ntrow eb (bm_count e9 g nx G).2.2.1 e9 g)).1 - (bm_count e9 g nx G).2.2.2.1.1 := by rw [hRC]; rfl
    have hrc2 : ∀ a b, (bm_count e9 g nx G).2.2.1 a b < 2147483648 := by
      intro a b
      show (if a = e9 ∧ b = g then nx else G.2.2.1 a b) < _
      split
      · exact hnx
      · exact hrc a b
    have hR3 : gp_R cI cG h aE (bm_count e9 g nx G) (gp_w cI cG h aE qi qh qn g9 aN rr G.1 G.2.1 G.2.2.2.2 (bm_up2 G.2.2.1 e9 g nx) wN) := ⟨qi, qh, qn, g9, aN, rr, wN, rfl, kN⟩
    refine ct_callVV (C := R_Groups) (ci := 7) (As := [.int (nI e9), .int (nI g)]) (rest := []) ⟨hx, hb, hml, hown, ht⟩ (k_Groups_tell l D cI cZ cJ cG hR3 kE e9 g he hg hrc2 hc) (cb_V ht kc_Groups_tell kl_Groups_47 kn_Groups ki_Groups_tell ks_Groups_tell hd_Groups_tell ⟨Nat.le_of_ble_eq_true rfl, Nat.le_of_ble_eq_true rfl⟩) (List.mem_of_getElem? (i := 0) rfl) rfl rfl (wd_ct (Bs := [[(h, .inr (7, [.ref aE, .ref qi, .ref qh, .ref qn, .ref g9, .ref aN]))], [(qi, .inl (cI, 8, .inl (lI G.1)))], [(qh, .inl (cI, 8, .inl G.2.1))], [(qn, .inl (cI, 8, .inl (cN G.2.2.2.2)))], [(g9, .inl (cG, 12, .inr (.inr (.inr (.inr (go rr))))))], gd cI 8 rr (gN (bm_up2 G.2.2.1 e9 g nx)), wN, wE]) 8 rfl [0, 1, 2, 3, 4, 5, 6, 7] [] (by decide) (by show List.flatten _ = _; rw [fl_exp]; rfl)) hK hP hD hS hA rfl hl.1 rfl (Nat.le_of_ble_eq_true rfl) ⟨(show 0 + ((bm_push (bm_count e9 g nx G).2.2.2.1 (bm_ntrow eb (bm_count e9 g nx G).2.2.1 e9 g)).1 - (bm_count e9 g nx G).2.2.2.1.1) ≤ (bm_rec eb e9 g nx G).2.2.2.1.1 - G.2.2.2.1.1 by omega), (show 0 + 2 * 3 * ((bm_push (bm_count e9 g nx G).2.2.2.1 (bm_ntrow eb (bm_count e9 g nx G).2.2.1 e9 g)).1 - (bm_count e9 g nx G).2.2.2.1.1) ≤ 2 * 3 * ((bm_rec eb e9 g nx G).2.2.2.1.1 - G.2.2.2.1.1) by omega)⟩ d_Groups_recount_26 (fun u3 H locs hu3 hP hD hS => ?_)
    obtain ⟨wG2, rfl, kG2⟩ := hu3
    refine W.widen (k := (bm_rec eb e9 g nx G).2.2.2.1.1 - G.2.2.2.1.1) (n := 2 * 3 * ((bm_rec eb e9 g nx G).2.2.2.1.1 - G.2.2.2.1.1)) (show 0 + ((bm_push (bm_count e9 g nx G).2.2.2.1 (bm_ntrow eb (bm_count e9 g nx G).2.2.1 e9 g)).1 - (bm_count e9 g nx G).2.2.2.1.1) ≤ (bm_rec eb e9 g nx G).2.2.2.1.1 - G.2.2.2.1.1 by omega) (show 0 + 2 * 3 * ((bm_push (bm_count e9 g nx G).2.2.2.1 (bm_ntrow eb (bm_count e9 g nx G).2.2.1 e9 g)).1 - (bm_count e9 g nx G).2.2.2.1.1) ≤ 2 * 3 * ((bm_rec eb e9 g nx G).2.2.2.1.1 - G.2.2.2.1.1) by omega) ?_
    have hP := wd_nP (N := [wG2, wE]) rfl 2 rfl [0, 1] (by decide) hP
    have hD := wd_nD (N := [wG2, wE]) rfl 2 rfl [0, 1] (by decide) hD
    have hP : va_P D kls (List.flatten [wG2, wE]) H := hP
    have hD : va_D A (List.flatten [wG2, wE]) := hD
    refine W.eq (g2 := F0 m 29 ls []) rfl ?_
    exact ct_vret hQ hx hb hr hlk hP hD hS hK (by omega) (by omega) d_Groups_recount_29 (by rw [hRC]; exact ⟨wG2, rfl, kG2⟩)
set_option maxHeartbeats 4000000 in
set_option maxRecDepth 100000 in
theorem k_Groups_deliverOldest (l : Launch) (D : va_G) (cI cZ cJ cG : ClassId) {h aE : Nat} {G : bm_G} {ws : va_W} (hR : gp_R cI cG h aE G ws) (hn : 0 < G.2.2.2.1.2.1) (g : Nat) (hg : g < 8) (hg0 : G.2.2.2.1.2.2 0 0 = nI g) (hnf : 0 < G.2.2.2.2 g) : ct_V l D kls (ty4 cI cZ cJ cG) y_Groups_deliverOldest ws_Groups_deliverOldest (rm_ 2 45 0 0) [.ref h] (ws) (fun u => gp_R cI cG h aE (bm_gdel G) u) 0 0 := by
  have hR9 := hR
  obtain ⟨qi, qh, qn, g9, aN, rr, wN, rfl, kN⟩ := hR
  obtain ⟨fsN, mN⟩ := kN.mem
  have bN := kN.n
  refine ct_enterV (cc := b_Groups_deliverOldest) (maxL := 4) (ret := none) (by decide +kernel) (Nat.le_of_ble_eq_true rfl) ?_
  intro p e s m args below meth c hx hb hml hr ht hown hlk hnm A Q hA hK hP hD hQ ls hl
  have hown : s.vm.findClass R_Groups = some m.cls := hown
  have hS : va_S A s.heap s.heap [] := va_S.rf
  have hl : lv_has ls 4 [(0, .ref h)] := hl
  refine lv_aload_n hx hb d_Groups_deliverOldest_0 rfl (lv_at hl 0 rfl) ?_
  refine va_get (D := D) (ci := 7) (v := .ref aN) (C := R_Groups) (T := T_Groups) (N := 6) hx hb ht in_Groups hown hK hP 0 rfl rfl 5 (by decide) (ht _ kl_Groups_31) (fun _ h9 => h9) rfl d_Groups_deliverOldest_1 ?_
  refine lv_iconst (v := nI 0) hx hb d_Groups_deliverOldest_4 (by decide) ?_
  refine lv_iconst (v := nI 0) hx hb d_Groups_deliverOldest_5 (by decide) ?_
  refine ct_rdV (C := R_Rows) (ci := 0) (As := [.int (nI 0), .int (nI 0)]) (rest := []) ⟨hx, hb, hml, hown, ht⟩ (k_Rows_get l D cI cZ cJ cG kN 0 0 hn (by decide)) (cb_V ht kc_Rows_get kl_Groups_51 kn_Rows ki_Rows_get ks_Rows_get hd_Rows_get ⟨Nat.le_of_ble_eq_true rfl, Nat.le_of_ble_eq_true rfl⟩) (wd_mem 6 rfl mN) rfl rfl (wd_ct (Bs := [[(h, .inr (7, [.ref aE, .ref qi, .ref qh, .ref qn, .ref g9, .ref aN]))], [(qi, .inl (cI, 8, .inl (lI G.1)))], [(qh, .inl (cI, 8, .inl G.2.1))], [(qn, .inl (cI, 8, .inl (cN G.2.2.2.2)))], [(g9, .inl (cG, 12, .inr (.inr (.inr (.inr (go rr))))))], gd cI 8 rr (gN G.2.2.1), wN]) 7 rfl [6] [0, 1, 2, 3, 4, 5] (by decide) (wd_1 _)) hK hP hD hS hA rfl hl.1 rfl (Nat.le_of_ble_eq_true rfl) ⟨(show 0 + 0 ≤ 0 by omega), (show 0 + 0 ≤ 0 by omega)⟩ d_Groups_deliverOldest_6 (fun rhr1 H locs hr1 hP hD hS => ?_)
  subst hr1
  refine W.eq (g2 := F0 m 9 ls [.int (G.2.2.2.1.2.2 0 0)]) rfl ?_
  refine W.eq (g2 := F0 m 9 ls [.int (nI g)]) (congrArg (fun z => F0 m 9 ls (.int z :: [])) (hg0)) ?_
  refine lv_istore_n hx hb d_Groups_deliverOldest_9 rfl hl (by decide) rfl (fun ls hl => ?_)
  have hl : lv_has ls 4 [(1, .int (nI g)), (0, .ref h)] := hl
  refine lv_aload_n hx hb d_Groups_deliverOldest_10 rfl (lv_at hl 1 rfl) ?_
  refine va_get (D := D) (ci := 7) (v := .ref aN) (C := R_Groups) (T := T_Groups) (N := 6) hx hb ht in_Groups hown hK hP 0 rfl rfl 5 (by decide) (ht _ kl_Groups_31) (fun _ h9 => h9) rfl d_Groups_deliverOldest_11 ?_
  refine lv_iconst (v := nI 0) hx hb d_Groups_deliverOldest_14 (by decide) ?_
  refine lv_iconst (v := nI 1) hx hb d_Groups_deliverOldest_15 (by decide) ?_
  refine ct_rdV (C := R_Rows) (ci := 0) (As := [.int (nI 0), .int (nI 1)]) (rest := []) ⟨hx, hb, hml, hown, ht⟩ (k_Rows_get l D cI cZ cJ cG kN 0 1 hn (by decide)) (cb_V ht kc_Rows_get kl_Groups_51 kn_Rows ki_Rows_get ks_Rows_get hd_Rows_get ⟨Nat.le_of_ble_eq_true rfl, Nat.le_of_ble_eq_true rfl⟩) (wd_mem 6 rfl mN) rfl rfl (wd_ct (Bs := [[(h, .inr (7, [.ref aE, .ref qi, .ref qh, .ref qn, .ref g9, .ref aN]))], [(qi, .inl (cI, 8, .inl (lI G.1)))], [(qh, .inl (cI, 8, .inl G.2.1))], [(qn, .inl (cI, 8, .inl (cN G.2.2.2.2)))], [(g9, .inl (cG, 12, .inr (.inr (.inr (.inr (go rr))))))], gd cI 8 rr (gN G.2.2.1), wN]) 7 rfl [6] [0, 1, 2, 3, 4, 5] (by decide) (wd_1 _)) hK hP hD hS hA rfl hl.1 rfl (Nat.le_of_ble_eq_true rfl) ⟨(show 0 + 0 ≤ 0 by omega), (show 0 + 0 ≤ 0 by omega)⟩ d_Groups_deliverOldest_16 (fun rhr2 H locs hr2 hP hD hS => ?_)
  subst hr2
  refine W.eq (g2 := F0 m 19 ls [.int (G.2.2.2.1.2.2 0 1)]) rfl ?_
  refine lv_istore_n hx hb d_Groups_deliverOldest_19 rfl hl (by decide) rfl (fun ls hl => ?_)
  have hl : lv_has ls 4 [(2, .int (G.2.2.2.1.2.2 0 1)), (1, .int (nI g)), (0, .ref h)] := hl
  refine lv_aload_n hx hb d_Groups_deliverOldest_20 rfl (lv_at hl 2 rfl) ?_
  refine va_get (D := D) (ci := 7) (v := .ref aN) (C := R_Groups) (T := T_Groups) (N := 6) hx hb ht in_Groups hown hK hP 0 rfl rfl 5 (by decide) (ht _ kl_Groups_31) (fun _ h9 => h9) rfl d_Groups_deliverOldest_21 ?_
  refine lv_iconst (v := nI 0) hx hb d_Groups_deliverOldest_24 (by decide) ?_
  refine lv_iconst (v := nI 2) hx hb d_Groups_deliverOldest_25 (by decide) ?_
  refine ct_rdV (C := R_Rows) (ci := 0) (As := [.int (nI 0), .int (nI 2)]) (rest := []) ⟨hx, hb, hml, hown, ht⟩ (k_Rows_get l D cI cZ cJ cG kN 0 2 hn (by decide)) (cb_V ht kc_Rows_get kl_Groups_51 kn_Rows ki_Rows_get ks_Rows_get hd_Rows_get ⟨Nat.le_of_ble_eq_true rfl, Nat.le_of_ble_eq_true rfl⟩) (wd_mem 6 rfl mN) rfl rfl (wd_ct (Bs := [[(h, .inr (7, [.ref aE, .ref qi, .ref qh, .ref qn, .ref g9, .ref aN]))], [(qi, .inl (cI, 8, .inl (lI G.1)))], [(qh, .inl (cI, 8, .inl G.2.1))], [(qn, .inl (cI, 8, .inl (cN G.2.2.2.2)))], [(g9, .inl (cG, 12, .inr (.inr (.inr (.inr (go rr))))))], gd cI 8 rr (gN G.2.2.1), wN]) 7 rfl [6] [0, 1, 2, 3, 4, 5] (by decide) (wd_1 _)) hK hP hD hS hA rfl hl.1 rfl (Nat.le_of_ble_eq_true rfl) ⟨(show 0 + 0 ≤ 0 by omega), (show 0 + 0 ≤ 0 by omega)⟩ d_Groups_deliverOldest_26 (fun rhr3 H locs hr3 hP hD hS => ?_)
  subst hr3
  refine W.eq (g2 := F0 m 29 ls [.int (G.2.2.2.1.2.2 0 2)]) rfl ?_
  refine lv_iconst (v := nI 1) hx hb d_Groups_deliverOldest_29 (by decide) ?_
  refine lv_icmp_ne hx hb d_Groups_deliverOldest_30 (tgt := 37) (by decide) (fun h1 => ?_) (fun h1 => ?_)
  · refine lv_iconst (v := nI 0) hx hb d_Groups_deliverOldest_37 (by decide) ?_
    refine lv_istore_n hx hb d_Groups_deliverOldest_38 rfl hl (by decide) rfl (fun ls hl => ?_)
    have hl : lv_has ls 4 [(3, .int (nI 0)), (2, .int (G.2.2.2.1.2.2 0 1)), (1, .int (nI g)), (0, .ref h)] := hl
    refine lv_aload_n hx hb d_Groups_deliverOldest_39 rfl (lv_at hl 3 rfl) ?_
    refine lv_iload_n hx hb d_Groups_deliverOldest_40 rfl (lv_at hl 2 rfl) ?_
    refine ct_callVV (C := R_Groups) (ci := 7) (As := [.int (nI g)]) (rest := []) ⟨hx, hb, hml, hown, ht⟩ (k_Groups_dropOldest l D cI cZ cJ cG hR9 g hg hn hnf) (cb_V ht kc_Groups_dropOldest kl_Groups_55 kn_Groups ki_Groups_dropOldest ks_Groups_dropOldest hd_Groups_dropOldest ⟨Nat.le_of_ble_eq_true rfl, Nat.le_of_ble_eq_true rfl⟩) (List.mem_of_getElem? (i := 0) rfl) rfl rfl (pm_all _) hK hP hD hS hA rfl hl.1 rfl (Nat.le_of_ble_eq_true rfl) ⟨(show 0 + 0 ≤ 0 by omega), (show 0 + 0 ≤ 0 by omega)⟩ d_Groups_deliverOldest_41 (fun u5 H locs hu5 hP hD hS => ?_)
    obtain ⟨qi, qh, qn, g9, aN, rr, wN2, rfl, kN2⟩ := hu5
    refine W.widen (k := 0) (n := 0) (Nat.le_refl _) (Nat.le_refl _) ?_
    rw [List.append_nil] at hP hD
    have hP : va_P D kls (List.flatten [[(h, .inr (7, [.ref aE, .ref qi, .ref qh, .ref qn, .ref g9, .ref aN]))], [(qi, .inl (cI, 8, .inl (lI G.1)))], [(qh, .inl (cI, 8, .inl G.2.1))], [(qn, .inl (cI, 8, .inl (cN (bm_up1 G.2.2.2.2 g (G.2.2.2.2 g - 1)))))], [(g9, .inl (cG, 12, .inr (.inr (.inr (.inr (go rr))))))], gd cI 8 rr (gN G.2.2.1), wN2]) H := hP
    have hD : va_D A (List.flatten [[(h, .inr (7, [.ref aE, .ref qi, .ref qh, .ref qn, .ref g9, .ref aN]))], [(qi, .inl (cI, 8, .inl (lI G.1)))], [(qh, .inl (cI, 8, .inl G.2.1))], [(qn, .inl (cI, 8, .inl (cN (bm_up1 G.2.2.2.2 g (G.2.2.2.2 g - 1)))))], [(g9, .inl (cG, 12, .inr (.inr (.inr (.inr (go rr))))))], gd cI 8 rr (gN G.2.2.1), wN2]) := hD
    refine W.eq (g2 := F0 m 44 ls []) rfl ?_
    refine lv_aload_n hx hb d_Groups_deliverOldest_44 rfl (lv_at hl 3 rfl) ?_
    refine va_get (D := D) (ci := 7) (v := .ref qh) (C := R_Groups) (T := T_Groups) (N := 6) hx hb ht in_Groups hown hK hP 0 rfl rfl 2 (by decide) (ht _ kl_Groups_15) (fun _ h9 => h9) rfl d_Groups_deliverOldest_45 ?_
    refine lv_iload_n hx hb d_Groups_deliverOldest_48 rfl (lv_at hl 2 rfl) ?_
    refine lv_iload_n hx hb d_Groups_deliverOldest_49 rfl (lv_at hl 0 rfl) ?_
    refine ri_if_eq hx hb (by omega) d_Groups_deliverOldest_50 (tgt := 64) (by decide) (fun h6 => ?_) (fun h6 => ?_)
    · refine lv_aload_n hx hb d_Groups_deliverOldest_64 rfl (lv_at hl 3 rfl) ?_
      refine va_get (D := D) (ci := 7) (v := .ref qh) (C := R_Groups) (T := T_Groups) (N := 6) hx hb ht in_Groups hown hK hP 0 rfl rfl 2 (by decide) (ht _ kl_Groups_15) (fun _ h9 => h9) rfl d_Groups_deliverOldest_65 ?_
      refine lv_iload_n hx hb d_Groups_deliverOldest_68 rfl (lv_at hl 2 rfl) ?_
      refine ri_iald hx hb hK hP 2 0 rfl rfl (j := g) (by omega) (by omega) d_Groups_deliverOldest_69 ?_
      refine lv_iload_n hx hb d_Groups_deliverOldest_70 rfl (lv_at hl 1 rfl) ?_
      refine lv_iconst (v := (-1)) hx hb d_Groups_deliverOldest_71 (by decide) ?_
      refine lv_ixor hx hb d_Groups_deliverOldest_72 ?_
      refine lv_iand hx hb d_Groups_deliverOldest_73 ?_
      refine ri_iast hx hb hK hP hD hS 2 0 rfl rfl (j := g) (by omega) (by omega) d_Groups_deliverOldest_74 (fun H locs hP hD hS => ?_)
      have hP : va_P D kls (List.flatten [[(h, .inr (7, [.ref aE, .ref qi, .ref qh, .ref qn, .ref g9, .ref aN]))], [(qi, .inl (cI, 8, .inl (lI G.1)))], [(qh, .inl (cI, 8, .inl (upd G.2.1 g ((G.2.1 g) &&& ((G.2.2.2.1.2.2 0 1) ^^^ ((-1)))))))], [(qn, .inl (cI, 8, .inl (cN (bm_up1 G.2.2.2.2 g (G.2.2.2.2 g - 1)))))], [(g9, .inl (cG, 12, .inr (.inr (.inr (.inr (go rr))))))], gd cI 8 rr (gN G.2.2.1), wN2]) H := hP
      have hD : va_D A (List.flatten [[(h, .inr (7, [.ref aE, .ref qi, .ref qh, .ref qn, .ref g9, .ref aN]))], [(qi, .inl (cI, 8, .inl (lI G.1)))], [(qh, .inl (cI, 8, .inl (upd G.2.1 g ((G.2.1 g) &&& ((G.2.2.2.1.2.2 0 1) ^^^ ((-1)))))))], [(qn, .inl (cI, 8, .inl (cN (bm_up1 G.2.2.2.2 g (G.2.2.2.2 g - 1)))))], [(g9, .inl (cG, 12, .inr (.inr (.inr (.inr (go rr))))))], gd cI 8 rr (gN G.2.2.1), wN2]) := hD
      have hv : (if G.2.2.2.1.2.2 0 2 = nI 1 then G.2.1 g ||| G.2.2.2.1.2.2 0 1 else G.2.1 g &&& (G.2.2.2.1.2.2 0 1 ^^^ (-1))) = _ := if_neg h1
      have hdl := bm_gdel_at (bm_gof_at hg hg0)
      unfold bm_gdelAt at hdl
      rw [hv] at hdl
      exact ct_vret hQ hx hb hr hlk hP hD hS hK (by omega) (by omega) d_Groups_deliverOldest_75 (by rw [hdl]; exact ⟨qi, qh, qn, g9, aN, rr, wN2, rfl, kN2⟩)
    · exact absurd h6 (by decide)
  · refine lv_iconst (v := nI 1) hx hb d_Groups_deliverOldest_33 (by decide) ?_
    refine lv_goto hx hb d_Groups_deliverOldest_34 (tgt := 38) (by decide) ?_
    refine lv_istore_n hx hb d_Groups_deliverOldest_38 rfl hl (by decide) rfl (fun ls hl => ?_)
    have hl : lv_has ls 4 [(3, .int (nI 1)), (2, .int (G.2.2.2.1.2.2 0 1)), (1, .int (nI g)), (0, .ref h)] := hl
    refine lv_aload_n hx hb d_Groups_deliverOldest_39 rfl (lv_at hl 3 rfl) ?_
    refine lv_iload_n hx hb d_Groups_deliverOldest_40 rfl (lv_at hl 2 rfl) ?_
    refine ct_callVV (C := R_Groups) (ci := 7) (As := [.int (nI g)]) (rest := []) ⟨hx, hb, hml, hown, ht⟩ (k_Groups_dropOldest l D cI cZ cJ cG hR9 g hg hn hnf) (cb_V ht kc_Groups_dropOldest kl_Groups_55 kn_Groups ki_Groups_dropOldest ks_Groups_dropOldest hd_Groups_dropOldest ⟨Nat.le_of_ble_eq_true rfl, Nat.le_of_ble_eq_true rfl⟩) (List.mem_of_getElem? (i := 0) rfl) rfl rfl (pm_all _) hK hP hD hS hA rfl hl.1 rfl (Nat.le_of_ble_eq_true rfl) ⟨(show 0 + 0 ≤ 0 by omega), (show 0 + 0 ≤ 0 by omega)⟩ d_Groups_deliverOldest_41 (fun u7 H locs hu7 hP hD hS => ?_)
    obtain ⟨qi, qh, qn, g9, aN, rr, wN2, rfl, kN2⟩ := hu7
    refine W.widen (k := 0) (n := 0) (Nat.le_refl _) (Nat.le_refl _) ?_
    rw [List.append_nil] at hP hD
    have hP : va_P D kls (List.flatten [[(h, .inr (7, [.ref aE, .ref qi, .ref qh, .ref qn, .ref g9, .ref aN]))], [(qi, .inl (cI, 8, .inl (lI G.1)))], [(qh, .inl (cI, 8, .inl G.2.1))], [(qn, .inl (cI, 8, .inl (cN (bm_up1 G.2.2.2.2 g (G.2.2.2.2 g - 1)))))], [(g9, .inl (cG, 12, .inr (.inr (.inr (.inr (go rr))))))], gd cI 8 rr (gN G.2.2.1), wN2]) H := hP
    have hD : va_D A (List.flatten [[(h, .inr (7, [.ref aE, .ref qi, .ref qh, .ref qn, .ref g9, .ref aN]))], [(qi, .inl (cI, 8, .inl (lI G.1)))], [(qh, .inl (cI, 8, .inl G.2.1))], [(qn, .inl (cI, 8, .inl (cN (bm_up1 G.2.2.2.2 g (G.2.2.2.2 g - 1)))))], [(g9, .inl (cG, 12, .inr (.inr (.inr (.inr (go rr))))))], gd cI 8 rr (gN G.2.2.1), wN2]) := hD
    refine W.eq (g2 := F0 m 44 ls []) rfl ?_
    refine lv_aload_n hx hb d_Groups_deliverOldest_44 rfl (lv_at hl 3 rfl) ?_
    refine va_get (D := D) (ci := 7) (v := .ref qh) (C := R_Groups) (T := T_Groups) (N := 6) hx hb ht in_Groups hown hK hP 0 rfl rfl 2 (by decide) (ht _ kl_Groups_15) (fun _ h9 => h9) rfl d_Groups_deliverOldest_45 ?_
    refine lv_iload_n hx hb d_Groups_deliverOldest_48 rfl (lv_at hl 2 rfl) ?_
    refine lv_iload_n hx hb d_Groups_deliverOldest_49 rfl (lv_at hl 0 rfl) ?_
    refine ri_if_eq hx hb (by omega) d_Groups_deliverOldest_50 (tgt := 64) (by decide) (fun h8 => ?_) (fun h8 => ?_)
    · exact absurd h8 (by decide)
    · refine lv_aload_n hx hb d_Groups_deliverOldest_53 rfl (lv_at hl 3 rfl) ?_
      refine va_get (D := D) (ci := 7) (v := .ref qh) (C := R_Groups) (T := T_Groups) (N := 6) hx hb ht in_Groups hown hK hP 0 rfl rfl 2 (by decide) (ht _ kl_Groups_15) (fun _ h9 => h9) rfl d_Groups_deliverOldest_54 ?_
      refine lv_iload_n hx hb d_Groups_deliverOldest_57 rfl (lv_at hl 2 rfl) ?_
      refine ri_iald hx hb hK hP 2 0 rfl rfl (j := g) (by omega) (by omega) d_Groups_deliverOldest_58 ?_
      refine lv_iload_n hx hb d_Groups_deliverOldest_59 rfl (lv_at hl 1 rfl) ?_
      refine lv_ior hx hb d_Groups_deliverOldest_60 ?_
      refine lv_goto hx hb d_Groups_deliverOldest_61 (tgt := 74) (by decide) ?_
      refine ri_iast hx hb hK hP hD hS 2 0 rfl rfl (j := g) (by omega) (by omega) d_Groups_deliverOldest_74 (fun H locs hP hD hS => ?_)
      have hP : va_P D kls (List.flatten [[(h, .inr (7, [.ref aE, .ref qi, .ref qh, .ref qn, .ref g9, .ref aN]))], [(qi, .inl (cI, 8, .inl (lI G.1)))], [(qh, .inl (cI, 8, .inl (upd G.2.1 g ((G.2.1 g) ||| (G.2.2.2.1.2.2 0 1)))))], [(qn, .inl (cI, 8, .inl (cN (bm_up1 G.2.2.2.2 g (G.2.2.2.2 g - 1)))))], [(g9, .inl (cG, 12, .inr (.inr (.inr (.inr (go rr))))))], gd cI 8 rr (gN G.2.2.1), wN2]) H := hP
      have hD : va_D A (List.flatten [[(h, .inr (7, [.ref aE, .ref qi, .ref qh, .ref qn, .ref g9, .ref aN]))], [(qi, .inl (cI, 8, .inl (lI G.1)))], [(qh, .inl (cI, 8, .inl (upd G.2.1 g ((G.2.1 g) ||| (G.2.2.2.1.2.2 0 1)))))], [(qn, .inl (cI, 8, .inl (cN (bm_up1 G.2.2.2.2 g (G.2.2.2.2 g - 1)))))], [(g9, .inl (cG, 12, .inr (.inr (.inr (.inr (go rr))))))], gd cI 8 rr (gN G.2.2.1), wN2]) := hD
      have hv : (if G.2.2.2.1.2.2 0 2 = nI 1 then G.2.1 g ||| G.2.2.2.1.2.2 0 1 else G.2.1 g &&& (G.2.2.2.1.2.2 0 1 ^^^ (-1))) = _ := if_pos h1
      have hdl := bm_gdel_at (bm_gof_at hg hg0)
      unfold bm_gdelAt at hdl
      rw [hv] at hdl
      exact ct_vret hQ hx hb hr hlk hP hD hS hK (by omega) (by omega) d_Groups_deliverOldest_75 (by rw [hdl]; exact ⟨qi, qh, qn, g9, aN, rr, wN2, rfl, kN2⟩)
set_option maxHeartbeats 4000000 in
set_option maxRecDepth 100000 in
theorem k_Groups_loseOldest (l : Launch) (D : va_G) (cI cZ cJ cG : ClassId) {h aE : Nat} {G : bm_G} {ws : va_W} (hR : gp_R cI cG h aE G ws) (hgo : 0 < G.2.2.2.1.2.1 → ∃ g, g < 8 ∧ G.2.2.2.1.2.2 0 0 = nI g ∧ 0 < G.2.2.2.2 g) : ct_I l D kls (ty4 cI cZ cJ cG) y_Groups_loseOldest ws_Groups_loseOldest (rm_ 2 45 0 0) [.ref h] (ws) (fun z u => z = nI (if G.2.2.2.1.2.1 = 0 then 0 else 1) ∧ gp_R cI cG h aE (bm_glose G) u) 0 0 := by
  have hR9 := hR
  obtain ⟨qi, qh, qn, g9, aN, rr, wN, rfl, kN⟩ := hR
  obtain ⟨fsN, mN⟩ := kN.mem
  have bN := kN.n
  refine ct_enterI (cc := b_Groups_loseOldest) (maxL := 1) (ret := (some .int)) (by decide +kernel) (Nat.le_of_ble_eq_true rfl) ?_
  intro p e s m args below meth c hx hb hml hr ht hown hlk hnm A Q hA hK hP hD hQ ls hl
  have hown : s.vm.findClass R_Groups = some m.cls := hown
  have hS : va_S A s.heap s.heap [] := va_S.rf
  have hl : lv_has ls 1 [(0, .ref h)] := hl
  refine lv_aload_n hx hb d_Groups_loseOldest_0 rfl (lv_at hl 0 rfl) ?_
  refine va_get (D := D) (ci := 7) (v := .ref aN) (C := R_Groups) (T := T_Groups) (N := 6) hx hb ht in_Groups hown hK hP 0 rfl rfl 5 (by decide) (ht _ kl_Groups_31) (fun _ h9 => h9) rfl d_Groups_loseOldest_1 ?_
  refine ct_rdV (C := R_Rows) (ci := 0) (As := []) (rest := []) ⟨hx, hb, hml, hown, ht⟩ (k_Rows_size l D cI cZ cJ cG kN) (cb_V ht kc_Rows_size kl_Groups_39 kn_Rows ki_Rows_size ks_Rows_size hd_Rows_size ⟨Nat.le_of_ble_eq_true rfl, Nat.le_of_ble_eq_true rfl⟩) (wd_mem 6 rfl mN) rfl rfl (wd_ct (Bs := [[(h, .inr (7, [.ref aE, .ref qi, .ref qh, .ref qn, .ref g9, .ref aN]))], [(qi, .inl (cI, 8, .inl (lI G.1)))], [(qh, .inl (cI, 8, .inl G.2.1))], [(qn, .inl (cI, 8, .inl (cN G.2.2.2.2)))], [(g9, .inl (cG, 12, .inr (.inr (.inr (.inr (go rr))))))], gd cI 8 rr (gN G.2.2.1), wN]) 7 rfl [6] [0, 1, 2, 3, 4, 5] (by decide) (wd_1 _)) hK hP hD hS hA rfl hl.1 rfl (Nat.le_of_ble_eq_true rfl) ⟨(show 0 + 0 ≤ 0 by omega), (show 0 + 0 ≤ 0 by omega)⟩ d_Groups_loseOldest_4 (fun rhr1 H locs hr1 hP hD hS => ?_)
  subst hr1
  refine ri_if_ne hx hb (by omega) d_Groups_loseOldest_7 (tgt := 12) (by decide) (fun h1 => ?_) (fun h1 => ?_)
  · have hn : 0 < G.2.2.2.1.2.1 := by omega
    obtain ⟨g, hg, hg0, hnf⟩ := hgo hn
    refine lv_aload_n hx hb d_Groups_loseOldest_12 rfl (lv_at hl 0 rfl) ?_
    refine lv_aload_n hx hb d_Groups_loseOldest_13 rfl (lv_at hl 0 rfl) ?_
    refine va_get (D := D) (ci := 7) (v := .ref aN) (C := R_Groups) (T := T_Groups) (N := 6) hx hb ht in_Groups hown hK hP 0 rfl rfl 5 (by decide) (ht _ kl_Groups_31) (fun _ h9 => h9) rfl d_Groups_loseOldest_14 ?_
    refine lv_iconst (v := nI 0) hx hb d_Groups_loseOldest_17 (by decide) ?_
    refine lv_iconst (v := nI 0) hx hb d_Groups_loseOldest_18 (by decide) ?_
    refine ct_rdV (C := R_Rows) (ci := 0) (As := [.int (nI 0), .int (nI 0)]) (rest := [.ref h]) ⟨hx, hb, hml, hown, ht⟩ (k_Rows_get l D cI cZ cJ cG kN 0 0 hn (by decide)) (cb_V ht kc_Rows_get kl_Groups_51 kn_Rows ki_Rows_get ks_Rows_get hd_Rows_get ⟨Nat.le_of_ble_eq_true rfl, Nat.le_of_ble_eq_true rfl⟩) (wd_mem 6 rfl mN) rfl rfl (wd_ct (Bs := [[(h, .inr (7, [.ref aE, .ref qi, .ref qh, .ref qn, .ref g9, .ref aN]))], [(qi, .inl (cI, 8, .inl (lI G.1)))], [(qh, .inl (cI, 8, .inl G.2.1))], [(qn, .inl (cI, 8, .inl (cN G.2.2.2.2)))], [(g9, .inl (cG, 12, .inr (.inr (.inr (.inr (go rr))))))], gd cI 8 rr (gN G.2.2.1), wN]) 7 rfl [6] [0, 1, 2, 3, 4, 5] (by decide) (wd_1 _)) hK hP hD hS hA rfl hl.1 rfl (Nat.le_of_ble_eq_true rfl) ⟨(show 0 + 0 ≤ 0 by omega), (show 0 + 0 ≤ 0 by omega)⟩ d_Groups_loseOldest_19 (fun rhr3 H locs hr3 hP hD hS => ?_)
    subst hr3
    refine W.eq (g2 := F0 m 22 ls [.int (G.2.2.2.1.2.2 0 0), .ref h]) rfl ?_
    refine W.eq (g2 := F0 m 22 ls [.int (nI g), .ref h]) (congrArg (fun z => F0 m 22 ls (.int z :: [.ref h])) (hg0)) ?_
    refine ct_callVV (C := R_Groups) (ci := 7) (As := [.int (nI g)]) (rest := []) ⟨hx, hb, hml, hown, ht⟩ (k_Groups_dropOldest l D cI cZ cJ cG hR9 g hg hn hnf) (cb_V ht kc_Groups_dropOldest kl_Groups_55 kn_Groups ki_Groups_dropOldest ks_Groups_dropOldest hd_Groups_dropOldest ⟨Nat.le_of_ble_eq_true rfl, Nat.le_of_ble_eq_true rfl⟩) (List.mem_of_getElem? (i := 0) rfl) rfl rfl (pm_all _) hK hP hD hS hA rfl hl.1 rfl (Nat.le_of_ble_eq_true rfl) ⟨(show 0 + 0 ≤ 0 by omega), (show 0 + 0 ≤ 0 by omega)⟩ d_Groups_loseOldest_22 (fun u4 H locs hu4 hP hD hS => ?_)
    obtain ⟨qi, qh, qn, g9, aN, rr, wN2, rfl, kN2⟩ := hu4
    refine W.widen (k := 0) (n := 0) (Nat.le_refl _) (Nat.le_refl _) ?_
    rw [List.append_nil] at hP hD
    have hP : va_P D kls (List.flatten [[(h, .inr (7, [.ref aE, .ref qi, .ref qh, .ref qn, .ref g9, .ref aN]))], [(qi, .inl (cI, 8, .inl (lI G.1)))], [(qh, .inl (cI, 8, .inl G.2.1))], [(qn, .inl (cI, 8, .inl (cN (bm_up1 G.2.2.2.2 g (G.2.2.2.2 g - 1)))))], [(g9, .inl (cG, 12, .inr (.inr (.inr (.inr (go rr))))))], gd cI 8 rr (gN G.2.2.1), wN2]) H := hP
    have hD : va_D A (List.flatten [[(h, .inr (7, [.ref aE, .ref qi, .ref qh, .ref qn, .ref g9, .ref aN]))], [(qi, .inl (cI, 8, .inl (lI G.1)))], [(qh, .inl (cI, 8, .inl G.2.1))], [(qn, .inl (cI, 8, .inl (cN (bm_up1 G.2.2.2.2 g (G.2.2.2.2 g - 1)))))], [(g9, .inl (cG, 12, .inr (.inr (.inr (.inr (go rr))))))], gd cI 8 rr (gN G.2.2.1), wN2]) := hD
    refine W.eq (g2 := F0 m 25 ls []) rfl ?_
    refine lv_iconst (v := nI 1) hx hb d_Groups_loseOldest_25 (by decide) ?_
    exact ct_iret hQ hx hb hr hlk hP hD hS hK (by omega) (by omega) d_Groups_loseOldest_26 (⟨by rw [if_neg h1], by unfold bm_glose; rw [if_neg h1, bm_gof_at hg hg0]; exact ⟨qi, qh, qn, g9, aN, rr, wN2, rfl, kN2⟩⟩)
  · refine lv_iconst (v := nI 0) hx hb d_Groups_loseOldest_10 (by decide) ?_
    exact ct_iret hQ hx hb hr hlk hP hD hS hK (by omega) (by omega) d_Groups_loseOldest_11 (⟨by rw [if_pos h1], by unfold bm_glose; rw [if_pos h1]; exact hR9⟩)
