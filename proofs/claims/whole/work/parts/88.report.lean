/-! BitNet: report. -/
theorem gp_R.n {cI cG : ClassId} {h aE : Nat} {G : bm_G} {ws : va_W} (hR : gp_R cI cG h aE G ws) : G.2.2.2.1.2.1 ≤ 100000 := by
  obtain ⟨qi, qh, qn, g9, aN, rr, wN, -, k⟩ := hR
  have h1 := k.n
  omega
def bm_rep (e : Nat) (S : bm_S) : bm_S := (S.eb, S.tk, S.es, S.lk, S.kn, S.T, S.lost, S.D, bm_tellA S.eb e S.G 8)
set_option maxHeartbeats 800000 in
set_option maxRecDepth 100000 in
theorem k_Net_report (l : Launch) (D : va_G) (cI cZ cJ cG : ClassId) {h : Nat} {S : bm_S} {ws : va_W} (hR : nt_R cI cZ cG h S ws) (hg9 : bm_gi S) (e9 : Nat) (he : e9 < 12) (hee : bm_em (S.eb e9) ≠ 0) (hn9 : S.G.2.2.2.1.2.1 < 3900) (hc : (bm_tellA S.eb e9 S.G 8).2.2.2.1.1 ≤ 50000) : ct_V l D kls (ty4 cI cZ cJ cG) y_Net_report ws_Net_report (rm_ 5 118 ((bm_tellA S.eb e9 S.G 8).2.2.2.1.1 - S.G.2.2.2.1.1) (2 * 3 * ((bm_tellA S.eb e9 S.G 8).2.2.2.1.1 - S.G.2.2.2.1.1))) [.ref h, .int (nI e9)] (ws) (fun u => nt_R cI cZ cG h (bm_rep e9 S) u) ((bm_tellA S.eb e9 S.G 8).2.2.2.1.1 - S.G.2.2.2.1.1) (2 * 3 * ((bm_tellA S.eb e9 S.G 8).2.2.2.1.1 - S.G.2.2.2.1.1)) := by
  have hR9 := hR
  obtain ⟨aE, aL, aS, aK, aR, aD, aG, aM, aP, aC, wE, wL, wS, wM, wR, wD, wG, rfl, kE, kL, kS, kM, kR, kD, kG⟩ := hR
  obtain ⟨fsE, mE⟩ := kE.mem
  obtain ⟨fsL, mL⟩ := kL.mem
  obtain ⟨fsS, mS⟩ := kS.mem
  obtain ⟨fsR, mR⟩ := kR.mem
  obtain ⟨fsD, mD⟩ := kD.mem
  obtain ⟨fsG, mG⟩ := kG.mem
  refine ct_enterV (cc := b_Net_report) (maxL := 2) (ret := none) (by decide +kernel) (Nat.le_of_ble_eq_true rfl) ?_
  intro p e s m args below meth c hx hb hml hr ht hown hlk hnm A Q hA hK hP hD hQ ls hl
  have hown : s.vm.findClass R_Net = some m.cls := hown
  have hS : va_S A s.heap s.heap [] := va_S.rf
  have hl : lv_has ls 2 [(0, .ref h), (1, .int (nI e9))] := hl
  refine lv_aload_n hx hb d_Net_report_0 rfl (lv_at hl 0 rfl) ?_
  refine va_get (D := D) (ci := 8) (v := .ref aG) (C := R_Net) (T := T_Net) (N := 7) hx hb ht in_Net hown hK hP 0 rfl rfl 6 (by decide) (ht _ kl_Net_62) (fun _ h9 => h9) rfl d_Net_report_1 ?_
  refine ct_rdV (C := R_Groups) (ci := 7) (As := []) (rest := []) ⟨hx, hb, hml, hown, ht⟩ (k_Groups_onTheWay l D cI cZ cJ cG kG) (cb_V ht kc_Groups_onTheWay kl_Net_179 kn_Groups ki_Groups_onTheWay ks_Groups_onTheWay hd_Groups_onTheWay ⟨Nat.le_of_ble_eq_true rfl, Nat.le_of_ble_eq_true rfl⟩) (wd_mem 8 rfl mG) rfl rfl (wd_ct (Bs := [[(h, .inr (8, [.ref aE, .ref aL, .ref aS, .ref aK, .ref aR, .ref aD, .ref aG]))], [(aK, .inr (4, [.ref aL, .ref aS, .ref aM, .int S.lost]))], wE, wL, wS, wM, wR, wD, wG]) 9 rfl [8] [0, 1, 2, 3, 4, 5, 6, 7] (by decide) (wd_1 _)) hK hP hD hS hA rfl hl.1 rfl (Nat.le_of_ble_eq_true rfl) ⟨(show 0 + 0 ≤ ((bm_tellA S.eb e9 S.G 8).2.2.2.1.1 - S.G.2.2.2.1.1) by omega), (show 0 + 0 ≤ (2 * 3 * ((bm_tellA S.eb e9 S.G 8).2.2.2.1.1 - S.G.2.2.2.1.1)) by omega)⟩ d_Net_report_4 (fun rhr1 H locs hr1 hP hD hS => ?_)
  subst hr1
  refine lv_sipush (v := nI 3900) hx hb d_Net_report_7 (by decide) ?_
  refine ri_icmp_ge hx hb (by omega) (by omega) d_Net_report_10 (tgt := 17) (by decide) (fun h10 => ?_) (fun h10 => ?_)
  · exact absurd h10 (by omega)
  · refine lv_iconst (v := nI 1) hx hb d_Net_report_13 (by decide) ?_
    refine lv_goto hx hb d_Net_report_14 (tgt := 18) (by decide) ?_
    refine W.eq (g2 := F0 m 18 ls [.int (bI true)]) (congrArg (fun z => F0 m 18 ls (.int z :: [])) (rfl)) ?_
    refine ct_callSV (As := [.int (bI true)]) (rest := []) ⟨hx, hb, hml, hown, ht⟩ (k_Net_demandRoom l D cI cZ cJ cG) (cb_S ht kc_Net_demandRoom kl_Net_88 kn_Net ki_Net_demandRoom hd_Net_demandRoom ⟨Nat.le_of_ble_eq_true rfl, Nat.le_of_ble_eq_true rfl⟩) (wd_ct (Bs := [[(h, .inr (8, [.ref aE, .ref aL, .ref aS, .ref aK, .ref aR, .ref aD, .ref aG]))], [(aK, .inr (4, [.ref aL, .ref aS, .ref aM, .int S.lost]))], wE, wL, wS, wM, wR, wD, wG]) 9 rfl [] [0, 1, 2, 3, 4, 5, 6, 7, 8] (by decide) rfl) hK hP hD hS hA rfl hl.1 rfl (Nat.le_of_ble_eq_true rfl) ⟨(Nat.zero_le _), (Nat.zero_le _)⟩ d_Net_report_18 (fun u3 H locs hu3 hP hD hS => ?_)
    subst hu3
    refine W.widen (k := 0) (n := 0) (Nat.le_refl _) (Nat.le_refl _) ?_
    have hP := wd_nP (N := []) rfl 9 rfl [0, 1, 2, 3, 4, 5, 6, 7, 8] (by decide) hP
    have hD := wd_nD (N := []) rfl 9 rfl [0, 1, 2, 3, 4, 5, 6, 7, 8] (by decide) hD
    have hP : va_P D kls (List.flatten [[(h, .inr (8, [.ref aE, .ref aL, .ref aS, .ref aK, .ref aR, .ref aD, .ref aG]))], [(aK, .inr (4, [.ref aL, .ref aS, .ref aM, .int S.lost]))], wE, wL, wS, wM, wR, wD, wG]) H := hP
    have hD : va_D A (List.flatten [[(h, .inr (8, [.ref aE, .ref aL, .ref aS, .ref aK, .ref aR, .ref aD, .ref aG]))], [(aK, .inr (4, [.ref aL, .ref aS, .ref aM, .int S.lost]))], wE, wL, wS, wM, wR, wD, wG]) := hD
    refine W.eq (g2 := F0 m 21 ls []) rfl ?_
    refine lv_aload_n hx hb d_Net_report_21 rfl (lv_at hl 0 rfl) ?_
    refine lv_iload_n hx hb d_Net_report_22 rfl (lv_at hl 1 rfl) ?_
    refine ct_rdV (C := R_Net) (ci := 8) (As := [.int (nI e9)]) (rest := []) ⟨hx, hb, hml, hown, ht⟩ (k_Net_isEdge l D cI cZ cJ cG hR9 (nI e9)) (cb_V ht kc_Net_isEdge kl_Net_162 kn_Net ki_Net_isEdge ks_Net_isEdge hd_Net_isEdge ⟨Nat.le_of_ble_eq_true rfl, Nat.le_of_ble_eq_true rfl⟩) (List.mem_of_getElem? (i := 0) rfl) rfl rfl (wd_ct (Bs := [[(h, .inr (8, [.ref aE, .ref aL, .ref aS, .ref aK, .ref aR, .ref aD, .ref aG]))], [(aK, .inr (4, [.ref aL, .ref aS, .ref aM, .int S.lost]))], wE, wL, wS, wM, wR, wD, wG]) 9 rfl [0, 1, 2, 3, 4, 5, 6, 7, 8] [] (by decide) rfl) hK hP hD hS hA rfl hl.1 rfl (Nat.le_of_ble_eq_true rfl) ⟨(show 0 + 0 ≤ ((bm_tellA S.eb e9 S.G 8).2.2.2.1.1 - S.G.2.2.2.1.1) by omega), (show 0 + 0 ≤ (2 * 3 * ((bm_tellA S.eb e9 S.G 8).2.2.2.1.1 - S.G.2.2.2.1.1)) by omega)⟩ d_Net_report_23 (fun rhr4 H locs hr4 hP hD hS => ?_)
    subst hr4
    refine W.eq (g2 := F0 m 26 ls [.int (bI true)]) (congrArg (fun z => F0 m 26 ls (.int z :: [])) (congrArg bI ((isE_n he).trans (decide_eq_true hee)))) ?_
    refine ct_callSV (As := [.int (bI true)]) (rest := []) ⟨hx, hb, hml, hown, ht⟩ (k_Net_demand l D cI cZ cJ cG) (cb_S ht kc_Net_demand kl_Net_70 kn_Net ki_Net_demand hd_Net_demand ⟨Nat.le_of_ble_eq_true rfl, Nat.le_of_ble_eq_true rfl⟩) (wd_ct (Bs := [[(h, .inr (8, [.ref aE, .ref aL, .ref aS, .ref aK, .ref aR, .ref aD, .ref aG]))], [(aK, .inr (4, [.ref aL, .ref aS, .ref aM, .int S.lost]))], wE, wL, wS, wM, wR, wD, wG]) 9 rfl [] [0, 1, 2, 3, 4, 5, 6, 7, 8] (by decide) rfl) hK hP hD hS hA rfl hl.1 rfl (Nat.le_of_ble_eq_true rfl) ⟨(Nat.zero_le _), (Nat.zero_le _)⟩ d_Net_report_26 (fun u5 H locs hu5 hP hD hS => ?_)
    subst hu5
    refine W.widen (k := 0) (n := 0) (Nat.le_refl _) (Nat.le_refl _) ?_
    have hP := wd_nP (N := []) rfl 9 rfl [0, 1, 2, 3, 4, 5, 6, 7, 8] (by decide) hP
    have hD := wd_nD (N := []) rfl 9 rfl [0, 1, 2, 3, 4, 5, 6, 7, 8] (by decide) hD
    have hP : va_P D kls (List.flatten [[(h, .inr (8, [.ref aE, .ref aL, .ref aS, .ref aK, .ref aR, .ref aD, .ref aG]))], [(aK, .inr (4, [.ref aL, .ref aS, .ref aM, .int S.lost]))], wE, wL, wS, wM, wR, wD, wG]) H := hP
    have hD : va_D A (List.flatten [[(h, .inr (8, [.ref aE, .ref aL, .ref aS, .ref aK, .ref aR, .ref aD, .ref aG]))], [(aK, .inr (4, [.ref aL, .ref aS, .ref aM, .int S.lost]))], wE, wL, wS, wM, wR, wD, wG]) := hD
    refine W.eq (g2 := F0 m 29 ls []) rfl ?_
    refine lv_aload_n hx hb d_Net_report_29 rfl (lv_at hl 0 rfl) ?_
    refine va_get (D := D) (ci := 8) (v := .ref aG) (C := R_Net) (T := T_Net) (N := 7) hx hb ht in_Net hown hK hP 0 rfl rfl 6 (by decide) (ht _ kl_Net_62) (fun _ h9 => h9) rfl d_Net_report_30 ?_
    refine lv_iload_n hx hb d_Net_report_33 rfl (lv_at hl 1 rfl) ?_
    refine ct_callVV (C := R_Groups) (ci := 7) (As := [.int (nI e9)]) (rest := []) ⟨hx, hb, hml, hown, ht⟩ (k_Groups_tellAll l D cI cZ cJ cG kG kE e9 he (fun a b => Nat.lt_of_le_of_lt (hg9.1 a b) (by decide)) hg9.2.2.1 hc) (cb_V ht kc_Groups_tellAll kl_Net_180 kn_Groups ki_Groups_tellAll ks_Groups_tellAll hd_Groups_tellAll ⟨Nat.le_of_ble_eq_true rfl, Nat.le_of_ble_eq_true rfl⟩) (wd_mem 8 rfl mG) rfl rfl (wd_ct (Bs := [[(h, .inr (8, [.ref aE, .ref aL, .ref aS, .ref aK, .ref aR, .ref aD, .ref aG]))], [(aK, .inr (4, [.ref aL, .ref aS, .ref aM, .int S.lost]))], wE, wL, wS, wM, wR, wD, wG]) 9 rfl [8, 2] [0, 1, 3, 4, 5, 6, 7] (by decide) rfl) hK hP hD hS hA rfl hl.1 rfl (Nat.le_of_ble_eq_true rfl) ⟨(Nat.le_of_eq (Nat.zero_add _)), (Nat.le_of_eq (Nat.zero_add _))⟩ d_Net_report_34 (fun u6 H locs hu6 hP hD hS => ?_)
    obtain ⟨wG2, rfl, kG2⟩ := hu6
    refine W.widen (k := (bm_tellA S.eb e9 S.G 8).2.2.2.1.1 - S.G.2.2.2.1.1) (n := 2 * 3 * ((bm_tellA S.eb e9 S.G 8).2.2.2.1.1 - S.G.2.2.2.1.1)) (Nat.le_of_eq (Nat.zero_add _)) (Nat.le_of_eq (Nat.zero_add _)) ?_
    have hP := wd_nP (N := [wG2, wE]) rfl 9 rfl [2, 3, 1, 4, 5, 6, 7, 8, 0] (by decide) hP
    have hD := wd_nD (N := [wG2, wE]) rfl 9 rfl [2, 3, 1, 4, 5, 6, 7, 8, 0] (by decide) hD
    have hP : va_P D kls (List.flatten [[(h, .inr (8, [.ref aE, .ref aL, .ref aS, .ref aK, .ref aR, .ref aD, .ref aG]))], [(aK, .inr (4, [.ref aL, .ref aS, .ref aM, .int S.lost]))], wE, wL, wS, wM, wR, wD, wG2]) H := hP
    have hD : va_D A (List.flatten [[(h, .inr (8, [.ref aE, .ref aL, .ref aS, .ref aK, .ref aR, .ref aD, .ref aG]))], [(aK, .inr (4, [.ref aL, .ref aS, .ref aM, .int S.lost]))], wE, wL, wS, wM, wR, wD, wG2]) := hD
    refine W.eq (g2 := F0 m 37 ls []) rfl ?_
    exact ct_vret hQ hx hb hr hlk hP hD hS hK (by omega) (by omega) d_Net_report_37 (⟨aE, aL, aS, aK, aR, aD, aG, aM, aP, aC, wE, wL, wS, wM, wR, wD, wG2, rfl, kE, kL, kS, kM, kR, kD, kG2⟩)
set_option maxHeartbeats 800000 in
set_option maxRecDepth 100000 in
theorem x_Net_report_room (l : Launch) (s0 : State) (A0 : Array Value) (h0 : fz_0 A0 s0) (hfl : ∀ e : Env, l.admits e → e.platform.stackTraces = false) (D : va_G) (cI cZ cJ cG : ClassId) {h : Nat} {S : bm_S} {ws : va_W} (hR : nt_R cI cZ cG h S ws) (x : Int32) (hno : 3900 ≤ S.G.2.2.2.1.2.1) : ct_X l s0 D kls (ty4 cI cZ cJ cG) y_Net_report ws_Net_report (rm_ 7 102 1 6) [.ref h, .int x] (ws) "java/lang/IllegalStateException" (fun u => nt_R cI cZ cG h S u) 1 6 := by
  have hR9 := hR
  obtain ⟨aE, aL, aS, aK, aR, aD, aG, aM, aP, aC, wE, wL, wS, wM, wR, wD, wG, rfl, kE, kL, kS, kM, kR, kD, kG⟩ := hR
  obtain ⟨fsE, mE⟩ := kE.mem
  obtain ⟨fsL, mL⟩ := kL.mem
  obtain ⟨fsS, mS⟩ := kS.mem
  obtain ⟨fsR, mR⟩ := kR.mem
  obtain ⟨fsD, mD⟩ := kD.mem
  obtain ⟨fsG, mG⟩ := kG.mem
  refine ct_enterX (cc := b_Net_report) (maxL := 2) (ret := none) (by decide +kernel) (Nat.le_of_ble_eq_true rfl) ?_
  intro p e s m args below meth c hx hb hml hr ht hown hlk hnm A Q hA hK hP hD hQ ls hl hz
  have hown : s.vm.findClass R_Net = some m.cls := hown
  have hS : va_S A s.heap s.heap [] := va_S.rf
  have hl : lv_has ls 2 [(0, .ref h), (1, .int x)] := hl
  have bG := kG.n
  refine lv_aload_n hx hb d_Net_report_0 rfl (lv_at hl 0 rfl) ?_
  refine va_get (D := D) (ci := 8) (v := .ref aG) (C := R_Net) (T := T_Net) (N := 7) hx hb ht in_Net hown hK hP 0 rfl rfl 6 (by decide) (ht _ kl_Net_62) (fun _ h9 => h9) rfl d_Net_report_1 ?_
  refine ct_rdV (C := R_Groups) (ci := 7) (As := []) (rest := []) ⟨hx, hb, hml, hown, ht⟩ (k_Groups_onTheWay l D cI cZ cJ cG kG) (cb_V ht kc_Groups_onTheWay kl_Net_179 kn_Groups ki_Groups_onTheWay ks_Groups_onTheWay hd_Groups_onTheWay ⟨Nat.le_of_ble_eq_true rfl, Nat.le_of_ble_eq_true rfl⟩) (wd_mem 8 rfl mG) rfl rfl (wd_ct (Bs := [[(h, .inr (8, [.ref aE, .ref aL, .ref aS, .ref aK, .ref aR, .ref aD, .ref aG]))], [(aK, .inr (4, [.ref aL, .ref aS, .ref aM, .int S.lost]))], wE, wL, wS, wM, wR, wD, wG]) 9 rfl [8] [0, 1, 2, 3, 4, 5, 6, 7] (by decide) (wd_1 _)) hK hP hD hS hA rfl hl.1 rfl (Nat.le_of_ble_eq_true rfl) ⟨(show 0 + 0 ≤ 1 by omega), (show 0 + 0 ≤ 6 by omega)⟩ d_Net_report_4 (fun rhr1 H locs hr1 hP hD hS => ?_)
  subst hr1
  refine lv_sipush (v := nI 3900) hx hb d_Net_report_7 (by decide) ?_
  refine ri_icmp_ge hx hb (by omega) (by omega) d_Net_report_10 (tgt := 17) (by decide) (fun h10 => ?_) (fun h10 => ?_)
  · refine lv_iconst (v := nI 0) hx hb d_Net_report_17 (by decide) ?_
    refine W.eq (g2 := F0 m 18 ls [.int (bI false)]) (congrArg (fun z => F0 m 18 ls (.int z :: [])) (rfl)) ?_
    exact ct_throwS (As := [.int (bI false)]) (rest := []) hz hQ hlk ⟨hx, hb, hml, hown, ht⟩ (x_Net_demandRoom l s0 A0 h0 hfl D cI cZ cJ cG) (cb_S ht kc_Net_demandRoom kl_Net_88 kn_Net ki_Net_demandRoom hd_Net_demandRoom ⟨Nat.le_of_ble_eq_true rfl, Nat.le_of_ble_eq_true rfl⟩) (wd_ct (Bs := [[(h, .inr (8, [.ref aE, .ref aL, .ref aS, .ref aK, .ref aR, .ref aD, .ref aG]))], [(aK, .inr (4, [.ref aL, .ref aS, .ref aM, .int S.lost]))], wE, wL, wS, wM, wR, wD, wG]) 9 rfl [] [0, 1, 2, 3, 4, 5, 6, 7, 8] (by decide) rfl) hK hP hD hS hA rfl hl.1 rfl (Nat.le_of_ble_eq_true rfl) ⟨by decide, by decide⟩ ⟨by decide, by decide⟩ d_Net_report_18 (fun u hu => by subst hu; exact ⟨aE, aL, aS, aK, aR, aD, aG, aM, aP, aC, wE, wL, wS, wM, wR, wD, wG, rfl, kE, kL, kS, kM, kR, kD, kG⟩)
  · exact absurd h10 (by omega)
set_option maxHeartbeats 800000 in
set_option maxRecDepth 100000 in
theorem x_Net_report (l : Launch) (s0 : State) (A0 : Array Value) (h0 : fz_0 A0 s0) (hfl : ∀ e : Env, l.admits e → e.platform.stackTraces = false) (D : va_G) (cI cZ cJ cG : ClassId) {h : Nat} {S : bm_S} {ws : va_W} (hR : nt_R cI cZ cG h S ws) (x : Int32) (hn9 : S.G.2.2.2.1.2.1 < 3900) (hno : bm_isE S x = false) : ct_X l s0 D kls (ty4 cI cZ cJ cG) y_Net_report ws_Net_report (rm_ 7 102 1 6) [.ref h, .int x] (ws) "java/lang/IllegalArgumentException" (fun u => nt_R cI cZ cG h S u) 1 6 := by
  have hR9 := hR
  obtain ⟨aE, aL, aS, aK, aR, aD, aG, aM, aP, aC, wE, wL, wS, wM, wR, wD, wG, rfl, kE, kL, kS, kM, kR, kD, kG⟩ := hR
  obtain ⟨fsE, mE⟩ := kE.mem
  obtain ⟨fsL, mL⟩ := kL.mem
  obtain ⟨fsS, mS⟩ := kS.mem
  obtain ⟨fsR, mR⟩ := kR.mem
  obtain ⟨fsD, mD⟩ := kD.mem
  obtain ⟨fsG, mG⟩ := kG.mem
  refine ct_enterX (cc := b_Net_report) (maxL := 2) (ret := none) (by decide +kernel) (Nat.le_of_ble_eq_true rfl) ?_
  intro p e s m args below meth c hx hb hml hr ht hown hlk hnm A Q hA hK hP hD hQ ls hl hz
  have hown : s.vm.findClass R_Net = some m.cls := hown
  have hS : va_S A s.heap s.heap [] := va_S.rf
  have hl : lv_has ls 2 [(0, .ref h), (1, .int x)] := hl
  have bG := kG.n
  refine lv_aload_n hx hb d_Net_report_0 rfl (lv_at hl 0 rfl) ?_
  refine va_get (D := D) (ci := 8) (v := .ref aG) (C := R_Net) (T := T_Net) (N := 7) hx hb ht in_Net hown hK hP 0 rfl rfl 6 (by decide) (ht _ kl_Net_62) (fun _ h9 => h9) rfl d_Net_report_1 ?_
  refine ct_rdV (C := R_Groups) (ci := 7) (As := []) (rest := []) ⟨hx, hb, hml, hown, ht⟩ (k_Groups_onTheWay l D cI cZ cJ cG kG) (cb_V ht kc_Groups_onTheWay kl_Net_179 kn_Groups ki_Groups_onTheWay ks_Groups_onTheWay hd_Groups_onTheWay ⟨Nat.le_of_ble_eq_true rfl, Nat.le_of_ble_eq_true rfl⟩) (wd_mem 8 rfl mG) rfl rfl (wd_ct (Bs := [[(h, .inr (8, [.ref aE, .ref aL, .ref aS, .ref aK, .ref aR, .ref aD, .ref aG]))], [(aK, .inr (4, [.ref aL, .ref aS, .ref aM, .int S.lost]))], wE, wL, wS, wM, wR, wD, wG]) 9 rfl [8] [0, 1, 2, 3, 4, 5, 6, 7] (by decide) (wd_1 _)) hK hP hD hS hA rfl hl.1 rfl (Nat.le_of_ble_eq_true rfl) ⟨(show 0 + 0 ≤ 1 by omega), (show 0 + 0 ≤ 6 by omega)⟩ d_Net_report_4 (fun rhr1 H locs hr1 hP hD hS => ?_)
  subst hr1
  refine lv_sipush (v := nI 3900) hx hb d_Net_report_7 (by decide) ?_
  refine ri_icmp_ge hx hb (by omega) (by omega) d_Net_report_10 (tgt := 17) (by decide) (fun h10 => ?_) (fun h10 => ?_)
  · exact absurd h10 (by omega)
  · refine lv_iconst (v := nI 1) hx hb d_Net_report_13 (by decide) ?_
    refine lv_goto hx hb d_Net_report_14 (tgt := 18) (by decide) ?_
    refine W.eq (g2 := F0 m 18 ls [.int (bI true)]) (congrArg (fun z => F0 m 18 ls (.int z :: [])) (rfl)) ?_
    refine ct_callSV (As := [.int (bI true)]) (rest := []) ⟨hx, hb, hml, hown, ht⟩ (k_Net_demandRoom l D cI cZ cJ cG) (cb_S ht kc_Net_demandRoom kl_Net_88 kn_Net ki_Net_demandRoom hd_Net_demandRoom ⟨Nat.le_of_ble_eq_true rfl, Nat.le_of_ble_eq_true rfl⟩) (wd_ct (Bs := [[(h, .inr (8, [.ref aE, .ref aL, .ref aS, .ref aK, .ref aR, .ref aD, .ref aG]))], [(aK, .inr (4, [.ref aL, .ref aS, .ref aM, .int S.lost]))], wE, wL, wS, wM, wR, wD, wG]) 9 rfl [] [0, 1, 2, 3, 4, 5, 6, 7, 8] (by decide) rfl) hK hP hD hS hA rfl hl.1 rfl (Nat.le_of_ble_eq_true rfl) ⟨(by decide), (by decide)⟩ d_Net_report_18 (fun u3 H locs hu3 hP hD hS => ?_)
    subst hu3
    refine W.widen (k := 0) (n := 0) (Nat.le_refl _) (Nat.le_refl _) ?_
    have hP := wd_nP (N := []) rfl 9 rfl [0, 1, 2, 3, 4, 5, 6, 7, 8] (by decide) hP
    have hD := wd_nD (N := []) rfl 9 rfl [0, 1, 2, 3, 4, 5, 6, 7, 8] (by decide) hD
    have hP : va_P D kls (List.flatten [[(h, .inr (8, [.ref aE, .ref aL, .ref aS, .ref aK, .ref aR, .ref aD, .ref aG]))], [(aK, .inr (4, [.ref aL, .ref aS, .ref aM, .int S.lost]))], wE, wL, wS, wM, wR, wD, wG]) H := hP
    have hD : va_D A (List.flatten [[(h, .inr (8, [.ref aE, .ref aL, .ref aS, .ref aK, .ref aR, .ref aD, .ref aG]))], [(aK, .inr (4, [.ref aL, .ref aS, .ref aM, .int S.lost]))], wE, wL, wS, wM, wR, wD, wG]) := hD
    refine W.eq (g2 := F0 m 21 ls []) rfl ?_
    refine lv_aload_n hx hb d_Net_report_21 rfl (lv_at hl 0 rfl) ?_
    refine lv_iload_n hx hb d_Net_report_22 rfl (lv_at hl 1 rfl) ?_
    refine ct_rdV (C := R_Net) (ci := 8) (As := [.int x]) (rest := []) ⟨hx, hb, hml, hown, ht⟩ (k_Net_isEdge l D cI cZ cJ cG hR9 (x)) (cb_V ht kc_Net_isEdge kl_Net_162 kn_Net ki_Net_isEdge ks_Net_isEdge hd_Net_isEdge ⟨Nat.le_of_ble_eq_true rfl, Nat.le_of_ble_eq_true rfl⟩) (List.mem_of_getElem? (i := 0) rfl) rfl rfl (wd_ct (Bs := [[(h, .inr (8, [.ref aE, .ref aL, .ref aS, .ref aK, .ref aR, .ref aD, .ref aG]))], [(aK, .inr (4, [.ref aL, .ref aS, .ref aM, .int S.lost]))], wE, wL, wS, wM, wR, wD, wG]) 9 rfl [0, 1, 2, 3, 4, 5, 6, 7, 8] [] (by decide) rfl) hK hP hD hS hA rfl hl.1 rfl (Nat.le_of_ble_eq_true rfl) ⟨(show 0 + 0 ≤ 1 by omega), (show 0 + 0 ≤ 6 by omega)⟩ d_Net_report_23 (fun rhr4 H locs hr4 hP hD hS => ?_)
    subst hr4
    refine W.eq (g2 := F0 m 26 ls [.int (bI false)]) (congrArg (fun z => F0 m 26 ls (.int z :: [])) (congrArg bI hno)) ?_
    exact ct_throwS (As := [.int (bI false)]) (rest := []) hz hQ hlk ⟨hx, hb, hml, hown, ht⟩ (x_Net_demand l s0 A0 h0 hfl D cI cZ cJ cG) (cb_S ht kc_Net_demand kl_Net_70 kn_Net ki_Net_demand hd_Net_demand ⟨Nat.le_of_ble_eq_true rfl, Nat.le_of_ble_eq_true rfl⟩) (wd_ct (Bs := [[(h, .inr (8, [.ref aE, .ref aL, .ref aS, .ref aK, .ref aR, .ref aD, .ref aG]))], [(aK, .inr (4, [.ref aL, .ref aS, .ref aM, .int S.lost]))], wE, wL, wS, wM, wR, wD, wG]) 9 rfl [] [0, 1, 2, 3, 4, 5, 6, 7, 8] (by decide) rfl) hK hP hD hS hA rfl hl.1 rfl (Nat.le_of_ble_eq_true rfl) ⟨by decide, by decide⟩ ⟨by decide, by decide⟩ d_Net_report_26 (fun u hu => by subst hu; exact ⟨aE, aL, aS, aK, aR, aD, aG, aM, aP, aC, wE, wL, wS, wM, wR, wD, wG, rfl, kE, kL, kS, kM, kR, kD, kG⟩)
