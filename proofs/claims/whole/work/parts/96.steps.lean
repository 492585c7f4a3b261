/-! BitNet: step's refusals. -/
set_option maxHeartbeats 800000 in
set_option maxRecDepth 100000 in
theorem x_Net_step_room (l : Launch) (s0 : State) (A0 : Array Value) (h0 : fz_0 A0 s0) (hfl : ∀ e : Env, l.admits e → e.platform.stackTraces = false) (D : va_G) (cI cZ cJ cG : ClassId) {h : Nat} {S : bm_S} {ws : va_W} (hR : nt_R cI cZ cG h S ws) (x : Int32) (hno : 3900 ≤ S.T.2.2.1.2.1) : ct_X l s0 D kls (ty4 cI cZ cJ cG) y_Net_step ws_Net_step (rm_ 7 102 1 6) [.ref h, .int x] (ws) "java/lang/IllegalStateException" (fun u => nt_R cI cZ cG h S u) 1 6 := by
  obtain ⟨aE, aL, aS, aK, aR, aD, aG, aM, aP, aC, wE, wL, wS, wM, wR, wD, wG, rfl, kE, kL, kS, kM, kR, kD, kG⟩ := hR
  obtain ⟨fsE, mE⟩ := kE.mem
  obtain ⟨fsL, mL⟩ := kL.mem
  obtain ⟨fsS, mS⟩ := kS.mem
  obtain ⟨fsR, mR⟩ := kR.mem
  obtain ⟨fsD, mD⟩ := kD.mem
  obtain ⟨fsG, mG⟩ := kG.mem
  have kK : co_R cI cG aK aL aS aM S.lk S.kn S.T S.lost (List.flatten [[(aK, .inr (4, [.ref aL, .ref aS, .ref aM, .int S.lost]))], wL, wS, wM]) := ⟨wL, wS, wM, rfl, kL, kS, kM⟩
  obtain ⟨fsK, mK⟩ := kK.mem
  refine ct_enterX (cc := b_Net_step) (maxL := 3) (ret := (some .int)) (by decide +kernel) (Nat.le_of_ble_eq_true rfl) ?_
  intro p e s m args below meth c hx hb hml hr ht hown hlk hnm A Q hA hK hP hD hQ ls hl hz
  have hown : s.vm.findClass R_Net = some m.cls := hown
  have hS : va_S A s.heap s.heap [] := va_S.rf
  have hl : lv_has ls 3 [(0, .ref h), (1, .int x)] := hl
  have bM := kM.n
  refine lv_aload_n hx hb d_Net_step_0 rfl (lv_at hl 0 rfl) ?_
  refine va_get (D := D) (ci := 8) (v := .ref aK) (C := R_Net) (T := T_Net) (N := 7) hx hb ht in_Net hown hK hP 0 rfl rfl 3 (by decide) (ht _ kl_Net_35) (fun _ h9 => h9) rfl d_Net_step_1 ?_
  refine ct_rdV (C := R_Control) (ci := 4) (As := []) (rest := []) ⟨hx, hb, hml, hown, ht⟩ (k_Control_onTheWay l D cI cZ cJ cG kK) (cb_V ht kc_Control_onTheWay kl_Net_129 kn_Control ki_Control_onTheWay ks_Control_onTheWay hd_Control_onTheWay ⟨Nat.le_of_ble_eq_true rfl, Nat.le_of_ble_eq_true rfl⟩) (List.mem_of_getElem? (i := 1) rfl) rfl rfl (wd_ct (Bs := [[(h, .inr (8, [.ref aE, .ref aL, .ref aS, .ref aK, .ref aR, .ref aD, .ref aG]))], [(aK, .inr (4, [.ref aL, .ref aS, .ref aM, .int S.lost]))], wE, wL, wS, wM, wR, wD, wG]) 9 rfl [1, 3, 4, 5] [0, 2, 6, 7, 8] (by decide) rfl) hK hP hD hS hA rfl hl.1 rfl (Nat.le_of_ble_eq_true rfl) ⟨(show 0 + 0 ≤ 1 by omega), (show 0 + 0 ≤ 6 by omega)⟩ d_Net_step_4 (fun rhr1 H locs hr1 hP hD hS => ?_)
  subst hr1
  refine lv_sipush (v := nI 3900) hx hb d_Net_step_7 (by decide) ?_
  refine ri_icmp_ge hx hb (by omega) (by omega) d_Net_step_10 (tgt := 17) (by decide) (fun h10 => ?_) (fun h10 => ?_)
  · refine lv_iconst (v := nI 0) hx hb d_Net_step_17 (by decide) ?_
    refine W.eq (g2 := F0 m 18 ls [.int (bI false)]) (congrArg (fun z => F0 m 18 ls (.int z :: [])) (rfl)) ?_
    exact ct_throwS (As := [.int (bI false)]) (rest := []) hz hQ hlk ⟨hx, hb, hml, hown, ht⟩ (x_Net_demandRoom l s0 A0 h0 hfl D cI cZ cJ cG) (cb_S ht kc_Net_demandRoom kl_Net_88 kn_Net ki_Net_demandRoom hd_Net_demandRoom ⟨Nat.le_of_ble_eq_true rfl, Nat.le_of_ble_eq_true rfl⟩) (wd_ct (Bs := [[(h, .inr (8, [.ref aE, .ref aL, .ref aS, .ref aK, .ref aR, .ref aD, .ref aG]))], [(aK, .inr (4, [.ref aL, .ref aS, .ref aM, .int S.lost]))], wE, wL, wS, wM, wR, wD, wG]) 9 rfl [] [0, 1, 2, 3, 4, 5, 6, 7, 8] (by decide) rfl) hK hP hD hS hA rfl hl.1 rfl (Nat.le_of_ble_eq_true rfl) ⟨by decide, by decide⟩ ⟨by decide, by decide⟩ d_Net_step_18 (fun u hu => by subst hu; exact ⟨aE, aL, aS, aK, aR, aD, aG, aM, aP, aC, wE, wL, wS, wM, wR, wD, wG, rfl, kE, kL, kS, kM, kR, kD, kG⟩)
  · exact absurd h10 (by omega)
set_option maxHeartbeats 800000 in
set_option maxRecDepth 100000 in
theorem x_Net_step (l : Launch) (s0 : State) (A0 : Array Value) (h0 : fz_0 A0 s0) (hfl : ∀ e : Env, l.admits e → e.platform.stackTraces = false) (D : va_G) (cI cZ cJ cG : ClassId) {h : Nat} {S : bm_S} {ws : va_W} (hR : nt_R cI cZ cG h S ws) (x : Int32) (hn9 : S.T.2.2.1.2.1 < 3900) (hno : rg 1 1001 x = false) : ct_X l s0 D kls (ty4 cI cZ cJ cG) y_Net_step ws_Net_step (rm_ 7 102 1 6) [.ref h, .int x] (ws) "java/lang/IllegalArgumentException" (fun u => nt_R cI cZ cG h S u) 1 6 := by
  obtain ⟨aE, aL, aS, aK, aR, aD, aG, aM, aP, aC, wE, wL, wS, wM, wR, wD, wG, rfl, kE, kL, kS, kM, kR, kD, kG⟩ := hR
  obtain ⟨fsE, mE⟩ := kE.mem
  obtain ⟨fsL, mL⟩ := kL.mem
  obtain ⟨fsS, mS⟩ := kS.mem
  obtain ⟨fsR, mR⟩ := kR.mem
  obtain ⟨fsD, mD⟩ := kD.mem
  obtain ⟨fsG, mG⟩ := kG.mem
  have kK : co_R cI cG aK aL aS aM S.lk S.kn S.T S.lost (List.flatten [[(aK, .inr (4, [.ref aL, .ref aS, .ref aM, .int S.lost]))], wL, wS, wM]) := ⟨wL, wS, wM, rfl, kL, kS, kM⟩
  obtain ⟨fsK, mK⟩ := kK.mem
  refine ct_enterX (cc := b_Net_step) (maxL := 3) (ret := (some .int)) (by decide +kernel) (Nat.le_of_ble_eq_true rfl) ?_
  intro p e s m args below meth c hx hb hml hr ht hown hlk hnm A Q hA hK hP hD hQ ls hl hz
  have hown : s.vm.findClass R_Net = some m.cls := hown
  have hS : va_S A s.heap s.heap [] := va_S.rf
  have hl : lv_has ls 3 [(0, .ref h), (1, .int x)] := hl
  have bM := kM.n
  refine lv_aload_n hx hb d_Net_step_0 rfl (lv_at hl 0 rfl) ?_
  refine va_get (D := D) (ci := 8) (v := .ref aK) (C := R_Net) (T := T_Net) (N := 7) hx hb ht in_Net hown hK hP 0 rfl rfl 3 (by decide) (ht _ kl_Net_35) (fun _ h9 => h9) rfl d_Net_step_1 ?_
  refine ct_rdV (C := R_Control) (ci := 4) (As := []) (rest := []) ⟨hx, hb, hml, hown, ht⟩ (k_Control_onTheWay l D cI cZ cJ cG kK) (cb_V ht kc_Control_onTheWay kl_Net_129 kn_Control ki_Control_onTheWay ks_Control_onTheWay hd_Control_onTheWay ⟨Nat.le_of_ble_eq_true rfl, Nat.le_of_ble_eq_true rfl⟩) (List.mem_of_getElem? (i := 1) rfl) rfl rfl (wd_ct (Bs := [[(h, .inr (8, [.ref aE, .ref aL, .ref aS, .ref aK, .ref aR, .ref aD, .ref aG]))], [(aK, .inr (4, [.ref aL, .ref aS, .ref aM, .int S.lost]))], wE, wL, wS, wM, wR, wD, wG]) 9 rfl [1, 3, 4, 5] [0, 2, 6, 7, 8] (by decide) rfl) hK hP hD hS hA rfl hl.1 rfl (Nat.le_of_ble_eq_true rfl) ⟨(show 0 + 0 ≤ 1 by omega), (show 0 + 0 ≤ 6 by omega)⟩ d_Net_step_4 (fun rhr1 H locs hr1 hP hD hS => ?_)
  subst hr1
  refine lv_sipush (v := nI 3900) hx hb d_Net_step_7 (by decide) ?_
  refine ri_icmp_ge hx hb (by omega) (by omega) d_Net_step_10 (tgt := 17) (by decide) (fun h10 => ?_) (fun h10 => ?_)
  · exact absurd h10 (by omega)
  · refine lv_iconst (v := nI 1) hx hb d_Net_step_13 (by decide) ?_
    refine lv_goto hx hb d_Net_step_14 (tgt := 18) (by decide) ?_
    refine W.eq (g2 := F0 m 18 ls [.int (bI true)]) (congrArg (fun z => F0 m 18 ls (.int z :: [])) (rfl)) ?_
    refine ct_callSV (As := [.int (bI true)]) (rest := []) ⟨hx, hb, hml, hown, ht⟩ (k_Net_demandRoom l D cI cZ cJ cG) (cb_S ht kc_Net_demandRoom kl_Net_88 kn_Net ki_Net_demandRoom hd_Net_demandRoom ⟨Nat.le_of_ble_eq_true rfl, Nat.le_of_ble_eq_true rfl⟩) (wd_ct (Bs := [[(h, .inr (8, [.ref aE, .ref aL, .ref aS, .ref aK, .ref aR, .ref aD, .ref aG]))], [(aK, .inr (4, [.ref aL, .ref aS, .ref aM, .int S.lost]))], wE, wL, wS, wM, wR, wD, wG]) 9 rfl [] [0, 1, 2, 3, 4, 5, 6, 7, 8] (by decide) rfl) hK hP hD hS hA rfl hl.1 rfl (Nat.le_of_ble_eq_true rfl) ⟨(by decide), (by decide)⟩ d_Net_step_18 (fun u3 H locs hu3 hP hD hS => ?_)
    subst hu3
    refine W.widen (k := 0) (n := 0) (Nat.le_refl _) (Nat.le_refl _) ?_
    have hP := wd_nP (N := []) rfl 9 rfl [0, 1, 2, 3, 4, 5, 6, 7, 8] (by decide) hP
    have hD := wd_nD (N := []) rfl 9 rfl [0, 1, 2, 3, 4, 5, 6, 7, 8] (by decide) hD
    have hP : va_P D kls (List.flatten [[(h, .inr (8, [.ref aE, .ref aL, .ref aS, .ref aK, .ref aR, .ref aD, .ref aG]))], [(aK, .inr (4, [.ref aL, .ref aS, .ref aM, .int S.lost]))], wE, wL, wS, wM, wR, wD, wG]) H := hP
    have hD : va_D A (List.flatten [[(h, .inr (8, [.ref aE, .ref aL, .ref aS, .ref aK, .ref aR, .ref aD, .ref aG]))], [(aK, .inr (4, [.ref aL, .ref aS, .ref aM, .int S.lost]))], wE, wL, wS, wM, wR, wD, wG]) := hD
    refine W.eq (g2 := F0 m 21 ls []) rfl ?_
    refine lv_iload_n hx hb d_Net_step_21 rfl (lv_at hl 1 rfl) ?_
    refine ct_rdS (As := [.int x]) (rest := []) ⟨hx, hb, hml, hown, ht⟩ (k_Net_isNumberOfTurns l D cI cZ cJ cG x) (cb_S ht kc_Net_isNumberOfTurns kl_Net_133 kn_Net ki_Net_isNumberOfTurns hd_Net_isNumberOfTurns ⟨Nat.le_of_ble_eq_true rfl, Nat.le_of_ble_eq_true rfl⟩) (wd_ct (Bs := [[(h, .inr (8, [.ref aE, .ref aL, .ref aS, .ref aK, .ref aR, .ref aD, .ref aG]))], [(aK, .inr (4, [.ref aL, .ref aS, .ref aM, .int S.lost]))], wE, wL, wS, wM, wR, wD, wG]) 9 rfl [] [0, 1, 2, 3, 4, 5, 6, 7, 8] (by decide) rfl) hK hP hD hS hA rfl hl.1 rfl (Nat.le_of_ble_eq_true rfl) ⟨(show 0 + 0 ≤ 1 by omega), (show 0 + 0 ≤ 6 by omega)⟩ d_Net_step_22 (fun rhr4 H locs hr4 hP hD hS => ?_)
    subst hr4
    refine W.eq (g2 := F0 m 25 ls [.int (bI false)]) (congrArg (fun z => F0 m 25 ls (.int z :: [])) (congrArg bI hno)) ?_
    exact ct_throwS (As := [.int (bI false)]) (rest := []) hz hQ hlk ⟨hx, hb, hml, hown, ht⟩ (x_Net_demand l s0 A0 h0 hfl D cI cZ cJ cG) (cb_S ht kc_Net_demand kl_Net_70 kn_Net ki_Net_demand hd_Net_demand ⟨Nat.le_of_ble_eq_true rfl, Nat.le_of_ble_eq_true rfl⟩) (wd_ct (Bs := [[(h, .inr (8, [.ref aE, .ref aL, .ref aS, .ref aK, .ref aR, .ref aD, .ref aG]))], [(aK, .inr (4, [.ref aL, .ref aS, .ref aM, .int S.lost]))], wE, wL, wS, wM, wR, wD, wG]) 9 rfl [] [0, 1, 2, 3, 4, 5, 6, 7, 8] (by decide) rfl) hK hP hD hS hA rfl hl.1 rfl (Nat.le_of_ble_eq_true rfl) ⟨by decide, by decide⟩ ⟨by decide, by decide⟩ d_Net_step_25 (fun u hu => by subst hu; exact ⟨aE, aL, aS, aK, aR, aD, aG, aM, aP, aC, wE, wL, wS, wM, wR, wD, wG, rfl, kE, kL, kS, kM, kR, kD, kG⟩)
