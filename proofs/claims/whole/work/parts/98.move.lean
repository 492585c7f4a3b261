/-! BitNet: move, but for its loop. -/
def bm_mlose (S : bm_S) : bm_S := (S.eb, S.tk, S.es, S.lk, S.kn, S.T, S.lost, bm_dlose S.D, S.G)
set_option maxHeartbeats 800000 in
set_option maxRecDepth 100000 in
theorem x_Net_move_room (l : Launch) (s0 : State) (A0 : Array Value) (h0 : fz_0 A0 s0) (hfl : ∀ e : Env, l.admits e → e.platform.stackTraces = false) (D : va_G) (cI cZ cJ cG : ClassId) {h : Nat} {S : bm_S} {ws : va_W} (hR : nt_R cI cZ cG h S ws) (x : Int32) (hm1 : x ≠ -1) (hno : 3900 ≤ S.D.2.1.2.1) : ct_X l s0 D kls (ty4 cI cZ cJ cG) y_Net_move ws_Net_move (rm_ 7 102 1 6) [.ref h, .int x] (ws) "java/lang/IllegalStateException" (fun u => nt_R cI cZ cG h S u) 1 6 := by
  obtain ⟨aE, aL, aS, aK, aR, aD, aG, aM, aP, aC, wE, wL, wS, wM, wR, wD, wG, rfl, kE, kL, kS, kM, kR, kD, kG⟩ := hR
  obtain ⟨fsE, mE⟩ := kE.mem
  obtain ⟨fsL, mL⟩ := kL.mem
  obtain ⟨fsS, mS⟩ := kS.mem
  obtain ⟨fsR, mR⟩ := kR.mem
  obtain ⟨fsD, mD⟩ := kD.mem
  obtain ⟨fsG, mG⟩ := kG.mem
  refine ct_enterX (cc := b_Net_move) (maxL := 3) (ret := (some .int)) (by decide +kernel) (Nat.le_of_ble_eq_true rfl) ?_
  intro p e s m args below meth c hx hb hml hr ht hown hlk hnm A Q hA hK hP hD hQ ls hl hz
  have hown : s.vm.findClass R_Net = some m.cls := hown
  have hS : va_S A s.heap s.heap [] := va_S.rf
  have hl : lv_has ls 3 [(0, .ref h), (1, .int x)] := hl
  have bD := kD.n
  refine lv_iload_n hx hb d_Net_move_0 rfl (lv_at hl 1 rfl) ?_
  refine lv_iconst (v := (-1)) hx hb d_Net_move_1 (by decide) ?_
  refine lv_icmp_eq hx hb d_Net_move_2 (tgt := 18) (by decide) (fun h2 => ?_) (fun h2 => ?_)
  · exact absurd h2 (hm1)
  · refine lv_aload_n hx hb d_Net_move_5 rfl (lv_at hl 0 rfl) ?_
    refine va_get (D := D) (ci := 8) (v := .ref aD) (C := R_Net) (T := T_Net) (N := 7) hx hb ht in_Net hown hK hP 0 rfl rfl 5 (by decide) (ht _ kl_Net_53) (fun _ h9 => h9) rfl d_Net_move_6 ?_
    refine ct_rdV (C := R_Data) (ci := 6) (As := []) (rest := []) ⟨hx, hb, hml, hown, ht⟩ (k_Data_onTheWay l D cI cZ cJ cG kD) (cb_V ht kc_Data_onTheWay kl_Net_199 kn_Data ki_Data_onTheWay ks_Data_onTheWay hd_Data_onTheWay ⟨Nat.le_of_ble_eq_true rfl, Nat.le_of_ble_eq_true rfl⟩) (wd_mem 7 rfl mD) rfl rfl (wd_ct (Bs := [[(h, .inr (8, [.ref aE, .ref aL, .ref aS, .ref aK, .ref aR, .ref aD, .ref aG]))], [(aK, .inr (4, [.ref aL, .ref aS, .ref aM, .int S.lost]))], wE, wL, wS, wM, wR, wD, wG]) 9 rfl [7] [0, 1, 2, 3, 4, 5, 6, 8] (by decide) (wd_1 _)) hK hP hD hS hA rfl hl.1 rfl (Nat.le_of_ble_eq_true rfl) ⟨(show 0 + 0 ≤ 1 by omega), (show 0 + 0 ≤ 6 by omega)⟩ d_Net_move_9 (fun rhr2 H locs hr2 hP hD hS => ?_)
    subst hr2
    refine lv_sipush (v := nI 3900) hx hb d_Net_move_12 (by decide) ?_
    refine ri_icmp_ge hx hb (by omega) (by omega) d_Net_move_15 (tgt := 22) (by decide) (fun h10 => ?_) (fun h10 => ?_)
    · refine lv_iconst (v := nI 0) hx hb d_Net_move_22 (by decide) ?_
      refine W.eq (g2 := F0 m 23 ls [.int (bI false)]) (congrArg (fun z => F0 m 23 ls (.int z :: [])) (rfl)) ?_
      exact ct_throwS (As := [.int (bI false)]) (rest := []) hz hQ hlk ⟨hx, hb, hml, hown, ht⟩ (x_Net_demandRoom l s0 A0 h0 hfl D cI cZ cJ cG) (cb_S ht kc_Net_demandRoom kl_Net_88 kn_Net ki_Net_demandRoom hd_Net_demandRoom ⟨Nat.le_of_ble_eq_true rfl, Nat.le_of_ble_eq_true rfl⟩) (wd_ct (Bs := [[(h, .inr (8, [.ref aE, .ref aL, .ref aS, .ref aK, .ref aR, .ref aD, .ref aG]))], [(aK, .inr (4, [.ref aL, .ref aS, .ref aM, .int S.lost]))], wE, wL, wS, wM, wR, wD, wG]) 9 rfl [] [0, 1, 2, 3, 4, 5, 6, 7, 8] (by decide) rfl) hK hP hD hS hA rfl hl.1 rfl (Nat.le_of_ble_eq_true rfl) ⟨by decide, by decide⟩ ⟨by decide, by decide⟩ d_Net_move_23 (fun u hu => by subst hu; exact ⟨aE, aL, aS, aK, aR, aD, aG, aM, aP, aC, wE, wL, wS, wM, wR, wD, wG, rfl, kE, kL, kS, kM, kR, kD, kG⟩)
    · exact absurd h10 (by omega)
set_option maxHeartbeats 800000 in
set_option maxRecDepth 100000 in
theorem x_Net_move (l : Launch) (s0 : State) (A0 : Array Value) (h0 : fz_0 A0 s0) (hfl : ∀ e : Env, l.admits e → e.platform.stackTraces = false) (D : va_G) (cI cZ cJ cG : ClassId) {h : Nat} {S : bm_S} {ws : va_W} (hR : nt_R cI cZ cG h S ws) (x : Int32) (hm1 : x ≠ -1) (hn9 : S.D.2.1.2.1 < 3900) (hno : rg 1 1001 x = false) : ct_X l s0 D kls (ty4 cI cZ cJ cG) y_Net_move ws_Net_move (rm_ 7 102 1 6) [.ref h, .int x] (ws) "java/lang/IllegalArgumentException" (fun u => nt_R cI cZ cG h S u) 1 6 := by
  obtain ⟨aE, aL, aS, aK, aR, aD, aG, aM, aP, aC, wE, wL, wS, wM, wR, wD, wG, rfl, kE, kL, kS, kM, kR, kD, kG⟩ := hR
  obtain ⟨fsE, mE⟩ := kE.mem
  obtain ⟨fsL, mL⟩ := kL.mem
  obtain ⟨fsS, mS⟩ := kS.mem
  obtain ⟨fsR, mR⟩ := kR.mem
  obtain ⟨fsD, mD⟩ := kD.mem
  obtain ⟨fsG, mG⟩ := kG.mem
  refine ct_enterX (cc := b_Net_move) (maxL := 3) (ret := (some .int)) (by decide +kernel) (Nat.le_of_ble_eq_true rfl) ?_
  intro p e s m args below meth c hx hb hml hr ht hown hlk hnm A Q hA hK hP hD hQ ls hl hz
  have hown : s.vm.findClass R_Net = some m.cls := hown
  have hS : va_S A s.heap s.heap [] := va_S.rf
  have hl : lv_has ls 3 [(0, .ref h), (1, .int x)] := hl
  have bD := kD.n
  refine lv_iload_n hx hb d_Net_move_0 rfl (lv_at hl 1 rfl) ?_
  refine lv_iconst (v := (-1)) hx hb d_Net_move_1 (by decide) ?_
  refine lv_icmp_eq hx hb d_Net_move_2 (tgt := 18) (by decide) (fun h2 => ?_) (fun h2 => ?_)
  · exact absurd h2 (hm1)
  · refine lv_aload_n hx hb d_Net_move_5 rfl (lv_at hl 0 rfl) ?_
    refine va_get (D := D) (ci := 8) (v := .ref aD) (C := R_Net) (T := T_Net) (N := 7) hx hb ht in_Net hown hK hP 0 rfl rfl 5 (by decide) (ht _ kl_Net_53) (fun _ h9 => h9) rfl d_Net_move_6 ?_
    refine ct_rdV (C := R_Data) (ci := 6) (As := []) (rest := []) ⟨hx, hb, hml, hown, ht⟩ (k_Data_onTheWay l D cI cZ cJ cG kD) (cb_V ht kc_Data_onTheWay kl_Net_199 kn_Data ki_Data_onTheWay ks_Data_onTheWay hd_Data_onTheWay ⟨Nat.le_of_ble_eq_true rfl, Nat.le_of_ble_eq_true rfl⟩) (wd_mem 7 rfl mD) rfl rfl (wd_ct (Bs := [[(h, .inr (8, [.ref aE, .ref aL, .ref aS, .ref aK, .ref aR, .ref aD, .ref aG]))], [(aK, .inr (4, [.ref aL, .ref aS, .ref aM, .int S.lost]))], wE, wL, wS, wM, wR, wD, wG]) 9 rfl [7] [0, 1, 2, 3, 4, 5, 6, 8] (by decide) (wd_1 _)) hK hP hD hS hA rfl hl.1 rfl (Nat.le_of_ble_eq_true rfl) ⟨(show 0 + 0 ≤ 1 by omega), (show 0 + 0 ≤ 6 by omega)⟩ d_Net_move_9 (fun rhr2 H locs hr2 hP hD hS => ?_)
    subst hr2
    refine lv_sipush (v := nI 3900) hx hb d_Net_move_12 (by decide) ?_
    refine ri_icmp_ge hx hb (by omega) (by omega) d_Net_move_15 (tgt := 22) (by decide) (fun h10 => ?_) (fun h10 => ?_)
    · exact absurd h10 (by omega)
    · refine lv_iconst (v := nI 1) hx hb d_Net_move_18 (by decide) ?_
      refine lv_goto hx hb d_Net_move_19 (tgt := 23) (by decide) ?_
      refine W.eq (g2 := F0 m 23 ls [.int (bI true)]) (congrArg (fun z => F0 m 23 ls (.int z :: [])) (rfl)) ?_
      refine ct_callSV (As := [.int (bI true)]) (rest := []) ⟨hx, hb, hml, hown, ht⟩ (k_Net_demandRoom l D cI cZ cJ cG) (cb_S ht kc_Net_demandRoom kl_Net_88 kn_Net ki_Net_demandRoom hd_Net_demandRoom ⟨Nat.le_of_ble_eq_true rfl, Nat.le_of_ble_eq_true rfl⟩) (wd_ct (Bs := [[(h, .inr (8, [.ref aE, .ref aL, .ref aS, .ref aK, .ref aR, .ref aD, .ref aG]))], [(aK, .inr (4, [.ref aL, .ref aS, .ref aM, .int S.lost]))], wE, wL, wS, wM, wR, wD, wG]) 9 rfl [] [0, 1, 2, 3, 4, 5, 6, 7, 8] (by decide) rfl) hK hP hD hS hA rfl hl.1 rfl (Nat.le_of_ble_eq_true rfl) ⟨(by decide), (by decide)⟩ d_Net_move_23 (fun u4 H locs hu4 hP hD hS => ?_)
      subst hu4
      refine W.widen (k := 0) (n := 0) (Nat.le_refl _) (Nat.le_refl _) ?_
      have hP := wd_nP (N := []) rfl 9 rfl [0, 1, 2, 3, 4, 5, 6, 7, 8] (by decide) hP
      have hD := wd_nD (N := []) rfl 9 rfl [0, 1, 2, 3, 4, 5, 6, 7, 8] (by decide) hD
      have hP : va_P D kls (List.flatten [[(h, .inr (8, [.ref aE, .ref aL, .ref aS, .ref aK, .ref aR, .ref aD, .ref aG]))], [(aK, .inr (4, [.ref aL, .ref aS, .ref aM, .int S.lost]))], wE, wL, wS, wM, wR, wD, wG]) H := hP
      have hD : va_D A (List.flatten [[(h, .inr (8, [.ref aE, .ref aL, .ref aS, .ref aK, .ref aR, .ref aD, .ref aG]))], [(aK, .inr (4, [.ref aL, .ref aS, .ref aM, .int S.lost]))], wE, wL, wS, wM, wR, wD, wG]) := hD
      refine W.eq (g2 := F0 m 26 ls []) rfl ?_
      refine lv_iload_n hx hb d_Net_move_26 rfl (lv_at hl 1 rfl) ?_
      refine lv_iconst (v := (-1)) hx hb d_Net_move_27 (by decide) ?_
      refine lv_icmp_eq hx hb d_Net_move_28 (tgt := 38) (by decide) (fun h20 => ?_) (fun h20 => ?_)
      · exact absurd h20 (hm1)
      · refine lv_iload_n hx hb d_Net_move_31 rfl (lv_at hl 1 rfl) ?_
        refine ct_rdS (As := [.int x]) (rest := []) ⟨hx, hb, hml, hown, ht⟩ (k_Net_isNumberOfTurns l D cI cZ cJ cG x) (cb_S ht kc_Net_isNumberOfTurns kl_Net_133 kn_Net ki_Net_isNumberOfTurns hd_Net_isNumberOfTurns ⟨Nat.le_of_ble_eq_true rfl, Nat.le_of_ble_eq_true rfl⟩) (wd_ct (Bs := [[(h, .inr (8, [.ref aE, .ref aL, .ref aS, .ref aK, .ref aR, .ref aD, .ref aG]))], [(aK, .inr (4, [.ref aL, .ref aS, .ref aM, .int S.lost]))], wE, wL, wS, wM, wR, wD, wG]) 9 rfl [] [0, 1, 2, 3, 4, 5, 6, 7, 8] (by decide) rfl) hK hP hD hS hA rfl hl.1 rfl (Nat.le_of_ble_eq_true rfl) ⟨(show 0 + 0 ≤ 1 by omega), (show 0 + 0 ≤ 6 by omega)⟩ d_Net_move_32 (fun rhr6 H locs hr6 hP hD hS => ?_)
        subst hr6
        refine W.eq (g2 := F0 m 35 ls [.int (bI false)]) (congrArg (fun z => F0 m 35 ls (.int z :: [])) (congrArg bI hno)) ?_
        refine ri_ifeqB hx hb d_Net_move_35 (tgt := 42) (by decide) (fun h7 => ?_) (fun h7 => ?_)
        · refine lv_iconst (v := nI 0) hx hb d_Net_move_42 (by decide) ?_
          refine W.eq (g2 := F0 m 43 ls [.int (bI false)]) (congrArg (fun z => F0 m 43 ls (.int z :: [])) (rfl)) ?_
          exact ct_throwS (As := [.int (bI false)]) (rest := []) hz hQ hlk ⟨hx, hb, hml, hown, ht⟩ (x_Net_demand l s0 A0 h0 hfl D cI cZ cJ cG) (cb_S ht kc_Net_demand kl_Net_70 kn_Net ki_Net_demand hd_Net_demand ⟨Nat.le_of_ble_eq_true rfl, Nat.le_of_ble_eq_true rfl⟩) (wd_ct (Bs := [[(h, .inr (8, [.ref aE, .ref aL, .ref aS, .ref aK, .ref aR, .ref aD, .ref aG]))], [(aK, .inr (4, [.ref aL, .ref aS, .ref aM, .int S.lost]))], wE, wL, wS, wM, wR, wD, wG]) 9 rfl [] [0, 1, 2, 3, 4, 5, 6, 7, 8] (by decide) rfl) hK hP hD hS hA rfl hl.1 rfl (Nat.le_of_ble_eq_true rfl) ⟨by decide, by decide⟩ ⟨by decide, by decide⟩ d_Net_move_43 (fun u hu => by subst hu; exact ⟨aE, aL, aS, aK, aR, aD, aG, aM, aP, aC, wE, wL, wS, wM, wR, wD, wG, rfl, kE, kL, kS, kM, kR, kD, kG⟩)
        · exact absurd h7 (fun z => by cases z)
set_option maxHeartbeats 800000 in
set_option maxRecDepth 100000 in
theorem k_Net_move_lose (l : Launch) (D : va_G) (cI cZ cJ cG : ClassId) {h : Nat} {S : bm_S} {ws : va_W} (hR : nt_R cI cZ cG h S ws) : ct_I l D kls (ty4 cI cZ cJ cG) y_Net_move ws_Net_move (rm_ 3 65 0 0) [.ref h, .int ((-1))] (ws) (fun z u => z = nI (if S.D.2.1.2.1 = 0 then 0 else 1) ∧ nt_R cI cZ cG h (bm_mlose S) u) 0 0 := by
  obtain ⟨aE, aL, aS, aK, aR, aD, aG, aM, aP, aC, wE, wL, wS, wM, wR, wD, wG, rfl, kE, kL, kS, kM, kR, kD, kG⟩ := hR
  obtain ⟨fsE, mE⟩ := kE.mem
  obtain ⟨fsL, mL⟩ := kL.mem
  obtain ⟨fsS, mS⟩ := kS.mem
  obtain ⟨fsR, mR⟩ := kR.mem
  obtain ⟨fsD, mD⟩ := kD.mem
  obtain ⟨fsG, mG⟩ := kG.mem
  refine ct_enterI (cc := b_Net_move) (maxL := 3) (ret := (some .int)) (by decide +kernel) (Nat.le_of_ble_eq_true rfl) ?_
  intro p e s m args below meth c hx hb hml hr ht hown hlk hnm A Q hA hK hP hD hQ ls hl
  have hown : s.vm.findClass R_Net = some m.cls := hown
  have hS : va_S A s.heap s.heap [] := va_S.rf
  have hl : lv_has ls 3 [(0, .ref h), (1, .int ((-1)))] := hl
  refine lv_iload_n hx hb d_Net_move_0 rfl (lv_at hl 1 rfl) ?_
  refine lv_iconst (v := (-1)) hx hb d_Net_move_1 (by decide) ?_
  refine lv_icmp_eq hx hb d_Net_move_2 (tgt := 18) (by decide) (fun h2 => ?_) (fun h2 => ?_)
  · refine lv_iconst (v := nI 1) hx hb d_Net_move_18 (by decide) ?_
    refine lv_goto hx hb d_Net_move_19 (tgt := 23) (by decide) ?_
    refine W.eq (g2 := F0 m 23 ls [.int (bI true)]) (congrArg (fun z => F0 m 23 ls (.int z :: [])) (rfl)) ?_
    refine ct_callSV (As := [.int (bI true)]) (rest := []) ⟨hx, hb, hml, hown, ht⟩ (k_Net_demandRoom l D cI cZ cJ cG) (cb_S ht kc_Net_demandRoom kl_Net_88 kn_Net ki_Net_demandRoom hd_Net_demandRoom ⟨Nat.le_of_ble_eq_true rfl, Nat.le_of_ble_eq_true rfl⟩) (wd_ct (Bs := [[(h, .inr (8, [.ref aE, .ref aL, .ref aS, .ref aK, .ref aR, .ref aD, .ref aG]))], [(aK, .inr (4, [.ref aL, .ref aS, .ref aM, .int S.lost]))], wE, wL, wS, wM, wR, wD, wG]) 9 rfl [] [0, 1, 2, 3, 4, 5, 6, 7, 8] (by decide) rfl) hK hP hD hS hA rfl hl.1 rfl (Nat.le_of_ble_eq_true rfl) ⟨(show 0 + 0 ≤ 0 by omega), (show 0 + 0 ≤ 0 by omega)⟩ d_Net_move_23 (fun u2 H locs hu2 hP hD hS => ?_)
    subst hu2
    refine W.widen (k := 0) (n := 0) (Nat.le_refl _) (Nat.le_refl _) ?_
    have hP := wd_nP (N := []) rfl 9 rfl [0, 1, 2, 3, 4, 5, 6, 7, 8] (by decide) hP
    have hD := wd_nD (N := []) rfl 9 rfl [0, 1, 2, 3, 4, 5, 6, 7, 8] (by decide) hD
    have hP : va_P D kls (List.flatten [[(h, .inr (8, [.ref aE, .ref aL, .ref aS, .ref aK, .ref aR, .ref aD, .ref aG]))], [(aK, .inr (4, [.ref aL, .ref aS, .ref aM, .int S.lost]))], wE, wL, wS, wM, wR, wD, wG]) H := hP
    have hD : va_D A (List.flatten [[(h, .inr (8, [.ref aE, .ref aL, .ref aS, .ref aK, .ref aR, .ref aD, .ref aG]))], [(aK, .inr (4, [.ref aL, .ref aS, .ref aM, .int S.lost]))], wE, wL, wS, wM, wR, wD, wG]) := hD
    refine W.eq (g2 := F0 m 26 ls []) rfl ?_
    refine lv_iload_n hx hb d_Net_move_26 rfl (lv_at hl 1 rfl) ?_
    refine lv_iconst (v := (-1)) hx hb d_Net_move_27 (by decide) ?_
    refine lv_icmp_eq hx hb d_Net_move_28 (tgt := 38) (by decide) (fun h20 => ?_) (fun h20 => ?_)
    · refine lv_iconst (v := nI 1) hx hb d_Net_move_38 (by decide) ?_
      refine lv_goto hx hb d_Net_move_39 (tgt := 43) (by decide) ?_
      refine W.eq (g2 := F0 m 43 ls [.int (bI true)]) (congrArg (fun z => F0 m 43 ls (.int z :: [])) (rfl)) ?_
      refine ct_callSV (As := [.int (bI true)]) (rest := []) ⟨hx, hb, hml, hown, ht⟩ (k_Net_demand l D cI cZ cJ cG) (cb_S ht kc_Net_demand kl_Net_70 kn_Net ki_Net_demand hd_Net_demand ⟨Nat.le_of_ble_eq_true rfl, Nat.le_of_ble_eq_true rfl⟩) (wd_ct (Bs := [[(h, .inr (8, [.ref aE, .ref aL, .ref aS, .ref aK, .ref aR, .ref aD, .ref aG]))], [(aK, .inr (4, [.ref aL, .ref aS, .ref aM, .int S.lost]))], wE, wL, wS, wM, wR, wD, wG]) 9 rfl [] [0, 1, 2, 3, 4, 5, 6, 7, 8] (by decide) rfl) hK hP hD hS hA rfl hl.1 rfl (Nat.le_of_ble_eq_true rfl) ⟨(show 0 + 0 ≤ 0 by omega), (show 0 + 0 ≤ 0 by omega)⟩ d_Net_move_43 (fun u4 H locs hu4 hP hD hS => ?_)
      subst hu4
      refine W.widen (k := 0) (n := 0) (Nat.le_refl _) (Nat.le_refl _) ?_
      have hP := wd_nP (N := []) rfl 9 rfl [0, 1, 2, 3, 4, 5, 6, 7, 8] (by decide) hP
      have hD := wd_nD (N := []) rfl 9 rfl [0, 1, 2, 3, 4, 5, 6, 7, 8] (by decide) hD
      have hP : va_P D kls (List.flatten [[(h, .inr (8, [.ref aE, .ref aL, .ref aS, .ref aK, .ref aR, .ref aD, .ref aG]))], [(aK, .inr (4, [.ref aL, .ref aS, .ref aM, .int S.lost]))], wE, wL, wS, wM, wR, wD, wG]) H := hP
      have hD : va_D A (List.flatten [[(h, .inr (8, [.ref aE, .ref aL, .ref aS, .ref aK, .ref aR, .ref aD, .ref aG]))], [(aK, .inr (4, [.ref aL, .ref aS, .ref aM, .int S.lost]))], wE, wL, wS, wM, wR, wD, wG]) := hD
      refine W.eq (g2 := F0 m 46 ls []) rfl ?_
      refine lv_iload_n hx hb d_Net_move_46 rfl (lv_at hl 1 rfl) ?_
      refine lv_iconst (v := (-1)) hx hb d_Net_move_47 (by decide) ?_
      refine lv_icmp_ne hx hb d_Net_move_48 (tgt := 59) (by decide) (fun h22 => ?_) (fun h22 => ?_)
      · exact absurd h22 (fun z => z rfl)
      · refine lv_aload_n hx hb d_Net_move_51 rfl (lv_at hl 0 rfl) ?_
        refine va_get (D := D) (ci := 8) (v := .ref aD) (C := R_Net) (T := T_Net) (N := 7) hx hb ht in_Net hown hK hP 0 rfl rfl 5 (by decide) (ht _ kl_Net_53) (fun _ h9 => h9) rfl d_Net_move_52 ?_
        refine ct_callVI (C := R_Data) (ci := 6) (As := []) (rest := []) ⟨hx, hb, hml, hown, ht⟩ (k_Data_loseOldest l D cI cZ cJ cG kD) (cb_V ht kc_Data_loseOldest kl_Net_200 kn_Data ki_Data_loseOldest ks_Data_loseOldest hd_Data_loseOldest ⟨Nat.le_of_ble_eq_true rfl, Nat.le_of_ble_eq_true rfl⟩) (wd_mem 7 rfl mD) rfl rfl (wd_ct (Bs := [[(h, .inr (8, [.ref aE, .ref aL, .ref aS, .ref aK, .ref aR, .ref aD, .ref aG]))], [(aK, .inr (4, [.ref aL, .ref aS, .ref aM, .int S.lost]))], wE, wL, wS, wM, wR, wD, wG]) 9 rfl [7] [0, 1, 2, 3, 4, 5, 6, 8] (by decide) (wd_1 _)) hK hP hD hS hA rfl hl.1 rfl (Nat.le_of_ble_eq_true rfl) ⟨(show 0 + 0 ≤ 0 by omega), (show 0 + 0 ≤ 0 by omega)⟩ d_Net_move_55 (fun ru6 u6 H locs hu6 hP hD hS => ?_)
        obtain ⟨hz9, kD2⟩ := hu6
        rw [hz9]
        refine W.widen (k := 0) (n := 0) (Nat.le_refl _) (Nat.le_refl _) ?_
        have hP := wd_nP (N := [u6]) (wd_1 _) 9 rfl [1, 2, 3, 4, 5, 6, 7, 0, 8] (by decide) hP
        have hD := wd_nD (N := [u6]) (wd_1 _) 9 rfl [1, 2, 3, 4, 5, 6, 7, 0, 8] (by decide) hD
        have hP : va_P D kls (List.flatten [[(h, .inr (8, [.ref aE, .ref aL, .ref aS, .ref aK, .ref aR, .ref aD, .ref aG]))], [(aK, .inr (4, [.ref aL, .ref aS, .ref aM, .int S.lost]))], wE, wL, wS, wM, wR, u6, wG]) H := hP
        have hD : va_D A (List.flatten [[(h, .inr (8, [.ref aE, .ref aL, .ref aS, .ref aK, .ref aR, .ref aD, .ref aG]))], [(aK, .inr (4, [.ref aL, .ref aS, .ref aM, .int S.lost]))], wE, wL, wS, wM, wR, u6, wG]) := hD
        refine W.eq (g2 := F0 m 58 ls [.int (nI (if S.D.2.1.2.1 = 0 then 0 else 1))]) rfl ?_
        exact ct_iret hQ hx hb hr hlk hP hD hS hK (by omega) (by omega) d_Net_move_58 (⟨rfl, aE, aL, aS, aK, aR, aD, aG, aM, aP, aC, wE, wL, wS, wM, wR, u6, wG, rfl, kE, kL, kS, kM, kR, kD2, kG⟩)
    · exact absurd h20 (fun z => z rfl)
  · exact absurd h2 (fun z => z rfl)
