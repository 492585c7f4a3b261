/-! BitNet: settled, stored, distance, alternate; the refusals of methods that ask for two routers. -/
/-- what the methods ask of the system's numbers -/
def bm_si (S : bm_S) : Prop := bm_ok S.T ∧ (∀ a b, S.kn a b ≤ 1000) ∧ (∀ a b, S.lk a b ≤ 2) ∧ bm_cap S.T ∧ rt_ok S.T.1 S.T.2.1 S.T.2.2.2 S.es ∧ ∀ r, r < 12 → ∀ a b, vw0 S.T.1.2.2 S.T.2.1 r a b ≠ 0 → vw0 S.T.1.2.2 S.T.2.1 r b a ≠ 0
set_option maxHeartbeats 800000 in
set_option maxRecDepth 100000 in
theorem k_Net_settled (l : Launch) (D : va_G) (cI cZ cJ cG : ClassId) {h : Nat} {S : bm_S} {ws : va_W} (hR : nt_R cI cZ cG h S ws) (hi : bm_si S) : ct_I l D kls (ty4 cI cZ cJ cG) y_Net_settled ws_Net_settled (rm_ 2 45 0 0) [.ref h] (ws) (fun z u => z = bI (bP (S.T.2.2.1.2.1 = 0 ∧ bm_agree S.lk S.T.2.1)) ∧ u = ws) 0 0 := by
  obtain ⟨aE, aL, aS, aK, aR, aD, aG, aM, aP, aC, wE, wL, wS, wM, wR, wD, wG, rfl, kE, kL, kS, kM, kR, kD, kG⟩ := hR
  obtain ⟨fsE, mE⟩ := kE.mem
  obtain ⟨fsL, mL⟩ := kL.mem
  obtain ⟨fsS, mS⟩ := kS.mem
  obtain ⟨fsR, mR⟩ := kR.mem
  obtain ⟨fsD, mD⟩ := kD.mem
  obtain ⟨fsG, mG⟩ := kG.mem
  have kK : co_R cI cG aK aL aS aM S.lk S.kn S.T S.lost (List.flatten [[(aK, .inr (4, [.ref aL, .ref aS, .ref aM, .int S.lost]))], wL, wS, wM]) := ⟨wL, wS, wM, rfl, kL, kS, kM⟩
  obtain ⟨fsK, mK⟩ := kK.mem
  refine ct_enterI (cc := b_Net_settled) (maxL := 1) (ret := (some .boolean)) (by decide +kernel) (Nat.le_of_ble_eq_true rfl) ?_
  intro p e s m args below meth c hx hb hml hr ht hown hlk hnm A Q hA hK hP hD hQ ls hl
  have hown : s.vm.findClass R_Net = some m.cls := hown
  have hS : va_S A s.heap s.heap [] := va_S.rf
  have hl : lv_has ls 1 [(0, .ref h)] := hl
  have bM9 := kM.n
  refine lv_aload_n hx hb d_Net_settled_0 rfl (lv_at hl 0 rfl) ?_
  refine va_get (D := D) (ci := 8) (v := .ref aK) (C := R_Net) (T := T_Net) (N := 7) hx hb ht in_Net hown hK hP 0 rfl rfl 3 (by decide) (ht _ kl_Net_35) (fun _ h9 => h9) rfl d_Net_settled_1 ?_
  refine ct_rdV (C := R_Control) (ci := 4) (As := []) (rest := []) ⟨hx, hb, hml, hown, ht⟩ (k_Control_onTheWay l D cI cZ cJ cG kK) (cb_V ht kc_Control_onTheWay kl_Net_129 kn_Control ki_Control_onTheWay ks_Control_onTheWay hd_Control_onTheWay ⟨Nat.le_of_ble_eq_true rfl, Nat.le_of_ble_eq_true rfl⟩) (List.mem_of_getElem? (i := 1) rfl) rfl rfl (wd_ct (Bs := [[(h, .inr (8, [.ref aE, .ref aL, .ref aS, .ref aK, .ref aR, .ref aD, .ref aG]))], [(aK, .inr (4, [.ref aL, .ref aS, .ref aM, .int S.lost]))], wE, wL, wS, wM, wR, wD, wG]) 9 rfl [1, 3, 4, 5] [0, 2, 6, 7, 8] (by decide) rfl) hK hP hD hS hA rfl hl.1 rfl (Nat.le_of_ble_eq_true rfl) ⟨(show 0 + 0 ≤ 0 by omega), (show 0 + 0 ≤ 0 by omega)⟩ d_Net_settled_4 (fun rhr1 H locs hr1 hP hD hS => ?_)
  subst hr1
  refine ri_if_ne hx hb (by omega) d_Net_settled_7 (tgt := 24) (by decide) (fun h7 => ?_) (fun h7 => ?_)
  · refine lv_iconst (v := nI 0) hx hb d_Net_settled_24 (by decide) ?_
    exact ct_zret (b := false) hQ hx hb hr hlk hP hD hS hK (by omega) (by omega) d_Net_settled_25 (⟨congrArg bI (bP_f (fun z => by first | exact h7 z.1 | exact bP_no h17 z.2)).symm, rfl⟩)
  · refine lv_aload_n hx hb d_Net_settled_10 rfl (lv_at hl 0 rfl) ?_
    refine va_get (D := D) (ci := 8) (v := .ref aK) (C := R_Net) (T := T_Net) (N := 7) hx hb ht in_Net hown hK hP 0 rfl rfl 3 (by decide) (ht _ kl_Net_35) (fun _ h9 => h9) rfl d_Net_settled_11 ?_
    refine ct_rdV (C := R_Control) (ci := 4) (As := []) (rest := []) ⟨hx, hb, hml, hown, ht⟩ (k_Control_neighboursAgree l D cI cZ cJ cG kK hi.1 hi.2.1 hi.2.2.1 hi.2.2.2.1) (cb_V ht kc_Control_neighboursAgree kl_Net_139 kn_Control ki_Control_neighboursAgree ks_Control_neighboursAgree hd_Control_neighboursAgree ⟨Nat.le_of_ble_eq_true rfl, Nat.le_of_ble_eq_true rfl⟩) (List.mem_of_getElem? (i := 1) rfl) rfl rfl (wd_ct (Bs := [[(h, .inr (8, [.ref aE, .ref aL, .ref aS, .ref aK, .ref aR, .ref aD, .ref aG]))], [(aK, .inr (4, [.ref aL, .ref aS, .ref aM, .int S.lost]))], wE, wL, wS, wM, wR, wD, wG]) 9 rfl [1, 3, 4, 5] [0, 2, 6, 7, 8] (by decide) rfl) hK hP hD hS hA rfl hl.1 rfl (Nat.le_of_ble_eq_true rfl) ⟨(show 0 + 0 ≤ 0 by omega), (show 0 + 0 ≤ 0 by omega)⟩ d_Net_settled_14 (fun rhr3 H locs hr3 hP hD hS => ?_)
    subst hr3
    refine ri_ifeqB hx hb d_Net_settled_17 (tgt := 24) (by decide) (fun h17 => ?_) (fun h17 => ?_)
    · refine lv_iconst (v := nI 0) hx hb d_Net_settled_24 (by decide) ?_
      exact ct_zret (b := false) hQ hx hb hr hlk hP hD hS hK (by omega) (by omega) d_Net_settled_25 (⟨congrArg bI (bP_f (fun z => by first | exact h7 z.1 | exact bP_no h17 z.2)).symm, rfl⟩)
    · refine lv_iconst (v := nI 1) hx hb d_Net_settled_20 (by decide) ?_
      refine lv_goto hx hb d_Net_settled_21 (tgt := 25) (by decide) ?_
      exact ct_zret (b := true) hQ hx hb hr hlk hP hD hS hK (by omega) (by omega) d_Net_settled_25 (⟨congrArg bI (bP_t ⟨h7, bP_of h17⟩).symm, rfl⟩)
set_option maxHeartbeats 800000 in
set_option maxRecDepth 100000 in
theorem k_Net_stored (l : Launch) (D : va_G) (cI cZ cJ cG : ClassId) {h : Nat} {S : bm_S} {ws : va_W} (hR : nt_R cI cZ cG h S ws) (hi : bm_si S) (r o : Nat) (hr9 : r < 12) (ho9 : o < 12) : ct_I l D kls (ty4 cI cZ cJ cG) y_Net_stored ws_Net_stored (rm_ 3 66 0 0) [.ref h, .int (nI r), .int (nI o)] (ws) (fun z u => z = nI (S.T.1.2.2 (S.T.2.1 r o) 1) ∧ u = ws) 0 0 := by
  obtain ⟨aE, aL, aS, aK, aR, aD, aG, aM, aP, aC, wE, wL, wS, wM, wR, wD, wG, rfl, kE, kL, kS, kM, kR, kD, kG⟩ := hR
  obtain ⟨fsE, mE⟩ := kE.mem
  obtain ⟨fsL, mL⟩ := kL.mem
  obtain ⟨fsS, mS⟩ := kS.mem
  obtain ⟨fsR, mR⟩ := kR.mem
  obtain ⟨fsD, mD⟩ := kD.mem
  obtain ⟨fsG, mG⟩ := kG.mem
  refine ct_enterI (cc := b_Net_stored) (maxL := 3) (ret := (some .int)) (by decide +kernel) (Nat.le_of_ble_eq_true rfl) ?_
  intro p e s m args below meth c hx hb hml hr ht hown hlk hnm A Q hA hK hP hD hQ ls hl
  have hown : s.vm.findClass R_Net = some m.cls := hown
  have hS : va_S A s.heap s.heap [] := va_S.rf
  have hl : lv_has ls 3 [(0, .ref h), (1, .int (nI r)), (2, .int (nI o))] := hl
  refine lv_iload_n hx hb d_Net_stored_0 rfl (lv_at hl 1 rfl) ?_
  refine ct_rdS (As := [.int (nI r)]) (rest := []) ⟨hx, hb, hml, hown, ht⟩ (k_Net_isRouter l D cI cZ cJ cG (nI r)) (cb_S ht kc_Net_isRouter kl_Net_66 kn_Net ki_Net_isRouter hd_Net_isRouter ⟨Nat.le_of_ble_eq_true rfl, Nat.le_of_ble_eq_true rfl⟩) (wd_ct (Bs := [[(h, .inr (8, [.ref aE, .ref aL, .ref aS, .ref aK, .ref aR, .ref aD, .ref aG]))], [(aK, .inr (4, [.ref aL, .ref aS, .ref aM, .int S.lost]))], wE, wL, wS, wM, wR, wD, wG]) 9 rfl [] [0, 1, 2, 3, 4, 5, 6, 7, 8] (by decide) rfl) hK hP hD hS hA rfl hl.1 rfl (Nat.le_of_ble_eq_true rfl) ⟨(show 0 + 0 ≤ 0 by omega), (show 0 + 0 ≤ 0 by omega)⟩ d_Net_stored_1 (fun rhr1 H locs hr1 hP hD hS => ?_)
  subst hr1
  refine W.eq (g2 := F0 m 4 ls [.int (bI true)]) (congrArg (fun z => F0 m 4 ls (.int z :: [])) (congrArg bI (rg_t12 hr9))) ?_
  refine ri_ifeqB hx hb d_Net_stored_4 (tgt := 18) (by decide) (fun h2 => ?_) (fun h2 => ?_)
  · exact absurd h2 (fun z => by cases z)
  · refine lv_iload_n hx hb d_Net_stored_7 rfl (lv_at hl 2 rfl) ?_
    refine ct_rdS (As := [.int (nI o)]) (rest := []) ⟨hx, hb, hml, hown, ht⟩ (k_Net_isRouter l D cI cZ cJ cG (nI o)) (cb_S ht kc_Net_isRouter kl_Net_66 kn_Net ki_Net_isRouter hd_Net_isRouter ⟨Nat.le_of_ble_eq_true rfl, Nat.le_of_ble_eq_true rfl⟩) (wd_ct (Bs := [[(h, .inr (8, [.ref aE, .ref aL, .ref aS, .ref aK, .ref aR, .ref aD, .ref aG]))], [(aK, .inr (4, [.ref aL, .ref aS, .ref aM, .int S.lost]))], wE, wL, wS, wM, wR, wD, wG]) 9 rfl [] [0, 1, 2, 3, 4, 5, 6, 7, 8] (by decide) rfl) hK hP hD hS hA rfl hl.1 rfl (Nat.le_of_ble_eq_true rfl) ⟨(show 0 + 0 ≤ 0 by omega), (show 0 + 0 ≤ 0 by omega)⟩ d_Net_stored_8 (fun rhr3 H locs hr3 hP hD hS => ?_)
    subst hr3
    refine W.eq (g2 := F0 m 11 ls [.int (bI true)]) (congrArg (fun z => F0 m 11 ls (.int z :: [])) (congrArg bI (rg_t12 ho9))) ?_
    refine ri_ifeqB hx hb d_Net_stored_11 (tgt := 18) (by decide) (fun h4 => ?_) (fun h4 => ?_)
    · exact absurd h4 (fun z => by cases z)
    · refine lv_iconst (v := nI 1) hx hb d_Net_stored_14 (by decide) ?_
      refine lv_goto hx hb d_Net_stored_15 (tgt := 19) (by decide) ?_
      refine W.eq (g2 := F0 m 19 ls [.int (bI true)]) (congrArg (fun z => F0 m 19 ls (.int z :: [])) (rfl)) ?_
      refine ct_callSV (As := [.int (bI true)]) (rest := []) ⟨hx, hb, hml, hown, ht⟩ (k_Net_demand l D cI cZ cJ cG) (cb_S ht kc_Net_demand kl_Net_70 kn_Net ki_Net_demand hd_Net_demand ⟨Nat.le_of_ble_eq_true rfl, Nat.le_of_ble_eq_true rfl⟩) (wd_ct (Bs := [[(h, .inr (8, [.ref aE, .ref aL, .ref aS, .ref aK, .ref aR, .ref aD, .ref aG]))], [(aK, .inr (4, [.ref aL, .ref aS, .ref aM, .int S.lost]))], wE, wL, wS, wM, wR, wD, wG]) 9 rfl [] [0, 1, 2, 3, 4, 5, 6, 7, 8] (by decide) rfl) hK hP hD hS hA rfl hl.1 rfl (Nat.le_of_ble_eq_true rfl) ⟨(show 0 + 0 ≤ 0 by omega), (show 0 + 0 ≤ 0 by omega)⟩ d_Net_stored_19 (fun u5 H locs hu5 hP hD hS => ?_)
      subst hu5
      refine W.widen (k := 0) (n := 0) (Nat.le_refl _) (Nat.le_refl _) ?_
      have hP := wd_nP (N := []) rfl 9 rfl [0, 1, 2, 3, 4, 5, 6, 7, 8] (by decide) hP
      have hD := wd_nD (N := []) rfl 9 rfl [0, 1, 2, 3, 4, 5, 6, 7, 8] (by decide) hD
      have hP : va_P D kls (List.flatten [[(h, .inr (8, [.ref aE, .ref aL, .ref aS, .ref aK, .ref aR, .ref aD, .ref aG]))], [(aK, .inr (4, [.ref aL, .ref aS, .ref aM, .int S.lost]))], wE, wL, wS, wM, wR, wD, wG]) H := hP
      have hD : va_D A (List.flatten [[(h, .inr (8, [.ref aE, .ref aL, .ref aS, .ref aK, .ref aR, .ref aD, .ref aG]))], [(aK, .inr (4, [.ref aL, .ref aS, .ref aM, .int S.lost]))], wE, wL, wS, wM, wR, wD, wG]) := hD
      refine W.eq (g2 := F0 m 22 ls []) rfl ?_
      refine lv_aload_n hx hb d_Net_stored_22 rfl (lv_at hl 0 rfl) ?_
      refine va_get (D := D) (ci := 8) (v := .ref aS) (C := R_Net) (T := T_Net) (N := 7) hx hb ht in_Net hown hK hP 0 rfl rfl 2 (by decide) (ht _ kl_Net_26) (fun _ h9 => h9) rfl d_Net_stored_23 ?_
      refine lv_aload_n hx hb d_Net_stored_26 rfl (lv_at hl 0 rfl) ?_
      refine va_get (D := D) (ci := 8) (v := .ref aS) (C := R_Net) (T := T_Net) (N := 7) hx hb ht in_Net hown hK hP 0 rfl rfl 2 (by decide) (ht _ kl_Net_26) (fun _ h9 => h9) rfl d_Net_stored_27 ?_
      refine lv_iload_n hx hb d_Net_stored_30 rfl (lv_at hl 1 rfl) ?_
      refine lv_iload_n hx hb d_Net_stored_31 rfl (lv_at hl 2 rfl) ?_
      refine ct_rdV (C := R_Stores) (ci := 3) (As := [.int (nI r), .int (nI o)]) (rest := [.ref aS]) ⟨hx, hb, hml, hown, ht⟩ (k_Stores_advertOf l D cI cZ cJ cG kS r o hr9 ho9) (cb_V ht kc_Stores_advertOf kl_Net_152 kn_Stores ki_Stores_advertOf ks_Stores_advertOf hd_Stores_advertOf ⟨Nat.le_of_ble_eq_true rfl, Nat.le_of_ble_eq_true rfl⟩) (wd_mem 4 rfl mS) rfl rfl (wd_ct (Bs := [[(h, .inr (8, [.ref aE, .ref aL, .ref aS, .ref aK, .ref aR, .ref aD, .ref aG]))], [(aK, .inr (4, [.ref aL, .ref aS, .ref aM, .int S.lost]))], wE, wL, wS, wM, wR, wD, wG]) 9 rfl [4] [0, 1, 2, 3, 5, 6, 7, 8] (by decide) (wd_1 _)) hK hP hD hS hA rfl hl.1 rfl (Nat.le_of_ble_eq_true rfl) ⟨(show 0 + 0 ≤ 0 by omega), (show 0 + 0 ≤ 0 by omega)⟩ d_Net_stored_32 (fun rhr6 H locs hr6 hP hD hS => ?_)
      subst hr6
      refine ct_rdV (C := R_Stores) (ci := 3) (As := [.int (nI (S.T.2.1 r o))]) (rest := []) ⟨hx, hb, hml, hown, ht⟩ (k_Stores_numberOf l D cI cZ cJ cG kS (S.T.2.1 r o) (hi.1.1 r o hr9 ho9)) (cb_V ht kc_Stores_numberOf kl_Net_155 kn_Stores ki_Stores_numberOf ks_Stores_numberOf hd_Stores_numberOf ⟨Nat.le_of_ble_eq_true rfl, Nat.le_of_ble_eq_true rfl⟩) (wd_mem 4 rfl mS) rfl rfl (wd_ct (Bs := [[(h, .inr (8, [.ref aE, .ref aL, .ref aS, .ref aK, .ref aR, .ref aD, .ref aG]))], [(aK, .inr (4, [.ref aL, .ref aS, .ref aM, .int S.lost]))], wE, wL, wS, wM, wR, wD, wG]) 9 rfl [4] [0, 1, 2, 3, 5, 6, 7, 8] (by decide) (wd_1 _)) hK hP hD hS hA rfl hl.1 rfl (Nat.le_of_ble_eq_true rfl) ⟨(show 0 + 0 ≤ 0 by omega), (show 0 + 0 ≤ 0 by omega)⟩ d_Net_stored_35 (fun rhr7 H locs hr7 hP hD hS => ?_)
      subst hr7
      exact ct_iret hQ hx hb hr hlk hP hD hS hK (by omega) (by omega) d_Net_stored_38 (⟨rfl, rfl⟩)
set_option maxHeartbeats 800000 in
set_option maxRecDepth 100000 in
theorem k_Net_distance (l : Launch) (D : va_G) (cI cZ cJ cG : ClassId) {h : Nat} {S : bm_S} {ws : va_W} (hR : nt_R cI cZ cG h S ws) (hi : bm_si S) (r o : Nat) (hr9 : r < 12) (ho9 : o < 12) : ct_I l D kls (ty4 cI cZ cJ cG) y_Net_distance ws_Net_distance (rm_ 4 93 0 0) [.ref h, .int (nI r), .int (nI o)] (ws) (fun z u => z = bm_oI (bn_len (vw0 S.T.1.2.2 S.T.2.1 r) r o) ∧ nt_R cI cZ cG h S u) 0 0 := by
  obtain ⟨aE, aL, aS, aK, aR, aD, aG, aM, aP, aC, wE, wL, wS, wM, wR, wD, wG, rfl, kE, kL, kS, kM, kR, kD, kG⟩ := hR
  obtain ⟨fsE, mE⟩ := kE.mem
  obtain ⟨fsL, mL⟩ := kL.mem
  obtain ⟨fsS, mS⟩ := kS.mem
  obtain ⟨fsR, mR⟩ := kR.mem
  obtain ⟨fsD, mD⟩ := kD.mem
  obtain ⟨fsG, mG⟩ := kG.mem
  refine ct_enterI (cc := b_Net_distance) (maxL := 3) (ret := (some .int)) (by decide +kernel) (Nat.le_of_ble_eq_true rfl) ?_
  intro p e s m args below meth c hx hb hml hr ht hown hlk hnm A Q hA hK hP hD hQ ls hl
  have hown : s.vm.findClass R_Net = some m.cls := hown
  have hS : va_S A s.heap s.heap [] := va_S.rf
  have hl : lv_has ls 3 [(0, .ref h), (1, .int (nI r)), (2, .int (nI o))] := hl
  obtain ⟨mk8, ra8, kR8, hca8⟩ := kR
  refine lv_iload_n hx hb d_Net_distance_0 rfl (lv_at hl 1 rfl) ?_
  refine ct_rdS (As := [.int (nI r)]) (rest := []) ⟨hx, hb, hml, hown, ht⟩ (k_Net_isRouter l D cI cZ cJ cG (nI r)) (cb_S ht kc_Net_isRouter kl_Net_66 kn_Net ki_Net_isRouter hd_Net_isRouter ⟨Nat.le_of_ble_eq_true rfl, Nat.le_of_ble_eq_true rfl⟩) (wd_ct (Bs := [[(h, .inr (8, [.ref aE, .ref aL, .ref aS, .ref aK, .ref aR, .ref aD, .ref aG]))], [(aK, .inr (4, [.ref aL, .ref aS, .ref aM, .int S.lost]))], wE, wL, wS, wM, wR, wD, wG]) 9 rfl [] [0, 1, 2, 3, 4, 5, 6, 7, 8] (by decide) rfl) hK hP hD hS hA rfl hl.1 rfl (Nat.le_of_ble_eq_true rfl) ⟨(show 0 + 0 ≤ 0 by omega), (show 0 + 0 ≤ 0 by omega)⟩ d_Net_distance_1 (fun rhr1 H locs hr1 hP hD hS => ?_)
  subst hr1
  refine W.eq (g2 := F0 m 4 ls [.int (bI true)]) (congrArg (fun z => F0 m 4 ls (.int z :: [])) (congrArg bI (rg_t12 hr9))) ?_
  refine ri_ifeqB hx hb d_Net_distance_4 (tgt := 18) (by decide) (fun h2 => ?_) (fun h2 => ?_)
  · exact absurd h2 (fun z => by cases z)
  · refine lv_iload_n hx hb d_Net_distance_7 rfl (lv_at hl 2 rfl) ?_
    refine ct_rdS (As := [.int (nI o)]) (rest := []) ⟨hx, hb, hml, hown, ht⟩ (k_Net_isRouter l D cI cZ cJ cG (nI o)) (cb_S ht kc_Net_isRouter kl_Net_66 kn_Net ki_Net_isRouter hd_Net_isRouter ⟨Nat.le_of_ble_eq_true rfl, Nat.le_of_ble_eq_true rfl⟩) (wd_ct (Bs := [[(h, .inr (8, [.ref aE, .ref aL, .ref aS, .ref aK, .ref aR, .ref aD, .ref aG]))], [(aK, .inr (4, [.ref aL, .ref aS, .ref aM, .int S.lost]))], wE, wL, wS, wM, wR, wD, wG]) 9 rfl [] [0, 1, 2, 3, 4, 5, 6, 7, 8] (by decide) rfl) hK hP hD hS hA rfl hl.1 rfl (Nat.le_of_ble_eq_true rfl) ⟨(show 0 + 0 ≤ 0 by omega), (show 0 + 0 ≤ 0 by omega)⟩ d_Net_distance_8 (fun rhr3 H locs hr3 hP hD hS => ?_)
    subst hr3
    refine W.eq (g2 := F0 m 11 ls [.int (bI true)]) (congrArg (fun z => F0 m 11 ls (.int z :: [])) (congrArg bI (rg_t12 ho9))) ?_
    refine ri_ifeqB hx hb d_Net_distance_11 (tgt := 18) (by decide) (fun h4 => ?_) (fun h4 => ?_)
    · exact absurd h4 (fun z => by cases z)
    · refine lv_iconst (v := nI 1) hx hb d_Net_distance_14 (by decide) ?_
      refine lv_goto hx hb d_Net_distance_15 (tgt := 19) (by decide) ?_
      refine W.eq (g2 := F0 m 19 ls [.int (bI true)]) (congrArg (fun z => F0 m 19 ls (.int z :: [])) (rfl)) ?_
      refine ct_callSV (As := [.int (bI true)]) (rest := []) ⟨hx, hb, hml, hown, ht⟩ (k_Net_demand l D cI cZ cJ cG) (cb_S ht kc_Net_demand kl_Net_70 kn_Net ki_Net_demand hd_Net_demand ⟨Nat.le_of_ble_eq_true rfl, Nat.le_of_ble_eq_true rfl⟩) (wd_ct (Bs := [[(h, .inr (8, [.ref aE, .ref aL, .ref aS, .ref aK, .ref aR, .ref aD, .ref aG]))], [(aK, .inr (4, [.ref aL, .ref aS, .ref aM, .int S.lost]))], wE, wL, wS, wM, wR, wD, wG]) 9 rfl [] [0, 1, 2, 3, 4, 5, 6, 7, 8] (by decide) rfl) hK hP hD hS hA rfl hl.1 rfl (Nat.le_of_ble_eq_true rfl) ⟨(show 0 + 0 ≤ 0 by omega), (show 0 + 0 ≤ 0 by omega)⟩ d_Net_distance_19 (fun u5 H locs hu5 hP hD hS => ?_)
      subst hu5
      refine W.widen (k := 0) (n := 0) (Nat.le_refl _) (Nat.le_refl _) ?_
      have hP := wd_nP (N := []) rfl 9 rfl [0, 1, 2, 3, 4, 5, 6, 7, 8] (by decide) hP
      have hD := wd_nD (N := []) rfl 9 rfl [0, 1, 2, 3, 4, 5, 6, 7, 8] (by decide) hD
      have hP : va_P D kls (List.flatten [[(h, .inr (8, [.ref aE, .ref aL, .ref aS, .ref aK, .ref aR, .ref aD, .ref aG]))], [(aK, .inr (4, [.ref aL, .ref aS, .ref aM, .int S.lost]))], wE, wL, wS, wM, wR, wD, wG]) H := hP
      have hD : va_D A (List.flatten [[(h, .inr (8, [.ref aE, .ref aL, .ref aS, .ref aK, .ref aR, .ref aD, .ref aG]))], [(aK, .inr (4, [.ref aL, .ref aS, .ref aM, .int S.lost]))], wE, wL, wS, wM, wR, wD, wG]) := hD
      refine W.eq (g2 := F0 m 22 ls []) rfl ?_
      refine lv_aload_n hx hb d_Net_distance_22 rfl (lv_at hl 0 rfl) ?_
      refine va_get (D := D) (ci := 8) (v := .ref aR) (C := R_Net) (T := T_Net) (N := 7) hx hb ht in_Net hown hK hP 0 rfl rfl 4 (by decide) (ht _ kl_Net_44) (fun _ h9 => h9) rfl d_Net_distance_23 ?_
      refine lv_iload_n hx hb d_Net_distance_26 rfl (lv_at hl 1 rfl) ?_
      refine lv_iload_n hx hb d_Net_distance_27 rfl (lv_at hl 2 rfl) ?_
      refine ct_callVI (C := R_Routes) (ci := 5) (As := [.int (nI r), .int (nI o)]) (rest := []) ⟨hx, hb, hml, hown, ht⟩ (k_Routes_lengthOfWay l D cI cZ cJ cG kR8 kS kE r o hr9 ho9 (fun x hx => hi.2.2.2.2.1.2.1 r x hr9 hx) hi.2.2.2.2.1.2.2.1 (hi.2.2.2.2.1.2.2.2.1 r hr9) (hi.2.2.2.2.1.2.2.2.2 r hr9)) (cb_V ht kc_Routes_lengthOfWay kl_Net_146 kn_Routes ki_Routes_lengthOfWay ks_Routes_lengthOfWay hd_Routes_lengthOfWay ⟨Nat.le_of_ble_eq_true rfl, Nat.le_of_ble_eq_true rfl⟩) (wd_mem 6 rfl mR) rfl rfl (wd_ct (Bs := [[(h, .inr (8, [.ref aE, .ref aL, .ref aS, .ref aK, .ref aR, .ref aD, .ref aG]))], [(aK, .inr (4, [.ref aL, .ref aS, .ref aM, .int S.lost]))], wE, wL, wS, wM, wR, wD, wG]) 9 rfl [6, 4, 2] [0, 1, 3, 5, 7, 8] (by decide) rfl) hK hP hD hS hA rfl hl.1 rfl (Nat.le_of_ble_eq_true rfl) ⟨(show 0 + 0 ≤ 0 by omega), (show 0 + 0 ≤ 0 by omega)⟩ d_Net_distance_28 (fun ru6 u6 H locs hu6 hP hD hS => ?_)
      obtain ⟨hz9, wR2, rfl, kR9⟩ := hu6
      rw [hz9]
      refine W.widen (k := 0) (n := 0) (Nat.le_refl _) (Nat.le_refl _) ?_
      have hP := wd_nP (N := [wR2, wS, wE]) rfl 9 rfl [3, 4, 2, 5, 1, 6, 0, 7, 8] (by decide) hP
      have hD := wd_nD (N := [wR2, wS, wE]) rfl 9 rfl [3, 4, 2, 5, 1, 6, 0, 7, 8] (by decide) hD
      have hP : va_P D kls (List.flatten [[(h, .inr (8, [.ref aE, .ref aL, .ref aS, .ref aK, .ref aR, .ref aD, .ref aG]))], [(aK, .inr (4, [.ref aL, .ref aS, .ref aM, .int S.lost]))], wE, wL, wS, wM, wR2, wD, wG]) H := hP
      have hD : va_D A (List.flatten [[(h, .inr (8, [.ref aE, .ref aL, .ref aS, .ref aK, .ref aR, .ref aD, .ref aG]))], [(aK, .inr (4, [.ref aL, .ref aS, .ref aM, .int S.lost]))], wE, wL, wS, wM, wR2, wD, wG]) := hD
      refine W.eq (g2 := F0 m 31 ls [.int (bm_oI (bn_len (vw0 S.T.1.2.2 S.T.2.1 r) r o))]) rfl ?_
      exact ct_iret hQ hx hb hr hlk hP hD hS hK (by omega) (by omega) d_Net_distance_31 (⟨rfl, aE, aL, aS, aK, aR, aD, aG, aM, aP, aC, wE, wL, wS, wM, wR2, wD, wG, rfl, kE, kL, kS, kM, ⟨mk8, ra8, kR9, hca8⟩, kD, kG⟩)
set_option maxHeartbeats 800000 in
set_option maxRecDepth 100000 in
theorem k_Net_alternate (l : Launch) (D : va_G) (cI cZ cJ cG : ClassId) {h : Nat} {S : bm_S} {ws : va_W} (hR : nt_R cI cZ cG h S ws) (hi : bm_si S) (r o : Nat) (hr9 : r < 12) (ho9 : o < 12) : ct_I l D kls (ty4 cI cZ cJ cG) y_Net_alternate ws_Net_alternate (rm_ 4 96 0 0) [.ref h, .int (nI r), .int (nI o)] (ws) (fun z u => z = bm_oI (bm_alt (vw0 S.T.1.2.2 S.T.2.1 r) r o) ∧ nt_R cI cZ cG h S u) 0 0 := by
  obtain ⟨aE, aL, aS, aK, aR, aD, aG, aM, aP, aC, wE, wL, wS, wM, wR, wD, wG, rfl, kE, kL, kS, kM, kR, kD, kG⟩ := hR
  obtain ⟨fsE, mE⟩ := kE.mem
  obtain ⟨fsL, mL⟩ := kL.mem
  obtain ⟨fsS, mS⟩ := kS.mem
  obtain ⟨fsR, mR⟩ := kR.mem
  obtain ⟨fsD, mD⟩ := kD.mem
  obtain ⟨fsG, mG⟩ := kG.mem
  refine ct_enterI (cc := b_Net_alternate) (maxL := 3) (ret := (some .int)) (by decide +kernel) (Nat.le_of_ble_eq_true rfl) ?_
  intro p e s m args below meth c hx hb hml hr ht hown hlk hnm A Q hA hK hP hD hQ ls hl
  have hown : s.vm.findClass R_Net = some m.cls := hown
  have hS : va_S A s.heap s.heap [] := va_S.rf
  have hl : lv_has ls 3 [(0, .ref h), (1, .int (nI r)), (2, .int (nI o))] := hl
  obtain ⟨mk8, ra8, kR8, hca8⟩ := kR
  refine lv_iload_n hx hb d_Net_alternate_0 rfl (lv_at hl 1 rfl) ?_
  refine ct_rdS (As := [.int (nI r)]) (rest := []) ⟨hx, hb, hml, hown, ht⟩ (k_Net_isRouter l D cI cZ cJ cG (nI r)) (cb_S ht kc_Net_isRouter kl_Net_66 kn_Net ki_Net_isRouter hd_Net_isRouter ⟨Nat.le_of_ble_eq_true rfl, Nat.le_of_ble_eq_true rfl⟩) (wd_ct (Bs := [[(h, .inr (8, [.ref aE, .ref aL, .ref aS, .ref aK, .ref aR, .ref aD, .ref aG]))], [(aK, .inr (4, [.ref aL, .ref aS, .ref aM, .int S.lost]))], wE, wL, wS, wM, wR, wD, wG]) 9 rfl [] [0, 1, 2, 3, 4, 5, 6, 7, 8] (by decide) rfl) hK hP hD hS hA rfl hl.1 rfl (Nat.le_of_ble_eq_true rfl) ⟨(show 0 + 0 ≤ 0 by omega), (show 0 + 0 ≤ 0 by omega)⟩ d_Net_alternate_1 (fun rhr1 H locs hr1 hP hD hS => ?_)
  subst hr1
  refine W.eq (g2 := F0 m 4 ls [.int (bI true)]) (congrArg (fun z => F0 m 4 ls (.int z :: [])) (congrArg bI (rg_t12 hr9))) ?_
  refine ri_ifeqB hx hb d_Net_alternate_4 (tgt := 18) (by decide) (fun h2 => ?_) (fun h2 => ?_)
  · exact absurd h2 (fun z => by cases z)
  · refine lv_iload_n hx hb d_Net_alternate_7 rfl (lv_at hl 2 rfl) ?_
    refine ct_rdS (As := [.int (nI o)]) (rest := []) ⟨hx, hb, hml, hown, ht⟩ (k_Net_isRouter l D cI cZ cJ cG (nI o)) (cb_S ht kc_Net_isRouter kl_Net_66 kn_Net ki_Net_isRouter hd_Net_isRouter ⟨Nat.le_of_ble_eq_true rfl, Nat.le_of_ble_eq_true rfl⟩) (wd_ct (Bs := [[(h, .inr (8, [.ref aE, .ref aL, .ref aS, .ref aK, .ref aR, .ref aD, .ref aG]))], [(aK, .inr (4, [.ref aL, .ref aS, .ref aM, .int S.lost]))], wE, wL, wS, wM, wR, wD, wG]) 9 rfl [] [0, 1, 2, 3, 4, 5, 6, 7, 8] (by decide) rfl) hK hP hD hS hA rfl hl.1 rfl (Nat.le_of_ble_eq_true rfl) ⟨(show 0 + 0 ≤ 0 by omega), (show 0 + 0 ≤ 0 by omega)⟩ d_Net_alternate_8 (fun rhr3 H locs hr3 hP hD hS => ?_)
    subst hr3
    refine W.eq (g2 := F0 m 11 ls [.int (bI true)]) (congrArg (fun z => F0 m 11 ls (.int z :: [])) (congrArg bI (rg_t12 ho9))) ?_
    refine ri_ifeqB hx hb d_Net_alternate_11 (tgt := 18) (by decide) (fun h4 => ?_) (fun h4 => ?_)
    · exact absurd h4 (fun z => by cases z)
    · refine lv_iconst (v := nI 1) hx hb d_Net_alternate_14 (by decide) ?_
      refine lv_goto hx hb d_Net_alternate_15 (tgt := 19) (by decide) ?_
      refine W.eq (g2 := F0 m 19 ls [.int (bI true)]) (congrArg (fun z => F0 m 19 ls (.int z :: [])) (rfl)) ?_
      refine ct_callSV (As := [.int (bI true)]) (rest := []) ⟨hx, hb, hml, hown, ht⟩ (k_Net_demand l D cI cZ cJ cG) (cb_S ht kc_Net_demand kl_Net_70 kn_Net ki_Net_demand hd_Net_demand ⟨Nat.le_of_ble_eq_true rfl, Nat.le_of_ble_eq_true rfl⟩) (wd_ct (Bs := [[(h, .inr (8, [.ref aE, .ref aL, .ref aS, .ref aK, .ref aR, .ref aD, .ref aG]))], [(aK, .inr (4, [.ref aL, .ref aS, .ref aM, .int S.lost]))], wE, wL, wS, wM, wR, wD, wG]) 9 rfl [] [0, 1, 2, 3, 4, 5, 6, 7, 8] (by decide) rfl) hK hP hD hS hA rfl hl.1 rfl (Nat.le_of_ble_eq_true rfl) ⟨(show 0 + 0 ≤ 0 by omega), (show 0 + 0 ≤ 0 by omega)⟩ d_Net_alternate_19 (fun u5 H locs hu5 hP hD hS => ?_)
      subst hu5
      refine W.widen (k := 0) (n := 0) (Nat.le_refl _) (Nat.le_refl _) ?_
      have hP := wd_nP (N := []) rfl 9 rfl [0, 1, 2, 3, 4, 5, 6, 7, 8] (by decide) hP
      have hD := wd_nD (N := []) rfl 9 rfl [0, 1, 2, 3, 4, 5, 6, 7, 8] (by decide) hD
      have hP : va_P D kls (List.flatten [[(h, .inr (8, [.ref aE, .ref aL, .ref aS, .ref aK, .ref aR, .ref aD, .ref aG]))], [(aK, .inr (4, [.ref aL, .ref aS, .ref aM, .int S.lost]))], wE, wL, wS, wM, wR, wD, wG]) H := hP
      have hD : va_D A (List.flatten [[(h, .inr (8, [.ref aE, .ref aL, .ref aS, .ref aK, .ref aR, .ref aD, .ref aG]))], [(aK, .inr (4, [.ref aL, .ref aS, .ref aM, .int S.lost]))], wE, wL, wS, wM, wR, wD, wG]) := hD
      refine W.eq (g2 := F0 m 22 ls []) rfl ?_
      refine lv_aload_n hx hb d_Net_alternate_22 rfl (lv_at hl 0 rfl) ?_
      refine va_get (D := D) (ci := 8) (v := .ref aR) (C := R_Net) (T := T_Net) (N := 7) hx hb ht in_Net hown hK hP 0 rfl rfl 4 (by decide) (ht _ kl_Net_44) (fun _ h9 => h9) rfl d_Net_alternate_23 ?_
      refine lv_iload_n hx hb d_Net_alternate_26 rfl (lv_at hl 1 rfl) ?_
      refine lv_iload_n hx hb d_Net_alternate_27 rfl (lv_at hl 2 rfl) ?_
      refine ct_callVI (C := R_Routes) (ci := 5) (As := [.int (nI r), .int (nI o)]) (rest := []) ⟨hx, hb, hml, hown, ht⟩ (k_Routes_spareNeighbour l D cI cZ cJ cG kR8 kS kE r o hr9 ho9 (fun x hx => hi.2.2.2.2.1.2.1 r x hr9 hx) hi.2.2.2.2.1.2.2.1 (hi.2.2.2.2.1.2.2.2.1 r hr9) (hi.2.2.2.2.1.2.2.2.2 r hr9) (hi.2.2.2.2.2 r hr9)) (cb_V ht kc_Routes_spareNeighbour kl_Net_149 kn_Routes ki_Routes_spareNeighbour ks_Routes_spareNeighbour hd_Routes_spareNeighbour ⟨Nat.le_of_ble_eq_true rfl, Nat.le_of_ble_eq_true rfl⟩) (wd_mem 6 rfl mR) rfl rfl (wd_ct (Bs := [[(h, .inr (8, [.ref aE, .ref aL, .ref aS, .ref aK, .ref aR, .ref aD, .ref aG]))], [(aK, .inr (4, [.ref aL, .ref aS, .ref aM, .int S.lost]))], wE, wL, wS, wM, wR, wD, wG]) 9 rfl [6, 4, 2] [0, 1, 3, 5, 7, 8] (by decide) rfl) hK hP hD hS hA rfl hl.1 rfl (Nat.le_of_ble_eq_true rfl) ⟨(show 0 + 0 ≤ 0 by omega), (show 0 + 0 ≤ 0 by omega)⟩ d_Net_alternate_28 (fun ru6 u6 H locs hu6 hP hD hS => ?_)
      obtain ⟨hz9, wR2, rfl, kR9⟩ := hu6
      rw [hz9]
      refine W.widen (k := 0) (n := 0) (Nat.le_refl _) (Nat.le_refl _) ?_
      have hP := wd_nP (N := [wR2, wS, wE]) rfl 9 rfl [3, 4, 2, 5, 1, 6, 0, 7, 8] (by decide) hP
      have hD := wd_nD (N := [wR2, wS, wE]) rfl 9 rfl [3, 4, 2, 5, 1, 6, 0, 7, 8] (by decide) hD
      have hP : va_P D kls (List.flatten [[(h, .inr (8, [.ref aE, .ref aL, .ref aS, .ref aK, .ref aR, .ref aD, .ref aG]))], [(aK, .inr (4, [.ref aL, .ref aS, .ref aM, .int S.lost]))], wE, wL, wS, wM, wR2, wD, wG]) H := hP
      have hD : va_D A (List.flatten [[(h, .inr (8, [.ref aE, .ref aL, .ref aS, .ref aK, .ref aR, .ref aD, .ref aG]))], [(aK, .inr (4, [.ref aL, .ref aS, .ref aM, .int S.lost]))], wE, wL, wS, wM, wR2, wD, wG]) := hD
      refine W.eq (g2 := F0 m 31 ls [.int (bm_oI (bm_alt (vw0 S.T.1.2.2 S.T.2.1 r) r o))]) rfl ?_
      exact ct_iret hQ hx hb hr hlk hP hD hS hK (by omega) (by omega) d_Net_alternate_31 (⟨rfl, aE, aL, aS, aK, aR, aD, aG, aM, aP, aC, wE, wL, wS, wM, wR2, wD, wG, rfl, kE, kL, kS, kM, ⟨mk8, ra8, kR9, hca8⟩, kD, kG⟩)
set_option maxHeartbeats 800000 in
set_option maxRecDepth 100000 in
theorem x_Net_mask (l : Launch) (s0 : State) (A0 : Array Value) (h0 : fz_0 A0 s0) (hfl : ∀ e : Env, l.admits e → e.platform.stackTraces = false) (D : va_G) (cI cZ cJ cG : ClassId) {h : Nat} {S : bm_S} {ws : va_W} (hR : nt_R cI cZ cG h S ws) (x y : Int32) (hno : rg 0 12 x = false ∨ rg 0 12 y = false) : ct_X l s0 D kls (ty4 cI cZ cJ cG) y_Net_mask ws_Net_mask (rm_ 7 102 1 6) [.ref h, .int x, .int y] (ws) "java/lang/IllegalArgumentException" (fun u => nt_R cI cZ cG h S u) 1 6 := by
  obtain ⟨aE, aL, aS, aK, aR, aD, aG, aM, aP, aC, wE, wL, wS, wM, wR, wD, wG, rfl, kE, kL, kS, kM, kR, kD, kG⟩ := hR
  obtain ⟨fsE, mE⟩ := kE.mem
  obtain ⟨fsL, mL⟩ := kL.mem
  obtain ⟨fsS, mS⟩ := kS.mem
  obtain ⟨fsR, mR⟩ := kR.mem
  obtain ⟨fsD, mD⟩ := kD.mem
  obtain ⟨fsG, mG⟩ := kG.mem
  refine ct_enterX (cc := b_Net_mask) (maxL := 3) (ret := (some .int)) (by decide +kernel) (Nat.le_of_ble_eq_true rfl) ?_
  intro p e s m args below meth c hx hb hml hr ht hown hlk hnm A Q hA hK hP hD hQ ls hl hz
  have hown : s.vm.findClass R_Net = some m.cls := hown
  have hS : va_S A s.heap s.heap [] := va_S.rf
  have hl : lv_has ls 3 [(0, .ref h), (1, .int x), (2, .int y)] := hl
  refine lv_iload_n hx hb d_Net_mask_0 rfl (lv_at hl 1 rfl) ?_
  refine ct_rdS (As := [.int x]) (rest := []) ⟨hx, hb, hml, hown, ht⟩ (k_Net_isRouter l D cI cZ cJ cG x) (cb_S ht kc_Net_isRouter kl_Net_66 kn_Net ki_Net_isRouter hd_Net_isRouter ⟨Nat.le_of_ble_eq_true rfl, Nat.le_of_ble_eq_true rfl⟩) (wd_ct (Bs := [[(h, .inr (8, [.ref aE, .ref aL, .ref aS, .ref aK, .ref aR, .ref aD, .ref aG]))], [(aK, .inr (4, [.ref aL, .ref aS, .ref aM, .int S.lost]))], wE, wL, wS, wM, wR, wD, wG]) 9 rfl [] [0, 1, 2, 3, 4, 5, 6, 7, 8] (by decide) rfl) hK hP hD hS hA rfl hl.1 rfl (Nat.le_of_ble_eq_true rfl) ⟨(show 0 + 0 ≤ 1 by omega), (show 0 + 0 ≤ 6 by omega)⟩ d_Net_mask_1 (fun rhr1 H locs hr1 hP hD hS => ?_)
  subst hr1
  refine ri_ifeqB hx hb d_Net_mask_4 (tgt := 18) (by decide) (fun h4 => ?_) (fun h4 => ?_)
  · refine lv_iconst (v := nI 0) hx hb d_Net_mask_18 (by decide) ?_
    refine W.eq (g2 := F0 m 19 ls [.int (bI false)]) (congrArg (fun z => F0 m 19 ls (.int z :: [])) (rfl)) ?_
    exact ct_throwS (As := [.int (bI false)]) (rest := []) hz hQ hlk ⟨hx, hb, hml, hown, ht⟩ (x_Net_demand l s0 A0 h0 hfl D cI cZ cJ cG) (cb_S ht kc_Net_demand kl_Net_70 kn_Net ki_Net_demand hd_Net_demand ⟨Nat.le_of_ble_eq_true rfl, Nat.le_of_ble_eq_true rfl⟩) (wd_ct (Bs := [[(h, .inr (8, [.ref aE, .ref aL, .ref aS, .ref aK, .ref aR, .ref aD, .ref aG]))], [(aK, .inr (4, [.ref aL, .ref aS, .ref aM, .int S.lost]))], wE, wL, wS, wM, wR, wD, wG]) 9 rfl [] [0, 1, 2, 3, 4, 5, 6, 7, 8] (by decide) rfl) hK hP hD hS hA rfl hl.1 rfl (Nat.le_of_ble_eq_true rfl) ⟨by decide, by decide⟩ ⟨by decide, by decide⟩ d_Net_mask_19 (fun u hu => by subst hu; exact ⟨aE, aL, aS, aK, aR, aD, aG, aM, aP, aC, wE, wL, wS, wM, wR, wD, wG, rfl, kE, kL, kS, kM, kR, kD, kG⟩)
  · refine lv_iload_n hx hb d_Net_mask_7 rfl (lv_at hl 2 rfl) ?_
    refine ct_rdS (As := [.int y]) (rest := []) ⟨hx, hb, hml, hown, ht⟩ (k_Net_isRouter l D cI cZ cJ cG y) (cb_S ht kc_Net_isRouter kl_Net_66 kn_Net ki_Net_isRouter hd_Net_isRouter ⟨Nat.le_of_ble_eq_true rfl, Nat.le_of_ble_eq_true rfl⟩) (wd_ct (Bs := [[(h, .inr (8, [.ref aE, .ref aL, .ref aS, .ref aK, .ref aR, .ref aD, .ref aG]))], [(aK, .inr (4, [.ref aL, .ref aS, .ref aM, .int S.lost]))], wE, wL, wS, wM, wR, wD, wG]) 9 rfl [] [0, 1, 2, 3, 4, 5, 6, 7, 8] (by decide) rfl) hK hP hD hS hA rfl hl.1 rfl (Nat.le_of_ble_eq_true rfl) ⟨(show 0 + 0 ≤ 1 by omega), (show 0 + 0 ≤ 6 by omega)⟩ d_Net_mask_8 (fun rhr3 H locs hr3 hP hD hS => ?_)
    subst hr3
    refine ri_ifeqB hx hb d_Net_mask_11 (tgt := 18) (by decide) (fun h11 => ?_) (fun h11 => ?_)
    · refine lv_iconst (v := nI 0) hx hb d_Net_mask_18 (by decide) ?_
      refine W.eq (g2 := F0 m 19 ls [.int (bI false)]) (congrArg (fun z => F0 m 19 ls (.int z :: [])) (rfl)) ?_
      exact ct_throwS (As := [.int (bI false)]) (rest := []) hz hQ hlk ⟨hx, hb, hml, hown, ht⟩ (x_Net_demand l s0 A0 h0 hfl D cI cZ cJ cG) (cb_S ht kc_Net_demand kl_Net_70 kn_Net ki_Net_demand hd_Net_demand ⟨Nat.le_of_ble_eq_true rfl, Nat.le_of_ble_eq_true rfl⟩) (wd_ct (Bs := [[(h, .inr (8, [.ref aE, .ref aL, .ref aS, .ref aK, .ref aR, .ref aD, .ref aG]))], [(aK, .inr (4, [.ref aL, .ref aS, .ref aM, .int S.lost]))], wE, wL, wS, wM, wR, wD, wG]) 9 rfl [] [0, 1, 2, 3, 4, 5, 6, 7, 8] (by decide) rfl) hK hP hD hS hA rfl hl.1 rfl (Nat.le_of_ble_eq_true rfl) ⟨by decide, by decide⟩ ⟨by decide, by decide⟩ d_Net_mask_19 (fun u hu => by subst hu; exact ⟨aE, aL, aS, aK, aR, aD, aG, aM, aP, aC, wE, wL, wS, wM, wR, wD, wG, rfl, kE, kL, kS, kM, kR, kD, kG⟩)
    · exact absurd hno (fun z => by rcases z with z | z <;> simp_all)
set_option maxHeartbeats 800000 in
set_option maxRecDepth 100000 in
theorem x_Net_distance (l : Launch) (s0 : State) (A0 : Array Value) (h0 : fz_0 A0 s0) (hfl : ∀ e : Env, l.admits e → e.platform.stackTraces = false) (D : va_G) (cI cZ cJ cG : ClassId) {h : Nat} {S : bm_S} {ws : va_W} (hR : nt_R cI cZ cG h S ws) (x y : Int32) (hno : rg 0 12 x = false ∨ rg 0 12 y = false) : ct_X l s0 D kls (ty4 cI cZ cJ cG) y_Net_distance ws_Net_distance (rm_ 7 102 1 6) [.ref h, .int x, .int y] (ws) "java/lang/IllegalArgumentException" (fun u => nt_R cI cZ cG h S u) 1 6 := by
  obtain ⟨aE, aL, aS, aK, aR, aD, aG, aM, aP, aC, wE, wL, wS, wM, wR, wD, wG, rfl, kE, kL, kS, kM, kR, kD, kG⟩ := hR
  obtain ⟨fsE, mE⟩ := kE.mem
  obtain ⟨fsL, mL⟩ := kL.mem
  obtain ⟨fsS, mS⟩ := kS.mem
  obtain ⟨fsR, mR⟩ := kR.mem
  obtain ⟨fsD, mD⟩ := kD.mem
  obtain ⟨fsG, mG⟩ := kG.mem
  refine ct_enterX (cc := b_Net_distance) (maxL := 3) (ret := (some .int)) (by decide +kernel) (Nat.le_of_ble_eq_true rfl) ?_
  intro p e s m args below meth c hx hb hml hr ht hown hlk hnm A Q hA hK hP hD hQ ls hl hz
  have hown : s.vm.findClass R_Net = some m.cls := hown
  have hS : va_S A s.heap s.heap [] := va_S.rf
  have hl : lv_has ls 3 [(0, .ref h), (1, .int x), (2, .int y)] := hl
  refine lv_iload_n hx hb d_Net_distance_0 rfl (lv_at hl 1 rfl) ?_
  refine ct_rdS (As := [.int x]) (rest := []) ⟨hx, hb, hml, hown, ht⟩ (k_Net_isRouter l D cI cZ cJ cG x) (cb_S ht kc_Net_isRouter kl_Net_66 kn_Net ki_Net_isRouter hd_Net_isRouter ⟨Nat.le_of_ble_eq_true rfl, Nat.le_of_ble_eq_true rfl⟩) (wd_ct (Bs := [[(h, .inr (8, [.ref aE, .ref aL, .ref aS, .ref aK, .ref aR, .ref aD, .ref aG]))], [(aK, .inr (4, [.ref aL, .ref aS, .ref aM, .int S.lost]))], wE, wL, wS, wM, wR, wD, wG]) 9 rfl [] [0, 1, 2, 3, 4, 5, 6, 7, 8] (by decide) rfl) hK hP hD hS hA rfl hl.1 rfl (Nat.le_of_ble_eq_true rfl) ⟨(show 0 + 0 ≤ 1 by omega), (show 0 + 0 ≤ 6 by omega)⟩ d_Net_distance_1 (fun rhr1 H locs hr1 hP hD hS => ?_)
  subst hr1
  refine ri_ifeqB hx hb d_Net_distance_4 (tgt := 18) (by decide) (fun h4 => ?_) (fun h4 => ?_)
  · refine lv_iconst (v := nI 0) hx hb d_Net_distance_18 (by decide) ?_
    refine W.eq (g2 := F0 m 19 ls [.int (bI false)]) (congrArg (fun z => F0 m 19 ls (.int z :: [])) (rfl)) ?_
    exact ct_throwS (As := [.int (bI false)]) (rest := []) hz hQ hlk ⟨hx, hb, hml, hown, ht⟩ (x_Net_demand l s0 A0 h0 hfl D cI cZ cJ cG) (cb_S ht kc_Net_demand kl_Net_70 kn_Net ki_Net_demand hd_Net_demand ⟨Nat.le_of_ble_eq_true rfl, Nat.le_of_ble_eq_true rfl⟩) (wd_ct (Bs := [[(h, .inr (8, [.ref aE, .ref aL, .ref aS, .ref aK, .ref aR, .ref aD, .ref aG]))], [(aK, .inr (4, [.ref aL, .ref aS, .ref aM, .int S.lost]))], wE, wL, wS, wM, wR, wD, wG]) 9 rfl [] [0, 1, 2, 3, 4, 5, 6, 7, 8] (by decide) rfl) hK hP hD hS hA rfl hl.1 rfl (Nat.le_of_ble_eq_true rfl) ⟨by decide, by decide⟩ ⟨by decide, by decide⟩ d_Net_distance_19 (fun u hu => by subst hu; exact ⟨aE, aL, aS, aK, aR, aD, aG, aM, aP, aC, wE, wL, wS, wM, wR, wD, wG, rfl, kE, kL, kS, kM, kR, kD, kG⟩)
  · refine lv_iload_n hx hb d_Net_distance_7 rfl (lv_at hl 2 rfl) ?_
    refine ct_rdS (As := [.int y]) (rest := []) ⟨hx, hb, hml, hown, ht⟩ (k_Net_isRouter l D cI cZ cJ cG y) (cb_S ht kc_Net_isRouter kl_Net_66 kn_Net ki_Net_isRouter hd_Net_isRouter ⟨Nat.le_of_ble_eq_true rfl, Nat.le_of_ble_eq_true rfl⟩) (wd_ct (Bs := [[(h, .inr (8, [.ref aE, .ref aL, .ref aS, .ref aK, .ref aR, .ref aD, .ref aG]))], [(aK, .inr (4, [.ref aL, .ref aS, .ref aM, .int S.lost]))], wE, wL, wS, wM, wR, wD, wG]) 9 rfl [] [0, 1, 2, 3, 4, 5, 6, 7, 8] (by decide) rfl) hK hP hD hS hA rfl hl.1 rfl (Nat.le_of_ble_eq_true rfl) ⟨(show 0 + 0 ≤ 1 by omega), (show 0 + 0 ≤ 6 by omega)⟩ d_Net_distance_8 (fun rhr3 H locs hr3 hP hD hS => ?_)
    subst hr3
    refine ri_ifeqB hx hb d_Net_distance_11 (tgt := 18) (by decide) (fun h11 => ?_) (fun h11 => ?_)
    · refine lv_iconst (v := nI 0) hx hb d_Net_distance_18 (by decide) ?_
      refine W.eq (g2 := F0 m 19 ls [.int (bI false)]) (congrArg (fun z => F0 m 19 ls (.int z :: [])) (rfl)) ?_
      exact ct_throwS (As := [.int (bI false)]) (rest := []) hz hQ hlk ⟨hx, hb, hml, hown, ht⟩ (x_Net_demand l s0 A0 h0 hfl D cI cZ cJ cG) (cb_S ht kc_Net_demand kl_Net_70 kn_Net ki_Net_demand hd_Net_demand ⟨Nat.le_of_ble_eq_true rfl, Nat.le_of_ble_eq_true rfl⟩) (wd_ct (Bs := [[(h, .inr (8, [.ref aE, .ref aL, .ref aS, .ref aK, .ref aR, .ref aD, .ref aG]))], [(aK, .inr (4, [.ref aL, .ref aS, .ref aM, .int S.lost]))], wE, wL, wS, wM, wR, wD, wG]) 9 rfl [] [0, 1, 2, 3, 4, 5, 6, 7, 8] (by decide) rfl) hK hP hD hS hA rfl hl.1 rfl (Nat.le_of_ble_eq_true rfl) ⟨by decide, by decide⟩ ⟨by decide, by decide⟩ d_Net_distance_19 (fun u hu => by subst hu; exact ⟨aE, aL, aS, aK, aR, aD, aG, aM, aP, aC, wE, wL, wS, wM, wR, wD, wG, rfl, kE, kL, kS, kM, kR, kD, kG⟩)
    · exact absurd hno (fun z => by rcases z with z | z <;> simp_all)
set_option maxHeartbeats 800000 in
set_option maxRecDepth 100000 in
theorem x_Net_alternate (l : Launch) (s0 : State) (A0 : Array Value) (h0 : fz_0 A0 s0) (hfl : ∀ e : Env, l.admits e → e.platform.stackTraces = false) (D : va_G) (cI cZ cJ cG : ClassId) {h : Nat} {S : bm_S} {ws : va_W} (hR : nt_R cI cZ cG h S ws) (x y : Int32) (hno : rg 0 12 x = false ∨ rg 0 12 y = false) : ct_X l s0 D kls (ty4 cI cZ cJ cG) y_Net_alternate ws_Net_alternate (rm_ 7 102 1 6) [.ref h, .int x, .int y] (ws) "java/lang/IllegalArgumentException" (fun u => nt_R cI cZ cG h S u) 1 6 := by
  obtain ⟨aE, aL, aS, aK, aR, aD, aG, aM, aP, aC, wE, wL, wS, wM, wR, wD, wG, rfl, kE, kL, kS, kM, kR, kD, kG⟩ := hR
  obtain ⟨fsE, mE⟩ := kE.mem
  obtain ⟨fsL, mL⟩ := kL.mem
  obtain ⟨fsS, mS⟩ := kS.mem
  obtain ⟨fsR, mR⟩ := kR.mem
  obtain ⟨fsD, mD⟩ := kD.mem
  obtain ⟨fsG, mG⟩ := kG.mem
  refine ct_enterX (cc := b_Net_alternate) (maxL := 3) (ret := (some .int)) (by decide +kernel) (Nat.le_of_ble_eq_true rfl) ?_
  intro p e s m args below meth c hx hb hml hr ht hown hlk hnm A Q hA hK hP hD hQ ls hl hz
  have hown : s.vm.findClass R_Net = some m.cls := hown
  have hS : va_S A s.heap s.heap [] := va_S.rf
  have hl : lv_has ls 3 [(0, .ref h), (1, .int x), (2, .int y)] := hl
  refine lv_iload_n hx hb d_Net_alternate_0 rfl (lv_at hl 1 rfl) ?_
  refine ct_rdS (As := [.int x]) (rest := []) ⟨hx, hb, hml, hown, ht⟩ (k_Net_isRouter l D cI cZ cJ cG x) (cb_S ht kc_Net_isRouter kl_Net_66 kn_Net ki_Net_isRouter hd_Net_isRouter ⟨Nat.le_of_ble_eq_true rfl, Nat.le_of_ble_eq_true rfl⟩) (wd_ct (Bs := [[(h, .inr (8, [.ref aE, .ref aL, .ref aS, .ref aK, .ref aR, .ref aD, .ref aG]))], [(aK, .inr (4, [.ref aL, .ref aS, .ref aM, .int S.lost]))], wE, wL, wS, wM, wR, wD, wG]) 9 rfl [] [0, 1, 2, 3, 4, 5, 6, 7, 8] (by decide) rfl) hK hP hD hS hA rfl hl.1 rfl (Nat.le_of_ble_eq_true rfl) ⟨(show 0 + 0 ≤ 1 by omega), (show 0 + 0 ≤ 6 by omega)⟩ d_Net_alternate_1 (fun rhr1 H locs hr1 hP hD hS => ?_)
  subst hr1
  refine ri_ifeqB hx hb d_Net_alternate_4 (tgt := 18) (by decide) (fun h4 => ?_) (fun h4 => ?_)
  · refine lv_iconst (v := nI 0) hx hb d_Net_alternate_18 (by decide) ?_
    refine W.eq (g2 := F0 m 19 ls [.int (bI false)]) (congrArg (fun z => F0 m 19 ls (.int z :: [])) (rfl)) ?_
    exact ct_throwS (As := [.int (bI false)]) (rest := []) hz hQ hlk ⟨hx, hb, hml, hown, ht⟩ (x_Net_demand l s0 A0 h0 hfl D cI cZ cJ cG) (cb_S ht kc_Net_demand kl_Net_70 kn_Net ki_Net_demand hd_Net_demand ⟨Nat.le_of_ble_eq_true rfl, Nat.le_of_ble_eq_true rfl⟩) (wd_ct (Bs := [[(h, .inr (8, [.ref aE, .ref aL, .ref aS, .ref aK, .ref aR, .ref aD, .ref aG]))], [(aK, .inr (4, [.ref aL, .ref aS, .ref aM, .int S.lost]))], wE, wL, wS, wM, wR, wD, wG]) 9 rfl [] [0, 1, 2, 3, 4, 5, 6, 7, 8] (by decide) rfl) hK hP hD hS hA rfl hl.1 rfl (Nat.le_of_ble_eq_true rfl) ⟨by decide, by decide⟩ ⟨by decide, by decide⟩ d_Net_alternate_19 (fun u hu => by subst hu; exact ⟨aE, aL, aS, aK, aR, aD, aG, aM, aP, aC, wE, wL, wS, wM, wR, wD, wG, rfl, kE, kL, kS, kM, kR, kD, kG⟩)
  · refine lv_iload_n hx hb d_Net_alternate_7 rfl (lv_at hl 2 rfl) ?_
    refine ct_rdS (As := [.int y]) (rest := []) ⟨hx, hb, hml, hown, ht⟩ (k_Net_isRouter l D cI cZ cJ cG y) (cb_S ht kc_Net_isRouter kl_Net_66 kn_Net ki_Net_isRouter hd_Net_isRouter ⟨Nat.le_of_ble_eq_true rfl, Nat.le_of_ble_eq_true rfl⟩) (wd_ct (Bs := [[(h, .inr (8, [.ref aE, .ref aL, .ref aS, .ref aK, .ref aR, .ref aD, .ref aG]))], [(aK, .inr (4, [.ref aL, .ref aS, .ref aM, .int S.lost]))], wE, wL, wS, wM, wR, wD, wG]) 9 rfl [] [0, 1, 2, 3, 4, 5, 6, 7, 8] (by decide) rfl) hK hP hD hS hA rfl hl.1 rfl (Nat.le_of_ble_eq_true rfl) ⟨(show 0 + 0 ≤ 1 by omega), (show 0 + 0 ≤ 6 by omega)⟩ d_Net_alternate_8 (fun rhr3 H locs hr3 hP hD hS => ?_)
    subst hr3
    refine ri_ifeqB hx hb d_Net_alternate_11 (tgt := 18) (by decide) (fun h11 => ?_) (fun h11 => ?_)
    · refine lv_iconst (v := nI 0) hx hb d_Net_alternate_18 (by decide) ?_
      refine W.eq (g2 := F0 m 19 ls [.int (bI false)]) (congrArg (fun z => F0 m 19 ls (.int z :: [])) (rfl)) ?_
      exact ct_throwS (As := [.int (bI false)]) (rest := []) hz hQ hlk ⟨hx, hb, hml, hown, ht⟩ (x_Net_demand l s0 A0 h0 hfl D cI cZ cJ cG) (cb_S ht kc_Net_demand kl_Net_70 kn_Net ki_Net_demand hd_Net_demand ⟨Nat.le_of_ble_eq_true rfl, Nat.le_of_ble_eq_true rfl⟩) (wd_ct (Bs := [[(h, .inr (8, [.ref aE, .ref aL, .ref aS, .ref aK, .ref aR, .ref aD, .ref aG]))], [(aK, .inr (4, [.ref aL, .ref aS, .ref aM, .int S.lost]))], wE, wL, wS, wM, wR, wD, wG]) 9 rfl [] [0, 1, 2, 3, 4, 5, 6, 7, 8] (by decide) rfl) hK hP hD hS hA rfl hl.1 rfl (Nat.le_of_ble_eq_true rfl) ⟨by decide, by decide⟩ ⟨by decide, by decide⟩ d_Net_alternate_19 (fun u hu => by subst hu; exact ⟨aE, aL, aS, aK, aR, aD, aG, aM, aP, aC, wE, wL, wS, wM, wR, wD, wG, rfl, kE, kL, kS, kM, kR, kD, kG⟩)
    · exact absurd hno (fun z => by rcases z with z | z <;> simp_all)
set_option maxHeartbeats 800000 in
set_option maxRecDepth 100000 in
theorem x_Net_stored (l : Launch) (s0 : State) (A0 : Array Value) (h0 : fz_0 A0 s0) (hfl : ∀ e : Env, l.admits e → e.platform.stackTraces = false) (D : va_G) (cI cZ cJ cG : ClassId) {h : Nat} {S : bm_S} {ws : va_W} (hR : nt_R cI cZ cG h S ws) (x y : Int32) (hno : rg 0 12 x = false ∨ rg 0 12 y = false) : ct_X l s0 D kls (ty4 cI cZ cJ cG) y_Net_stored ws_Net_stored (rm_ 7 102 1 6) [.ref h, .int x, .int y] (ws) "java/lang/IllegalArgumentException" (fun u => nt_R cI cZ cG h S u) 1 6 := by
  obtain ⟨aE, aL, aS, aK, aR, aD, aG, aM, aP, aC, wE, wL, wS, wM, wR, wD, wG, rfl, kE, kL, kS, kM, kR, kD, kG⟩ := hR
  obtain ⟨fsE, mE⟩ := kE.mem
  obtain ⟨fsL, mL⟩ := kL.mem
  obtain ⟨fsS, mS⟩ := kS.mem
  obtain ⟨fsR, mR⟩ := kR.mem
  obtain ⟨fsD, mD⟩ := kD.mem
  obtain ⟨fsG, mG⟩ := kG.mem
  refine ct_enterX (cc := b_Net_stored) (maxL := 3) (ret := (some .int)) (by decide +kernel) (Nat.le_of_ble_eq_true rfl) ?_
  intro p e s m args below meth c hx hb hml hr ht hown hlk hnm A Q hA hK hP hD hQ ls hl hz
  have hown : s.vm.findClass R_Net = some m.cls := hown
  have hS : va_S A s.heap s.heap [] := va_S.rf
  have hl : lv_has ls 3 [(0, .ref h), (1, .int x), (2, .int y)] := hl
  refine lv_iload_n hx hb d_Net_stored_0 rfl (lv_at hl 1 rfl) ?_
  refine ct_rdS (As := [.int x]) (rest := []) ⟨hx, hb, hml, hown, ht⟩ (k_Net_isRouter l D cI cZ cJ cG x) (cb_S ht kc_Net_isRouter kl_Net_66 kn_Net ki_Net_isRouter hd_Net_isRouter ⟨Nat.le_of_ble_eq_true rfl, Nat.le_of_ble_eq_true rfl⟩) (wd_ct (Bs := [[(h, .inr (8, [.ref aE, .ref aL, .ref aS, .ref aK, .ref aR, .ref aD, .ref aG]))], [(aK, .inr (4, [.ref aL, .ref aS, .ref aM, .int S.lost]))], wE, wL, wS, wM, wR, wD, wG]) 9 rfl [] [0, 1, 2, 3, 4, 5, 6, 7, 8] (by decide) rfl) hK hP hD hS hA rfl hl.1 rfl (Nat.le_of_ble_eq_true rfl) ⟨(show 0 + 0 ≤ 1 by omega), (show 0 + 0 ≤ 6 by omega)⟩ d_Net_stored_1 (fun rhr1 H locs hr1 hP hD hS => ?_)
  subst hr1
  refine ri_ifeqB hx hb d_Net_stored_4 (tgt := 18) (by decide) (fun h4 => ?_) (fun h4 => ?_)
  · refine lv_iconst (v := nI 0) hx hb d_Net_stored_18 (by decide) ?_
    refine W.eq (g2 := F0 m 19 ls [.int (bI false)]) (congrArg (fun z => F0 m 19 ls (.int z :: [])) (rfl)) ?_
    exact ct_throwS (As := [.int (bI false)]) (rest := []) hz hQ hlk ⟨hx, hb, hml, hown, ht⟩ (x_Net_demand l s0 A0 h0 hfl D cI cZ cJ cG) (cb_S ht kc_Net_demand kl_Net_70 kn_Net ki_Net_demand hd_Net_demand ⟨Nat.le_of_ble_eq_true rfl, Nat.le_of_ble_eq_true rfl⟩) (wd_ct (Bs := [[(h, .inr (8, [.ref aE, .ref aL, .ref aS, .ref aK, .ref aR, .ref aD, .ref aG]))], [(aK, .inr (4, [.ref aL, .ref aS, .ref aM, .int S.lost]))], wE, wL, wS, wM, wR, wD, wG]) 9 rfl [] [0, 1, 2, 3, 4, 5, 6, 7, 8] (by decide) rfl) hK hP hD hS hA rfl hl.1 rfl (Nat.le_of_ble_eq_true rfl) ⟨by decide, by decide⟩ ⟨by decide, by decide⟩ d_Net_stored_19 (fun u hu => by subst hu; exact ⟨aE, aL, aS, aK, aR, aD, aG, aM, aP, aC, wE, wL, wS, wM, wR, wD, wG, rfl, kE, kL, kS, kM, kR, kD, kG⟩)
  · refine lv_iload_n hx hb d_Net_stored_7 rfl (lv_at hl 2 rfl) ?_
    refine ct_rdS (As := [.int y]) (rest := []) ⟨hx, hb, hml, hown, ht⟩ (k_Net_isRouter l D cI cZ cJ cG y) (cb_S ht kc_Net_isRouter kl_Net_66 kn_Net ki_Net_isRouter hd_Net_isRouter ⟨Nat.le_of_ble_eq_true rfl, Nat.le_of_ble_eq_true rfl⟩) (wd_ct (Bs := [[(h, .inr (8, [.ref aE, .ref aL, .ref aS, .ref aK, .ref aR, .ref aD, .ref aG]))], [(aK, .inr (4, [.ref aL, .ref aS, .ref aM, .int S.lost]))], wE, wL, wS, wM, wR, wD, wG]) 9 rfl [] [0, 1, 2, 3, 4, 5, 6, 7, 8] (by decide) rfl) hK hP hD hS hA rfl hl.1 rfl (Nat.le_of_ble_eq_true rfl) ⟨(show 0 + 0 ≤ 1 by omega), (show 0 + 0 ≤ 6 by omega)⟩ d_Net_stored_8 (fun rhr3 H locs hr3 hP hD hS => ?_)
    subst hr3
    refine ri_ifeqB hx hb d_Net_stored_11 (tgt := 18) (by decide) (fun h11 => ?_) (fun h11 => ?_)
    · refine lv_iconst (v := nI 0) hx hb d_Net_stored_18 (by decide) ?_
      refine W.eq (g2 := F0 m 19 ls [.int (bI false)]) (congrArg (fun z => F0 m 19 ls (.int z :: [])) (rfl)) ?_
      exact ct_throwS (As := [.int (bI false)]) (rest := []) hz hQ hlk ⟨hx, hb, hml, hown, ht⟩ (x_Net_demand l s0 A0 h0 hfl D cI cZ cJ cG) (cb_S ht kc_Net_demand kl_Net_70 kn_Net ki_Net_demand hd_Net_demand ⟨Nat.le_of_ble_eq_true rfl, Nat.le_of_ble_eq_true rfl⟩) (wd_ct (Bs := [[(h, .inr (8, [.ref aE, .ref aL, .ref aS, .ref aK, .ref aR, .ref aD, .ref aG]))], [(aK, .inr (4, [.ref aL, .ref aS, .ref aM, .int S.lost]))], wE, wL, wS, wM, wR, wD, wG]) 9 rfl [] [0, 1, 2, 3, 4, 5, 6, 7, 8] (by decide) rfl) hK hP hD hS hA rfl hl.1 rfl (Nat.le_of_ble_eq_true rfl) ⟨by decide, by decide⟩ ⟨by decide, by decide⟩ d_Net_stored_19 (fun u hu => by subst hu; exact ⟨aE, aL, aS, aK, aR, aD, aG, aM, aP, aC, wE, wL, wS, wM, wR, wD, wG, rfl, kE, kL, kS, kM, kR, kD, kG⟩)
    · exact absurd hno (fun z => by rcases z with z | z <;> simp_all)
