/-! BitNet: notice. -/
def bm_nkn (r o : Nat) (S : bm_S) : Nat → Nat → Nat := bm_up2 S.kn r o 0
def bm_nlk (r o : Nat) (S : bm_S) : Nat → Nat → Nat := if bm_up2 S.kn r o 0 o r = 0 then bm_both S.lk r o 0 else S.lk
def bm_noti (r o : Nat) (S : bm_S) : bm_S := (S.eb, S.tk, S.es, bm_nlk r o S, bm_nkn r o S, bm_adv (bm_nkn r o S) r S.T, S.lost, S.D, S.G)
abbrev bm_lroom (S : bm_S) : Prop := S.T.2.2.1.2.1 < 2000 ∧ S.T.1.2.1 + 2 ≤ 1025
set_option maxHeartbeats 800000 in
set_option maxRecDepth 100000 in
theorem k_Net_notice (l : Launch) (D : va_G) (cI cZ cJ cG : ClassId) {h : Nat} {S : bm_S} {ws : va_W} (hR : nt_R cI cZ cG h S ws) (hi : bm_si S) (r o : Nat) (hr9 : r < 12) (ho9 : o < 12) (hlr : bm_lroom S) (hkw : S.kn r o ≠ 0) (hcu : S.lk r o = 2) (hkn9 : ∀ a b, bm_nkn r o S a b ≤ 1000) (hlk9 : ∀ a b, bm_nlk r o S a b ≤ 2) (hc : bm_cap (bm_adv (bm_nkn r o S) r S.T)) : ct_V l D kls (ty4 cI cZ cJ cG) y_Net_notice ws_Net_notice (rm_ 6 143 (bm_gc S.T (bm_adv (bm_nkn r o S) r S.T)) (bm_gs S.T (bm_adv (bm_nkn r o S) r S.T))) [.ref h, .int (nI r), .int (nI o)] (ws) (fun u => nt_R cI cZ cG h (bm_noti r o S) u) (bm_gc S.T (bm_adv (bm_nkn r o S) r S.T)) (bm_gs S.T (bm_adv (bm_nkn r o S) r S.T)) := by
  obtain ⟨aE, aL, aS, aK, aR, aD, aG, aM, aP, aC, wE, wL, wS, wM, wR, wD, wG, rfl, kE, kL, kS, kM, kR, kD, kG⟩ := hR
  obtain ⟨fsE, mE⟩ := kE.mem
  obtain ⟨fsL, mL⟩ := kL.mem
  obtain ⟨fsS, mS⟩ := kS.mem
  obtain ⟨fsR, mR⟩ := kR.mem
  obtain ⟨fsD, mD⟩ := kD.mem
  obtain ⟨fsG, mG⟩ := kG.mem
  have kK : co_R cI cG aK aL aS aM S.lk S.kn S.T S.lost (List.flatten [[(aK, .inr (4, [.ref aL, .ref aS, .ref aM, .int S.lost]))], wL, wS, wM]) := ⟨wL, wS, wM, rfl, kL, kS, kM⟩
  obtain ⟨fsK, mK⟩ := kK.mem
  refine ct_enterV (cc := b_Net_notice) (maxL := 3) (ret := none) (by decide +kernel) (Nat.le_of_ble_eq_true rfl) ?_
  intro p e s m args below meth c hx hb hml hr ht hown hlk hnm A Q hA hK hP hD hQ ls hl
  have hown : s.vm.findClass R_Net = some m.cls := hown
  have hS : va_S A s.heap s.heap [] := va_S.rf
  have hl : lv_has ls 3 [(0, .ref h), (1, .int (nI r)), (2, .int (nI o))] := hl
  refine lv_aload_n hx hb d_Net_notice_0 rfl (lv_at hl 0 rfl) ?_
  refine va_get (D := D) (ci := 8) (v := .ref aK) (C := R_Net) (T := T_Net) (N := 7) hx hb ht in_Net hown hK hP 0 rfl rfl 3 (by decide) (ht _ kl_Net_35) (fun _ h9 => h9) rfl d_Net_notice_1 ?_
  refine ct_rdV (C := R_Control) (ci := 4) (As := []) (rest := []) ⟨hx, hb, hml, hown, ht⟩ (k_Control_hasRoomForLinks l D cI cZ cJ cG kK (by omega)) (cb_V ht kc_Control_hasRoomForLinks kl_Net_84 kn_Control ki_Control_hasRoomForLinks ks_Control_hasRoomForLinks hd_Control_hasRoomForLinks ⟨Nat.le_of_ble_eq_true rfl, Nat.le_of_ble_eq_true rfl⟩) (List.mem_of_getElem? (i := 1) rfl) rfl rfl (wd_ct (Bs := [[(h, .inr (8, [.ref aE, .ref aL, .ref aS, .ref aK, .ref aR, .ref aD, .ref aG]))], [(aK, .inr (4, [.ref aL, .ref aS, .ref aM, .int S.lost]))], wE, wL, wS, wM, wR, wD, wG]) 9 rfl [1, 3, 4, 5] [0, 2, 6, 7, 8] (by decide) rfl) hK hP hD hS hA rfl hl.1 rfl (Nat.le_of_ble_eq_true rfl) ⟨(show 0 + 0 ≤ (bm_gc S.T (bm_adv (bm_nkn r o S) r S.T)) by omega), (show 0 + 0 ≤ (bm_gs S.T (bm_adv (bm_nkn r o S) r S.T)) by omega)⟩ d_Net_notice_4 (fun rhr1 H locs hr1 hP hD hS => ?_)
  subst hr1
  refine W.eq (g2 := F0 m 7 ls [.int (bI true)]) (congrArg (fun z => F0 m 7 ls (.int z :: [])) (congrArg bI (decide_eq_true hlr))) ?_
  refine ct_callSV (As := [.int (bI true)]) (rest := []) ⟨hx, hb, hml, hown, ht⟩ (k_Net_demandRoom l D cI cZ cJ cG) (cb_S ht kc_Net_demandRoom kl_Net_88 kn_Net ki_Net_demandRoom hd_Net_demandRoom ⟨Nat.le_of_ble_eq_true rfl, Nat.le_of_ble_eq_true rfl⟩) (wd_ct (Bs := [[(h, .inr (8, [.ref aE, .ref aL, .ref aS, .ref aK, .ref aR, .ref aD, .ref aG]))], [(aK, .inr (4, [.ref aL, .ref aS, .ref aM, .int S.lost]))], wE, wL, wS, wM, wR, wD, wG]) 9 rfl [] [0, 1, 2, 3, 4, 5, 6, 7, 8] (by decide) rfl) hK hP hD hS hA rfl hl.1 rfl (Nat.le_of_ble_eq_true rfl) ⟨(Nat.zero_le _), (Nat.zero_le _)⟩ d_Net_notice_7 (fun u2 H locs hu2 hP hD hS => ?_)
  subst hu2
  refine W.widen (k := 0) (n := 0) (Nat.le_refl _) (Nat.le_refl _) ?_
  have hP := wd_nP (N := []) rfl 9 rfl [0, 1, 2, 3, 4, 5, 6, 7, 8] (by decide) hP
  have hD := wd_nD (N := []) rfl 9 rfl [0, 1, 2, 3, 4, 5, 6, 7, 8] (by decide) hD
  have hP : va_P D kls (List.flatten [[(h, .inr (8, [.ref aE, .ref aL, .ref aS, .ref aK, .ref aR, .ref aD, .ref aG]))], [(aK, .inr (4, [.ref aL, .ref aS, .ref aM, .int S.lost]))], wE, wL, wS, wM, wR, wD, wG]) H := hP
  have hD : va_D A (List.flatten [[(h, .inr (8, [.ref aE, .ref aL, .ref aS, .ref aK, .ref aR, .ref aD, .ref aG]))], [(aK, .inr (4, [.ref aL, .ref aS, .ref aM, .int S.lost]))], wE, wL, wS, wM, wR, wD, wG]) := hD
  refine W.eq (g2 := F0 m 10 ls []) rfl ?_
  refine lv_iload_n hx hb d_Net_notice_10 rfl (lv_at hl 1 rfl) ?_
  refine ct_rdS (As := [.int (nI r)]) (rest := []) ⟨hx, hb, hml, hown, ht⟩ (k_Net_isRouter l D cI cZ cJ cG (nI r)) (cb_S ht kc_Net_isRouter kl_Net_66 kn_Net ki_Net_isRouter hd_Net_isRouter ⟨Nat.le_of_ble_eq_true rfl, Nat.le_of_ble_eq_true rfl⟩) (wd_ct (Bs := [[(h, .inr (8, [.ref aE, .ref aL, .ref aS, .ref aK, .ref aR, .ref aD, .ref aG]))], [(aK, .inr (4, [.ref aL, .ref aS, .ref aM, .int S.lost]))], wE, wL, wS, wM, wR, wD, wG]) 9 rfl [] [0, 1, 2, 3, 4, 5, 6, 7, 8] (by decide) rfl) hK hP hD hS hA rfl hl.1 rfl (Nat.le_of_ble_eq_true rfl) ⟨(show 0 + 0 ≤ (bm_gc S.T (bm_adv (bm_nkn r o S) r S.T)) by omega), (show 0 + 0 ≤ (bm_gs S.T (bm_adv (bm_nkn r o S) r S.T)) by omega)⟩ d_Net_notice_11 (fun rhr3 H locs hr3 hP hD hS => ?_)
  subst hr3
  refine W.eq (g2 := F0 m 14 ls [.int (bI true)]) (congrArg (fun z => F0 m 14 ls (.int z :: [])) (congrArg bI (rg_t12 hr9))) ?_
  refine ri_ifeqB hx hb d_Net_notice_14 (tgt := 28) (by decide) (fun h4 => ?_) (fun h4 => ?_)
  · exact absurd h4 (fun z => by cases z)
  · refine lv_iload_n hx hb d_Net_notice_17 rfl (lv_at hl 2 rfl) ?_
    refine ct_rdS (As := [.int (nI o)]) (rest := []) ⟨hx, hb, hml, hown, ht⟩ (k_Net_isRouter l D cI cZ cJ cG (nI o)) (cb_S ht kc_Net_isRouter kl_Net_66 kn_Net ki_Net_isRouter hd_Net_isRouter ⟨Nat.le_of_ble_eq_true rfl, Nat.le_of_ble_eq_true rfl⟩) (wd_ct (Bs := [[(h, .inr (8, [.ref aE, .ref aL, .ref aS, .ref aK, .ref aR, .ref aD, .ref aG]))], [(aK, .inr (4, [.ref aL, .ref aS, .ref aM, .int S.lost]))], wE, wL, wS, wM, wR, wD, wG]) 9 rfl [] [0, 1, 2, 3, 4, 5, 6, 7, 8] (by decide) rfl) hK hP hD hS hA rfl hl.1 rfl (Nat.le_of_ble_eq_true rfl) ⟨(show 0 + 0 ≤ (bm_gc S.T (bm_adv (bm_nkn r o S) r S.T)) by omega), (show 0 + 0 ≤ (bm_gs S.T (bm_adv (bm_nkn r o S) r S.T)) by omega)⟩ d_Net_notice_18 (fun rhr5 H locs hr5 hP hD hS => ?_)
    subst hr5
    refine W.eq (g2 := F0 m 21 ls [.int (bI true)]) (congrArg (fun z => F0 m 21 ls (.int z :: [])) (congrArg bI (rg_t12 ho9))) ?_
    refine ri_ifeqB hx hb d_Net_notice_21 (tgt := 28) (by decide) (fun h6 => ?_) (fun h6 => ?_)
    · exact absurd h6 (fun z => by cases z)
    · refine lv_iconst (v := nI 1) hx hb d_Net_notice_24 (by decide) ?_
      refine lv_goto hx hb d_Net_notice_25 (tgt := 29) (by decide) ?_
      refine W.eq (g2 := F0 m 29 ls [.int (bI true)]) (congrArg (fun z => F0 m 29 ls (.int z :: [])) (rfl)) ?_
      refine ct_callSV (As := [.int (bI true)]) (rest := []) ⟨hx, hb, hml, hown, ht⟩ (k_Net_demand l D cI cZ cJ cG) (cb_S ht kc_Net_demand kl_Net_70 kn_Net ki_Net_demand hd_Net_demand ⟨Nat.le_of_ble_eq_true rfl, Nat.le_of_ble_eq_true rfl⟩) (wd_ct (Bs := [[(h, .inr (8, [.ref aE, .ref aL, .ref aS, .ref aK, .ref aR, .ref aD, .ref aG]))], [(aK, .inr (4, [.ref aL, .ref aS, .ref aM, .int S.lost]))], wE, wL, wS, wM, wR, wD, wG]) 9 rfl [] [0, 1, 2, 3, 4, 5, 6, 7, 8] (by decide) rfl) hK hP hD hS hA rfl hl.1 rfl (Nat.le_of_ble_eq_true rfl) ⟨(Nat.zero_le _), (Nat.zero_le _)⟩ d_Net_notice_29 (fun u7 H locs hu7 hP hD hS => ?_)
      subst hu7
      refine W.widen (k := 0) (n := 0) (Nat.le_refl _) (Nat.le_refl _) ?_
      have hP := wd_nP (N := []) rfl 9 rfl [0, 1, 2, 3, 4, 5, 6, 7, 8] (by decide) hP
      have hD := wd_nD (N := []) rfl 9 rfl [0, 1, 2, 3, 4, 5, 6, 7, 8] (by decide) hD
      have hP : va_P D kls (List.flatten [[(h, .inr (8, [.ref aE, .ref aL, .ref aS, .ref aK, .ref aR, .ref aD, .ref aG]))], [(aK, .inr (4, [.ref aL, .ref aS, .ref aM, .int S.lost]))], wE, wL, wS, wM, wR, wD, wG]) H := hP
      have hD : va_D A (List.flatten [[(h, .inr (8, [.ref aE, .ref aL, .ref aS, .ref aK, .ref aR, .ref aD, .ref aG]))], [(aK, .inr (4, [.ref aL, .ref aS, .ref aM, .int S.lost]))], wE, wL, wS, wM, wR, wD, wG]) := hD
      refine W.eq (g2 := F0 m 32 ls []) rfl ?_
      refine lv_aload_n hx hb d_Net_notice_32 rfl (lv_at hl 0 rfl) ?_
      refine va_get (D := D) (ci := 8) (v := .ref aL) (C := R_Net) (T := T_Net) (N := 7) hx hb ht in_Net hown hK hP 0 rfl rfl 1 (by decide) (ht _ kl_Net_19) (fun _ h9 => h9) rfl d_Net_notice_33 ?_
      refine lv_iload_n hx hb d_Net_notice_36 rfl (lv_at hl 1 rfl) ?_
      refine lv_iload_n hx hb d_Net_notice_37 rfl (lv_at hl 2 rfl) ?_
      refine ct_rdV (C := R_Links) (ci := 2) (As := [.int (nI r), .int (nI o)]) (rest := []) ⟨hx, hb, hml, hown, ht⟩ (k_Links_isKnown l D cI cZ cJ cG kL r o (fun a b => Nat.lt_of_le_of_lt (hi.2.2.1 a b) (by decide)) (fun a b => Nat.lt_of_le_of_lt (hi.2.1 a b) (by decide)) hr9 ho9) (cb_V ht kc_Links_isKnown kl_Net_116 kn_Links ki_Links_isKnown ks_Links_isKnown hd_Links_isKnown ⟨Nat.le_of_ble_eq_true rfl, Nat.le_of_ble_eq_true rfl⟩) (wd_mem 3 rfl mL) rfl rfl (wd_ct (Bs := [[(h, .inr (8, [.ref aE, .ref aL, .ref aS, .ref aK, .ref aR, .ref aD, .ref aG]))], [(aK, .inr (4, [.ref aL, .ref aS, .ref aM, .int S.lost]))], wE, wL, wS, wM, wR, wD, wG]) 9 rfl [3] [0, 1, 2, 4, 5, 6, 7, 8] (by decide) (wd_1 _)) hK hP hD hS hA rfl hl.1 rfl (Nat.le_of_ble_eq_true rfl) ⟨(show 0 + 0 ≤ (bm_gc S.T (bm_adv (bm_nkn r o S) r S.T)) by omega), (show 0 + 0 ≤ (bm_gs S.T (bm_adv (bm_nkn r o S) r S.T)) by omega)⟩ d_Net_notice_38 (fun rhr8 H locs hr8 hP hD hS => ?_)
      subst hr8
      refine W.eq (g2 := F0 m 41 ls [.int (bI true)]) (congrArg (fun z => F0 m 41 ls (.int z :: [])) (congrArg bI (decide_eq_true hkw))) ?_
      refine ri_ifeqB hx hb d_Net_notice_41 (tgt := 60) (by decide) (fun h9 => ?_) (fun h9 => ?_)
      · exact absurd h9 (fun z => by cases z)
      · refine lv_aload_n hx hb d_Net_notice_44 rfl (lv_at hl 0 rfl) ?_
        refine va_get (D := D) (ci := 8) (v := .ref aL) (C := R_Net) (T := T_Net) (N := 7) hx hb ht in_Net hown hK hP 0 rfl rfl 1 (by decide) (ht _ kl_Net_19) (fun _ h9 => h9) rfl d_Net_notice_45 ?_
        refine lv_iload_n hx hb d_Net_notice_48 rfl (lv_at hl 1 rfl) ?_
        refine lv_iload_n hx hb d_Net_notice_49 rfl (lv_at hl 2 rfl) ?_
        refine ct_rdV (C := R_Links) (ci := 2) (As := [.int (nI r), .int (nI o)]) (rest := []) ⟨hx, hb, hml, hown, ht⟩ (k_Links_isCut l D cI cZ cJ cG kL r o (fun a b => Nat.lt_of_le_of_lt (hi.2.2.1 a b) (by decide)) (fun a b => Nat.lt_of_le_of_lt (hi.2.1 a b) (by decide)) hr9 ho9) (cb_V ht kc_Links_isCut kl_Net_119 kn_Links ki_Links_isCut ks_Links_isCut hd_Links_isCut ⟨Nat.le_of_ble_eq_true rfl, Nat.le_of_ble_eq_true rfl⟩) (wd_mem 3 rfl mL) rfl rfl (wd_ct (Bs := [[(h, .inr (8, [.ref aE, .ref aL, .ref aS, .ref aK, .ref aR, .ref aD, .ref aG]))], [(aK, .inr (4, [.ref aL, .ref aS, .ref aM, .int S.lost]))], wE, wL, wS, wM, wR, wD, wG]) 9 rfl [3] [0, 1, 2, 4, 5, 6, 7, 8] (by decide) (wd_1 _)) hK hP hD hS hA rfl hl.1 rfl (Nat.le_of_ble_eq_true rfl) ⟨(show 0 + 0 ≤ (bm_gc S.T (bm_adv (bm_nkn r o S) r S.T)) by omega), (show 0 + 0 ≤ (bm_gs S.T (bm_adv (bm_nkn r o S) r S.T)) by omega)⟩ d_Net_notice_50 (fun rhr10 H locs hr10 hP hD hS => ?_)
        subst hr10
        refine W.eq (g2 := F0 m 53 ls [.int (bI true)]) (congrArg (fun z => F0 m 53 ls (.int z :: [])) (congrArg bI (decide_eq_true hcu))) ?_
        refine ri_ifeqB hx hb d_Net_notice_53 (tgt := 60) (by decide) (fun h11 => ?_) (fun h11 => ?_)
        · exact absurd h11 (fun z => by cases z)
        · refine lv_iconst (v := nI 1) hx hb d_Net_notice_56 (by decide) ?_
          refine lv_goto hx hb d_Net_notice_57 (tgt := 61) (by decide) ?_
          refine W.eq (g2 := F0 m 61 ls [.int (bI true)]) (congrArg (fun z => F0 m 61 ls (.int z :: [])) (rfl)) ?_
          refine ct_callSV (As := [.int (bI true)]) (rest := []) ⟨hx, hb, hml, hown, ht⟩ (k_Net_demand l D cI cZ cJ cG) (cb_S ht kc_Net_demand kl_Net_70 kn_Net ki_Net_demand hd_Net_demand ⟨Nat.le_of_ble_eq_true rfl, Nat.le_of_ble_eq_true rfl⟩) (wd_ct (Bs := [[(h, .inr (8, [.ref aE, .ref aL, .ref aS, .ref aK, .ref aR, .ref aD, .ref aG]))], [(aK, .inr (4, [.ref aL, .ref aS, .ref aM, .int S.lost]))], wE, wL, wS, wM, wR, wD, wG]) 9 rfl [] [0, 1, 2, 3, 4, 5, 6, 7, 8] (by decide) rfl) hK hP hD hS hA rfl hl.1 rfl (Nat.le_of_ble_eq_true rfl) ⟨(Nat.zero_le _), (Nat.zero_le _)⟩ d_Net_notice_61 (fun u12 H locs hu12 hP hD hS => ?_)
          subst hu12
          refine W.widen (k := 0) (n := 0) (Nat.le_refl _) (Nat.le_refl _) ?_
          have hP := wd_nP (N := []) rfl 9 rfl [0, 1, 2, 3, 4, 5, 6, 7, 8] (by decide) hP
          have hD := wd_nD (N := []) rfl 9 rfl [0, 1, 2, 3, 4, 5, 6, 7, 8] (by decide) hD
          have hP : va_P D kls (List.flatten [[(h, .inr (8, [.ref aE, .ref aL, .ref aS, .ref aK, .ref aR, .ref aD, .ref aG]))], [(aK, .inr (4, [.ref aL, .ref aS, .ref aM, .int S.lost]))], wE, wL, wS, wM, wR, wD, wG]) H := hP
          have hD : va_D A (List.flatten [[(h, .inr (8, [.ref aE, .ref aL, .ref aS, .ref aK, .ref aR, .ref aD, .ref aG]))], [(aK, .inr (4, [.ref aL, .ref aS, .ref aM, .int S.lost]))], wE, wL, wS, wM, wR, wD, wG]) := hD
          refine W.eq (g2 := F0 m 64 ls []) rfl ?_
          refine lv_aload_n hx hb d_Net_notice_64 rfl (lv_at hl 0 rfl) ?_
          refine va_get (D := D) (ci := 8) (v := .ref aL) (C := R_Net) (T := T_Net) (N := 7) hx hb ht in_Net hown hK hP 0 rfl rfl 1 (by decide) (ht _ kl_Net_19) (fun _ h9 => h9) rfl d_Net_notice_65 ?_
          refine lv_iload_n hx hb d_Net_notice_68 rfl (lv_at hl 1 rfl) ?_
          refine lv_iload_n hx hb d_Net_notice_69 rfl (lv_at hl 2 rfl) ?_
          refine ct_callVV (C := R_Links) (ci := 2) (As := [.int (nI r), .int (nI o)]) (rest := []) ⟨hx, hb, hml, hown, ht⟩ (k_Links_unlearn l D cI cZ cJ cG kL r o (fun a b => Nat.lt_of_le_of_lt (hi.2.2.1 a b) (by decide)) (fun a b => Nat.lt_of_le_of_lt (hi.2.1 a b) (by decide)) hr9 ho9) (cb_V ht kc_Links_unlearn kl_Net_122 kn_Links ki_Links_unlearn ks_Links_unlearn hd_Links_unlearn ⟨Nat.le_of_ble_eq_true rfl, Nat.le_of_ble_eq_true rfl⟩) (wd_mem 3 rfl mL) rfl rfl (wd_ct (Bs := [[(h, .inr (8, [.ref aE, .ref aL, .ref aS, .ref aK, .ref aR, .ref aD, .ref aG]))], [(aK, .inr (4, [.ref aL, .ref aS, .ref aM, .int S.lost]))], wE, wL, wS, wM, wR, wD, wG]) 9 rfl [3] [0, 1, 2, 4, 5, 6, 7, 8] (by decide) (wd_1 _)) hK hP hD hS hA rfl hl.1 rfl (Nat.le_of_ble_eq_true rfl) ⟨(Nat.zero_le _), (Nat.zero_le _)⟩ d_Net_notice_70 (fun u13 H locs hu13 hP hD hS => ?_)
          have kL2 : lk_R cI cG aL (bm_nlk r o S) (bm_nkn r o S) u13 := hu13
          refine W.widen (k := 0) (n := 0) (Nat.le_refl _) (Nat.le_refl _) ?_
          have hP := wd_nP (N := [u13]) (wd_1 _) 9 rfl [1, 2, 3, 0, 4, 5, 6, 7, 8] (by decide) hP
          have hD := wd_nD (N := [u13]) (wd_1 _) 9 rfl [1, 2, 3, 0, 4, 5, 6, 7, 8] (by decide) hD
          have hP : va_P D kls (List.flatten [[(h, .inr (8, [.ref aE, .ref aL, .ref aS, .ref aK, .ref aR, .ref aD, .ref aG]))], [(aK, .inr (4, [.ref aL, .ref aS, .ref aM, .int S.lost]))], wE, u13, wS, wM, wR, wD, wG]) H := hP
          have hD : va_D A (List.flatten [[(h, .inr (8, [.ref aE, .ref aL, .ref aS, .ref aK, .ref aR, .ref aD, .ref aG]))], [(aK, .inr (4, [.ref aL, .ref aS, .ref aM, .int S.lost]))], wE, u13, wS, wM, wR, wD, wG]) := hD
          refine W.eq (g2 := F0 m 73 ls []) rfl ?_
          refine lv_aload_n hx hb d_Net_notice_73 rfl (lv_at hl 0 rfl) ?_
          refine va_get (D := D) (ci := 8) (v := .ref aK) (C := R_Net) (T := T_Net) (N := 7) hx hb ht in_Net hown hK hP 0 rfl rfl 3 (by decide) (ht _ kl_Net_35) (fun _ h9 => h9) rfl d_Net_notice_74 ?_
          refine lv_iload_n hx hb d_Net_notice_77 rfl (lv_at hl 1 rfl) ?_
          have kK2 : co_R cI cG aK aL aS aM (bm_nlk r o S) (bm_nkn r o S) S.T S.lost (List.flatten [[(aK, .inr (4, [.ref aL, .ref aS, .ref aM, .int S.lost]))], u13, wS, wM]) := ⟨u13, wS, wM, rfl, kL2, kS, kM⟩
          refine ct_callVV (C := R_Control) (ci := 4) (As := [.int (nI r)]) (rest := []) ⟨hx, hb, hml, hown, ht⟩ (k_Control_advertise l D cI cZ cJ cG kK2 hi.1 hkn9 hlk9 r hr9 hc) (cb_V ht kc_Control_advertise kl_Net_125 kn_Control ki_Control_advertise ks_Control_advertise hd_Control_advertise ⟨Nat.le_of_ble_eq_true rfl, Nat.le_of_ble_eq_true rfl⟩) (List.mem_of_getElem? (i := 1) rfl) rfl rfl (wd_ct (Bs := [[(h, .inr (8, [.ref aE, .ref aL, .ref aS, .ref aK, .ref aR, .ref aD, .ref aG]))], [(aK, .inr (4, [.ref aL, .ref aS, .ref aM, .int S.lost]))], wE, u13, wS, wM, wR, wD, wG]) 9 rfl [1, 3, 4, 5] [0, 2, 6, 7, 8] (by decide) rfl) hK hP hD hS hA rfl hl.1 rfl (Nat.le_of_ble_eq_true rfl) ⟨(Nat.le_of_eq (Nat.zero_add _)), (Nat.le_of_eq (Nat.zero_add _))⟩ d_Net_notice_78 (fun u14 H locs hu14 hP hD hS => ?_)
          obtain ⟨wL3, wS3, wM3, rfl, kL3, kS3, kM3⟩ := hu14
          refine W.widen (k := bm_gc S.T (bm_adv (bm_nkn r o S) r S.T)) (n := bm_gs S.T (bm_adv (bm_nkn r o S) r S.T)) (Nat.le_of_eq (Nat.zero_add _)) (Nat.le_of_eq (Nat.zero_add _)) ?_
          have hP := wd_nP (N := [[(aK, .inr (4, [.ref aL, .ref aS, .ref aM, .int S.lost]))], wL3, wS3, wM3]) rfl 9 rfl [4, 0, 5, 1, 2, 3, 6, 7, 8] (by decide) hP
          have hD := wd_nD (N := [[(aK, .inr (4, [.ref aL, .ref aS, .ref aM, .int S.lost]))], wL3, wS3, wM3]) rfl 9 rfl [4, 0, 5, 1, 2, 3, 6, 7, 8] (by decide) hD
          have hP : va_P D kls (List.flatten [[(h, .inr (8, [.ref aE, .ref aL, .ref aS, .ref aK, .ref aR, .ref aD, .ref aG]))], [(aK, .inr (4, [.ref aL, .ref aS, .ref aM, .int S.lost]))], wE, wL3, wS3, wM3, wR, wD, wG]) H := hP
          have hD : va_D A (List.flatten [[(h, .inr (8, [.ref aE, .ref aL, .ref aS, .ref aK, .ref aR, .ref aD, .ref aG]))], [(aK, .inr (4, [.ref aL, .ref aS, .ref aM, .int S.lost]))], wE, wL3, wS3, wM3, wR, wD, wG]) := hD
          refine W.eq (g2 := F0 m 81 ls []) rfl ?_
          exact ct_vret hQ hx hb hr hlk hP hD hS hK (by omega) (by omega) d_Net_notice_81 (⟨aE, aL, aS, aK, aR, aD, aG, aM, aP, aC, wE, wL3, wS3, wM3, wR, wD, wG, rfl, kE, kL3, kS3, kM3, (bm_up_adv hi.1).rt kR, kD, kG⟩)
set_option maxHeartbeats 800000 in
set_option maxRecDepth 100000 in
theorem x_Net_notice_room (l : Launch) (s0 : State) (A0 : Array Value) (h0 : fz_0 A0 s0) (hfl : ∀ e : Env, l.admits e → e.platform.stackTraces = false) (D : va_G) (cI cZ cJ cG : ClassId) {h : Nat} {S : bm_S} {ws : va_W} (hR : nt_R cI cZ cG h S ws) (x y : Int32) (hta : S.T.1.2.1 < 100000) (hno : ¬ bm_lroom S) : ct_X l s0 D kls (ty4 cI cZ cJ cG) y_Net_notice ws_Net_notice (rm_ 7 102 1 6) [.ref h, .int x, .int y] (ws) "java/lang/IllegalStateException" (fun u => nt_R cI cZ cG h S u) 1 6 := by
  obtain ⟨aE, aL, aS, aK, aR, aD, aG, aM, aP, aC, wE, wL, wS, wM, wR, wD, wG, rfl, kE, kL, kS, kM, kR, kD, kG⟩ := hR
  obtain ⟨fsE, mE⟩ := kE.mem
  obtain ⟨fsL, mL⟩ := kL.mem
  obtain ⟨fsS, mS⟩ := kS.mem
  obtain ⟨fsR, mR⟩ := kR.mem
  obtain ⟨fsD, mD⟩ := kD.mem
  obtain ⟨fsG, mG⟩ := kG.mem
  have kK : co_R cI cG aK aL aS aM S.lk S.kn S.T S.lost (List.flatten [[(aK, .inr (4, [.ref aL, .ref aS, .ref aM, .int S.lost]))], wL, wS, wM]) := ⟨wL, wS, wM, rfl, kL, kS, kM⟩
  obtain ⟨fsK, mK⟩ := kK.mem
  refine ct_enterX (cc := b_Net_notice) (maxL := 3) (ret := none) (by decide +kernel) (Nat.le_of_ble_eq_true rfl) ?_
  intro p e s m args below meth c hx hb hml hr ht hown hlk hnm A Q hA hK hP hD hQ ls hl hz
  have hown : s.vm.findClass R_Net = some m.cls := hown
  have hS : va_S A s.heap s.heap [] := va_S.rf
  have hl : lv_has ls 3 [(0, .ref h), (1, .int x), (2, .int y)] := hl
  refine lv_aload_n hx hb d_Net_notice_0 rfl (lv_at hl 0 rfl) ?_
  refine va_get (D := D) (ci := 8) (v := .ref aK) (C := R_Net) (T := T_Net) (N := 7) hx hb ht in_Net hown hK hP 0 rfl rfl 3 (by decide) (ht _ kl_Net_35) (fun _ h9 => h9) rfl d_Net_notice_1 ?_
  refine ct_rdV (C := R_Control) (ci := 4) (As := []) (rest := []) ⟨hx, hb, hml, hown, ht⟩ (k_Control_hasRoomForLinks l D cI cZ cJ cG kK (by omega)) (cb_V ht kc_Control_hasRoomForLinks kl_Net_84 kn_Control ki_Control_hasRoomForLinks ks_Control_hasRoomForLinks hd_Control_hasRoomForLinks ⟨Nat.le_of_ble_eq_true rfl, Nat.le_of_ble_eq_true rfl⟩) (List.mem_of_getElem? (i := 1) rfl) rfl rfl (wd_ct (Bs := [[(h, .inr (8, [.ref aE, .ref aL, .ref aS, .ref aK, .ref aR, .ref aD, .ref aG]))], [(aK, .inr (4, [.ref aL, .ref aS, .ref aM, .int S.lost]))], wE, wL, wS, wM, wR, wD, wG]) 9 rfl [1, 3, 4, 5] [0, 2, 6, 7, 8] (by decide) rfl) hK hP hD hS hA rfl hl.1 rfl (Nat.le_of_ble_eq_true rfl) ⟨(show 0 + 0 ≤ 1 by omega), (show 0 + 0 ≤ 6 by omega)⟩ d_Net_notice_4 (fun rhr1 H locs hr1 hP hD hS => ?_)
  subst hr1
  refine W.eq (g2 := F0 m 7 ls [.int (bI false)]) (congrArg (fun z => F0 m 7 ls (.int z :: [])) (congrArg bI (decide_eq_false hno))) ?_
  exact ct_throwS (As := [.int (bI false)]) (rest := []) hz hQ hlk ⟨hx, hb, hml, hown, ht⟩ (x_Net_demandRoom l s0 A0 h0 hfl D cI cZ cJ cG) (cb_S ht kc_Net_demandRoom kl_Net_88 kn_Net ki_Net_demandRoom hd_Net_demandRoom ⟨Nat.le_of_ble_eq_true rfl, Nat.le_of_ble_eq_true rfl⟩) (wd_ct (Bs := [[(h, .inr (8, [.ref aE, .ref aL, .ref aS, .ref aK, .ref aR, .ref aD, .ref aG]))], [(aK, .inr (4, [.ref aL, .ref aS, .ref aM, .int S.lost]))], wE, wL, wS, wM, wR, wD, wG]) 9 rfl [] [0, 1, 2, 3, 4, 5, 6, 7, 8] (by decide) rfl) hK hP hD hS hA rfl hl.1 rfl (Nat.le_of_ble_eq_true rfl) ⟨by decide, by decide⟩ ⟨by decide, by decide⟩ d_Net_notice_7 (fun u hu => by subst hu; exact ⟨aE, aL, aS, aK, aR, aD, aG, aM, aP, aC, wE, wL, wS, wM, wR, wD, wG, rfl, kE, kL, kS, kM, kR, kD, kG⟩)
set_option maxHeartbeats 800000 in
set_option maxRecDepth 100000 in
theorem x_Net_notice (l : Launch) (s0 : State) (A0 : Array Value) (h0 : fz_0 A0 s0) (hfl : ∀ e : Env, l.admits e → e.platform.stackTraces = false) (D : va_G) (cI cZ cJ cG : ClassId) {h : Nat} {S : bm_S} {ws : va_W} (hR : nt_R cI cZ cG h S ws) (hi : bm_si S) (x y : Int32) (hlr : bm_lroom S) (hno : ¬ ∃ r o, x = nI r ∧ y = nI o ∧ r < 12 ∧ o < 12 ∧ S.kn r o ≠ 0 ∧ S.lk r o = 2) : ct_X l s0 D kls (ty4 cI cZ cJ cG) y_Net_notice ws_Net_notice (rm_ 7 102 1 6) [.ref h, .int x, .int y] (ws) "java/lang/IllegalArgumentException" (fun u => nt_R cI cZ cG h S u) 1 6 := by
  obtain ⟨aE, aL, aS, aK, aR, aD, aG, aM, aP, aC, wE, wL, wS, wM, wR, wD, wG, rfl, kE, kL, kS, kM, kR, kD, kG⟩ := hR
  obtain ⟨fsE, mE⟩ := kE.mem
  obtain ⟨fsL, mL⟩ := kL.mem
  obtain ⟨fsS, mS⟩ := kS.mem
  obtain ⟨fsR, mR⟩ := kR.mem
  obtain ⟨fsD, mD⟩ := kD.mem
  obtain ⟨fsG, mG⟩ := kG.mem
  have kK : co_R cI cG aK aL aS aM S.lk S.kn S.T S.lost (List.flatten [[(aK, .inr (4, [.ref aL, .ref aS, .ref aM, .int S.lost]))], wL, wS, wM]) := ⟨wL, wS, wM, rfl, kL, kS, kM⟩
  obtain ⟨fsK, mK⟩ := kK.mem
  refine ct_enterX (cc := b_Net_notice) (maxL := 3) (ret := none) (by decide +kernel) (Nat.le_of_ble_eq_true rfl) ?_
  intro p e s m args below meth c hx hb hml hr ht hown hlk hnm A Q hA hK hP hD hQ ls hl hz
  have hown : s.vm.findClass R_Net = some m.cls := hown
  have hS : va_S A s.heap s.heap [] := va_S.rf
  have hl : lv_has ls 3 [(0, .ref h), (1, .int x), (2, .int y)] := hl
  refine lv_aload_n hx hb d_Net_notice_0 rfl (lv_at hl 0 rfl) ?_
  refine va_get (D := D) (ci := 8) (v := .ref aK) (C := R_Net) (T := T_Net) (N := 7) hx hb ht in_Net hown hK hP 0 rfl rfl 3 (by decide) (ht _ kl_Net_35) (fun _ h9 => h9) rfl d_Net_notice_1 ?_
  refine ct_rdV (C := R_Control) (ci := 4) (As := []) (rest := []) ⟨hx, hb, hml, hown, ht⟩ (k_Control_hasRoomForLinks l D cI cZ cJ cG kK (by omega)) (cb_V ht kc_Control_hasRoomForLinks kl_Net_84 kn_Control ki_Control_hasRoomForLinks ks_Control_hasRoomForLinks hd_Control_hasRoomForLinks ⟨Nat.le_of_ble_eq_true rfl, Nat.le_of_ble_eq_true rfl⟩) (List.mem_of_getElem? (i := 1) rfl) rfl rfl (wd_ct (Bs := [[(h, .inr (8, [.ref aE, .ref aL, .ref aS, .ref aK, .ref aR, .ref aD, .ref aG]))], [(aK, .inr (4, [.ref aL, .ref aS, .ref aM, .int S.lost]))], wE, wL, wS, wM, wR, wD, wG]) 9 rfl [1, 3, 4, 5] [0, 2, 6, 7, 8] (by decide) rfl) hK hP hD hS hA rfl hl.1 rfl (Nat.le_of_ble_eq_true rfl) ⟨(show 0 + 0 ≤ 1 by omega), (show 0 + 0 ≤ 6 by omega)⟩ d_Net_notice_4 (fun rhr1 H locs hr1 hP hD hS => ?_)
  subst hr1
  refine W.eq (g2 := F0 m 7 ls [.int (bI true)]) (congrArg (fun z => F0 m 7 ls (.int z :: [])) (congrArg bI (decide_eq_true hlr))) ?_
  refine ct_callSV (As := [.int (bI true)]) (rest := []) ⟨hx, hb, hml, hown, ht⟩ (k_Net_demandRoom l D cI cZ cJ cG) (cb_S ht kc_Net_demandRoom kl_Net_88 kn_Net ki_Net_demandRoom hd_Net_demandRoom ⟨Nat.le_of_ble_eq_true rfl, Nat.le_of_ble_eq_true rfl⟩) (wd_ct (Bs := [[(h, .inr (8, [.ref aE, .ref aL, .ref aS, .ref aK, .ref aR, .ref aD, .ref aG]))], [(aK, .inr (4, [.ref aL, .ref aS, .ref aM, .int S.lost]))], wE, wL, wS, wM, wR, wD, wG]) 9 rfl [] [0, 1, 2, 3, 4, 5, 6, 7, 8] (by decide) rfl) hK hP hD hS hA rfl hl.1 rfl (Nat.le_of_ble_eq_true rfl) ⟨(by decide), (by decide)⟩ d_Net_notice_7 (fun u2 H locs hu2 hP hD hS => ?_)
  subst hu2
  refine W.widen (k := 0) (n := 0) (Nat.le_refl _) (Nat.le_refl _) ?_
  have hP := wd_nP (N := []) rfl 9 rfl [0, 1, 2, 3, 4, 5, 6, 7, 8] (by decide) hP
  have hD := wd_nD (N := []) rfl 9 rfl [0, 1, 2, 3, 4, 5, 6, 7, 8] (by decide) hD
  have hP : va_P D kls (List.flatten [[(h, .inr (8, [.ref aE, .ref aL, .ref aS, .ref aK, .ref aR, .ref aD, .ref aG]))], [(aK, .inr (4, [.ref aL, .ref aS, .ref aM, .int S.lost]))], wE, wL, wS, wM, wR, wD, wG]) H := hP
  have hD : va_D A (List.flatten [[(h, .inr (8, [.ref aE, .ref aL, .ref aS, .ref aK, .ref aR, .ref aD, .ref aG]))], [(aK, .inr (4, [.ref aL, .ref aS, .ref aM, .int S.lost]))], wE, wL, wS, wM, wR, wD, wG]) := hD
  refine W.eq (g2 := F0 m 10 ls []) rfl ?_
  refine lv_iload_n hx hb d_Net_notice_10 rfl (lv_at hl 1 rfl) ?_
  refine ct_rdS (As := [.int x]) (rest := []) ⟨hx, hb, hml, hown, ht⟩ (k_Net_isRouter l D cI cZ cJ cG x) (cb_S ht kc_Net_isRouter kl_Net_66 kn_Net ki_Net_isRouter hd_Net_isRouter ⟨Nat.le_of_ble_eq_true rfl, Nat.le_of_ble_eq_true rfl⟩) (wd_ct (Bs := [[(h, .inr (8, [.ref aE, .ref aL, .ref aS, .ref aK, .ref aR, .ref aD, .ref aG]))], [(aK, .inr (4, [.ref aL, .ref aS, .ref aM, .int S.lost]))], wE, wL, wS, wM, wR, wD, wG]) 9 rfl [] [0, 1, 2, 3, 4, 5, 6, 7, 8] (by decide) rfl) hK hP hD hS hA rfl hl.1 rfl (Nat.le_of_ble_eq_true rfl) ⟨(show 0 + 0 ≤ 1 by omega), (show 0 + 0 ≤ 6 by omega)⟩ d_Net_notice_11 (fun rhr3 H locs hr3 hP hD hS => ?_)
  subst hr3
  refine ri_ifeqB hx hb d_Net_notice_14 (tgt := 28) (by decide) (fun h14 => ?_) (fun h14 => ?_)
  · refine lv_iconst (v := nI 0) hx hb d_Net_notice_28 (by decide) ?_
    refine W.eq (g2 := F0 m 29 ls [.int (bI false)]) (congrArg (fun z => F0 m 29 ls (.int z :: [])) (rfl)) ?_
    exact ct_throwS (As := [.int (bI false)]) (rest := []) hz hQ hlk ⟨hx, hb, hml, hown, ht⟩ (x_Net_demand l s0 A0 h0 hfl D cI cZ cJ cG) (cb_S ht kc_Net_demand kl_Net_70 kn_Net ki_Net_demand hd_Net_demand ⟨Nat.le_of_ble_eq_true rfl, Nat.le_of_ble_eq_true rfl⟩) (wd_ct (Bs := [[(h, .inr (8, [.ref aE, .ref aL, .ref aS, .ref aK, .ref aR, .ref aD, .ref aG]))], [(aK, .inr (4, [.ref aL, .ref aS, .ref aM, .int S.lost]))], wE, wL, wS, wM, wR, wD, wG]) 9 rfl [] [0, 1, 2, 3, 4, 5, 6, 7, 8] (by decide) rfl) hK hP hD hS hA rfl hl.1 rfl (Nat.le_of_ble_eq_true rfl) ⟨by decide, by decide⟩ ⟨by decide, by decide⟩ d_Net_notice_29 (fun u hu => by subst hu; exact ⟨aE, aL, aS, aK, aR, aD, aG, aM, aP, aC, wE, wL, wS, wM, wR, wD, wG, rfl, kE, kL, kS, kM, kR, kD, kG⟩)
  · refine lv_iload_n hx hb d_Net_notice_17 rfl (lv_at hl 2 rfl) ?_
    refine ct_rdS (As := [.int y]) (rest := []) ⟨hx, hb, hml, hown, ht⟩ (k_Net_isRouter l D cI cZ cJ cG y) (cb_S ht kc_Net_isRouter kl_Net_66 kn_Net ki_Net_isRouter hd_Net_isRouter ⟨Nat.le_of_ble_eq_true rfl, Nat.le_of_ble_eq_true rfl⟩) (wd_ct (Bs := [[(h, .inr (8, [.ref aE, .ref aL, .ref aS, .ref aK, .ref aR, .ref aD, .ref aG]))], [(aK, .inr (4, [.ref aL, .ref aS, .ref aM, .int S.lost]))], wE, wL, wS, wM, wR, wD, wG]) 9 rfl [] [0, 1, 2, 3, 4, 5, 6, 7, 8] (by decide) rfl) hK hP hD hS hA rfl hl.1 rfl (Nat.le_of_ble_eq_true rfl) ⟨(show 0 + 0 ≤ 1 by omega), (show 0 + 0 ≤ 6 by omega)⟩ d_Net_notice_18 (fun rhr5 H locs hr5 hP hD hS => ?_)
    subst hr5
    refine ri_ifeqB hx hb d_Net_notice_21 (tgt := 28) (by decide) (fun h21 => ?_) (fun h21 => ?_)
    · refine lv_iconst (v := nI 0) hx hb d_Net_notice_28 (by decide) ?_
      refine W.eq (g2 := F0 m 29 ls [.int (bI false)]) (congrArg (fun z => F0 m 29 ls (.int z :: [])) (rfl)) ?_
      exact ct_throwS (As := [.int (bI false)]) (rest := []) hz hQ hlk ⟨hx, hb, hml, hown, ht⟩ (x_Net_demand l s0 A0 h0 hfl D cI cZ cJ cG) (cb_S ht kc_Net_demand kl_Net_70 kn_Net ki_Net_demand hd_Net_demand ⟨Nat.le_of_ble_eq_true rfl, Nat.le_of_ble_eq_true rfl⟩) (wd_ct (Bs := [[(h, .inr (8, [.ref aE, .ref aL, .ref aS, .ref aK, .ref aR, .ref aD, .ref aG]))], [(aK, .inr (4, [.ref aL, .ref aS, .ref aM, .int S.lost]))], wE, wL, wS, wM, wR, wD, wG]) 9 rfl [] [0, 1, 2, 3, 4, 5, 6, 7, 8] (by decide) rfl) hK hP hD hS hA rfl hl.1 rfl (Nat.le_of_ble_eq_true rfl) ⟨by decide, by decide⟩ ⟨by decide, by decide⟩ d_Net_notice_29 (fun u hu => by subst hu; exact ⟨aE, aL, aS, aK, aR, aD, aG, aM, aP, aC, wE, wL, wS, wM, wR, wD, wG, rfl, kE, kL, kS, kM, kR, kD, kG⟩)
    · refine lv_iconst (v := nI 1) hx hb d_Net_notice_24 (by decide) ?_
      refine lv_goto hx hb d_Net_notice_25 (tgt := 29) (by decide) ?_
      refine W.eq (g2 := F0 m 29 ls [.int (bI true)]) (congrArg (fun z => F0 m 29 ls (.int z :: [])) (rfl)) ?_
      refine ct_callSV (As := [.int (bI true)]) (rest := []) ⟨hx, hb, hml, hown, ht⟩ (k_Net_demand l D cI cZ cJ cG) (cb_S ht kc_Net_demand kl_Net_70 kn_Net ki_Net_demand hd_Net_demand ⟨Nat.le_of_ble_eq_true rfl, Nat.le_of_ble_eq_true rfl⟩) (wd_ct (Bs := [[(h, .inr (8, [.ref aE, .ref aL, .ref aS, .ref aK, .ref aR, .ref aD, .ref aG]))], [(aK, .inr (4, [.ref aL, .ref aS, .ref aM, .int S.lost]))], wE, wL, wS, wM, wR, wD, wG]) 9 rfl [] [0, 1, 2, 3, 4, 5, 6, 7, 8] (by decide) rfl) hK hP hD hS hA rfl hl.1 rfl (Nat.le_of_ble_eq_true rfl) ⟨(by decide), (by decide)⟩ d_Net_notice_29 (fun u7 H locs hu7 hP hD hS => ?_)
      subst hu7
      refine W.widen (k := 0) (n := 0) (Nat.le_refl _) (Nat.le_refl _) ?_
      have hP := wd_nP (N := []) rfl 9 rfl [0, 1, 2, 3, 4, 5, 6, 7, 8] (by decide) hP
      have hD := wd_nD (N := []) rfl 9 rfl [0, 1, 2, 3, 4, 5, 6, 7, 8] (by decide) hD
      have hP : va_P D kls (List.flatten [[(h, .inr (8, [.ref aE, .ref aL, .ref aS, .ref aK, .ref aR, .ref aD, .ref aG]))], [(aK, .inr (4, [.ref aL, .ref aS, .ref aM, .int S.lost]))], wE, wL, wS, wM, wR, wD, wG]) H := hP
      have hD : va_D A (List.flatten [[(h, .inr (8, [.ref aE, .ref aL, .ref aS, .ref aK, .ref aR, .ref aD, .ref aG]))], [(aK, .inr (4, [.ref aL, .ref aS, .ref aM, .int S.lost]))], wE, wL, wS, wM, wR, wD, wG]) := hD
      refine W.eq (g2 := F0 m 32 ls []) rfl ?_
      obtain ⟨r, hr9, rfl⟩ := rg_n (k := 12) h14
      obtain ⟨o, ho9, rfl⟩ := rg_n (k := 12) h21
      have hl : lv_has ls 3 [(0, .ref h), (1, .int (nI r)), (2, .int (nI o))] := hl
      refine lv_aload_n hx hb d_Net_notice_32 rfl (lv_at hl 0 rfl) ?_
      refine va_get (D := D) (ci := 8) (v := .ref aL) (C := R_Net) (T := T_Net) (N := 7) hx hb ht in_Net hown hK hP 0 rfl rfl 1 (by decide) (ht _ kl_Net_19) (fun _ h9 => h9) rfl d_Net_notice_33 ?_
      refine lv_iload_n hx hb d_Net_notice_36 rfl (lv_at hl 1 rfl) ?_
      refine lv_iload_n hx hb d_Net_notice_37 rfl (lv_at hl 2 rfl) ?_
      refine ct_rdV (C := R_Links) (ci := 2) (As := [.int (nI r), .int (nI o)]) (rest := []) ⟨hx, hb, hml, hown, ht⟩ (k_Links_isKnown l D cI cZ cJ cG kL r o (fun a b => Nat.lt_of_le_of_lt (hi.2.2.1 a b) (by decide)) (fun a b => Nat.lt_of_le_of_lt (hi.2.1 a b) (by decide)) hr9 ho9) (cb_V ht kc_Links_isKnown kl_Net_116 kn_Links ki_Links_isKnown ks_Links_isKnown hd_Links_isKnown ⟨Nat.le_of_ble_eq_true rfl, Nat.le_of_ble_eq_true rfl⟩) (wd_mem 3 rfl mL) rfl rfl (wd_ct (Bs := [[(h, .inr (8, [.ref aE, .ref aL, .ref aS, .ref aK, .ref aR, .ref aD, .ref aG]))], [(aK, .inr (4, [.ref aL, .ref aS, .ref aM, .int S.lost]))], wE, wL, wS, wM, wR, wD, wG]) 9 rfl [3] [0, 1, 2, 4, 5, 6, 7, 8] (by decide) (wd_1 _)) hK hP hD hS hA rfl hl.1 rfl (Nat.le_of_ble_eq_true rfl) ⟨(show 0 + 0 ≤ 1 by omega), (show 0 + 0 ≤ 6 by omega)⟩ d_Net_notice_38 (fun rhr8 H locs hr8 hP hD hS => ?_)
      subst hr8
      refine ri_ifeqB hx hb d_Net_notice_41 (tgt := 60) (by decide) (fun h41 => ?_) (fun h41 => ?_)
      · refine lv_iconst (v := nI 0) hx hb d_Net_notice_60 (by decide) ?_
        refine W.eq (g2 := F0 m 61 ls [.int (bI false)]) (congrArg (fun z => F0 m 61 ls (.int z :: [])) (rfl)) ?_
        exact ct_throwS (As := [.int (bI false)]) (rest := []) hz hQ hlk ⟨hx, hb, hml, hown, ht⟩ (x_Net_demand l s0 A0 h0 hfl D cI cZ cJ cG) (cb_S ht kc_Net_demand kl_Net_70 kn_Net ki_Net_demand hd_Net_demand ⟨Nat.le_of_ble_eq_true rfl, Nat.le_of_ble_eq_true rfl⟩) (wd_ct (Bs := [[(h, .inr (8, [.ref aE, .ref aL, .ref aS, .ref aK, .ref aR, .ref aD, .ref aG]))], [(aK, .inr (4, [.ref aL, .ref aS, .ref aM, .int S.lost]))], wE, wL, wS, wM, wR, wD, wG]) 9 rfl [] [0, 1, 2, 3, 4, 5, 6, 7, 8] (by decide) rfl) hK hP hD hS hA rfl hl.1 rfl (Nat.le_of_ble_eq_true rfl) ⟨by decide, by decide⟩ ⟨by decide, by decide⟩ d_Net_notice_61 (fun u hu => by subst hu; exact ⟨aE, aL, aS, aK, aR, aD, aG, aM, aP, aC, wE, wL, wS, wM, wR, wD, wG, rfl, kE, kL, kS, kM, kR, kD, kG⟩)
      · refine lv_aload_n hx hb d_Net_notice_44 rfl (lv_at hl 0 rfl) ?_
        refine va_get (D := D) (ci := 8) (v := .ref aL) (C := R_Net) (T := T_Net) (N := 7) hx hb ht in_Net hown hK hP 0 rfl rfl 1 (by decide) (ht _ kl_Net_19) (fun _ h9 => h9) rfl d_Net_notice_45 ?_
        refine lv_iload_n hx hb d_Net_notice_48 rfl (lv_at hl 1 rfl) ?_
        refine lv_iload_n hx hb d_Net_notice_49 rfl (lv_at hl 2 rfl) ?_
        refine ct_rdV (C := R_Links) (ci := 2) (As := [.int (nI r), .int (nI o)]) (rest := []) ⟨hx, hb, hml, hown, ht⟩ (k_Links_isCut l D cI cZ cJ cG kL r o (fun a b => Nat.lt_of_le_of_lt (hi.2.2.1 a b) (by decide)) (fun a b => Nat.lt_of_le_of_lt (hi.2.1 a b) (by decide)) hr9 ho9) (cb_V ht kc_Links_isCut kl_Net_119 kn_Links ki_Links_isCut ks_Links_isCut hd_Links_isCut ⟨Nat.le_of_ble_eq_true rfl, Nat.le_of_ble_eq_true rfl⟩) (wd_mem 3 rfl mL) rfl rfl (wd_ct (Bs := [[(h, .inr (8, [.ref aE, .ref aL, .ref aS, .ref aK, .ref aR, .ref aD, .ref aG]))], [(aK, .inr (4, [.ref aL, .ref aS, .ref aM, .int S.lost]))], wE, wL, wS, wM, wR, wD, wG]) 9 rfl [3] [0, 1, 2, 4, 5, 6, 7, 8] (by decide) (wd_1 _)) hK hP hD hS hA rfl hl.1 rfl (Nat.le_of_ble_eq_true rfl) ⟨(show 0 + 0 ≤ 1 by omega), (show 0 + 0 ≤ 6 by omega)⟩ d_Net_notice_50 (fun rhr10 H locs hr10 hP hD hS => ?_)
        subst hr10
        refine ri_ifeqB hx hb d_Net_notice_53 (tgt := 60) (by decide) (fun h53 => ?_) (fun h53 => ?_)
        · refine lv_iconst (v := nI 0) hx hb d_Net_notice_60 (by decide) ?_
          refine W.eq (g2 := F0 m 61 ls [.int (bI false)]) (congrArg (fun z => F0 m 61 ls (.int z :: [])) (rfl)) ?_
          exact ct_throwS (As := [.int (bI false)]) (rest := []) hz hQ hlk ⟨hx, hb, hml, hown, ht⟩ (x_Net_demand l s0 A0 h0 hfl D cI cZ cJ cG) (cb_S ht kc_Net_demand kl_Net_70 kn_Net ki_Net_demand hd_Net_demand ⟨Nat.le_of_ble_eq_true rfl, Nat.le_of_ble_eq_true rfl⟩) (wd_ct (Bs := [[(h, .inr (8, [.ref aE, .ref aL, .ref aS, .ref aK, .ref aR, .ref aD, .ref aG]))], [(aK, .inr (4, [.ref aL, .ref aS, .ref aM, .int S.lost]))], wE, wL, wS, wM, wR, wD, wG]) 9 rfl [] [0, 1, 2, 3, 4, 5, 6, 7, 8] (by decide) rfl) hK hP hD hS hA rfl hl.1 rfl (Nat.le_of_ble_eq_true rfl) ⟨by decide, by decide⟩ ⟨by decide, by decide⟩ d_Net_notice_61 (fun u hu => by subst hu; exact ⟨aE, aL, aS, aK, aR, aD, aG, aM, aP, aC, wE, wL, wS, wM, wR, wD, wG, rfl, kE, kL, kS, kM, kR, kD, kG⟩)
        · exact absurd ⟨r, o, rfl, rfl, hr9, ho9, of_decide_eq_true h41, of_decide_eq_true h53⟩ hno
