/-! BitNet: count. -/
def bm_cnt (S : bm_S) (x : Int32) : Int32 := if x = nI 0 then nI S.T.2.2.1.2.1 else if x = nI 1 then nI S.D.2.1.2.1 else if x = nI 2 then nI S.G.2.2.2.1.2.1 else if x = nI 3 then nI S.D.1.2.1 else if x = nI 4 then S.D.2.2.1 else if x = nI 5 then S.D.2.2.2.1 else if x = nI 6 then S.D.2.2.2.2 else if x = nI 7 then S.lost else (-1)
theorem cnt_out {x : Int32} (h0 : x ≠ nI 0) (h1 : x ≠ nI 1) (h2 : x ≠ nI 2) (h3 : x ≠ nI 3) (h4 : x ≠ nI 4) (h5 : x ≠ nI 5) (h6 : x ≠ nI 6) (h7 : x ≠ nI 7) : x.toInt < 0 ∨ 7 < x.toInt := by
  by_cases c : x.toInt < 0 ∨ 7 < x.toInt
  · exact c
  · have hx : rg 0 ((8 : Nat) : Int) x = true := decide_eq_true (by omega)
    obtain ⟨n, hn, rfl⟩ := rg_n hx
    rcases nt_lt8 hn with rfl | rfl | rfl | rfl | rfl | rfl | rfl | rfl
    · exact absurd rfl h0
    · exact absurd rfl h1
    · exact absurd rfl h2
    · exact absurd rfl h3
    · exact absurd rfl h4
    · exact absurd rfl h5
    · exact absurd rfl h6
    · exact absurd rfl h7
set_option maxHeartbeats 800000 in
set_option maxRecDepth 100000 in
theorem k_Net_count (l : Launch) (D : va_G) (cI cZ cJ cG : ClassId) {h : Nat} {S : bm_S} {ws : va_W} (hR : nt_R cI cZ cG h S ws) (x : Int32) : ct_I l D kls (ty4 cI cZ cJ cG) y_Net_count ws_Net_count (rm_ 2 40 0 0) [.ref h, .int x] (ws) (fun z u => z = bm_cnt S x ∧ u = ws) 0 0 := by
  obtain ⟨aE, aL, aS, aK, aR, aD, aG, aM, aP, aC, wE, wL, wS, wM, wR, wD, wG, rfl, kE, kL, kS, kM, kR, kD, kG⟩ := hR
  obtain ⟨fsE, mE⟩ := kE.mem
  obtain ⟨fsL, mL⟩ := kL.mem
  obtain ⟨fsS, mS⟩ := kS.mem
  obtain ⟨fsR, mR⟩ := kR.mem
  obtain ⟨fsD, mD⟩ := kD.mem
  obtain ⟨fsG, mG⟩ := kG.mem
  have kK : co_R cI cG aK aL aS aM S.lk S.kn S.T S.lost (List.flatten [[(aK, .inr (4, [.ref aL, .ref aS, .ref aM, .int S.lost]))], wL, wS, wM]) := ⟨wL, wS, wM, rfl, kL, kS, kM⟩
  obtain ⟨fsK, mK⟩ := kK.mem
  refine ct_enterI (cc := b_Net_count) (maxL := 2) (ret := (some .int)) (by decide +kernel) (Nat.le_of_ble_eq_true rfl) ?_
  intro p e s m args below meth c hx hb hml hr ht hown hlk hnm A Q hA hK hP hD hQ ls hl
  have hown : s.vm.findClass R_Net = some m.cls := hown
  have hS : va_S A s.heap s.heap [] := va_S.rf
  have hl : lv_has ls 2 [(0, .ref h), (1, .int x)] := hl
  refine lv_iload_n hx hb d_Net_count_0 rfl (lv_at hl 1 rfl) ?_
  by_cases c0 : x = nI 0
  · subst c0
    have hl : lv_has ls 2 [(0, .ref h), (1, .int (nI 0))] := hl
    refine lv_tableIn hx hb d_Net_count_1 (by decide +kernel) (by decide +kernel) (off := 47) (by decide +kernel) (tgt := 48) (by decide) ?_
    refine lv_aload_n hx hb d_Net_count_48 rfl (lv_at hl 0 rfl) ?_
    refine va_get (D := D) (ci := 8) (v := .ref aK) (C := R_Net) (T := T_Net) (N := 7) hx hb ht in_Net hown hK hP 0 rfl rfl 3 (by decide) (ht _ kl_Net_35) (fun _ h9 => h9) rfl d_Net_count_49 ?_
    refine ct_rdV (C := R_Control) (ci := 4) (As := []) (rest := []) ⟨hx, hb, hml, hown, ht⟩ (k_Control_onTheWay l D cI cZ cJ cG kK) (cb_V ht kc_Control_onTheWay kl_Net_129 kn_Control ki_Control_onTheWay ks_Control_onTheWay hd_Control_onTheWay ⟨Nat.le_of_ble_eq_true rfl, Nat.le_of_ble_eq_true rfl⟩) (List.mem_of_getElem? (i := 1) rfl) rfl rfl (wd_ct (Bs := [[(h, .inr (8, [.ref aE, .ref aL, .ref aS, .ref aK, .ref aR, .ref aD, .ref aG]))], [(aK, .inr (4, [.ref aL, .ref aS, .ref aM, .int S.lost]))], wE, wL, wS, wM, wR, wD, wG]) 9 rfl [1, 3, 4, 5] [0, 2, 6, 7, 8] (by decide) rfl) hK hP hD hS hA rfl hl.1 rfl (Nat.le_of_ble_eq_true rfl) ⟨(show 0 + 0 ≤ 0 by omega), (show 0 + 0 ≤ 0 by omega)⟩ d_Net_count_52 (fun rhr1 H locs hr1 hP hD hS => ?_)
    subst hr1
    exact ct_iret hQ hx hb hr hlk hP hD hS hK (by omega) (by omega) d_Net_count_55 (⟨by unfold bm_cnt; rw [if_pos rfl], rfl⟩)
  by_cases c1 : x = nI 1
  · subst c1
    have hl : lv_has ls 2 [(0, .ref h), (1, .int (nI 1))] := hl
    refine lv_tableIn hx hb d_Net_count_1 (by decide +kernel) (by decide +kernel) (off := 55) (by decide +kernel) (tgt := 56) (by decide) ?_
    refine lv_aload_n hx hb d_Net_count_56 rfl (lv_at hl 0 rfl) ?_
    refine va_get (D := D) (ci := 8) (v := .ref aD) (C := R_Net) (T := T_Net) (N := 7) hx hb ht in_Net hown hK hP 0 rfl rfl 5 (by decide) (ht _ kl_Net_53) (fun _ h9 => h9) rfl d_Net_count_57 ?_
    refine ct_rdV (C := R_Data) (ci := 6) (As := []) (rest := []) ⟨hx, hb, hml, hown, ht⟩ (k_Data_onTheWay l D cI cZ cJ cG kD) (cb_V ht kc_Data_onTheWay kl_Net_199 kn_Data ki_Data_onTheWay ks_Data_onTheWay hd_Data_onTheWay ⟨Nat.le_of_ble_eq_true rfl, Nat.le_of_ble_eq_true rfl⟩) (wd_mem 7 rfl mD) rfl rfl (wd_ct (Bs := [[(h, .inr (8, [.ref aE, .ref aL, .ref aS, .ref aK, .ref aR, .ref aD, .ref aG]))], [(aK, .inr (4, [.ref aL, .ref aS, .ref aM, .int S.lost]))], wE, wL, wS, wM, wR, wD, wG]) 9 rfl [7] [0, 1, 2, 3, 4, 5, 6, 8] (by decide) (wd_1 _)) hK hP hD hS hA rfl hl.1 rfl (Nat.le_of_ble_eq_true rfl) ⟨(show 0 + 0 ≤ 0 by omega), (show 0 + 0 ≤ 0 by omega)⟩ d_Net_count_60 (fun rhr2 H locs hr2 hP hD hS => ?_)
    subst hr2
    exact ct_iret hQ hx hb hr hlk hP hD hS hK (by omega) (by omega) d_Net_count_63 (⟨by unfold bm_cnt; rw [if_neg (by decide), if_pos rfl], rfl⟩)
  by_cases c2 : x = nI 2
  · subst c2
    have hl : lv_has ls 2 [(0, .ref h), (1, .int (nI 2))] := hl
    refine lv_tableIn hx hb d_Net_count_1 (by decide +kernel) (by decide +kernel) (off := 63) (by decide +kernel) (tgt := 64) (by decide) ?_
    refine lv_aload_n hx hb d_Net_count_64 rfl (lv_at hl 0 rfl) ?_
    refine va_get (D := D) (ci := 8) (v := .ref aG) (C := R_Net) (T := T_Net) (N := 7) hx hb ht in_Net hown hK hP 0 rfl rfl 6 (by decide) (ht _ kl_Net_62) (fun _ h9 => h9) rfl d_Net_count_65 ?_
    refine ct_rdV (C := R_Groups) (ci := 7) (As := []) (rest := []) ⟨hx, hb, hml, hown, ht⟩ (k_Groups_onTheWay l D cI cZ cJ cG kG) (cb_V ht kc_Groups_onTheWay kl_Net_179 kn_Groups ki_Groups_onTheWay ks_Groups_onTheWay hd_Groups_onTheWay ⟨Nat.le_of_ble_eq_true rfl, Nat.le_of_ble_eq_true rfl⟩) (wd_mem 8 rfl mG) rfl rfl (wd_ct (Bs := [[(h, .inr (8, [.ref aE, .ref aL, .ref aS, .ref aK, .ref aR, .ref aD, .ref aG]))], [(aK, .inr (4, [.ref aL, .ref aS, .ref aM, .int S.lost]))], wE, wL, wS, wM, wR, wD, wG]) 9 rfl [8] [0, 1, 2, 3, 4, 5, 6, 7] (by decide) (wd_1 _)) hK hP hD hS hA rfl hl.1 rfl (Nat.le_of_ble_eq_true rfl) ⟨(show 0 + 0 ≤ 0 by omega), (show 0 + 0 ≤ 0 by omega)⟩ d_Net_count_68 (fun rhr3 H locs hr3 hP hD hS => ?_)
    subst hr3
    exact ct_iret hQ hx hb hr hlk hP hD hS hK (by omega) (by omega) d_Net_count_71 (⟨by unfold bm_cnt; rw [if_neg (by decide), if_neg (by decide), if_pos rfl], rfl⟩)
  by_cases c3 : x = nI 3
  · subst c3
    have hl : lv_has ls 2 [(0, .ref h), (1, .int (nI 3))] := hl
    refine lv_tableIn hx hb d_Net_count_1 (by decide +kernel) (by decide +kernel) (off := 71) (by decide +kernel) (tgt := 72) (by decide) ?_
    refine lv_aload_n hx hb d_Net_count_72 rfl (lv_at hl 0 rfl) ?_
    refine va_get (D := D) (ci := 8) (v := .ref aD) (C := R_Net) (T := T_Net) (N := 7) hx hb ht in_Net hown hK hP 0 rfl rfl 5 (by decide) (ht _ kl_Net_53) (fun _ h9 => h9) rfl d_Net_count_73 ?_
    refine ct_rdV (C := R_Data) (ci := 6) (As := []) (rest := []) ⟨hx, hb, hml, hown, ht⟩ (k_Data_packetsSoFar l D cI cZ cJ cG kD) (cb_V ht kc_Data_packetsSoFar kl_Net_211 kn_Data ki_Data_packetsSoFar ks_Data_packetsSoFar hd_Data_packetsSoFar ⟨Nat.le_of_ble_eq_true rfl, Nat.le_of_ble_eq_true rfl⟩) (wd_mem 7 rfl mD) rfl rfl (wd_ct (Bs := [[(h, .inr (8, [.ref aE, .ref aL, .ref aS, .ref aK, .ref aR, .ref aD, .ref aG]))], [(aK, .inr (4, [.ref aL, .ref aS, .ref aM, .int S.lost]))], wE, wL, wS, wM, wR, wD, wG]) 9 rfl [7] [0, 1, 2, 3, 4, 5, 6, 8] (by decide) (wd_1 _)) hK hP hD hS hA rfl hl.1 rfl (Nat.le_of_ble_eq_true rfl) ⟨(show 0 + 0 ≤ 0 by omega), (show 0 + 0 ≤ 0 by omega)⟩ d_Net_count_76 (fun rhr4 H locs hr4 hP hD hS => ?_)
    subst hr4
    exact ct_iret hQ hx hb hr hlk hP hD hS hK (by omega) (by omega) d_Net_count_79 (⟨by unfold bm_cnt; rw [if_neg (by decide), if_neg (by decide), if_neg (by decide), if_pos rfl], rfl⟩)
  by_cases c4 : x = nI 4
  · subst c4
    have hl : lv_has ls 2 [(0, .ref h), (1, .int (nI 4))] := hl
    refine lv_tableIn hx hb d_Net_count_1 (by decide +kernel) (by decide +kernel) (off := 79) (by decide +kernel) (tgt := 80) (by decide) ?_
    refine lv_aload_n hx hb d_Net_count_80 rfl (lv_at hl 0 rfl) ?_
    refine va_get (D := D) (ci := 8) (v := .ref aD) (C := R_Net) (T := T_Net) (N := 7) hx hb ht in_Net hown hK hP 0 rfl rfl 5 (by decide) (ht _ kl_Net_53) (fun _ h9 => h9) rfl d_Net_count_81 ?_
    refine ct_rdV (C := R_Data) (ci := 6) (As := []) (rest := []) ⟨hx, hb, hml, hown, ht⟩ (k_Data_copiesDelivered l D cI cZ cJ cG kD) (cb_V ht kc_Data_copiesDelivered kl_Net_214 kn_Data ki_Data_copiesDelivered ks_Data_copiesDelivered hd_Data_copiesDelivered ⟨Nat.le_of_ble_eq_true rfl, Nat.le_of_ble_eq_true rfl⟩) (wd_mem 7 rfl mD) rfl rfl (wd_ct (Bs := [[(h, .inr (8, [.ref aE, .ref aL, .ref aS, .ref aK, .ref aR, .ref aD, .ref aG]))], [(aK, .inr (4, [.ref aL, .ref aS, .ref aM, .int S.lost]))], wE, wL, wS, wM, wR, wD, wG]) 9 rfl [7] [0, 1, 2, 3, 4, 5, 6, 8] (by decide) (wd_1 _)) hK hP hD hS hA rfl hl.1 rfl (Nat.le_of_ble_eq_true rfl) ⟨(show 0 + 0 ≤ 0 by omega), (show 0 + 0 ≤ 0 by omega)⟩ d_Net_count_84 (fun rhr5 H locs hr5 hP hD hS => ?_)
    subst hr5
    exact ct_iret hQ hx hb hr hlk hP hD hS hK (by omega) (by omega) d_Net_count_87 (⟨by unfold bm_cnt; rw [if_neg (by decide), if_neg (by decide), if_neg (by decide), if_neg (by decide), if_pos rfl], rfl⟩)
  by_cases c5 : x = nI 5
  · subst c5
    have hl : lv_has ls 2 [(0, .ref h), (1, .int (nI 5))] := hl
    refine lv_tableIn hx hb d_Net_count_1 (by decide +kernel) (by decide +kernel) (off := 87) (by decide +kernel) (tgt := 88) (by decide) ?_
    refine lv_aload_n hx hb d_Net_count_88 rfl (lv_at hl 0 rfl) ?_
    refine va_get (D := D) (ci := 8) (v := .ref aD) (C := R_Net) (T := T_Net) (N := 7) hx hb ht in_Net hown hK hP 0 rfl rfl 5 (by decide) (ht _ kl_Net_53) (fun _ h9 => h9) rfl d_Net_count_89 ?_
    refine ct_rdV (C := R_Data) (ci := 6) (As := []) (rest := []) ⟨hx, hb, hml, hown, ht⟩ (k_Data_copiesExpired l D cI cZ cJ cG kD) (cb_V ht kc_Data_copiesExpired kl_Net_217 kn_Data ki_Data_copiesExpired ks_Data_copiesExpired hd_Data_copiesExpired ⟨Nat.le_of_ble_eq_true rfl, Nat.le_of_ble_eq_true rfl⟩) (wd_mem 7 rfl mD) rfl rfl (wd_ct (Bs := [[(h, .inr (8, [.ref aE, .ref aL, .ref aS, .ref aK, .ref aR, .ref aD, .ref aG]))], [(aK, .inr (4, [.ref aL, .ref aS, .ref aM, .int S.lost]))], wE, wL, wS, wM, wR, wD, wG]) 9 rfl [7] [0, 1, 2, 3, 4, 5, 6, 8] (by decide) (wd_1 _)) hK hP hD hS hA rfl hl.1 rfl (Nat.le_of_ble_eq_true rfl) ⟨(show 0 + 0 ≤ 0 by omega), (show 0 + 0 ≤ 0 by omega)⟩ d_Net_count_92 (fun rhr6 H locs hr6 hP hD hS => ?_)
    subst hr6
    exact ct_iret hQ hx hb hr hlk hP hD hS hK (by omega) (by omega) d_Net_count_95 (⟨by unfold bm_cnt; rw [if_neg (by decide), if_neg (by decide), if_neg (by decide), if_neg (by decide), if_neg (by decide), if_pos rfl], rfl⟩)
  by_cases c6 : x = nI 6
  · subst c6
    have hl : lv_has ls 2 [(0, .ref h), (1, .int (nI 6))] := hl
    refine lv_tableIn hx hb d_Net_count_1 (by decide +kernel) (by decide +kernel) (off := 95) (by decide +kernel) (tgt := 96) (by decide) ?_
    refine lv_aload_n hx hb d_Net_count_96 rfl (lv_at hl 0 rfl) ?_
    refine va_get (D := D) (ci := 8) (v := .ref aD) (C := R_Net) (T := T_Net) (N := 7) hx hb ht in_Net hown hK hP 0 rfl rfl 5 (by decide) (ht _ kl_Net_53) (fun _ h9 => h9) rfl d_Net_count_97 ?_
    refine ct_rdV (C := R_Data) (ci := 6) (As := []) (rest := []) ⟨hx, hb, hml, hown, ht⟩ (k_Data_bitsLost l D cI cZ cJ cG kD) (cb_V ht kc_Data_bitsLost kl_Net_220 kn_Data ki_Data_bitsLost ks_Data_bitsLost hd_Data_bitsLost ⟨Nat.le_of_ble_eq_true rfl, Nat.le_of_ble_eq_true rfl⟩) (wd_mem 7 rfl mD) rfl rfl (wd_ct (Bs := [[(h, .inr (8, [.ref aE, .ref aL, .ref aS, .ref aK, .ref aR, .ref aD, .ref aG]))], [(aK, .inr (4, [.ref aL, .ref aS, .ref aM, .int S.lost]))], wE, wL, wS, wM, wR, wD, wG]) 9 rfl [7] [0, 1, 2, 3, 4, 5, 6, 8] (by decide) (wd_1 _)) hK hP hD hS hA rfl hl.1 rfl (Nat.le_of_ble_eq_true rfl) ⟨(show 0 + 0 ≤ 0 by omega), (show 0 + 0 ≤ 0 by omega)⟩ d_Net_count_100 (fun rhr7 H locs hr7 hP hD hS => ?_)
    subst hr7
    exact ct_iret hQ hx hb hr hlk hP hD hS hK (by omega) (by omega) d_Net_count_103 (⟨by unfold bm_cnt; rw [if_neg (by decide), if_neg (by decide), if_neg (by decide), if_neg (by decide), if_neg (by decide), if_neg (by decide), if_pos rfl], rfl⟩)
  by_cases c7 : x = nI 7
  · subst c7
    have hl : lv_has ls 2 [(0, .ref h), (1, .int (nI 7))] := hl
    refine lv_tableIn hx hb d_Net_count_1 (by decide +kernel) (by decide +kernel) (off := 103) (by decide +kernel) (tgt := 104) (by decide) ?_
    refine lv_aload_n hx hb d_Net_count_104 rfl (lv_at hl 0 rfl) ?_
    refine va_get (D := D) (ci := 8) (v := .ref aK) (C := R_Net) (T := T_Net) (N := 7) hx hb ht in_Net hown hK hP 0 rfl rfl 3 (by decide) (ht _ kl_Net_35) (fun _ h9 => h9) rfl d_Net_count_105 ?_
    refine ct_rdV (C := R_Control) (ci := 4) (As := []) (rest := []) ⟨hx, hb, hml, hown, ht⟩ (k_Control_messagesLost l D cI cZ cJ cG kK) (cb_V ht kc_Control_messagesLost kl_Net_223 kn_Control ki_Control_messagesLost ks_Control_messagesLost hd_Control_messagesLost ⟨Nat.le_of_ble_eq_true rfl, Nat.le_of_ble_eq_true rfl⟩) (List.mem_of_getElem? (i := 1) rfl) rfl rfl (wd_ct (Bs := [[(h, .inr (8, [.ref aE, .ref aL, .ref aS, .ref aK, .ref aR, .ref aD, .ref aG]))], [(aK, .inr (4, [.ref aL, .ref aS, .ref aM, .int S.lost]))], wE, wL, wS, wM, wR, wD, wG]) 9 rfl [1, 3, 4, 5] [0, 2, 6, 7, 8] (by decide) rfl) hK hP hD hS hA rfl hl.1 rfl (Nat.le_of_ble_eq_true rfl) ⟨(show 0 + 0 ≤ 0 by omega), (show 0 + 0 ≤ 0 by omega)⟩ d_Net_count_108 (fun rhr8 H locs hr8 hP hD hS => ?_)
    subst hr8
    exact ct_iret hQ hx hb hr hlk hP hD hS hK (by omega) (by omega) d_Net_count_111 (⟨by unfold bm_cnt; rw [if_neg (by decide), if_neg (by decide), if_neg (by decide), if_neg (by decide), if_neg (by decide), if_neg (by decide), if_neg (by decide), if_pos rfl], rfl⟩)
  refine lv_tableOut hx hb d_Net_count_1 (cnt_out c0 c1 c2 c3 c4 c5 c6 c7) (tgt := 112) (by decide) ?_
  refine lv_iconst (v := (-1)) hx hb d_Net_count_112 (by decide) ?_
  exact ct_iret hQ hx hb hr hlk hP hD hS hK (by omega) (by omega) d_Net_count_113 (⟨by unfold bm_cnt; rw [if_neg c0, if_neg c1, if_neg c2, if_neg c3, if_neg c4, if_neg c5, if_neg c6, if_neg c7], rfl⟩)
