/-! BitNet: send. -/
theorem oI_eq {o : Option Nat} {r : Nat} (hr : r < 12) (ho : ∀ b, o = some b → b < 12) (h : bm_oI o = nI r) : o = some r := by
  cases o with
  | none => exact absurd h.symm (nI_m1 (show r < 2147483648 by omega))
  | some b =>
    have hb := ho b rfl
    have h1 : nI b = nI r := h
    rw [(nI_eq (show b < 2 ^ 31 by omega) (show r < 2 ^ 31 by omega)).mp h1]
set_option maxHeartbeats 800000 in
set_option maxRecDepth 100000 in
theorem k_Net_send (l : Launch) (D : va_G) (cI cZ cJ cG : ClassId) {h : Nat} {S : bm_S} {ws : va_W} (hR : nt_R cI cZ cG h S ws) (hi : bm_si S) (r g : Nat) (set : Int32) (hr9 : r < 12) (hg : g < 8) (hig : S.G.1 g = some r) (hset : S.G.2.1 g = set) (hrm : bm_room S r set) (hcP : S.D.1.1 ≤ 50000) (hc : (bm_start S.eb (bm_mkr S.T.1.2.2 S.T.2.1 S.eb r) r set S.D).2.1.1 ≤ 50000) : ct_I l D kls (ty4 cI cZ cJ cG) y_Net_send ws_Net_send (rm_ 7 167 (((bm_start S.eb (bm_mkr S.T.1.2.2 S.T.2.1 S.eb r) r set S.D).1.1 - S.D.1.1) + ((bm_start S.eb (bm_mkr S.T.1.2.2 S.T.2.1 S.eb r) r set S.D).2.1.1 - S.D.2.1.1)) (2 * 2 * ((bm_start S.eb (bm_mkr S.T.1.2.2 S.T.2.1 S.eb r) r set S.D).1.1 - S.D.1.1) + 2 * 5 * ((bm_start S.eb (bm_mkr S.T.1.2.2 S.T.2.1 S.eb r) r set S.D).2.1.1 - S.D.2.1.1))) [.ref h, .int (nI r), .int (nI g)] (ws) (fun z u => z = nI (S.D.1.2.1 + 1) ∧ nt_R cI cZ cG h (bm_send r set S) u) (((bm_start S.eb (bm_mkr S.T.1.2.2 S.T.2.1 S.eb r) r set S.D).1.1 - S.D.1.1) + ((bm_start S.eb (bm_mkr S.T.1.2.2 S.T.2.1 S.eb r) r set S.D).2.1.1 - S.D.2.1.1)) (2 * 2 * ((bm_start S.eb (bm_mkr S.T.1.2.2 S.T.2.1 S.eb r) r set S.D).1.1 - S.D.1.1) + 2 * 5 * ((bm_start S.eb (bm_mkr S.T.1.2.2 S.T.2.1 S.eb r) r set S.D).2.1.1 - S.D.2.1.1)) := by
  obtain ⟨aE, aL, aS, aK, aR, aD, aG, aM, aP, aC, wE, wL, wS, wM, wR, wD, wG, rfl, kE, kL, kS, kM, kR, kD, kG⟩ := hR
  obtain ⟨fsE, mE⟩ := kE.mem
  obtain ⟨fsL, mL⟩ := kL.mem
  obtain ⟨fsS, mS⟩ := kS.mem
  obtain ⟨fsR, mR⟩ := kR.mem
  obtain ⟨fsD, mD⟩ := kD.mem
  obtain ⟨fsG, mG⟩ := kG.mem
  refine ct_enterI (cc := b_Net_send) (maxL := 4) (ret := (some .int)) (by decide +kernel) (Nat.le_of_ble_eq_true rfl) ?_
  intro p e s m args below meth c hx hb hml hr ht hown hlk hnm A Q hA hK hP hD hQ ls hl
  have hown : s.vm.findClass R_Net = some m.cls := hown
  have hS : va_S A s.heap s.heap [] := va_S.rf
  have hl : lv_has ls 4 [(0, .ref h), (1, .int (nI r)), (2, .int (nI g))] := hl
  refine lv_iload_n hx hb d_Net_send_0 rfl (lv_at hl 1 rfl) ?_
  refine ct_rdS (As := [.int (nI r)]) (rest := []) ⟨hx, hb, hml, hown, ht⟩ (k_Net_isRouter l D cI cZ cJ cG (nI r)) (cb_S ht kc_Net_isRouter kl_Net_66 kn_Net ki_Net_isRouter hd_Net_isRouter ⟨Nat.le_of_ble_eq_true rfl, Nat.le_of_ble_eq_true rfl⟩) (wd_ct (Bs := [[(h, .inr (8, [.ref aE, .ref aL, .ref aS, .ref aK, .ref aR, .ref aD, .ref aG]))], [(aK, .inr (4, [.ref aL, .ref aS, .ref aM, .int S.lost]))], wE, wL, wS, wM, wR, wD, wG]) 9 rfl [] [0, 1, 2, 3, 4, 5, 6, 7, 8] (by decide) rfl) hK hP hD hS hA rfl hl.1 rfl (Nat.le_of_ble_eq_true rfl) ⟨(show 0 + 0 ≤ (((bm_start S.eb (bm_mkr S.T.1.2.2 S.T.2.1 S.eb r) r set S.D).1.1 - S.D.1.1) + ((bm_start S.eb (bm_mkr S.T.1.2.2 S.T.2.1 S.eb r) r set S.D).2.1.1 - S.D.2.1.1)) by omega), (show 0 + 0 ≤ (2 * 2 * ((bm_start S.eb (bm_mkr S.T.1.2.2 S.T.2.1 S.eb r) r set S.D).1.1 - S.D.1.1) + 2 * 5 * ((bm_start S.eb (bm_mkr S.T.1.2.2 S.T.2.1 S.eb r) r set S.D).2.1.1 - S.D.2.1.1)) by omega)⟩ d_Net_send_1 (fun rhr1 H locs hr1 hP hD hS => ?_)
  subst hr1
  refine W.eq (g2 := F0 m 4 ls [.int (bI true)]) (congrArg (fun z => F0 m 4 ls (.int z :: [])) (congrArg bI (rg_t12 hr9))) ?_
  refine ri_ifeqB hx hb d_Net_send_4 (tgt := 30) (by decide) (fun h2 => ?_) (fun h2 => ?_)
  · exact absurd h2 (fun z => by cases z)
  · refine lv_iload_n hx hb d_Net_send_7 rfl (lv_at hl 2 rfl) ?_
    refine ct_rdS (As := [.int (nI g)]) (rest := []) ⟨hx, hb, hml, hown, ht⟩ (k_Net_isGroup l D cI cZ cJ cG (nI g)) (cb_S ht kc_Net_isGroup kl_Net_159 kn_Net ki_Net_isGroup hd_Net_isGroup ⟨Nat.le_of_ble_eq_true rfl, Nat.le_of_ble_eq_true rfl⟩) (wd_ct (Bs := [[(h, .inr (8, [.ref aE, .ref aL, .ref aS, .ref aK, .ref aR, .ref aD, .ref aG]))], [(aK, .inr (4, [.ref aL, .ref aS, .ref aM, .int S.lost]))], wE, wL, wS, wM, wR, wD, wG]) 9 rfl [] [0, 1, 2, 3, 4, 5, 6, 7, 8] (by decide) rfl) hK hP hD hS hA rfl hl.1 rfl (Nat.le_of_ble_eq_true rfl) ⟨(show 0 + 0 ≤ (((bm_start S.eb (bm_mkr S.T.1.2.2 S.T.2.1 S.eb r) r set S.D).1.1 - S.D.1.1) + ((bm_start S.eb (bm_mkr S.T.1.2.2 S.T.2.1 S.eb r) r set S.D).2.1.1 - S.D.2.1.1)) by omega), (show 0 + 0 ≤ (2 * 2 * ((bm_start S.eb (bm_mkr S.T.1.2.2 S.T.2.1 S.eb r) r set S.D).1.1 - S.D.1.1) + 2 * 5 * ((bm_start S.eb (bm_mkr S.T.1.2.2 S.T.2.1 S.eb r) r set S.D).2.1.1 - S.D.2.1.1)) by omega)⟩ d_Net_send_8 (fun rhr3 H locs hr3 hP hD hS => ?_)
    subst hr3
    refine W.eq (g2 := F0 m 11 ls [.int (bI true)]) (congrArg (fun z => F0 m 11 ls (.int z :: [])) (congrArg bI (rg_t8 hg))) ?_
    refine ri_ifeqB hx hb d_Net_send_11 (tgt := 30) (by decide) (fun h4 => ?_) (fun h4 => ?_)
    · exact absurd h4 (fun z => by cases z)
    · refine lv_aload_n hx hb d_Net_send_14 rfl (lv_at hl 0 rfl) ?_
      refine va_get (D := D) (ci := 8) (v := .ref aG) (C := R_Net) (T := T_Net) (N := 7) hx hb ht in_Net hown hK hP 0 rfl rfl 6 (by decide) (ht _ kl_Net_62) (fun _ h9 => h9) rfl d_Net_send_15 ?_
      refine lv_iload_n hx hb d_Net_send_18 rfl (lv_at hl 2 rfl) ?_
      refine ct_rdV (C := R_Groups) (ci := 7) (As := [.int (nI g)]) (rest := []) ⟨hx, hb, hml, hown, ht⟩ (k_Groups_ingressOf l D cI cZ cJ cG kG g hg) (cb_V ht kc_Groups_ingressOf kl_Net_190 kn_Groups ki_Groups_ingressOf ks_Groups_ingressOf hd_Groups_ingressOf ⟨Nat.le_of_ble_eq_true rfl, Nat.le_of_ble_eq_true rfl⟩) (wd_mem 8 rfl mG) rfl rfl (wd_ct (Bs := [[(h, .inr (8, [.ref aE, .ref aL, .ref aS, .ref aK, .ref aR, .ref aD, .ref aG]))], [(aK, .inr (4, [.ref aL, .ref aS, .ref aM, .int S.lost]))], wE, wL, wS, wM, wR, wD, wG]) 9 rfl [8] [0, 1, 2, 3, 4, 5, 6, 7] (by decide) (wd_1 _)) hK hP hD hS hA rfl hl.1 rfl (Nat.le_of_ble_eq_true rfl) ⟨(show 0 + 0 ≤ (((bm_start S.eb (bm_mkr S.T.1.2.2 S.T.2.1 S.eb r) r set S.D).1.1 - S.D.1.1) + ((bm_start S.eb (bm_mkr S.T.1.2.2 S.T.2.1 S.eb r) r set S.D).2.1.1 - S.D.2.1.1)) by omega), (show 0 + 0 ≤ (2 * 2 * ((bm_start S.eb (bm_mkr S.T.1.2.2 S.T.2.1 S.eb r) r set S.D).1.1 - S.D.1.1) + 2 * 5 * ((bm_start S.eb (bm_mkr S.T.1.2.2 S.T.2.1 S.eb r) r set S.D).2.1.1 - S.D.2.1.1)) by omega)⟩ d_Net_send_19 (fun rhr5 H locs hr5 hP hD hS => ?_)
      subst hr5
      refine W.eq (g2 := F0 m 22 ls [.int (nI r)]) (congrArg (fun z => F0 m 22 ls (.int z :: [])) (congrArg bm_oI hig)) ?_
      refine lv_iload_n hx hb d_Net_send_22 rfl (lv_at hl 1 rfl) ?_
      refine ri_icmp_ne hx hb (by omega) (by omega) d_Net_send_23 (tgt := 30) (by decide) (fun h23 => ?_) (fun h23 => ?_)
      · exact absurd h23 (fun z => z rfl)
      · refine lv_iconst (v := nI 1) hx hb d_Net_send_26 (by decide) ?_
        refine lv_goto hx hb d_Net_send_27 (tgt := 31) (by decide) ?_
        refine W.eq (g2 := F0 m 31 ls [.int (bI true)]) (congrArg (fun z => F0 m 31 ls (.int z :: [])) (rfl)) ?_
        refine ct_callSV (As := [.int (bI true)]) (rest := []) ⟨hx, hb, hml, hown, ht⟩ (k_Net_demand l D cI cZ cJ cG) (cb_S ht kc_Net_demand kl_Net_70 kn_Net ki_Net_demand hd_Net_demand ⟨Nat.le_of_ble_eq_true rfl, Nat.le_of_ble_eq_true rfl⟩) (wd_ct (Bs := [[(h, .inr (8, [.ref aE, .ref aL, .ref aS, .ref aK, .ref aR, .ref aD, .ref aG]))], [(aK, .inr (4, [.ref aL, .ref aS, .ref aM, .int S.lost]))], wE, wL, wS, wM, wR, wD, wG]) 9 rfl [] [0, 1, 2, 3, 4, 5, 6, 7, 8] (by decide) rfl) hK hP hD hS hA rfl hl.1 rfl (Nat.le_of_ble_eq_true rfl) ⟨(Nat.zero_le _), (Nat.zero_le _)⟩ d_Net_send_31 (fun u7 H locs hu7 hP hD hS => ?_)
        subst hu7
        refine W.widen (k := 0) (n := 0) (Nat.le_refl _) (Nat.le_refl _) ?_
        have hP := wd_nP (N := []) rfl 9 rfl [0, 1, 2, 3, 4, 5, 6, 7, 8] (by decide) hP
        have hD := wd_nD (N := []) rfl 9 rfl [0, 1, 2, 3, 4, 5, 6, 7, 8] (by decide) hD
        have hP : va_P D kls (List.flatten [[(h, .inr (8, [.ref aE, .ref aL, .ref aS, .ref aK, .ref aR, .ref aD, .ref aG]))], [(aK, .inr (4, [.ref aL, .ref aS, .ref aM, .int S.lost]))], wE, wL, wS, wM, wR, wD, wG]) H := hP
        have hD : va_D A (List.flatten [[(h, .inr (8, [.ref aE, .ref aL, .ref aS, .ref aK, .ref aR, .ref aD, .ref aG]))], [(aK, .inr (4, [.ref aL, .ref aS, .ref aM, .int S.lost]))], wE, wL, wS, wM, wR, wD, wG]) := hD
        refine W.eq (g2 := F0 m 34 ls []) rfl ?_
        refine lv_aload_n hx hb d_Net_send_34 rfl (lv_at hl 0 rfl) ?_
        refine va_get (D := D) (ci := 8) (v := .ref aG) (C := R_Net) (T := T_Net) (N := 7) hx hb ht in_Net hown hK hP 0 rfl rfl 6 (by decide) (ht _ kl_Net_62) (fun _ h9 => h9) rfl d_Net_send_35 ?_
        refine lv_iload_n hx hb d_Net_send_38 rfl (lv_at hl 2 rfl) ?_
        refine ct_rdV (C := R_Groups) (ci := 7) (As := [.int (nI g)]) (rest := []) ⟨hx, hb, hml, hown, ht⟩ (k_Groups_heardOf l D cI cZ cJ cG kG g hg) (cb_V ht kc_Groups_heardOf kl_Net_187 kn_Groups ki_Groups_heardOf ks_Groups_heardOf hd_Groups_heardOf ⟨Nat.le_of_ble_eq_true rfl, Nat.le_of_ble_eq_true rfl⟩) (wd_mem 8 rfl mG) rfl rfl (wd_ct (Bs := [[(h, .inr (8, [.ref aE, .ref aL, .ref aS, .ref aK, .ref aR, .ref aD, .ref aG]))], [(aK, .inr (4, [.ref aL, .ref aS, .ref aM, .int S.lost]))], wE, wL, wS, wM, wR, wD, wG]) 9 rfl [8] [0, 1, 2, 3, 4, 5, 6, 7] (by decide) (wd_1 _)) hK hP hD hS hA rfl hl.1 rfl (Nat.le_of_ble_eq_true rfl) ⟨(show 0 + 0 ≤ (((bm_start S.eb (bm_mkr S.T.1.2.2 S.T.2.1 S.eb r) r set S.D).1.1 - S.D.1.1) + ((bm_start S.eb (bm_mkr S.T.1.2.2 S.T.2.1 S.eb r) r set S.D).2.1.1 - S.D.2.1.1)) by omega), (show 0 + 0 ≤ (2 * 2 * ((bm_start S.eb (bm_mkr S.T.1.2.2 S.T.2.1 S.eb r) r set S.D).1.1 - S.D.1.1) + 2 * 5 * ((bm_start S.eb (bm_mkr S.T.1.2.2 S.T.2.1 S.eb r) r set S.D).2.1.1 - S.D.2.1.1)) by omega)⟩ d_Net_send_39 (fun rhr8 H locs hr8 hP hD hS => ?_)
        subst hr8
        refine W.eq (g2 := F0 m 42 ls [.int set]) (congrArg (fun z => F0 m 42 ls (.int z :: [])) (hset)) ?_
        refine lv_istore_n hx hb d_Net_send_42 rfl hl (by decide) rfl (fun ls hl => ?_)
        have hl : lv_has ls 4 [(3, .int set), (0, .ref h), (1, .int (nI r)), (2, .int (nI g))] := hl
        refine lv_aload_n hx hb d_Net_send_43 rfl (lv_at hl 1 rfl) ?_
        refine va_get (D := D) (ci := 8) (v := .ref aD) (C := R_Net) (T := T_Net) (N := 7) hx hb ht in_Net hown hK hP 0 rfl rfl 5 (by decide) (ht _ kl_Net_53) (fun _ h9 => h9) rfl d_Net_send_44 ?_
        refine lv_iload_n hx hb d_Net_send_47 rfl (lv_at hl 2 rfl) ?_
        refine lv_iload_n hx hb d_Net_send_48 rfl (lv_at hl 0 rfl) ?_
        refine ct_callVI (C := R_Data) (ci := 6) (As := [.int (nI r), .int set]) (rest := []) ⟨hx, hb, hml, hown, ht⟩ (k_Data_hasRoomFor l D cI cZ cJ cG kD kR kS kE hi.2.2.2.2.1 r set hr9) (cb_V ht kc_Data_hasRoomFor kl_Net_193 kn_Data ki_Data_hasRoomFor ks_Data_hasRoomFor hd_Data_hasRoomFor ⟨Nat.le_of_ble_eq_true rfl, Nat.le_of_ble_eq_true rfl⟩) (wd_mem 7 rfl mD) rfl rfl (wd_ct (Bs := [[(h, .inr (8, [.ref aE, .ref aL, .ref aS, .ref aK, .ref aR, .ref aD, .ref aG]))], [(aK, .inr (4, [.ref aL, .ref aS, .ref aM, .int S.lost]))], wE, wL, wS, wM, wR, wD, wG]) 9 rfl [7, 6, 4, 2] [0, 1, 3, 5, 8] (by decide) rfl) hK hP hD hS hA rfl hl.1 rfl (Nat.le_of_ble_eq_true rfl) ⟨(Nat.zero_le _), (Nat.zero_le _)⟩ d_Net_send_49 (fun ru9 u9 H locs hu9 hP hD hS => ?_)
        obtain ⟨hz9, wR2, rfl, kR2⟩ := hu9
        obtain ⟨fsR2, mR2⟩ := kR2.mem
        rw [hz9]
        refine W.widen (k := 0) (n := 0) (Nat.le_refl _) (Nat.le_refl _) ?_
        have hP := wd_nP (N := [wD, wR2, wS, wE]) rfl 9 rfl [4, 5, 3, 6, 2, 7, 1, 0, 8] (by decide) hP
        have hD := wd_nD (N := [wD, wR2, wS, wE]) rfl 9 rfl [4, 5, 3, 6, 2, 7, 1, 0, 8] (by decide) hD
        have hP : va_P D kls (List.flatten [[(h, .inr (8, [.ref aE, .ref aL, .ref aS, .ref aK, .ref aR, .ref aD, .ref aG]))], [(aK, .inr (4, [.ref aL, .ref aS, .ref aM, .int S.lost]))], wE, wL, wS, wM, wR2, wD, wG]) H := hP
        have hD : va_D A (List.flatten [[(h, .inr (8, [.ref aE, .ref aL, .ref aS, .ref aK, .ref aR, .ref aD, .ref aG]))], [(aK, .inr (4, [.ref aL, .ref aS, .ref aM, .int S.lost]))], wE, wL, wS, wM, wR2, wD, wG]) := hD
        refine W.eq (g2 := F0 m 52 ls [.int (bI (decide (bm_room S r set)))]) (by first | rfl | exact congrArg (fun z => F0 m 52 ls (.int (bI z) :: [])) (decide_eq_decide.mpr Iff.rfl)) ?_
        refine W.eq (g2 := F0 m 52 ls [.int (bI true)]) (congrArg (fun z => F0 m 52 ls (.int z :: [])) (congrArg bI (decide_eq_true hrm))) ?_
        refine ct_callSV (As := [.int (bI true)]) (rest := []) ⟨hx, hb, hml, hown, ht⟩ (k_Net_demandRoom l D cI cZ cJ cG) (cb_S ht kc_Net_demandRoom kl_Net_88 kn_Net ki_Net_demandRoom hd_Net_demandRoom ⟨Nat.le_of_ble_eq_true rfl, Nat.le_of_ble_eq_true rfl⟩) (wd_ct (Bs := [[(h, .inr (8, [.ref aE, .ref aL, .ref aS, .ref aK, .ref aR, .ref aD, .ref aG]))], [(aK, .inr (4, [.ref aL, .ref aS, .ref aM, .int S.lost]))], wE, wL, wS, wM, wR2, wD, wG]) 9 rfl [] [0, 1, 2, 3, 4, 5, 6, 7, 8] (by decide) rfl) hK hP hD hS hA rfl hl.1 rfl (Nat.le_of_ble_eq_true rfl) ⟨(Nat.zero_le _), (Nat.zero_le _)⟩ d_Net_send_52 (fun u10 H locs hu10 hP hD hS => ?_)
        subst hu10
        refine W.widen (k := 0) (n := 0) (Nat.le_refl _) (Nat.le_refl _) ?_
        have hP := wd_nP (N := []) rfl 9 rfl [0, 1, 2, 3, 4, 5, 6, 7, 8] (by decide) hP
        have hD := wd_nD (N := []) rfl 9 rfl [0, 1, 2, 3, 4, 5, 6, 7, 8] (by decide) hD
        have hP : va_P D kls (List.flatten [[(h, .inr (8, [.ref aE, .ref aL, .ref aS, .ref aK, .ref aR, .ref aD, .ref aG]))], [(aK, .inr (4, [.ref aL, .ref aS, .ref aM, .int S.lost]))], wE, wL, wS, wM, wR2, wD, wG]) H := hP
        have hD : va_D A (List.flatten [[(h, .inr (8, [.ref aE, .ref aL, .ref aS, .ref aK, .ref aR, .ref aD, .ref aG]))], [(aK, .inr (4, [.ref aL, .ref aS, .ref aM, .int S.lost]))], wE, wL, wS, wM, wR2, wD, wG]) := hD
        refine W.eq (g2 := F0 m 55 ls []) rfl ?_
        refine lv_aload_n hx hb d_Net_send_55 rfl (lv_at hl 1 rfl) ?_
        refine va_get (D := D) (ci := 8) (v := .ref aD) (C := R_Net) (T := T_Net) (N := 7) hx hb ht in_Net hown hK hP 0 rfl rfl 5 (by decide) (ht _ kl_Net_53) (fun _ h9 => h9) rfl d_Net_send_56 ?_
        refine lv_iload_n hx hb d_Net_send_59 rfl (lv_at hl 2 rfl) ?_
        refine lv_iload_n hx hb d_Net_send_60 rfl (lv_at hl 0 rfl) ?_
        refine ct_callVI (C := R_Data) (ci := 6) (As := [.int (nI r), .int set]) (rest := []) ⟨hx, hb, hml, hown, ht⟩ (k_Data_start l D cI cZ cJ cG kD kR2 kS kE hi.2.2.2.2.1 r set hr9 hcP hc) (cb_V ht kc_Data_start kl_Net_196 kn_Data ki_Data_start ks_Data_start hd_Data_start ⟨Nat.le_of_ble_eq_true rfl, Nat.le_of_ble_eq_true rfl⟩) (wd_mem 7 rfl mD) rfl rfl (wd_ct (Bs := [[(h, .inr (8, [.ref aE, .ref aL, .ref aS, .ref aK, .ref aR, .ref aD, .ref aG]))], [(aK, .inr (4, [.ref aL, .ref aS, .ref aM, .int S.lost]))], wE, wL, wS, wM, wR2, wD, wG]) 9 rfl [7, 6, 4, 2] [0, 1, 3, 5, 8] (by decide) rfl) hK hP hD hS hA rfl hl.1 rfl (Nat.le_of_ble_eq_true rfl) ⟨(Nat.le_of_eq (Nat.zero_add _)), (Nat.le_of_eq (Nat.zero_add _))⟩ d_Net_send_61 (fun ru11 u11 H locs hu11 hP hD hS => ?_)
        obtain ⟨hz8, wD3, wR3, rfl, kD3, kR3⟩ := hu11
        rw [hz8]
        refine W.widen (k := ((bm_start S.eb (bm_mkr S.T.1.2.2 S.T.2.1 S.eb r) r set S.D).1.1 - S.D.1.1) + ((bm_start S.eb (bm_mkr S.T.1.2.2 S.T.2.1 S.eb r) r set S.D).2.1.1 - S.D.2.1.1)) (n := 2 * 2 * ((bm_start S.eb (bm_mkr S.T.1.2.2 S.T.2.1 S.eb r) r set S.D).1.1 - S.D.1.1) + 2 * 5 * ((bm_start S.eb (bm_mkr S.T.1.2.2 S.T.2.1 S.eb r) r set S.D).2.1.1 - S.D.2.1.1)) (Nat.le_of_eq (Nat.zero_add _)) (Nat.le_of_eq (Nat.zero_add _)) ?_
        have hP := wd_nP (N := [wD3, wR3, wS, wE]) rfl 9 rfl [4, 5, 3, 6, 2, 7, 1, 0, 8] (by decide) hP
        have hD := wd_nD (N := [wD3, wR3, wS, wE]) rfl 9 rfl [4, 5, 3, 6, 2, 7, 1, 0, 8] (by decide) hD
        have hP : va_P D kls (List.flatten [[(h, .inr (8, [.ref aE, .ref aL, .ref aS, .ref aK, .ref aR, .ref aD, .ref aG]))], [(aK, .inr (4, [.ref aL, .ref aS, .ref aM, .int S.lost]))], wE, wL, wS, wM, wR3, wD3, wG]) H := hP
        have hD : va_D A (List.flatten [[(h, .inr (8, [.ref aE, .ref aL, .ref aS, .ref aK, .ref aR, .ref aD, .ref aG]))], [(aK, .inr (4, [.ref aL, .ref aS, .ref aM, .int S.lost]))], wE, wL, wS, wM, wR3, wD3, wG]) := hD
        refine W.eq (g2 := F0 m 64 ls [.int (nI (S.D.1.2.1 + 1))]) rfl ?_
        exact ct_iret hQ hx hb hr hlk hP hD hS hK (by omega) (by omega) d_Net_send_64 (⟨rfl, aE, aL, aS, aK, aR, aD, aG, aM, aP, aC, wE, wL, wS, wM, wR3, wD3, wG, rfl, kE, kL, kS, kM, kR3, kD3, kG⟩)
set_option maxHeartbeats 800000 in
set_option maxRecDepth 100000 in
theorem x_Net_send_room (l : Launch) (s0 : State) (A0 : Array Value) (h0 : fz_0 A0 s0) (hfl : ∀ e : Env, l.admits e → e.platform.stackTraces = false) (D : va_G) (cI cZ cJ cG : ClassId) {h : Nat} {S : bm_S} {ws : va_W} (hR : nt_R cI cZ cG h S ws) (hi : bm_si S) (r g : Nat) (set : Int32) (hr9 : r < 12) (hg : g < 8) (hig : S.G.1 g = some r) (hset : S.G.2.1 g = set) (hno : ¬ bm_room S r set) : ct_X l s0 D kls (ty4 cI cZ cJ cG) y_Net_send ws_Net_send (rm_ 7 167 1 6) [.ref h, .int (nI r), .int (nI g)] (ws) "java/lang/IllegalStateException" (fun u => nt_R cI cZ cG h S u) 1 6 := by
  obtain ⟨aE, aL, aS, aK, aR, aD, aG, aM, aP, aC, wE, wL, wS, wM, wR, wD, wG, rfl, kE, kL, kS, kM, kR, kD, kG⟩ := hR
  obtain ⟨fsE, mE⟩ := kE.mem
  obtain ⟨fsL, mL⟩ := kL.mem
  obtain ⟨fsS, mS⟩ := kS.mem
  obtain ⟨fsR, mR⟩ := kR.mem
  obtain ⟨fsD, mD⟩ := kD.mem
  obtain ⟨fsG, mG⟩ := kG.mem
  refine ct_enterX (cc := b_Net_send) (maxL := 4) (ret := (some .int)) (by decide +kernel) (Nat.le_of_ble_eq_true rfl) ?_
  intro p e s m args below meth c hx hb hml hr ht hown hlk hnm A Q hA hK hP hD hQ ls hl hz
  have hown : s.vm.findClass R_Net = some m.cls := hown
  have hS : va_S A s.heap s.heap [] := va_S.rf
  have hl : lv_has ls 4 [(0, .ref h), (1, .int (nI r)), (2, .int (nI g))] := hl
  refine lv_iload_n hx hb d_Net_send_0 rfl (lv_at hl 1 rfl) ?_
  refine ct_rdS (As := [.int (nI r)]) (rest := []) ⟨hx, hb, hml, hown, ht⟩ (k_Net_isRouter l D cI cZ cJ cG (nI r)) (cb_S ht kc_Net_isRouter kl_Net_66 kn_Net ki_Net_isRouter hd_Net_isRouter ⟨Nat.le_of_ble_eq_true rfl, Nat.le_of_ble_eq_true rfl⟩) (wd_ct (Bs := [[(h, .inr (8, [.ref aE, .ref aL, .ref aS, .ref aK, .ref aR, .ref aD, .ref aG]))], [(aK, .inr (4, [.ref aL, .ref aS, .ref aM, .int S.lost]))], wE, wL, wS, wM, wR, wD, wG]) 9 rfl [] [0, 1, 2, 3, 4, 5, 6, 7, 8] (by decide) rfl) hK hP hD hS hA rfl hl.1 rfl (Nat.le_of_ble_eq_true rfl) ⟨(show 0 + 0 ≤ 1 by omega), (show 0 + 0 ≤ 6 by omega)⟩ d_Net_send_1 (fun rhr1 H locs hr1 hP hD hS => ?_)
  subst hr1
  refine W.eq (g2 := F0 m 4 ls [.int (bI true)]) (congrArg (fun z => F0 m 4 ls (.int z :: [])) (congrArg bI (rg_t12 hr9))) ?_
  refine ri_ifeqB hx hb d_Net_send_4 (tgt := 30) (by decide) (fun h2 => ?_) (fun h2 => ?_)
  · exact absurd h2 (fun z => by cases z)
  · refine lv_iload_n hx hb d_Net_send_7 rfl (lv_at hl 2 rfl) ?_
    refine ct_rdS (As := [.int (nI g)]) (rest := []) ⟨hx, hb, hml, hown, ht⟩ (k_Net_isGroup l D cI cZ cJ cG (nI g)) (cb_S ht kc_Net_isGroup kl_Net_159 kn_Net ki_Net_isGroup hd_Net_isGroup ⟨Nat.le_of_ble_eq_true rfl, Nat.le_of_ble_eq_true rfl⟩) (wd_ct (Bs := [[(h, .inr (8, [.ref aE, .ref aL, .ref aS, .ref aK, .ref aR, .ref aD, .ref aG]))], [(aK, .inr (4, [.ref aL, .ref aS, .ref aM, .int S.lost]))], wE, wL, wS, wM, wR, wD, wG]) 9 rfl [] [0, 1, 2, 3, 4, 5, 6, 7, 8] (by decide) rfl) hK hP hD hS hA rfl hl.1 rfl (Nat.le_of_ble_eq_true rfl) ⟨(show 0 + 0 ≤ 1 by omega), (show 0 + 0 ≤ 6 by omega)⟩ d_Net_send_8 (fun rhr3 H locs hr3 hP hD hS => ?_)
    subst hr3
    refine W.eq (g2 := F0 m 11 ls [.int (bI true)]) (congrArg (fun z => F0 m 11 ls (.int z :: [])) (congrArg bI (rg_t8 hg))) ?_
    refine ri_ifeqB hx hb d_Net_send_11 (tgt := 30) (by decide) (fun h4 => ?_) (fun h4 => ?_)
    · exact absurd h4 (fun z => by cases z)
    · refine lv_aload_n hx hb d_Net_send_14 rfl (lv_at hl 0 rfl) ?_
      refine va_get (D := D) (ci := 8) (v := .ref aG) (C := R_Net) (T := T_Net) (N := 7) hx hb ht in_Net hown hK hP 0 rfl rfl 6 (by decide) (ht _ kl_Net_62) (fun _ h9 => h9) rfl d_Net_send_15 ?_
      refine lv_iload_n hx hb d_Net_send_18 rfl (lv_at hl 2 rfl) ?_
      refine ct_rdV (C := R_Groups) (ci := 7) (As := [.int (nI g)]) (rest := []) ⟨hx, hb, hml, hown, ht⟩ (k_Groups_ingressOf l D cI cZ cJ cG kG g hg) (cb_V ht kc_Groups_ingressOf kl_Net_190 kn_Groups ki_Groups_ingressOf ks_Groups_ingressOf hd_Groups_ingressOf ⟨Nat.le_of_ble_eq_true rfl, Nat.le_of_ble_eq_true rfl⟩) (wd_mem 8 rfl mG) rfl rfl (wd_ct (Bs := [[(h, .inr (8, [.ref aE, .ref aL, .ref aS, .ref aK, .ref aR, .ref aD, .ref aG]))], [(aK, .inr (4, [.ref aL, .ref aS, .ref aM, .int S.lost]))], wE, wL, wS, wM, wR, wD, wG]) 9 rfl [8] [0, 1, 2, 3, 4, 5, 6, 7] (by decide) (wd_1 _)) hK hP hD hS hA rfl hl.1 rfl (Nat.le_of_ble_eq_true rfl) ⟨(show 0 + 0 ≤ 1 by omega), (show 0 + 0 ≤ 6 by omega)⟩ d_Net_send_19 (fun rhr5 H locs hr5 hP hD hS => ?_)
      subst hr5
      refine W.eq (g2 := F0 m 22 ls [.int (nI r)]) (congrArg (fun z => F0 m 22 ls (.int z :: [])) (congrArg bm_oI hig)) ?_
      refine lv_iload_n hx hb d_Net_send_22 rfl (lv_at hl 1 rfl) ?_
      refine ri_icmp_ne hx hb (by omega) (by omega) d_Net_send_23 (tgt := 30) (by decide) (fun h23 => ?_) (fun h23 => ?_)
      · exact absurd h23 (fun z => z rfl)
      · refine lv_iconst (v := nI 1) hx hb d_Net_send_26 (by decide) ?_
        refine lv_goto hx hb d_Net_send_27 (tgt := 31) (by decide) ?_
        refine W.eq (g2 := F0 m 31 ls [.int (bI true)]) (congrArg (fun z => F0 m 31 ls (.int z :: [])) (rfl)) ?_
        refine ct_callSV (As := [.int (bI true)]) (rest := []) ⟨hx, hb, hml, hown, ht⟩ (k_Net_demand l D cI cZ cJ cG) (cb_S ht kc_Net_demand kl_Net_70 kn_Net ki_Net_demand hd_Net_demand ⟨Nat.le_of_ble_eq_true rfl, Nat.le_of_ble_eq_true rfl⟩) (wd_ct (Bs := [[(h, .inr (8, [.ref aE, .ref aL, .ref aS, .ref aK, .ref aR, .ref aD, .ref aG]))], [(aK, .inr (4, [.ref aL, .ref aS, .ref aM, .int S.lost]))], wE, wL, wS, wM, wR, wD, wG]) 9 rfl [] [0, 1, 2, 3, 4, 5, 6, 7, 8] (by decide) rfl) hK hP hD hS hA rfl hl.1 rfl (Nat.le_of_ble_eq_true rfl) ⟨(by decide), (by decide)⟩ d_Net_send_31 (fun u7 H locs hu7 hP hD hS => ?_)
        subst hu7
        refine W.widen (k := 0) (n := 0) (Nat.le_refl _) (Nat.le_refl _) ?_
        have hP := wd_nP (N := []) rfl 9 rfl [0, 1, 2, 3, 4, 5, 6, 7, 8] (by decide) hP
        have hD := wd_nD (N := []) rfl 9 rfl [0, 1, 2, 3, 4, 5, 6, 7, 8] (by decide) hD
        have hP : va_P D kls (List.flatten [[(h, .inr (8, [.ref aE, .ref aL, .ref aS, .ref aK, .ref aR, .ref aD, .ref aG]))], [(aK, .inr (4, [.ref aL, .ref aS, .ref aM, .int S.lost]))], wE, wL, wS, wM, wR, wD, wG]) H := hP
        have hD : va_D A (List.flatten [[(h, .inr (8, [.ref aE, .ref aL, .ref aS, .ref aK, .ref aR, .ref aD, .ref aG]))], [(aK, .inr (4, [.ref aL, .ref aS, .ref aM, .int S.lost]))], wE, wL, wS, wM, wR, wD, wG]) := hD
        refine W.eq (g2 := F0 m 34 ls []) rfl ?_
        refine lv_aload_n hx hb d_Net_send_34 rfl (lv_at hl 0 rfl) ?_
        refine va_get (D := D) (ci := 8) (v := .ref aG) (C := R_Net) (T := T_Net) (N := 7) hx hb ht in_Net hown hK hP 0 rfl rfl 6 (by decide) (ht _ kl_Net_62) (fun _ h9 => h9) rfl d_Net_send_35 ?_
        refine lv_iload_n hx hb d_Net_send_38 rfl (lv_at hl 2 rfl) ?_
        refine ct_rdV (C := R_Groups) (ci := 7) (As := [.int (nI g)]) (rest := []) ⟨hx, hb, hml, hown, ht⟩ (k_Groups_heardOf l D cI cZ cJ cG kG g hg) (cb_V ht kc_Groups_heardOf kl_Net_187 kn_Groups ki_Groups_heardOf ks_Groups_heardOf hd_Groups_heardOf ⟨Nat.le_of_ble_eq_true rfl, Nat.le_of_ble_eq_true rfl⟩) (wd_mem 8 rfl mG) rfl rfl (wd_ct (Bs := [[(h, .inr (8, [.ref aE, .ref aL, .ref aS, .ref aK, .ref aR, .ref aD, .ref aG]))], [(aK, .inr (4, [.ref aL, .ref aS, .ref aM, .int S.lost]))], wE, wL, wS, wM, wR, wD, wG]) 9 rfl [8] [0, 1, 2, 3, 4, 5, 6, 7] (by decide) (wd_1 _)) hK hP hD hS hA rfl hl.1 rfl (Nat.le_of_ble_eq_true rfl) ⟨(show 0 + 0 ≤ 1 by omega), (show 0 + 0 ≤ 6 by omega)⟩ d_Net_send_39 (fun rhr8 H locs hr8 hP hD hS => ?_)
        subst hr8
        refine W.eq (g2 := F0 m 42 ls [.int set]) (congrArg (fun z => F0 m 42 ls (.int z :: [])) (hset)) ?_
        refine lv_istore_n hx hb d_Net_send_42 rfl hl (by decide) rfl (fun ls hl => ?_)
        have hl : lv_has ls 4 [(3, .int set), (0, .ref h), (1, .int (nI r)), (2, .int (nI g))] := hl
        refine lv_aload_n hx hb d_Net_send_43 rfl (lv_at hl 1 rfl) ?_
        refine va_get (D := D) (ci := 8) (v := .ref aD) (C := R_Net) (T := T_Net) (N := 7) hx hb ht in_Net hown hK hP 0 rfl rfl 5 (by decide) (ht _ kl_Net_53) (fun _ h9 => h9) rfl d_Net_send_44 ?_
        refine lv_iload_n hx hb d_Net_send_47 rfl (lv_at hl 2 rfl) ?_
        refine lv_iload_n hx hb d_Net_send_48 rfl (lv_at hl 0 rfl) ?_
        refine ct_callVI (C := R_Data) (ci := 6) (As := [.int (nI r), .int set]) (rest := []) ⟨hx, hb, hml, hown, ht⟩ (k_Data_hasRoomFor l D cI cZ cJ cG kD kR kS kE hi.2.2.2.2.1 r set hr9) (cb_V ht kc_Data_hasRoomFor kl_Net_193 kn_Data ki_Data_hasRoomFor ks_Data_hasRoomFor hd_Data_hasRoomFor ⟨Nat.le_of_ble_eq_true rfl, Nat.le_of_ble_eq_true rfl⟩) (wd_mem 7 rfl mD) rfl rfl (wd_ct (Bs := [[(h, .inr (8, [.ref aE, .ref aL, .ref aS, .ref aK, .ref aR, .ref aD, .ref aG]))], [(aK, .inr (4, [.ref aL, .ref aS, .ref aM, .int S.lost]))], wE, wL, wS, wM, wR, wD, wG]) 9 rfl [7, 6, 4, 2] [0, 1, 3, 5, 8] (by decide) rfl) hK hP hD hS hA rfl hl.1 rfl (Nat.le_of_ble_eq_true rfl) ⟨(Nat.zero_le _), (Nat.zero_le _)⟩ d_Net_send_49 (fun ru9 u9 H locs hu9 hP hD hS => ?_)
        obtain ⟨hz9, wR2, rfl, kR2⟩ := hu9
        obtain ⟨fsR2, mR2⟩ := kR2.mem
        rw [hz9]
        refine W.widen (k := 0) (n := 0) (Nat.le_refl _) (Nat.le_refl _) ?_
        have hP := wd_nP (N := [wD, wR2, wS, wE]) rfl 9 rfl [4, 5, 3, 6, 2, 7, 1, 0, 8] (by decide) hP
        have hD := wd_nD (N := [wD, wR2, wS, wE]) rfl 9 rfl [4, 5, 3, 6, 2, 7, 1, 0, 8] (by decide) hD
        have hP : va_P D kls (List.flatten [[(h, .inr (8, [.ref aE, .ref aL, .ref aS, .ref aK, .ref aR, .ref aD, .ref aG]))], [(aK, .inr (4, [.ref aL, .ref aS, .ref aM, .int S.lost]))], wE, wL, wS, wM, wR2, wD, wG]) H := hP
        have hD : va_D A (List.flatten [[(h, .inr (8, [.ref aE, .ref aL, .ref aS, .ref aK, .ref aR, .ref aD, .ref aG]))], [(aK, .inr (4, [.ref aL, .ref aS, .ref aM, .int S.lost]))], wE, wL, wS, wM, wR2, wD, wG]) := hD
        refine W.eq (g2 := F0 m 52 ls [.int (bI (decide (bm_room S r set)))]) (by first | rfl | exact congrArg (fun z => F0 m 52 ls (.int (bI z) :: [])) (decide_eq_decide.mpr Iff.rfl)) ?_
        refine W.eq (g2 := F0 m 52 ls [.int (bI false)]) (congrArg (fun z => F0 m 52 ls (.int z :: [])) (congrArg bI (decide_eq_false hno))) ?_
        exact ct_throwS (As := [.int (bI false)]) (rest := []) hz hQ hlk ⟨hx, hb, hml, hown, ht⟩ (x_Net_demandRoom l s0 A0 h0 hfl D cI cZ cJ cG) (cb_S ht kc_Net_demandRoom kl_Net_88 kn_Net ki_Net_demandRoom hd_Net_demandRoom ⟨Nat.le_of_ble_eq_true rfl, Nat.le_of_ble_eq_true rfl⟩) (wd_ct (Bs := [[(h, .inr (8, [.ref aE, .ref aL, .ref aS, .ref aK, .ref aR, .ref aD, .ref aG]))], [(aK, .inr (4, [.ref aL, .ref aS, .ref aM, .int S.lost]))], wE, wL, wS, wM, wR2, wD, wG]) 9 rfl [] [0, 1, 2, 3, 4, 5, 6, 7, 8] (by decide) rfl) hK hP hD hS hA rfl hl.1 rfl (Nat.le_of_ble_eq_true rfl) ⟨by decide, by decide⟩ ⟨by decide, by decide⟩ d_Net_send_52 (fun u hu => by subst hu; exact ⟨aE, aL, aS, aK, aR, aD, aG, aM, aP, aC, wE, wL, wS, wM, wR2, wD, wG, rfl, kE, kL, kS, kM, kR2, kD, kG⟩)
set_option maxHeartbeats 800000 in
set_option maxRecDepth 100000 in
theorem x_Net_send (l : Launch) (s0 : State) (A0 : Array Value) (h0 : fz_0 A0 s0) (hfl : ∀ e : Env, l.admits e → e.platform.stackTraces = false) (D : va_G) (cI cZ cJ cG : ClassId) {h : Nat} {S : bm_S} {ws : va_W} (hR : nt_R cI cZ cG h S ws) (hg9 : bm_gi S) (x y : Int32) (hno : ¬ ∃ r g, x = nI r ∧ y = nI g ∧ r < 12 ∧ g < 8 ∧ S.G.1 g = some r) : ct_X l s0 D kls (ty4 cI cZ cJ cG) y_Net_send ws_Net_send (rm_ 7 102 1 6) [.ref h, .int x, .int y] (ws) "java/lang/IllegalArgumentException" (fun u => nt_R cI cZ cG h S u) 1 6 := by
  obtain ⟨aE, aL, aS, aK, aR, aD, aG, aM, aP, aC, wE, wL, wS, wM, wR, wD, wG, rfl, kE, kL, kS, kM, kR, kD, kG⟩ := hR
  obtain ⟨fsE, mE⟩ := kE.mem
  obtain ⟨fsL, mL⟩ := kL.mem
  obtain ⟨fsS, mS⟩ := kS.mem
  obtain ⟨fsR, mR⟩ := kR.mem
  obtain ⟨fsD, mD⟩ := kD.mem
  obtain ⟨fsG, mG⟩ := kG.mem
  refine ct_enterX (cc := b_Net_send) (maxL := 4) (ret := (some .int)) (by decide +kernel) (Nat.le_of_ble_eq_true rfl) ?_
  intro p e s m args below meth c hx hb hml hr ht hown hlk hnm A Q hA hK hP hD hQ ls hl hz
  have hown : s.vm.findClass R_Net = some m.cls := hown
  have hS : va_S A s.heap s.heap [] := va_S.rf
  have hl : lv_has ls 4 [(0, .ref h), (1, .int x), (2, .int y)] := hl
  refine lv_iload_n hx hb d_Net_send_0 rfl (lv_at hl 1 rfl) ?_
  refine ct_rdS (As := [.int x]) (rest := []) ⟨hx, hb, hml, hown, ht⟩ (k_Net_isRouter l D cI cZ cJ cG x) (cb_S ht kc_Net_isRouter kl_Net_66 kn_Net ki_Net_isRouter hd_Net_isRouter ⟨Nat.le_of_ble_eq_true rfl, Nat.le_of_ble_eq_true rfl⟩) (wd_ct (Bs := [[(h, .inr (8, [.ref aE, .ref aL, .ref aS, .ref aK, .ref aR, .ref aD, .ref aG]))], [(aK, .inr (4, [.ref aL, .ref aS, .ref aM, .int S.lost]))], wE, wL, wS, wM, wR, wD, wG]) 9 rfl [] [0, 1, 2, 3, 4, 5, 6, 7, 8] (by decide) rfl) hK hP hD hS hA rfl hl.1 rfl (Nat.le_of_ble_eq_true rfl) ⟨(show 0 + 0 ≤ 1 by omega), (show 0 + 0 ≤ 6 by omega)⟩ d_Net_send_1 (fun rhr1 H locs hr1 hP hD hS => ?_)
  subst hr1
  refine ri_ifeqB hx hb d_Net_send_4 (tgt := 30) (by decide) (fun h4 => ?_) (fun h4 => ?_)
  · refine lv_iconst (v := nI 0) hx hb d_Net_send_30 (by decide) ?_
    refine W.eq (g2 := F0 m 31 ls [.int (bI false)]) (congrArg (fun z => F0 m 31 ls (.int z :: [])) (rfl)) ?_
    exact ct_throwS (As := [.int (bI false)]) (rest := []) hz hQ hlk ⟨hx, hb, hml, hown, ht⟩ (x_Net_demand l s0 A0 h0 hfl D cI cZ cJ cG) (cb_S ht kc_Net_demand kl_Net_70 kn_Net ki_Net_demand hd_Net_demand ⟨Nat.le_of_ble_eq_true rfl, Nat.le_of_ble_eq_true rfl⟩) (wd_ct (Bs := [[(h, .inr (8, [.ref aE, .ref aL, .ref aS, .ref aK, .ref aR, .ref aD, .ref aG]))], [(aK, .inr (4, [.ref aL, .ref aS, .ref aM, .int S.lost]))], wE, wL, wS, wM, wR, wD, wG]) 9 rfl [] [0, 1, 2, 3, 4, 5, 6, 7, 8] (by decide) rfl) hK hP hD hS hA rfl hl.1 rfl (Nat.le_of_ble_eq_true rfl) ⟨by decide, by decide⟩ ⟨by decide, by decide⟩ d_Net_send_31 (fun u hu => by subst hu; exact ⟨aE, aL, aS, aK, aR, aD, aG, aM, aP, aC, wE, wL, wS, wM, wR, wD, wG, rfl, kE, kL, kS, kM, kR, kD, kG⟩)
  · refine lv_iload_n hx hb d_Net_send_7 rfl (lv_at hl 2 rfl) ?_
    refine ct_rdS (As := [.int y]) (rest := []) ⟨hx, hb, hml, hown, ht⟩ (k_Net_isGroup l D cI cZ cJ cG y) (cb_S ht kc_Net_isGroup kl_Net_159 kn_Net ki_Net_isGroup hd_Net_isGroup ⟨Nat.le_of_ble_eq_true rfl, Nat.le_of_ble_eq_true rfl⟩) (wd_ct (Bs := [[(h, .inr (8, [.ref aE, .ref aL, .ref aS, .ref aK, .ref aR, .ref aD, .ref aG]))], [(aK, .inr (4, [.ref aL, .ref aS, .ref aM, .int S.lost]))], wE, wL, wS, wM, wR, wD, wG]) 9 rfl [] [0, 1, 2, 3, 4, 5, 6, 7, 8] (by decide) rfl) hK hP hD hS hA rfl hl.1 rfl (Nat.le_of_ble_eq_true rfl) ⟨(show 0 + 0 ≤ 1 by omega), (show 0 + 0 ≤ 6 by omega)⟩ d_Net_send_8 (fun rhr3 H locs hr3 hP hD hS => ?_)
    subst hr3
    refine ri_ifeqB hx hb d_Net_send_11 (tgt := 30) (by decide) (fun h11 => ?_) (fun h11 => ?_)
    · refine lv_iconst (v := nI 0) hx hb d_Net_send_30 (by decide) ?_
      refine W.eq (g2 := F0 m 31 ls [.int (bI false)]) (congrArg (fun z => F0 m 31 ls (.int z :: [])) (rfl)) ?_
      exact ct_throwS (As := [.int (bI false)]) (rest := []) hz hQ hlk ⟨hx, hb, hml, hown, ht⟩ (x_Net_demand l s0 A0 h0 hfl D cI cZ cJ cG) (cb_S ht kc_Net_demand kl_Net_70 kn_Net ki_Net_demand hd_Net_demand ⟨Nat.le_of_ble_eq_true rfl, Nat.le_of_ble_eq_true rfl⟩) (wd_ct (Bs := [[(h, .inr (8, [.ref aE, .ref aL, .ref aS, .ref aK, .ref aR, .ref aD, .ref aG]))], [(aK, .inr (4, [.ref aL, .ref aS, .ref aM, .int S.lost]))], wE, wL, wS, wM, wR, wD, wG]) 9 rfl [] [0, 1, 2, 3, 4, 5, 6, 7, 8] (by decide) rfl) hK hP hD hS hA rfl hl.1 rfl (Nat.le_of_ble_eq_true rfl) ⟨by decide, by decide⟩ ⟨by decide, by decide⟩ d_Net_send_31 (fun u hu => by subst hu; exact ⟨aE, aL, aS, aK, aR, aD, aG, aM, aP, aC, wE, wL, wS, wM, wR, wD, wG, rfl, kE, kL, kS, kM, kR, kD, kG⟩)
    · obtain ⟨r, hr9, rfl⟩ := rg_n (k := 12) h4
      obtain ⟨g, hg, rfl⟩ := rg_n (k := 8) h11
      have hl : lv_has ls 4 [(0, .ref h), (1, .int (nI r)), (2, .int (nI g))] := hl
      refine lv_aload_n hx hb d_Net_send_14 rfl (lv_at hl 0 rfl) ?_
      refine va_get (D := D) (ci := 8) (v := .ref aG) (C := R_Net) (T := T_Net) (N := 7) hx hb ht in_Net hown hK hP 0 rfl rfl 6 (by decide) (ht _ kl_Net_62) (fun _ h9 => h9) rfl d_Net_send_15 ?_
      refine lv_iload_n hx hb d_Net_send_18 rfl (lv_at hl 2 rfl) ?_
      refine ct_rdV (C := R_Groups) (ci := 7) (As := [.int (nI g)]) (rest := []) ⟨hx, hb, hml, hown, ht⟩ (k_Groups_ingressOf l D cI cZ cJ cG kG g hg) (cb_V ht kc_Groups_ingressOf kl_Net_190 kn_Groups ki_Groups_ingressOf ks_Groups_ingressOf hd_Groups_ingressOf ⟨Nat.le_of_ble_eq_true rfl, Nat.le_of_ble_eq_true rfl⟩) (wd_mem 8 rfl mG) rfl rfl (wd_ct (Bs := [[(h, .inr (8, [.ref aE, .ref aL, .ref aS, .ref aK, .ref aR, .ref aD, .ref aG]))], [(aK, .inr (4, [.ref aL, .ref aS, .ref aM, .int S.lost]))], wE, wL, wS, wM, wR, wD, wG]) 9 rfl [8] [0, 1, 2, 3, 4, 5, 6, 7] (by decide) (wd_1 _)) hK hP hD hS hA rfl hl.1 rfl (Nat.le_of_ble_eq_true rfl) ⟨(show 0 + 0 ≤ 1 by omega), (show 0 + 0 ≤ 6 by omega)⟩ d_Net_send_19 (fun rhr5 H locs hr5 hP hD hS => ?_)
      subst hr5
      refine lv_iload_n hx hb d_Net_send_22 rfl (lv_at hl 1 rfl) ?_
      refine lv_icmp_ne hx hb d_Net_send_23 (tgt := 30) (by decide) (fun h23 => ?_) (fun h23 => ?_)
      · refine lv_iconst (v := nI 0) hx hb d_Net_send_30 (by decide) ?_
        refine W.eq (g2 := F0 m 31 ls [.int (bI false)]) (congrArg (fun z => F0 m 31 ls (.int z :: [])) (rfl)) ?_
        exact ct_throwS (As := [.int (bI false)]) (rest := []) hz hQ hlk ⟨hx, hb, hml, hown, ht⟩ (x_Net_demand l s0 A0 h0 hfl D cI cZ cJ cG) (cb_S ht kc_Net_demand kl_Net_70 kn_Net ki_Net_demand hd_Net_demand ⟨Nat.le_of_ble_eq_true rfl, Nat.le_of_ble_eq_true rfl⟩) (wd_ct (Bs := [[(h, .inr (8, [.ref aE, .ref aL, .ref aS, .ref aK, .ref aR, .ref aD, .ref aG]))], [(aK, .inr (4, [.ref aL, .ref aS, .ref aM, .int S.lost]))], wE, wL, wS, wM, wR, wD, wG]) 9 rfl [] [0, 1, 2, 3, 4, 5, 6, 7, 8] (by decide) rfl) hK hP hD hS hA rfl hl.1 rfl (Nat.le_of_ble_eq_true rfl) ⟨by decide, by decide⟩ ⟨by decide, by decide⟩ d_Net_send_31 (fun u hu => by subst hu; exact ⟨aE, aL, aS, aK, aR, aD, aG, aM, aP, aC, wE, wL, wS, wM, wR, wD, wG, rfl, kE, kL, kS, kM, kR, kD, kG⟩)
      · exact absurd ⟨r, g, rfl, rfl, hr9, hg, oI_eq hr9 (hg9.2.2.1 g) (by first | exact h23 | exact Classical.not_not.mp h23)⟩ hno
