/-! BitNet: join. -/
noncomputable def bm_joi (e g nx : Nat) (S : bm_S) : bm_S := (S.eb, S.tk, S.es, S.lk, S.kn, S.T, S.lost, S.D, bm_rec S.eb e g nx S.G)
def bm_jroom (S : bm_S) (e g nx : Nat) : Prop := S.G.2.2.2.1.2.1 < 4000 ∨ ¬ bm_news S.G.1 S.G.2.2.1 e g nx
set_option maxHeartbeats 800000 in
set_option maxRecDepth 100000 in
theorem k_Net_join (l : Launch) (D : va_G) (cI cZ cJ cG : ClassId) {h : Nat} {S : bm_S} {ws : va_W} (hR : nt_R cI cZ cG h S ws) (hg9 : bm_gi S) (e9 g nx : Nat) (dl : Int32) (he : e9 < 12) (hg : g < 8) (hee : bm_em (S.eb e9) ≠ 0) (hdl : dl = 1 ∨ dl = -1) (hsum : nI (S.G.2.2.1 e9 g) + dl = nI nx) (hnx : nx ≤ 100) (hrm : bm_jroom S e9 g nx) : ct_I l D kls (ty4 cI cZ cJ cG) y_Net_join ws_Net_join (rm_ 5 120 ((bm_rec S.eb e9 g nx S.G).2.2.2.1.1 - S.G.2.2.2.1.1) (2 * 3 * ((bm_rec S.eb e9 g nx S.G).2.2.2.1.1 - S.G.2.2.2.1.1))) [.ref h, .int (nI e9), .int (nI g), .int dl] (ws) (fun z u => z = nI nx ∧ nt_R cI cZ cG h (bm_joi e9 g nx S) u) ((bm_rec S.eb e9 g nx S.G).2.2.2.1.1 - S.G.2.2.2.1.1) (2 * 3 * ((bm_rec S.eb e9 g nx S.G).2.2.2.1.1 - S.G.2.2.2.1.1)) := by
  have hR9 := hR
  obtain ⟨aE, aL, aS, aK, aR, aD, aG, aM, aP, aC, wE, wL, wS, wM, wR, wD, wG, rfl, kE, kL, kS, kM, kR, kD, kG⟩ := hR
  obtain ⟨fsE, mE⟩ := kE.mem
  obtain ⟨fsL, mL⟩ := kL.mem
  obtain ⟨fsS, mS⟩ := kS.mem
  obtain ⟨fsR, mR⟩ := kR.mem
  obtain ⟨fsD, mD⟩ := kD.mem
  obtain ⟨fsG, mG⟩ := kG.mem
  refine ct_enterI (cc := b_Net_join) (maxL := 5) (ret := (some .int)) (by decide +kernel) (Nat.le_of_ble_eq_true rfl) ?_
  intro p e s m args below meth c hx hb hml hr ht hown hlk hnm A Q hA hK hP hD hQ ls hl
  have hown : s.vm.findClass R_Net = some m.cls := hown
  have hS : va_S A s.heap s.heap [] := va_S.rf
  have hl : lv_has ls 5 [(0, .ref h), (1, .int (nI e9)), (2, .int (nI g)), (3, .int dl)] := hl
  refine lv_aload_n hx hb d_Net_join_0 rfl (lv_at hl 0 rfl) ?_
  refine lv_iload_n hx hb d_Net_join_1 rfl (lv_at hl 1 rfl) ?_
  refine ct_rdV (C := R_Net) (ci := 8) (As := [.int (nI e9)]) (rest := []) ⟨hx, hb, hml, hown, ht⟩ (k_Net_isEdge l D cI cZ cJ cG hR9 (nI e9)) (cb_V ht kc_Net_isEdge kl_Net_162 kn_Net ki_Net_isEdge ks_Net_isEdge hd_Net_isEdge ⟨Nat.le_of_ble_eq_true rfl, Nat.le_of_ble_eq_true rfl⟩) (List.mem_of_getElem? (i := 0) rfl) rfl rfl (wd_ct (Bs := [[(h, .inr (8, [.ref aE, .ref aL, .ref aS, .ref aK, .ref aR, .ref aD, .ref aG]))], [(aK, .inr (4, [.ref aL, .ref aS, .ref aM, .int S.lost]))], wE, wL, wS, wM, wR, wD, wG]) 9 rfl [0, 1, 2, 3, 4, 5, 6, 7, 8] [] (by decide) rfl) hK hP hD hS hA rfl hl.1 rfl (Nat.le_of_ble_eq_true rfl) ⟨(show 0 + 0 ≤ ((bm_rec S.eb e9 g nx S.G).2.2.2.1.1 - S.G.2.2.2.1.1) by omega), (show 0 + 0 ≤ (2 * 3 * ((bm_rec S.eb e9 g nx S.G).2.2.2.1.1 - S.G.2.2.2.1.1)) by omega)⟩ d_Net_join_2 (fun rhr1 H locs hr1 hP hD hS => ?_)
  subst hr1
  refine W.eq (g2 := F0 m 5 ls [.int (bI true)]) (congrArg (fun z => F0 m 5 ls (.int z :: [])) (congrArg bI ((isE_n he).trans (decide_eq_true hee)))) ?_
  refine ri_ifeqB hx hb d_Net_join_5 (tgt := 29) (by decide) (fun h2 => ?_) (fun h2 => ?_)
  · exact absurd h2 (fun z => by cases z)
  · refine lv_iload_n hx hb d_Net_join_8 rfl (lv_at hl 2 rfl) ?_
    refine ct_rdS (As := [.int (nI g)]) (rest := []) ⟨hx, hb, hml, hown, ht⟩ (k_Net_isGroup l D cI cZ cJ cG (nI g)) (cb_S ht kc_Net_isGroup kl_Net_159 kn_Net ki_Net_isGroup hd_Net_isGroup ⟨Nat.le_of_ble_eq_true rfl, Nat.le_of_ble_eq_true rfl⟩) (wd_ct (Bs := [[(h, .inr (8, [.ref aE, .ref aL, .ref aS, .ref aK, .ref aR, .ref aD, .ref aG]))], [(aK, .inr (4, [.ref aL, .ref aS, .ref aM, .int S.lost]))], wE, wL, wS, wM, wR, wD, wG]) 9 rfl [] [0, 1, 2, 3, 4, 5, 6, 7, 8] (by decide) rfl) hK hP hD hS hA rfl hl.1 rfl (Nat.le_of_ble_eq_true rfl) ⟨(show 0 + 0 ≤ ((bm_rec S.eb e9 g nx S.G).2.2.2.1.1 - S.G.2.2.2.1.1) by omega), (show 0 + 0 ≤ (2 * 3 * ((bm_rec S.eb e9 g nx S.G).2.2.2.1.1 - S.G.2.2.2.1.1)) by omega)⟩ d_Net_join_9 (fun rhr3 H locs hr3 hP hD hS => ?_)
    subst hr3
    refine W.eq (g2 := F0 m 12 ls [.int (bI true)]) (congrArg (fun z => F0 m 12 ls (.int z :: [])) (congrArg bI (rg_t8 hg))) ?_
    refine ri_ifeqB hx hb d_Net_join_12 (tgt := 29) (by decide) (fun h4 => ?_) (fun h4 => ?_)
    · exact absurd h4 (fun z => by cases z)
    · refine lv_iload_n hx hb d_Net_join_15 rfl (lv_at hl 3 rfl) ?_
      refine lv_iconst (v := nI 1) hx hb d_Net_join_16 (by decide) ?_
      refine lv_icmp_eq hx hb d_Net_join_17 (tgt := 25) (by decide) (fun h17 => ?_) (fun h17 => ?_)
      · refine lv_iconst (v := nI 1) hx hb d_Net_join_25 (by decide) ?_
        refine lv_goto hx hb d_Net_join_26 (tgt := 30) (by decide) ?_
        refine W.eq (g2 := F0 m 30 ls [.int (bI true)]) (congrArg (fun z => F0 m 30 ls (.int z :: [])) (rfl)) ?_
        refine ct_callSV (As := [.int (bI true)]) (rest := []) ⟨hx, hb, hml, hown, ht⟩ (k_Net_demand l D cI cZ cJ cG) (cb_S ht kc_Net_demand kl_Net_70 kn_Net ki_Net_demand hd_Net_demand ⟨Nat.le_of_ble_eq_true rfl, Nat.le_of_ble_eq_true rfl⟩) (wd_ct (Bs := [[(h, .inr (8, [.ref aE, .ref aL, .ref aS, .ref aK, .ref aR, .ref aD, .ref aG]))], [(aK, .inr (4, [.ref aL, .ref aS, .ref aM, .int S.lost]))], wE, wL, wS, wM, wR, wD, wG]) 9 rfl [] [0, 1, 2, 3, 4, 5, 6, 7, 8] (by decide) rfl) hK hP hD hS hA rfl hl.1 rfl (Nat.le_of_ble_eq_true rfl) ⟨(Nat.zero_le _), (Nat.zero_le _)⟩ d_Net_join_30 (fun u6 H locs hu6 hP hD hS => ?_)
        subst hu6
        refine W.widen (k := 0) (n := 0) (Nat.le_refl _) (Nat.le_refl _) ?_
        have hP := wd_nP (N := []) rfl 9 rfl [0, 1, 2, 3, 4, 5, 6, 7, 8] (by decide) hP
        have hD := wd_nD (N := []) rfl 9 rfl [0, 1, 2, 3, 4, 5, 6, 7, 8] (by decide) hD
        have hP : va_P D kls (List.flatten [[(h, .inr (8, [.ref aE, .ref aL, .ref aS, .ref aK, .ref aR, .ref aD, .ref aG]))], [(aK, .inr (4, [.ref aL, .ref aS, .ref aM, .int S.lost]))], wE, wL, wS, wM, wR, wD, wG]) H := hP
        have hD : va_D A (List.flatten [[(h, .inr (8, [.ref aE, .ref aL, .ref aS, .ref aK, .ref aR, .ref aD, .ref aG]))], [(aK, .inr (4, [.ref aL, .ref aS, .ref aM, .int S.lost]))], wE, wL, wS, wM, wR, wD, wG]) := hD
        refine W.eq (g2 := F0 m 33 ls []) rfl ?_
        refine lv_aload_n hx hb d_Net_join_33 rfl (lv_at hl 0 rfl) ?_
        refine va_get (D := D) (ci := 8) (v := .ref aG) (C := R_Net) (T := T_Net) (N := 7) hx hb ht in_Net hown hK hP 0 rfl rfl 6 (by decide) (ht _ kl_Net_62) (fun _ h9 => h9) rfl d_Net_join_34 ?_
        refine lv_iload_n hx hb d_Net_join_37 rfl (lv_at hl 1 rfl) ?_
        refine lv_iload_n hx hb d_Net_join_38 rfl (lv_at hl 2 rfl) ?_
        refine ct_rdV (C := R_Groups) (ci := 7) (As := [.int (nI e9), .int (nI g)]) (rest := []) ⟨hx, hb, hml, hown, ht⟩ (k_Groups_receiversOf l D cI cZ cJ cG kG e9 g he hg) (cb_V ht kc_Groups_receiversOf kl_Net_169 kn_Groups ki_Groups_receiversOf ks_Groups_receiversOf hd_Groups_receiversOf ⟨Nat.le_of_ble_eq_true rfl, Nat.le_of_ble_eq_true rfl⟩) (wd_mem 8 rfl mG) rfl rfl (wd_ct (Bs := [[(h, .inr (8, [.ref aE, .ref aL, .ref aS, .ref aK, .ref aR, .ref aD, .ref aG]))], [(aK, .inr (4, [.ref aL, .ref aS, .ref aM, .int S.lost]))], wE, wL, wS, wM, wR, wD, wG]) 9 rfl [8] [0, 1, 2, 3, 4, 5, 6, 7] (by decide) (wd_1 _)) hK hP hD hS hA rfl hl.1 rfl (Nat.le_of_ble_eq_true rfl) ⟨(show 0 + 0 ≤ ((bm_rec S.eb e9 g nx S.G).2.2.2.1.1 - S.G.2.2.2.1.1) by omega), (show 0 + 0 ≤ (2 * 3 * ((bm_rec S.eb e9 g nx S.G).2.2.2.1.1 - S.G.2.2.2.1.1)) by omega)⟩ d_Net_join_39 (fun rhr7 H locs hr7 hP hD hS => ?_)
        subst hr7
        refine lv_iload_n hx hb d_Net_join_42 rfl (lv_at hl 3 rfl) ?_
        refine lv_iadd hx hb d_Net_join_43 ?_
        refine W.eq (g2 := F0 m 44 ls [.int (nI nx)]) (congrArg (fun z => F0 m 44 ls (.int z :: [])) (hsum)) ?_
        refine lv_istore hx hb d_Net_join_44 hl (by decide) rfl (fun ls hl => ?_)
        have hl : lv_has ls 5 [(4, .int (nI nx)), (0, .ref h), (1, .int (nI e9)), (2, .int (nI g)), (3, .int dl)] := hl
        refine lv_iload hx hb d_Net_join_46 (lv_at hl 0 rfl) ?_
        refine ri_if_lt hx hb (by omega) d_Net_join_48 (tgt := 62) (by decide) (fun h48 => ?_) (fun h48 => ?_)
        · exact absurd h48 (by omega)
        · refine lv_iload hx hb d_Net_join_51 (lv_at hl 0 rfl) ?_
          refine lv_bipush (v := nI 100) hx hb d_Net_join_53 (by decide) ?_
          refine ri_icmp_gt hx hb (by omega) (by omega) d_Net_join_55 (tgt := 62) (by decide) (fun h55 => ?_) (fun h55 => ?_)
          · exact absurd h55 (by omega)
          · refine lv_iconst (v := nI 1) hx hb d_Net_join_58 (by decide) ?_
            refine lv_goto hx hb d_Net_join_59 (tgt := 63) (by decide) ?_
            refine W.eq (g2 := F0 m 63 ls [.int (bI true)]) (congrArg (fun z => F0 m 63 ls (.int z :: [])) (rfl)) ?_
            refine ct_callSV (As := [.int (bI true)]) (rest := []) ⟨hx, hb, hml, hown, ht⟩ (k_Net_demand l D cI cZ cJ cG) (cb_S ht kc_Net_demand kl_Net_70 kn_Net ki_Net_demand hd_Net_demand ⟨Nat.le_of_ble_eq_true rfl, Nat.le_of_ble_eq_true rfl⟩) (wd_ct (Bs := [[(h, .inr (8, [.ref aE, .ref aL, .ref aS, .ref aK, .ref aR, .ref aD, .ref aG]))], [(aK, .inr (4, [.ref aL, .ref aS, .ref aM, .int S.lost]))], wE, wL, wS, wM, wR, wD, wG]) 9 rfl [] [0, 1, 2, 3, 4, 5, 6, 7, 8] (by decide) rfl) hK hP hD hS hA rfl hl.1 rfl (Nat.le_of_ble_eq_true rfl) ⟨(Nat.zero_le _), (Nat.zero_le _)⟩ d_Net_join_63 (fun u10 H locs hu10 hP hD hS => ?_)
            subst hu10
            refine W.widen (k := 0) (n := 0) (Nat.le_refl _) (Nat.le_refl _) ?_
            have hP := wd_nP (N := []) rfl 9 rfl [0, 1, 2, 3, 4, 5, 6, 7, 8] (by decide) hP
            have hD := wd_nD (N := []) rfl 9 rfl [0, 1, 2, 3, 4, 5, 6, 7, 8] (by decide) hD
            have hP : va_P D kls (List.flatten [[(h, .inr (8, [.ref aE, .ref aL, .ref aS, .ref aK, .ref aR, .ref aD, .ref aG]))], [(aK, .inr (4, [.ref aL, .ref aS, .ref aM, .int S.lost]))], wE, wL, wS, wM, wR, wD, wG]) H := hP
            have hD : va_D A (List.flatten [[(h, .inr (8, [.ref aE, .ref aL, .ref aS, .ref aK, .ref aR, .ref aD, .ref aG]))], [(aK, .inr (4, [.ref aL, .ref aS, .ref aM, .int S.lost]))], wE, wL, wS, wM, wR, wD, wG]) := hD
            refine W.eq (g2 := F0 m 66 ls []) rfl ?_
            refine lv_aload_n hx hb d_Net_join_66 rfl (lv_at hl 1 rfl) ?_
            refine va_get (D := D) (ci := 8) (v := .ref aG) (C := R_Net) (T := T_Net) (N := 7) hx hb ht in_Net hown hK hP 0 rfl rfl 6 (by decide) (ht _ kl_Net_62) (fun _ h9 => h9) rfl d_Net_join_67 ?_
            refine lv_iload_n hx hb d_Net_join_70 rfl (lv_at hl 2 rfl) ?_
            refine lv_iload_n hx hb d_Net_join_71 rfl (lv_at hl 3 rfl) ?_
            refine lv_iload hx hb d_Net_join_72 (lv_at hl 0 rfl) ?_
            refine ct_rdV (C := R_Groups) (ci := 7) (As := [.int (nI e9), .int (nI g), .int (nI nx)]) (rest := []) ⟨hx, hb, hml, hown, ht⟩ (k_Groups_hasRoomForCount l D cI cZ cJ cG kG e9 g nx he hg (fun a b => Nat.lt_of_le_of_lt (hg9.1 a b) (by decide)) (by omega) hg9.2.2.1) (cb_V ht kc_Groups_hasRoomForCount kl_Net_172 kn_Groups ki_Groups_hasRoomForCount ks_Groups_hasRoomForCount hd_Groups_hasRoomForCount ⟨Nat.le_of_ble_eq_true rfl, Nat.le_of_ble_eq_true rfl⟩) (wd_mem 8 rfl mG) rfl rfl (wd_ct (Bs := [[(h, .inr (8, [.ref aE, .ref aL, .ref aS, .ref aK, .ref aR, .ref aD, .ref aG]))], [(aK, .inr (4, [.ref aL, .ref aS, .ref aM, .int S.lost]))], wE, wL, wS, wM, wR, wD, wG]) 9 rfl [8] [0, 1, 2, 3, 4, 5, 6, 7] (by decide) (wd_1 _)) hK hP hD hS hA rfl hl.1 rfl (Nat.le_of_ble_eq_true rfl) ⟨(show 0 + 0 ≤ ((bm_rec S.eb e9 g nx S.G).2.2.2.1.1 - S.G.2.2.2.1.1) by omega), (show 0 + 0 ≤ (2 * 3 * ((bm_rec S.eb e9 g nx S.G).2.2.2.1.1 - S.G.2.2.2.1.1)) by omega)⟩ d_Net_join_74 (fun rhr11 H locs hr11 hP hD hS => ?_)
            subst hr11
            refine W.eq (g2 := F0 m 77 ls [.int (bI true)]) (congrArg (fun z => F0 m 77 ls (.int z :: [])) (congrArg bI (bP_t hrm))) ?_
            refine ct_callSV (As := [.int (bI true)]) (rest := []) ⟨hx, hb, hml, hown, ht⟩ (k_Net_demandRoom l D cI cZ cJ cG) (cb_S ht kc_Net_demandRoom kl_Net_88 kn_Net ki_Net_demandRoom hd_Net_demandRoom ⟨Nat.le_of_ble_eq_true rfl, Nat.le_of_ble_eq_true rfl⟩) (wd_ct (Bs := [[(h, .inr (8, [.ref aE, .ref aL, .ref aS, .ref aK, .ref aR, .ref aD, .ref aG]))], [(aK, .inr (4, [.ref aL, .ref aS, .ref aM, .int S.lost]))], wE, wL, wS, wM, wR, wD, wG]) 9 rfl [] [0, 1, 2, 3, 4, 5, 6, 7, 8] (by decide) rfl) hK hP hD hS hA rfl hl.1 rfl (Nat.le_of_ble_eq_true rfl) ⟨(Nat.zero_le _), (Nat.zero_le _)⟩ d_Net_join_77 (fun u12 H locs hu12 hP hD hS => ?_)
            subst hu12
            refine W.widen (k := 0) (n := 0) (Nat.le_refl _) (Nat.le_refl _) ?_
            have hP := wd_nP (N := []) rfl 9 rfl [0, 1, 2, 3, 4, 5, 6, 7, 8] (by decide) hP
            have hD := wd_nD (N := []) rfl 9 rfl [0, 1, 2, 3, 4, 5, 6, 7, 8] (by decide) hD
            have hP : va_P D kls (List.flatten [[(h, .inr (8, [.ref aE, .ref aL, .ref aS, .ref aK, .ref aR, .ref aD, .ref aG]))], [(aK, .inr (4, [.ref aL, .ref aS, .ref aM, .int S.lost]))], wE, wL, wS, wM, wR, wD, wG]) H := hP
            have hD : va_D A (List.flatten [[(h, .inr (8, [.ref aE, .ref aL, .ref aS, .ref aK, .ref aR, .ref aD, .ref aG]))], [(aK, .inr (4, [.ref aL, .ref aS, .ref aM, .int S.lost]))], wE, wL, wS, wM, wR, wD, wG]) := hD
            refine W.eq (g2 := F0 m 80 ls []) rfl ?_
            refine lv_aload_n hx hb d_Net_join_80 rfl (lv_at hl 1 rfl) ?_
            refine va_get (D := D) (ci := 8) (v := .ref aG) (C := R_Net) (T := T_Net) (N := 7) hx hb ht in_Net hown hK hP 0 rfl rfl 6 (by decide) (ht _ kl_Net_62) (fun _ h9 => h9) rfl d_Net_join_81 ?_
            refine lv_iload_n hx hb d_Net_join_84 rfl (lv_at hl 2 rfl) ?_
            refine lv_iload_n hx hb d_Net_join_85 rfl (lv_at hl 3 rfl) ?_
            refine lv_iload hx hb d_Net_join_86 (lv_at hl 0 rfl) ?_
            refine ct_callVV (C := R_Groups) (ci := 7) (As := [.int (nI e9), .int (nI g), .int (nI nx)]) (rest := []) ⟨hx, hb, hml, hown, ht⟩ (k_Groups_recount l D cI cZ cJ cG kG kE e9 g nx he hg (fun a b => Nat.lt_of_le_of_lt (hg9.1 a b) (by decide)) (by omega) hg9.2.2.1 hg9.2.2.2) (cb_V ht kc_Groups_recount kl_Net_176 kn_Groups ki_Groups_recount ks_Groups_recount hd_Groups_recount ⟨Nat.le_of_ble_eq_true rfl, Nat.le_of_ble_eq_true rfl⟩) (wd_mem 8 rfl mG) rfl rfl (wd_ct (Bs := [[(h, .inr (8, [.ref aE, .ref aL, .ref aS, .ref aK, .ref aR, .ref aD, .ref aG]))], [(aK, .inr (4, [.ref aL, .ref aS, .ref aM, .int S.lost]))], wE, wL, wS, wM, wR, wD, wG]) 9 rfl [8, 2] [0, 1, 3, 4, 5, 6, 7] (by decide) rfl) hK hP hD hS hA rfl hl.1 rfl (Nat.le_of_ble_eq_true rfl) ⟨(Nat.le_of_eq (Nat.zero_add _)), (Nat.le_of_eq (Nat.zero_add _))⟩ d_Net_join_88 (fun u13 H locs hu13 hP hD hS => ?_)
            obtain ⟨wG2, rfl, kG2⟩ := hu13
            refine W.widen (k := (bm_rec S.eb e9 g nx S.G).2.2.2.1.1 - S.G.2.2.2.1.1) (n := 2 * 3 * ((bm_rec S.eb e9 g nx S.G).2.2.2.1.1 - S.G.2.2.2.1.1)) (Nat.le_of_eq (Nat.zero_add _)) (Nat.le_of_eq (Nat.zero_add _)) ?_
            have hP := wd_nP (N := [wG2, wE]) rfl 9 rfl [2, 3, 1, 4, 5, 6, 7, 8, 0] (by decide) hP
            have hD := wd_nD (N := [wG2, wE]) rfl 9 rfl [2, 3, 1, 4, 5, 6, 7, 8, 0] (by decide) hD
            have hP : va_P D kls (List.flatten [[(h, .inr (8, [.ref aE, .ref aL, .ref aS, .ref aK, .ref aR, .ref aD, .ref aG]))], [(aK, .inr (4, [.ref aL, .ref aS, .ref aM, .int S.lost]))], wE, wL, wS, wM, wR, wD, wG2]) H := hP
            have hD : va_D A (List.flatten [[(h, .inr (8, [.ref aE, .ref aL, .ref aS, .ref aK, .ref aR, .ref aD, .ref aG]))], [(aK, .inr (4, [.ref aL, .ref aS, .ref aM, .int S.lost]))], wE, wL, wS, wM, wR, wD, wG2]) := hD
            refine W.eq (g2 := F0 m 91 ls []) rfl ?_
            refine lv_iload hx hb d_Net_join_91 (lv_at hl 0 rfl) ?_
            exact ct_iret hQ hx hb hr hlk hP hD hS hK (by omega) (by omega) d_Net_join_93 (⟨rfl, aE, aL, aS, aK, aR, aD, aG, aM, aP, aC, wE, wL, wS, wM, wR, wD, wG2, rfl, kE, kL, kS, kM, kR, kD, kG2⟩)
      · refine lv_iload_n hx hb d_Net_join_20 rfl (lv_at hl 3 rfl) ?_
        refine lv_iconst (v := (-1)) hx hb d_Net_join_21 (by decide) ?_
        refine lv_icmp_ne hx hb d_Net_join_22 (tgt := 29) (by decide) (fun h22 => ?_) (fun h22 => ?_)
        · exact absurd h22 (fun z => by rcases hdl with q | q; exact h17 q; exact z q)
        · refine lv_iconst (v := nI 1) hx hb d_Net_join_25 (by decide) ?_
          refine lv_goto hx hb d_Net_join_26 (tgt := 30) (by decide) ?_
          refine W.eq (g2 := F0 m 30 ls [.int (bI true)]) (congrArg (fun z => F0 m 30 ls (.int z :: [])) (rfl)) ?_
          refine ct_callSV (As := [.int (bI true)]) (rest := []) ⟨hx, hb, hml, hown, ht⟩ (k_Net_demand l D cI cZ cJ cG) (cb_S ht kc_Net_demand kl_Net_70 kn_Net ki_Net_demand hd_Net_demand ⟨Nat.le_of_ble_eq_true rfl, Nat.le_of_ble_eq_true rfl⟩) (wd_ct (Bs := [[(h, .inr (8, [.ref aE, .ref aL, .ref aS, .ref aK, .ref aR, .ref aD, .ref aG]))], [(aK, .inr (4, [.ref aL, .ref aS, .ref aM, .int S.lost]))], wE, wL, wS, wM, wR, wD, wG]) 9 rfl [] [0, 1, 2, 3, 4, 5, 6, 7, 8] (by decide) rfl) hK hP hD hS hA rfl hl.1 rfl (Nat.le_of_ble_eq_true rfl) ⟨(Nat.zero_le _), (Nat.zero_le _)⟩ d_Net_join_30 (fun u15 H locs hu15 hP hD hS => ?_)
          subst hu15
          refine W.widen (k := 0) (n := 0) (Nat.le_refl _) (Nat.le_refl _) ?_
          have hP := wd_nP (N := []) rfl 9 rfl [0, 1, 2, 3, 4, 5, 6, 7, 8] (by decide) hP
          have hD := wd_nD (N := []) rfl 9 rfl [0, 1, 2, 3, 4, 5, 6, 7, 8] (by decide) hD
          have hP : va_P D kls (List.flatten [[(h, .inr (8, [.ref aE, .ref aL, .ref aS, .ref aK, .ref aR, .ref aD, .ref aG]))], [(aK, .inr (4, [.ref aL, .ref aS, .ref aM, .int S.lost]))], wE, wL, wS, wM, wR, wD, wG]) H := hP
          have hD : va_D A (List.flatten [[(h, .inr (8, [.ref aE, .ref aL, .ref aS, .ref aK, .ref aR, .ref aD, .ref aG]))], [(aK, .inr (4, [.ref aL, .ref aS, .ref aM, .int S.lost]))], wE, wL, wS, wM, wR, wD, wG]) := hD
          refine W.eq (g2 := F0 m 33 ls []) rfl ?_
          refine lv_aload_n hx hb d_Net_join_33 rfl (lv_at hl 0 rfl) ?_
          refine va_get (D := D) (ci := 8) (v := .ref aG) (C := R_Net) (T := T_Net) (N := 7) hx hb ht in_Net hown hK hP 0 rfl rfl 6 (by decide) (ht _ kl_Net_62) (fun _ h9 => h9) rfl d_Net_join_34 ?_
          refine lv_iload_n hx hb d_Net_join_37 rfl (lv_at hl 1 rfl) ?_
          refine lv_iload_n hx hb d_Net_join_38 rfl (lv_at hl 2 rfl) ?_
          refine ct_rdV (C := R_Groups) (ci := 7) (As := [.int (nI e9), .int (nI g)]) (rest := []) ⟨hx, hb, hml, hown, ht⟩ (k_Groups_receiversOf l D cI cZ cJ cG kG e9 g he hg) (cb_V ht kc_Groups_receiversOf kl_Net_169 kn_Groups ki_Groups_receiversOf ks_Groups_receiversOf hd_Groups_receiversOf ⟨Nat.le_of_ble_eq_true rfl, Nat.le_of_ble_eq_true rfl⟩) (wd_mem 8 rfl mG) rfl rfl (wd_ct (Bs := [[(h, .inr (8, [.ref aE, .ref aL, .ref aS, .ref aK, .ref aR, .ref aD, .ref aG]))], [(aK, .inr (4, [.ref aL, .ref aS, .ref aM, .int S.lost]))], wE, wL, wS, wM, wR, wD, wG]) 9 rfl [8] [0, 1, 2, 3, 4, 5, 6, 7] (by decide) (wd_1 _)) hK hP hD hS hA rfl hl.1 rfl (Nat.le_of_ble_eq_true rfl) ⟨(show 0 + 0 ≤ ((bm_rec S.eb e9 g nx S.G).2.2.2.1.1 - S.G.2.2.2.1.1) by omega), (show 0 + 0 ≤ (2 * 3 * ((bm_rec S.eb e9 g nx S.G).2.2.2.1.1 - S.G.2.2.2.1.1)) by omega)⟩ d_Net_join_39 (fun rhr16 H locs hr16 hP hD hS => ?_)
          subst hr16
          refine lv_iload_n hx hb d_Net_join_42 rfl (lv_at hl 3 rfl) ?_
          refine lv_iadd hx hb d_Net_join_43 ?_
          refine W.eq (g2 := F0 m 44 ls [.int (nI nx)]) (congrArg (fun z => F0 m 44 ls (.int z :: [])) (hsum)) ?_
          refine lv_istore hx hb d_Net_join_44 hl (by decide) rfl (fun ls hl => ?_)
          have hl : lv_has ls 5 [(4, .int (nI nx)), (0, .ref h), (1, .int (nI e9)), (2, .int (nI g)), (3, .int dl)] := hl
          refine lv_iload hx hb d_Net_join_46 (lv_at hl 0 rfl) ?_
          refine ri_if_lt hx hb (by omega) d_Net_join_48 (tgt := 62) (by decide) (fun h48 => ?_) (fun h48 => ?_)
          · exact absurd h48 (by omega)
          · refine lv_iload hx hb d_Net_join_51 (lv_at hl 0 rfl) ?_
            refine lv_bipush (v := nI 100) hx hb d_Net_join_53 (by decide) ?_
            refine ri_icmp_gt hx hb (by omega) (by omega) d_Net_join_55 (tgt := 62) (by decide) (fun h55 => ?_) (fun h55 => ?_)
            · exact absurd h55 (by omega)
            · refine lv_iconst (v := nI 1) hx hb d_Net_join_58 (by decide) ?_
              refine lv_goto hx hb d_Net_join_59 (tgt := 63) (by decide) ?_
              refine W.eq (g2 := F0 m 63 ls [.int (bI true)]) (congrArg (fun z => F0 m 63 ls (.int z :: [])) (rfl)) ?_
              refine ct_callSV (As := [.int (bI true)]) (rest := []) ⟨hx, hb, hml, hown, ht⟩ (k_Net_demand l D cI cZ cJ cG) (cb_S ht kc_Net_demand kl_Net_70 kn_Net ki_Net_demand hd_Net_demand ⟨Nat.le_of_ble_eq_true rfl, Nat.le_of_ble_eq_true rfl⟩) (wd_ct (Bs := [[(h, .inr (8, [.ref aE, .ref aL, .ref aS, .ref aK, .ref aR, .ref aD, .ref aG]))], [(aK, .inr (4, [.ref aL, .ref aS, .ref aM, .int S.lost]))], wE, wL, wS, wM, wR, wD, wG]) 9 rfl [] [0, 1, 2, 3, 4, 5, 6, 7, 8] (by decide) rfl) hK hP hD hS hA rfl hl.1 rfl (Nat.le_of_ble_eq_true rfl) ⟨(Nat.zero_le _), (Nat.zero_le _)⟩ d_Net_join_63 (fun u19 H locs hu19 hP hD hS => ?_)
              subst hu19
              refine W.widen (k := 0) (n := 0) (Nat.le_refl _) (Nat.le_refl _) ?_
              have hP := wd_nP (N := []) rfl 9 rfl [0, 1, 2, 3, 4, 5, 6, 7, 8] (by decide) hP
              have hD := wd_nD (N := []) rfl 9 rfl [0, 1, 2, 3, 4, 5, 6, 7, 8] (by decide) hD
              have hP : va_P D kls (List.flatten [[(h, .inr (8, [.ref aE, .ref aL, .ref aS, .ref aK, .ref aR, .ref aD, .ref aG]))], [(aK, .inr (4, [.ref aL, .ref aS, .ref aM, .int S.lost]))], wE, wL, wS, wM, wR, wD, wG]) H := hP
              have hD : va_D A (List.flatten [[(h, .inr (8, [.ref aE, .ref aL, .ref aS, .ref aK, .ref aR, .ref aD, .ref aG]))], [(aK, .inr (4, [.ref aL, .ref aS, .ref aM, .int S.lost]))], wE, wL, wS, wM, wR, wD, wG]) := hD
              refine W.eq (g2 := F0 m 66 ls []) rfl ?_
              refine lv_aload_n hx hb d_Net_join_66 rfl (lv_at hl 1 rfl) ?_
              refine va_get (D := D) (ci := 8) (v := .ref aG) (C := R_Net) (T := T_Net) (N := 7) hx hb ht in_Net hown hK hP 0 rfl rfl 6 (by decide) (ht _ kl_Net_62) (fun _ h9 => h9) rfl d_Net_join_67 ?_
              refine lv_iload_n hx hb d_Net_join_70 rfl (lv_at hl 2 rfl) ?_
              refine lv_iload_n hx hb d_Net_join_71 rfl (lv_at hl 3 rfl) ?_
              refine lv_iload hx hb d_Net_join_72 (lv_at hl 0 rfl) ?_
              refine ct_rdV (C := R_Groups) (ci := 7) (As := [.int (nI e9), .int (nI g), .int (nI nx)]) (rest := []) ⟨hx, hb, hml, hown, ht⟩ (k_Groups_hasRoomForCount l D cI cZ cJ cG kG e9 g nx he hg (fun a b => Nat.lt_of_le_of_lt (hg9.1 a b) (by decide)) (by omega) hg9.2.2.1) (cb_V ht kc_Groups_hasRoomForCount kl_Net_172 kn_Groups ki_Groups_hasRoomForCount ks_Groups_hasRoomForCount hd_Groups_hasRoomForCount ⟨Nat.le_of_ble_eq_true rfl, Nat.le_of_ble_eq_true rfl⟩) (wd_mem 8 rfl mG) rfl rfl (wd_ct (Bs := [[(h, .inr (8, [.ref aE, .ref aL, .ref aS, .ref aK, .ref aR, .ref aD, .ref aG]))], [(aK, .inr (4, [.ref aL, .ref aS, .ref aM, .int S.lost]))], wE, wL, wS, wM, wR, wD, wG]) 9 rfl [8] [0, 1, 2, 3, 4, 5, 6, 7] (by decide) (wd_1 _)) hK hP hD hS hA rfl hl.1 rfl (Nat.le_of_ble_eq_true rfl) ⟨(show 0 + 0 ≤ ((bm_rec S.eb e9 g nx S.G).2.2.2.1.1 - S.G.2.2.2.1.1) by omega), (show 0 + 0 ≤ (2 * 3 * ((bm_rec S.eb e9 g nx S.G).2.2.2.1.1 - S.G.2.2.2.1.1)) by omega)⟩ d_Net_join_74 (fun rhr20 H locs hr20 hP hD hS => ?_)
              subst hr20
              refine W.eq (g2 := F0 m 77 ls [.int (bI true)]) (congrArg (fun z => F0 m 77 ls (.int z :: [])) (congrArg bI (bP_t hrm))) ?_
              refine ct_callSV (As := [.int (bI true)]) (rest := []) ⟨hx, hb, hml, hown, ht⟩ (k_Net_demandRoom l D cI cZ cJ cG) (cb_S ht kc_Net_demandRoom kl_Net_88 kn_Net ki_Net_demandRoom hd_Net_demandRoom ⟨Nat.le_of_ble_eq_true rfl, Nat.le_of_ble_eq_true rfl⟩) (wd_ct (Bs := [[(h, .inr (8, [.ref aE, .ref aL, .ref aS, .ref aK, .ref aR, .ref aD, .ref aG]))], [(aK, .inr (4, [.ref aL, .ref aS, .ref aM, .int S.lost]))], wE, wL, wS, wM, wR, wD, wG]) 9 rfl [] [0, 1, 2, 3, 4, 5, 6, 7, 8] (by decide) rfl) hK hP hD hS hA rfl hl.1 rfl (Nat.le_of_ble_eq_true rfl) ⟨(Nat.zero_le _), (Nat.zero_le _)⟩ d_Net_join_77 (fun u21 H locs hu21 hP hD hS => ?_)
              subst hu21
              refine W.widen (k := 0) (n := 0) (Nat.le_refl _) (Nat.le_refl _) ?_
              have hP := wd_nP (N := []) rfl 9 rfl [0, 1, 2, 3, 4, 5, 6, 7, 8] (by decide) hP
              have hD := wd_nD (N := []) rfl 9 rfl [0, 1, 2, 3, 4, 5, 6, 7, 8] (by decide) hD
              have hP : va_P D kls (List.flatten [[(h, .inr (8, [.ref aE, .ref aL, .ref aS, .ref aK, .ref aR, .ref aD, .ref aG]))], [(aK, .inr (4, [.ref aL, .ref aS, .ref aM, .int S.lost]))], wE, wL, wS, wM, wR, wD, wG]) H := hP
              have hD : va_D A (List.flatten [[(h, .inr (8, [.ref aE, .ref aL, .ref aS, .ref aK, .ref aR, .ref aD, .ref aG]))], [(aK, .inr (4, [.ref aL, .ref aS, .ref aM, .int S.lost]))], wE, wL, wS, wM, wR, wD, wG]) := hD
              refine W.eq (g2 := F0 m 80 ls []) rfl ?_
              refine lv_aload_n hx hb d_Net_join_80 rfl (lv_at hl 1 rfl) ?_
              refine va_get (D := D) (ci := 8) (v := .ref aG) (C := R_Net) (T := T_Net) (N := 7) hx hb ht in_Net hown hK hP 0 rfl rfl 6 (by decide) (ht _ kl_Net_62) (fun _ h9 => h9) rfl d_Net_join_81 ?_
              refine lv_iload_n hx hb d_Net_join_84 rfl (lv_at hl 2 rfl) ?_
              refine lv_iload_n hx hb d_Net_join_85 rfl (lv_at hl 3 rfl) ?_
              refine lv_iload hx hb d_Net_join_86 (lv_at hl 0 rfl) ?_
              refine ct_callVV (C := R_Groups) (ci := 7) (As := [.int (nI e9), .int (nI g), .int (nI nx)]) (rest := []) ⟨hx, hb, hml, hown, ht⟩ (k_Groups_recount l D cI cZ cJ cG kG kE e9 g nx he hg (fun a b => Nat.lt_of_le_of_lt (hg9.1 a b) (by decide)) (by omega) hg9.2.2.1 hg9.2.2.2) (cb_V ht kc_Groups_recount kl_Net_176 kn_Groups ki_Groups_recount ks_Groups_recount hd_Groups_recount ⟨Nat.le_of_ble_eq_true rfl, Nat.le_of_ble_eq_true rfl⟩) (wd_mem 8 rfl mG) rfl rfl (wd_ct (Bs := [[(h, .inr (8, [.ref aE, .ref aL, .ref aS, .ref aK, .ref aR, .ref aD, .ref aG]))], [(aK, .inr (4, [.ref aL, .ref aS, .ref aM, .int S.lost]))], wE, wL, wS, wM, wR, wD, wG]) 9 rfl [8, 2] [0, 1, 3, 4, 5, 6, 7] (by decide) rfl) hK hP hD hS hA rfl hl.1 rfl (Nat.le_of_ble_eq_true rfl) ⟨(Nat.le_of_eq (Nat.zero_add _)), (Nat.le_of_eq (Nat.zero_add _))⟩ d_Net_join_88 (fun u22 H locs hu22 hP hD hS => ?_)
              obtain ⟨wG2, rfl, kG2⟩ := hu22
              refine W.widen (k := (bm_rec S.eb e9 g nx S.G).2.2.2.1.1 - S.G.2.2.2.1.1) (n := 2 * 3 * ((bm_rec S.eb e9 g nx S.G).2.2.2.1.1 - S.G.2.2.2.1.1)) (Nat.le_of_eq (Nat.zero_add _)) (Nat.le_of_eq (Nat.zero_add _)) ?_
              have hP := wd_nP (N := [wG2, wE]) rfl 9 rfl [2, 3, 1, 4, 5, 6, 7, 8, 0] (by decide) hP
              have hD := wd_nD (N := [wG2, wE]) rfl 9 rfl [2, 3, 1, 4, 5, 6, 7, 8, 0] (by decide) hD
              have hP : va_P D kls (List.flatten [[(h, .inr (8, [.ref aE, .ref aL, .ref aS, .ref aK, .ref aR, .ref aD, .ref aG]))], [(aK, .inr (4, [.ref aL, .ref aS, .ref aM, .int S.lost]))], wE, wL, wS, wM, wR, wD, wG2]) H := hP
              have hD : va_D A (List.flatten [[(h, .inr (8, [.ref aE, .ref aL, .ref aS, .ref aK, .ref aR, .ref aD, .ref aG]))], [(aK, .inr (4, [.ref aL, .ref aS, .ref aM, .int S.lost]))], wE, wL, wS, wM, wR, wD, wG2]) := hD
              refine W.eq (g2 := F0 m 91 ls []) rfl ?_
              refine lv_iload hx hb d_Net_join_91 (lv_at hl 0 rfl) ?_
              exact ct_iret hQ hx hb hr hlk hP hD hS hK (by omega) (by omega) d_Net_join_93 (⟨rfl, aE, aL, aS, aK, aR, aD, aG, aM, aP, aC, wE, wL, wS, wM, wR, wD, wG2, rfl, kE, kL, kS, kM, kR, kD, kG2⟩)
set_option maxHeartbeats 800000 in
set_option maxRecDepth 100000 in
theorem x_Net_join (l : Launch) (s0 : State) (A0 : Array Value) (h0 : fz_0 A0 s0) (hfl : ∀ e : Env, l.admits e → e.platform.stackTraces = false) (D : va_G) (cI cZ cJ cG : ClassId) {h : Nat} {S : bm_S} {ws : va_W} (hR : nt_R cI cZ cG h S ws) (hg9 : bm_gi S) (x y dl : Int32) (hno : ¬ ∃ e9 g nx, e9 < 12 ∧ g < 8 ∧ x = nI e9 ∧ y = nI g ∧ bm_em (S.eb e9) ≠ 0 ∧ (dl = 1 ∨ dl = -1) ∧ nI (S.G.2.2.1 e9 g) + dl = nI nx ∧ nx ≤ 100) : ct_X l s0 D kls (ty4 cI cZ cJ cG) y_Net_join ws_Net_join (rm_ 7 102 1 6) [.ref h, .int x, .int y, .int dl] (ws) "java/lang/IllegalArgumentException" (fun u => nt_R cI cZ cG h S u) 1 6 := by
  have hR9 := hR
  obtain ⟨aE, aL, aS, aK, aR, aD, aG, aM, aP, aC, wE, wL, wS, wM, wR, wD, wG, rfl, kE, kL, kS, kM, kR, kD, kG⟩ := hR
  obtain ⟨fsE, mE⟩ := kE.mem
  obtain ⟨fsL, mL⟩ := kL.mem
  obtain ⟨fsS, mS⟩ := kS.mem
  obtain ⟨fsR, mR⟩ := kR.mem
  obtain ⟨fsD, mD⟩ := kD.mem
  obtain ⟨fsG, mG⟩ := kG.mem
  refine ct_enterX (cc := b_Net_join) (maxL := 5) (ret := (some .int)) (by decide +kernel) (Nat.le_of_ble_eq_true rfl) ?_
  intro p e s m args below meth c hx hb hml hr ht hown hlk hnm A Q hA hK hP hD hQ ls hl hz
  have hown : s.vm.findClass R_Net = some m.cls := hown
  have hS : va_S A s.heap s.heap [] := va_S.rf
  have hl : lv_has ls 5 [(0, .ref h), (1, .int x), (2, .int y), (3, .int dl)] := hl
  refine lv_aload_n hx hb d_Net_join_0 rfl (lv_at hl 0 rfl) ?_
  refine lv_iload_n hx hb d_Net_join_1 rfl (lv_at hl 1 rfl) ?_
  refine ct_rdV (C := R_Net) (ci := 8) (As := [.int x]) (rest := []) ⟨hx, hb, hml, hown, ht⟩ (k_Net_isEdge l D cI cZ cJ cG hR9 (x)) (cb_V ht kc_Net_isEdge kl_Net_162 kn_Net ki_Net_isEdge ks_Net_isEdge hd_Net_isEdge ⟨Nat.le_of_ble_eq_true rfl, Nat.le_of_ble_eq_true rfl⟩) (List.mem_of_getElem? (i := 0) rfl) rfl rfl (wd_ct (Bs := [[(h, .inr (8, [.ref aE, .ref aL, .ref aS, .ref aK, .ref aR, .ref aD, .ref aG]))], [(aK, .inr (4, [.ref aL, .ref aS, .ref aM, .int S.lost]))], wE, wL, wS, wM, wR, wD, wG]) 9 rfl [0, 1, 2, 3, 4, 5, 6, 7, 8] [] (by decide) rfl) hK hP hD hS hA rfl hl.1 rfl (Nat.le_of_ble_eq_true rfl) ⟨(show 0 + 0 ≤ 1 by omega), (show 0 + 0 ≤ 6 by omega)⟩ d_Net_join_2 (fun rhr1 H locs hr1 hP hD hS => ?_)
  subst hr1
  refine ri_ifeqB hx hb d_Net_join_5 (tgt := 29) (by decide) (fun h5 => ?_) (fun h5 => ?_)
  · refine lv_iconst (v := nI 0) hx hb d_Net_join_29 (by decide) ?_
    refine W.eq (g2 := F0 m 30 ls [.int (bI false)]) (congrArg (fun z => F0 m 30 ls (.int z :: [])) (rfl)) ?_
    exact ct_throwS (As := [.int (bI false)]) (rest := []) hz hQ hlk ⟨hx, hb, hml, hown, ht⟩ (x_Net_demand l s0 A0 h0 hfl D cI cZ cJ cG) (cb_S ht kc_Net_demand kl_Net_70 kn_Net ki_Net_demand hd_Net_demand ⟨Nat.le_of_ble_eq_true rfl, Nat.le_of_ble_eq_true rfl⟩) (wd_ct (Bs := [[(h, .inr (8, [.ref aE, .ref aL, .ref aS, .ref aK, .ref aR, .ref aD, .ref aG]))], [(aK, .inr (4, [.ref aL, .ref aS, .ref aM, .int S.lost]))], wE, wL, wS, wM, wR, wD, wG]) 9 rfl [] [0, 1, 2, 3, 4, 5, 6, 7, 8] (by decide) rfl) hK hP hD hS hA rfl hl.1 rfl (Nat.le_of_ble_eq_true rfl) ⟨by decide, by decide⟩ ⟨by decide, by decide⟩ d_Net_join_30 (fun u hu => by subst hu; exact ⟨aE, aL, aS, aK, aR, aD, aG, aM, aP, aC, wE, wL, wS, wM, wR, wD, wG, rfl, kE, kL, kS, kM, kR, kD, kG⟩)
  · refine lv_iload_n hx hb d_Net_join_8 rfl (lv_at hl 2 rfl) ?_
    refine ct_rdS (As := [.int y]) (rest := []) ⟨hx, hb, hml, hown, ht⟩ (k_Net_isGroup l D cI cZ cJ cG y) (cb_S ht kc_Net_isGroup kl_Net_159 kn_Net ki_Net_isGroup hd_Net_isGroup ⟨Nat.le_of_ble_eq_true rfl, Nat.le_of_ble_eq_true rfl⟩) (wd_ct (Bs := [[(h, .inr (8, [.ref aE, .ref aL, .ref aS, .ref aK, .ref aR, .ref aD, .ref aG]))], [(aK, .inr (4, [.ref aL, .ref aS, .ref aM, .int S.lost]))], wE, wL, wS, wM, wR, wD, wG]) 9 rfl [] [0, 1, 2, 3, 4, 5, 6, 7, 8] (by decide) rfl) hK hP hD hS hA rfl hl.1 rfl (Nat.le_of_ble_eq_true rfl) ⟨(show 0 + 0 ≤ 1 by omega), (show 0 + 0 ≤ 6 by omega)⟩ d_Net_join_9 (fun rhr3 H locs hr3 hP hD hS => ?_)
    subst hr3
    refine ri_ifeqB hx hb d_Net_join_12 (tgt := 29) (by decide) (fun h12 => ?_) (fun h12 => ?_)
    · refine lv_iconst (v := nI 0) hx hb d_Net_join_29 (by decide) ?_
      refine W.eq (g2 := F0 m 30 ls [.int (bI false)]) (congrArg (fun z => F0 m 30 ls (.int z :: [])) (rfl)) ?_
      exact ct_throwS (As := [.int (bI false)]) (rest := []) hz hQ hlk ⟨hx, hb, hml, hown, ht⟩ (x_Net_demand l s0 A0 h0 hfl D cI cZ cJ cG) (cb_S ht kc_Net_demand kl_Net_70 kn_Net ki_Net_demand hd_Net_demand ⟨Nat.le_of_ble_eq_true rfl, Nat.le_of_ble_eq_true rfl⟩) (wd_ct (Bs := [[(h, .inr (8, [.ref aE, .ref aL, .ref aS, .ref aK, .ref aR, .ref aD, .ref aG]))], [(aK, .inr (4, [.ref aL, .ref aS, .ref aM, .int S.lost]))], wE, wL, wS, wM, wR, wD, wG]) 9 rfl [] [0, 1, 2, 3, 4, 5, 6, 7, 8] (by decide) rfl) hK hP hD hS hA rfl hl.1 rfl (Nat.le_of_ble_eq_true rfl) ⟨by decide, by decide⟩ ⟨by decide, by decide⟩ d_Net_join_30 (fun u hu => by subst hu; exact ⟨aE, aL, aS, aK, aR, aD, aG, aM, aP, aC, wE, wL, wS, wM, wR, wD, wG, rfl, kE, kL, kS, kM, kR, kD, kG⟩)
    · obtain ⟨e9, he, rfl, hee⟩ := isE_of h5
      obtain ⟨g, hg, rfl⟩ := rg_n (k := 8) h12
      have hl : lv_has ls 5 [(0, .ref h), (1, .int (nI e9)), (2, .int (nI g)), (3, .int dl)] := hl
      refine lv_iload_n hx hb d_Net_join_15 rfl (lv_at hl 3 rfl) ?_
      refine lv_iconst (v := nI 1) hx hb d_Net_join_16 (by decide) ?_
      refine lv_icmp_eq hx hb d_Net_join_17 (tgt := 25) (by decide) (fun h17 => ?_) (fun h17 => ?_)
      · refine lv_iconst (v := nI 1) hx hb d_Net_join_25 (by decide) ?_
        refine lv_goto hx hb d_Net_join_26 (tgt := 30) (by decide) ?_
        refine W.eq (g2 := F0 m 30 ls [.int (bI true)]) (congrArg (fun z => F0 m 30 ls (.int z :: [])) (rfl)) ?_
        refine ct_callSV (As := [.int (bI true)]) (rest := []) ⟨hx, hb, hml, hown, ht⟩ (k_Net_demand l D cI cZ cJ cG) (cb_S ht kc_Net_demand kl_Net_70 kn_Net ki_Net_demand hd_Net_demand ⟨Nat.le_of_ble_eq_true rfl, Nat.le_of_ble_eq_true rfl⟩) (wd_ct (Bs := [[(h, .inr (8, [.ref aE, .ref aL, .ref aS, .ref aK, .ref aR, .ref aD, .ref aG]))], [(aK, .inr (4, [.ref aL, .ref aS, .ref aM, .int S.lost]))], wE, wL, wS, wM, wR, wD, wG]) 9 rfl [] [0, 1, 2, 3, 4, 5, 6, 7, 8] (by decide) rfl) hK hP hD hS hA rfl hl.1 rfl (Nat.le_of_ble_eq_true rfl) ⟨(by decide), (by decide)⟩ d_Net_join_30 (fun u6 H locs hu6 hP hD hS => ?_)
        subst hu6
        refine W.widen (k := 0) (n := 0) (Nat.le_refl _) (Nat.le_refl _) ?_
        have hP := wd_nP (N := []) rfl 9 rfl [0, 1, 2, 3, 4, 5, 6, 7, 8] (by decide) hP
        have hD := wd_nD (N := []) rfl 9 rfl [0, 1, 2, 3, 4, 5, 6, 7, 8] (by decide) hD
        have hP : va_P D kls (List.flatten [[(h, .inr (8, [.ref aE, .ref aL, .ref aS, .ref aK, .ref aR, .ref aD, .ref aG]))], [(aK, .inr (4, [.ref aL, .ref aS, .ref aM, .int S.lost]))], wE, wL, wS, wM, wR, wD, wG]) H := hP
        have hD : va_D A (List.flatten [[(h, .inr (8, [.ref aE, .ref aL, .ref aS, .ref aK, .ref aR, .ref aD, .ref aG]))], [(aK, .inr (4, [.ref aL, .ref aS, .ref aM, .int S.lost]))], wE, wL, wS, wM, wR, wD, wG]) := hD
        refine W.eq (g2 := F0 m 33 ls []) rfl ?_
        have hdl : dl = 1 ∨ dl = -1 := by first | exact Or.inl h17 | exact Or.inr h22
        refine lv_aload_n hx hb d_Net_join_33 rfl (lv_at hl 0 rfl) ?_
        refine va_get (D := D) (ci := 8) (v := .ref aG) (C := R_Net) (T := T_Net) (N := 7) hx hb ht in_Net hown hK hP 0 rfl rfl 6 (by decide) (ht _ kl_Net_62) (fun _ h9 => h9) rfl d_Net_join_34 ?_
        refine lv_iload_n hx hb d_Net_join_37 rfl (lv_at hl 1 rfl) ?_
        refine lv_iload_n hx hb d_Net_join_38 rfl (lv_at hl 2 rfl) ?_
        refine ct_rdV (C := R_Groups) (ci := 7) (As := [.int (nI e9), .int (nI g)]) (rest := []) ⟨hx, hb, hml, hown, ht⟩ (k_Groups_receiversOf l D cI cZ cJ cG kG e9 g he hg) (cb_V ht kc_Groups_receiversOf kl_Net_169 kn_Groups ki_Groups_receiversOf ks_Groups_receiversOf hd_Groups_receiversOf ⟨Nat.le_of_ble_eq_true rfl, Nat.le_of_ble_eq_true rfl⟩) (wd_mem 8 rfl mG) rfl rfl (wd_ct (Bs := [[(h, .inr (8, [.ref aE, .ref aL, .ref aS, .ref aK, .ref aR, .ref aD, .ref aG]))], [(aK, .inr (4, [.ref aL, .ref aS, .ref aM, .int S.lost]))], wE, wL, wS, wM, wR, wD, wG]) 9 rfl [8] [0, 1, 2, 3, 4, 5, 6, 7] (by decide) (wd_1 _)) hK hP hD hS hA rfl hl.1 rfl (Nat.le_of_ble_eq_true rfl) ⟨(show 0 + 0 ≤ 1 by omega), (show 0 + 0 ≤ 6 by omega)⟩ d_Net_join_39 (fun rhr7 H locs hr7 hP hD hS => ?_)
        subst hr7
        refine lv_iload_n hx hb d_Net_join_42 rfl (lv_at hl 3 rfl) ?_
        refine lv_iadd hx hb d_Net_join_43 ?_
        refine lv_istore hx hb d_Net_join_44 hl (by decide) rfl (fun ls hl => ?_)
        have hl : lv_has ls 5 [(4, .int ((nI (S.G.2.2.1 e9 g)) + dl)), (0, .ref h), (1, .int (nI e9)), (2, .int (nI g)), (3, .int dl)] := hl
        refine lv_iload hx hb d_Net_join_46 (lv_at hl 0 rfl) ?_
        refine lv_if_lt hx hb d_Net_join_48 (tgt := 62) (by decide) (fun h48 => ?_) (fun h48 => ?_)
        · refine lv_iconst (v := nI 0) hx hb d_Net_join_62 (by decide) ?_
          refine W.eq (g2 := F0 m 63 ls [.int (bI false)]) (congrArg (fun z => F0 m 63 ls (.int z :: [])) (rfl)) ?_
          exact ct_throwS (As := [.int (bI false)]) (rest := []) hz hQ hlk ⟨hx, hb, hml, hown, ht⟩ (x_Net_demand l s0 A0 h0 hfl D cI cZ cJ cG) (cb_S ht kc_Net_demand kl_Net_70 kn_Net ki_Net_demand hd_Net_demand ⟨Nat.le_of_ble_eq_true rfl, Nat.le_of_ble_eq_true rfl⟩) (wd_ct (Bs := [[(h, .inr (8, [.ref aE, .ref aL, .ref aS, .ref aK, .ref aR, .ref aD, .ref aG]))], [(aK, .inr (4, [.ref aL, .ref aS, .ref aM, .int S.lost]))], wE, wL, wS, wM, wR, wD, wG]) 9 rfl [] [0, 1, 2, 3, 4, 5, 6, 7, 8] (by decide) rfl) hK hP hD hS hA rfl hl.1 rfl (Nat.le_of_ble_eq_true rfl) ⟨by decide, by decide⟩ ⟨by decide, by decide⟩ d_Net_join_63 (fun u hu => by subst hu; exact ⟨aE, aL, aS, aK, aR, aD, aG, aM, aP, aC, wE, wL, wS, wM, wR, wD, wG, rfl, kE, kL, kS, kM, kR, kD, kG⟩)
        · refine lv_iload hx hb d_Net_join_51 (lv_at hl 0 rfl) ?_
          refine lv_bipush (v := nI 100) hx hb d_Net_join_53 (by decide) ?_
          refine lv_icmp_gt hx hb d_Net_join_55 (tgt := 62) (by decide) (fun h55 => ?_) (fun h55 => ?_)
          · refine lv_iconst (v := nI 0) hx hb d_Net_join_62 (by decide) ?_
            refine W.eq (g2 := F0 m 63 ls [.int (bI false)]) (congrArg (fun z => F0 m 63 ls (.int z :: [])) (rfl)) ?_
            exact ct_throwS (As := [.int (bI false)]) (rest := []) hz hQ hlk ⟨hx, hb, hml, hown, ht⟩ (x_Net_demand l s0 A0 h0 hfl D cI cZ cJ cG) (cb_S ht kc_Net_demand kl_Net_70 kn_Net ki_Net_demand hd_Net_demand ⟨Nat.le_of_ble_eq_true rfl, Nat.le_of_ble_eq_true rfl⟩) (wd_ct (Bs := [[(h, .inr (8, [.ref aE, .ref aL, .ref aS, .ref aK, .ref aR, .ref aD, .ref aG]))], [(aK, .inr (4, [.ref aL, .ref aS, .ref aM, .int S.lost]))], wE, wL, wS, wM, wR, wD, wG]) 9 rfl [] [0, 1, 2, 3, 4, 5, 6, 7, 8] (by decide) rfl) hK hP hD hS hA rfl hl.1 rfl (Nat.le_of_ble_eq_true rfl) ⟨by decide, by decide⟩ ⟨by decide, by decide⟩ d_Net_join_63 (fun u hu => by subst hu; exact ⟨aE, aL, aS, aK, aR, aD, aG, aM, aP, aC, wE, wL, wS, wM, wR, wD, wG, rfl, kE, kL, kS, kM, kR, kD, kG⟩)
          · refine lv_iconst (v := nI 1) hx hb d_Net_join_58 (by decide) ?_
            refine lv_goto hx hb d_Net_join_59 (tgt := 63) (by decide) ?_
            refine W.eq (g2 := F0 m 63 ls [.int (bI true)]) (congrArg (fun z => F0 m 63 ls (.int z :: [])) (rfl)) ?_
            refine ct_callSV (As := [.int (bI true)]) (rest := []) ⟨hx, hb, hml, hown, ht⟩ (k_Net_demand l D cI cZ cJ cG) (cb_S ht kc_Net_demand kl_Net_70 kn_Net ki_Net_demand hd_Net_demand ⟨Nat.le_of_ble_eq_true rfl, Nat.le_of_ble_eq_true rfl⟩) (wd_ct (Bs := [[(h, .inr (8, [.ref aE, .ref aL, .ref aS, .ref aK, .ref aR, .ref aD, .ref aG]))], [(aK, .inr (4, [.ref aL, .ref aS, .ref aM, .int S.lost]))], wE, wL, wS, wM, wR, wD, wG]) 9 rfl [] [0, 1, 2, 3, 4, 5, 6, 7, 8] (by decide) rfl) hK hP hD hS hA rfl hl.1 rfl (Nat.le_of_ble_eq_true rfl) ⟨(by decide), (by decide)⟩ d_Net_join_63 (fun u10 H locs hu10 hP hD hS => ?_)
            subst hu10
            refine W.widen (k := 0) (n := 0) (Nat.le_refl _) (Nat.le_refl _) ?_
            have hP := wd_nP (N := []) rfl 9 rfl [0, 1, 2, 3, 4, 5, 6, 7, 8] (by decide) hP
            have hD := wd_nD (N := []) rfl 9 rfl [0, 1, 2, 3, 4, 5, 6, 7, 8] (by decide) hD
            have hP : va_P D kls (List.flatten [[(h, .inr (8, [.ref aE, .ref aL, .ref aS, .ref aK, .ref aR, .ref aD, .ref aG]))], [(aK, .inr (4, [.ref aL, .ref aS, .ref aM, .int S.lost]))], wE, wL, wS, wM, wR, wD, wG]) H := hP
            have hD : va_D A (List.flatten [[(h, .inr (8, [.ref aE, .ref aL, .ref aS, .ref aK, .ref aR, .ref aD, .ref aG]))], [(aK, .inr (4, [.ref aL, .ref aS, .ref aM, .int S.lost]))], wE, wL, wS, wM, wR, wD, wG]) := hD
            refine W.eq (g2 := F0 m 66 ls []) rfl ?_
            obtain ⟨nx, hnx, hsum⟩ := rg_of0 h48 h55
            exact absurd ⟨e9, g, nx, he, hg, rfl, rfl, hee, hdl, hsum, hnx⟩ hno
      · refine lv_iload_n hx hb d_Net_join_20 rfl (lv_at hl 3 rfl) ?_
        refine lv_iconst (v := (-1)) hx hb d_Net_join_21 (by decide) ?_
        refine lv_icmp_ne hx hb d_Net_join_22 (tgt := 29) (by decide) (fun h22 => ?_) (fun h22 => ?_)
        · refine lv_iconst (v := nI 0) hx hb d_Net_join_29 (by decide) ?_
          refine W.eq (g2 := F0 m 30 ls [.int (bI false)]) (congrArg (fun z => F0 m 30 ls (.int z :: [])) (rfl)) ?_
          exact ct_throwS (As := [.int (bI false)]) (rest := []) hz hQ hlk ⟨hx, hb, hml, hown, ht⟩ (x_Net_demand l s0 A0 h0 hfl D cI cZ cJ cG) (cb_S ht kc_Net_demand kl_Net_70 kn_Net ki_Net_demand hd_Net_demand ⟨Nat.le_of_ble_eq_true rfl, Nat.le_of_ble_eq_true rfl⟩) (wd_ct (Bs := [[(h, .inr (8, [.ref aE, .ref aL, .ref aS, .ref aK, .ref aR, .ref aD, .ref aG]))], [(aK, .inr (4, [.ref aL, .ref aS, .ref aM, .int S.lost]))], wE, wL, wS, wM, wR, wD, wG]) 9 rfl [] [0, 1, 2, 3, 4, 5, 6, 7, 8] (by decide) rfl) hK hP hD hS hA rfl hl.1 rfl (Nat.le_of_ble_eq_true rfl) ⟨by decide, by decide⟩ ⟨by decide, by decide⟩ d_Net_join_30 (fun u hu => by subst hu; exact ⟨aE, aL, aS, aK, aR, aD, aG, aM, aP, aC, wE, wL, wS, wM, wR, wD, wG, rfl, kE, kL, kS, kM, kR, kD, kG⟩)
        · refine lv_iconst (v := nI 1) hx hb d_Net_join_25 (by decide) ?_
          refine lv_goto hx hb d_Net_join_26 (tgt := 30) (by decide) ?_
          refine W.eq (g2 := F0 m 30 ls [.int (bI true)]) (congrArg (fun z => F0 m 30 ls (.int z :: [])) (rfl)) ?_
          refine ct_callSV (As := [.int (bI true)]) (rest := []) ⟨hx, hb, hml, hown, ht⟩ (k_Net_demand l D cI cZ cJ cG) (cb_S ht kc_Net_demand kl_Net_70 kn_Net ki_Net_demand hd_Net_demand ⟨Nat.le_of_ble_eq_true rfl, Nat.le_of_ble_eq_true rfl⟩) (wd_ct (Bs := [[(h, .inr (8, [.ref aE, .ref aL, .ref aS, .ref aK, .ref aR, .ref aD, .ref aG]))], [(aK, .inr (4, [.ref aL, .ref aS, .ref aM, .int S.lost]))], wE, wL, wS, wM, wR, wD, wG]) 9 rfl [] [0, 1, 2, 3, 4, 5, 6, 7, 8] (by decide) rfl) hK hP hD hS hA rfl hl.1 rfl (Nat.le_of_ble_eq_true rfl) ⟨(by decide), (by decide)⟩ d_Net_join_30 (fun u12 H locs hu12 hP hD hS => ?_)
          subst hu12
          refine W.widen (k := 0) (n := 0) (Nat.le_refl _) (Nat.le_refl _) ?_
          have hP := wd_nP (N := []) rfl 9 rfl [0, 1, 2, 3, 4, 5, 6, 7, 8] (by decide) hP
          have hD := wd_nD (N := []) rfl 9 rfl [0, 1, 2, 3, 4, 5, 6, 7, 8] (by decide) hD
          have hP : va_P D kls (List.flatten [[(h, .inr (8, [.ref aE, .ref aL, .ref aS, .ref aK, .ref aR, .ref aD, .ref aG]))], [(aK, .inr (4, [.ref aL, .ref aS, .ref aM, .int S.lost]))], wE, wL, wS, wM, wR, wD, wG]) H := hP
          have hD : va_D A (List.flatten [[(h, .inr (8, [.ref aE, .ref aL, .ref aS, .ref aK, .ref aR, .ref aD, .ref aG]))], [(aK, .inr (4, [.ref aL, .ref aS, .ref aM, .int S.lost]))], wE, wL, wS, wM, wR, wD, wG]) := hD
          refine W.eq (g2 := F0 m 33 ls []) rfl ?_
          have hdl : dl = 1 ∨ dl = -1 := by first | exact Or.inl h17 | exact Or.inr h22
          refine lv_aload_n hx hb d_Net_join_33 rfl (lv_at hl 0 rfl) ?_
          refine va_get (D := D) (ci := 8) (v := .ref aG) (C := R_Net) (T := T_Net) (N := 7) hx hb ht in_Net hown hK hP 0 rfl rfl 6 (by decide) (ht _ kl_Net_62) (fun _ h9 => h9) rfl d_Net_join_34 ?_
          refine lv_iload_n hx hb d_Net_join_37 rfl (lv_at hl 1 rfl) ?_
          refine lv_iload_n hx hb d_Net_join_38 rfl (lv_at hl 2 rfl) ?_
          refine ct_rdV (C := R_Groups) (ci := 7) (As := [.int (nI e9), .int (nI g)]) (rest := []) ⟨hx, hb, hml, hown, ht⟩ (k_Groups_receiversOf l D cI cZ cJ cG kG e9 g he hg) (cb_V ht kc_Groups_receiversOf kl_Net_169 kn_Groups ki_Groups_receiversOf ks_Groups_receiversOf hd_Groups_receiversOf ⟨Nat.le_of_ble_eq_true rfl, Nat.le_of_ble_eq_true rfl⟩) (wd_mem 8 rfl mG) rfl rfl (wd_ct (Bs := [[(h, .inr (8, [.ref aE, .ref aL, .ref aS, .ref aK, .ref aR, .ref aD, .ref aG]))], [(aK, .inr (4, [.ref aL, .ref aS, .ref aM, .int S.lost]))], wE, wL, wS, wM, wR, wD, wG]) 9 rfl [8] [0, 1, 2, 3, 4, 5, 6, 7] (by decide) (wd_1 _)) hK hP hD hS hA rfl hl.1 rfl (Nat.le_of_ble_eq_true rfl) ⟨(show 0 + 0 ≤ 1 by omega), (show 0 + 0 ≤ 6 by omega)⟩ d_Net_join_39 (fun rhr13 H locs hr13 hP hD hS => ?_)
          subst hr13
          refine lv_iload_n hx hb d_Net_join_42 rfl (lv_at hl 3 rfl) ?_
          refine lv_iadd hx hb d_Net_join_43 ?_
          refine lv_istore hx hb d_Net_join_44 hl (by decide) rfl (fun ls hl => ?_)
          have hl : lv_has ls 5 [(4, .int ((nI (S.G.2.2.1 e9 g)) + dl)), (0, .ref h), (1, .int (nI e9)), (2, .int (nI g)), (3, .int dl)] := hl
          refine lv_iload hx hb d_Net_join_46 (lv_at hl 0 rfl) ?_
          refine lv_if_lt hx hb d_Net_join_48 (tgt := 62) (by decide) (fun h48 => ?_) (fun h48 => ?_)
          · refine lv_iconst (v := nI 0) hx hb d_Net_join_62 (by decide) ?_
            refine W.eq (g2 := F0 m 63 ls [.int (bI false)]) (congrArg (fun z => F0 m 63 ls (.int z :: [])) (rfl)) ?_
            exact ct_throwS (As := [.int (bI false)]) (rest := []) hz hQ hlk ⟨hx, hb, hml, hown, ht⟩ (x_Net_demand l s0 A0 h0 hfl D cI cZ cJ cG) (cb_S ht kc_Net_demand kl_Net_70 kn_Net ki_Net_demand hd_Net_demand ⟨Nat.le_of_ble_eq_true rfl, Nat.le_of_ble_eq_true rfl⟩) (wd_ct (Bs := [[(h, .inr (8, [.ref aE, .ref aL, .ref aS, .ref aK, .ref aR, .ref aD, .ref aG]))], [(aK, .inr (4, [.ref aL, .ref aS, .ref aM, .int S.lost]))], wE, wL, wS, wM, wR, wD, wG]) 9 rfl [] [0, 1, 2, 3, 4, 5, 6, 7, 8] (by decide) rfl) hK hP hD hS hA rfl hl.1 rfl (Nat.le_of_ble_eq_true rfl) ⟨by decide, by decide⟩ ⟨by decide, by decide⟩ d_Net_join_63 (fun u hu => by subst hu; exact ⟨aE, aL, aS, aK, aR, aD, aG, aM, aP, aC, wE, wL, wS, wM, wR, wD, wG, rfl, kE, kL, kS, kM, kR, kD, kG⟩)
          · refine lv_iload hx hb d_Net_join_51 (lv_at hl 0 rfl) ?_
            refine lv_bipush (v := nI 100) hx hb d_Net_join_53 (by decide) ?_
            refine lv_icmp_gt hx hb d_Net_join_55 (tgt := 62) (by decide) (fun h55 => ?_) (fun h55 => ?_)
            · refine lv_iconst (v := nI 0) hx hb d_Net_join_62 (by decide) ?_
              refine W.eq (g2 := F0 m 63 ls [.int (bI false)]) (congrArg (fun z => F0 m 63 ls (.int z :: [])) (rfl)) ?_
              exact ct_throwS (As := [.int (bI false)]) (rest := []) hz hQ hlk ⟨hx, hb, hml, hown, ht⟩ (x_Net_demand l s0 A0 h0 hfl D cI cZ cJ cG) (cb_S ht kc_Net_demand kl_Net_70 kn_Net ki_Net_demand hd_Net_demand ⟨Nat.le_of_ble_eq_true rfl, Nat.le_of_ble_eq_true rfl⟩) (wd_ct (Bs := [[(h, .inr (8, [.ref aE, .ref aL, .ref aS, .ref aK, .ref aR, .ref aD, .ref aG]))], [(aK, .inr (4, [.ref aL, .ref aS, .ref aM, .int S.lost]))], wE, wL, wS, wM, wR, wD, wG]) 9 rfl [] [0, 1, 2, 3, 4, 5, 6, 7, 8] (by decide) rfl) hK hP hD hS hA rfl hl.1 rfl (Nat.le_of_ble_eq_true rfl) ⟨by decide, by decide⟩ ⟨by decide, by decide⟩ d_Net_join_63 (fun u hu => by subst hu; exact ⟨aE, aL, aS, aK, aR, aD, aG, aM, aP, aC, wE, wL, wS, wM, wR, wD, wG, rfl, kE, kL, kS, kM, kR, kD, kG⟩)
            · refine lv_iconst (v := nI 1) hx hb d_Net_join_58 (by decide) ?_
              refine lv_goto hx hb d_Net_join_59 (tgt := 63) (by decide) ?_
              refine W.eq (g2 := F0 m 63 ls [.int (bI true)]) (congrArg (fun z => F0 m 63 ls (.int z :: [])) (rfl)) ?_
              refine ct_callSV (As := [.int (bI true)]) (rest := []) ⟨hx, hb, hml, hown, ht⟩ (k_Net_demand l D cI cZ cJ cG) (cb_S ht kc_Net_demand kl_Net_70 kn_Net ki_Net_demand hd_Net_demand ⟨Nat.le_of_ble_eq_true rfl, Nat.le_of_ble_eq_true rfl⟩) (wd_ct (Bs := [[(h, .inr (8, [.ref aE, .ref aL, .ref aS, .ref aK, .ref aR, .ref aD, .ref aG]))], [(aK, .inr (4, [.ref aL, .ref aS, .ref aM, .int S.lost]))], wE, wL, wS, wM, wR, wD, wG]) 9 rfl [] [0, 1, 2, 3, 4, 5, 6, 7, 8] (by decide) rfl) hK hP hD hS hA rfl hl.1 rfl (Nat.le_of_ble_eq_true rfl) ⟨(by decide), (by decide)⟩ d_Net_join_63 (fun u16 H locs hu16 hP hD hS => ?_)
              subst hu16
              refine W.widen (k := 0) (n := 0) (Nat.le_refl _) (Nat.le_refl _) ?_
              have hP := wd_nP (N := []) rfl 9 rfl [0, 1, 2, 3, 4, 5, 6, 7, 8] (by decide) hP
              have hD := wd_nD (N := []) rfl 9 rfl [0, 1, 2, 3, 4, 5, 6, 7, 8] (by decide) hD
              have hP : va_P D kls (List.flatten [[(h, .inr (8, [.ref aE, .ref aL, .ref aS, .ref aK, .ref aR, .ref aD, .ref aG]))], [(aK, .inr (4, [.ref aL, .ref aS, .ref aM, .int S.lost]))], wE, wL, wS, wM, wR, wD, wG]) H := hP
              have hD : va_D A (List.flatten [[(h, .inr (8, [.ref aE, .ref aL, .ref aS, .ref aK, .ref aR, .ref aD, .ref aG]))], [(aK, .inr (4, [.ref aL, .ref aS, .ref aM, .int S.lost]))], wE, wL, wS, wM, wR, wD, wG]) := hD
              refine W.eq (g2 := F0 m 66 ls []) rfl ?_
              obtain ⟨nx, hnx, hsum⟩ := rg_of0 h48 h55
              exact absurd ⟨e9, g, nx, he, hg, rfl, rfl, hee, hdl, hsum, hnx⟩ hno
set_option maxHeartbeats 800000 in
set_option maxRecDepth 100000 in
theorem x_Net_join_room (l : Launch) (s0 : State) (A0 : Array Value) (h0 : fz_0 A0 s0) (hfl : ∀ e : Env, l.admits e → e.platform.stackTraces = false) (D : va_G) (cI cZ cJ cG : ClassId) {h : Nat} {S : bm_S} {ws : va_W} (hR : nt_R cI cZ cG h S ws) (hg9 : bm_gi S) (e9 g nx : Nat) (dl : Int32) (he : e9 < 12) (hg : g < 8) (hee : bm_em (S.eb e9) ≠ 0) (hdl : dl = 1 ∨ dl = -1) (hsum : nI (S.G.2.2.1 e9 g) + dl = nI nx) (hnx : nx ≤ 100) (hno : ¬ bm_jroom S e9 g nx) : ct_X l s0 D kls (ty4 cI cZ cJ cG) y_Net_join ws_Net_join (rm_ 7 102 1 6) [.ref h, .int (nI e9), .int (nI g), .int dl] (ws) "java/lang/IllegalStateException" (fun u => nt_R cI cZ cG h S u) 1 6 := by
  have hR9 := hR
  obtain ⟨aE, aL, aS, aK, aR, aD, aG, aM, aP, aC, wE, wL, wS, wM, wR, wD, wG, rfl, kE, kL, kS, kM, kR, kD, kG⟩ := hR
  obtain ⟨fsE, mE⟩ := kE.mem
  obtain ⟨fsL, mL⟩ := kL.mem
  obtain ⟨fsS, mS⟩ := kS.mem
  obtain ⟨fsR, mR⟩ := kR.mem
  obtain ⟨fsD, mD⟩ := kD.mem
  obtain ⟨fsG, mG⟩ := kG.mem
  refine ct_enterX (cc := b_Net_join) (maxL := 5) (ret := (some .int)) (by decide +kernel) (Nat.le_of_ble_eq_true rfl) ?_
  intro p e s m args below meth c hx hb hml hr ht hown hlk hnm A Q hA hK hP hD hQ ls hl hz
  have hown : s.vm.findClass R_Net = some m.cls := hown
  have hS : va_S A s.heap s.heap [] := va_S.rf
  have hl : lv_has ls 5 [(0, .ref h), (1, .int (nI e9)), (2, .int (nI g)), (3, .int dl)] := hl
  refine lv_aload_n hx hb d_Net_join_0 rfl (lv_at hl 0 rfl) ?_
  refine lv_iload_n hx hb d_Net_join_1 rfl (lv_at hl 1 rfl) ?_
  refine ct_rdV (C := R_Net) (ci := 8) (As := [.int (nI e9)]) (rest := []) ⟨hx, hb, hml, hown, ht⟩ (k_Net_isEdge l D cI cZ cJ cG hR9 (nI e9)) (cb_V ht kc_Net_isEdge kl_Net_162 kn_Net ki_Net_isEdge ks_Net_isEdge hd_Net_isEdge ⟨Nat.le_of_ble_eq_true rfl, Nat.le_of_ble_eq_true rfl⟩) (List.mem_of_getElem? (i := 0) rfl) rfl rfl (wd_ct (Bs := [[(h, .inr (8, [.ref aE, .ref aL, .ref aS, .ref aK, .ref aR, .ref aD, .ref aG]))], [(aK, .inr (4, [.ref aL, .ref aS, .ref aM, .int S.lost]))], wE, wL, wS, wM, wR, wD, wG]) 9 rfl [0, 1, 2, 3, 4, 5, 6, 7, 8] [] (by decide) rfl) hK hP hD hS hA rfl hl.1 rfl (Nat.le_of_ble_eq_true rfl) ⟨(show 0 + 0 ≤ 1 by omega), (show 0 + 0 ≤ 6 by omega)⟩ d_Net_join_2 (fun rhr1 H locs hr1 hP hD hS => ?_)
  subst hr1
  refine W.eq (g2 := F0 m 5 ls [.int (bI true)]) (congrArg (fun z => F0 m 5 ls (.int z :: [])) (congrArg bI ((isE_n he).trans (decide_eq_true hee)))) ?_
  refine ri_ifeqB hx hb d_Net_join_5 (tgt := 29) (by decide) (fun h2 => ?_) (fun h2 => ?_)
  · exact absurd h2 (fun z => by cases z)
  · refine lv_iload_n hx hb d_Net_join_8 rfl (lv_at hl 2 rfl) ?_
    refine ct_rdS (As := [.int (nI g)]) (rest := []) ⟨hx, hb, hml, hown, ht⟩ (k_Net_isGroup l D cI cZ cJ cG (nI g)) (cb_S ht kc_Net_isGroup kl_Net_159 kn_Net ki_Net_isGroup hd_Net_isGroup ⟨Nat.le_of_ble_eq_true rfl, Nat.le_of_ble_eq_true rfl⟩) (wd_ct (Bs := [[(h, .inr (8, [.ref aE, .ref aL, .ref aS, .ref aK, .ref aR, .ref aD, .ref aG]))], [(aK, .inr (4, [.ref aL, .ref aS, .ref aM, .int S.lost]))], wE, wL, wS, wM, wR, wD, wG]) 9 rfl [] [0, 1, 2, 3, 4, 5, 6, 7, 8] (by decide) rfl) hK hP hD hS hA rfl hl.1 rfl (Nat.le_of_ble_eq_true rfl) ⟨(show 0 + 0 ≤ 1 by omega), (show 0 + 0 ≤ 6 by omega)⟩ d_Net_join_9 (fun rhr3 H locs hr3 hP hD hS => ?_)
    subst hr3
    refine W.eq (g2 := F0 m 12 ls [.int (bI true)]) (congrArg (fun z => F0 m 12 ls (.int z :: [])) (congrArg bI (rg_t8 hg))) ?_
    refine ri_ifeqB hx hb d_Net_join_12 (tgt := 29) (by decide) (fun h4 => ?_) (fun h4 => ?_)
    · exact absurd h4 (fun z => by cases z)
    · refine lv_iload_n hx hb d_Net_join_15 rfl (lv_at hl 3 rfl) ?_
      refine lv_iconst (v := nI 1) hx hb d_Net_join_16 (by decide) ?_
      refine lv_icmp_eq hx hb d_Net_join_17 (tgt := 25) (by decide) (fun h17 => ?_) (fun h17 => ?_)
      · refine lv_iconst (v := nI 1) hx hb d_Net_join_25 (by decide) ?_
        refine lv_goto hx hb d_Net_join_26 (tgt := 30) (by decide) ?_
        refine W.eq (g2 := F0 m 30 ls [.int (bI true)]) (congrArg (fun z => F0 m 30 ls (.int z :: [])) (rfl)) ?_
        refine ct_callSV (As := [.int (bI true)]) (rest := []) ⟨hx, hb, hml, hown, ht⟩ (k_Net_demand l D cI cZ cJ cG) (cb_S ht kc_Net_demand kl_Net_70 kn_Net ki_Net_demand hd_Net_demand ⟨Nat.le_of_ble_eq_true rfl, Nat.le_of_ble_eq_true rfl⟩) (wd_ct (Bs := [[(h, .inr (8, [.ref aE, .ref aL, .ref aS, .ref aK, .ref aR, .ref aD, .ref aG]))], [(aK, .inr (4, [.ref aL, .ref aS, .ref aM, .int S.lost]))], wE, wL, wS, wM, wR, wD, wG]) 9 rfl [] [0, 1, 2, 3, 4, 5, 6, 7, 8] (by decide) rfl) hK hP hD hS hA rfl hl.1 rfl (Nat.le_of_ble_eq_true rfl) ⟨(by decide), (by decide)⟩ d_Net_join_30 (fun u6 H locs hu6 hP hD hS => ?_)
        subst hu6
        refine W.widen (k := 0) (n := 0) (Nat.le_refl _) (Nat.le_refl _) ?_
        have hP := wd_nP (N := []) rfl 9 rfl [0, 1, 2, 3, 4, 5, 6, 7, 8] (by decide) hP
        have hD := wd_nD (N := []) rfl 9 rfl [0, 1, 2, 3, 4, 5, 6, 7, 8] (by decide) hD
        have hP : va_P D kls (List.flatten [[(h, .inr (8, [.ref aE, .ref aL, .ref aS, .ref aK, .ref aR, .ref aD, .ref aG]))], [(aK, .inr (4, [.ref aL, .ref aS, .ref aM, .int S.lost]))], wE, wL, wS, wM, wR, wD, wG]) H := hP
        have hD : va_D A (List.flatten [[(h, .inr (8, [.ref aE, .ref aL, .ref aS, .ref aK, .ref aR, .ref aD, .ref aG]))], [(aK, .inr (4, [.ref aL, .ref aS, .ref aM, .int S.lost]))], wE, wL, wS, wM, wR, wD, wG]) := hD
        refine W.eq (g2 := F0 m 33 ls []) rfl ?_
        refine lv_aload_n hx hb d_Net_join_33 rfl (lv_at hl 0 rfl) ?_
        refine va_get (D := D) (ci := 8) (v := .ref aG) (C := R_Net) (T := T_Net) (N := 7) hx hb ht in_Net hown hK hP 0 rfl rfl 6 (by decide) (ht _ kl_Net_62) (fun _ h9 => h9) rfl d_Net_join_34 ?_
        refine lv_iload_n hx hb d_Net_join_37 rfl (lv_at hl 1 rfl) ?_
        refine lv_iload_n hx hb d_Net_join_38 rfl (lv_at hl 2 rfl) ?_
        refine ct_rdV (C := R_Groups) (ci := 7) (As := [.int (nI e9), .int (nI g)]) (rest := []) ⟨hx, hb, hml, hown, ht⟩ (k_Groups_receiversOf l D cI cZ cJ cG kG e9 g he hg) (cb_V ht kc_Groups_receiversOf kl_Net_169 kn_Groups ki_Groups_receiversOf ks_Groups_receiversOf hd_Groups_receiversOf ⟨Nat.le_of_ble_eq_true rfl, Nat.le_of_ble_eq_true rfl⟩) (wd_mem 8 rfl mG) rfl rfl (wd_ct (Bs := [[(h, .inr (8, [.ref aE, .ref aL, .ref aS, .ref aK, .ref aR, .ref aD, .ref aG]))], [(aK, .inr (4, [.ref aL, .ref aS, .ref aM, .int S.lost]))], wE, wL, wS, wM, wR, wD, wG]) 9 rfl [8] [0, 1, 2, 3, 4, 5, 6, 7] (by decide) (wd_1 _)) hK hP hD hS hA rfl hl.1 rfl (Nat.le_of_ble_eq_true rfl) ⟨(show 0 + 0 ≤ 1 by omega), (show 0 + 0 ≤ 6 by omega)⟩ d_Net_join_39 (fun rhr7 H locs hr7 hP hD hS => ?_)
        subst hr7
        refine lv_iload_n hx hb d_Net_join_42 rfl (lv_at hl 3 rfl) ?_
        refine lv_iadd hx hb d_Net_join_43 ?_
        refine W.eq (g2 := F0 m 44 ls [.int (nI nx)]) (congrArg (fun z => F0 m 44 ls (.int z :: [])) (hsum)) ?_
        refine lv_istore hx hb d_Net_join_44 hl (by decide) rfl (fun ls hl => ?_)
        have hl : lv_has ls 5 [(4, .int (nI nx)), (0, .ref h), (1, .int (nI e9)), (2, .int (nI g)), (3, .int dl)] := hl
        refine lv_iload hx hb d_Net_join_46 (lv_at hl 0 rfl) ?_
        refine ri_if_lt hx hb (by omega) d_Net_join_48 (tgt := 62) (by decide) (fun h48 => ?_) (fun h48 => ?_)
        · exact absurd h48 (by omega)
        · refine lv_iload hx hb d_Net_join_51 (lv_at hl 0 rfl) ?_
          refine lv_bipush (v := nI 100) hx hb d_Net_join_53 (by decide) ?_
          refine ri_icmp_gt hx hb (by omega) (by omega) d_Net_join_55 (tgt := 62) (by decide) (fun h55 => ?_) (fun h55 => ?_)
          · exact absurd h55 (by omega)
          · refine lv_iconst (v := nI 1) hx hb d_Net_join_58 (by decide) ?_
            refine lv_goto hx hb d_Net_join_59 (tgt := 63) (by decide) ?_
            refine W.eq (g2 := F0 m 63 ls [.int (bI true)]) (congrArg (fun z => F0 m 63 ls (.int z :: [])) (rfl)) ?_
            refine ct_callSV (As := [.int (bI true)]) (rest := []) ⟨hx, hb, hml, hown, ht⟩ (k_Net_demand l D cI cZ cJ cG) (cb_S ht kc_Net_demand kl_Net_70 kn_Net ki_Net_demand hd_Net_demand ⟨Nat.le_of_ble_eq_true rfl, Nat.le_of_ble_eq_true rfl⟩) (wd_ct (Bs := [[(h, .inr (8, [.ref aE, .ref aL, .ref aS, .ref aK, .ref aR, .ref aD, .ref aG]))], [(aK, .inr (4, [.ref aL, .ref aS, .ref aM, .int S.lost]))], wE, wL, wS, wM, wR, wD, wG]) 9 rfl [] [0, 1, 2, 3, 4, 5, 6, 7, 8] (by decide) rfl) hK hP hD hS hA rfl hl.1 rfl (Nat.le_of_ble_eq_true rfl) ⟨(by decide), (by decide)⟩ d_Net_join_63 (fun u10 H locs hu10 hP hD hS => ?_)
            subst hu10
            refine W.widen (k := 0) (n := 0) (Nat.le_refl _) (Nat.le_refl _) ?_
            have hP := wd_nP (N := []) rfl 9 rfl [0, 1, 2, 3, 4, 5, 6, 7, 8] (by decide) hP
            have hD := wd_nD (N := []) rfl 9 rfl [0, 1, 2, 3, 4, 5, 6, 7, 8] (by decide) hD
            have hP : va_P D kls (List.flatten [[(h, .inr (8, [.ref aE, .ref aL, .ref aS, .ref aK, .ref aR, .ref aD, .ref aG]))], [(aK, .inr (4, [.ref aL, .ref aS, .ref aM, .int S.lost]))], wE, wL, wS, wM, wR, wD, wG]) H := hP
            have hD : va_D A (List.flatten [[(h, .inr (8, [.ref aE, .ref aL, .ref aS, .ref aK, .ref aR, .ref aD, .ref aG]))], [(aK, .inr (4, [.ref aL, .ref aS, .ref aM, .int S.lost]))], wE, wL, wS, wM, wR, wD, wG]) := hD
            refine W.eq (g2 := F0 m 66 ls []) rfl ?_
            refine lv_aload_n hx hb d_Net_join_66 rfl (lv_at hl 1 rfl) ?_
            refine va_get (D := D) (ci := 8) (v := .ref aG) (C := R_Net) (T := T_Net) (N := 7) hx hb ht in_Net hown hK hP 0 rfl rfl 6 (by decide) (ht _ kl_Net_62) (fun _ h9 => h9) rfl d_Net_join_67 ?_
            refine lv_iload_n hx hb d_Net_join_70 rfl (lv_at hl 2 rfl) ?_
            refine lv_iload_n hx hb d_Net_join_71 rfl (lv_at hl 3 rfl) ?_
            refine lv_iload hx hb d_Net_join_72 (lv_at hl 0 rfl) ?_
            refine ct_rdV (C := R_Groups) (ci := 7) (As := [.int (nI e9), .int (nI g), .int (nI nx)]) (rest := []) ⟨hx, hb, hml, hown, ht⟩ (k_Groups_hasRoomForCount l D cI cZ cJ cG kG e9 g nx he hg (fun a b => Nat.lt_of_le_of_lt (hg9.1 a b) (by decide)) (by omega) hg9.2.2.1) (cb_V ht kc_Groups_hasRoomForCount kl_Net_172 kn_Groups ki_Groups_hasRoomForCount ks_Groups_hasRoomForCount hd_Groups_hasRoomForCount ⟨Nat.le_of_ble_eq_true rfl, Nat.le_of_ble_eq_true rfl⟩) (wd_mem 8 rfl mG) rfl rfl (wd_ct (Bs := [[(h, .inr (8, [.ref aE, .ref aL, .ref aS, .ref aK, .ref aR, .ref aD, .ref aG]))], [(aK, .inr (4, [.ref aL, .ref aS, .ref aM, .int S.lost]))], wE, wL, wS, wM, wR, wD, wG]) 9 rfl [8] [0, 1, 2, 3, 4, 5, 6, 7] (by decide) (wd_1 _)) hK hP hD hS hA rfl hl.1 rfl (Nat.le_of_ble_eq_true rfl) ⟨(show 0 + 0 ≤ 1 by omega), (show 0 + 0 ≤ 6 by omega)⟩ d_Net_join_74 (fun rhr11 H locs hr11 hP hD hS => ?_)
            subst hr11
            refine W.eq (g2 := F0 m 77 ls [.int (bI false)]) (congrArg (fun z => F0 m 77 ls (.int z :: [])) (congrArg bI (bP_f hno))) ?_
            exact ct_throwS (As := [.int (bI false)]) (rest := []) hz hQ hlk ⟨hx, hb, hml, hown, ht⟩ (x_Net_demandRoom l s0 A0 h0 hfl D cI cZ cJ cG) (cb_S ht kc_Net_demandRoom kl_Net_88 kn_Net ki_Net_demandRoom hd_Net_demandRoom ⟨Nat.le_of_ble_eq_true rfl, Nat.le_of_ble_eq_true rfl⟩) (wd_ct (Bs := [[(h, .inr (8, [.ref aE, .ref aL, .ref aS, .ref aK, .ref aR, .ref aD, .ref aG]))], [(aK, .inr (4, [.ref aL, .ref aS, .ref aM, .int S.lost]))], wE, wL, wS, wM, wR, wD, wG]) 9 rfl [] [0, 1, 2, 3, 4, 5, 6, 7, 8] (by decide) rfl) hK hP hD hS hA rfl hl.1 rfl (Nat.le_of_ble_eq_true rfl) ⟨by decide, by decide⟩ ⟨by decide, by decide⟩ d_Net_join_77 (fun u hu => by subst hu; exact ⟨aE, aL, aS, aK, aR, aD, aG, aM, aP, aC, wE, wL, wS, wM, wR, wD, wG, rfl, kE, kL, kS, kM, kR, kD, kG⟩)
      · refine lv_iload_n hx hb d_Net_join_20 rfl (lv_at hl 3 rfl) ?_
        refine lv_iconst (v := (-1)) hx hb d_Net_join_21 (by decide) ?_
        refine lv_icmp_ne hx hb d_Net_join_22 (tgt := 29) (by decide) (fun h22 => ?_) (fun h22 => ?_)
        · exact absurd h22 (fun z => by rcases hdl with q | q; exact h17 q; exact z q)
        · refine lv_iconst (v := nI 1) hx hb d_Net_join_25 (by decide) ?_
          refine lv_goto hx hb d_Net_join_26 (tgt := 30) (by decide) ?_
          refine W.eq (g2 := F0 m 30 ls [.int (bI true)]) (congrArg (fun z => F0 m 30 ls (.int z :: [])) (rfl)) ?_
          refine ct_callSV (As := [.int (bI true)]) (rest := []) ⟨hx, hb, hml, hown, ht⟩ (k_Net_demand l D cI cZ cJ cG) (cb_S ht kc_Net_demand kl_Net_70 kn_Net ki_Net_demand hd_Net_demand ⟨Nat.le_of_ble_eq_true rfl, Nat.le_of_ble_eq_true rfl⟩) (wd_ct (Bs := [[(h, .inr (8, [.ref aE, .ref aL, .ref aS, .ref aK, .ref aR, .ref aD, .ref aG]))], [(aK, .inr (4, [.ref aL, .ref aS, .ref aM, .int S.lost]))], wE, wL, wS, wM, wR, wD, wG]) 9 rfl [] [0, 1, 2, 3, 4, 5, 6, 7, 8] (by decide) rfl) hK hP hD hS hA rfl hl.1 rfl (Nat.le_of_ble_eq_true rfl) ⟨(by decide), (by decide)⟩ d_Net_join_30 (fun u13 H locs hu13 hP hD hS => ?_)
          subst hu13
          refine W.widen (k := 0) (n := 0) (Nat.le_refl _) (Nat.le_refl _) ?_
          have hP := wd_nP (N := []) rfl 9 rfl [0, 1, 2, 3, 4, 5, 6, 7, 8] (by decide) hP
          have hD := wd_nD (N := []) rfl 9 rfl [0, 1, 2, 3, 4, 5, 6, 7, 8] (by decide) hD
          have hP : va_P D kls (List.flatten [[(h, .inr (8, [.ref aE, .ref aL, .ref aS, .ref aK, .ref aR, .ref aD, .ref aG]))], [(aK, .inr (4, [.ref aL, .ref aS, .ref aM, .int S.lost]))], wE, wL, wS, wM, wR, wD, wG]) H := hP
          have hD : va_D A (List.flatten [[(h, .inr (8, [.ref aE, .ref aL, .ref aS, .ref aK, .ref aR, .ref aD, .ref aG]))], [(aK, .inr (4, [.ref aL, .ref aS, .ref aM, .int S.lost]))], wE, wL, wS, wM, wR, wD, wG]) := hD
          refine W.eq (g2 := F0 m 33 ls []) rfl ?_
          refine lv_aload_n hx hb d_Net_join_33 rfl (lv_at hl 0 rfl) ?_
          refine va_get (D := D) (ci := 8) (v := .ref aG) (C := R_Net) (T := T_Net) (N := 7) hx hb ht in_Net hown hK hP 0 rfl rfl 6 (by decide) (ht _ kl_Net_62) (fun _ h9 => h9) rfl d_Net_join_34 ?_
          refine lv_iload_n hx hb d_Net_join_37 rfl (lv_at hl 1 rfl) ?_
          refine lv_iload_n hx hb d_Net_join_38 rfl (lv_at hl 2 rfl) ?_
          refine ct_rdV (C := R_Groups) (ci := 7) (As := [.int (nI e9), .int (nI g)]) (rest := []) ⟨hx, hb, hml, hown, ht⟩ (k_Groups_receiversOf l D cI cZ cJ cG kG e9 g he hg) (cb_V ht kc_Groups_receiversOf kl_Net_169 kn_Groups ki_Groups_receiversOf ks_Groups_receiversOf hd_Groups_receiversOf ⟨Nat.le_of_ble_eq_true rfl, Nat.le_of_ble_eq_true rfl⟩) (wd_mem 8 rfl mG) rfl rfl (wd_ct (Bs := [[(h, .inr (8, [.ref aE, .ref aL, .ref aS, .ref aK, .ref aR, .ref aD, .ref aG]))], [(aK, .inr (4, [.ref aL, .ref aS, .ref aM, .int S.lost]))], wE, wL, wS, wM, wR, wD, wG]) 9 rfl [8] [0, 1, 2, 3, 4, 5, 6, 7] (by decide) (wd_1 _)) hK hP hD hS hA rfl hl.1 rfl (Nat.le_of_ble_eq_true rfl) ⟨(show 0 + 0 ≤ 1 by omega), (show 0 + 0 ≤ 6 by omega)⟩ d_Net_join_39 (fun rhr14 H locs hr14 hP hD hS => ?_)
          subst hr14
          refine lv_iload_n hx hb d_Net_join_42 rfl (lv_at hl 3 rfl) ?_
          refine lv_iadd hx hb d_Net_join_43 ?_
          refine W.eq (g2 := F0 m 44 ls [.int (nI nx)]) (congrArg (fun z => F0 m 44 ls (.int z :: [])) (hsum)) ?_
          refine lv_istore hx hb d_Net_join_44 hl (by decide) rfl (fun ls hl => ?_)
          have hl : lv_has ls 5 [(4, .int (nI nx)), (0, .ref h), (1, .int (nI e9)), (2, .int (nI g)), (3, .int dl)] := hl
          refine lv_iload hx hb d_Net_join_46 (lv_at hl 0 rfl) ?_
          refine ri_if_lt hx hb (by omega) d_Net_join_48 (tgt := 62) (by decide) (fun h48 => ?_) (fun h48 => ?_)
          · exact absurd h48 (by omega)
          · refine lv_iload hx hb d_Net_join_51 (lv_at hl 0 rfl) ?_
            refine lv_bipush (v := nI 100) hx hb d_Net_join_53 (by decide) ?_
            refine ri_icmp_gt hx hb (by omega) (by omega) d_Net_join_55 (tgt := 62) (by decide) (fun h55 => ?_) (fun h55 => ?_)
            · exact absurd h55 (by omega)
            · refine lv_iconst (v := nI 1) hx hb d_Net_join_58 (by decide) ?_
              refine lv_goto hx hb d_Net_join_59 (tgt := 63) (by decide) ?_
              refine W.eq (g2 := F0 m 63 ls [.int (bI true)]) (congrArg (fun z => F0 m 63 ls (.int z :: [])) (rfl)) ?_
              refine ct_callSV (As := [.int (bI true)]) (rest := []) ⟨hx, hb, hml, hown, ht⟩ (k_Net_demand l D cI cZ cJ cG) (cb_S ht kc_Net_demand kl_Net_70 kn_Net ki_Net_demand hd_Net_demand ⟨Nat.le_of_ble_eq_true rfl, Nat.le_of_ble_eq_true rfl⟩) (wd_ct (Bs := [[(h, .inr (8, [.ref aE, .ref aL, .ref aS, .ref aK, .ref aR, .ref aD, .ref aG]))], [(aK, .inr (4, [.ref aL, .ref aS, .ref aM, .int S.lost]))], wE, wL, wS, wM, wR, wD, wG]) 9 rfl [] [0, 1, 2, 3, 4, 5, 6, 7, 8] (by decide) rfl) hK hP hD hS hA rfl hl.1 rfl (Nat.le_of_ble_eq_true rfl) ⟨(by decide), (by decide)⟩ d_Net_join_63 (fun u17 H locs hu17 hP hD hS => ?_)
              subst hu17
              refine W.widen (k := 0) (n := 0) (Nat.le_refl _) (Nat.le_refl _) ?_
              have hP := wd_nP (N := []) rfl 9 rfl [0, 1, 2, 3, 4, 5, 6, 7, 8] (by decide) hP
              have hD := wd_nD (N := []) rfl 9 rfl [0, 1, 2, 3, 4, 5, 6, 7, 8] (by decide) hD
              have hP : va_P D kls (List.flatten [[(h, .inr (8, [.ref aE, .ref aL, .ref aS, .ref aK, .ref aR, .ref aD, .ref aG]))], [(aK, .inr (4, [.ref aL, .ref aS, .ref aM, .int S.lost]))], wE, wL, wS, wM, wR, wD, wG]) H := hP
              have hD : va_D A (List.flatten [[(h, .inr (8, [.ref aE, .ref aL, .ref aS, .ref aK, .ref aR, .ref aD, .ref aG]))], [(aK, .inr (4, [.ref aL, .ref aS, .ref aM, .int S.lost]))], wE, wL, wS, wM, wR, wD, wG]) := hD
              refine W.eq (g2 := F0 m 66 ls []) rfl ?_
              refine lv_aload_n hx hb d_Net_join_66 rfl (lv_at hl 1 rfl) ?_
              refine va_get (D := D) (ci := 8) (v := .ref aG) (C := R_Net) (T := T_Net) (N := 7) hx hb ht in_Net hown hK hP 0 rfl rfl 6 (by decide) (ht _ kl_Net_62) (fun _ h9 => h9) rfl d_Net_join_67 ?_
              refine lv_iload_n hx hb d_Net_join_70 rfl (lv_at hl 2 rfl) ?_
              refine lv_iload_n hx hb d_Net_join_71 rfl (lv_at hl 3 rfl) ?_
              refine lv_iload hx hb d_Net_join_72 (lv_at hl 0 rfl) ?_
              refine ct_rdV (C := R_Groups) (ci := 7) (As := [.int (nI e9), .int (nI g), .int (nI nx)]) (rest := []) ⟨hx, hb, hml, hown, ht⟩ (k_Groups_hasRoomForCount l D cI cZ cJ cG kG e9 g nx he hg (fun a b => Nat.lt_of_le_of_lt (hg9.1 a b) (by decide)) (by omega) hg9.2.2.1) (cb_V ht kc_Groups_hasRoomForCount kl_Net_172 kn_Groups ki_Groups_hasRoomForCount ks_Groups_hasRoomForCount hd_Groups_hasRoomForCount ⟨Nat.le_of_ble_eq_true rfl, Nat.le_of_ble_eq_true rfl⟩) (wd_mem 8 rfl mG) rfl rfl (wd_ct (Bs := [[(h, .inr (8, [.ref aE, .ref aL, .ref aS, .ref aK, .ref aR, .ref aD, .ref aG]))], [(aK, .inr (4, [.ref aL, .ref aS, .ref aM, .int S.lost]))], wE, wL, wS, wM, wR, wD, wG]) 9 rfl [8] [0, 1, 2, 3, 4, 5, 6, 7] (by decide) (wd_1 _)) hK hP hD hS hA rfl hl.1 rfl (Nat.le_of_ble_eq_true rfl) ⟨(show 0 + 0 ≤ 1 by omega), (show 0 + 0 ≤ 6 by omega)⟩ d_Net_join_74 (fun rhr18 H locs hr18 hP hD hS => ?_)
              subst hr18
              refine W.eq (g2 := F0 m 77 ls [.int (bI false)]) (congrArg (fun z => F0 m 77 ls (.int z :: [])) (congrArg bI (bP_f hno))) ?_
              exact ct_throwS (As := [.int (bI false)]) (rest := []) hz hQ hlk ⟨hx, hb, hml, hown, ht⟩ (x_Net_demandRoom l s0 A0 h0 hfl D cI cZ cJ cG) (cb_S ht kc_Net_demandRoom kl_Net_88 kn_Net ki_Net_demandRoom hd_Net_demandRoom ⟨Nat.le_of_ble_eq_true rfl, Nat.le_of_ble_eq_true rfl⟩) (wd_ct (Bs := [[(h, .inr (8, [.ref aE, .ref aL, .ref aS, .ref aK, .ref aR, .ref aD, .ref aG]))], [(aK, .inr (4, [.ref aL, .ref aS, .ref aM, .int S.lost]))], wE, wL, wS, wM, wR, wD, wG]) 9 rfl [] [0, 1, 2, 3, 4, 5, 6, 7, 8] (by decide) rfl) hK hP hD hS hA rfl hl.1 rfl (Nat.le_of_ble_eq_true rfl) ⟨by decide, by decide⟩ ⟨by decide, by decide⟩ d_Net_join_77 (fun u hu => by subst hu; exact ⟨aE, aL, aS, aK, aR, aD, aG, aM, aP, aC, wE, wL, wS, wM, wR, wD, wG, rfl, kE, kL, kS, kM, kR, kD, kG⟩)
