/-! BitNet: mask. -/
theorem fl_mid (X Y Z : List va_W) : List.flatten (X ++ List.flatten Y :: Z) = List.flatten (X ++ (Y ++ Z)) := by simp
set_option maxHeartbeats 800000 in
set_option maxRecDepth 100000 in
theorem k_Net_mask (l : Launch) (D : va_G) (cI cZ cJ cG : ClassId) {h : Nat} {S : bm_S} {ws : va_W} (hR : nt_R cI cZ cG h S ws) (hi : bm_si S) (r o : Nat) (hr9 : r < 12) (ho9 : o < 12) : ct_I l D kls (ty4 cI cZ cJ cG) y_Net_mask ws_Net_mask (rm_ 5 115 0 0) [.ref h, .int (nI r), .int (nI o)] (ws) (fun z u => z = bm_mkr S.T.1.2.2 S.T.2.1 S.eb r o ∧ nt_R cI cZ cG h S u) 0 0 := by
  obtain ⟨aE, aL, aS, aK, aR, aD, aG, aM, aP, aC, wE, wL, wS, wM, wR, wD, wG, rfl, kE, kL, kS, kM, kR, kD, kG⟩ := hR
  obtain ⟨fsE, mE⟩ := kE.mem
  obtain ⟨fsL, mL⟩ := kL.mem
  obtain ⟨fsS, mS⟩ := kS.mem
  obtain ⟨fsR, mR⟩ := kR.mem
  obtain ⟨fsD, mD⟩ := kD.mem
  obtain ⟨fsG, mG⟩ := kG.mem
  refine ct_enterI (cc := b_Net_mask) (maxL := 3) (ret := (some .int)) (by decide +kernel) (Nat.le_of_ble_eq_true rfl) ?_
  intro p e s m args below meth c hx hb hml hr ht hown hlk hnm A Q hA hK hP hD hQ ls hl
  have hown : s.vm.findClass R_Net = some m.cls := hown
  have hS : va_S A s.heap s.heap [] := va_S.rf
  have hl : lv_has ls 3 [(0, .ref h), (1, .int (nI r)), (2, .int (nI o))] := hl
  obtain ⟨mk8, ra8, kR8, hca8⟩ := kR
  have hok := hi.2.2.2.2.1
  refine lv_iload_n hx hb d_Net_mask_0 rfl (lv_at hl 1 rfl) ?_
  refine ct_rdS (As := [.int (nI r)]) (rest := []) ⟨hx, hb, hml, hown, ht⟩ (k_Net_isRouter l D cI cZ cJ cG (nI r)) (cb_S ht kc_Net_isRouter kl_Net_66 kn_Net ki_Net_isRouter hd_Net_isRouter ⟨Nat.le_of_ble_eq_true rfl, Nat.le_of_ble_eq_true rfl⟩) (wd_ct (Bs := [[(h, .inr (8, [.ref aE, .ref aL, .ref aS, .ref aK, .ref aR, .ref aD, .ref aG]))], [(aK, .inr (4, [.ref aL, .ref aS, .ref aM, .int S.lost]))], wE, wL, wS, wM, wR, wD, wG]) 9 rfl [] [0, 1, 2, 3, 4, 5, 6, 7, 8] (by decide) rfl) hK hP hD hS hA rfl hl.1 rfl (Nat.le_of_ble_eq_true rfl) ⟨(show 0 + 0 ≤ 0 by omega), (show 0 + 0 ≤ 0 by omega)⟩ d_Net_mask_1 (fun rhr1 H locs hr1 hP hD hS => ?_)
  subst hr1
  refine W.eq (g2 := F0 m 4 ls [.int (bI true)]) (congrArg (fun z => F0 m 4 ls (.int z :: [])) (congrArg bI (rg_t12 hr9))) ?_
  refine ri_ifeqB hx hb d_Net_mask_4 (tgt := 18) (by decide) (fun h2 => ?_) (fun h2 => ?_)
  · exact absurd h2 (fun z => by cases z)
  · refine lv_iload_n hx hb d_Net_mask_7 rfl (lv_at hl 2 rfl) ?_
    refine ct_rdS (As := [.int (nI o)]) (rest := []) ⟨hx, hb, hml, hown, ht⟩ (k_Net_isRouter l D cI cZ cJ cG (nI o)) (cb_S ht kc_Net_isRouter kl_Net_66 kn_Net ki_Net_isRouter hd_Net_isRouter ⟨Nat.le_of_ble_eq_true rfl, Nat.le_of_ble_eq_true rfl⟩) (wd_ct (Bs := [[(h, .inr (8, [.ref aE, .ref aL, .ref aS, .ref aK, .ref aR, .ref aD, .ref aG]))], [(aK, .inr (4, [.ref aL, .ref aS, .ref aM, .int S.lost]))], wE, wL, wS, wM, wR, wD, wG]) 9 rfl [] [0, 1, 2, 3, 4, 5, 6, 7, 8] (by decide) rfl) hK hP hD hS hA rfl hl.1 rfl (Nat.le_of_ble_eq_true rfl) ⟨(show 0 + 0 ≤ 0 by omega), (show 0 + 0 ≤ 0 by omega)⟩ d_Net_mask_8 (fun rhr3 H locs hr3 hP hD hS => ?_)
    subst hr3
    refine W.eq (g2 := F0 m 11 ls [.int (bI true)]) (congrArg (fun z => F0 m 11 ls (.int z :: [])) (congrArg bI (rg_t12 ho9))) ?_
    refine ri_ifeqB hx hb d_Net_mask_11 (tgt := 18) (by decide) (fun h4 => ?_) (fun h4 => ?_)
    · exact absurd h4 (fun z => by cases z)
    · refine lv_iconst (v := nI 1) hx hb d_Net_mask_14 (by decide) ?_
      refine lv_goto hx hb d_Net_mask_15 (tgt := 19) (by decide) ?_
      refine W.eq (g2 := F0 m 19 ls [.int (bI true)]) (congrArg (fun z => F0 m 19 ls (.int z :: [])) (rfl)) ?_
      refine ct_callSV (As := [.int (bI true)]) (rest := []) ⟨hx, hb, hml, hown, ht⟩ (k_Net_demand l D cI cZ cJ cG) (cb_S ht kc_Net_demand kl_Net_70 kn_Net ki_Net_demand hd_Net_demand ⟨Nat.le_of_ble_eq_true rfl, Nat.le_of_ble_eq_true rfl⟩) (wd_ct (Bs := [[(h, .inr (8, [.ref aE, .ref aL, .ref aS, .ref aK, .ref aR, .ref aD, .ref aG]))], [(aK, .inr (4, [.ref aL, .ref aS, .ref aM, .int S.lost]))], wE, wL, wS, wM, wR, wD, wG]) 9 rfl [] [0, 1, 2, 3, 4, 5, 6, 7, 8] (by decide) rfl) hK hP hD hS hA rfl hl.1 rfl (Nat.le_of_ble_eq_true rfl) ⟨(show 0 + 0 ≤ 0 by omega), (show 0 + 0 ≤ 0 by omega)⟩ d_Net_mask_19 (fun u5 H locs hu5 hP hD hS => ?_)
      subst hu5
      refine W.widen (k := 0) (n := 0) (Nat.le_refl _) (Nat.le_refl _) ?_
      have hP := wd_nP (N := []) rfl 9 rfl [0, 1, 2, 3, 4, 5, 6, 7, 8] (by decide) hP
      have hD := wd_nD (N := []) rfl 9 rfl [0, 1, 2, 3, 4, 5, 6, 7, 8] (by decide) hD
      have hP : va_P D kls (List.flatten [[(h, .inr (8, [.ref aE, .ref aL, .ref aS, .ref aK, .ref aR, .ref aD, .ref aG]))], [(aK, .inr (4, [.ref aL, .ref aS, .ref aM, .int S.lost]))], wE, wL, wS, wM, wR, wD, wG]) H := hP
      have hD : va_D A (List.flatten [[(h, .inr (8, [.ref aE, .ref aL, .ref aS, .ref aK, .ref aR, .ref aD, .ref aG]))], [(aK, .inr (4, [.ref aL, .ref aS, .ref aM, .int S.lost]))], wE, wL, wS, wM, wR, wD, wG]) := hD
      refine W.eq (g2 := F0 m 22 ls []) rfl ?_
      refine lv_aload_n hx hb d_Net_mask_22 rfl (lv_at hl 0 rfl) ?_
      refine va_get (D := D) (ci := 8) (v := .ref aR) (C := R_Net) (T := T_Net) (N := 7) hx hb ht in_Net hown hK hP 0 rfl rfl 4 (by decide) (ht _ kl_Net_44) (fun _ h9 => h9) rfl d_Net_mask_23 ?_
      refine lv_iload_n hx hb d_Net_mask_26 rfl (lv_at hl 1 rfl) ?_
      refine ct_callVA (C := R_Routes) (ci := 5) (As := [.int (nI r)]) (rest := []) ⟨hx, hb, hml, hown, ht⟩ (k_Routes_masksOf l D cI cZ cJ cG kR8 kS kE hca8 r hr9 (hok.1 r hr9) (fun x hx => hok.2.1 r x hr9 hx) hok.2.2.1 (hok.2.2.2.1 r hr9) (hok.2.2.2.2 r hr9)) (cb_V ht kc_Routes_masksOf kl_Net_142 kn_Routes ki_Routes_masksOf ks_Routes_masksOf hd_Routes_masksOf ⟨Nat.le_of_ble_eq_true rfl, Nat.le_of_ble_eq_true rfl⟩) (wd_mem 6 rfl mR) rfl rfl (wd_ct (Bs := [[(h, .inr (8, [.ref aE, .ref aL, .ref aS, .ref aK, .ref aR, .ref aD, .ref aG]))], [(aK, .inr (4, [.ref aL, .ref aS, .ref aM, .int S.lost]))], wE, wL, wS, wM, wR, wD, wG]) 9 rfl [6, 4, 2] [0, 1, 3, 5, 7, 8] (by decide) rfl) hK hP hD hS hA rfl hl.1 rfl (Nat.le_of_ble_eq_true rfl) ⟨(show 0 + 0 ≤ 0 by omega), (show 0 + 0 ≤ 0 by omega)⟩ d_Net_mask_27 (fun ru6 u6 H locs hu6 hP hD hS => ?_)
      obtain ⟨gm, qr, gw, ql, qf, qd, rm, rw, mk, ra, M, L, Hh, Nn, rfl, rfl, hca, hmk⟩ := hu6
      refine W.widen (k := 0) (n := 0) (Nat.le_refl _) (Nat.le_refl _) ?_
      have hP := wd_nP (N := [[(aR, .inr (5, [.ref aS, .ref aE, .ref gm, .ref qr, .ref gw, .ref ql, .ref qf, .ref qd]))], [(gm, .inl (cG, 12, .inr (.inr (.inr (.inr (go rm))))))], [(qr, .inl (cI, 12, .inl (cN ra)))], [(gw, .inl (cG, 12, .inr (.inr (.inr (.inr (go rw))))))], [(ql, .inl (cI, 12, .inl (lI L)))], [(qf, .inl (cI, 12, .inl (cN Hh)))], [(qd, .inl (cZ, 12, .inl (dB Nn)))], gd cI 12 rm mk, gd cI 12 rw M, wS, wE]) (by rw [fl_exp]; rfl) 17 rfl [0, 1, 2, 3, 4, 5, 6, 11, 12, 7, 8, 9, 10, 13, 14, 15, 16] (by decide) hP
      have hD := wd_nD (N := [[(aR, .inr (5, [.ref aS, .ref aE, .ref gm, .ref qr, .ref gw, .ref ql, .ref qf, .ref qd]))], [(gm, .inl (cG, 12, .inr (.inr (.inr (.inr (go rm))))))], [(qr, .inl (cI, 12, .inl (cN ra)))], [(gw, .inl (cG, 12, .inr (.inr (.inr (.inr (go rw))))))], [(ql, .inl (cI, 12, .inl (lI L)))], [(qf, .inl (cI, 12, .inl (cN Hh)))], [(qd, .inl (cZ, 12, .inl (dB Nn)))], gd cI 12 rm mk, gd cI 12 rw M, wS, wE]) (by rw [fl_exp]; rfl) 17 rfl [0, 1, 2, 3, 4, 5, 6, 11, 12, 7, 8, 9, 10, 13, 14, 15, 16] (by decide) hD
      have hP : va_P D kls (List.flatten [[(aR, .inr (5, [.ref aS, .ref aE, .ref gm, .ref qr, .ref gw, .ref ql, .ref qf, .ref qd]))], [(gm, .inl (cG, 12, .inr (.inr (.inr (.inr (go rm))))))], [(qr, .inl (cI, 12, .inl (cN ra)))], [(gw, .inl (cG, 12, .inr (.inr (.inr (.inr (go rw))))))], [(ql, .inl (cI, 12, .inl (lI L)))], [(qf, .inl (cI, 12, .inl (cN Hh)))], [(qd, .inl (cZ, 12, .inl (dB Nn)))], [(h, .inr (8, [.ref aE, .ref aL, .ref aS, .ref aK, .ref aR, .ref aD, .ref aG]))], [(aK, .inr (4, [.ref aL, .ref aS, .ref aM, .int S.lost]))], gd cI 12 rm mk, gd cI 12 rw M, wS, wE, wL, wM, wD, wG]) H := hP
      have hD : va_D A (List.flatten [[(aR, .inr (5, [.ref aS, .ref aE, .ref gm, .ref qr, .ref gw, .ref ql, .ref qf, .ref qd]))], [(gm, .inl (cG, 12, .inr (.inr (.inr (.inr (go rm))))))], [(qr, .inl (cI, 12, .inl (cN ra)))], [(gw, .inl (cG, 12, .inr (.inr (.inr (.inr (go rw))))))], [(ql, .inl (cI, 12, .inl (lI L)))], [(qf, .inl (cI, 12, .inl (cN Hh)))], [(qd, .inl (cZ, 12, .inl (dB Nn)))], [(h, .inr (8, [.ref aE, .ref aL, .ref aS, .ref aK, .ref aR, .ref aD, .ref aG]))], [(aK, .inr (4, [.ref aL, .ref aS, .ref aM, .int S.lost]))], gd cI 12 rm mk, gd cI 12 rw M, wS, wE, wL, wM, wD, wG]) := hD
      refine W.eq (g2 := F0 m 30 ls [.ref (rm r)]) rfl ?_
      refine lv_iload_n hx hb d_Net_mask_30 rfl (lv_at hl 2 rfl) ?_
      refine ri_gld hx hb hK hP 9 0 rfl rfl (i := r) (j := o) hr9 ho9 (by decide) d_Net_mask_31 ?_
      refine W.eq (g2 := F0 m 32 ls [.int (mk r o)]) rfl ?_
      refine W.eq (g2 := F0 m 32 ls [.int (bm_mkr S.T.1.2.2 S.T.2.1 S.eb r o)]) (congrArg (fun z => F0 m 32 ls (.int z :: [])) (hmk o ho9)) ?_
      have hP := wd_rP 17 rfl [7, 8, 12, 13, 11, 14, 0, 1, 2, 3, 4, 5, 6, 9, 10, 15, 16] (by decide) hP
      have hD := wd_rD 17 rfl [7, 8, 12, 13, 11, 14, 0, 1, 2, 3, 4, 5, 6, 9, 10, 15, 16] (by decide) hD
      exact ct_iret hQ hx hb hr hlk hP hD hS hK (by omega) (by omega) d_Net_mask_32 (⟨rfl, aE, aL, aS, aK, aR, aD, aG, aM, aP, aC, wE, wL, wS, wM, ro_w cI cZ cG aR aS aE gm qr gw ql qf qd rm rw mk ra M L Hh Nn, wD, wG, (fl_mid [[(h, .inr (8, [.ref aE, .ref aL, .ref aS, .ref aK, .ref aR, .ref aD, .ref aG]))], [(aK, .inr (4, [.ref aL, .ref aS, .ref aM, .int S.lost]))], wE, wL, wS, wM] [[(aR, .inr (5, [.ref aS, .ref aE, .ref gm, .ref qr, .ref gw, .ref ql, .ref qf, .ref qd]))], [(gm, .inl (cG, 12, .inr (.inr (.inr (.inr (go rm))))))], [(qr, .inl (cI, 12, .inl (cN ra)))], [(gw, .inl (cG, 12, .inr (.inr (.inr (.inr (go rw))))))], [(ql, .inl (cI, 12, .inl (lI L)))], [(qf, .inl (cI, 12, .inl (cN Hh)))], [(qd, .inl (cZ, 12, .inl (dB Nn)))], gd cI 12 rm mk, gd cI 12 rw M] [wD, wG]).symm, kE, kL, kS, kM, ⟨mk, ra, ⟨gm, qr, gw, ql, qf, qd, rm, rw, M, L, Hh, Nn, rfl⟩, hca⟩, kD, kG⟩)
