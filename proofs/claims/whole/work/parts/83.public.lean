/-! BitNet's public methods, first part. -/
theorem rg_t12 {n : Nat} (h : n < 12) : rg 0 12 (nI n) = true := by
  rw [rg_nI (show n < 2 ^ 31 by omega)]
  exact decide_eq_true (by omega)
theorem rg_t8 {n : Nat} (h : n < 8) : rg 0 8 (nI n) = true := by
  rw [rg_nI (show n < 2 ^ 31 by omega)]
  exact decide_eq_true (by omega)
def bm_edge (r b : Nat) (S : bm_S) : bm_S := (bm_up1 S.eb r (some b), S.tk ||| bm_em (some b), S.es + 1, S.lk, S.kn, S.T, S.lost, S.D, S.G)
theorem rt_edge {cI cZ cG : ClassId} {h aS aE : Nat} {Ad hd : Nat → Nat → Nat} {ch : Nat → Nat} {eb eb2 : Nat → Option Nat} {es : Nat} {wR : va_W} (hR : rt_R cI cZ cG h aS aE Ad hd ch eb es wR) : rt_R cI cZ cG h aS aE Ad hd ch eb2 (es + 1) wR := by
  obtain ⟨mk, ra, k1, k2⟩ := hR
  exact ⟨mk, ra, k1, fun r hr => ⟨by have := (k2 r hr).1; omega, fun e => by have := (k2 r hr).1; omega⟩⟩
set_option maxHeartbeats 4000000 in
set_option maxRecDepth 100000 in
theorem k_Net_edge (l : Launch) (D : va_G) (cI cZ cJ cG : ClassId) {h : Nat} {S : bm_S} {ws : va_W} (hR : nt_R cI cZ cG h S ws) (r b : Nat) (hr9 : r < 12) (hb9 : b < 32) (hne : bm_em (S.eb r) = 0) (hnt : S.tk &&& bm_em (some b) = 0) : ct_V l D kls (ty4 cI cZ cJ cG) y_Net_edge ws_Net_edge (rm_ 1 22 0 0) [.ref h, .int (nI r), .int (nI b)] (ws) (fun u => nt_R cI cZ cG h (bm_edge r b S) u) 0 0 := by
  obtain ⟨aE, aL, aS, aK, aR, aD, aG, aM, aP, aC, wE, wL, wS, wM, wR, wD, wG, rfl, kE, kL, kS, kM, kR, kD, kG⟩ := hR
  obtain ⟨fsE, mE⟩ := kE.mem
  obtain ⟨fsL, mL⟩ := kL.mem
  obtain ⟨fsS, mS⟩ := kS.mem
  obtain ⟨fsR, mR⟩ := kR.mem
  obtain ⟨fsD, mD⟩ := kD.mem
  obtain ⟨fsG, mG⟩ := kG.mem
  refine ct_enterV (cc := b_Net_edge) (maxL := 3) (ret := none) (by decide +kernel) (Nat.le_of_ble_eq_true rfl) ?_
  intro p e s m args below meth c hx hb hml hr ht hown hlk hnm A Q hA hK hP hD hQ ls hl
  have hown : s.vm.findClass R_Net = some m.cls := hown
  have hS : va_S A s.heap s.heap [] := va_S.rf
  have hl : lv_has ls 3 [(0, .ref h), (1, .int (nI r)), (2, .int (nI b))] := hl
  refine lv_iload_n hx hb d_Net_edge_0 rfl (lv_at hl 1 rfl) ?_
  refine ct_rdS (As := [.int (nI r)]) (rest := []) ⟨hx, hb, hml, hown, ht⟩ (k_Net_isRouter l D cI cZ cJ cG (nI r)) (cb_S ht kc_Net_isRouter kl_Net_66 kn_Net ki_Net_isRouter hd_Net_isRouter ⟨Nat.le_of_ble_eq_true rfl, Nat.le_of_ble_eq_true rfl⟩) (wd_ct (Bs := [[(h, .inr (8, [.ref aE, .ref aL, .ref aS, .ref aK, .ref aR, .ref aD, .ref aG]))], [(aK, .inr (4, [.ref aL, .ref aS, .ref aM, .int S.lost]))], wE, wL, wS, wM, wR, wD, wG]) 9 rfl [] [0, 1, 2, 3, 4, 5, 6, 7, 8] (by decide) rfl) hK hP hD hS hA rfl hl.1 rfl (Nat.le_of_ble_eq_true rfl) ⟨(show 0 + 0 ≤ 0 by omega), (show 0 + 0 ≤ 0 by omega)⟩ d_Net_edge_1 (fun rhr1 H locs hr1 hP hD hS => ?_)
  subst hr1
  refine W.eq (g2 := F0 m 4 ls [.int (bI true)]) (congrArg (fun z => F0 m 4 ls (.int z :: [])) (congrArg bI (rg_t12 hr9))) ?_
  refine ri_ifeqB hx hb d_Net_edge_4 (tgt := 21) (by decide) (fun h2 => ?_) (fun h2 => ?_)
  · exact absurd h2 (fun z => by cases z)
  · refine lv_iload_n hx hb d_Net_edge_7 rfl (lv_at hl 2 rfl) ?_
    refine ri_if_lt hx hb (by omega) d_Net_edge_8 (tgt := 21) (by decide) (fun h8 => ?_) (fun h8 => ?_)
    · exact absurd h8 (by omega)
    · refine lv_iload_n hx hb d_Net_edge_11 rfl (lv_at hl 2 rfl) ?_
      refine lv_bipush (v := nI 32) hx hb d_Net_edge_12 (by decide) ?_
      refine ri_icmp_ge hx hb (by omega) (by omega) d_Net_edge_14 (tgt := 21) (by decide) (fun h14 => ?_) (fun h14 => ?_)
      · exact absurd h14 (by omega)
      · refine lv_iconst (v := nI 1) hx hb d_Net_edge_17 (by decide) ?_
        refine lv_goto hx hb d_Net_edge_18 (tgt := 22) (by decide) ?_
        refine W.eq (g2 := F0 m 22 ls [.int (bI true)]) (congrArg (fun z => F0 m 22 ls (.int z :: [])) (rfl)) ?_
        refine ct_callSV (As := [.int (bI true)]) (rest := []) ⟨hx, hb, hml, hown, ht⟩ (k_Net_demand l D cI cZ cJ cG) (cb_S ht kc_Net_demand kl_Net_70 kn_Net ki_Net_demand hd_Net_demand ⟨Nat.le_of_ble_eq_true rfl, Nat.le_of_ble_eq_true rfl⟩) (wd_ct (Bs := [[(h, .inr (8, [.ref aE, .ref aL, .ref aS, .ref aK, .ref aR, .ref aD, .ref aG]))], [(aK, .inr (4, [.ref aL, .ref aS, .ref aM, .int S.lost]))], wE, wL, wS, wM, wR, wD, wG]) 9 rfl [] [0, 1, 2, 3, 4, 5, 6, 7, 8] (by decide) rfl) hK hP hD hS hA rfl hl.1 rfl (Nat.le_of_ble_eq_true rfl) ⟨(show 0 + 0 ≤ 0 by omega), (show 0 + 0 ≤ 0 by omega)⟩ d_Net_edge_22 (fun u5 H locs hu5 hP hD hS => ?_)
        subst hu5
        refine W.widen (k := 0) (n := 0) (Nat.le_refl _) (Nat.le_refl _) ?_
        have hP := wd_nP (N := []) rfl 9 rfl [0, 1, 2, 3, 4, 5, 6, 7, 8] (by decide) hP
        have hD := wd_nD (N := []) rfl 9 rfl [0, 1, 2, 3, 4, 5, 6, 7, 8] (by decide) hD
        have hP : va_P D kls (List.flatten [[(h, .inr (8, [.ref aE, .ref aL, .ref aS, .ref aK, .ref aR, .ref aD, .ref aG]))], [(aK, .inr (4, [.ref aL, .ref aS, .ref aM, .int S.lost]))], wE, wL, wS, wM, wR, wD, wG]) H := hP
        have hD : va_D A (List.flatten [[(h, .inr (8, [.ref aE, .ref aL, .ref aS, .ref aK, .ref aR, .ref aD, .ref aG]))], [(aK, .inr (4, [.ref aL, .ref aS, .ref aM, .int S.lost]))], wE, wL, wS, wM, wR, wD, wG]) := hD
        refine W.eq (g2 := F0 m 25 ls []) rfl ?_
        refine lv_aload_n hx hb d_Net_edge_25 rfl (lv_at hl 0 rfl) ?_
        refine va_get (D := D) (ci := 8) (v := .ref aE) (C := R_Net) (T := T_Net) (N := 7) hx hb ht in_Net hown hK hP 0 rfl rfl 0 (by decide) (ht _ kl_Net_10) (fun _ h9 => h9) rfl d_Net_edge_26 ?_
        refine lv_iload_n hx hb d_Net_edge_29 rfl (lv_at hl 1 rfl) ?_
        refine ct_rdV (C := R_Edges) (ci := 1) (As := [.int (nI r)]) (rest := []) ⟨hx, hb, hml, hown, ht⟩ (k_Edges_isEdge l D cI cZ cJ cG kE r hr9) (cb_V ht kc_Edges_isEdge kl_Net_74 kn_Edges ki_Edges_isEdge ks_Edges_isEdge hd_Edges_isEdge ⟨Nat.le_of_ble_eq_true rfl, Nat.le_of_ble_eq_true rfl⟩) (wd_mem 2 rfl mE) rfl rfl (wd_ct (Bs := [[(h, .inr (8, [.ref aE, .ref aL, .ref aS, .ref aK, .ref aR, .ref aD, .ref aG]))], [(aK, .inr (4, [.ref aL, .ref aS, .ref aM, .int S.lost]))], wE, wL, wS, wM, wR, wD, wG]) 9 rfl [2] [0, 1, 3, 4, 5, 6, 7, 8] (by decide) (wd_1 _)) hK hP hD hS hA rfl hl.1 rfl (Nat.le_of_ble_eq_true rfl) ⟨(show 0 + 0 ≤ 0 by omega), (show 0 + 0 ≤ 0 by omega)⟩ d_Net_edge_30 (fun rhr6 H locs hr6 hP hD hS => ?_)
        subst hr6
        refine W.eq (g2 := F0 m 33 ls [.int (bI false)]) (congrArg (fun z => F0 m 33 ls (.int z :: [])) (congrArg bI (decide_eq_false (fun z => z hne)))) ?_
        refine ri_ifneB hx hb d_Net_edge_33 (tgt := 53) (by decide) (fun h7 => ?_) (fun h7 => ?_)
        · exact absurd h7 (fun z => by cases z)
        · refine lv_aload_n hx hb d_Net_edge_36 rfl (lv_at hl 0 rfl) ?_
          refine va_get (D := D) (ci := 8) (v := .ref aE) (C := R_Net) (T := T_Net) (N := 7) hx hb ht in_Net hown hK hP 0 rfl rfl 0 (by decide) (ht _ kl_Net_10) (fun _ h9 => h9) rfl d_Net_edge_37 ?_
          refine lv_iconst (v := nI 1) hx hb d_Net_edge_40 (by decide) ?_
          refine lv_iload_n hx hb d_Net_edge_41 rfl (lv_at hl 2 rfl) ?_
          refine lv_ishl hx hb d_Net_edge_42 ?_
          refine W.eq (g2 := F0 m 43 ls [.int (bm_em (some b)), .ref aE]) (congrArg (fun z => F0 m 43 ls (.int z :: [.ref aE])) (rfl)) ?_
          refine ct_rdV (C := R_Edges) (ci := 1) (As := [.int (bm_em (some b))]) (rest := []) ⟨hx, hb, hml, hown, ht⟩ (k_Edges_isTaken l D cI cZ cJ cG kE (bm_em (some b))) (cb_V ht kc_Edges_isTaken kl_Net_77 kn_Edges ki_Edges_isTaken ks_Edges_isTaken hd_Edges_isTaken ⟨Nat.le_of_ble_eq_true rfl, Nat.le_of_ble_eq_true rfl⟩) (wd_mem 2 rfl mE) rfl rfl (wd_ct (Bs := [[(h, .inr (8, [.ref aE, .ref aL, .ref aS, .ref aK, .ref aR, .ref aD, .ref aG]))], [(aK, .inr (4, [.ref aL, .ref aS, .ref aM, .int S.lost]))], wE, wL, wS, wM, wR, wD, wG]) 9 rfl [2] [0, 1, 3, 4, 5, 6, 7, 8] (by decide) (wd_1 _)) hK hP hD hS hA rfl hl.1 rfl (Nat.le_of_ble_eq_true rfl) ⟨(show 0 + 0 ≤ 0 by omega), (show 0 + 0 ≤ 0 by omega)⟩ d_Net_edge_43 (fun rhr8 H locs hr8 hP hD hS => ?_)
          subst hr8
          refine W.eq (g2 := F0 m 46 ls [.int (bI false)]) (congrArg (fun z => F0 m 46 ls (.int z :: [])) (congrArg bI (decide_eq_false (fun z => z hnt)))) ?_
          refine ri_ifneB hx hb d_Net_edge_46 (tgt := 53) (by decide) (fun h9 => ?_) (fun h9 => ?_)
          · exact absurd h9 (fun z => by cases z)
          · refine lv_iconst (v := nI 1) hx hb d_Net_edge_49 (by decide) ?_
            refine lv_goto hx hb d_Net_edge_50 (tgt := 54) (by decide) ?_
            refine W.eq (g2 := F0 m 54 ls [.int (bI true)]) (congrArg (fun z => F0 m 54 ls (.int z :: [])) (rfl)) ?_
            refine ct_callSV (As := [.int (bI true)]) (rest := []) ⟨hx, hb, hml, hown, ht⟩ (k_Net_demand l D cI cZ cJ cG) (cb_S ht kc_Net_demand kl_Net_70 kn_Net ki_Net_demand hd_Net_demand ⟨Nat.le_of_ble_eq_true rfl, Nat.le_of_ble_eq_true rfl⟩) (wd_ct (Bs := [[(h, .inr (8, [.ref aE, .ref aL, .ref aS, .ref aK, .ref aR, .ref aD, .ref aG]))], [(aK, .inr (4, [.ref aL, .ref aS, .ref aM, .int S.lost]))], wE, wL, wS, wM, wR, wD, wG]) 9 rfl [] [0, 1, 2, 3, 4, 5, 6, 7, 8] (by decide) rfl) hK hP hD hS hA rfl hl.1 rfl (Nat.le_of_ble_eq_true rfl) ⟨(show 0 + 0 ≤ 0 by omega), (show 0 + 0 ≤ 0 by omega)⟩ d_Net_edge_54 (fun u10 H locs hu10 hP hD hS => ?_)
            subst hu10
            refine W.widen (k := 0) (n := 0) (Nat.le_refl _) (Nat.le_refl _) ?_
            have hP := wd_nP (N := []) rfl 9 rfl [0, 1, 2, 3, 4, 5, 6, 7, 8] (by decide) hP
            have hD := wd_nD (N := []) rfl 9 rfl [0, 1, 2, 3, 4, 5, 6, 7, 8] (by decide) hD
            have hP : va_P D kls (List.flatten [[(h, .inr (8, [.ref aE, .ref aL, .ref aS, .ref aK, .ref aR, .ref aD, .ref aG]))], [(aK, .inr (4, [.ref aL, .ref aS, .ref aM, .int S.lost]))], wE, wL, wS, wM, wR, wD, wG]) H := hP
            have hD : va_D A (List.flatten [[(h, .inr (8, [.ref aE, .ref aL, .ref aS, .ref aK, .ref aR, .ref aD, .ref aG]))], [(aK, .inr (4, [.ref aL, .ref aS, .ref aM, .int S.lost]))], wE, wL, wS, wM, wR, wD, wG]) := hD
            refine W.eq (g2 := F0 m 57 ls []) rfl ?_
            refine lv_aload_n hx hb d_Net_edge_57 rfl (lv_at hl 0 rfl) ?_
            refine va_get (D := D) (ci := 8) (v := .ref aE) (C := R_Net) (T := T_Net) (N := 7) hx hb ht in_Net hown hK hP 0 rfl rfl 0 (by decide) (ht _ kl_Net_10) (fun _ h9 => h9) rfl d_Net_edge_58 ?_
            refine lv_iload_n hx hb d_Net_edge_61 rfl (lv_at hl 1 rfl) ?_
            refine lv_iconst (v := nI 1) hx hb d_Net_edge_62 (by decide) ?_
            refine lv_iload_n hx hb d_Net_edge_63 rfl (lv_at hl 2 rfl) ?_
            refine lv_ishl hx hb d_Net_edge_64 ?_
            refine W.eq (g2 := F0 m 65 ls [.int (bm_em (some b)), .int (nI r), .ref aE]) (congrArg (fun z => F0 m 65 ls (.int z :: [.int (nI r), .ref aE])) (rfl)) ?_
            refine ct_callVV (C := R_Edges) (ci := 1) (As := [.int (nI r), .int (bm_em (some b))]) (rest := []) ⟨hx, hb, hml, hown, ht⟩ (k_Edges_make l D cI cZ cJ cG kE r (some b) hr9) (cb_V ht kc_Edges_make kl_Net_80 kn_Edges ki_Edges_make ks_Edges_make hd_Edges_make ⟨Nat.le_of_ble_eq_true rfl, Nat.le_of_ble_eq_true rfl⟩) (wd_mem 2 rfl mE) rfl rfl (wd_ct (Bs := [[(h, .inr (8, [.ref aE, .ref aL, .ref aS, .ref aK, .ref aR, .ref aD, .ref aG]))], [(aK, .inr (4, [.ref aL, .ref aS, .ref aM, .int S.lost]))], wE, wL, wS, wM, wR, wD, wG]) 9 rfl [2] [0, 1, 3, 4, 5, 6, 7, 8] (by decide) (wd_1 _)) hK hP hD hS hA rfl hl.1 rfl (Nat.le_of_ble_eq_true rfl) ⟨(show 0 + 0 ≤ 0 by omega), (show 0 + 0 ≤ 0 by omega)⟩ d_Net_edge_65 (fun u11 H locs hu11 hP hD hS => ?_)
            have kE2 := hu11
            refine W.widen (k := 0) (n := 0) (Nat.le_refl _) (Nat.le_refl _) ?_
            have hP := wd_nP (N := [u11]) (wd_1 _) 9 rfl [1, 2, 0, 3, 4, 5, 6, 7, 8] (by decide) hP
            have hD := wd_nD (N := [u11]) (wd_1 _) 9 rfl [1, 2, 0, 3, 4, 5, 6, 7, 8] (by decide) hD
            have hP : va_P D kls (List.flatten [[(h, .inr (8, [.ref aE, .ref aL, .ref aS, .ref aK, .ref aR, .ref aD, .ref aG]))], [(aK, .inr (4, [.ref aL, .ref aS, .ref aM, .int S.lost]))], u11, wL, wS, wM, wR, wD, wG]) H := hP
            have hD : va_D A (List.flatten [[(h, .inr (8, [.ref aE, .ref aL, .ref aS, .ref aK, .ref aR, .ref aD, .ref aG]))], [(aK, .inr (4, [.ref aL, .ref aS, .ref aM, .int S.lost]))], u11, wL, wS, wM, wR, wD, wG]) := hD
            refine W.eq (g2 := F0 m 68 ls []) rfl ?_
            exact ct_vret hQ hx hb hr hlk hP hD hS hK (by omega) (by omega) d_Net_edge_68 (⟨aE, aL, aS, aK, aR, aD, aG, aM, aP, aC, u11, wL, wS, wM, wR, wD, wG, rfl, (by have := kE2; rw [nI_add] at this; exact this), kL, kS, kM, rt_edge kR, kD, kG⟩)
