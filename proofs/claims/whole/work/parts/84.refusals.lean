/-! BitNet's public methods: where they throw. -/
theorem rg_of {k : Nat} (hk : k < 2 ^ 31) {y : Int32} (h1 : ¬ y < 0) (h2 : ¬ nI k ≤ y) : ∃ b, b < k ∧ y = nI b := by
  rw [tI_lt, tI_0] at h1
  rw [tI_le, nI_toInt hk] at h2
  refine ⟨y.toInt.toNat, by omega, ?_⟩
  apply Int32.toInt_inj.mp
  rw [nI_toInt (show y.toInt.toNat < 2 ^ 31 by omega)]
  omega
set_option maxHeartbeats 4000000 in
set_option maxRecDepth 100000 in
theorem x_Net_edge (l : Launch) (s0 : State) (A0 : Array Value) (h0 : fz_0 A0 s0) (hfl : ∀ e : Env, l.admits e → e.platform.stackTraces = false) (D : va_G) (cI cZ cJ cG : ClassId) {h : Nat} {S : bm_S} {ws : va_W} (hR : nt_R cI cZ cG h S ws) (x y : Int32) (hno : ¬ ∃ r b, x = nI r ∧ y = nI b ∧ r < 12 ∧ b < 32 ∧ bm_em (S.eb r) = 0 ∧ S.tk &&& bm_em (some b) = 0) : ct_X l s0 D kls (ty4 cI cZ cJ cG) y_Net_edge ws_Net_edge (rm_ 7 102 1 6) [.ref h, .int x, .int y] (ws) "java/lang/IllegalArgumentException" (fun u => nt_R cI cZ cG h S u) 1 6 := by
  obtain ⟨aE, aL, aS, aK, aR, aD, aG, aM, aP, aC, wE, wL, wS, wM, wR, wD, wG, rfl, kE, kL, kS, kM, kR, kD, kG⟩ := hR
  obtain ⟨fsE, mE⟩ := kE.mem
  obtain ⟨fsL, mL⟩ := kL.mem
  obtain ⟨fsS, mS⟩ := kS.mem
  obtain ⟨fsR, mR⟩ := kR.mem
  obtain ⟨fsD, mD⟩ := kD.mem
  obtain ⟨fsG, mG⟩ := kG.mem
  refine ct_enterX (cc := b_Net_edge) (maxL := 3) (ret := none) (by decide +kernel) (Nat.le_of_ble_eq_true rfl) ?_
  intro p e s m args below meth c hx hb hml hr ht hown hlk hnm A Q hA hK hP hD hQ ls hl hz
  have hown : s.vm.findClass R_Net = some m.cls := hown
  have hS : va_S A s.heap s.heap [] := va_S.rf
  have hl : lv_has ls 3 [(0, .ref h), (1, .int x), (2, .int y)] := hl
  refine lv_iload_n hx hb d_Net_edge_0 rfl (lv_at hl 1 rfl) ?_
  refine ct_rdS (As := [.int x]) (rest := []) ⟨hx, hb, hml, hown, ht⟩ (k_Net_isRouter l D cI cZ cJ cG x) (cb_S ht kc_Net_isRouter kl_Net_66 kn_Net ki_Net_isRouter hd_Net_isRouter ⟨Nat.le_of_ble_eq_true rfl, Nat.le_of_ble_eq_true rfl⟩) (wd_ct (Bs := [[(h, .inr (8, [.ref aE, .ref aL, .ref aS, .ref aK, .ref aR, .ref aD, .ref aG]))], [(aK, .inr (4, [.ref aL, .ref aS, .ref aM, .int S.lost]))], wE, wL, wS, wM, wR, wD, wG]) 9 rfl [] [0, 1, 2, 3, 4, 5, 6, 7, 8] (by decide) rfl) hK hP hD hS hA rfl hl.1 rfl (Nat.le_of_ble_eq_true rfl) ⟨(show 0 + 0 ≤ 1 by omega), (show 0 + 0 ≤ 6 by omega)⟩ d_Net_edge_1 (fun rhr1 H locs hr1 hP hD hS => ?_)
  subst hr1
  refine ri_ifeqB hx hb d_Net_edge_4 (tgt := 21) (by decide) (fun h4 => ?_) (fun h4 => ?_)
  · refine lv_iconst (v := nI 0) hx hb d_Net_edge_21 (by decide) ?_
    refine W.eq (g2 := F0 m 22 ls [.int (bI false)]) (congrArg (fun z => F0 m 22 ls (.int z :: [])) (rfl)) ?_
    exact ct_throwS (As := [.int (bI false)]) (rest := []) hz hQ hlk ⟨hx, hb, hml, hown, ht⟩ (x_Net_demand l s0 A0 h0 hfl D cI cZ cJ cG) (cb_S ht kc_Net_demand kl_Net_70 kn_Net ki_Net_demand hd_Net_demand ⟨Nat.le_of_ble_eq_true rfl, Nat.le_of_ble_eq_true rfl⟩) (wd_ct (Bs := [[(h, .inr (8, [.ref aE, .ref aL, .ref aS, .ref aK, .ref aR, .ref aD, .ref aG]))], [(aK, .inr (4, [.ref aL, .ref aS, .ref aM, .int S.lost]))], wE, wL, wS, wM, wR, wD, wG]) 9 rfl [] [0, 1, 2, 3, 4, 5, 6, 7, 8] (by decide) rfl) hK hP hD hS hA rfl hl.1 rfl (Nat.le_of_ble_eq_true rfl) ⟨by decide, by decide⟩ ⟨by decide, by decide⟩ d_Net_edge_22 (fun u hu => by subst hu; exact ⟨aE, aL, aS, aK, aR, aD, aG, aM, aP, aC, wE, wL, wS, wM, wR, wD, wG, rfl, kE, kL, kS, kM, kR, kD, kG⟩)
  · refine lv_iload_n hx hb d_Net_edge_7 rfl (lv_at hl 2 rfl) ?_
    refine lv_if_lt hx hb d_Net_edge_8 (tgt := 21) (by decide) (fun h8 => ?_) (fun h8 => ?_)
    · refine lv_iconst (v := nI 0) hx hb d_Net_edge_21 (by decide) ?_
      refine W.eq (g2 := F0 m 22 ls [.int (bI false)]) (congrArg (fun z => F0 m 22 ls (.int z :: [])) (rfl)) ?_
      exact ct_throwS (As := [.int (bI false)]) (rest := []) hz hQ hlk ⟨hx, hb, hml, hown, ht⟩ (x_Net_demand l s0 A0 h0 hfl D cI cZ cJ cG) (cb_S ht kc_Net_demand kl_Net_70 kn_Net ki_Net_demand hd_Net_demand ⟨Nat.le_of_ble_eq_true rfl, Nat.le_of_ble_eq_true rfl⟩) (wd_ct (Bs := [[(h, .inr (8, [.ref aE, .ref aL, .ref aS, .ref aK, .ref aR, .ref aD, .ref aG]))], [(aK, .inr (4, [.ref aL, .ref aS, .ref aM, .int S.lost]))], wE, wL, wS, wM, wR, wD, wG]) 9 rfl [] [0, 1, 2, 3, 4, 5, 6, 7, 8] (by decide) rfl) hK hP hD hS hA rfl hl.1 rfl (Nat.le_of_ble_eq_true rfl) ⟨by decide, by decide⟩ ⟨by decide, by decide⟩ d_Net_edge_22 (fun u hu => by subst hu; exact ⟨aE, aL, aS, aK, aR, aD, aG, aM, aP, aC, wE, wL, wS, wM, wR, wD, wG, rfl, kE, kL, kS, kM, kR, kD, kG⟩)
    · refine lv_iload_n hx hb d_Net_edge_11 rfl (lv_at hl 2 rfl) ?_
      refine lv_bipush (v := nI 32) hx hb d_Net_edge_12 (by decide) ?_
      refine lv_icmp_ge hx hb d_Net_edge_14 (tgt := 21) (by decide) (fun h14 => ?_) (fun h14 => ?_)
      · refine lv_iconst (v := nI 0) hx hb d_Net_edge_21 (by decide) ?_
        refine W.eq (g2 := F0 m 22 ls [.int (bI false)]) (congrArg (fun z => F0 m 22 ls (.int z :: [])) (rfl)) ?_
        exact ct_throwS (As := [.int (bI false)]) (rest := []) hz hQ hlk ⟨hx, hb, hml, hown, ht⟩ (x_Net_demand l s0 A0 h0 hfl D cI cZ cJ cG) (cb_S ht kc_Net_demand kl_Net_70 kn_Net ki_Net_demand hd_Net_demand ⟨Nat.le_of_ble_eq_true rfl, Nat.le_of_ble_eq_true rfl⟩) (wd_ct (Bs := [[(h, .inr (8, [.ref aE, .ref aL, .ref aS, .ref aK, .ref aR, .ref aD, .ref aG]))], [(aK, .inr (4, [.ref aL, .ref aS, .ref aM, .int S.lost]))], wE, wL, wS, wM, wR, wD, wG]) 9 rfl [] [0, 1, 2, 3, 4, 5, 6, 7, 8] (by decide) rfl) hK hP hD hS hA rfl hl.1 rfl (Nat.le_of_ble_eq_true rfl) ⟨by decide, by decide⟩ ⟨by decide, by decide⟩ d_Net_edge_22 (fun u hu => by subst hu; exact ⟨aE, aL, aS, aK, aR, aD, aG, aM, aP, aC, wE, wL, wS, wM, wR, wD, wG, rfl, kE, kL, kS, kM, kR, kD, kG⟩)
      · refine lv_iconst (v := nI 1) hx hb d_Net_edge_17 (by decide) ?_
        refine lv_goto hx hb d_Net_edge_18 (tgt := 22) (by decide) ?_
        refine W.eq (g2 := F0 m 22 ls [.int (bI true)]) (congrArg (fun z => F0 m 22 ls (.int z :: [])) (rfl)) ?_
        refine ct_callSV (As := [.int (bI true)]) (rest := []) ⟨hx, hb, hml, hown, ht⟩ (k_Net_demand l D cI cZ cJ cG) (cb_S ht kc_Net_demand kl_Net_70 kn_Net ki_Net_demand hd_Net_demand ⟨Nat.le_of_ble_eq_true rfl, Nat.le_of_ble_eq_true rfl⟩) (wd_ct (Bs := [[(h, .inr (8, [.ref aE, .ref aL, .ref aS, .ref aK, .ref aR, .ref aD, .ref aG]))], [(aK, .inr (4, [.ref aL, .ref aS, .ref aM, .int S.lost]))], wE, wL, wS, wM, wR, wD, wG]) 9 rfl [] [0, 1, 2, 3, 4, 5, 6, 7, 8] (by decide) rfl) hK hP hD hS hA rfl hl.1 rfl (Nat.le_of_ble_eq_true rfl) ⟨(by decide), (by decide)⟩ d_Net_edge_22 (fun u5 H locs hu5 hP hD hS => ?_)
        subst hu5
        refine W.widen (k := 0) (n := 0) (Nat.le_refl _) (Nat.le_refl _) ?_
        have hP := wd_nP (N := []) rfl 9 rfl [0, 1, 2, 3, 4, 5, 6, 7, 8] (by decide) hP
        have hD := wd_nD (N := []) rfl 9 rfl [0, 1, 2, 3, 4, 5, 6, 7, 8] (by decide) hD
        have hP : va_P D kls (List.flatten [[(h, .inr (8, [.ref aE, .ref aL, .ref aS, .ref aK, .ref aR, .ref aD, .ref aG]))], [(aK, .inr (4, [.ref aL, .ref aS, .ref aM, .int S.lost]))], wE, wL, wS, wM, wR, wD, wG]) H := hP
        have hD : va_D A (List.flatten [[(h, .inr (8, [.ref aE, .ref aL, .ref aS, .ref aK, .ref aR, .ref aD, .ref aG]))], [(aK, .inr (4, [.ref aL, .ref aS, .ref aM, .int S.lost]))], wE, wL, wS, wM, wR, wD, wG]) := hD
        refine W.eq (g2 := F0 m 25 ls []) rfl ?_
        obtain ⟨r, hr9, rfl⟩ := rg_n (k := 12) h4
        obtain ⟨b, hb9, rfl⟩ := rg_of (k := 32) (by decide) h8 h14
        have hl : lv_has ls 3 [(0, .ref h), (1, .int (nI r)), (2, .int (nI b))] := hl
        refine lv_aload_n hx hb d_Net_edge_25 rfl (lv_at hl 0 rfl) ?_
        refine va_get (D := D) (ci := 8) (v := .ref aE) (C := R_Net) (T := T_Net) (N := 7) hx hb ht in_Net hown hK hP 0 rfl rfl 0 (by decide) (ht _ kl_Net_10) (fun _ h9 => h9) rfl d_Net_edge_26 ?_
        refine lv_iload_n hx hb d_Net_edge_29 rfl (lv_at hl 1 rfl) ?_
        refine ct_rdV (C := R_Edges) (ci := 1) (As := [.int (nI r)]) (rest := []) ⟨hx, hb, hml, hown, ht⟩ (k_Edges_isEdge l D cI cZ cJ cG kE r hr9) (cb_V ht kc_Edges_isEdge kl_Net_74 kn_Edges ki_Edges_isEdge ks_Edges_isEdge hd_Edges_isEdge ⟨Nat.le_of_ble_eq_true rfl, Nat.le_of_ble_eq_true rfl⟩) (wd_mem 2 rfl mE) rfl rfl (wd_ct (Bs := [[(h, .inr (8, [.ref aE, .ref aL, .ref aS, .ref aK, .ref aR, .ref aD, .ref aG]))], [(aK, .inr (4, [.ref aL, .ref aS, .ref aM, .int S.lost]))], wE, wL, wS, wM, wR, wD, wG]) 9 rfl [2] [0, 1, 3, 4, 5, 6, 7, 8] (by decide) (wd_1 _)) hK hP hD hS hA rfl hl.1 rfl (Nat.le_of_ble_eq_true rfl) ⟨(show 0 + 0 ≤ 1 by omega), (show 0 + 0 ≤ 6 by omega)⟩ d_Net_edge_30 (fun rhr6 H locs hr6 hP hD hS => ?_)
        subst hr6
        refine ri_ifneB hx hb d_Net_edge_33 (tgt := 53) (by decide) (fun h33 => ?_) (fun h33 => ?_)
        · refine lv_iconst (v := nI 0) hx hb d_Net_edge_53 (by decide) ?_
          refine W.eq (g2 := F0 m 54 ls [.int (bI false)]) (congrArg (fun z => F0 m 54 ls (.int z :: [])) (rfl)) ?_
          exact ct_throwS (As := [.int (bI false)]) (rest := []) hz hQ hlk ⟨hx, hb, hml, hown, ht⟩ (x_Net_demand l s0 A0 h0 hfl D cI cZ cJ cG) (cb_S ht kc_Net_demand kl_Net_70 kn_Net ki_Net_demand hd_Net_demand ⟨Nat.le_of_ble_eq_true rfl, Nat.le_of_ble_eq_true rfl⟩) (wd_ct (Bs := [[(h, .inr (8, [.ref aE, .ref aL, .ref aS, .ref aK, .ref aR, .ref aD, .ref aG]))], [(aK, .inr (4, [.ref aL, .ref aS, .ref aM, .int S.lost]))], wE, wL, wS, wM, wR, wD, wG]) 9 rfl [] [0, 1, 2, 3, 4, 5, 6, 7, 8] (by decide) rfl) hK hP hD hS hA rfl hl.1 rfl (Nat.le_of_ble_eq_true rfl) ⟨by decide, by decide⟩ ⟨by decide, by decide⟩ d_Net_edge_54 (fun u hu => by subst hu; exact ⟨aE, aL, aS, aK, aR, aD, aG, aM, aP, aC, wE, wL, wS, wM, wR, wD, wG, rfl, kE, kL, kS, kM, kR, kD, kG⟩)
        · refine lv_aload_n hx hb d_Net_edge_36 rfl (lv_at hl 0 rfl) ?_
          refine va_get (D := D) (ci := 8) (v := .ref aE) (C := R_Net) (T := T_Net) (N := 7) hx hb ht in_Net hown hK hP 0 rfl rfl 0 (by decide) (ht _ kl_Net_10) (fun _ h9 => h9) rfl d_Net_edge_37 ?_
          refine lv_iconst (v := nI 1) hx hb d_Net_edge_40 (by decide) ?_
          refine lv_iload_n hx hb d_Net_edge_41 rfl (lv_at hl 2 rfl) ?_
          refine lv_ishl hx hb d_Net_edge_42 ?_
          refine W.eq (g2 := F0 m 43 ls [.int (bm_em (some b)), .ref aE]) (congrArg (fun z => F0 m 43 ls (.int z :: [.ref aE])) (rfl)) ?_
          refine ct_rdV (C := R_Edges) (ci := 1) (As := [.int (bm_em (some b))]) (rest := []) ⟨hx, hb, hml, hown, ht⟩ (k_Edges_isTaken l D cI cZ cJ cG kE (bm_em (some b))) (cb_V ht kc_Edges_isTaken kl_Net_77 kn_Edges ki_Edges_isTaken ks_Edges_isTaken hd_Edges_isTaken ⟨Nat.le_of_ble_eq_true rfl, Nat.le_of_ble_eq_true rfl⟩) (wd_mem 2 rfl mE) rfl rfl (wd_ct (Bs := [[(h, .inr (8, [.ref aE, .ref aL, .ref aS, .ref aK, .ref aR, .ref aD, .ref aG]))], [(aK, .inr (4, [.ref aL, .ref aS, .ref aM, .int S.lost]))], wE, wL, wS, wM, wR, wD, wG]) 9 rfl [2] [0, 1, 3, 4, 5, 6, 7, 8] (by decide) (wd_1 _)) hK hP hD hS hA rfl hl.1 rfl (Nat.le_of_ble_eq_true rfl) ⟨(show 0 + 0 ≤ 1 by omega), (show 0 + 0 ≤ 6 by omega)⟩ d_Net_edge_43 (fun rhr8 H locs hr8 hP hD hS => ?_)
          subst hr8
          refine ri_ifneB hx hb d_Net_edge_46 (tgt := 53) (by decide) (fun h46 => ?_) (fun h46 => ?_)
          · refine lv_iconst (v := nI 0) hx hb d_Net_edge_53 (by decide) ?_
            refine W.eq (g2 := F0 m 54 ls [.int (bI false)]) (congrArg (fun z => F0 m 54 ls (.int z :: [])) (rfl)) ?_
            exact ct_throwS (As := [.int (bI false)]) (rest := []) hz hQ hlk ⟨hx, hb, hml, hown, ht⟩ (x_Net_demand l s0 A0 h0 hfl D cI cZ cJ cG) (cb_S ht kc_Net_demand kl_Net_70 kn_Net ki_Net_demand hd_Net_demand ⟨Nat.le_of_ble_eq_true rfl, Nat.le_of_ble_eq_true rfl⟩) (wd_ct (Bs := [[(h, .inr (8, [.ref aE, .ref aL, .ref aS, .ref aK, .ref aR, .ref aD, .ref aG]))], [(aK, .inr (4, [.ref aL, .ref aS, .ref aM, .int S.lost]))], wE, wL, wS, wM, wR, wD, wG]) 9 rfl [] [0, 1, 2, 3, 4, 5, 6, 7, 8] (by decide) rfl) hK hP hD hS hA rfl hl.1 rfl (Nat.le_of_ble_eq_true rfl) ⟨by decide, by decide⟩ ⟨by decide, by decide⟩ d_Net_edge_54 (fun u hu => by subst hu; exact ⟨aE, aL, aS, aK, aR, aD, aG, aM, aP, aC, wE, wL, wS, wM, wR, wD, wG, rfl, kE, kL, kS, kM, kR, kD, kG⟩)
          · exact absurd ⟨r, b, rfl, rfl, hr9, hb9, Classical.not_not.mp (of_decide_eq_false h33), Classical.not_not.mp (of_decide_eq_false h46)⟩ hno
