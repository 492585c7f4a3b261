/-! BitNet: cut, bits, delivered, crossings. -/
def bm_cut (r o : Nat) (S : bm_S) : bm_S := (S.eb, S.tk, S.es, bm_both S.lk r o 2, S.kn, S.T, S.lost, S.D, S.G)
theorem da_R.n {cI : ClassId} {h aL aE aR aP aC : Nat} {Dd : bm_D} {ws : va_W} (hR : da_R cI h aL aE aR aP aC Dd ws) : Dd.1.2.1 ≤ 100000 ∧ Dd.2.1.2.1 ≤ 100000 := by
  obtain ⟨wP, wC, -, k1, k2⟩ := hR
  have h1 := k1.n
  have h2 := k2.n
  omega
set_option maxHeartbeats 800000 in
set_option maxRecDepth 100000 in
theorem k_Net_cut (l : Launch) (D : va_G) (cI cZ cJ cG : ClassId) {h : Nat} {S : bm_S} {ws : va_W} (hR : nt_R cI cZ cG h S ws) (hi : bm_si S) (r o : Nat) (hr9 : r < 12) (ho9 : o < 12) (hw : S.lk r o = 1) : ct_V l D kls (ty4 cI cZ cJ cG) y_Net_cut ws_Net_cut (rm_ 2 45 0 0) [.ref h, .int (nI r), .int (nI o)] (ws) (fun u => nt_R cI cZ cG h (bm_cut r o S) u) 0 0 := by
  obtain ⟨aE, aL, aS, aK, aR, aD, aG, aM, aP, aC, wE, wL, wS, wM, wR, wD, wG, rfl, kE, kL, kS, kM, kR, kD, kG⟩ := hR
  obtain ⟨fsE, mE⟩ := kE.mem
  obtain ⟨fsL, mL⟩ := kL.mem
  obtain ⟨fsS, mS⟩ := kS.mem
  obtain ⟨fsR, mR⟩ := kR.mem
  obtain ⟨fsD, mD⟩ := kD.mem
  obtain ⟨fsG, mG⟩ := kG.mem
  refine ct_enterV (cc := b_Net_cut) (maxL := 3) (ret := none) (by decide +kernel) (Nat.le_of_ble_eq_true rfl) ?_
  intro p e s m args below meth c hx hb hml hr ht hown hlk hnm A Q hA hK hP hD hQ ls hl
  have hown : s.vm.findClass R_Net = some m.cls := hown
  have hS : va_S A s.heap s.heap [] := va_S.rf
  have hl : lv_has ls 3 [(0, .ref h), (1, .int (nI r)), (2, .int (nI o))] := hl
  refine lv_iload_n hx hb d_Net_cut_0 rfl (lv_at hl 1 rfl) ?_
  refine ct_rdS (As := [.int (nI r)]) (rest := []) ⟨hx, hb, hml, hown, ht⟩ (k_Net_isRouter l D cI cZ cJ cG (nI r)) (cb_S ht kc_Net_isRouter kl_Net_66 kn_Net ki_Net_isRouter hd_Net_isRouter ⟨Nat.le_of_ble_eq_true rfl, Nat.le_of_ble_eq_true rfl⟩) (wd_ct (Bs := [[(h, .inr (8, [.ref aE, .ref aL, .ref aS, .ref aK, .ref aR, .ref aD, .ref aG]))], [(aK, .inr (4, [.ref aL, .ref aS, .ref aM, .int S.lost]))], wE, wL, wS, wM, wR, wD, wG]) 9 rfl [] [0, 1, 2, 3, 4, 5, 6, 7, 8] (by decide) rfl) hK hP hD hS hA rfl hl.1 rfl (Nat.le_of_ble_eq_true rfl) ⟨(show 0 + 0 ≤ 0 by omega), (show 0 + 0 ≤ 0 by omega)⟩ d_Net_cut_1 (fun rhr1 H locs hr1 hP hD hS => ?_)
  subst hr1
  refine W.eq (g2 := F0 m 4 ls [.int (bI true)]) (congrArg (fun z => F0 m 4 ls (.int z :: [])) (congrArg bI (rg_t12 hr9))) ?_
  refine ri_ifeqB hx hb d_Net_cut_4 (tgt := 30) (by decide) (fun h2 => ?_) (fun h2 => ?_)
  · exact absurd h2 (fun z => by cases z)
  · refine lv_iload_n hx hb d_Net_cut_7 rfl (lv_at hl 2 rfl) ?_
    refine ct_rdS (As := [.int (nI o)]) (rest := []) ⟨hx, hb, hml, hown, ht⟩ (k_Net_isRouter l D cI cZ cJ cG (nI o)) (cb_S ht kc_Net_isRouter kl_Net_66 kn_Net ki_Net_isRouter hd_Net_isRouter ⟨Nat.le_of_ble_eq_true rfl, Nat.le_of_ble_eq_true rfl⟩) (wd_ct (Bs := [[(h, .inr (8, [.ref aE, .ref aL, .ref aS, .ref aK, .ref aR, .ref aD, .ref aG]))], [(aK, .inr (4, [.ref aL, .ref aS, .ref aM, .int S.lost]))], wE, wL, wS, wM, wR, wD, wG]) 9 rfl [] [0, 1, 2, 3, 4, 5, 6, 7, 8] (by decide) rfl) hK hP hD hS hA rfl hl.1 rfl (Nat.le_of_ble_eq_true rfl) ⟨(show 0 + 0 ≤ 0 by omega), (show 0 + 0 ≤ 0 by omega)⟩ d_Net_cut_8 (fun rhr3 H locs hr3 hP hD hS => ?_)
    subst hr3
    refine W.eq (g2 := F0 m 11 ls [.int (bI true)]) (congrArg (fun z => F0 m 11 ls (.int z :: [])) (congrArg bI (rg_t12 ho9))) ?_
    refine ri_ifeqB hx hb d_Net_cut_11 (tgt := 30) (by decide) (fun h4 => ?_) (fun h4 => ?_)
    · exact absurd h4 (fun z => by cases z)
    · refine lv_aload_n hx hb d_Net_cut_14 rfl (lv_at hl 0 rfl) ?_
      refine va_get (D := D) (ci := 8) (v := .ref aL) (C := R_Net) (T := T_Net) (N := 7) hx hb ht in_Net hown hK hP 0 rfl rfl 1 (by decide) (ht _ kl_Net_19) (fun _ h9 => h9) rfl d_Net_cut_15 ?_
      refine lv_iload_n hx hb d_Net_cut_18 rfl (lv_at hl 1 rfl) ?_
      refine lv_iload_n hx hb d_Net_cut_19 rfl (lv_at hl 2 rfl) ?_
      refine ct_rdV (C := R_Links) (ci := 2) (As := [.int (nI r), .int (nI o)]) (rest := []) ⟨hx, hb, hml, hown, ht⟩ (k_Links_isWhole l D cI cZ cJ cG kL r o (fun a b => Nat.lt_of_le_of_lt (hi.2.2.1 a b) (by decide)) (fun a b => Nat.lt_of_le_of_lt (hi.2.1 a b) (by decide)) hr9 ho9) (cb_V ht kc_Links_isWhole kl_Net_110 kn_Links ki_Links_isWhole ks_Links_isWhole hd_Links_isWhole ⟨Nat.le_of_ble_eq_true rfl, Nat.le_of_ble_eq_true rfl⟩) (wd_mem 3 rfl mL) rfl rfl (wd_ct (Bs := [[(h, .inr (8, [.ref aE, .ref aL, .ref aS, .ref aK, .ref aR, .ref aD, .ref aG]))], [(aK, .inr (4, [.ref aL, .ref aS, .ref aM, .int S.lost]))], wE, wL, wS, wM, wR, wD, wG]) 9 rfl [3] [0, 1, 2, 4, 5, 6, 7, 8] (by decide) (wd_1 _)) hK hP hD hS hA rfl hl.1 rfl (Nat.le_of_ble_eq_true rfl) ⟨(show 0 + 0 ≤ 0 by omega), (show 0 + 0 ≤ 0 by omega)⟩ d_Net_cut_20 (fun rhr5 H locs hr5 hP hD hS => ?_)
      subst hr5
      refine W.eq (g2 := F0 m 23 ls [.int (bI true)]) (congrArg (fun z => F0 m 23 ls (.int z :: [])) (congrArg bI (decide_eq_true hw))) ?_
      refine ri_ifeqB hx hb d_Net_cut_23 (tgt := 30) (by decide) (fun h6 => ?_) (fun h6 => ?_)
      · exact absurd h6 (fun z => by cases z)
      · refine lv_iconst (v := nI 1) hx hb d_Net_cut_26 (by decide) ?_
        refine lv_goto hx hb d_Net_cut_27 (tgt := 31) (by decide) ?_
        refine W.eq (g2 := F0 m 31 ls [.int (bI true)]) (congrArg (fun z => F0 m 31 ls (.int z :: [])) (rfl)) ?_
        refine ct_callSV (As := [.int (bI true)]) (rest := []) ⟨hx, hb, hml, hown, ht⟩ (k_Net_demand l D cI cZ cJ cG) (cb_S ht kc_Net_demand kl_Net_70 kn_Net ki_Net_demand hd_Net_demand ⟨Nat.le_of_ble_eq_true rfl, Nat.le_of_ble_eq_true rfl⟩) (wd_ct (Bs := [[(h, .inr (8, [.ref aE, .ref aL, .ref aS, .ref aK, .ref aR, .ref aD, .ref aG]))], [(aK, .inr (4, [.ref aL, .ref aS, .ref aM, .int S.lost]))], wE, wL, wS, wM, wR, wD, wG]) 9 rfl [] [0, 1, 2, 3, 4, 5, 6, 7, 8] (by decide) rfl) hK hP hD hS hA rfl hl.1 rfl (Nat.le_of_ble_eq_true rfl) ⟨(show 0 + 0 ≤ 0 by omega), (show 0 + 0 ≤ 0 by omega)⟩ d_Net_cut_31 (fun u7 H locs hu7 hP hD hS => ?_)
        subst hu7
        refine W.widen (k := 0) (n := 0) (Nat.le_refl _) (Nat.le_refl _) ?_
        have hP := wd_nP (N := []) rfl 9 rfl [0, 1, 2, 3, 4, 5, 6, 7, 8] (by decide) hP
        have hD := wd_nD (N := []) rfl 9 rfl [0, 1, 2, 3, 4, 5, 6, 7, 8] (by decide) hD
        have hP : va_P D kls (List.flatten [[(h, .inr (8, [.ref aE, .ref aL, .ref aS, .ref aK, .ref aR, .ref aD, .ref aG]))], [(aK, .inr (4, [.ref aL, .ref aS, .ref aM, .int S.lost]))], wE, wL, wS, wM, wR, wD, wG]) H := hP
        have hD : va_D A (List.flatten [[(h, .inr (8, [.ref aE, .ref aL, .ref aS, .ref aK, .ref aR, .ref aD, .ref aG]))], [(aK, .inr (4, [.ref aL, .ref aS, .ref aM, .int S.lost]))], wE, wL, wS, wM, wR, wD, wG]) := hD
        refine W.eq (g2 := F0 m 34 ls []) rfl ?_
        refine lv_aload_n hx hb d_Net_cut_34 rfl (lv_at hl 0 rfl) ?_
        refine va_get (D := D) (ci := 8) (v := .ref aL) (C := R_Net) (T := T_Net) (N := 7) hx hb ht in_Net hown hK hP 0 rfl rfl 1 (by decide) (ht _ kl_Net_19) (fun _ h9 => h9) rfl d_Net_cut_35 ?_
        refine lv_iload_n hx hb d_Net_cut_38 rfl (lv_at hl 1 rfl) ?_
        refine lv_iload_n hx hb d_Net_cut_39 rfl (lv_at hl 2 rfl) ?_
        refine ct_callVV (C := R_Links) (ci := 2) (As := [.int (nI r), .int (nI o)]) (rest := []) ⟨hx, hb, hml, hown, ht⟩ (k_Links_sever l D cI cZ cJ cG kL r o hr9 ho9) (cb_V ht kc_Links_sever kl_Net_113 kn_Links ki_Links_sever ks_Links_sever hd_Links_sever ⟨Nat.le_of_ble_eq_true rfl, Nat.le_of_ble_eq_true rfl⟩) (wd_mem 3 rfl mL) rfl rfl (wd_ct (Bs := [[(h, .inr (8, [.ref aE, .ref aL, .ref aS, .ref aK, .ref aR, .ref aD, .ref aG]))], [(aK, .inr (4, [.ref aL, .ref aS, .ref aM, .int S.lost]))], wE, wL, wS, wM, wR, wD, wG]) 9 rfl [3] [0, 1, 2, 4, 5, 6, 7, 8] (by decide) (wd_1 _)) hK hP hD hS hA rfl hl.1 rfl (Nat.le_of_ble_eq_true rfl) ⟨(show 0 + 0 ≤ 0 by omega), (show 0 + 0 ≤ 0 by omega)⟩ d_Net_cut_40 (fun u8 H locs hu8 hP hD hS => ?_)
        have kL2 := hu8
        refine W.widen (k := 0) (n := 0) (Nat.le_refl _) (Nat.le_refl _) ?_
        have hP := wd_nP (N := [u8]) (wd_1 _) 9 rfl [1, 2, 3, 0, 4, 5, 6, 7, 8] (by decide) hP
        have hD := wd_nD (N := [u8]) (wd_1 _) 9 rfl [1, 2, 3, 0, 4, 5, 6, 7, 8] (by decide) hD
        have hP : va_P D kls (List.flatten [[(h, .inr (8, [.ref aE, .ref aL, .ref aS, .ref aK, .ref aR, .ref aD, .ref aG]))], [(aK, .inr (4, [.ref aL, .ref aS, .ref aM, .int S.lost]))], wE, u8, wS, wM, wR, wD, wG]) H := hP
        have hD : va_D A (List.flatten [[(h, .inr (8, [.ref aE, .ref aL, .ref aS, .ref aK, .ref aR, .ref aD, .ref aG]))], [(aK, .inr (4, [.ref aL, .ref aS, .ref aM, .int S.lost]))], wE, u8, wS, wM, wR, wD, wG]) := hD
        refine W.eq (g2 := F0 m 43 ls []) rfl ?_
        exact ct_vret hQ hx hb hr hlk hP hD hS hK (by omega) (by omega) d_Net_cut_43 (⟨aE, aL, aS, aK, aR, aD, aG, aM, aP, aC, wE, u8, wS, wM, wR, wD, wG, rfl, kE, kL2, kS, kM, kR, kD, kG⟩)
set_option maxHeartbeats 800000 in
set_option maxRecDepth 100000 in
theorem x_Net_cut (l : Launch) (s0 : State) (A0 : Array Value) (h0 : fz_0 A0 s0) (hfl : ∀ e : Env, l.admits e → e.platform.stackTraces = false) (D : va_G) (cI cZ cJ cG : ClassId) {h : Nat} {S : bm_S} {ws : va_W} (hR : nt_R cI cZ cG h S ws) (hi : bm_si S) (x y : Int32) (hno : ¬ ∃ r o, x = nI r ∧ y = nI o ∧ r < 12 ∧ o < 12 ∧ S.lk r o = 1) : ct_X l s0 D kls (ty4 cI cZ cJ cG) y_Net_cut ws_Net_cut (rm_ 7 102 1 6) [.ref h, .int x, .int y] (ws) "java/lang/IllegalArgumentException" (fun u => nt_R cI cZ cG h S u) 1 6 := by
  obtain ⟨aE, aL, aS, aK, aR, aD, aG, aM, aP, aC, wE, wL, wS, wM, wR, wD, wG, rfl, kE, kL, kS, kM, kR, kD, kG⟩ := hR
  obtain ⟨fsE, mE⟩ := kE.mem
  obtain ⟨fsL, mL⟩ := kL.mem
  obtain ⟨fsS, mS⟩ := kS.mem
  obtain ⟨fsR, mR⟩ := kR.mem
  obtain ⟨fsD, mD⟩ := kD.mem
  obtain ⟨fsG, mG⟩ := kG.mem
  refine ct_enterX (cc := b_Net_cut) (maxL := 3) (ret := none) (by decide +kernel) (Nat.le_of_ble_eq_true rfl) ?_
  intro p e s m args below meth c hx hb hml hr ht hown hlk hnm A Q hA hK hP hD hQ ls hl hz
  have hown : s.vm.findClass R_Net = some m.cls := hown
  have hS : va_S A s.heap s.heap [] := va_S.rf
  have hl : lv_has ls 3 [(0, .ref h), (1, .int x), (2, .int y)] := hl
  refine lv_iload_n hx hb d_Net_cut_0 rfl (lv_at hl 1 rfl) ?_
  refine ct_rdS (As := [.int x]) (rest := []) ⟨hx, hb, hml, hown, ht⟩ (k_Net_isRouter l D cI cZ cJ cG x) (cb_S ht kc_Net_isRouter kl_Net_66 kn_Net ki_Net_isRouter hd_Net_isRouter ⟨Nat.le_of_ble_eq_true rfl, Nat.le_of_ble_eq_true rfl⟩) (wd_ct (Bs := [[(h, .inr (8, [.ref aE, .ref aL, .ref aS, .ref aK, .ref aR, .ref aD, .ref aG]))], [(aK, .inr (4, [.ref aL, .ref aS, .ref aM, .int S.lost]))], wE, wL, wS, wM, wR, wD, wG]) 9 rfl [] [0, 1, 2, 3, 4, 5, 6, 7, 8] (by decide) rfl) hK hP hD hS hA rfl hl.1 rfl (Nat.le_of_ble_eq_true rfl) ⟨(show 0 + 0 ≤ 1 by omega), (show 0 + 0 ≤ 6 by omega)⟩ d_Net_cut_1 (fun rhr1 H locs hr1 hP hD hS => ?_)
  subst hr1
  refine ri_ifeqB hx hb d_Net_cut_4 (tgt := 30) (by decide) (fun h4 => ?_) (fun h4 => ?_)
  · refine lv_iconst (v := nI 0) hx hb d_Net_cut_30 (by decide) ?_
    refine W.eq (g2 := F0 m 31 ls [.int (bI false)]) (congrArg (fun z => F0 m 31 ls (.int z :: [])) (rfl)) ?_
    exact ct_throwS (As := [.int (bI false)]) (rest := []) hz hQ hlk ⟨hx, hb, hml, hown, ht⟩ (x_Net_demand l s0 A0 h0 hfl D cI cZ cJ cG) (cb_S ht kc_Net_demand kl_Net_70 kn_Net ki_Net_demand hd_Net_demand ⟨Nat.le_of_ble_eq_true rfl, Nat.le_of_ble_eq_true rfl⟩) (wd_ct (Bs := [[(h, .inr (8, [.ref aE, .ref aL, .ref aS, .ref aK, .ref aR, .ref aD, .ref aG]))], [(aK, .inr (4, [.ref aL, .ref aS, .ref aM, .int S.lost]))], wE, wL, wS, wM, wR, wD, wG]) 9 rfl [] [0, 1, 2, 3, 4, 5, 6, 7, 8] (by decide) rfl) hK hP hD hS hA rfl hl.1 rfl (Nat.le_of_ble_eq_true rfl) ⟨by decide, by decide⟩ ⟨by decide, by decide⟩ d_Net_cut_31 (fun u hu => by subst hu; exact ⟨aE, aL, aS, aK, aR, aD, aG, aM, aP, aC, wE, wL, wS, wM, wR, wD, wG, rfl, kE, kL, kS, kM, kR, kD, kG⟩)
  · refine lv_iload_n hx hb d_Net_cut_7 rfl (lv_at hl 2 rfl) ?_
    refine ct_rdS (As := [.int y]) (rest := []) ⟨hx, hb, hml, hown, ht⟩ (k_Net_isRouter l D cI cZ cJ cG y) (cb_S ht kc_Net_isRouter kl_Net_66 kn_Net ki_Net_isRouter hd_Net_isRouter ⟨Nat.le_of_ble_eq_true rfl, Nat.le_of_ble_eq_true rfl⟩) (wd_ct (Bs := [[(h, .inr (8, [.ref aE, .ref aL, .ref aS, .ref aK, .ref aR, .ref aD, .ref aG]))], [(aK, .inr (4, [.ref aL, .ref aS, .ref aM, .int S.lost]))], wE, wL, wS, wM, wR, wD, wG]) 9 rfl [] [0, 1, 2, 3, 4, 5, 6, 7, 8] (by decide) rfl) hK hP hD hS hA rfl hl.1 rfl (Nat.le_of_ble_eq_true rfl) ⟨(show 0 + 0 ≤ 1 by omega), (show 0 + 0 ≤ 6 by omega)⟩ d_Net_cut_8 (fun rhr3 H locs hr3 hP hD hS => ?_)
    subst hr3
    refine ri_ifeqB hx hb d_Net_cut_11 (tgt := 30) (by decide) (fun h11 => ?_) (fun h11 => ?_)
    · refine lv_iconst (v := nI 0) hx hb d_Net_cut_30 (by decide) ?_
      refine W.eq (g2 := F0 m 31 ls [.int (bI false)]) (congrArg (fun z => F0 m 31 ls (.int z :: [])) (rfl)) ?_
      exact ct_throwS (As := [.int (bI false)]) (rest := []) hz hQ hlk ⟨hx, hb, hml, hown, ht⟩ (x_Net_demand l s0 A0 h0 hfl D cI cZ cJ cG) (cb_S ht kc_Net_demand kl_Net_70 kn_Net ki_Net_demand hd_Net_demand ⟨Nat.le_of_ble_eq_true rfl, Nat.le_of_ble_eq_true rfl⟩) (wd_ct (Bs := [[(h, .inr (8, [.ref aE, .ref aL, .ref aS, .ref aK, .ref aR, .ref aD, .ref aG]))], [(aK, .inr (4, [.ref aL, .ref aS, .ref aM, .int S.lost]))], wE, wL, wS, wM, wR, wD, wG]) 9 rfl [] [0, 1, 2, 3, 4, 5, 6, 7, 8] (by decide) rfl) hK hP hD hS hA rfl hl.1 rfl (Nat.le_of_ble_eq_true rfl) ⟨by decide, by decide⟩ ⟨by decide, by decide⟩ d_Net_cut_31 (fun u hu => by subst hu; exact ⟨aE, aL, aS, aK, aR, aD, aG, aM, aP, aC, wE, wL, wS, wM, wR, wD, wG, rfl, kE, kL, kS, kM, kR, kD, kG⟩)
    · obtain ⟨r, hr9, rfl⟩ := rg_n (k := 12) h4
      obtain ⟨o, ho9, rfl⟩ := rg_n (k := 12) h11
      have hl : lv_has ls 3 [(0, .ref h), (1, .int (nI r)), (2, .int (nI o))] := hl
      refine lv_aload_n hx hb d_Net_cut_14 rfl (lv_at hl 0 rfl) ?_
      refine va_get (D := D) (ci := 8) (v := .ref aL) (C := R_Net) (T := T_Net) (N := 7) hx hb ht in_Net hown hK hP 0 rfl rfl 1 (by decide) (ht _ kl_Net_19) (fun _ h9 => h9) rfl d_Net_cut_15 ?_
      refine lv_iload_n hx hb d_Net_cut_18 rfl (lv_at hl 1 rfl) ?_
      refine lv_iload_n hx hb d_Net_cut_19 rfl (lv_at hl 2 rfl) ?_
      refine ct_rdV (C := R_Links) (ci := 2) (As := [.int (nI r), .int (nI o)]) (rest := []) ⟨hx, hb, hml, hown, ht⟩ (k_Links_isWhole l D cI cZ cJ cG kL r o (fun a b => Nat.lt_of_le_of_lt (hi.2.2.1 a b) (by decide)) (fun a b => Nat.lt_of_le_of_lt (hi.2.1 a b) (by decide)) hr9 ho9) (cb_V ht kc_Links_isWhole kl_Net_110 kn_Links ki_Links_isWhole ks_Links_isWhole hd_Links_isWhole ⟨Nat.le_of_ble_eq_true rfl, Nat.le_of_ble_eq_true rfl⟩) (wd_mem 3 rfl mL) rfl rfl (wd_ct (Bs := [[(h, .inr (8, [.ref aE, .ref aL, .ref aS, .ref aK, .ref aR, .ref aD, .ref aG]))], [(aK, .inr (4, [.ref aL, .ref aS, .ref aM, .int S.lost]))], wE, wL, wS, wM, wR, wD, wG]) 9 rfl [3] [0, 1, 2, 4, 5, 6, 7, 8] (by decide) (wd_1 _)) hK hP hD hS hA rfl hl.1 rfl (Nat.le_of_ble_eq_true rfl) ⟨(show 0 + 0 ≤ 1 by omega), (show 0 + 0 ≤ 6 by omega)⟩ d_Net_cut_20 (fun rhr5 H locs hr5 hP hD hS => ?_)
      subst hr5
      refine ri_ifeqB hx hb d_Net_cut_23 (tgt := 30) (by decide) (fun h23 => ?_) (fun h23 => ?_)
      · refine lv_iconst (v := nI 0) hx hb d_Net_cut_30 (by decide) ?_
        refine W.eq (g2 := F0 m 31 ls [.int (bI false)]) (congrArg (fun z => F0 m 31 ls (.int z :: [])) (rfl)) ?_
        exact ct_throwS (As := [.int (bI false)]) (rest := []) hz hQ hlk ⟨hx, hb, hml, hown, ht⟩ (x_Net_demand l s0 A0 h0 hfl D cI cZ cJ cG) (cb_S ht kc_Net_demand kl_Net_70 kn_Net ki_Net_demand hd_Net_demand ⟨Nat.le_of_ble_eq_true rfl, Nat.le_of_ble_eq_true rfl⟩) (wd_ct (Bs := [[(h, .inr (8, [.ref aE, .ref aL, .ref aS, .ref aK, .ref aR, .ref aD, .ref aG]))], [(aK, .inr (4, [.ref aL, .ref aS, .ref aM, .int S.lost]))], wE, wL, wS, wM, wR, wD, wG]) 9 rfl [] [0, 1, 2, 3, 4, 5, 6, 7, 8] (by decide) rfl) hK hP hD hS hA rfl hl.1 rfl (Nat.le_of_ble_eq_true rfl) ⟨by decide, by decide⟩ ⟨by decide, by decide⟩ d_Net_cut_31 (fun u hu => by subst hu; exact ⟨aE, aL, aS, aK, aR, aD, aG, aM, aP, aC, wE, wL, wS, wM, wR, wD, wG, rfl, kE, kL, kS, kM, kR, kD, kG⟩)
      · exact absurd ⟨r, o, rfl, rfl, hr9, ho9, of_decide_eq_true h23⟩ hno
set_option maxHeartbeats 800000 in
set_option maxRecDepth 100000 in
theorem k_Net_bits (l : Launch) (D : va_G) (cI cZ cJ cG : ClassId) {h : Nat} {S : bm_S} {ws : va_W} (hR : nt_R cI cZ cG h S ws) (g : Nat) (hg : g < 8) : ct_I l D kls (ty4 cI cZ cJ cG) y_Net_bits ws_Net_bits (rm_ 1 21 0 0) [.ref h, .int (nI g)] (ws) (fun z u => z = S.G.2.1 g ∧ u = ws) 0 0 := by
  obtain ⟨aE, aL, aS, aK, aR, aD, aG, aM, aP, aC, wE, wL, wS, wM, wR, wD, wG, rfl, kE, kL, kS, kM, kR, kD, kG⟩ := hR
  obtain ⟨fsE, mE⟩ := kE.mem
  obtain ⟨fsL, mL⟩ := kL.mem
  obtain ⟨fsS, mS⟩ := kS.mem
  obtain ⟨fsR, mR⟩ := kR.mem
  obtain ⟨fsD, mD⟩ := kD.mem
  obtain ⟨fsG, mG⟩ := kG.mem
  refine ct_enterI (cc := b_Net_bits) (maxL := 2) (ret := (some .int)) (by decide +kernel) (Nat.le_of_ble_eq_true rfl) ?_
  intro p e s m args below meth c hx hb hml hr ht hown hlk hnm A Q hA hK hP hD hQ ls hl
  have hown : s.vm.findClass R_Net = some m.cls := hown
  have hS : va_S A s.heap s.heap [] := va_S.rf
  have hl : lv_has ls 2 [(0, .ref h), (1, .int (nI g))] := hl
  refine lv_iload_n hx hb d_Net_bits_0 rfl (lv_at hl 1 rfl) ?_
  refine ct_rdS (As := [.int (nI g)]) (rest := []) ⟨hx, hb, hml, hown, ht⟩ (k_Net_isGroup l D cI cZ cJ cG (nI g)) (cb_S ht kc_Net_isGroup kl_Net_159 kn_Net ki_Net_isGroup hd_Net_isGroup ⟨Nat.le_of_ble_eq_true rfl, Nat.le_of_ble_eq_true rfl⟩) (wd_ct (Bs := [[(h, .inr (8, [.ref aE, .ref aL, .ref aS, .ref aK, .ref aR, .ref aD, .ref aG]))], [(aK, .inr (4, [.ref aL, .ref aS, .ref aM, .int S.lost]))], wE, wL, wS, wM, wR, wD, wG]) 9 rfl [] [0, 1, 2, 3, 4, 5, 6, 7, 8] (by decide) rfl) hK hP hD hS hA rfl hl.1 rfl (Nat.le_of_ble_eq_true rfl) ⟨(show 0 + 0 ≤ 0 by omega), (show 0 + 0 ≤ 0 by omega)⟩ d_Net_bits_1 (fun rhr1 H locs hr1 hP hD hS => ?_)
  subst hr1
  refine W.eq (g2 := F0 m 4 ls [.int (bI true)]) (congrArg (fun z => F0 m 4 ls (.int z :: [])) (congrArg bI (rg_t8 hg))) ?_
  refine ct_callSV (As := [.int (bI true)]) (rest := []) ⟨hx, hb, hml, hown, ht⟩ (k_Net_demand l D cI cZ cJ cG) (cb_S ht kc_Net_demand kl_Net_70 kn_Net ki_Net_demand hd_Net_demand ⟨Nat.le_of_ble_eq_true rfl, Nat.le_of_ble_eq_true rfl⟩) (wd_ct (Bs := [[(h, .inr (8, [.ref aE, .ref aL, .ref aS, .ref aK, .ref aR, .ref aD, .ref aG]))], [(aK, .inr (4, [.ref aL, .ref aS, .ref aM, .int S.lost]))], wE, wL, wS, wM, wR, wD, wG]) 9 rfl [] [0, 1, 2, 3, 4, 5, 6, 7, 8] (by decide) rfl) hK hP hD hS hA rfl hl.1 rfl (Nat.le_of_ble_eq_true rfl) ⟨(show 0 + 0 ≤ 0 by omega), (show 0 + 0 ≤ 0 by omega)⟩ d_Net_bits_4 (fun u2 H locs hu2 hP hD hS => ?_)
  subst hu2
  refine W.widen (k := 0) (n := 0) (Nat.le_refl _) (Nat.le_refl _) ?_
  have hP := wd_nP (N := []) rfl 9 rfl [0, 1, 2, 3, 4, 5, 6, 7, 8] (by decide) hP
  have hD := wd_nD (N := []) rfl 9 rfl [0, 1, 2, 3, 4, 5, 6, 7, 8] (by decide) hD
  have hP : va_P D kls (List.flatten [[(h, .inr (8, [.ref aE, .ref aL, .ref aS, .ref aK, .ref aR, .ref aD, .ref aG]))], [(aK, .inr (4, [.ref aL, .ref aS, .ref aM, .int S.lost]))], wE, wL, wS, wM, wR, wD, wG]) H := hP
  have hD : va_D A (List.flatten [[(h, .inr (8, [.ref aE, .ref aL, .ref aS, .ref aK, .ref aR, .ref aD, .ref aG]))], [(aK, .inr (4, [.ref aL, .ref aS, .ref aM, .int S.lost]))], wE, wL, wS, wM, wR, wD, wG]) := hD
  refine W.eq (g2 := F0 m 7 ls []) rfl ?_
  refine lv_aload_n hx hb d_Net_bits_7 rfl (lv_at hl 0 rfl) ?_
  refine va_get (D := D) (ci := 8) (v := .ref aG) (C := R_Net) (T := T_Net) (N := 7) hx hb ht in_Net hown hK hP 0 rfl rfl 6 (by decide) (ht _ kl_Net_62) (fun _ h9 => h9) rfl d_Net_bits_8 ?_
  refine lv_iload_n hx hb d_Net_bits_11 rfl (lv_at hl 1 rfl) ?_
  refine ct_rdV (C := R_Groups) (ci := 7) (As := [.int (nI g)]) (rest := []) ⟨hx, hb, hml, hown, ht⟩ (k_Groups_heardOf l D cI cZ cJ cG kG g hg) (cb_V ht kc_Groups_heardOf kl_Net_187 kn_Groups ki_Groups_heardOf ks_Groups_heardOf hd_Groups_heardOf ⟨Nat.le_of_ble_eq_true rfl, Nat.le_of_ble_eq_true rfl⟩) (wd_mem 8 rfl mG) rfl rfl (wd_ct (Bs := [[(h, .inr (8, [.ref aE, .ref aL, .ref aS, .ref aK, .ref aR, .ref aD, .ref aG]))], [(aK, .inr (4, [.ref aL, .ref aS, .ref aM, .int S.lost]))], wE, wL, wS, wM, wR, wD, wG]) 9 rfl [8] [0, 1, 2, 3, 4, 5, 6, 7] (by decide) (wd_1 _)) hK hP hD hS hA rfl hl.1 rfl (Nat.le_of_ble_eq_true rfl) ⟨(show 0 + 0 ≤ 0 by omega), (show 0 + 0 ≤ 0 by omega)⟩ d_Net_bits_12 (fun rhr3 H locs hr3 hP hD hS => ?_)
  subst hr3
  exact ct_iret hQ hx hb hr hlk hP hD hS hK (by omega) (by omega) d_Net_bits_15 (⟨rfl, rfl⟩)
set_option maxHeartbeats 800000 in
set_option maxRecDepth 100000 in
theorem x_Net_bits (l : Launch) (s0 : State) (A0 : Array Value) (h0 : fz_0 A0 s0) (hfl : ∀ e : Env, l.admits e → e.platform.stackTraces = false) (D : va_G) (cI cZ cJ cG : ClassId) {h : Nat} {S : bm_S} {ws : va_W} (hR : nt_R cI cZ cG h S ws) (x : Int32) (hno : rg 0 8 x = false) : ct_X l s0 D kls (ty4 cI cZ cJ cG) y_Net_bits ws_Net_bits (rm_ 7 102 1 6) [.ref h, .int x] (ws) "java/lang/IllegalArgumentException" (fun u => nt_R cI cZ cG h S u) 1 6 := by
  obtain ⟨aE, aL, aS, aK, aR, aD, aG, aM, aP, aC, wE, wL, wS, wM, wR, wD, wG, rfl, kE, kL, kS, kM, kR, kD, kG⟩ := hR
  obtain ⟨fsE, mE⟩ := kE.mem
  obtain ⟨fsL, mL⟩ := kL.mem
  obtain ⟨fsS, mS⟩ := kS.mem
  obtain ⟨fsR, mR⟩ := kR.mem
  obtain ⟨fsD, mD⟩ := kD.mem
  obtain ⟨fsG, mG⟩ := kG.mem
  refine ct_enterX (cc := b_Net_bits) (maxL := 2) (ret := (some .int)) (by decide +kernel) (Nat.le_of_ble_eq_true rfl) ?_
  intro p e s m args below meth c hx hb hml hr ht hown hlk hnm A Q hA hK hP hD hQ ls hl hz
  have hown : s.vm.findClass R_Net = some m.cls := hown
  have hS : va_S A s.heap s.heap [] := va_S.rf
  have hl : lv_has ls 2 [(0, .ref h), (1, .int x)] := hl
  refine lv_iload_n hx hb d_Net_bits_0 rfl (lv_at hl 1 rfl) ?_
  refine ct_rdS (As := [.int x]) (rest := []) ⟨hx, hb, hml, hown, ht⟩ (k_Net_isGroup l D cI cZ cJ cG x) (cb_S ht kc_Net_isGroup kl_Net_159 kn_Net ki_Net_isGroup hd_Net_isGroup ⟨Nat.le_of_ble_eq_true rfl, Nat.le_of_ble_eq_true rfl⟩) (wd_ct (Bs := [[(h, .inr (8, [.ref aE, .ref aL, .ref aS, .ref aK, .ref aR, .ref aD, .ref aG]))], [(aK, .inr (4, [.ref aL, .ref aS, .ref aM, .int S.lost]))], wE, wL, wS, wM, wR, wD, wG]) 9 rfl [] [0, 1, 2, 3, 4, 5, 6, 7, 8] (by decide) rfl) hK hP hD hS hA rfl hl.1 rfl (Nat.le_of_ble_eq_true rfl) ⟨(show 0 + 0 ≤ 1 by omega), (show 0 + 0 ≤ 6 by omega)⟩ d_Net_bits_1 (fun rhr1 H locs hr1 hP hD hS => ?_)
  subst hr1
  refine W.eq (g2 := F0 m 4 ls [.int (bI false)]) (congrArg (fun z => F0 m 4 ls (.int z :: [])) (congrArg bI hno)) ?_
  exact ct_throwS (As := [.int (bI false)]) (rest := []) hz hQ hlk ⟨hx, hb, hml, hown, ht⟩ (x_Net_demand l s0 A0 h0 hfl D cI cZ cJ cG) (cb_S ht kc_Net_demand kl_Net_70 kn_Net ki_Net_demand hd_Net_demand ⟨Nat.le_of_ble_eq_true rfl, Nat.le_of_ble_eq_true rfl⟩) (wd_ct (Bs := [[(h, .inr (8, [.ref aE, .ref aL, .ref aS, .ref aK, .ref aR, .ref aD, .ref aG]))], [(aK, .inr (4, [.ref aL, .ref aS, .ref aM, .int S.lost]))], wE, wL, wS, wM, wR, wD, wG]) 9 rfl [] [0, 1, 2, 3, 4, 5, 6, 7, 8] (by decide) rfl) hK hP hD hS hA rfl hl.1 rfl (Nat.le_of_ble_eq_true rfl) ⟨by decide, by decide⟩ ⟨by decide, by decide⟩ d_Net_bits_4 (fun u hu => by subst hu; exact ⟨aE, aL, aS, aK, aR, aD, aG, aM, aP, aC, wE, wL, wS, wM, wR, wD, wG, rfl, kE, kL, kS, kM, kR, kD, kG⟩)
set_option maxHeartbeats 800000 in
set_option maxRecDepth 100000 in
theorem k_Net_isPacket (l : Launch) (D : va_G) (cI cZ cJ cG : ClassId) {h : Nat} {S : bm_S} {ws : va_W} (hR : nt_R cI cZ cG h S ws) (x : Int32) : ct_I l D kls (ty4 cI cZ cJ cG) y_Net_isPacket ws_Net_isPacket (rm_ 2 40 0 0) [.ref h, .int x] (ws) (fun z u => z = bI (rg 1 ((S.D.1.2.1 : Int) + 1) x) ∧ u = ws) 0 0 := by
  obtain ⟨aE, aL, aS, aK, aR, aD, aG, aM, aP, aC, wE, wL, wS, wM, wR, wD, wG, rfl, kE, kL, kS, kM, kR, kD, kG⟩ := hR
  obtain ⟨fsE, mE⟩ := kE.mem
  obtain ⟨fsL, mL⟩ := kL.mem
  obtain ⟨fsS, mS⟩ := kS.mem
  obtain ⟨fsR, mR⟩ := kR.mem
  obtain ⟨fsD, mD⟩ := kD.mem
  obtain ⟨fsG, mG⟩ := kG.mem
  refine ct_enterI (cc := b_Net_isPacket) (maxL := 2) (ret := (some .boolean)) (by decide +kernel) (Nat.le_of_ble_eq_true rfl) ?_
  intro p e s m args below meth c hx hb hml hr ht hown hlk hnm A Q hA hK hP hD hQ ls hl
  have hown : s.vm.findClass R_Net = some m.cls := hown
  have hS : va_S A s.heap s.heap [] := va_S.rf
  have hl : lv_has ls 2 [(0, .ref h), (1, .int x)] := hl
  have bD := kD.n
  have tn : (nI S.D.1.2.1).toInt = (S.D.1.2.1 : Int) := nI_toInt (show S.D.1.2.1 < 2 ^ 31 by omega)
  refine lv_iload_n hx hb d_Net_isPacket_0 rfl (lv_at hl 1 rfl) ?_
  refine lv_iconst (v := nI 1) hx hb d_Net_isPacket_1 (by decide) ?_
  refine lv_icmp_lt hx hb d_Net_isPacket_2 (tgt := 20) (by decide) (fun h2 => ?_) (fun h2 => ?_)
  · refine lv_iconst (v := nI 0) hx hb d_Net_isPacket_20 (by decide) ?_
    exact ct_zret (b := false) hQ hx hb hr hlk hP hD hS hK (by omega) (by omega) d_Net_isPacket_21 (⟨congrArg bI (decide_eq_false (by clear hQ hP hD; simp only [tI_lt, tI_le, tI_1, tn] at *; omega)).symm, rfl⟩)
  · refine lv_iload_n hx hb d_Net_isPacket_5 rfl (lv_at hl 1 rfl) ?_
    refine lv_aload_n hx hb d_Net_isPacket_6 rfl (lv_at hl 0 rfl) ?_
    refine va_get (D := D) (ci := 8) (v := .ref aD) (C := R_Net) (T := T_Net) (N := 7) hx hb ht in_Net hown hK hP 0 rfl rfl 5 (by decide) (ht _ kl_Net_53) (fun _ h9 => h9) rfl d_Net_isPacket_7 ?_
    refine ct_rdV (C := R_Data) (ci := 6) (As := []) (rest := [.int x]) ⟨hx, hb, hml, hown, ht⟩ (k_Data_packetsSoFar l D cI cZ cJ cG kD) (cb_V ht kc_Data_packetsSoFar kl_Net_211 kn_Data ki_Data_packetsSoFar ks_Data_packetsSoFar hd_Data_packetsSoFar ⟨Nat.le_of_ble_eq_true rfl, Nat.le_of_ble_eq_true rfl⟩) (wd_mem 7 rfl mD) rfl rfl (wd_ct (Bs := [[(h, .inr (8, [.ref aE, .ref aL, .ref aS, .ref aK, .ref aR, .ref aD, .ref aG]))], [(aK, .inr (4, [.ref aL, .ref aS, .ref aM, .int S.lost]))], wE, wL, wS, wM, wR, wD, wG]) 9 rfl [7] [0, 1, 2, 3, 4, 5, 6, 8] (by decide) (wd_1 _)) hK hP hD hS hA rfl hl.1 rfl (Nat.le_of_ble_eq_true rfl) ⟨(show 0 + 0 ≤ 0 by omega), (show 0 + 0 ≤ 0 by omega)⟩ d_Net_isPacket_10 (fun rhr2 H locs hr2 hP hD hS => ?_)
    subst hr2
    refine lv_icmp_gt hx hb d_Net_isPacket_13 (tgt := 20) (by decide) (fun h13 => ?_) (fun h13 => ?_)
    · refine lv_iconst (v := nI 0) hx hb d_Net_isPacket_20 (by decide) ?_
      exact ct_zret (b := false) hQ hx hb hr hlk hP hD hS hK (by omega) (by omega) d_Net_isPacket_21 (⟨congrArg bI (decide_eq_false (by clear hQ hP hD; simp only [tI_lt, tI_le, tI_1, tn] at *; omega)).symm, rfl⟩)
    · refine lv_iconst (v := nI 1) hx hb d_Net_isPacket_16 (by decide) ?_
      refine lv_goto hx hb d_Net_isPacket_17 (tgt := 21) (by decide) ?_
      exact ct_zret (b := true) hQ hx hb hr hlk hP hD hS hK (by omega) (by omega) d_Net_isPacket_21 (⟨congrArg bI (decide_eq_true (by clear hQ hP hD; simp only [tI_lt, tI_le, tI_1, tn] at *; omega)).symm, rfl⟩)
set_option maxHeartbeats 800000 in
set_option maxRecDepth 100000 in
theorem k_Net_delivered (l : Launch) (D : va_G) (cI cZ cJ cG : ClassId) {h : Nat} {S : bm_S} {ws : va_W} (hR : nt_R cI cZ cG h S ws) (pk : Nat) (hp1 : 1 ≤ pk) (hp2 : pk ≤ S.D.1.2.1) : ct_I l D kls (ty4 cI cZ cJ cG) y_Net_delivered ws_Net_delivered (rm_ 3 66 0 0) [.ref h, .int (nI pk)] (ws) (fun z u => z = S.D.1.2.2 (pk - 1) 0 ∧ u = ws) 0 0 := by
  have hR9 := hR
  obtain ⟨aE, aL, aS, aK, aR, aD, aG, aM, aP, aC, wE, wL, wS, wM, wR, wD, wG, rfl, kE, kL, kS, kM, kR, kD, kG⟩ := hR
  obtain ⟨fsE, mE⟩ := kE.mem
  obtain ⟨fsL, mL⟩ := kL.mem
  obtain ⟨fsS, mS⟩ := kS.mem
  obtain ⟨fsR, mR⟩ := kR.mem
  obtain ⟨fsD, mD⟩ := kD.mem
  obtain ⟨fsG, mG⟩ := kG.mem
  refine ct_enterI (cc := b_Net_delivered) (maxL := 2) (ret := (some .int)) (by decide +kernel) (Nat.le_of_ble_eq_true rfl) ?_
  intro p e s m args below meth c hx hb hml hr ht hown hlk hnm A Q hA hK hP hD hQ ls hl
  have hown : s.vm.findClass R_Net = some m.cls := hown
  have hS : va_S A s.heap s.heap [] := va_S.rf
  have hl : lv_has ls 2 [(0, .ref h), (1, .int (nI pk))] := hl
  have bD := kD.n
  refine lv_aload_n hx hb d_Net_delivered_0 rfl (lv_at hl 0 rfl) ?_
  refine lv_iload_n hx hb d_Net_delivered_1 rfl (lv_at hl 1 rfl) ?_
  refine ct_rdV (C := R_Net) (ci := 8) (As := [.int (nI pk)]) (rest := []) ⟨hx, hb, hml, hown, ht⟩ (k_Net_isPacket l D cI cZ cJ cG hR9 (nI pk)) (cb_V ht kc_Net_isPacket kl_Net_202 kn_Net ki_Net_isPacket ks_Net_isPacket hd_Net_isPacket ⟨Nat.le_of_ble_eq_true rfl, Nat.le_of_ble_eq_true rfl⟩) (List.mem_of_getElem? (i := 0) rfl) rfl rfl (wd_ct (Bs := [[(h, .inr (8, [.ref aE, .ref aL, .ref aS, .ref aK, .ref aR, .ref aD, .ref aG]))], [(aK, .inr (4, [.ref aL, .ref aS, .ref aM, .int S.lost]))], wE, wL, wS, wM, wR, wD, wG]) 9 rfl [0, 1, 2, 3, 4, 5, 6, 7, 8] [] (by decide) rfl) hK hP hD hS hA rfl hl.1 rfl (Nat.le_of_ble_eq_true rfl) ⟨(show 0 + 0 ≤ 0 by omega), (show 0 + 0 ≤ 0 by omega)⟩ d_Net_delivered_2 (fun rhr1 H locs hr1 hP hD hS => ?_)
  subst hr1
  refine W.eq (g2 := F0 m 5 ls [.int (bI true)]) (congrArg (fun z => F0 m 5 ls (.int z :: [])) (congrArg bI (by rw [rg_nI (show pk < 2 ^ 31 by omega)]; exact decide_eq_true (by omega)))) ?_
  refine ct_callSV (As := [.int (bI true)]) (rest := []) ⟨hx, hb, hml, hown, ht⟩ (k_Net_demand l D cI cZ cJ cG) (cb_S ht kc_Net_demand kl_Net_70 kn_Net ki_Net_demand hd_Net_demand ⟨Nat.le_of_ble_eq_true rfl, Nat.le_of_ble_eq_true rfl⟩) (wd_ct (Bs := [[(h, .inr (8, [.ref aE, .ref aL, .ref aS, .ref aK, .ref aR, .ref aD, .ref aG]))], [(aK, .inr (4, [.ref aL, .ref aS, .ref aM, .int S.lost]))], wE, wL, wS, wM, wR, wD, wG]) 9 rfl [] [0, 1, 2, 3, 4, 5, 6, 7, 8] (by decide) rfl) hK hP hD hS hA rfl hl.1 rfl (Nat.le_of_ble_eq_true rfl) ⟨(show 0 + 0 ≤ 0 by omega), (show 0 + 0 ≤ 0 by omega)⟩ d_Net_delivered_5 (fun u2 H locs hu2 hP hD hS => ?_)
  subst hu2
  refine W.widen (k := 0) (n := 0) (Nat.le_refl _) (Nat.le_refl _) ?_
  have hP := wd_nP (N := []) rfl 9 rfl [0, 1, 2, 3, 4, 5, 6, 7, 8] (by decide) hP
  have hD := wd_nD (N := []) rfl 9 rfl [0, 1, 2, 3, 4, 5, 6, 7, 8] (by decide) hD
  have hP : va_P D kls (List.flatten [[(h, .inr (8, [.ref aE, .ref aL, .ref aS, .ref aK, .ref aR, .ref aD, .ref aG]))], [(aK, .inr (4, [.ref aL, .ref aS, .ref aM, .int S.lost]))], wE, wL, wS, wM, wR, wD, wG]) H := hP
  have hD : va_D A (List.flatten [[(h, .inr (8, [.ref aE, .ref aL, .ref aS, .ref aK, .ref aR, .ref aD, .ref aG]))], [(aK, .inr (4, [.ref aL, .ref aS, .ref aM, .int S.lost]))], wE, wL, wS, wM, wR, wD, wG]) := hD
  refine W.eq (g2 := F0 m 8 ls []) rfl ?_
  refine lv_aload_n hx hb d_Net_delivered_8 rfl (lv_at hl 0 rfl) ?_
  refine va_get (D := D) (ci := 8) (v := .ref aD) (C := R_Net) (T := T_Net) (N := 7) hx hb ht in_Net hown hK hP 0 rfl rfl 5 (by decide) (ht _ kl_Net_53) (fun _ h9 => h9) rfl d_Net_delivered_9 ?_
  refine lv_iload_n hx hb d_Net_delivered_12 rfl (lv_at hl 1 rfl) ?_
  refine ct_rdV (C := R_Data) (ci := 6) (As := [.int (nI pk)]) (rest := []) ⟨hx, hb, hml, hown, ht⟩ (k_Data_bitsDelivered l D cI cZ cJ cG kD pk hp1 hp2) (cb_V ht kc_Data_bitsDelivered kl_Net_205 kn_Data ki_Data_bitsDelivered ks_Data_bitsDelivered hd_Data_bitsDelivered ⟨Nat.le_of_ble_eq_true rfl, Nat.le_of_ble_eq_true rfl⟩) (wd_mem 7 rfl mD) rfl rfl (wd_ct (Bs := [[(h, .inr (8, [.ref aE, .ref aL, .ref aS, .ref aK, .ref aR, .ref aD, .ref aG]))], [(aK, .inr (4, [.ref aL, .ref aS, .ref aM, .int S.lost]))], wE, wL, wS, wM, wR, wD, wG]) 9 rfl [7] [0, 1, 2, 3, 4, 5, 6, 8] (by decide) (wd_1 _)) hK hP hD hS hA rfl hl.1 rfl (Nat.le_of_ble_eq_true rfl) ⟨(show 0 + 0 ≤ 0 by omega), (show 0 + 0 ≤ 0 by omega)⟩ d_Net_delivered_13 (fun rhr3 H locs hr3 hP hD hS => ?_)
  subst hr3
  exact ct_iret hQ hx hb hr hlk hP hD hS hK (by omega) (by omega) d_Net_delivered_16 (⟨rfl, rfl⟩)
set_option maxHeartbeats 800000 in
set_option maxRecDepth 100000 in
theorem x_Net_delivered (l : Launch) (s0 : State) (A0 : Array Value) (h0 : fz_0 A0 s0) (hfl : ∀ e : Env, l.admits e → e.platform.stackTraces = false) (D : va_G) (cI cZ cJ cG : ClassId) {h : Nat} {S : bm_S} {ws : va_W} (hR : nt_R cI cZ cG h S ws) (x : Int32) (hno : rg 1 ((S.D.1.2.1 : Int) + 1) x = false) : ct_X l s0 D kls (ty4 cI cZ cJ cG) y_Net_delivered ws_Net_delivered (rm_ 7 102 1 6) [.ref h, .int x] (ws) "java/lang/IllegalArgumentException" (fun u => nt_R cI cZ cG h S u) 1 6 := by
  have hR9 := hR
  obtain ⟨aE, aL, aS, aK, aR, aD, aG, aM, aP, aC, wE, wL, wS, wM, wR, wD, wG, rfl, kE, kL, kS, kM, kR, kD, kG⟩ := hR
  obtain ⟨fsE, mE⟩ := kE.mem
  obtain ⟨fsL, mL⟩ := kL.mem
  obtain ⟨fsS, mS⟩ := kS.mem
  obtain ⟨fsR, mR⟩ := kR.mem
  obtain ⟨fsD, mD⟩ := kD.mem
  obtain ⟨fsG, mG⟩ := kG.mem
  refine ct_enterX (cc := b_Net_delivered) (maxL := 2) (ret := (some .int)) (by decide +kernel) (Nat.le_of_ble_eq_true rfl) ?_
  intro p e s m args below meth c hx hb hml hr ht hown hlk hnm A Q hA hK hP hD hQ ls hl hz
  have hown : s.vm.findClass R_Net = some m.cls := hown
  have hS : va_S A s.heap s.heap [] := va_S.rf
  have hl : lv_has ls 2 [(0, .ref h), (1, .int x)] := hl
  refine lv_aload_n hx hb d_Net_delivered_0 rfl (lv_at hl 0 rfl) ?_
  refine lv_iload_n hx hb d_Net_delivered_1 rfl (lv_at hl 1 rfl) ?_
  refine ct_rdV (C := R_Net) (ci := 8) (As := [.int x]) (rest := []) ⟨hx, hb, hml, hown, ht⟩ (k_Net_isPacket l D cI cZ cJ cG hR9 x) (cb_V ht kc_Net_isPacket kl_Net_202 kn_Net ki_Net_isPacket ks_Net_isPacket hd_Net_isPacket ⟨Nat.le_of_ble_eq_true rfl, Nat.le_of_ble_eq_true rfl⟩) (List.mem_of_getElem? (i := 0) rfl) rfl rfl (wd_ct (Bs := [[(h, .inr (8, [.ref aE, .ref aL, .ref aS, .ref aK, .ref aR, .ref aD, .ref aG]))], [(aK, .inr (4, [.ref aL, .ref aS, .ref aM, .int S.lost]))], wE, wL, wS, wM, wR, wD, wG]) 9 rfl [0, 1, 2, 3, 4, 5, 6, 7, 8] [] (by decide) rfl) hK hP hD hS hA rfl hl.1 rfl (Nat.le_of_ble_eq_true rfl) ⟨(show 0 + 0 ≤ 1 by omega), (show 0 + 0 ≤ 6 by omega)⟩ d_Net_delivered_2 (fun rhr1 H locs hr1 hP hD hS => ?_)
  subst hr1
  refine W.eq (g2 := F0 m 5 ls [.int (bI false)]) (congrArg (fun z => F0 m 5 ls (.int z :: [])) (congrArg bI hno)) ?_
  exact ct_throwS (As := [.int (bI false)]) (rest := []) hz hQ hlk ⟨hx, hb, hml, hown, ht⟩ (x_Net_demand l s0 A0 h0 hfl D cI cZ cJ cG) (cb_S ht kc_Net_demand kl_Net_70 kn_Net ki_Net_demand hd_Net_demand ⟨Nat.le_of_ble_eq_true rfl, Nat.le_of_ble_eq_true rfl⟩) (wd_ct (Bs := [[(h, .inr (8, [.ref aE, .ref aL, .ref aS, .ref aK, .ref aR, .ref aD, .ref aG]))], [(aK, .inr (4, [.ref aL, .ref aS, .ref aM, .int S.lost]))], wE, wL, wS, wM, wR, wD, wG]) 9 rfl [] [0, 1, 2, 3, 4, 5, 6, 7, 8] (by decide) rfl) hK hP hD hS hA rfl hl.1 rfl (Nat.le_of_ble_eq_true rfl) ⟨by decide, by decide⟩ ⟨by decide, by decide⟩ d_Net_delivered_5 (fun u hu => by subst hu; exact ⟨aE, aL, aS, aK, aR, aD, aG, aM, aP, aC, wE, wL, wS, wM, wR, wD, wG, rfl, kE, kL, kS, kM, kR, kD, kG⟩)
set_option maxHeartbeats 800000 in
set_option maxRecDepth 100000 in
theorem k_Net_crossings (l : Launch) (D : va_G) (cI cZ cJ cG : ClassId) {h : Nat} {S : bm_S} {ws : va_W} (hR : nt_R cI cZ cG h S ws) (pk : Nat) (hp1 : 1 ≤ pk) (hp2 : pk ≤ S.D.1.2.1) : ct_I l D kls (ty4 cI cZ cJ cG) y_Net_crossings ws_Net_crossings (rm_ 3 66 0 0) [.ref h, .int (nI pk)] (ws) (fun z u => z = S.D.1.2.2 (pk - 1) 1 ∧ u = ws) 0 0 := by
  have hR9 := hR
  obtain ⟨aE, aL, aS, aK, aR, aD, aG, aM, aP, aC, wE, wL, wS, wM, wR, wD, wG, rfl, kE, kL, kS, kM, kR, kD, kG⟩ := hR
  obtain ⟨fsE, mE⟩ := kE.mem
  obtain ⟨fsL, mL⟩ := kL.mem
  obtain ⟨fsS, mS⟩ := kS.mem
  obtain ⟨fsR, mR⟩ := kR.mem
  obtain ⟨fsD, mD⟩ := kD.mem
  obtain ⟨fsG, mG⟩ := kG.mem
  refine ct_enterI (cc := b_Net_crossings) (maxL := 2) (ret := (some .int)) (by decide +kernel) (Nat.le_of_ble_eq_true rfl) ?_
  intro p e s m args below meth c hx hb hml hr ht hown hlk hnm A Q hA hK hP hD hQ ls hl
  have hown : s.vm.findClass R_Net = some m.cls := hown
  have hS : va_S A s.heap s.heap [] := va_S.rf
  have hl : lv_has ls 2 [(0, .ref h), (1, .int (nI pk))] := hl
  have bD := kD.n
  refine lv_aload_n hx hb d_Net_crossings_0 rfl (lv_at hl 0 rfl) ?_
  refine lv_iload_n hx hb d_Net_crossings_1 rfl (lv_at hl 1 rfl) ?_
  refine ct_rdV (C := R_Net) (ci := 8) (As := [.int (nI pk)]) (rest := []) ⟨hx, hb, hml, hown, ht⟩ (k_Net_isPacket l D cI cZ cJ cG hR9 (nI pk)) (cb_V ht kc_Net_isPacket kl_Net_202 kn_Net ki_Net_isPacket ks_Net_isPacket hd_Net_isPacket ⟨Nat.le_of_ble_eq_true rfl, Nat.le_of_ble_eq_true rfl⟩) (List.mem_of_getElem? (i := 0) rfl) rfl rfl (wd_ct (Bs := [[(h, .inr (8, [.ref aE, .ref aL, .ref aS, .ref aK, .ref aR, .ref aD, .ref aG]))], [(aK, .inr (4, [.ref aL, .ref aS, .ref aM, .int S.lost]))], wE, wL, wS, wM, wR, wD, wG]) 9 rfl [0, 1, 2, 3, 4, 5, 6, 7, 8] [] (by decide) rfl) hK hP hD hS hA rfl hl.1 rfl (Nat.le_of_ble_eq_true rfl) ⟨(show 0 + 0 ≤ 0 by omega), (show 0 + 0 ≤ 0 by omega)⟩ d_Net_crossings_2 (fun rhr1 H locs hr1 hP hD hS => ?_)
  subst hr1
  refine W.eq (g2 := F0 m 5 ls [.int (bI true)]) (congrArg (fun z => F0 m 5 ls (.int z :: [])) (congrArg bI (by rw [rg_nI (show pk < 2 ^ 31 by omega)]; exact decide_eq_true (by omega)))) ?_
  refine ct_callSV (As := [.int (bI true)]) (rest := []) ⟨hx, hb, hml, hown, ht⟩ (k_Net_demand l D cI cZ cJ cG) (cb_S ht kc_Net_demand kl_Net_70 kn_Net ki_Net_demand hd_Net_demand ⟨Nat.le_of_ble_eq_true rfl, Nat.le_of_ble_eq_true rfl⟩) (wd_ct (Bs := [[(h, .inr (8, [.ref aE, .ref aL, .ref aS, .ref aK, .ref aR, .ref aD, .ref aG]))], [(aK, .inr (4, [.ref aL, .ref aS, .ref aM, .int S.lost]))], wE, wL, wS, wM, wR, wD, wG]) 9 rfl [] [0, 1, 2, 3, 4, 5, 6, 7, 8] (by decide) rfl) hK hP hD hS hA rfl hl.1 rfl (Nat.le_of_ble_eq_true rfl) ⟨(show 0 + 0 ≤ 0 by omega), (show 0 + 0 ≤ 0 by omega)⟩ d_Net_crossings_5 (fun u2 H locs hu2 hP hD hS => ?_)
  subst hu2
  refine W.widen (k := 0) (n := 0) (Nat.le_refl _) (Nat.le_refl _) ?_
  have hP := wd_nP (N := []) rfl 9 rfl [0, 1, 2, 3, 4, 5, 6, 7, 8] (by decide) hP
  have hD := wd_nD (N := []) rfl 9 rfl [0, 1, 2, 3, 4, 5, 6, 7, 8] (by decide) hD
  have hP : va_P D kls (List.flatten [[(h, .inr (8, [.ref aE, .ref aL, .ref aS, .ref aK, .ref aR, .ref aD, .ref aG]))], [(aK, .inr (4, [.ref aL, .ref aS, .ref aM, .int S.lost]))], wE, wL, wS, wM, wR, wD, wG]) H := hP
  have hD : va_D A (List.flatten [[(h, .inr (8, [.ref aE, .ref aL, .ref aS, .ref aK, .ref aR, .ref aD, .ref aG]))], [(aK, .inr (4, [.ref aL, .ref aS, .ref aM, .int S.lost]))], wE, wL, wS, wM, wR, wD, wG]) := hD
  refine W.eq (g2 := F0 m 8 ls []) rfl ?_
  refine lv_aload_n hx hb d_Net_crossings_8 rfl (lv_at hl 0 rfl) ?_
  refine va_get (D := D) (ci := 8) (v := .ref aD) (C := R_Net) (T := T_Net) (N := 7) hx hb ht in_Net hown hK hP 0 rfl rfl 5 (by decide) (ht _ kl_Net_53) (fun _ h9 => h9) rfl d_Net_crossings_9 ?_
  refine lv_iload_n hx hb d_Net_crossings_12 rfl (lv_at hl 1 rfl) ?_
  refine ct_rdV (C := R_Data) (ci := 6) (As := [.int (nI pk)]) (rest := []) ⟨hx, hb, hml, hown, ht⟩ (k_Data_linksCrossed l D cI cZ cJ cG kD pk hp1 hp2) (cb_V ht kc_Data_linksCrossed kl_Net_208 kn_Data ki_Data_linksCrossed ks_Data_linksCrossed hd_Data_linksCrossed ⟨Nat.le_of_ble_eq_true rfl, Nat.le_of_ble_eq_true rfl⟩) (wd_mem 7 rfl mD) rfl rfl (wd_ct (Bs := [[(h, .inr (8, [.ref aE, .ref aL, .ref aS, .ref aK, .ref aR, .ref aD, .ref aG]))], [(aK, .inr (4, [.ref aL, .ref aS, .ref aM, .int S.lost]))], wE, wL, wS, wM, wR, wD, wG]) 9 rfl [7] [0, 1, 2, 3, 4, 5, 6, 8] (by decide) (wd_1 _)) hK hP hD hS hA rfl hl.1 rfl (Nat.le_of_ble_eq_true rfl) ⟨(show 0 + 0 ≤ 0 by omega), (show 0 + 0 ≤ 0 by omega)⟩ d_Net_crossings_13 (fun rhr3 H locs hr3 hP hD hS => ?_)
  subst hr3
  exact ct_iret hQ hx hb hr hlk hP hD hS hK (by omega) (by omega) d_Net_crossings_16 (⟨rfl, rfl⟩)
set_option maxHeartbeats 800000 in
set_option maxRecDepth 100000 in
theorem x_Net_crossings (l : Launch) (s0 : State) (A0 : Array Value) (h0 : fz_0 A0 s0) (hfl : ∀ e : Env, l.admits e → e.platform.stackTraces = false) (D : va_G) (cI cZ cJ cG : ClassId) {h : Nat} {S : bm_S} {ws : va_W} (hR : nt_R cI cZ cG h S ws) (x : Int32) (hno : rg 1 ((S.D.1.2.1 : Int) + 1) x = false) : ct_X l s0 D kls (ty4 cI cZ cJ cG) y_Net_crossings ws_Net_crossings (rm_ 7 102 1 6) [.ref h, .int x] (ws) "java/lang/IllegalArgumentException" (fun u => nt_R cI cZ cG h S u) 1 6 := by
  have hR9 := hR
  obtain ⟨aE, aL, aS, aK, aR, aD, aG, aM, aP, aC, wE, wL, wS, wM, wR, wD, wG, rfl, kE, kL, kS, kM, kR, kD, kG⟩ := hR
  obtain ⟨fsE, mE⟩ := kE.mem
  obtain ⟨fsL, mL⟩ := kL.mem
  obtain ⟨fsS, mS⟩ := kS.mem
  obtain ⟨fsR, mR⟩ := kR.mem
  obtain ⟨fsD, mD⟩ := kD.mem
  obtain ⟨fsG, mG⟩ := kG.mem
  refine ct_enterX (cc := b_Net_crossings) (maxL := 2) (ret := (some .int)) (by decide +kernel) (Nat.le_of_ble_eq_true rfl) ?_
  intro p e s m args below meth c hx hb hml hr ht hown hlk hnm A Q hA hK hP hD hQ ls hl hz
  have hown : s.vm.findClass R_Net = some m.cls := hown
  have hS : va_S A s.heap s.heap [] := va_S.rf
  have hl : lv_has ls 2 [(0, .ref h), (1, .int x)] := hl
  refine lv_aload_n hx hb d_Net_crossings_0 rfl (lv_at hl 0 rfl) ?_
  refine lv_iload_n hx hb d_Net_crossings_1 rfl (lv_at hl 1 rfl) ?_
  refine ct_rdV (C := R_Net) (ci := 8) (As := [.int x]) (rest := []) ⟨hx, hb, hml, hown, ht⟩ (k_Net_isPacket l D cI cZ cJ cG hR9 x) (cb_V ht kc_Net_isPacket kl_Net_202 kn_Net ki_Net_isPacket ks_Net_isPacket hd_Net_isPacket ⟨Nat.le_of_ble_eq_true rfl, Nat.le_of_ble_eq_true rfl⟩) (List.mem_of_getElem? (i := 0) rfl) rfl rfl (wd_ct (Bs := [[(h, .inr (8, [.ref aE, .ref aL, .ref aS, .ref aK, .ref aR, .ref aD, .ref aG]))], [(aK, .inr (4, [.ref aL, .ref aS, .ref aM, .int S.lost]))], wE, wL, wS, wM, wR, wD, wG]) 9 rfl [0, 1, 2, 3, 4, 5, 6, 7, 8] [] (by decide) rfl) hK hP hD hS hA rfl hl.1 rfl (Nat.le_of_ble_eq_true rfl) ⟨(show 0 + 0 ≤ 1 by omega), (show 0 + 0 ≤ 6 by omega)⟩ d_Net_crossings_2 (fun rhr1 H locs hr1 hP hD hS => ?_)
  subst hr1
  refine W.eq (g2 := F0 m 5 ls [.int (bI false)]) (congrArg (fun z => F0 m 5 ls (.int z :: [])) (congrArg bI hno)) ?_
  exact ct_throwS (As := [.int (bI false)]) (rest := []) hz hQ hlk ⟨hx, hb, hml, hown, ht⟩ (x_Net_demand l s0 A0 h0 hfl D cI cZ cJ cG) (cb_S ht kc_Net_demand kl_Net_70 kn_Net ki_Net_demand hd_Net_demand ⟨Nat.le_of_ble_eq_true rfl, Nat.le_of_ble_eq_true rfl⟩) (wd_ct (Bs := [[(h, .inr (8, [.ref aE, .ref aL, .ref aS, .ref aK, .ref aR, .ref aD, .ref aG]))], [(aK, .inr (4, [.ref aL, .ref aS, .ref aM, .int S.lost]))], wE, wL, wS, wM, wR, wD, wG]) 9 rfl [] [0, 1, 2, 3, 4, 5, 6, 7, 8] (by decide) rfl) hK hP hD hS hA rfl hl.1 rfl (Nat.le_of_ble_eq_true rfl) ⟨by decide, by decide⟩ ⟨by decide, by decide⟩ d_Net_crossings_5 (fun u hu => by subst hu; exact ⟨aE, aL, aS, aK, aR, aD, aG, aM, aP, aC, wE, wL, wS, wM, wR, wD, wG, rfl, kE, kL, kS, kM, kR, kD, kG⟩)
