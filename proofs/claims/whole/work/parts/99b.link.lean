/-! BitNet: link. -/
theorem mm_min {a b : Nat} (ha : a < 12) (hb : b < 12) : (if nI b < nI a then nI b else nI a) = nI (min a b) := by
  by_cases h : b < a
  · rw [if_pos (by rw [tI_lt, nI_toInt (show b < 2 ^ 31 by omega), nI_toInt (show a < 2 ^ 31 by omega)]; omega), Nat.min_eq_right (by omega)]
  · rw [if_neg (fun z => by rw [tI_lt, nI_toInt (show b < 2 ^ 31 by omega), nI_toInt (show a < 2 ^ 31 by omega)] at z; omega), Nat.min_eq_left (by omega)]
theorem mm_max {a b : Nat} (ha : a < 12) (hb : b < 12) : (if nI a < nI b then nI b else nI a) = nI (max a b) := by
  by_cases h : a < b
  · rw [if_pos (by rw [tI_lt, nI_toInt (show b < 2 ^ 31 by omega), nI_toInt (show a < 2 ^ 31 by omega)]; omega), Nat.max_eq_right (by omega)]
  · rw [if_neg (fun z => by rw [tI_lt, nI_toInt (show b < 2 ^ 31 by omega), nI_toInt (show a < 2 ^ 31 by omega)] at z; omega), Nat.max_eq_left (by omega)]
theorem rg_of1 {y : Int32} (h1 : ¬ y < nI 1) (h2 : ¬ nI 1000 < y) : ∃ v, 1 ≤ v ∧ v ≤ 1000 ∧ y = nI v := by
  rw [tI_lt, nI_toInt (by decide)] at h1
  rw [tI_lt, nI_toInt (by decide)] at h2
  refine ⟨y.toInt.toNat, by omega, by omega, ?_⟩
  apply Int32.toInt_inj.mp
  rw [nI_toInt (show y.toInt.toNat < 2 ^ 31 by omega)]
  omega
theorem rg_of0 {y : Int32} (h1 : ¬ y < 0) (h2 : ¬ nI 100 < y) : ∃ v, v ≤ 100 ∧ y = nI v := by
  rw [tI_lt, tI_0] at h1
  rw [tI_lt, nI_toInt (by decide)] at h2
  refine ⟨y.toInt.toNat, by omega, ?_⟩
  apply Int32.toInt_inj.mp
  rw [nI_toInt (show y.toInt.toNat < 2 ^ 31 by omega)]
  omega
def bm_lnk (a b v : Nat) (S : bm_S) : bm_S := (S.eb, S.tk, S.es, bm_both S.lk a b 1, bm_both S.kn a b v, bm_greet (bm_both S.kn a b v) (min a b) (max a b) S.T, S.lost, S.D, S.G)
set_option maxHeartbeats 800000 in
set_option maxRecDepth 100000 in
theorem k_Net_link (l : Launch) (D : va_G) (cI cZ cJ cG : ClassId) {h : Nat} {S : bm_S} {ws : va_W} (hR : nt_R cI cZ cG h S ws) (hi : bm_si S) (r o v : Nat) (hr9 : r < 12) (ho9 : o < 12) (hro : r ≠ o) (hv1 : 1 ≤ v) (hv2 : v ≤ 1000) (hlr : bm_lroom S) (hex : S.lk r o = 0) (hkn9 : ∀ a b, bm_both S.kn r o v a b ≤ 1000) (hlk9 : ∀ a b, bm_both S.lk r o 1 a b ≤ 2) (hc : bm_cap (bm_greet (bm_both S.kn r o v) (min r o) (max r o) S.T)) : ct_V l D kls (ty4 cI cZ cJ cG) y_Net_link ws_Net_link (rm_ 7 165 (bm_gc S.T (bm_greet (bm_both S.kn r o v) (min r o) (max r o) S.T)) (bm_gs S.T (bm_greet (bm_both S.kn r o v) (min r o) (max r o) S.T))) [.ref h, .int (nI r), .int (nI o), .int (nI v)] (ws) (fun u => nt_R cI cZ cG h (bm_lnk r o v S) u) (bm_gc S.T (bm_greet (bm_both S.kn r o v) (min r o) (max r o) S.T)) (bm_gs S.T (bm_greet (bm_both S.kn r o v) (min r o) (max r o) S.T)) := by
  obtain ⟨aE, aL, aS, aK, aR, aD, aG, aM, aP, aC, wE, wL, wS, wM, wR, wD, wG, rfl, kE, kL, kS, kM, kR, kD, kG⟩ := hR
  obtain ⟨fsE, mE⟩ := kE.mem
  obtain ⟨fsL, mL⟩ := kL.mem
  obtain ⟨fsS, mS⟩ := kS.mem
  obtain ⟨fsR, mR⟩ := kR.mem
  obtain ⟨fsD, mD⟩ := kD.mem
  obtain ⟨fsG, mG⟩ := kG.mem
  have kK : co_R cI cG aK aL aS aM S.lk S.kn S.T S.lost (List.flatten [[(aK, .inr (4, [.ref aL, .ref aS, .ref aM, .int S.lost]))], wL, wS, wM]) := ⟨wL, wS, wM, rfl, kL, kS, kM⟩
  obtain ⟨fsK, mK⟩ := kK.mem
  refine ct_enterV (cc := b_Net_link) (maxL := 4) (ret := none) (by decide +kernel) (Nat.le_of_ble_eq_true rfl) ?_
  intro p e s m args below meth c hx hb hml hr ht hown hlk hnm A Q hA hK hP hD hQ ls hl
  have hown : s.vm.findClass R_Net = some m.cls := hown
  have hS : va_S A s.heap s.heap [] := va_S.rf
  have hl : lv_has ls 4 [(0, .ref h), (1, .int (nI r)), (2, .int (nI o)), (3, .int (nI v))] := hl
  refine lv_aload_n hx hb d_Net_link_0 rfl (lv_at hl 0 rfl) ?_
  refine va_get (D := D) (ci := 8) (v := .ref aK) (C := R_Net) (T := T_Net) (N := 7) hx hb ht in_Net hown hK hP 0 rfl rfl 3 (by decide) (ht _ kl_Net_35) (fun _ h9 => h9) rfl d_Net_link_1 ?_
  refine ct_rdV (C := R_Control) (ci := 4) (As := []) (rest := []) ⟨hx, hb, hml, hown, ht⟩ (k_Control_hasRoomForLinks l D cI cZ cJ cG kK (by omega)) (cb_V ht kc_Control_hasRoomForLinks kl_Net_84 kn_Control ki_Control_hasRoomForLinks ks_Control_hasRoomForLinks hd_Control_hasRoomForLinks ⟨Nat.le_of_ble_eq_true rfl, Nat.le_of_ble_eq_true rfl⟩) (List.mem_of_getElem? (i := 1) rfl) rfl rfl (wd_ct (Bs := [[(h, .inr (8, [.ref aE, .ref aL, .ref aS, .ref aK, .ref aR, .ref aD, .ref aG]))], [(aK, .inr (4, [.ref aL, .ref aS, .ref aM, .int S.lost]))], wE, wL, wS, wM, wR, wD, wG]) 9 rfl [1, 3, 4, 5] [0, 2, 6, 7, 8] (by decide) rfl) hK hP hD hS hA rfl hl.1 rfl (Nat.le_of_ble_eq_true rfl) ⟨(show 0 + 0 ≤ (bm_gc S.T (bm_greet (bm_both S.kn r o v) (min r o) (max r o) S.T)) by omega), (show 0 + 0 ≤ (bm_gs S.T (bm_greet (bm_both S.kn r o v) (min r o) (max r o) S.T)) by omega)⟩ d_Net_link_4 (fun rhr1 H locs hr1 hP hD hS => ?_)
  subst hr1
  refine W.eq (g2 := F0 m 7 ls [.int (bI true)]) (congrArg (fun z => F0 m 7 ls (.int z :: [])) (congrArg bI (decide_eq_true hlr))) ?_
  refine ct_callSV (As := [.int (bI true)]) (rest := []) ⟨hx, hb, hml, hown, ht⟩ (k_Net_demandRoom l D cI cZ cJ cG) (cb_S ht kc_Net_demandRoom kl_Net_88 kn_Net ki_Net_demandRoom hd_Net_demandRoom ⟨Nat.le_of_ble_eq_true rfl, Nat.le_of_ble_eq_true rfl⟩) (wd_ct (Bs := [[(h, .inr (8, [.ref aE, .ref aL, .ref aS, .ref aK, .ref aR, .ref aD, .ref aG]))], [(aK, .inr (4, [.ref aL, .ref aS, .ref aM, .int S.lost]))], wE, wL, wS, wM, wR, wD, wG]) 9 rfl [] [0, 1, 2, 3, 4, 5, 6, 7, 8] (by decide) rfl) hK hP hD hS hA rfl hl.1 rfl (Nat.le_of_ble_eq_true rfl) ⟨(Nat.zero_le _), (Nat.zero_le _)⟩ d_Net_link_7 (fun u2 H locs hu2 hP hD hS => ?_)
  subst hu2
  refine W.widen (k := 0) (n := 0) (Nat.le_refl _) (Nat.le_refl _) ?_
  have hP := wd_nP (N := []) rfl 9 rfl [0, 1, 2, 3, 4, 5, 6, 7, 8] (by decide) hP
  have hD := wd_nD (N := []) rfl 9 rfl [0, 1, 2, 3, 4, 5, 6, 7, 8] (by decide) hD
  have hP : va_P D kls (List.flatten [[(h, .inr (8, [.ref aE, .ref aL, .ref aS, .ref aK, .ref aR, .ref aD, .ref aG]))], [(aK, .inr (4, [.ref aL, .ref aS, .ref aM, .int S.lost]))], wE, wL, wS, wM, wR, wD, wG]) H := hP
  have hD : va_D A (List.flatten [[(h, .inr (8, [.ref aE, .ref aL, .ref aS, .ref aK, .ref aR, .ref aD, .ref aG]))], [(aK, .inr (4, [.ref aL, .ref aS, .ref aM, .int S.lost]))], wE, wL, wS, wM, wR, wD, wG]) := hD
  refine W.eq (g2 := F0 m 10 ls []) rfl ?_
  refine lv_iload_n hx hb d_Net_link_10 rfl (lv_at hl 1 rfl) ?_
  refine ct_rdS (As := [.int (nI r)]) (rest := []) ⟨hx, hb, hml, hown, ht⟩ (k_Net_isRouter l D cI cZ cJ cG (nI r)) (cb_S ht kc_Net_isRouter kl_Net_66 kn_Net ki_Net_isRouter hd_Net_isRouter ⟨Nat.le_of_ble_eq_true rfl, Nat.le_of_ble_eq_true rfl⟩) (wd_ct (Bs := [[(h, .inr (8, [.ref aE, .ref aL, .ref aS, .ref aK, .ref aR, .ref aD, .ref aG]))], [(aK, .inr (4, [.ref aL, .ref aS, .ref aM, .int S.lost]))], wE, wL, wS, wM, wR, wD, wG]) 9 rfl [] [0, 1, 2, 3, 4, 5, 6, 7, 8] (by decide) rfl) hK hP hD hS hA rfl hl.1 rfl (Nat.le_of_ble_eq_true rfl) ⟨(show 0 + 0 ≤ (bm_gc S.T (bm_greet (bm_both S.kn r o v) (min r o) (max r o) S.T)) by omega), (show 0 + 0 ≤ (bm_gs S.T (bm_greet (bm_both S.kn r o v) (min r o) (max r o) S.T)) by omega)⟩ d_Net_link_11 (fun rhr3 H locs hr3 hP hD hS => ?_)
  subst hr3
  refine W.eq (g2 := F0 m 14 ls [.int (bI true)]) (congrArg (fun z => F0 m 14 ls (.int z :: [])) (congrArg bI (rg_t12 hr9))) ?_
  refine ri_ifeqB hx hb d_Net_link_14 (tgt := 33) (by decide) (fun h4 => ?_) (fun h4 => ?_)
  · exact absurd h4 (fun z => by cases z)
  · refine lv_iload_n hx hb d_Net_link_17 rfl (lv_at hl 2 rfl) ?_
    refine ct_rdS (As := [.int (nI o)]) (rest := []) ⟨hx, hb, hml, hown, ht⟩ (k_Net_isRouter l D cI cZ cJ cG (nI o)) (cb_S ht kc_Net_isRouter kl_Net_66 kn_Net ki_Net_isRouter hd_Net_isRouter ⟨Nat.le_of_ble_eq_true rfl, Nat.le_of_ble_eq_true rfl⟩) (wd_ct (Bs := [[(h, .inr (8, [.ref aE, .ref aL, .ref aS, .ref aK, .ref aR, .ref aD, .ref aG]))], [(aK, .inr (4, [.ref aL, .ref aS, .ref aM, .int S.lost]))], wE, wL, wS, wM, wR, wD, wG]) 9 rfl [] [0, 1, 2, 3, 4, 5, 6, 7, 8] (by decide) rfl) hK hP hD hS hA rfl hl.1 rfl (Nat.le_of_ble_eq_true rfl) ⟨(show 0 + 0 ≤ (bm_gc S.T (bm_greet (bm_both S.kn r o v) (min r o) (max r o) S.T)) by omega), (show 0 + 0 ≤ (bm_gs S.T (bm_greet (bm_both S.kn r o v) (min r o) (max r o) S.T)) by omega)⟩ d_Net_link_18 (fun rhr5 H locs hr5 hP hD hS => ?_)
    subst hr5
    refine W.eq (g2 := F0 m 21 ls [.int (bI true)]) (congrArg (fun z => F0 m 21 ls (.int z :: [])) (congrArg bI (rg_t12 ho9))) ?_
    refine ri_ifeqB hx hb d_Net_link_21 (tgt := 33) (by decide) (fun h6 => ?_) (fun h6 => ?_)
    · exact absurd h6 (fun z => by cases z)
    · refine lv_iload_n hx hb d_Net_link_24 rfl (lv_at hl 1 rfl) ?_
      refine lv_iload_n hx hb d_Net_link_25 rfl (lv_at hl 2 rfl) ?_
      refine ri_icmp_eq hx hb (by omega) (by omega) d_Net_link_26 (tgt := 33) (by decide) (fun h26 => ?_) (fun h26 => ?_)
      · exact absurd h26 (hro)
      · refine lv_iconst (v := nI 1) hx hb d_Net_link_29 (by decide) ?_
        refine lv_goto hx hb d_Net_link_30 (tgt := 34) (by decide) ?_
        refine W.eq (g2 := F0 m 34 ls [.int (bI true)]) (congrArg (fun z => F0 m 34 ls (.int z :: [])) (rfl)) ?_
        refine ct_callSV (As := [.int (bI true)]) (rest := []) ⟨hx, hb, hml, hown, ht⟩ (k_Net_demand l D cI cZ cJ cG) (cb_S ht kc_Net_demand kl_Net_70 kn_Net ki_Net_demand hd_Net_demand ⟨Nat.le_of_ble_eq_true rfl, Nat.le_of_ble_eq_true rfl⟩) (wd_ct (Bs := [[(h, .inr (8, [.ref aE, .ref aL, .ref aS, .ref aK, .ref aR, .ref aD, .ref aG]))], [(aK, .inr (4, [.ref aL, .ref aS, .ref aM, .int S.lost]))], wE, wL, wS, wM, wR, wD, wG]) 9 rfl [] [0, 1, 2, 3, 4, 5, 6, 7, 8] (by decide) rfl) hK hP hD hS hA rfl hl.1 rfl (Nat.le_of_ble_eq_true rfl) ⟨(Nat.zero_le _), (Nat.zero_le _)⟩ d_Net_link_34 (fun u8 H locs hu8 hP hD hS => ?_)
        subst hu8
        refine W.widen (k := 0) (n := 0) (Nat.le_refl _) (Nat.le_refl _) ?_
        have hP := wd_nP (N := []) rfl 9 rfl [0, 1, 2, 3, 4, 5, 6, 7, 8] (by decide) hP
        have hD := wd_nD (N := []) rfl 9 rfl [0, 1, 2, 3, 4, 5, 6, 7, 8] (by decide) hD
        have hP : va_P D kls (List.flatten [[(h, .inr (8, [.ref aE, .ref aL, .ref aS, .ref aK, .ref aR, .ref aD, .ref aG]))], [(aK, .inr (4, [.ref aL, .ref aS, .ref aM, .int S.lost]))], wE, wL, wS, wM, wR, wD, wG]) H := hP
        have hD : va_D A (List.flatten [[(h, .inr (8, [.ref aE, .ref aL, .ref aS, .ref aK, .ref aR, .ref aD, .ref aG]))], [(aK, .inr (4, [.ref aL, .ref aS, .ref aM, .int S.lost]))], wE, wL, wS, wM, wR, wD, wG]) := hD
        refine W.eq (g2 := F0 m 37 ls []) rfl ?_
        refine lv_iload_n hx hb d_Net_link_37 rfl (lv_at hl 3 rfl) ?_
        refine lv_iconst (v := nI 1) hx hb d_Net_link_38 (by decide) ?_
        refine ri_icmp_lt hx hb (by omega) (by omega) d_Net_link_39 (tgt := 65) (by decide) (fun h39 => ?_) (fun h39 => ?_)
        · exact absurd h39 (by omega)
        · refine lv_iload_n hx hb d_Net_link_42 rfl (lv_at hl 3 rfl) ?_
          refine lv_sipush (v := nI 1000) hx hb d_Net_link_43 (by decide) ?_
          refine ri_icmp_gt hx hb (by omega) (by omega) d_Net_link_46 (tgt := 65) (by decide) (fun h46 => ?_) (fun h46 => ?_)
          · exact absurd h46 (by omega)
          · refine lv_aload_n hx hb d_Net_link_49 rfl (lv_at hl 0 rfl) ?_
            refine va_get (D := D) (ci := 8) (v := .ref aL) (C := R_Net) (T := T_Net) (N := 7) hx hb ht in_Net hown hK hP 0 rfl rfl 1 (by decide) (ht _ kl_Net_19) (fun _ h9 => h9) rfl d_Net_link_50 ?_
            refine lv_iload_n hx hb d_Net_link_53 rfl (lv_at hl 1 rfl) ?_
            refine lv_iload_n hx hb d_Net_link_54 rfl (lv_at hl 2 rfl) ?_
            refine ct_rdV (C := R_Links) (ci := 2) (As := [.int (nI r), .int (nI o)]) (rest := []) ⟨hx, hb, hml, hown, ht⟩ (k_Links_exists l D cI cZ cJ cG kL r o (fun a b => Nat.lt_of_le_of_lt (hi.2.2.1 a b) (by decide)) (fun a b => Nat.lt_of_le_of_lt (hi.2.1 a b) (by decide)) hr9 ho9) (cb_V ht kc_Links_exists kl_Net_91 kn_Links ki_Links_exists ks_Links_exists hd_Links_exists ⟨Nat.le_of_ble_eq_true rfl, Nat.le_of_ble_eq_true rfl⟩) (wd_mem 3 rfl mL) rfl rfl (wd_ct (Bs := [[(h, .inr (8, [.ref aE, .ref aL, .ref aS, .ref aK, .ref aR, .ref aD, .ref aG]))], [(aK, .inr (4, [.ref aL, .ref aS, .ref aM, .int S.lost]))], wE, wL, wS, wM, wR, wD, wG]) 9 rfl [3] [0, 1, 2, 4, 5, 6, 7, 8] (by decide) (wd_1 _)) hK hP hD hS hA rfl hl.1 rfl (Nat.le_of_ble_eq_true rfl) ⟨(show 0 + 0 ≤ (bm_gc S.T (bm_greet (bm_both S.kn r o v) (min r o) (max r o) S.T)) by omega), (show 0 + 0 ≤ (bm_gs S.T (bm_greet (bm_both S.kn r o v) (min r o) (max r o) S.T)) by omega)⟩ d_Net_link_55 (fun rhr11 H locs hr11 hP hD hS => ?_)
            subst hr11
            refine W.eq (g2 := F0 m 58 ls [.int (bI false)]) (congrArg (fun z => F0 m 58 ls (.int z :: [])) (congrArg bI (decide_eq_false (fun z => z hex)))) ?_
            refine ri_ifneB hx hb d_Net_link_58 (tgt := 65) (by decide) (fun h12 => ?_) (fun h12 => ?_)
            · exact absurd h12 (fun z => by cases z)
            · refine lv_iconst (v := nI 1) hx hb d_Net_link_61 (by decide) ?_
              refine lv_goto hx hb d_Net_link_62 (tgt := 66) (by decide) ?_
              refine W.eq (g2 := F0 m 66 ls [.int (bI true)]) (congrArg (fun z => F0 m 66 ls (.int z :: [])) (rfl)) ?_
              refine ct_callSV (As := [.int (bI true)]) (rest := []) ⟨hx, hb, hml, hown, ht⟩ (k_Net_demand l D cI cZ cJ cG) (cb_S ht kc_Net_demand kl_Net_70 kn_Net ki_Net_demand hd_Net_demand ⟨Nat.le_of_ble_eq_true rfl, Nat.le_of_ble_eq_true rfl⟩) (wd_ct (Bs := [[(h, .inr (8, [.ref aE, .ref aL, .ref aS, .ref aK, .ref aR, .ref aD, .ref aG]))], [(aK, .inr (4, [.ref aL, .ref aS, .ref aM, .int S.lost]))], wE, wL, wS, wM, wR, wD, wG]) 9 rfl [] [0, 1, 2, 3, 4, 5, 6, 7, 8] (by decide) rfl) hK hP hD hS hA rfl hl.1 rfl (Nat.le_of_ble_eq_true rfl) ⟨(Nat.zero_le _), (Nat.zero_le _)⟩ d_Net_link_66 (fun u13 H locs hu13 hP hD hS => ?_)
              subst hu13
              refine W.widen (k := 0) (n := 0) (Nat.le_refl _) (Nat.le_refl _) ?_
              have hP := wd_nP (N := []) rfl 9 rfl [0, 1, 2, 3, 4, 5, 6, 7, 8] (by decide) hP
              have hD := wd_nD (N := []) rfl 9 rfl [0, 1, 2, 3, 4, 5, 6, 7, 8] (by decide) hD
              have hP : va_P D kls (List.flatten [[(h, .inr (8, [.ref aE, .ref aL, .ref aS, .ref aK, .ref aR, .ref aD, .ref aG]))], [(aK, .inr (4, [.ref aL, .ref aS, .ref aM, .int S.lost]))], wE, wL, wS, wM, wR, wD, wG]) H := hP
              have hD : va_D A (List.flatten [[(h, .inr (8, [.ref aE, .ref aL, .ref aS, .ref aK, .ref aR, .ref aD, .ref aG]))], [(aK, .inr (4, [.ref aL, .ref aS, .ref aM, .int S.lost]))], wE, wL, wS, wM, wR, wD, wG]) := hD
              refine W.eq (g2 := F0 m 69 ls []) rfl ?_
              refine lv_aload_n hx hb d_Net_link_69 rfl (lv_at hl 0 rfl) ?_
              refine va_get (D := D) (ci := 8) (v := .ref aL) (C := R_Net) (T := T_Net) (N := 7) hx hb ht in_Net hown hK hP 0 rfl rfl 1 (by decide) (ht _ kl_Net_19) (fun _ h9 => h9) rfl d_Net_link_70 ?_
              refine lv_iload_n hx hb d_Net_link_73 rfl (lv_at hl 1 rfl) ?_
              refine lv_iload_n hx hb d_Net_link_74 rfl (lv_at hl 2 rfl) ?_
              refine lv_iload_n hx hb d_Net_link_75 rfl (lv_at hl 3 rfl) ?_
              refine ct_callVV (C := R_Links) (ci := 2) (As := [.int (nI r), .int (nI o), .int (nI v)]) (rest := []) ⟨hx, hb, hml, hown, ht⟩ (k_Links_make l D cI cZ cJ cG kL r o v hr9 ho9) (cb_V ht kc_Links_make kl_Net_95 kn_Links ki_Links_make ks_Links_make hd_Links_make ⟨Nat.le_of_ble_eq_true rfl, Nat.le_of_ble_eq_true rfl⟩) (wd_mem 3 rfl mL) rfl rfl (wd_ct (Bs := [[(h, .inr (8, [.ref aE, .ref aL, .ref aS, .ref aK, .ref aR, .ref aD, .ref aG]))], [(aK, .inr (4, [.ref aL, .ref aS, .ref aM, .int S.lost]))], wE, wL, wS, wM, wR, wD, wG]) 9 rfl [3] [0, 1, 2, 4, 5, 6, 7, 8] (by decide) (wd_1 _)) hK hP hD hS hA rfl hl.1 rfl (Nat.le_of_ble_eq_true rfl) ⟨(Nat.zero_le _), (Nat.zero_le _)⟩ d_Net_link_76 (fun u14 H locs hu14 hP hD hS => ?_)
              have kL2 : lk_R cI cG aL (bm_both S.lk r o 1) (bm_both S.kn r o v) u14 := hu14
              refine W.widen (k := 0) (n := 0) (Nat.le_refl _) (Nat.le_refl _) ?_
              have hP := wd_nP (N := [u14]) (wd_1 _) 9 rfl [1, 2, 3, 0, 4, 5, 6, 7, 8] (by decide) hP
              have hD := wd_nD (N := [u14]) (wd_1 _) 9 rfl [1, 2, 3, 0, 4, 5, 6, 7, 8] (by decide) hD
              have hP : va_P D kls (List.flatten [[(h, .inr (8, [.ref aE, .ref aL, .ref aS, .ref aK, .ref aR, .ref aD, .ref aG]))], [(aK, .inr (4, [.ref aL, .ref aS, .ref aM, .int S.lost]))], wE, u14, wS, wM, wR, wD, wG]) H := hP
              have hD : va_D A (List.flatten [[(h, .inr (8, [.ref aE, .ref aL, .ref aS, .ref aK, .ref aR, .ref aD, .ref aG]))], [(aK, .inr (4, [.ref aL, .ref aS, .ref aM, .int S.lost]))], wE, u14, wS, wM, wR, wD, wG]) := hD
              refine W.eq (g2 := F0 m 79 ls []) rfl ?_
              refine lv_aload_n hx hb d_Net_link_79 rfl (lv_at hl 0 rfl) ?_
              refine va_get (D := D) (ci := 8) (v := .ref aK) (C := R_Net) (T := T_Net) (N := 7) hx hb ht in_Net hown hK hP 0 rfl rfl 3 (by decide) (ht _ kl_Net_35) (fun _ h9 => h9) rfl d_Net_link_80 ?_
              refine lv_iload_n hx hb d_Net_link_83 rfl (lv_at hl 1 rfl) ?_
              refine lv_iload_n hx hb d_Net_link_84 rfl (lv_at hl 2 rfl) ?_
              refine va_mmin hx hb (hml.trans hl.1.symm) hown (ht _ kl_Net_98) (ht _ ki_Math_min5) (ht _ kn_Math) (ht _ kc_Math_min5) (Nat.le_of_ble_eq_true rfl) (Nat.le_of_ble_eq_true rfl) (Nat.zero_le _) (Nat.zero_le _) d_Net_link_85 ?_
              refine W.eq (g2 := F0 m 88 ls [.int (if nI o < nI r then nI o else nI r), .ref aK]) rfl ?_
              refine W.eq (g2 := F0 m 88 ls [.int (nI (min r o)), .ref aK]) (congrArg (fun z => F0 m 88 ls (.int z :: [.ref aK])) (mm_min hr9 ho9)) ?_
              refine lv_iload_n hx hb d_Net_link_88 rfl (lv_at hl 1 rfl) ?_
              refine lv_iload_n hx hb d_Net_link_89 rfl (lv_at hl 2 rfl) ?_
              refine va_mmax hx hb (hml.trans hl.1.symm) hown (ht _ kl_Net_104) (ht _ ki_Math_max5) (ht _ kn_Math) (ht _ kc_Math_max5) (Nat.le_of_ble_eq_true rfl) (Nat.le_of_ble_eq_true rfl) (Nat.zero_le _) (Nat.zero_le _) d_Net_link_90 ?_
              refine W.eq (g2 := F0 m 93 ls [.int (if nI r < nI o then nI o else nI r), .int (nI (min r o)), .ref aK]) rfl ?_
              refine W.eq (g2 := F0 m 93 ls [.int (nI (max r o)), .int (nI (min r o)), .ref aK]) (congrArg (fun z => F0 m 93 ls (.int z :: [.int (nI (min r o)), .ref aK])) (mm_max hr9 ho9)) ?_
              have kK2 : co_R cI cG aK aL aS aM (bm_both S.lk r o 1) (bm_both S.kn r o v) S.T S.lost (List.flatten [[(aK, .inr (4, [.ref aL, .ref aS, .ref aM, .int S.lost]))], u14, wS, wM]) := ⟨u14, wS, wM, rfl, kL2, kS, kM⟩
              refine ct_callVV (C := R_Control) (ci := 4) (As := [.int (nI (min r o)), .int (nI (max r o))]) (rest := []) ⟨hx, hb, hml, hown, ht⟩ (k_Control_greet l D cI cZ cJ cG kK2 hi.1 hkn9 hlk9 (min r o) (max r o) (by omega) (by omega) hc) (cb_V ht kc_Control_greet kl_Net_107 kn_Control ki_Control_greet ks_Control_greet hd_Control_greet ⟨Nat.le_of_ble_eq_true rfl, Nat.le_of_ble_eq_true rfl⟩) (List.mem_of_getElem? (i := 1) rfl) rfl rfl (wd_ct (Bs := [[(h, .inr (8, [.ref aE, .ref aL, .ref aS, .ref aK, .ref aR, .ref aD, .ref aG]))], [(aK, .inr (4, [.ref aL, .ref aS, .ref aM, .int S.lost]))], wE, u14, wS, wM, wR, wD, wG]) 9 rfl [1, 3, 4, 5] [0, 2, 6, 7, 8] (by decide) rfl) hK hP hD hS hA rfl hl.1 rfl (Nat.le_of_ble_eq_true rfl) ⟨(Nat.le_of_eq (Nat.zero_add _)), (Nat.le_of_eq (Nat.zero_add _))⟩ d_Net_link_93 (fun u15 H locs hu15 hP hD hS => ?_)
              obtain ⟨wL3, wS3, wM3, rfl, kL3, kS3, kM3⟩ := hu15
              refine W.widen (k := bm_gc S.T (bm_greet (bm_both S.kn r o v) (min r o) (max r o) S.T)) (n := bm_gs S.T (bm_greet (bm_both S.kn r o v) (min r o) (max r o) S.T)) (Nat.le_of_eq (Nat.zero_add _)) (Nat.le_of_eq (Nat.zero_add _)) ?_
              have hP := wd_nP (N := [[(aK, .inr (4, [.ref aL, .ref aS, .ref aM, .int S.lost]))], wL3, wS3, wM3]) rfl 9 rfl [4, 0, 5, 1, 2, 3, 6, 7, 8] (by decide) hP
              have hD := wd_nD (N := [[(aK, .inr (4, [.ref aL, .ref aS, .ref aM, .int S.lost]))], wL3, wS3, wM3]) rfl 9 rfl [4, 0, 5, 1, 2, 3, 6, 7, 8] (by decide) hD
              have hP : va_P D kls (List.flatten [[(h, .inr (8, [.ref aE, .ref aL, .ref aS, .ref aK, .ref aR, .ref aD, .ref aG]))], [(aK, .inr (4, [.ref aL, .ref aS, .ref aM, .int S.lost]))], wE, wL3, wS3, wM3, wR, wD, wG]) H := hP
              have hD : va_D A (List.flatten [[(h, .inr (8, [.ref aE, .ref aL, .ref aS, .ref aK, .ref aR, .ref aD, .ref aG]))], [(aK, .inr (4, [.ref aL, .ref aS, .ref aM, .int S.lost]))], wE, wL3, wS3, wM3, wR, wD, wG]) := hD
              refine W.eq (g2 := F0 m 96 ls []) rfl ?_
              exact ct_vret hQ hx hb hr hlk hP hD hS hK (by omega) (by omega) d_Net_link_96 (⟨aE, aL, aS, aK, aR, aD, aG, aM, aP, aC, wE, wL3, wS3, wM3, wR, wD, wG, rfl, kE, kL3, kS3, kM3, (bm_up_greet (kn := bm_both S.kn r o v) (b := max r o) hi.1 (show min r o < 12 by omega) hkn9).rt kR, kD, kG⟩)
set_option maxHeartbeats 800000 in
set_option maxRecDepth 100000 in
theorem x_Net_link_room (l : Launch) (s0 : State) (A0 : Array Value) (h0 : fz_0 A0 s0) (hfl : ∀ e : Env, l.admits e → e.platform.stackTraces = false) (D : va_G) (cI cZ cJ cG : ClassId) {h : Nat} {S : bm_S} {ws : va_W} (hR : nt_R cI cZ cG h S ws) (x y z9 : Int32) (hta : S.T.1.2.1 < 100000) (hno : ¬ bm_lroom S) : ct_X l s0 D kls (ty4 cI cZ cJ cG) y_Net_link ws_Net_link (rm_ 7 102 1 6) [.ref h, .int x, .int y, .int z9] (ws) "java/lang/IllegalStateException" (fun u => nt_R cI cZ cG h S u) 1 6 := by
  obtain ⟨aE, aL, aS, aK, aR, aD, aG, aM, aP, aC, wE, wL, wS, wM, wR, wD, wG, rfl, kE, kL, kS, kM, kR, kD, kG⟩ := hR
  obtain ⟨fsE, mE⟩ := kE.mem
  obtain ⟨fsL, mL⟩ := kL.mem
  obtain ⟨fsS, mS⟩ := kS.mem
  obtain ⟨fsR, mR⟩ := kR.mem
  obtain ⟨fsD, mD⟩ := kD.mem
  obtain ⟨fsG, mG⟩ := kG.mem
  have kK : co_R cI cG aK aL aS aM S.lk S.kn S.T S.lost (List.flatten [[(aK, .inr (4, [.ref aL, .ref aS, .ref aM, .int S.lost]))], wL, wS, wM]) := ⟨wL, wS, wM, rfl, kL, kS, kM⟩
  obtain ⟨fsK, mK⟩ := kK.mem
  refine ct_enterX (cc := b_Net_link) (maxL := 4) (ret := none) (by decide +kernel) (Nat.le_of_ble_eq_true rfl) ?_
  intro p e s m args below meth c hx hb hml hr ht hown hlk hnm A Q hA hK hP hD hQ ls hl hz
  have hown : s.vm.findClass R_Net = some m.cls := hown
  have hS : va_S A s.heap s.heap [] := va_S.rf
  have hl : lv_has ls 4 [(0, .ref h), (1, .int x), (2, .int y), (3, .int z9)] := hl
  refine lv_aload_n hx hb d_Net_link_0 rfl (lv_at hl 0 rfl) ?_
  refine va_get (D := D) (ci := 8) (v := .ref aK) (C := R_Net) (T := T_Net) (N := 7) hx hb ht in_Net hown hK hP 0 rfl rfl 3 (by decide) (ht _ kl_Net_35) (fun _ h9 => h9) rfl d_Net_link_1 ?_
  refine ct_rdV (C := R_Control) (ci := 4) (As := []) (rest := []) ⟨hx, hb, hml, hown, ht⟩ (k_Control_hasRoomForLinks l D cI cZ cJ cG kK (by omega)) (cb_V ht kc_Control_hasRoomForLinks kl_Net_84 kn_Control ki_Control_hasRoomForLinks ks_Control_hasRoomForLinks hd_Control_hasRoomForLinks ⟨Nat.le_of_ble_eq_true rfl, Nat.le_of_ble_eq_true rfl⟩) (List.mem_of_getElem? (i := 1) rfl) rfl rfl (wd_ct (Bs := [[(h, .inr (8, [.ref aE, .ref aL, .ref aS, .ref aK, .ref aR, .ref aD, .ref aG]))], [(aK, .inr (4, [.ref aL, .ref aS, .ref aM, .int S.lost]))], wE, wL, wS, wM, wR, wD, wG]) 9 rfl [1, 3, 4, 5] [0, 2, 6, 7, 8] (by decide) rfl) hK hP hD hS hA rfl hl.1 rfl (Nat.le_of_ble_eq_true rfl) ⟨(show 0 + 0 ≤ 1 by omega), (show 0 + 0 ≤ 6 by omega)⟩ d_Net_link_4 (fun rhr1 H locs hr1 hP hD hS => ?_)
  subst hr1
  refine W.eq (g2 := F0 m 7 ls [.int (bI false)]) (congrArg (fun z => F0 m 7 ls (.int z :: [])) (congrArg bI (decide_eq_false hno))) ?_
  exact ct_throwS (As := [.int (bI false)]) (rest := []) hz hQ hlk ⟨hx, hb, hml, hown, ht⟩ (x_Net_demandRoom l s0 A0 h0 hfl D cI cZ cJ cG) (cb_S ht kc_Net_demandRoom kl_Net_88 kn_Net ki_Net_demandRoom hd_Net_demandRoom ⟨Nat.le_of_ble_eq_true rfl, Nat.le_of_ble_eq_true rfl⟩) (wd_ct (Bs := [[(h, .inr (8, [.ref aE, .ref aL, .ref aS, .ref aK, .ref aR, .ref aD, .ref aG]))], [(aK, .inr (4, [.ref aL, .ref aS, .ref aM, .int S.lost]))], wE, wL, wS, wM, wR, wD, wG]) 9 rfl [] [0, 1, 2, 3, 4, 5, 6, 7, 8] (by decide) rfl) hK hP hD hS hA rfl hl.1 rfl (Nat.le_of_ble_eq_true rfl) ⟨by decide, by decide⟩ ⟨by decide, by decide⟩ d_Net_link_7 (fun u hu => by subst hu; exact ⟨aE, aL, aS, aK, aR, aD, aG, aM, aP, aC, wE, wL, wS, wM, wR, wD, wG, rfl, kE, kL, kS, kM, kR, kD, kG⟩)
set_option maxHeartbeats 800000 in
set_option maxRecDepth 100000 in
theorem x_Net_link (l : Launch) (s0 : State) (A0 : Array Value) (h0 : fz_0 A0 s0) (hfl : ∀ e : Env, l.admits e → e.platform.stackTraces = false) (D : va_G) (cI cZ cJ cG : ClassId) {h : Nat} {S : bm_S} {ws : va_W} (hR : nt_R cI cZ cG h S ws) (hi : bm_si S) (x y z9 : Int32) (hlr : bm_lroom S) (hno : ¬ ∃ r o v, x = nI r ∧ y = nI o ∧ z9 = nI v ∧ r < 12 ∧ o < 12 ∧ r ≠ o ∧ 1 ≤ v ∧ v ≤ 1000 ∧ S.lk r o = 0) : ct_X l s0 D kls (ty4 cI cZ cJ cG) y_Net_link ws_Net_link (rm_ 7 102 1 6) [.ref h, .int x, .int y, .int z9] (ws) "java/lang/IllegalArgumentException" (fun u => nt_R cI cZ cG h S u) 1 6 := by
  obtain ⟨aE, aL, aS, aK, aR, aD, aG, aM, aP, aC, wE, wL, wS, wM, wR, wD, wG, rfl, kE, kL, kS, kM, kR, kD, kG⟩ := hR
  obtain ⟨fsE, mE⟩ := kE.mem
  obtain ⟨fsL, mL⟩ := kL.mem
  obtain ⟨fsS, mS⟩ := kS.mem
  obtain ⟨fsR, mR⟩ := kR.mem
  obtain ⟨fsD, mD⟩ := kD.mem
  obtain ⟨fsG, mG⟩ := kG.mem
  have kK : co_R cI cG aK aL aS aM S.lk S.kn S.T S.lost (List.flatten [[(aK, .inr (4, [.ref aL, .ref aS, .ref aM, .int S.lost]))], wL, wS, wM]) := ⟨wL, wS, wM, rfl, kL, kS, kM⟩
  obtain ⟨fsK, mK⟩ := kK.mem
  refine ct_enterX (cc := b_Net_link) (maxL := 4) (ret := none) (by decide +kernel) (Nat.le_of_ble_eq_true rfl) ?_
  intro p e s m args below meth c hx hb hml hr ht hown hlk hnm A Q hA hK hP hD hQ ls hl hz
  have hown : s.vm.findClass R_Net = some m.cls := hown
  have hS : va_S A s.heap s.heap [] := va_S.rf
  have hl : lv_has ls 4 [(0, .ref h), (1, .int x), (2, .int y), (3, .int z9)] := hl
  refine lv_aload_n hx hb d_Net_link_0 rfl (lv_at hl 0 rfl) ?_
  refine va_get (D := D) (ci := 8) (v := .ref aK) (C := R_Net) (T := T_Net) (N := 7) hx hb ht in_Net hown hK hP 0 rfl rfl 3 (by decide) (ht _ kl_Net_35) (fun _ h9 => h9) rfl d_Net_link_1 ?_
  refine ct_rdV (C := R_Control) (ci := 4) (As := []) (rest := []) ⟨hx, hb, hml, hown, ht⟩ (k_Control_hasRoomForLinks l D cI cZ cJ cG kK (by omega)) (cb_V ht kc_Control_hasRoomForLinks kl_Net_84 kn_Control ki_Control_hasRoomForLinks ks_Control_hasRoomForLinks hd_Control_hasRoomForLinks ⟨Nat.le_of_ble_eq_true rfl, Nat.le_of_ble_eq_true rfl⟩) (List.mem_of_getElem? (i := 1) rfl) rfl rfl (wd_ct (Bs := [[(h, .inr (8, [.ref aE, .ref aL, .ref aS, .ref aK, .ref aR, .ref aD, .ref aG]))], [(aK, .inr (4, [.ref aL, .ref aS, .ref aM, .int S.lost]))], wE, wL, wS, wM, wR, wD, wG]) 9 rfl [1, 3, 4, 5] [0, 2, 6, 7, 8] (by decide) rfl) hK hP hD hS hA rfl hl.1 rfl (Nat.le_of_ble_eq_true rfl) ⟨(show 0 + 0 ≤ 1 by omega), (show 0 + 0 ≤ 6 by omega)⟩ d_Net_link_4 (fun rhr1 H locs hr1 hP hD hS => ?_)
  subst hr1
  refine W.eq (g2 := F0 m 7 ls [.int (bI true)]) (congrArg (fun z => F0 m 7 ls (.int z :: [])) (congrArg bI (decide_eq_true hlr))) ?_
  refine ct_callSV (As := [.int (bI true)]) (rest := []) ⟨hx, hb, hml, hown, ht⟩ (k_Net_demandRoom l D cI cZ cJ cG) (cb_S ht kc_Net_demandRoom kl_Net_88 kn_Net ki_Net_demandRoom hd_Net_demandRoom ⟨Nat.le_of_ble_eq_true rfl, Nat.le_of_ble_eq_true rfl⟩) (wd_ct (Bs := [[(h, .inr (8, [.ref aE, .ref aL, .ref aS, .ref aK, .ref aR, .ref aD, .ref aG]))], [(aK, .inr (4, [.ref aL, .ref aS, .ref aM, .int S.lost]))], wE, wL, wS, wM, wR, wD, wG]) 9 rfl [] [0, 1, 2, 3, 4, 5, 6, 7, 8] (by decide) rfl) hK hP hD hS hA rfl hl.1 rfl (Nat.le_of_ble_eq_true rfl) ⟨(by decide), (by decide)⟩ d_Net_link_7 (fun u2 H locs hu2 hP hD hS => ?_)
  subst hu2
  refine W.widen (k := 0) (n := 0) (Nat.le_refl _) (Nat.le_refl _) ?_
  have hP := wd_nP (N := []) rfl 9 rfl [0, 1, 2, 3, 4, 5, 6, 7, 8] (by decide) hP
  have hD := wd_nD (N := []) rfl 9 rfl [0, 1, 2, 3, 4, 5, 6, 7, 8] (by decide) hD
  have hP : va_P D kls (List.flatten [[(h, .inr (8, [.ref aE, .ref aL, .ref aS, .ref aK, .ref aR, .ref aD, .ref aG]))], [(aK, .inr (4, [.ref aL, .ref aS, .ref aM, .int S.lost]))], wE, wL, wS, wM, wR, wD, wG]) H := hP
  have hD : va_D A (List.flatten [[(h, .inr (8, [.ref aE, .ref aL, .ref aS, .ref aK, .ref aR, .ref aD, .ref aG]))], [(aK, .inr (4, [.ref aL, .ref aS, .ref aM, .int S.lost]))], wE, wL, wS, wM, wR, wD, wG]) := hD
  refine W.eq (g2 := F0 m 10 ls []) rfl ?_
  refine lv_iload_n hx hb d_Net_link_10 rfl (lv_at hl 1 rfl) ?_
  refine ct_rdS (As := [.int x]) (rest := []) ⟨hx, hb, hml, hown, ht⟩ (k_Net_isRouter l D cI cZ cJ cG x) (cb_S ht kc_Net_isRouter kl_Net_66 kn_Net ki_Net_isRouter hd_Net_isRouter ⟨Nat.le_of_ble_eq_true rfl, Nat.le_of_ble_eq_true rfl⟩) (wd_ct (Bs := [[(h, .inr (8, [.ref aE, .ref aL, .ref aS, .ref aK, .ref aR, .ref aD, .ref aG]))], [(aK, .inr (4, [.ref aL, .ref aS, .ref aM, .int S.lost]))], wE, wL, wS, wM, wR, wD, wG]) 9 rfl [] [0, 1, 2, 3, 4, 5, 6, 7, 8] (by decide) rfl) hK hP hD hS hA rfl hl.1 rfl (Nat.le_of_ble_eq_true rfl) ⟨(show 0 + 0 ≤ 1 by omega), (show 0 + 0 ≤ 6 by omega)⟩ d_Net_link_11 (fun rhr3 H locs hr3 hP hD hS => ?_)
  subst hr3
  refine ri_ifeqB hx hb d_Net_link_14 (tgt := 33) (by decide) (fun h14 => ?_) (fun h14 => ?_)
  · refine lv_iconst (v := nI 0) hx hb d_Net_link_33 (by decide) ?_
    refine W.eq (g2 := F0 m 34 ls [.int (bI false)]) (congrArg (fun z => F0 m 34 ls (.int z :: [])) (rfl)) ?_
    exact ct_throwS (As := [.int (bI false)]) (rest := []) hz hQ hlk ⟨hx, hb, hml, hown, ht⟩ (x_Net_demand l s0 A0 h0 hfl D cI cZ cJ cG) (cb_S ht kc_Net_demand kl_Net_70 kn_Net ki_Net_demand hd_Net_demand ⟨Nat.le_of_ble_eq_true rfl, Nat.le_of_ble_eq_true rfl⟩) (wd_ct (Bs := [[(h, .inr (8, [.ref aE, .ref aL, .ref aS, .ref aK, .ref aR, .ref aD, .ref aG]))], [(aK, .inr (4, [.ref aL, .ref aS, .ref aM, .int S.lost]))], wE, wL, wS, wM, wR, wD, wG]) 9 rfl [] [0, 1, 2, 3, 4, 5, 6, 7, 8] (by decide) rfl) hK hP hD hS hA rfl hl.1 rfl (Nat.le_of_ble_eq_true rfl) ⟨by decide, by decide⟩ ⟨by decide, by decide⟩ d_Net_link_34 (fun u hu => by subst hu; exact ⟨aE, aL, aS, aK, aR, aD, aG, aM, aP, aC, wE, wL, wS, wM, wR, wD, wG, rfl, kE, kL, kS, kM, kR, kD, kG⟩)
  · refine lv_iload_n hx hb d_Net_link_17 rfl (lv_at hl 2 rfl) ?_
    refine ct_rdS (As := [.int y]) (rest := []) ⟨hx, hb, hml, hown, ht⟩ (k_Net_isRouter l D cI cZ cJ cG y) (cb_S ht kc_Net_isRouter kl_Net_66 kn_Net ki_Net_isRouter hd_Net_isRouter ⟨Nat.le_of_ble_eq_true rfl, Nat.le_of_ble_eq_true rfl⟩) (wd_ct (Bs := [[(h, .inr (8, [.ref aE, .ref aL, .ref aS, .ref aK, .ref aR, .ref aD, .ref aG]))], [(aK, .inr (4, [.ref aL, .ref aS, .ref aM, .int S.lost]))], wE, wL, wS, wM, wR, wD, wG]) 9 rfl [] [0, 1, 2, 3, 4, 5, 6, 7, 8] (by decide) rfl) hK hP hD hS hA rfl hl.1 rfl (Nat.le_of_ble_eq_true rfl) ⟨(show 0 + 0 ≤ 1 by omega), (show 0 + 0 ≤ 6 by omega)⟩ d_Net_link_18 (fun rhr5 H locs hr5 hP hD hS => ?_)
    subst hr5
    refine ri_ifeqB hx hb d_Net_link_21 (tgt := 33) (by decide) (fun h21 => ?_) (fun h21 => ?_)
    · refine lv_iconst (v := nI 0) hx hb d_Net_link_33 (by decide) ?_
      refine W.eq (g2 := F0 m 34 ls [.int (bI false)]) (congrArg (fun z => F0 m 34 ls (.int z :: [])) (rfl)) ?_
      exact ct_throwS (As := [.int (bI false)]) (rest := []) hz hQ hlk ⟨hx, hb, hml, hown, ht⟩ (x_Net_demand l s0 A0 h0 hfl D cI cZ cJ cG) (cb_S ht kc_Net_demand kl_Net_70 kn_Net ki_Net_demand hd_Net_demand ⟨Nat.le_of_ble_eq_true rfl, Nat.le_of_ble_eq_true rfl⟩) (wd_ct (Bs := [[(h, .inr (8, [.ref aE, .ref aL, .ref aS, .ref aK, .ref aR, .ref aD, .ref aG]))], [(aK, .inr (4, [.ref aL, .ref aS, .ref aM, .int S.lost]))], wE, wL, wS, wM, wR, wD, wG]) 9 rfl [] [0, 1, 2, 3, 4, 5, 6, 7, 8] (by decide) rfl) hK hP hD hS hA rfl hl.1 rfl (Nat.le_of_ble_eq_true rfl) ⟨by decide, by decide⟩ ⟨by decide, by decide⟩ d_Net_link_34 (fun u hu => by subst hu; exact ⟨aE, aL, aS, aK, aR, aD, aG, aM, aP, aC, wE, wL, wS, wM, wR, wD, wG, rfl, kE, kL, kS, kM, kR, kD, kG⟩)
    · obtain ⟨r, hr9, rfl⟩ := rg_n (k := 12) h14
      obtain ⟨o, ho9, rfl⟩ := rg_n (k := 12) h21
      have hl : lv_has ls 4 [(0, .ref h), (1, .int (nI r)), (2, .int (nI o)), (3, .int z9)] := hl
      refine lv_iload_n hx hb d_Net_link_24 rfl (lv_at hl 1 rfl) ?_
      refine lv_iload_n hx hb d_Net_link_25 rfl (lv_at hl 2 rfl) ?_
      refine ri_icmp_eq hx hb (by omega) (by omega) d_Net_link_26 (tgt := 33) (by decide) (fun h26 => ?_) (fun h26 => ?_)
      · refine lv_iconst (v := nI 0) hx hb d_Net_link_33 (by decide) ?_
        refine W.eq (g2 := F0 m 34 ls [.int (bI false)]) (congrArg (fun z => F0 m 34 ls (.int z :: [])) (rfl)) ?_
        exact ct_throwS (As := [.int (bI false)]) (rest := []) hz hQ hlk ⟨hx, hb, hml, hown, ht⟩ (x_Net_demand l s0 A0 h0 hfl D cI cZ cJ cG) (cb_S ht kc_Net_demand kl_Net_70 kn_Net ki_Net_demand hd_Net_demand ⟨Nat.le_of_ble_eq_true rfl, Nat.le_of_ble_eq_true rfl⟩) (wd_ct (Bs := [[(h, .inr (8, [.ref aE, .ref aL, .ref aS, .ref aK, .ref aR, .ref aD, .ref aG]))], [(aK, .inr (4, [.ref aL, .ref aS, .ref aM, .int S.lost]))], wE, wL, wS, wM, wR, wD, wG]) 9 rfl [] [0, 1, 2, 3, 4, 5, 6, 7, 8] (by decide) rfl) hK hP hD hS hA rfl hl.1 rfl (Nat.le_of_ble_eq_true rfl) ⟨by decide, by decide⟩ ⟨by decide, by decide⟩ d_Net_link_34 (fun u hu => by subst hu; exact ⟨aE, aL, aS, aK, aR, aD, aG, aM, aP, aC, wE, wL, wS, wM, wR, wD, wG, rfl, kE, kL, kS, kM, kR, kD, kG⟩)
      · refine lv_iconst (v := nI 1) hx hb d_Net_link_29 (by decide) ?_
        refine lv_goto hx hb d_Net_link_30 (tgt := 34) (by decide) ?_
        refine W.eq (g2 := F0 m 34 ls [.int (bI true)]) (congrArg (fun z => F0 m 34 ls (.int z :: [])) (rfl)) ?_
        refine ct_callSV (As := [.int (bI true)]) (rest := []) ⟨hx, hb, hml, hown, ht⟩ (k_Net_demand l D cI cZ cJ cG) (cb_S ht kc_Net_demand kl_Net_70 kn_Net ki_Net_demand hd_Net_demand ⟨Nat.le_of_ble_eq_true rfl, Nat.le_of_ble_eq_true rfl⟩) (wd_ct (Bs := [[(h, .inr (8, [.ref aE, .ref aL, .ref aS, .ref aK, .ref aR, .ref aD, .ref aG]))], [(aK, .inr (4, [.ref aL, .ref aS, .ref aM, .int S.lost]))], wE, wL, wS, wM, wR, wD, wG]) 9 rfl [] [0, 1, 2, 3, 4, 5, 6, 7, 8] (by decide) rfl) hK hP hD hS hA rfl hl.1 rfl (Nat.le_of_ble_eq_true rfl) ⟨(by decide), (by decide)⟩ d_Net_link_34 (fun u8 H locs hu8 hP hD hS => ?_)
        subst hu8
        refine W.widen (k := 0) (n := 0) (Nat.le_refl _) (Nat.le_refl _) ?_
        have hP := wd_nP (N := []) rfl 9 rfl [0, 1, 2, 3, 4, 5, 6, 7, 8] (by decide) hP
        have hD := wd_nD (N := []) rfl 9 rfl [0, 1, 2, 3, 4, 5, 6, 7, 8] (by decide) hD
        have hP : va_P D kls (List.flatten [[(h, .inr (8, [.ref aE, .ref aL, .ref aS, .ref aK, .ref aR, .ref aD, .ref aG]))], [(aK, .inr (4, [.ref aL, .ref aS, .ref aM, .int S.lost]))], wE, wL, wS, wM, wR, wD, wG]) H := hP
        have hD : va_D A (List.flatten [[(h, .inr (8, [.ref aE, .ref aL, .ref aS, .ref aK, .ref aR, .ref aD, .ref aG]))], [(aK, .inr (4, [.ref aL, .ref aS, .ref aM, .int S.lost]))], wE, wL, wS, wM, wR, wD, wG]) := hD
        refine W.eq (g2 := F0 m 37 ls []) rfl ?_
        refine lv_iload_n hx hb d_Net_link_37 rfl (lv_at hl 3 rfl) ?_
        refine lv_iconst (v := nI 1) hx hb d_Net_link_38 (by decide) ?_
        refine lv_icmp_lt hx hb d_Net_link_39 (tgt := 65) (by decide) (fun h39 => ?_) (fun h39 => ?_)
        · refine lv_iconst (v := nI 0) hx hb d_Net_link_65 (by decide) ?_
          refine W.eq (g2 := F0 m 66 ls [.int (bI false)]) (congrArg (fun z => F0 m 66 ls (.int z :: [])) (rfl)) ?_
          exact ct_throwS (As := [.int (bI false)]) (rest := []) hz hQ hlk ⟨hx, hb, hml, hown, ht⟩ (x_Net_demand l s0 A0 h0 hfl D cI cZ cJ cG) (cb_S ht kc_Net_demand kl_Net_70 kn_Net ki_Net_demand hd_Net_demand ⟨Nat.le_of_ble_eq_true rfl, Nat.le_of_ble_eq_true rfl⟩) (wd_ct (Bs := [[(h, .inr (8, [.ref aE, .ref aL, .ref aS, .ref aK, .ref aR, .ref aD, .ref aG]))], [(aK, .inr (4, [.ref aL, .ref aS, .ref aM, .int S.lost]))], wE, wL, wS, wM, wR, wD, wG]) 9 rfl [] [0, 1, 2, 3, 4, 5, 6, 7, 8] (by decide) rfl) hK hP hD hS hA rfl hl.1 rfl (Nat.le_of_ble_eq_true rfl) ⟨by decide, by decide⟩ ⟨by decide, by decide⟩ d_Net_link_66 (fun u hu => by subst hu; exact ⟨aE, aL, aS, aK, aR, aD, aG, aM, aP, aC, wE, wL, wS, wM, wR, wD, wG, rfl, kE, kL, kS, kM, kR, kD, kG⟩)
        · refine lv_iload_n hx hb d_Net_link_42 rfl (lv_at hl 3 rfl) ?_
          refine lv_sipush (v := nI 1000) hx hb d_Net_link_43 (by decide) ?_
          refine lv_icmp_gt hx hb d_Net_link_46 (tgt := 65) (by decide) (fun h46 => ?_) (fun h46 => ?_)
          · refine lv_iconst (v := nI 0) hx hb d_Net_link_65 (by decide) ?_
            refine W.eq (g2 := F0 m 66 ls [.int (bI false)]) (congrArg (fun z => F0 m 66 ls (.int z :: [])) (rfl)) ?_
            exact ct_throwS (As := [.int (bI false)]) (rest := []) hz hQ hlk ⟨hx, hb, hml, hown, ht⟩ (x_Net_demand l s0 A0 h0 hfl D cI cZ cJ cG) (cb_S ht kc_Net_demand kl_Net_70 kn_Net ki_Net_demand hd_Net_demand ⟨Nat.le_of_ble_eq_true rfl, Nat.le_of_ble_eq_true rfl⟩) (wd_ct (Bs := [[(h, .inr (8, [.ref aE, .ref aL, .ref aS, .ref aK, .ref aR, .ref aD, .ref aG]))], [(aK, .inr (4, [.ref aL, .ref aS, .ref aM, .int S.lost]))], wE, wL, wS, wM, wR, wD, wG]) 9 rfl [] [0, 1, 2, 3, 4, 5, 6, 7, 8] (by decide) rfl) hK hP hD hS hA rfl hl.1 rfl (Nat.le_of_ble_eq_true rfl) ⟨by decide, by decide⟩ ⟨by decide, by decide⟩ d_Net_link_66 (fun u hu => by subst hu; exact ⟨aE, aL, aS, aK, aR, aD, aG, aM, aP, aC, wE, wL, wS, wM, wR, wD, wG, rfl, kE, kL, kS, kM, kR, kD, kG⟩)
          · obtain ⟨v, hv1, hv2, rfl⟩ := rg_of1 h39 h46
            have hl : lv_has ls 4 [(0, .ref h), (1, .int (nI r)), (2, .int (nI o)), (3, .int (nI v))] := hl
            refine lv_aload_n hx hb d_Net_link_49 rfl (lv_at hl 0 rfl) ?_
            refine va_get (D := D) (ci := 8) (v := .ref aL) (C := R_Net) (T := T_Net) (N := 7) hx hb ht in_Net hown hK hP 0 rfl rfl 1 (by decide) (ht _ kl_Net_19) (fun _ h9 => h9) rfl d_Net_link_50 ?_
            refine lv_iload_n hx hb d_Net_link_53 rfl (lv_at hl 1 rfl) ?_
            refine lv_iload_n hx hb d_Net_link_54 rfl (lv_at hl 2 rfl) ?_
            refine ct_rdV (C := R_Links) (ci := 2) (As := [.int (nI r), .int (nI o)]) (rest := []) ⟨hx, hb, hml, hown, ht⟩ (k_Links_exists l D cI cZ cJ cG kL r o (fun a b => Nat.lt_of_le_of_lt (hi.2.2.1 a b) (by decide)) (fun a b => Nat.lt_of_le_of_lt (hi.2.1 a b) (by decide)) hr9 ho9) (cb_V ht kc_Links_exists kl_Net_91 kn_Links ki_Links_exists ks_Links_exists hd_Links_exists ⟨Nat.le_of_ble_eq_true rfl, Nat.le_of_ble_eq_true rfl⟩) (wd_mem 3 rfl mL) rfl rfl (wd_ct (Bs := [[(h, .inr (8, [.ref aE, .ref aL, .ref aS, .ref aK, .ref aR, .ref aD, .ref aG]))], [(aK, .inr (4, [.ref aL, .ref aS, .ref aM, .int S.lost]))], wE, wL, wS, wM, wR, wD, wG]) 9 rfl [3] [0, 1, 2, 4, 5, 6, 7, 8] (by decide) (wd_1 _)) hK hP hD hS hA rfl hl.1 rfl (Nat.le_of_ble_eq_true rfl) ⟨(show 0 + 0 ≤ 1 by omega), (show 0 + 0 ≤ 6 by omega)⟩ d_Net_link_55 (fun rhr11 H locs hr11 hP hD hS => ?_)
            subst hr11
            refine ri_ifneB hx hb d_Net_link_58 (tgt := 65) (by decide) (fun h58 => ?_) (fun h58 => ?_)
            · refine lv_iconst (v := nI 0) hx hb d_Net_link_65 (by decide) ?_
              refine W.eq (g2 := F0 m 66 ls [.int (bI false)]) (congrArg (fun z => F0 m 66 ls (.int z :: [])) (rfl)) ?_
              exact ct_throwS (As := [.int (bI false)]) (rest := []) hz hQ hlk ⟨hx, hb, hml, hown, ht⟩ (x_Net_demand l s0 A0 h0 hfl D cI cZ cJ cG) (cb_S ht kc_Net_demand kl_Net_70 kn_Net ki_Net_demand hd_Net_demand ⟨Nat.le_of_ble_eq_true rfl, Nat.le_of_ble_eq_true rfl⟩) (wd_ct (Bs := [[(h, .inr (8, [.ref aE, .ref aL, .ref aS, .ref aK, .ref aR, .ref aD, .ref aG]))], [(aK, .inr (4, [.ref aL, .ref aS, .ref aM, .int S.lost]))], wE, wL, wS, wM, wR, wD, wG]) 9 rfl [] [0, 1, 2, 3, 4, 5, 6, 7, 8] (by decide) rfl) hK hP hD hS hA rfl hl.1 rfl (Nat.le_of_ble_eq_true rfl) ⟨by decide, by decide⟩ ⟨by decide, by decide⟩ d_Net_link_66 (fun u hu => by subst hu; exact ⟨aE, aL, aS, aK, aR, aD, aG, aM, aP, aC, wE, wL, wS, wM, wR, wD, wG, rfl, kE, kL, kS, kM, kR, kD, kG⟩)
            · refine lv_iconst (v := nI 1) hx hb d_Net_link_61 (by decide) ?_
              refine lv_goto hx hb d_Net_link_62 (tgt := 66) (by decide) ?_
              refine W.eq (g2 := F0 m 66 ls [.int (bI true)]) (congrArg (fun z => F0 m 66 ls (.int z :: [])) (rfl)) ?_
              refine ct_callSV (As := [.int (bI true)]) (rest := []) ⟨hx, hb, hml, hown, ht⟩ (k_Net_demand l D cI cZ cJ cG) (cb_S ht kc_Net_demand kl_Net_70 kn_Net ki_Net_demand hd_Net_demand ⟨Nat.le_of_ble_eq_true rfl, Nat.le_of_ble_eq_true rfl⟩) (wd_ct (Bs := [[(h, .inr (8, [.ref aE, .ref aL, .ref aS, .ref aK, .ref aR, .ref aD, .ref aG]))], [(aK, .inr (4, [.ref aL, .ref aS, .ref aM, .int S.lost]))], wE, wL, wS, wM, wR, wD, wG]) 9 rfl [] [0, 1, 2, 3, 4, 5, 6, 7, 8] (by decide) rfl) hK hP hD hS hA rfl hl.1 rfl (Nat.le_of_ble_eq_true rfl) ⟨(by decide), (by decide)⟩ d_Net_link_66 (fun u13 H locs hu13 hP hD hS => ?_)
              subst hu13
              refine W.widen (k := 0) (n := 0) (Nat.le_refl _) (Nat.le_refl _) ?_
              have hP := wd_nP (N := []) rfl 9 rfl [0, 1, 2, 3, 4, 5, 6, 7, 8] (by decide) hP
              have hD := wd_nD (N := []) rfl 9 rfl [0, 1, 2, 3, 4, 5, 6, 7, 8] (by decide) hD
              have hP : va_P D kls (List.flatten [[(h, .inr (8, [.ref aE, .ref aL, .ref aS, .ref aK, .ref aR, .ref aD, .ref aG]))], [(aK, .inr (4, [.ref aL, .ref aS, .ref aM, .int S.lost]))], wE, wL, wS, wM, wR, wD, wG]) H := hP
              have hD : va_D A (List.flatten [[(h, .inr (8, [.ref aE, .ref aL, .ref aS, .ref aK, .ref aR, .ref aD, .ref aG]))], [(aK, .inr (4, [.ref aL, .ref aS, .ref aM, .int S.lost]))], wE, wL, wS, wM, wR, wD, wG]) := hD
              refine W.eq (g2 := F0 m 69 ls []) rfl ?_
              exact absurd ⟨r, o, v, rfl, rfl, rfl, hr9, ho9, h26, hv1, hv2, Classical.byContradiction (of_decide_eq_false h58)⟩ hno
