/-! BitNet: carry's loop. -/
def bm_git (G : bm_G) : Nat → bm_G
  | 0 => G
  | j + 1 => bm_gdel (bm_git G j)
def bm_cry (d : Nat) (S : bm_S) : bm_S := (S.eb, S.tk, S.es, S.lk, S.kn, S.T, S.lost, S.D, bm_git S.G d)
set_option maxHeartbeats 800000 in
set_option maxRecDepth 100000 in
theorem k_Net_carry (l : Launch) (D : va_G) (cI cZ cJ cG : ClassId) {h : Nat} {S : bm_S} {ws : va_W} (hR : nt_R cI cZ cG h S ws) (n : Nat) (hn1 : 1 ≤ n) (hn2 : n ≤ 1000) (hq : ∀ j, 0 < (bm_git S.G j).2.2.2.1.2.1 → ∃ g, g < 8 ∧ (bm_git S.G j).2.2.2.1.2.2 0 0 = nI g ∧ 0 < (bm_git S.G j).2.2.2.2 g) : ct_I l D kls (ty4 cI cZ cJ cG) y_Net_carry ws_Net_carry (rm_ 3 68 0 0) [.ref h, .int (nI n)] (ws) (fun z u => ∃ d, z = nI d ∧ d ≤ n ∧ (∀ j, j < d → 0 < (bm_git S.G j).2.2.2.1.2.1) ∧ (d = n ∨ (bm_git S.G d).2.2.2.1.2.1 = 0) ∧ nt_R cI cZ cG h (bm_cry d S) u) 0 0 := by
  obtain ⟨aE, aL, aS, aK, aR, aD, aG, aM, aP, aC, wE, wL, wS, wM, wR, wD, wG, rfl, kE, kL, kS, kM, kR, kD, kG⟩ := hR
  obtain ⟨fsE, mE⟩ := kE.mem
  obtain ⟨fsL, mL⟩ := kL.mem
  obtain ⟨fsS, mS⟩ := kS.mem
  obtain ⟨fsR, mR⟩ := kR.mem
  obtain ⟨fsD, mD⟩ := kD.mem
  obtain ⟨fsG, mG⟩ := kG.mem
  refine ct_enterI (cc := b_Net_carry) (maxL := 3) (ret := (some .int)) (by decide +kernel) (Nat.le_of_ble_eq_true rfl) ?_
  intro p e s m args below meth c hx hb hml hr ht hown hlk hnm A Q hA hK hP hD hQ ls hl
  have hown : s.vm.findClass R_Net = some m.cls := hown
  have hS : va_S A s.heap s.heap [] := va_S.rf
  have hl : lv_has ls 3 [(0, .ref h), (1, .int (nI n))] := hl
  have loop : ∀ (k j : Nat) (wG9 : va_W) (H : Heap) (locs : List Loc) (ls : Array Slot), j + k = n → (∀ i, i < j → 0 < (bm_git S.G i).2.2.2.1.2.1) → (gp_R cI cG aG aE (bm_git S.G j) wG9) → va_P D kls (List.flatten [[(h, .inr (8, [.ref aE, .ref aL, .ref aS, .ref aK, .ref aR, .ref aD, .ref aG]))], [(aK, .inr (4, [.ref aL, .ref aS, .ref aM, .int S.lost]))], wE, wL, wS, wM, wR, wD, wG9]) H → va_D A (List.flatten [[(h, .inr (8, [.ref aE, .ref aL, .ref aS, .ref aK, .ref aR, .ref aD, .ref aG]))], [(aK, .inr (4, [.ref aL, .ref aS, .ref aM, .int S.lost]))], wE, wL, wS, wM, wR, wD, wG9]) → va_S A s.heap H locs → lv_has ls 3 [(2, .int (nI j)), (0, .ref h), (1, .int (nI n))] → W p l e (rm_ 3 68 0 0) s m args below meth c H locs 0 0 Q (F0 m 35 ls []) := by
    intro k
    induction k with
    | zero =>
      intro j wG9 H locs ls hk hs kG9 hP hD hS hl
      obtain ⟨fsG9, mG9⟩ := kG9.mem
      have bG9 := kG9.n
      refine lv_iload_n hx hb d_Net_carry_35 rfl (lv_at hl 0 rfl) ?_
      refine lv_iload_n hx hb d_Net_carry_36 rfl (lv_at hl 2 rfl) ?_
      refine ri_icmp_ge hx hb (by omega) (by omega) d_Net_carry_37 (tgt := 63) (by decide) (fun hc9 => ?_) (fun hc9 => ?_)
      · refine lv_iload_n hx hb d_Net_carry_63 rfl (lv_at hl 0 rfl) ?_
        exact ct_iret hQ hx hb hr hlk hP hD hS hK (by omega) (by omega) d_Net_carry_64 (⟨j, rfl, by omega, hs, (by first | exact Or.inl (by omega) | exact Or.inr (by omega)), aE, aL, aS, aK, aR, aD, aG, aM, aP, aC, wE, wL, wS, wM, wR, wD, wG9, rfl, kE, kL, kS, kM, kR, kD, kG9⟩)
      · exact absurd hc9 (by omega)
    | succ k ih =>
      intro j wG9 H locs ls hk hs kG9 hP hD hS hl
      obtain ⟨fsG9, mG9⟩ := kG9.mem
      have bG9 := kG9.n
      refine lv_iload_n hx hb d_Net_carry_35 rfl (lv_at hl 0 rfl) ?_
      refine lv_iload_n hx hb d_Net_carry_36 rfl (lv_at hl 2 rfl) ?_
      refine ri_icmp_ge hx hb (by omega) (by omega) d_Net_carry_37 (tgt := 63) (by decide) (fun hc9 => ?_) (fun hc9 => ?_)
      · refine lv_iload_n hx hb d_Net_carry_63 rfl (lv_at hl 0 rfl) ?_
        exact ct_iret hQ hx hb hr hlk hP hD hS hK (by omega) (by omega) d_Net_carry_64 (⟨j, rfl, by omega, hs, (by first | exact Or.inl (by omega) | exact Or.inr (by omega)), aE, aL, aS, aK, aR, aD, aG, aM, aP, aC, wE, wL, wS, wM, wR, wD, wG9, rfl, kE, kL, kS, kM, kR, kD, kG9⟩)
      · refine lv_aload_n hx hb d_Net_carry_40 rfl (lv_at hl 1 rfl) ?_
        refine va_get (D := D) (ci := 8) (v := .ref aG) (C := R_Net) (T := T_Net) (N := 7) hx hb ht in_Net hown hK hP 0 rfl rfl 6 (by decide) (ht _ kl_Net_62) (fun _ h9 => h9) rfl d_Net_carry_41 ?_
        refine ct_rdV (C := R_Groups) (ci := 7) (As := []) (rest := []) ⟨hx, hb, hml, hown, ht⟩ (k_Groups_onTheWay l D cI cZ cJ cG kG9) (cb_V ht kc_Groups_onTheWay kl_Net_179 kn_Groups ki_Groups_onTheWay ks_Groups_onTheWay hd_Groups_onTheWay ⟨Nat.le_of_ble_eq_true rfl, Nat.le_of_ble_eq_true rfl⟩) (wd_mem 8 rfl mG9) rfl rfl (wd_ct (Bs := [[(h, .inr (8, [.ref aE, .ref aL, .ref aS, .ref aK, .ref aR, .ref aD, .ref aG]))], [(aK, .inr (4, [.ref aL, .ref aS, .ref aM, .int S.lost]))], wE, wL, wS, wM, wR, wD, wG9]) 9 rfl [8] [0, 1, 2, 3, 4, 5, 6, 7] (by decide) (wd_1 _)) hK hP hD hS hA rfl hl.1 rfl (Nat.le_of_ble_eq_true rfl) ⟨(show 0 + 0 ≤ 0 by omega), (show 0 + 0 ≤ 0 by omega)⟩ d_Net_carry_44 (fun rhr3 H locs hr3 hP hD hS => ?_)
        subst hr3
        refine ri_if_le hx hb (by omega) d_Net_carry_47 (tgt := 63) (by decide) (fun h47 => ?_) (fun h47 => ?_)
        · refine lv_iload_n hx hb d_Net_carry_63 rfl (lv_at hl 0 rfl) ?_
          exact ct_iret hQ hx hb hr hlk hP hD hS hK (by omega) (by omega) d_Net_carry_64 (⟨j, rfl, by omega, hs, (by first | exact Or.inl (by omega) | exact Or.inr (by omega)), aE, aL, aS, aK, aR, aD, aG, aM, aP, aC, wE, wL, wS, wM, wR, wD, wG9, rfl, kE, kL, kS, kM, kR, kD, kG9⟩)
        · refine lv_aload_n hx hb d_Net_carry_50 rfl (lv_at hl 1 rfl) ?_
          refine va_get (D := D) (ci := 8) (v := .ref aG) (C := R_Net) (T := T_Net) (N := 7) hx hb ht in_Net hown hK hP 0 rfl rfl 6 (by decide) (ht _ kl_Net_62) (fun _ h9 => h9) rfl d_Net_carry_51 ?_
          obtain ⟨g, hg, hg0, hnf⟩ := hq j (by omega)
          refine ct_callVV (C := R_Groups) (ci := 7) (As := []) (rest := []) ⟨hx, hb, hml, hown, ht⟩ (k_Groups_deliverOldest l D cI cZ cJ cG kG9 (by omega) g hg hg0 hnf) (cb_V ht kc_Groups_deliverOldest kl_Net_186 kn_Groups ki_Groups_deliverOldest ks_Groups_deliverOldest hd_Groups_deliverOldest ⟨Nat.le_of_ble_eq_true rfl, Nat.le_of_ble_eq_true rfl⟩) (wd_mem 8 rfl mG9) rfl rfl (wd_ct (Bs := [[(h, .inr (8, [.ref aE, .ref aL, .ref aS, .ref aK, .ref aR, .ref aD, .ref aG]))], [(aK, .inr (4, [.ref aL, .ref aS, .ref aM, .int S.lost]))], wE, wL, wS, wM, wR, wD, wG9]) 9 rfl [8] [0, 1, 2, 3, 4, 5, 6, 7] (by decide) (wd_1 _)) hK hP hD hS hA rfl hl.1 rfl (Nat.le_of_ble_eq_true rfl) ⟨(show 0 + 0 ≤ 0 by omega), (show 0 + 0 ≤ 0 by omega)⟩ d_Net_carry_54 (fun u5 H locs hu5 hP hD hS => ?_)
          have kG8 : gp_R cI cG aG aE (bm_git S.G (j + 1)) u5 := hu5
          refine W.widen (k := 0) (n := 0) (Nat.le_refl _) (Nat.le_refl _) ?_
          have hP := wd_nP (N := [u5]) (wd_1 _) 9 rfl [1, 2, 3, 4, 5, 6, 7, 8, 0] (by decide) hP
          have hD := wd_nD (N := [u5]) (wd_1 _) 9 rfl [1, 2, 3, 4, 5, 6, 7, 8, 0] (by decide) hD
          have hP : va_P D kls (List.flatten [[(h, .inr (8, [.ref aE, .ref aL, .ref aS, .ref aK, .ref aR, .ref aD, .ref aG]))], [(aK, .inr (4, [.ref aL, .ref aS, .ref aM, .int S.lost]))], wE, wL, wS, wM, wR, wD, u5]) H := hP
          have hD : va_D A (List.flatten [[(h, .inr (8, [.ref aE, .ref aL, .ref aS, .ref aK, .ref aR, .ref aD, .ref aG]))], [(aK, .inr (4, [.ref aL, .ref aS, .ref aM, .int S.lost]))], wE, wL, wS, wM, wR, wD, u5]) := hD
          refine W.eq (g2 := F0 m 57 ls []) rfl ?_
          refine ri_iinc hx hb d_Net_carry_57 hl (k := 0) rfl (by decide) rfl (fun ls hl => ?_)
          have hl : lv_has ls 3 [(2, .int (nI (j + 1))), (0, .ref h), (1, .int (nI n))] := hl
          refine lv_goto hx hb d_Net_carry_60 (tgt := 35) (by decide) ?_
          exact ih (j + 1) u5 H locs ls (by omega) (fun i hi9 => by by_cases e : i = j; (· rw [e]; omega); (· exact hs i (by omega))) kG8 hP hD hS hl
  refine lv_iload_n hx hb d_Net_carry_0 rfl (lv_at hl 1 rfl) ?_
  refine lv_iconst (v := (-1)) hx hb d_Net_carry_1 (by decide) ?_
  refine lv_icmp_eq hx hb d_Net_carry_2 (tgt := 12) (by decide) (fun h2 => ?_) (fun h2 => ?_)
  · exact absurd h2 (nI_m1 (by omega))
  · refine lv_iload_n hx hb d_Net_carry_5 rfl (lv_at hl 1 rfl) ?_
    refine ct_rdS (As := [.int (nI n)]) (rest := []) ⟨hx, hb, hml, hown, ht⟩ (k_Net_isNumberOfTurns l D cI cZ cJ cG (nI n)) (cb_S ht kc_Net_isNumberOfTurns kl_Net_133 kn_Net ki_Net_isNumberOfTurns hd_Net_isNumberOfTurns ⟨Nat.le_of_ble_eq_true rfl, Nat.le_of_ble_eq_true rfl⟩) (wd_ct (Bs := [[(h, .inr (8, [.ref aE, .ref aL, .ref aS, .ref aK, .ref aR, .ref aD, .ref aG]))], [(aK, .inr (4, [.ref aL, .ref aS, .ref aM, .int S.lost]))], wE, wL, wS, wM, wR, wD, wG]) 9 rfl [] [0, 1, 2, 3, 4, 5, 6, 7, 8] (by decide) rfl) hK hP hD hS hA rfl hl.1 rfl (Nat.le_of_ble_eq_true rfl) ⟨(show 0 + 0 ≤ 0 by omega), (show 0 + 0 ≤ 0 by omega)⟩ d_Net_carry_6 (fun rhr7 H locs hr7 hP hD hS => ?_)
    subst hr7
    refine W.eq (g2 := F0 m 9 ls [.int (bI true)]) (congrArg (fun z => F0 m 9 ls (.int z :: [])) (congrArg bI (by rw [rg_nI (show n < 2 ^ 31 by omega)]; exact decide_eq_true (by omega)))) ?_
    refine ri_ifeqB hx hb d_Net_carry_9 (tgt := 16) (by decide) (fun h8 => ?_) (fun h8 => ?_)
    · exact absurd h8 (fun z => by cases z)
    · refine lv_iconst (v := nI 1) hx hb d_Net_carry_12 (by decide) ?_
      refine lv_goto hx hb d_Net_carry_13 (tgt := 17) (by decide) ?_
      refine W.eq (g2 := F0 m 17 ls [.int (bI true)]) (congrArg (fun z => F0 m 17 ls (.int z :: [])) (rfl)) ?_
      refine ct_callSV (As := [.int (bI true)]) (rest := []) ⟨hx, hb, hml, hown, ht⟩ (k_Net_demand l D cI cZ cJ cG) (cb_S ht kc_Net_demand kl_Net_70 kn_Net ki_Net_demand hd_Net_demand ⟨Nat.le_of_ble_eq_true rfl, Nat.le_of_ble_eq_true rfl⟩) (wd_ct (Bs := [[(h, .inr (8, [.ref aE, .ref aL, .ref aS, .ref aK, .ref aR, .ref aD, .ref aG]))], [(aK, .inr (4, [.ref aL, .ref aS, .ref aM, .int S.lost]))], wE, wL, wS, wM, wR, wD, wG]) 9 rfl [] [0, 1, 2, 3, 4, 5, 6, 7, 8] (by decide) rfl) hK hP hD hS hA rfl hl.1 rfl (Nat.le_of_ble_eq_true rfl) ⟨(show 0 + 0 ≤ 0 by omega), (show 0 + 0 ≤ 0 by omega)⟩ d_Net_carry_17 (fun u9 H locs hu9 hP hD hS => ?_)
      subst hu9
      refine W.widen (k := 0) (n := 0) (Nat.le_refl _) (Nat.le_refl _) ?_
      have hP := wd_nP (N := []) rfl 9 rfl [0, 1, 2, 3, 4, 5, 6, 7, 8] (by decide) hP
      have hD := wd_nD (N := []) rfl 9 rfl [0, 1, 2, 3, 4, 5, 6, 7, 8] (by decide) hD
      have hP : va_P D kls (List.flatten [[(h, .inr (8, [.ref aE, .ref aL, .ref aS, .ref aK, .ref aR, .ref aD, .ref aG]))], [(aK, .inr (4, [.ref aL, .ref aS, .ref aM, .int S.lost]))], wE, wL, wS, wM, wR, wD, wG]) H := hP
      have hD : va_D A (List.flatten [[(h, .inr (8, [.ref aE, .ref aL, .ref aS, .ref aK, .ref aR, .ref aD, .ref aG]))], [(aK, .inr (4, [.ref aL, .ref aS, .ref aM, .int S.lost]))], wE, wL, wS, wM, wR, wD, wG]) := hD
      refine W.eq (g2 := F0 m 20 ls []) rfl ?_
      refine lv_iload_n hx hb d_Net_carry_20 rfl (lv_at hl 1 rfl) ?_
      refine lv_iconst (v := (-1)) hx hb d_Net_carry_21 (by decide) ?_
      refine lv_icmp_ne hx hb d_Net_carry_22 (tgt := 33) (by decide) (fun h22 => ?_) (fun h22 => ?_)
      · refine lv_iconst (v := nI 0) hx hb d_Net_carry_33 (by decide) ?_
        refine lv_istore_n hx hb d_Net_carry_34 rfl hl (by decide) rfl (fun ls hl => ?_)
        have hl : lv_has ls 3 [(2, .int (nI 0)), (0, .ref h), (1, .int (nI n))] := hl
        exact loop n 0 wG H locs ls (by omega) (fun i hi9 => absurd hi9 (by omega)) kG hP hD hS hl
      · exact absurd h22 (nI_m1 (show n < 2147483648 by omega))
