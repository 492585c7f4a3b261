/-! BitNet: carry, but for its loop. -/
def bm_close (S : bm_S) : bm_S := (S.eb, S.tk, S.es, S.lk, S.kn, S.T, S.lost, S.D, bm_glose S.G)
set_option maxHeartbeats 800000 in
set_option maxRecDepth 100000 in
theorem x_Net_carry (l : Launch) (s0 : State) (A0 : Array Value) (h0 : fz_0 A0 s0) (hfl : ∀ e : Env, l.admits e → e.platform.stackTraces = false) (D : va_G) (cI cZ cJ cG : ClassId) {h : Nat} {S : bm_S} {ws : va_W} (hR : nt_R cI cZ cG h S ws) (x : Int32) (hm1 : x ≠ -1) (hno : rg 1 1001 x = false) : ct_X l s0 D kls (ty4 cI cZ cJ cG) y_Net_carry ws_Net_carry (rm_ 7 102 1 6) [.ref h, .int x] (ws) "java/lang/IllegalArgumentException" (fun u => nt_R cI cZ cG h S u) 1 6 := by
  obtain ⟨aE, aL, aS, aK, aR, aD, aG, aM, aP, aC, wE, wL, wS, wM, wR, wD, wG, rfl, kE, kL, kS, kM, kR, kD, kG⟩ := hR
  obtain ⟨fsE, mE⟩ := kE.mem
  obtain ⟨fsL, mL⟩ := kL.mem
  obtain ⟨fsS, mS⟩ := kS.mem
  obtain ⟨fsR, mR⟩ := kR.mem
  obtain ⟨fsD, mD⟩ := kD.mem
  obtain ⟨fsG, mG⟩ := kG.mem
  refine ct_enterX (cc := b_Net_carry) (maxL := 3) (ret := (some .int)) (by decide +kernel) (Nat.le_of_ble_eq_true rfl) ?_
  intro p e s m args below meth c hx hb hml hr ht hown hlk hnm A Q hA hK hP hD hQ ls hl hz
  have hown : s.vm.findClass R_Net = some m.cls := hown
  have hS : va_S A s.heap s.heap [] := va_S.rf
  have hl : lv_has ls 3 [(0, .ref h), (1, .int x)] := hl
  refine lv_iload_n hx hb d_Net_carry_0 rfl (lv_at hl 1 rfl) ?_
  refine lv_iconst (v := (-1)) hx hb d_Net_carry_1 (by decide) ?_
  refine lv_icmp_eq hx hb d_Net_carry_2 (tgt := 12) (by decide) (fun h2 => ?_) (fun h2 => ?_)
  · exact absurd h2 (hm1)
  · refine lv_iload_n hx hb d_Net_carry_5 rfl (lv_at hl 1 rfl) ?_
    refine ct_rdS (As := [.int x]) (rest := []) ⟨hx, hb, hml, hown, ht⟩ (k_Net_isNumberOfTurns l D cI cZ cJ cG x) (cb_S ht kc_Net_isNumberOfTurns kl_Net_133 kn_Net ki_Net_isNumberOfTurns hd_Net_isNumberOfTurns ⟨Nat.le_of_ble_eq_true rfl, Nat.le_of_ble_eq_true rfl⟩) (wd_ct (Bs := [[(h, .inr (8, [.ref aE, .ref aL, .ref aS, .ref aK, .ref aR, .ref aD, .ref aG]))], [(aK, .inr (4, [.ref aL, .ref aS, .ref aM, .int S.lost]))], wE, wL, wS, wM, wR, wD, wG]) 9 rfl [] [0, 1, 2, 3, 4, 5, 6, 7, 8] (by decide) rfl) hK hP hD hS hA rfl hl.1 rfl (Nat.le_of_ble_eq_true rfl) ⟨(show 0 + 0 ≤ 1 by omega), (show 0 + 0 ≤ 6 by omega)⟩ d_Net_carry_6 (fun rhr2 H locs hr2 hP hD hS => ?_)
    subst hr2
    refine W.eq (g2 := F0 m 9 ls [.int (bI false)]) (congrArg (fun z => F0 m 9 ls (.int z :: [])) (congrArg bI hno)) ?_
    refine ri_ifeqB hx hb d_Net_carry_9 (tgt := 16) (by decide) (fun h3 => ?_) (fun h3 => ?_)
    · refine lv_iconst (v := nI 0) hx hb d_Net_carry_16 (by decide) ?_
      refine W.eq (g2 := F0 m 17 ls [.int (bI false)]) (congrArg (fun z => F0 m 17 ls (.int z :: [])) (rfl)) ?_
      exact ct_throwS (As := [.int (bI false)]) (rest := []) hz hQ hlk ⟨hx, hb, hml, hown, ht⟩ (x_Net_demand l s0 A0 h0 hfl D cI cZ cJ cG) (cb_S ht kc_Net_demand kl_Net_70 kn_Net ki_Net_demand hd_Net_demand ⟨Nat.le_of_ble_eq_true rfl, Nat.le_of_ble_eq_true rfl⟩) (wd_ct (Bs := [[(h, .inr (8, [.ref aE, .ref aL, .ref aS, .ref aK, .ref aR, .ref aD, .ref aG]))], [(aK, .inr (4, [.ref aL, .ref aS, .ref aM, .int S.lost]))], wE, wL, wS, wM, wR, wD, wG]) 9 rfl [] [0, 1, 2, 3, 4, 5, 6, 7, 8] (by decide) rfl) hK hP hD hS hA rfl hl.1 rfl (Nat.le_of_ble_eq_true rfl) ⟨by decide, by decide⟩ ⟨by decide, by decide⟩ d_Net_carry_17 (fun u hu => by subst hu; exact ⟨aE, aL, aS, aK, aR, aD, aG, aM, aP, aC, wE, wL, wS, wM, wR, wD, wG, rfl, kE, kL, kS, kM, kR, kD, kG⟩)
    · exact absurd h3 (fun z => by cases z)
set_option maxHeartbeats 800000 in
set_option maxRecDepth 100000 in
theorem k_Net_carry_lose (l : Launch) (D : va_G) (cI cZ cJ cG : ClassId) {h : Nat} {S : bm_S} {ws : va_W} (hR : nt_R cI cZ cG h S ws) (hgo : 0 < S.G.2.2.2.1.2.1 → ∃ g, g < 8 ∧ S.G.2.2.2.1.2.2 0 0 = nI g ∧ 0 < S.G.2.2.2.2 g) : ct_I l D kls (ty4 cI cZ cJ cG) y_Net_carry ws_Net_carry (rm_ 3 65 0 0) [.ref h, .int ((-1))] (ws) (fun z u => z = nI (if S.G.2.2.2.1.2.1 = 0 then 0 else 1) ∧ nt_R cI cZ cG h (bm_close S) u) 0 0 := by
  obtain ⟨aE, aL, aS, aK, aR, aD, aG, aM, aP, aC, wE, wL, wS, wM, wR, wD, wG, rfl, kE, kL, kS, kM, kR, kD, kG⟩ := hR
  obtain ⟨fsE, mE⟩ := kE.mem
  obtain ⟨fsL, mL⟩ := kL.mem
  obtain ⟨fsS, mS⟩ := kS.mem
  obtain ⟨fsR, mR⟩ := kR.mem
  obtain ⟨fsD, mD⟩ := kD.mem
  obtain ⟨fsG, mG⟩ := kG.mem
  refine ct_enterI (cc := b_Net_carry) (maxL := 3) (ret := (some .int)) (by decide +kernel) (Nat.le_of_ble_eq_true rfl) ?_
  intro p e s m args below meth c hx hb hml hr ht hown hlk hnm A Q hA hK hP hD hQ ls hl
  have hown : s.vm.findClass R_Net = some m.cls := hown
  have hS : va_S A s.heap s.heap [] := va_S.rf
  have hl : lv_has ls 3 [(0, .ref h), (1, .int ((-1)))] := hl
  refine lv_iload_n hx hb d_Net_carry_0 rfl (lv_at hl 1 rfl) ?_
  refine lv_iconst (v := (-1)) hx hb d_Net_carry_1 (by decide) ?_
  refine lv_icmp_eq hx hb d_Net_carry_2 (tgt := 12) (by decide) (fun h2 => ?_) (fun h2 => ?_)
  · refine lv_iconst (v := nI 1) hx hb d_Net_carry_12 (by decide) ?_
    refine lv_goto hx hb d_Net_carry_13 (tgt := 17) (by decide) ?_
    refine W.eq (g2 := F0 m 17 ls [.int (bI true)]) (congrArg (fun z => F0 m 17 ls (.int z :: [])) (rfl)) ?_
    refine ct_callSV (As := [.int (bI true)]) (rest := []) ⟨hx, hb, hml, hown, ht⟩ (k_Net_demand l D cI cZ cJ cG) (cb_S ht kc_Net_demand kl_Net_70 kn_Net ki_Net_demand hd_Net_demand ⟨Nat.le_of_ble_eq_true rfl, Nat.le_of_ble_eq_true rfl⟩) (wd_ct (Bs := [[(h, .inr (8, [.ref aE, .ref aL, .ref aS, .ref aK, .ref aR, .ref aD, .ref aG]))], [(aK, .inr (4, [.ref aL, .ref aS, .ref aM, .int S.lost]))], wE, wL, wS, wM, wR, wD, wG]) 9 rfl [] [0, 1, 2, 3, 4, 5, 6, 7, 8] (by decide) rfl) hK hP hD hS hA rfl hl.1 rfl (Nat.le_of_ble_eq_true rfl) ⟨(show 0 + 0 ≤ 0 by omega), (show 0 + 0 ≤ 0 by omega)⟩ d_Net_carry_17 (fun u2 H locs hu2 hP hD hS => ?_)
    subst hu2
    refine W.widen (k := 0) (n := 0) (Nat.le_refl _) (Nat.le_refl _) ?_
    have hP := wd_nP (N := []) rfl 9 rfl [0, 1, 2, 3, 4, 5, 6, 7, 8] (by decide) hP
    have hD := wd_nD (N := []) rfl 9 rfl [0, 1, 2, 3, 4, 5, 6, 7, 8] (by decide) hD
    have hP : va_P D kls (List.flatten [[(h, .inr (8, [.ref aE, .ref aL, .ref aS, .ref aK, .ref aR, .ref aD, .ref aG]))], [(aK, .inr (4, [.ref aL, .ref aS, .ref aM, .int S.lost]))], wE, wL, wS, wM, wR, wD, wG]) H := hP
    have hD : va_D A (List.flatten [[(h, .inr (8, [.ref aE, .ref aL, .ref aS, .ref aK, .ref aR, .ref aD, .ref aG]))], [(aK, .inr (4, [.ref aL, .ref aS, .ref aM, .int S.lost]))], wE, wL, wS, wM, wR, wD, wG]) := hD
    refine W.eq (g2 := F0 m 20 ls []) rfl ?_
    refine lv_iload_n hx hb d_Net_carry_20 rfl (lv_at hl 1 rfl) ?_
    refine lv_iconst (v := (-1)) hx hb d_Net_carry_21 (by decide) ?_
    refine lv_icmp_ne hx hb d_Net_carry_22 (tgt := 33) (by decide) (fun h22 => ?_) (fun h22 => ?_)
    · exact absurd h22 (fun z => z rfl)
    · refine lv_aload_n hx hb d_Net_carry_25 rfl (lv_at hl 0 rfl) ?_
      refine va_get (D := D) (ci := 8) (v := .ref aG) (C := R_Net) (T := T_Net) (N := 7) hx hb ht in_Net hown hK hP 0 rfl rfl 6 (by decide) (ht _ kl_Net_62) (fun _ h9 => h9) rfl d_Net_carry_26 ?_
      refine ct_callVI (C := R_Groups) (ci := 7) (As := []) (rest := []) ⟨hx, hb, hml, hown, ht⟩ (k_Groups_loseOldest l D cI cZ cJ cG kG hgo) (cb_V ht kc_Groups_loseOldest kl_Net_183 kn_Groups ki_Groups_loseOldest ks_Groups_loseOldest hd_Groups_loseOldest ⟨Nat.le_of_ble_eq_true rfl, Nat.le_of_ble_eq_true rfl⟩) (wd_mem 8 rfl mG) rfl rfl (wd_ct (Bs := [[(h, .inr (8, [.ref aE, .ref aL, .ref aS, .ref aK, .ref aR, .ref aD, .ref aG]))], [(aK, .inr (4, [.ref aL, .ref aS, .ref aM, .int S.lost]))], wE, wL, wS, wM, wR, wD, wG]) 9 rfl [8] [0, 1, 2, 3, 4, 5, 6, 7] (by decide) (wd_1 _)) hK hP hD hS hA rfl hl.1 rfl (Nat.le_of_ble_eq_true rfl) ⟨(show 0 + 0 ≤ 0 by omega), (show 0 + 0 ≤ 0 by omega)⟩ d_Net_carry_29 (fun ru4 u4 H locs hu4 hP hD hS => ?_)
      obtain ⟨hz9, kG2⟩ := hu4
      rw [hz9]
      refine W.widen (k := 0) (n := 0) (Nat.le_refl _) (Nat.le_refl _) ?_
      have hP := wd_nP (N := [u4]) (wd_1 _) 9 rfl [1, 2, 3, 4, 5, 6, 7, 8, 0] (by decide) hP
      have hD := wd_nD (N := [u4]) (wd_1 _) 9 rfl [1, 2, 3, 4, 5, 6, 7, 8, 0] (by decide) hD
      have hP : va_P D kls (List.flatten [[(h, .inr (8, [.ref aE, .ref aL, .ref aS, .ref aK, .ref aR, .ref aD, .ref aG]))], [(aK, .inr (4, [.ref aL, .ref aS, .ref aM, .int S.lost]))], wE, wL, wS, wM, wR, wD, u4]) H := hP
      have hD : va_D A (List.flatten [[(h, .inr (8, [.ref aE, .ref aL, .ref aS, .ref aK, .ref aR, .ref aD, .ref aG]))], [(aK, .inr (4, [.ref aL, .ref aS, .ref aM, .int S.lost]))], wE, wL, wS, wM, wR, wD, u4]) := hD
      refine W.eq (g2 := F0 m 32 ls [.int (nI (if S.G.2.2.2.1.2.1 = 0 then 0 else 1))]) rfl ?_
      exact ct_iret hQ hx hb hr hlk hP hD hS hK (by omega) (by omega) d_Net_carry_32 (⟨rfl, aE, aL, aS, aK, aR, aD, aG, aM, aP, aC, wE, wL, wS, wM, wR, wD, u4, rfl, kE, kL, kS, kM, kR, kD, kG2⟩)
  · exact absurd h2 (fun z => z rfl)
