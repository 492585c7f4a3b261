/-! Routes.spareNeighbour. -/
theorem bn_reach {w : Nat → Nat → Nat} {r m d : Nat} (hw0 : ∀ x, w x x = 0) (hwb : ∀ a b, w a b ≤ 1023) (hsy : ∀ a b, w a b ≠ 0 → w b a ≠ 0) (hr : r < 12) (hm : m < 12) (h : w r m ≠ 0) : bn_far w m r ≤ 1023 ∧ bn_far w m d ≤ 1023 + bn_far w r d := by
  have hF := bn_FI_all hw0 hwb 12 (Nat.le_refl _)
  have h1 : bn_far w m r ≤ w m r := hF.2.2.1 m r hm hr (hsy r m h)
  have h2 := hwb m r
  have h3 : bn_far w m d ≤ bn_far w m r + bn_far w r d := hF.2.2.2.2 r hr m d
  omega
theorem bn_len_at {w : Nat → Nat → Nat} {x y : Nat} (h : bn_far w x y < 1000000) : bn_len w x y = some (bn_far w x y) := if_neg (by omega)
theorem bm_alt_none {w : Nat → Nat → Nat} {r d : Nat} (h : r = d ∨ bn_nh w r d = none) : bm_alt w r d = none := by
  unfold bm_alt
  split
  · rfl
  · rename_i c
    rcases h with h | h
    · exact absurd h c
    · rw [h]
theorem bm_alt_at {w : Nat → Nat → Nat} {r d h : Nat} (hrd : r ≠ d) (hh : bn_nh w r d = some h) : bm_alt w r d = bn_fst (fun m => decide (w r m ≠ 0 ∧ m ≠ h ∧ bn_far w m d < bn_far w m r + bn_far w r d)) 12 := by
  unfold bm_alt
  rw [if_neg hrd, hh]
set_option maxHeartbeats 4000000 in
set_option maxRecDepth 100000 in
theorem k_Routes_spareNeighbour (l : Launch) (D : va_G) (cI cZ cJ cG : ClassId) {h aS aE : Nat} {mk : Nat → Nat → Int32} {ra : Nat → Nat} {wR : va_W} {T1 : bm_M Nat} {hd : Nat → Nat → Nat} {ch : Nat → Nat} {wS : va_W} {eb : Nat → Option Nat} {t9 n9 : Int32} {wE : va_W} (hR : ro_R cI cZ cG h aS aE mk ra wR) (kS : so_R cI cG aS T1 hd ch wS) (kE : ed_R cI aE eb t9 n9 wE) (r d : Nat) (hr9 : r < 12) (hd9 : d < 12) (hh : ∀ x, x < 12 → hd r x < T1.2.1) (hA1 : ∀ i j, i < T1.2.1 → j < 12 → T1.2.2 i (2 + j) ≤ 1000) (hw0 : ∀ x, vw0 T1.2.2 hd r x x = 0) (hwb : ∀ a b, vw0 T1.2.2 hd r a b ≤ 1023) (hsy : ∀ a b, vw0 T1.2.2 hd r a b ≠ 0 → vw0 T1.2.2 hd r b a ≠ 0) : ct_I l D kls (ty4 cI cZ cJ cG) y_Routes_spareNeighbour ws_Routes_spareNeighbour (rm_ 3 71 0 0) [.ref h, .int (nI r), .int (nI d)] (List.flatten [wR, wS, wE]) (fun z u => z = bm_oI (bm_alt (vw0 T1.2.2 hd r) r d) ∧ ∃ wR2, u = List.flatten [wR2, wS, wE] ∧ ro_R cI cZ cG h aS aE mk ra wR2) 0 0 := by
  obtain ⟨gm, qr, gw, ql, qf, qd, rm, rw, M, L, Hh, Nn, rfl⟩ := hR
  obtain ⟨fsS, mS⟩ := kS.mem
  obtain ⟨fsE, mE⟩ := kE.mem
  refine ct_enterI (cc := b_Routes_spareNeighbour) (maxL := 6) (ret := (some .int)) (by decide +kernel) (Nat.le_of_ble_eq_true rfl) ?_
  intro p e s m args below meth c hx hb hml hr ht hown hlk hnm A Q hA hK hP hD hQ ls hl
  have hown : s.vm.findClass R_Routes = some m.cls := hown
  have hS : va_S A s.heap s.heap [] := va_S.rf
  have hl : lv_has ls 6 [(0, .ref h), (1, .int (nI r)), (2, .int (nI d))] := hl
  rw [fl_exp] at hP hD
  have hP : va_P D kls (List.flatten [[(h, .inr (5, [.ref aS, .ref aE, .ref gm, .ref qr, .ref gw, .ref ql, .ref qf, .ref qd]))], [(gm, .inl (cG, 12, .inr (.inr (.inr (.inr (go rm))))))], [(qr, .inl (cI, 12, .inl (cN ra)))], [(gw, .inl (cG, 12, .inr (.inr (.inr (.inr (go rw))))))], [(ql, .inl (cI, 12, .inl (lI L)))], [(qf, .inl (cI, 12, .inl (cN Hh)))], [(qd, .inl (cZ, 12, .inl (dB Nn)))], gd cI 12 rm mk, gd cI 12 rw M, wS, wE]) s.heap := hP
  have hD : va_D A (List.flatten [[(h, .inr (5, [.ref aS, .ref aE, .ref gm, .ref qr, .ref gw, .ref ql, .ref qf, .ref qd]))], [(gm, .inl (cG, 12, .inr (.inr (.inr (.inr (go rm))))))], [(qr, .inl (cI, 12, .inl (cN ra)))], [(gw, .inl (cG, 12, .inr (.inr (.inr (.inr (go rw))))))], [(ql, .inl (cI, 12, .inl (lI L)))], [(qf, .inl (cI, 12, .inl (cN Hh)))], [(qd, .inl (cZ, 12, .inl (dB Nn)))], gd cI 12 rm mk, gd cI 12 rw M, wS, wE]) := hD
  refine lv_aload_n hx hb d_Routes_spareNeighbour_0 rfl (lv_at hl 0 rfl) ?_
  refine va_get (D := D) (ci := 5) (v := .ref aS) (C := R_Routes) (T := T_Routes) (N := 8) hx hb ht in_Routes hown hK hP 0 rfl rfl 0 (by decide) (ht _ kl_Routes_33) (fun _ h9 => h9) rfl d_Routes_spareNeighbour_1 ?_
  refine lv_iload_n hx hb d_Routes_spareNeighbour_4 rfl (lv_at hl 1 rfl) ?_
  refine lv_aload_n hx hb d_Routes_spareNeighbour_5 rfl (lv_at hl 0 rfl) ?_
  refine va_get (D := D) (ci := 5) (v := .ref gw) (C := R_Routes) (T := T_Routes) (N := 8) hx hb ht in_Routes hown hK hP 0 rfl rfl 4 (by decide) (ht _ kl_Routes_20) (fun _ h9 => h9) rfl d_Routes_spareNeighbour_6 ?_
  refine ct_callVV (C := R_Stores) (ci := 3) (As := [.int (nI r), .ref gw]) (rest := []) ⟨hx, hb, hml, hown, ht⟩ (k_Stores_writeView l D cI cZ cJ cG kS gw rw M r hr9 hh hA1) (cb_V ht kc_Stores_writeView kl_Routes_57 kn_Stores ki_Stores_writeView ks_Stores_writeView hd_Stores_writeView ⟨Nat.le_of_ble_eq_true rfl, Nat.le_of_ble_eq_true rfl⟩) (wd_mem 9 rfl mS) rfl rfl (wd_ct (Bs := [[(h, .inr (5, [.ref aS, .ref aE, .ref gm, .ref qr, .ref gw, .ref ql, .ref qf, .ref qd]))], [(gm, .inl (cG, 12, .inr (.inr (.inr (.inr (go rm))))))], [(qr, .inl (cI, 12, .inl (cN ra)))], [(gw, .inl (cG, 12, .inr (.inr (.inr (.inr (go rw))))))], [(ql, .inl (cI, 12, .inl (lI L)))], [(qf, .inl (cI, 12, .inl (cN Hh)))], [(qd, .inl (cZ, 12, .inl (dB Nn)))], gd cI 12 rm mk, gd cI 12 rw M, wS, wE]) 11 rfl [9, 3, 8] [0, 1, 2, 4, 5, 6, 7, 10] (by decide) rfl) hK hP hD hS hA rfl hl.1 rfl (Nat.le_of_ble_eq_true rfl) ⟨(show 0 + 0 ≤ 0 by omega), (show 0 + 0 ≤ 0 by omega)⟩ d_Routes_spareNeighbour_9 (fun u1 H locs hu1 hP hD hS => ?_)
  subst hu1
  refine W.widen (k := 0) (n := 0) (Nat.le_refl _) (Nat.le_refl _) ?_
  have hP := wd_nP (N := [wS, [(gw, .inl (cG, 12, .inr (.inr (.inr (.inr (go rw))))))], gd cI 12 rw (gN (vw0 T1.2.2 hd r))]) rfl 11 rfl [3, 4, 5, 1, 6, 7, 8, 9, 2, 0, 10] (by decide) hP
  have hD := wd_nD (N := [wS, [(gw, .inl (cG, 12, .inr (.inr (.inr (.inr (go rw))))))], gd cI 12 rw (gN (vw0 T1.2.2 hd r))]) rfl 11 rfl [3, 4, 5, 1, 6, 7, 8, 9, 2, 0, 10] (by decide) hD
  have hP : va_P D kls (List.flatten [[(h, .inr (5, [.ref aS, .ref aE, .ref gm, .ref qr, .ref gw, .ref ql, .ref qf, .ref qd]))], [(gm, .inl (cG, 12, .inr (.inr (.inr (.inr (go rm))))))], [(qr, .inl (cI, 12, .inl (cN ra)))], [(gw, .inl (cG, 12, .inr (.inr (.inr (.inr (go rw))))))], [(ql, .inl (cI, 12, .inl (lI L)))], [(qf, .inl (cI, 12, .inl (cN Hh)))], [(qd, .inl (cZ, 12, .inl (dB Nn)))], gd cI 12 rm mk, gd cI 12 rw (gN (vw0 T1.2.2 hd r)), wS, wE]) H := hP
  have hD : va_D A (List.flatten [[(h, .inr (5, [.ref aS, .ref aE, .ref gm, .ref qr, .ref gw, .ref ql, .ref qf, .ref qd]))], [(gm, .inl (cG, 12, .inr (.inr (.inr (.inr (go rm))))))], [(qr, .inl (cI, 12, .inl (cN ra)))], [(gw, .inl (cG, 12, .inr (.inr (.inr (.inr (go rw))))))], [(ql, .inl (cI, 12, .inl (lI L)))], [(qf, .inl (cI, 12, .inl (cN Hh)))], [(qd, .inl (cZ, 12, .inl (dB Nn)))], gd cI 12 rm mk, gd cI 12 rw (gN (vw0 T1.2.2 hd r)), wS, wE]) := hD
  refine W.eq (g2 := F0 m 12 ls []) rfl ?_
  refine lv_aload_n hx hb d_Routes_spareNeighbour_12 rfl (lv_at hl 0 rfl) ?_
  refine lv_iload_n hx hb d_Routes_spareNeighbour_13 rfl (lv_at hl 1 rfl) ?_
  refine ct_callVV (C := R_Routes) (ci := 5) (As := [.int (nI r)]) (rest := []) ⟨hx, hb, hml, hown, ht⟩ (c_Routes_reckonWaysFrom l D cI cZ cJ cG h aS aE gm qr gw ql qf qd rw (vw0 T1.2.2 hd r) L Hh Nn r hr9 hw0 hwb) (cb_V ht kc_Routes_reckonWaysFrom kl_Routes_61 kn_Routes ki_Routes_reckonWaysFrom ks_Routes_reckonWaysFrom hd_Routes_reckonWaysFrom ⟨Nat.le_of_ble_eq_true rfl, Nat.le_of_ble_eq_true rfl⟩) (List.mem_of_getElem? (i := 0) rfl) rfl rfl (wd_ct (Bs := [[(h, .inr (5, [.ref aS, .ref aE, .ref gm, .ref qr, .ref gw, .ref ql, .ref qf, .ref qd]))], [(gm, .inl (cG, 12, .inr (.inr (.inr (.inr (go rm))))))], [(qr, .inl (cI, 12, .inl (cN ra)))], [(gw, .inl (cG, 12, .inr (.inr (.inr (.inr (go rw))))))], [(ql, .inl (cI, 12, .inl (lI L)))], [(qf, .inl (cI, 12, .inl (cN Hh)))], [(qd, .inl (cZ, 12, .inl (dB Nn)))], gd cI 12 rm mk, gd cI 12 rw (gN (vw0 T1.2.2 hd r)), wS, wE]) 11 rfl [0, 3, 4, 5, 6, 8] [1, 2, 7, 9, 10] (by decide) rfl) hK hP hD hS hA rfl hl.1 rfl (Nat.le_of_ble_eq_true rfl) ⟨(show 0 + 0 ≤ 0 by omega), (show 0 + 0 ≤ 0 by omega)⟩ d_Routes_spareNeighbour_14 (fun u2 H locs hu2 hP hD hS => ?_)
  obtain ⟨L2, H2, N2, rfl, eL2, eH2, bH2, bL2⟩ := hu2
  refine W.widen (k := 0) (n := 0) (Nat.le_refl _) (Nat.le_refl _) ?_
  have hP := wd_nP (N := [[(h, .inr (5, [.ref aS, .ref aE, .ref gm, .ref qr, .ref gw, .ref ql, .ref qf, .ref qd]))], [(gw, .inl (cG, 12, .inr (.inr (.inr (.inr (go rw))))))], [(ql, .inl (cI, 12, .inl (lI L2)))], [(qf, .inl (cI, 12, .inl (cN H2)))], [(qd, .inl (cZ, 12, .inl (dB N2)))], gd cI 12 rw (gN (vw0 T1.2.2 hd r))]) rfl 11 rfl [0, 6, 7, 1, 2, 3, 4, 8, 5, 9, 10] (by decide) hP
  have hD := wd_nD (N := [[(h, .inr (5, [.ref aS, .ref aE, .ref gm, .ref qr, .ref gw, .ref ql, .ref qf, .ref qd]))], [(gw, .inl (cG, 12, .inr (.inr (.inr (.inr (go rw))))))], [(ql, .inl (cI, 12, .inl (lI L2)))], [(qf, .inl (cI, 12, .inl (cN H2)))], [(qd, .inl (cZ, 12, .inl (dB N2)))], gd cI 12 rw (gN (vw0 T1.2.2 hd r))]) rfl 11 rfl [0, 6, 7, 1, 2, 3, 4, 8, 5, 9, 10] (by decide) hD
  have hP : va_P D kls (List.flatten [[(h, .inr (5, [.ref aS, .ref aE, .ref gm, .ref qr, .ref gw, .ref ql, .ref qf, .ref qd]))], [(gm, .inl (cG, 12, .inr (.inr (.inr (.inr (go rm))))))], [(qr, .inl (cI, 12, .inl (cN ra)))], [(gw, .inl (cG, 12, .inr (.inr (.inr (.inr (go rw))))))], [(ql, .inl (cI, 12, .inl (lI L2)))], [(qf, .inl (cI, 12, .inl (cN H2)))], [(qd, .inl (cZ, 12, .inl (dB N2)))], gd cI 12 rm mk, gd cI 12 rw (gN (vw0 T1.2.2 hd r)), wS, wE]) H := hP
  have hD : va_D A (List.flatten [[(h, .inr (5, [.ref aS, .ref aE, .ref gm, .ref qr, .ref gw, .ref ql, .ref qf, .ref qd]))], [(gm, .inl (cG, 12, .inr (.inr (.inr (.inr (go rm))))))], [(qr, .inl (cI, 12, .inl (cN ra)))], [(gw, .inl (cG, 12, .inr (.inr (.inr (.inr (go rw))))))], [(ql, .inl (cI, 12, .inl (lI L2)))], [(qf, .inl (cI, 12, .inl (cN H2)))], [(qd, .inl (cZ, 12, .inl (dB N2)))], gd cI 12 rm mk, gd cI 12 rw (gN (vw0 T1.2.2 hd r)), wS, wE]) := hD
  refine W.eq (g2 := F0 m 17 ls []) rfl ?_
  refine lv_iload_n hx hb d_Routes_spareNeighbour_17 rfl (lv_at hl 2 rfl) ?_
  refine lv_iload_n hx hb d_Routes_spareNeighbour_18 rfl (lv_at hl 1 rfl) ?_
  refine ri_icmp_eq hx hb (by omega) (by omega) d_Routes_spareNeighbour_19 (tgt := 32) (by decide) (fun hdr => ?_) (fun hdr => ?_)
  · refine lv_iconst (v := (-1)) hx hb d_Routes_spareNeighbour_32 (by decide) ?_
    exact ct_iret hQ hx hb hr hlk hP hD hS hK (by omega) (by omega) d_Routes_spareNeighbour_33 (⟨by rw [bm_alt_none (by first | exact Or.inl hdr.symm | exact Or.inr (bn_len_none ((eL2 d hd9).symm.trans hLd)))]; rfl, ro_w cI cZ cG h aS aE gm qr gw ql qf qd rm rw mk ra (gN (vw0 T1.2.2 hd r)) L2 H2 N2, by rw [fl_exp]; rfl, gm, qr, gw, ql, qf, qd, rm, rw, _, L2, H2, N2, rfl⟩)
  · rcases hLd : L2 d with _ | x
    · refine lv_aload_n hx hb d_Routes_spareNeighbour_22 rfl (lv_at hl 0 rfl) ?_
      refine va_get (D := D) (ci := 5) (v := .ref ql) (C := R_Routes) (T := T_Routes) (N := 8) hx hb ht in_Routes hown hK hP 0 rfl rfl 5 (by decide) (ht _ kl_Routes_23) (fun _ h9 => h9) rfl d_Routes_spareNeighbour_23 ?_
      refine lv_iload_n hx hb d_Routes_spareNeighbour_26 rfl (lv_at hl 2 rfl) ?_
      refine ri_iald hx hb hK hP 4 0 rfl rfl (j := d) (by omega) (by omega) d_Routes_spareNeighbour_27 ?_
      refine W.eq (g2 := F0 m 28 ls [.int (bm_oI (L2 d))]) rfl ?_
      refine W.eq (g2 := F0 m 28 ls [.int ((-1))]) (congrArg (fun z => F0 m 28 ls (.int z :: [])) (show bm_oI (L2 d) = -1 by rw [hLd]; rfl)) ?_
      refine lv_iconst (v := (-1)) hx hb d_Routes_spareNeighbour_28 (by decide) ?_
      refine lv_icmp_ne hx hb d_Routes_spareNeighbour_29 (tgt := 34) (by decide) (fun h6 => ?_) (fun h6 => ?_)
      · exact absurd h6 (fun z => z rfl)
      · refine lv_iconst (v := (-1)) hx hb d_Routes_spareNeighbour_32 (by decide) ?_
        exact ct_iret hQ hx hb hr hlk hP hD hS hK (by omega) (by omega) d_Routes_spareNeighbour_33 (⟨by rw [bm_alt_none (by first | exact Or.inl hdr.symm | exact Or.inr (bn_len_none ((eL2 d hd9).symm.trans hLd)))]; rfl, ro_w cI cZ cG h aS aE gm qr gw ql qf qd rm rw mk ra (gN (vw0 T1.2.2 hd r)) L2 H2 N2, by rw [fl_exp]; rfl, gm, qr, gw, ql, qf, qd, rm, rw, _, L2, H2, N2, rfl⟩)
    · have hbx := bL2 d x hd9 hLd
      have hfx := bn_len_some ((eL2 d hd9).symm.trans hLd)
      have hnh := eH2 d x hd9 hdr hLd
      refine lv_aload_n hx hb d_Routes_spareNeighbour_22 rfl (lv_at hl 0 rfl) ?_
      refine va_get (D := D) (ci := 5) (v := .ref ql) (C := R_Routes) (T := T_Routes) (N := 8) hx hb ht in_Routes hown hK hP 0 rfl rfl 5 (by decide) (ht _ kl_Routes_23) (fun _ h9 => h9) rfl d_Routes_spareNeighbour_23 ?_
      refine lv_iload_n hx hb d_Routes_spareNeighbour_26 rfl (lv_at hl 2 rfl) ?_
      refine ri_iald hx hb hK hP 4 0 rfl rfl (j := d) (by omega) (by omega) d_Routes_spareNeighbour_27 ?_
      refine W.eq (g2 := F0 m 28 ls [.int (bm_oI (L2 d))]) rfl ?_
      refine W.eq (g2 := F0 m 28 ls [.int (nI x)]) (congrArg (fun z => F0 m 28 ls (.int z :: [])) (show bm_oI (L2 d) = nI x by rw [hLd]; rfl)) ?_
      refine lv_iconst (v := (-1)) hx hb d_Routes_spareNeighbour_28 (by decide) ?_
      refine lv_icmp_ne hx hb d_Routes_spareNeighbour_29 (tgt := 34) (by decide) (fun h6 => ?_) (fun h6 => ?_)
      · refine lv_aload_n hx hb d_Routes_spareNeighbour_34 rfl (lv_at hl 0 rfl) ?_
        refine va_get (D := D) (ci := 5) (v := .ref ql) (C := R_Routes) (T := T_Routes) (N := 8) hx hb ht in_Routes hown hK hP 0 rfl rfl 5 (by decide) (ht _ kl_Routes_23) (fun _ h9 => h9) rfl d_Routes_spareNeighbour_35 ?_
        refine lv_iload_n hx hb d_Routes_spareNeighbour_38 rfl (lv_at hl 2 rfl) ?_
        refine ri_iald hx hb hK hP 4 0 rfl rfl (j := d) (by omega) (by omega) d_Routes_spareNeighbour_39 ?_
        refine W.eq (g2 := F0 m 40 ls [.int (bm_oI (L2 d))]) rfl ?_
        refine W.eq (g2 := F0 m 40 ls [.int (nI x)]) (congrArg (fun z => F0 m 40 ls (.int z :: [])) (show bm_oI (L2 d) = nI x by rw [hLd]; rfl)) ?_
        refine lv_istore_n hx hb d_Routes_spareNeighbour_40 rfl hl (by decide) rfl (fun ls hl => ?_)
        have hl : lv_has ls 6 [(3, .int (nI x)), (0, .ref h), (1, .int (nI r)), (2, .int (nI d))] := hl
        refine lv_aload_n hx hb d_Routes_spareNeighbour_41 rfl (lv_at hl 1 rfl) ?_
        refine va_get (D := D) (ci := 5) (v := .ref qf) (C := R_Routes) (T := T_Routes) (N := 8) hx hb ht in_Routes hown hK hP 0 rfl rfl 6 (by decide) (ht _ kl_Routes_26) (fun _ h9 => h9) rfl d_Routes_spareNeighbour_42 ?_
        refine lv_iload_n hx hb d_Routes_spareNeighbour_45 rfl (lv_at hl 3 rfl) ?_
        refine ri_iald hx hb hK hP 5 0 rfl rfl (j := d) (by omega) (by omega) d_Routes_spareNeighbour_46 ?_
        refine W.eq (g2 := F0 m 47 ls [.int (nI (H2 d))]) rfl ?_
        refine lv_istore hx hb d_Routes_spareNeighbour_47 hl (by decide) rfl (fun ls hl => ?_)
        have hl : lv_has ls 6 [(4, .int (nI (H2 d))), (3, .int (nI x)), (0, .ref h), (1, .int (nI r)), (2, .int (nI d))] := hl
        refine lv_iconst (v := nI 0) hx hb d_Routes_spareNeighbour_49 (by decide) ?_
        refine lv_istore hx hb d_Routes_spareNeighbour_50 hl (by decide) rfl (fun ls hl => ?_)
        have hl : lv_has ls 6 [(5, .int (nI 0)), (4, .int (nI (H2 d))), (3, .int (nI x)), (0, .ref h), (1, .int (nI r)), (2, .int (nI d))] := hl
        have loop : ∀ (k j : Nat) (L3 : Nat → Option Nat) (H3 : Nat → Nat) (N3 : Nat → Bool) (H : Heap) (locs : List Loc) (ls : Array Slot), j + k = 12 → (∀ a, a < j → ¬ ((vw0 T1.2.2 hd r) r a ≠ 0 ∧ a ≠ H2 d ∧ bn_far (vw0 T1.2.2 hd r) a d < bn_far (vw0 T1.2.2 hd r) a r + bn_far (vw0 T1.2.2 hd r) r d)) → va_P D kls (List.flatten [[(h, .inr (5, [.ref aS, .ref aE, .ref gm, .ref qr, .ref gw, .ref ql, .ref qf, .ref qd]))], [(gm, .inl (cG, 12, .inr (.inr (.inr (.inr (go rm))))))], [(qr, .inl (cI, 12, .inl (cN ra)))], [(gw, .inl (cG, 12, .inr (.inr (.inr (.inr (go rw))))))], [(ql, .inl (cI, 12, .inl (lI L3)))], [(qf, .inl (cI, 12, .inl (cN H3)))], [(qd, .inl (cZ, 12, .inl (dB N3)))], gd cI 12 rm mk, gd cI 12 rw (gN (vw0 T1.2.2 hd r)), wS, wE]) H → va_D A (List.flatten [[(h, .inr (5, [.ref aS, .ref aE, .ref gm, .ref qr, .ref gw, .ref ql, .ref qf, .ref qd]))], [(gm, .inl (cG, 12, .inr (.inr (.inr (.inr (go rm))))))], [(qr, .inl (cI, 12, .inl (cN ra)))], [(gw, .inl (cG, 12, .inr (.inr (.inr (.inr (go rw))))))], [(ql, .inl (cI, 12, .inl (lI L3)))], [(qf, .inl (cI, 12, .inl (cN H3)))], [(qd, .inl (cZ, 12, .inl (dB N3)))], gd cI 12 rm mk, gd cI 12 rw (gN (vw0 T1.2.2 hd r)), wS, wE]) → va_S A s.heap H locs → lv_has ls 6 [(5, .int (nI j)), (4, .int (nI (H2 d))), (3, .int (nI x)), (0, .ref h), (1, .int (nI r)), (2, .int (nI d))] → W p l e (rm_ 3 71 0 0) s m args below meth c H locs 0 0 Q (F0 m 52 ls []) := by
          intro k
          induction k with
          | zero =>
            intro j L3 H3 N3 H locs ls hk hs hP hD hS hl
            refine lv_iload hx hb d_Routes_spareNeighbour_52 (lv_at hl 0 rfl) ?_
            refine lv_bipush (v := nI 12) hx hb d_Routes_spareNeighbour_54 (by decide) ?_
            refine ri_icmp_ge hx hb (by omega) (by omega) d_Routes_spareNeighbour_56 (tgt := 110) (by decide) (fun hc9 => ?_) (fun hc9 => ?_)
            · refine lv_iconst (v := (-1)) hx hb d_Routes_spareNeighbour_110 (by decide) ?_
              exact ct_iret hQ hx hb hr hlk hP hD hS hK (by omega) (by omega) d_Routes_spareNeighbour_111 (⟨by rw [bm_alt_at (fun z => hdr z.symm) hnh, bn_fst_none 12 (fun a ha => decide_eq_false (hs a (by omega)))]; rfl, ro_w cI cZ cG h aS aE gm qr gw ql qf qd rm rw mk ra (gN (vw0 T1.2.2 hd r)) L3 H3 N3, by rw [fl_exp]; rfl, gm, qr, gw, ql, qf, qd, rm, rw, _, L3, H3, N3, rfl⟩)
            · exact absurd hc9 (by omega)
          | succ k ih =>
            intro j L3 H3 N3 H locs ls hk hs hP hD hS hl
            refine lv_iload hx hb d_Routes_spareNeighbour_52 (lv_at hl 0 rfl) ?_
            refine lv_bipush (v := nI 12) hx hb d_Routes_spareNeighbour_54 (by decide) ?_
            refine ri_icmp_ge hx hb (by omega) (by omega) d_Routes_spareNeighbour_56 (tgt := 110) (by decide) (fun hc9 => ?_) (fun hc9 => ?_)
            · exact absurd hc9 (by omega)
            · refine lv_iload hx hb d_Routes_spareNeighbour_59 (lv_at hl 0 rfl) ?_
              refine lv_iload hx hb d_Routes_spareNeighbour_61 (lv_at hl 1 rfl) ?_
              refine ri_icmp_eq hx hb (by omega) (by have := bH2 d hd9; omega) d_Routes_spareNeighbour_63 (tgt := 104) (by decide) (fun h7 => ?_) (fun h7 => ?_)
              · refine ri_iinc hx hb d_Routes_spareNeighbour_104 hl (k := 0) rfl (by decide) rfl (fun ls hl => ?_)
                have hl : lv_has ls 6 [(5, .int (nI (j + 1))), (4, .int (nI (H2 d))), (3, .int (nI x)), (0, .ref h), (1, .int (nI r)), (2, .int (nI d))] := hl
                refine lv_goto hx hb d_Routes_spareNeighbour_107 (tgt := 52) (by decide) ?_
                refine ih (j + 1) L3 H3 N3 H locs ls (by omega) (lt_s hs (fun z => ?_)) hP hD hS hl
                first | exact z.2.1 h7 | exact z.1 h8 | (have := z.2.2; omega)
              · refine lv_aload_n hx hb d_Routes_spareNeighbour_66 rfl (lv_at hl 3 rfl) ?_
                refine va_get (D := D) (ci := 5) (v := .ref gw) (C := R_Routes) (T := T_Routes) (N := 8) hx hb ht in_Routes hown hK hP 0 rfl rfl 4 (by decide) (ht _ kl_Routes_20) (fun _ h9 => h9) rfl d_Routes_spareNeighbour_67 ?_
                refine lv_iload_n hx hb d_Routes_spareNeighbour_70 rfl (lv_at hl 4 rfl) ?_
                refine ri_aald hx hb hK hP 3 3 rfl rfl (j := r) (by omega) (by omega) (go_at (by omega)) d_Routes_spareNeighbour_71 ?_
                refine lv_iload hx hb d_Routes_spareNeighbour_72 (lv_at hl 0 rfl) ?_
                refine ri_gld hx hb hK hP 8 0 rfl rfl (i := r) (j := j) hr9 (by omega) (by decide) d_Routes_spareNeighbour_74 ?_
                refine W.eq (g2 := F0 m 75 ls [.int (nI ((vw0 T1.2.2 hd r) r j))]) rfl ?_
                refine ri_if_eq hx hb (by have := hwb r j; omega) d_Routes_spareNeighbour_75 (tgt := 104) (by decide) (fun h8 => ?_) (fun h8 => ?_)
                · refine ri_iinc hx hb d_Routes_spareNeighbour_104 hl (k := 0) rfl (by decide) rfl (fun ls hl => ?_)
                  have hl : lv_has ls 6 [(5, .int (nI (j + 1))), (4, .int (nI (H2 d))), (3, .int (nI x)), (0, .ref h), (1, .int (nI r)), (2, .int (nI d))] := hl
                  refine lv_goto hx hb d_Routes_spareNeighbour_107 (tgt := 52) (by decide) ?_
                  refine ih (j + 1) L3 H3 N3 H locs ls (by omega) (lt_s hs (fun z => ?_)) hP hD hS hl
                  first | exact z.2.1 h7 | exact z.1 h8 | (have := z.2.2; omega)
                · refine lv_aload_n hx hb d_Routes_spareNeighbour_78 rfl (lv_at hl 3 rfl) ?_
                  refine lv_iload hx hb d_Routes_spareNeighbour_79 (lv_at hl 0 rfl) ?_
                  refine ct_callVV (C := R_Routes) (ci := 5) (As := [.int (nI j)]) (rest := []) ⟨hx, hb, hml, hown, ht⟩ (c_Routes_reckonWaysFrom l D cI cZ cJ cG h aS aE gm qr gw ql qf qd rw (vw0 T1.2.2 hd r) L3 H3 N3 j (by omega) hw0 hwb) (cb_V ht kc_Routes_reckonWaysFrom kl_Routes_61 kn_Routes ki_Routes_reckonWaysFrom ks_Routes_reckonWaysFrom hd_Routes_reckonWaysFrom ⟨Nat.le_of_ble_eq_true rfl, Nat.le_of_ble_eq_true rfl⟩) (List.mem_of_getElem? (i := 0) rfl) rfl rfl (wd_ct (Bs := [[(h, .inr (5, [.ref aS, .ref aE, .ref gm, .ref qr, .ref gw, .ref ql, .ref qf, .ref qd]))], [(gm, .inl (cG, 12, .inr (.inr (.inr (.inr (go rm))))))], [(qr, .inl (cI, 12, .inl (cN ra)))], [(gw, .inl (cG, 12, .inr (.inr (.inr (.inr (go rw))))))], [(ql, .inl (cI, 12, .inl (lI L3)))], [(qf, .inl (cI, 12, .inl (cN H3)))], [(qd, .inl (cZ, 12, .inl (dB N3)))], gd cI 12 rm mk, gd cI 12 rw (gN (vw0 T1.2.2 hd r)), wS, wE]) 11 rfl [0, 3, 4, 5, 6, 8] [1, 2, 7, 9, 10] (by decide) rfl) hK hP hD hS hA rfl hl.1 rfl (Nat.le_of_ble_eq_true rfl) ⟨(show 0 + 0 ≤ 0 by omega), (show 0 + 0 ≤ 0 by omega)⟩ d_Routes_spareNeighbour_81 (fun u10 H locs hu10 hP hD hS => ?_)
                  obtain ⟨L4, H4, N4, rfl, eL4, eH4, bH4, bL4⟩ := hu10
                  refine W.widen (k := 0) (n := 0) (Nat.le_refl _) (Nat.le_refl _) ?_
                  have hP := wd_nP (N := [[(h, .inr (5, [.ref aS, .ref aE, .ref gm, .ref qr, .ref gw, .ref ql, .ref qf, .ref qd]))], [(gw, .inl (cG, 12, .inr (.inr (.inr (.inr (go rw))))))], [(ql, .inl (cI, 12, .inl (lI L4)))], [(qf, .inl (cI, 12, .inl (cN H4)))], [(qd, .inl (cZ, 12, .inl (dB N4)))], gd cI 12 rw (gN (vw0 T1.2.2 hd r))]) rfl 11 rfl [0, 6, 7, 1, 2, 3, 4, 8, 5, 9, 10] (by decide) hP
                  have hD := wd_nD (N := [[(h, .inr (5, [.ref aS, .ref aE, .ref gm, .ref qr, .ref gw, .ref ql, .ref qf, .ref qd]))], [(gw, .inl (cG, 12, .inr (.inr (.inr (.inr (go rw))))))], [(ql, .inl (cI, 12, .inl (lI L4)))], [(qf, .inl (cI, 12, .inl (cN H4)))], [(qd, .inl (cZ, 12, .inl (dB N4)))], gd cI 12 rw (gN (vw0 T1.2.2 hd r))]) rfl 11 rfl [0, 6, 7, 1, 2, 3, 4, 8, 5, 9, 10] (by decide) hD
                  have hP : va_P D kls (List.flatten [[(h, .inr (5, [.ref aS, .ref aE, .ref gm, .ref qr, .ref gw, .ref ql, .ref qf, .ref qd]))], [(gm, .inl (cG, 12, .inr (.inr (.inr (.inr (go rm))))))], [(qr, .inl (cI, 12, .inl (cN ra)))], [(gw, .inl (cG, 12, .inr (.inr (.inr (.inr (go rw))))))], [(ql, .inl (cI, 12, .inl (lI L4)))], [(qf, .inl (cI, 12, .inl (cN H4)))], [(qd, .inl (cZ, 12, .inl (dB N4)))], gd cI 12 rm mk, gd cI 12 rw (gN (vw0 T1.2.2 hd r)), wS, wE]) H := hP
                  have hD : va_D A (List.flatten [[(h, .inr (5, [.ref aS, .ref aE, .ref gm, .ref qr, .ref gw, .ref ql, .ref qf, .ref qd]))], [(gm, .inl (cG, 12, .inr (.inr (.inr (.inr (go rm))))))], [(qr, .inl (cI, 12, .inl (cN ra)))], [(gw, .inl (cG, 12, .inr (.inr (.inr (.inr (go rw))))))], [(ql, .inl (cI, 12, .inl (lI L4)))], [(qf, .inl (cI, 12, .inl (cN H4)))], [(qd, .inl (cZ, 12, .inl (dB N4)))], gd cI 12 rm mk, gd cI 12 rw (gN (vw0 T1.2.2 hd r)), wS, wE]) := hD
                  refine W.eq (g2 := F0 m 84 ls []) rfl ?_
                  refine lv_aload_n hx hb d_Routes_spareNeighbour_84 rfl (lv_at hl 3 rfl) ?_
                  refine va_get (D := D) (ci := 5) (v := .ref ql) (C := R_Routes) (T := T_Routes) (N := 8) hx hb ht in_Routes hown hK hP 0 rfl rfl 5 (by decide) (ht _ kl_Routes_23) (fun _ h9 => h9) rfl d_Routes_spareNeighbour_85 ?_
                  refine lv_iload_n hx hb d_Routes_spareNeighbour_88 rfl (lv_at hl 5 rfl) ?_
                  refine ri_iald hx hb hK hP 4 0 rfl rfl (j := d) (by omega) (by omega) d_Routes_spareNeighbour_89 ?_
                  refine W.eq (g2 := F0 m 90 ls [.int (bm_oI (L4 d))]) rfl ?_
                  obtain ⟨g1, g2⟩ := bn_reach (d := d) hw0 hwb hsy hr9 (show j < 12 by omega) h8
                  have g3 : L4 d = some (bn_far (vw0 T1.2.2 hd r) j d) := (eL4 d hd9).trans (bn_len_at (by omega))
                  have g4 : L4 r = some (bn_far (vw0 T1.2.2 hd r) j r) := (eL4 r hr9).trans (bn_len_at (by omega))
                  refine W.eq (g2 := F0 m 90 ls [.int (nI (bn_far (vw0 T1.2.2 hd r) j d))]) (congrArg (fun z => F0 m 90 ls (.int z :: [])) (show bm_oI (L4 d) = nI (bn_far (vw0 T1.2.2 hd r) j d) by rw [g3]; rfl)) ?_
                  refine lv_aload_n hx hb d_Routes_spareNeighbour_90 rfl (lv_at hl 3 rfl) ?_
                  refine va_get (D := D) (ci := 5) (v := .ref ql) (C := R_Routes) (T := T_Routes) (N := 8) hx hb ht in_Routes hown hK hP 0 rfl rfl 5 (by decide) (ht _ kl_Routes_23) (fun _ h9 => h9) rfl d_Routes_spareNeighbour_91 ?_
                  refine lv_iload_n hx hb d_Routes_spareNeighbour_94 rfl (lv_at hl 4 rfl) ?_
                  refine ri_iald hx hb hK hP 4 0 rfl rfl (j := r) (by omega) (by omega) d_Routes_spareNeighbour_95 ?_
                  refine W.eq (g2 := F0 m 96 ls [.int (bm_oI (L4 r)), .int (nI (bn_far (vw0 T1.2.2 hd r) j d))]) rfl ?_
                  refine W.eq (g2 := F0 m 96 ls [.int (nI (bn_far (vw0 T1.2.2 hd r) j r)), .int (nI (bn_far (vw0 T1.2.2 hd r) j d))]) (congrArg (fun z => F0 m 96 ls (.int z :: [.int (nI (bn_far (vw0 T1.2.2 hd r) j d))])) (show bm_oI (L4 r) = nI (bn_far (vw0 T1.2.2 hd r) j r) by rw [g4]; rfl)) ?_
                  refine lv_iload_n hx hb d_Routes_spareNeighbour_96 rfl (lv_at hl 2 rfl) ?_
                  refine ri_iadd hx hb d_Routes_spareNeighbour_97 ?_
                  refine ri_icmp_ge hx hb (by omega) (by omega) d_Routes_spareNeighbour_98 (tgt := 104) (by decide) (fun h9 => ?_) (fun h9 => ?_)
                  · refine ri_iinc hx hb d_Routes_spareNeighbour_104 hl (k := 0) rfl (by decide) rfl (fun ls hl => ?_)
                    have hl : lv_has ls 6 [(5, .int (nI (j + 1))), (4, .int (nI (H2 d))), (3, .int (nI x)), (0, .ref h), (1, .int (nI r)), (2, .int (nI d))] := hl
                    refine lv_goto hx hb d_Routes_spareNeighbour_107 (tgt := 52) (by decide) ?_
                    refine ih (j + 1) L4 H4 N4 H locs ls (by omega) (lt_s hs (fun z => ?_)) hP hD hS hl
                    first | exact z.2.1 h7 | exact z.1 h8 | (have := z.2.2; omega)
                  · refine lv_iload hx hb d_Routes_spareNeighbour_101 (lv_at hl 0 rfl) ?_
                    exact ct_iret hQ hx hb hr hlk hP hD hS hK (by omega) (by omega) d_Routes_spareNeighbour_103 (⟨by rw [bm_alt_at (fun z => hdr z.symm) hnh, bn_fst_some (m := j) (fun a ha => decide_eq_false (hs a ha)) (decide_eq_true ⟨h8, h7, by omega⟩) 12 (by omega)]; rfl, ro_w cI cZ cG h aS aE gm qr gw ql qf qd rm rw mk ra (gN (vw0 T1.2.2 hd r)) L4 H4 N4, by rw [fl_exp]; rfl, gm, qr, gw, ql, qf, qd, rm, rw, _, L4, H4, N4, rfl⟩)
        exact loop 12 0 L2 H2 N2 H locs ls (by omega) (fun a ha => absurd ha (by omega)) hP hD hS hl
      · exact absurd h6 (nI_m1 (by omega))
