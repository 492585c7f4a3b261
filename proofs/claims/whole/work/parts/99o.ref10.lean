/-! The reference: join, carry. -/
set_option maxHeartbeats 1600000 in
set_option maxRecDepth 100000 in
theorem k_Ref_join (l : Launch) (D : va_G) (cI cZ cJ cG : ClassId) {h : Nat} {cd : Int32} {S : bm_S} {ws : va_W} (hR : rf_R cI cZ cJ h cd S ws) (hi : rf_i S) (g : Nat) (hg : g < 8) (e9 b : Nat) (he : e9 < 12) (hee : S.eb e9 = some b) (nx : Nat) (dl : Int32) (hdl : dl = 1 ∨ dl = -1) (hsum : nI (S.G.2.2.1 e9 g) + dl = nI nx) (hnx : nx ≤ 100) (hroom : bm_jroom S e9 g nx) : ct_I l D kls (ty4 cI cZ cJ cG) y_Ref_join ws_Ref_join (rm_ 3 66 0 0) [.ref h, .int (nI e9), .int (nI g), .int dl] (ws) (fun z u => z = nI nx ∧ rf_R cI cZ cJ h (nI 0) (bm_joi e9 g nx S) u) 0 0 := by
  obtain ⟨qs, ma, ca, na, wt, fR, fN, fL, fH, uf, fM, fC, fT, fD, fX, MK, MF, rfl, hwt, hAd, hM, hC, hN, hPd⟩ := hR
  obtain ⟨hsi, heb, h00, hA9, hm9, hcp9, hnt9, hpk9, hgi⟩ := hi
  have hok := hsi.1
  have hkn9 := hsi.2.1
  have hlk9 := hsi.2.2.1
  have hma := hM.1
  refine ct_enterI (cc := b_Ref_join) (maxL := 8) (ret := (some .int)) (by decide +kernel) (Nat.le_of_ble_eq_true rfl) ?_
  intro p e s m args below meth c hx hb hml hr ht hown hlk hnm A Q hA hK hP hD hQ ls hl
  have hown : s.vm.findClass R_Ref = some m.cls := hown
  have hS : va_S A s.heap s.heap [] := va_S.rf
  have hl : lv_has ls 8 [(0, .ref h), (1, .int (nI e9)), (2, .int (nI g)), (3, .int dl)] := hl
  have hrt := hsi.2.2.2.2.1
  refine lv_aload_n hx hb d_Ref_join_0 rfl (lv_at hl 0 rfl) ?_
  refine lv_iload_n hx hb d_Ref_join_1 rfl (lv_at hl 1 rfl) ?_
  refine ct_rdV (C := R_Ref) (ci := 9) (As := [.int (nI e9)]) (rest := []) ⟨hx, hb, hml, hown, ht⟩ (k_Ref_isEdge l D cI cZ cJ cG heb (nI e9)) (cb_V ht kc_Ref_isEdge kl_Ref_148 kn_Ref ki_Ref_isEdge ks_Ref_isEdge hd_Ref_isEdge ⟨Nat.le_of_ble_eq_true rfl, Nat.le_of_ble_eq_true rfl⟩) (List.mem_of_getElem? (i := 0) rfl) rfl rfl (wd_ct (Bs := [[rf_o h qs cd ma S.T.2.2.1.2.1 ca S.D.2.1.2.1 na S.G.2.2.2.1.2.1 S.D.1.2.1 S.D.2.2.1 S.D.2.2.2.1 S.D.2.2.2.2 S.lost], [(qs 0, .inl (cI, 12, .inl (lI S.eb)))], [(qs 1, .inl (cI, 144, .inl (fl (gN S.lk))))], [(qs 2, .inl (cI, 144, .inl (fl (gN wt))))], [(qs 3, .inl (cZ, 144, .inl (fl (kB S.kn))))], [(qs 4, .inl (cI, 1600, .inl fR))], [(qs 5, .inl (cI, 1600, .inl fN))], [(qs 6, .inl (cJ, 1600, .inr (.inl fL)))], [(qs 7, .inl (cJ, 1600, .inr (.inl fH)))], [(qs 8, .inl (cZ, 1600, .inl (dB uf)))], [(qs 9, .inl (cI, 144, .inl (fl (sI S.T.2.1))))], [(qs 10, .inl (cI, 4000, .inl fM))], [(qs 11, .inl (cJ, 4000, .inr (.inl fC)))], [(qs 12, .inl (cI, 4000, .inl fT))], [(qs 13, .inl (cI, 8, .inl (lI S.G.1)))], [(qs 14, .inl (cI, 8, .inl S.G.2.1))], [(qs 15, .inl (cI, 96, .inl (fl (gN (rT S.G.2.2.1)))))], [(qs 16, .inl (cI, 901, .inl fD))], [(qs 17, .inl (cI, 901, .inl fX))], [(qs 18, .inl (cI, 144, .inl (fl MK)))], [(qs 19, .inl (cI, 144, .inl (fl MF)))]]) 21 rfl [0, 1] [2, 3, 4, 5, 6, 7, 8, 9, 10, 11, 12, 13, 14, 15, 16, 17, 18, 19, 20] (by decide) rfl) hK hP hD hS hA rfl hl.1 rfl (Nat.le_of_ble_eq_true rfl) ⟨(show 0 + 0 ≤ 0 by omega), (show 0 + 0 ≤ 0 by omega)⟩ d_Ref_join_2 (fun rhr101 H locs hr101 hP hD hS => ?_)
  subst hr101
  refine W.eq (g2 := F0 m 5 ls [.int (bI true)]) (congrArg (fun z => F0 m 5 ls (.int z :: [])) (congrArg bI (rf_isE_s he hee))) ?_
  refine ri_ifeqB hx hb d_Ref_join_5 (tgt := 29) (by decide) (fun h102 => ?_) (fun h102 => ?_)
  · exact absurd h102 (fun z => by cases z)
  · refine lv_iload_n hx hb d_Ref_join_8 rfl (lv_at hl 2 rfl) ?_
    refine ct_rdS (As := [.int (nI g)]) (rest := []) ⟨hx, hb, hml, hown, ht⟩ (k_Ref_isGroup l D cI cZ cJ cG (nI g)) (cb_S ht kc_Ref_isGroup kl_Ref_145 kn_Ref ki_Ref_isGroup hd_Ref_isGroup ⟨Nat.le_of_ble_eq_true rfl, Nat.le_of_ble_eq_true rfl⟩) (wd_ct (Bs := [[rf_o h qs cd ma S.T.2.2.1.2.1 ca S.D.2.1.2.1 na S.G.2.2.2.1.2.1 S.D.1.2.1 S.D.2.2.1 S.D.2.2.2.1 S.D.2.2.2.2 S.lost], [(qs 0, .inl (cI, 12, .inl (lI S.eb)))], [(qs 1, .inl (cI, 144, .inl (fl (gN S.lk))))], [(qs 2, .inl (cI, 144, .inl (fl (gN wt))))], [(qs 3, .inl (cZ, 144, .inl (fl (kB S.kn))))], [(qs 4, .inl (cI, 1600, .inl fR))], [(qs 5, .inl (cI, 1600, .inl fN))], [(qs 6, .inl (cJ, 1600, .inr (.inl fL)))], [(qs 7, .inl (cJ, 1600, .inr (.inl fH)))], [(qs 8, .inl (cZ, 1600, .inl (dB uf)))], [(qs 9, .inl (cI, 144, .inl (fl (sI S.T.2.1))))], [(qs 10, .inl (cI, 4000, .inl fM))], [(qs 11, .inl (cJ, 4000, .inr (.inl fC)))], [(qs 12, .inl (cI, 4000, .inl fT))], [(qs 13, .inl (cI, 8, .inl (lI S.G.1)))], [(qs 14, .inl (cI, 8, .inl S.G.2.1))], [(qs 15, .inl (cI, 96, .inl (fl (gN (rT S.G.2.2.1)))))], [(qs 16, .inl (cI, 901, .inl fD))], [(qs 17, .inl (cI, 901, .inl fX))], [(qs 18, .inl (cI, 144, .inl (fl MK)))], [(qs 19, .inl (cI, 144, .inl (fl MF)))]]) 21 rfl [] [0, 1, 2, 3, 4, 5, 6, 7, 8, 9, 10, 11, 12, 13, 14, 15, 16, 17, 18, 19, 20] (by decide) rfl) hK hP hD hS hA rfl hl.1 rfl (Nat.le_of_ble_eq_true rfl) ⟨(show 0 + 0 ≤ 0 by omega), (show 0 + 0 ≤ 0 by omega)⟩ d_Ref_join_9 (fun rhr103 H locs hr103 hP hD hS => ?_)
    subst hr103
    refine W.eq (g2 := F0 m 12 ls [.int (bI true)]) (congrArg (fun z => F0 m 12 ls (.int z :: [])) (congrArg bI (rg_t8 hg))) ?_
    refine ri_ifeqB hx hb d_Ref_join_12 (tgt := 29) (by decide) (fun h104 => ?_) (fun h104 => ?_)
    · exact absurd h104 (fun z => by cases z)
    · refine lv_iload_n hx hb d_Ref_join_15 rfl (lv_at hl 3 rfl) ?_
      refine lv_iconst (v := nI 1) hx hb d_Ref_join_16 (by decide) ?_
      refine lv_icmp_eq hx hb d_Ref_join_17 (tgt := 25) (by decide) (fun h17 => ?_) (fun h17 => ?_)
      · refine lv_iconst (v := nI 1) hx hb d_Ref_join_25 (by decide) ?_
        refine lv_goto hx hb d_Ref_join_26 (tgt := 30) (by decide) ?_
        refine lv_istore hx hb d_Ref_join_30 hl (by decide) rfl (fun ls hl => ?_)
        have hl : lv_has ls 8 [(4, .int (nI 1)), (0, .ref h), (1, .int (nI e9)), (2, .int (nI g)), (3, .int dl)] := hl
        refine lv_iload hx hb d_Ref_join_32 (lv_at hl 0 rfl) ?_
        refine ri_if_eq hx hb (by omega) d_Ref_join_34 (tgt := 51) (by decide) (fun h106 => ?_) (fun h106 => ?_)
        · exact absurd h106 (by decide)
        · refine lv_aload_n hx hb d_Ref_join_37 rfl (lv_at hl 1 rfl) ?_
          refine va_get (D := D) (ci := 9) (v := .ref (qs 15)) (C := R_Ref) (T := T_Ref) (N := 32) hx hb ht in_Ref hown hK hP 0 rfl rfl 22 (by decide) (ht _ kl_Ref_57) (fun _ h9 => h9) rfl d_Ref_join_38 ?_
          refine lv_bipush (v := nI 12) hx hb d_Ref_join_41 (by decide) ?_
          refine lv_iload_n hx hb d_Ref_join_43 rfl (lv_at hl 3 rfl) ?_
          refine ri_imul hx hb d_Ref_join_44 ?_
          refine lv_iload_n hx hb d_Ref_join_45 rfl (lv_at hl 2 rfl) ?_
          refine ri_iadd hx hb d_Ref_join_46 ?_
          refine ri_iald hx hb hK hP 16 0 rfl rfl (j := (12 * g) + e9) (by omega) (by omega) d_Ref_join_47 ?_
          refine W.eq (g2 := F0 m 48 ls [.int (nI ((rT S.G.2.2.1) g e9))]) (congrArg (fun z => F0 m 48 ls (.int z :: [])) (fl_at (a := g) (b := e9) (by omega))) ?_
          refine W.eq (g2 := F0 m 48 ls [.int (nI (S.G.2.2.1 e9 g))]) (congrArg (fun z => F0 m 48 ls (.int z :: [])) (rfl)) ?_
          refine lv_goto hx hb d_Ref_join_48 (tgt := 52) (by decide) ?_
          refine lv_istore hx hb d_Ref_join_52 hl (by decide) rfl (fun ls hl => ?_)
          have hl : lv_has ls 8 [(5, .int (nI (S.G.2.2.1 e9 g))), (4, .int (nI 1)), (0, .ref h), (1, .int (nI e9)), (2, .int (nI g)), (3, .int dl)] := hl
          refine lv_iload hx hb d_Ref_join_54 (lv_at hl 0 rfl) ?_
          refine lv_iload_n hx hb d_Ref_join_56 rfl (lv_at hl 5 rfl) ?_
          refine lv_iadd hx hb d_Ref_join_57 ?_
          refine W.eq (g2 := F0 m 58 ls [.int (nI nx)]) (congrArg (fun z => F0 m 58 ls (.int z :: [])) (hsum)) ?_
          refine lv_istore hx hb d_Ref_join_58 hl (by decide) rfl (fun ls hl => ?_)
          have hl : lv_has ls 8 [(6, .int (nI nx)), (5, .int (nI (S.G.2.2.1 e9 g))), (4, .int (nI 1)), (0, .ref h), (1, .int (nI e9)), (2, .int (nI g)), (3, .int dl)] := hl
          refine lv_iload hx hb d_Ref_join_60 (lv_at hl 2 rfl) ?_
          refine ri_if_eq hx hb (by omega) d_Ref_join_62 (tgt := 82) (by decide) (fun h107 => ?_) (fun h107 => ?_)
          · exact absurd h107 (by decide)
          · refine lv_iload hx hb d_Ref_join_65 (lv_at hl 0 rfl) ?_
            refine lv_i2l (v := lN nx) hx hb d_Ref_join_67 (nI_l (by omega)) ?_
            refine lv_lconst (v := lN 0) hx hb d_Ref_join_68 rfl ?_
            refine lv_ldc2 (v := lN 100) hx hb hown (ht _ kl_Ref_157) d_Ref_join_69 ?_
            refine ct_rdS (As := [.long (lN nx), .long (lN 0), .long (lN 100)]) (rest := []) ⟨hx, hb, hml, hown, ht⟩ (k_Ref_in l D cI cZ cJ cG (lN nx) (lN 0) (lN 100)) (cb_S ht kc_Ref_in kl_Ref_78 kn_Ref ki_Ref_in hd_Ref_in ⟨Nat.le_of_ble_eq_true rfl, Nat.le_of_ble_eq_true rfl⟩) (wd_ct (Bs := [[rf_o h qs cd ma S.T.2.2.1.2.1 ca S.D.2.1.2.1 na S.G.2.2.2.1.2.1 S.D.1.2.1 S.D.2.2.1 S.D.2.2.2.1 S.D.2.2.2.2 S.lost], [(qs 0, .inl (cI, 12, .inl (lI S.eb)))], [(qs 1, .inl (cI, 144, .inl (fl (gN S.lk))))], [(qs 2, .inl (cI, 144, .inl (fl (gN wt))))], [(qs 3, .inl (cZ, 144, .inl (fl (kB S.kn))))], [(qs 4, .inl (cI, 1600, .inl fR))], [(qs 5, .inl (cI, 1600, .inl fN))], [(qs 6, .inl (cJ, 1600, .inr (.inl fL)))], [(qs 7, .inl (cJ, 1600, .inr (.inl fH)))], [(qs 8, .inl (cZ, 1600, .inl (dB uf)))], [(qs 9, .inl (cI, 144, .inl (fl (sI S.T.2.1))))], [(qs 10, .inl (cI, 4000, .inl fM))], [(qs 11, .inl (cJ, 4000, .inr (.inl fC)))], [(qs 12, .inl (cI, 4000, .inl fT))], [(qs 13, .inl (cI, 8, .inl (lI S.G.1)))], [(qs 14, .inl (cI, 8, .inl S.G.2.1))], [(qs 15, .inl (cI, 96, .inl (fl (gN (rT S.G.2.2.1)))))], [(qs 16, .inl (cI, 901, .inl fD))], [(qs 17, .inl (cI, 901, .inl fX))], [(qs 18, .inl (cI, 144, .inl (fl MK)))], [(qs 19, .inl (cI, 144, .inl (fl MF)))]]) 21 rfl [] [0, 1, 2, 3, 4, 5, 6, 7, 8, 9, 10, 11, 12, 13, 14, 15, 16, 17, 18, 19, 20] (by decide) rfl) hK hP hD hS hA rfl hl.1 rfl (Nat.le_of_ble_eq_true rfl) ⟨(show 0 + 0 ≤ 0 by omega), (show 0 + 0 ≤ 0 by omega)⟩ d_Ref_join_72 (fun rhr108 H locs hr108 hP hD hS => ?_)
            subst hr108
            refine W.eq (g2 := F0 m 75 ls [.int (bI true)]) (congrArg (fun z => F0 m 75 ls (.int z :: [])) (congrArg bI (decide_eq_true ⟨(lN_le (by decide) (show nx < 2 ^ 31 by omega)).mpr (Nat.zero_le _), (lN_le (show nx < 2 ^ 31 by omega) (by decide)).mpr hnx⟩))) ?_
            refine ri_ifeqB hx hb d_Ref_join_75 (tgt := 82) (by decide) (fun h109 => ?_) (fun h109 => ?_)
            · exact absurd h109 (fun z => by cases z)
            · refine lv_iconst (v := nI 1) hx hb d_Ref_join_78 (by decide) ?_
              refine lv_goto hx hb d_Ref_join_79 (tgt := 83) (by decide) ?_
              refine lv_istore hx hb d_Ref_join_83 hl (by decide) rfl (fun ls hl => ?_)
              have hl : lv_has ls 8 [(4, .int (nI 1)), (6, .int (nI nx)), (5, .int (nI (S.G.2.2.1 e9 g))), (0, .ref h), (1, .int (nI e9)), (2, .int (nI g)), (3, .int dl)] := hl
              refine lv_aload_n hx hb d_Ref_join_85 rfl (lv_at hl 3 rfl) ?_
              refine lv_iload hx hb d_Ref_join_86 (lv_at hl 0 rfl) ?_
              refine ri_if_eq hx hb (by omega) d_Ref_join_88 (tgt := 95) (by decide) (fun h110 => ?_) (fun h110 => ?_)
              · exact absurd h110 (by decide)
              · refine lv_iconst (v := nI 0) hx hb d_Ref_join_91 (by decide) ?_
                refine lv_goto hx hb d_Ref_join_92 (tgt := 96) (by decide) ?_
                refine va_put (D := D) (ci := 9) (v := .int (nI 0)) (ty := .int) (C := R_Ref) (T := T_Ref) (N := 32) hx hb ht in_Ref t_Ref ok_Ref nm_Ref hown hK hP hD hS 0 rfl rfl 0 (by decide) (ht _ kl_Ref_72) (fun _ h9 => h9) rfl (by decide +kernel) rfl rfl (Nat.le_of_ble_eq_true rfl) d_Ref_join_96 (fun H locs hP hD hS => ?_)
                have hP : va_P D kls (List.flatten [[rf_o h qs (nI 0) ma S.T.2.2.1.2.1 ca S.D.2.1.2.1 na S.G.2.2.2.1.2.1 S.D.1.2.1 S.D.2.2.1 S.D.2.2.2.1 S.D.2.2.2.2 S.lost], [(qs 0, .inl (cI, 12, .inl (lI S.eb)))], [(qs 1, .inl (cI, 144, .inl (fl (gN S.lk))))], [(qs 2, .inl (cI, 144, .inl (fl (gN wt))))], [(qs 3, .inl (cZ, 144, .inl (fl (kB S.kn))))], [(qs 4, .inl (cI, 1600, .inl fR))], [(qs 5, .inl (cI, 1600, .inl fN))], [(qs 6, .inl (cJ, 1600, .inr (.inl fL)))], [(qs 7, .inl (cJ, 1600, .inr (.inl fH)))], [(qs 8, .inl (cZ, 1600, .inl (dB uf)))], [(qs 9, .inl (cI, 144, .inl (fl (sI S.T.2.1))))], [(qs 10, .inl (cI, 4000, .inl fM))], [(qs 11, .inl (cJ, 4000, .inr (.inl fC)))], [(qs 12, .inl (cI, 4000, .inl fT))], [(qs 13, .inl (cI, 8, .inl (lI S.G.1)))], [(qs 14, .inl (cI, 8, .inl S.G.2.1))], [(qs 15, .inl (cI, 96, .inl (fl (gN (rT S.G.2.2.1)))))], [(qs 16, .inl (cI, 901, .inl fD))], [(qs 17, .inl (cI, 901, .inl fX))], [(qs 18, .inl (cI, 144, .inl (fl MK)))], [(qs 19, .inl (cI, 144, .inl (fl MF)))]]) H := hP
                have hD : va_D A (List.flatten [[rf_o h qs (nI 0) ma S.T.2.2.1.2.1 ca S.D.2.1.2.1 na S.G.2.2.2.1.2.1 S.D.1.2.1 S.D.2.2.1 S.D.2.2.2.1 S.D.2.2.2.2 S.lost], [(qs 0, .inl (cI, 12, .inl (lI S.eb)))], [(qs 1, .inl (cI, 144, .inl (fl (gN S.lk))))], [(qs 2, .inl (cI, 144, .inl (fl (gN wt))))], [(qs 3, .inl (cZ, 144, .inl (fl (kB S.kn))))], [(qs 4, .inl (cI, 1600, .inl fR))], [(qs 5, .inl (cI, 1600, .inl fN))], [(qs 6, .inl (cJ, 1600, .inr (.inl fL)))], [(qs 7, .inl (cJ, 1600, .inr (.inl fH)))], [(qs 8, .inl (cZ, 1600, .inl (dB uf)))], [(qs 9, .inl (cI, 144, .inl (fl (sI S.T.2.1))))], [(qs 10, .inl (cI, 4000, .inl fM))], [(qs 11, .inl (cJ, 4000, .inr (.inl fC)))], [(qs 12, .inl (cI, 4000, .inl fT))], [(qs 13, .inl (cI, 8, .inl (lI S.G.1)))], [(qs 14, .inl (cI, 8, .inl S.G.2.1))], [(qs 15, .inl (cI, 96, .inl (fl (gN (rT S.G.2.2.1)))))], [(qs 16, .inl (cI, 901, .inl fD))], [(qs 17, .inl (cI, 901, .inl fX))], [(qs 18, .inl (cI, 144, .inl (fl MK)))], [(qs 19, .inl (cI, 144, .inl (fl MF)))]]) := hD
                refine lv_iload hx hb d_Ref_join_99 (lv_at hl 0 rfl) ?_
                refine ri_if_ne hx hb (by omega) d_Ref_join_101 (tgt := 106) (by decide) (fun h111 => ?_) (fun h111 => ?_)
                · have hrcj := hgi.1 e9 g
                  refine lv_aload_n hx hb d_Ref_join_106 rfl (lv_at hl 3 rfl) ?_
                  refine va_get (D := D) (ci := 9) (v := .ref (qs 13)) (C := R_Ref) (T := T_Ref) (N := 32) hx hb ht in_Ref hown hK hP 0 rfl rfl 20 (by decide) (ht _ kl_Ref_51) (fun _ h9 => h9) rfl d_Ref_join_107 ?_
                  refine lv_iload_n hx hb d_Ref_join_110 rfl (lv_at hl 5 rfl) ?_
                  refine ri_iald hx hb hK hP 14 0 rfl rfl (j := g) (by omega) (by omega) d_Ref_join_111 ?_
                  refine W.eq (g2 := F0 m 112 ls [.int (bm_oI (S.G.1 g))]) rfl ?_
                  refine lv_if_lt hx hb d_Ref_join_112 (tgt := 142) (by decide) (fun h112 => ?_) (fun h112 => ?_)
                  · refine lv_iconst (v := nI 0) hx hb d_Ref_join_142 (by decide) ?_
                    refine lv_istore hx hb d_Ref_join_143 hl (by decide) rfl (fun ls hl => ?_)
                    have hl : lv_has ls 8 [(7, .int (nI 0)), (4, .int (nI 1)), (6, .int (nI nx)), (5, .int (nI (S.G.2.2.1 e9 g))), (0, .ref h), (1, .int (nI e9)), (2, .int (nI g)), (3, .int dl)] := hl
                    refine lv_iload hx hb d_Ref_join_145 (lv_at hl 0 rfl) ?_
                    refine ri_if_eq hx hb (by omega) d_Ref_join_147 (tgt := 166) (by decide) (fun h113 => ?_) (fun h113 => ?_)
                    · refine lv_aload_n hx hb d_Ref_join_166 rfl (lv_at hl 4 rfl) ?_
                      refine va_get (D := D) (ci := 9) (v := .ref (qs 15)) (C := R_Ref) (T := T_Ref) (N := 32) hx hb ht in_Ref hown hK hP 0 rfl rfl 22 (by decide) (ht _ kl_Ref_57) (fun _ h9 => h9) rfl d_Ref_join_167 ?_
                      refine lv_bipush (v := nI 12) hx hb d_Ref_join_170 (by decide) ?_
                      refine lv_iload_n hx hb d_Ref_join_172 rfl (lv_at hl 6 rfl) ?_
                      refine ri_imul hx hb d_Ref_join_173 ?_
                      refine lv_iload_n hx hb d_Ref_join_174 rfl (lv_at hl 5 rfl) ?_
                      refine ri_iadd hx hb d_Ref_join_175 ?_
                      refine lv_iload hx hb d_Ref_join_176 (lv_at hl 2 rfl) ?_
                      refine ri_iast hx hb hK hP hD hS 16 0 rfl rfl (j := (12 * g) + e9) (by omega) (by omega) d_Ref_join_178 (fun H locs hP hD hS => ?_)
                      rw [fl_up (a := g) (b := e9) (show e9 < 12 by omega)] at hP hD
                      rw [gN_up] at hP hD
                      have hP : va_P D kls (List.flatten [[rf_o h qs (nI 0) ma S.T.2.2.1.2.1 ca S.D.2.1.2.1 na S.G.2.2.2.1.2.1 S.D.1.2.1 S.D.2.2.1 S.D.2.2.2.1 S.D.2.2.2.2 S.lost], [(qs 0, .inl (cI, 12, .inl (lI S.eb)))], [(qs 1, .inl (cI, 144, .inl (fl (gN S.lk))))], [(qs 2, .inl (cI, 144, .inl (fl (gN wt))))], [(qs 3, .inl (cZ, 144, .inl (fl (kB S.kn))))], [(qs 4, .inl (cI, 1600, .inl fR))], [(qs 5, .inl (cI, 1600, .inl fN))], [(qs 6, .inl (cJ, 1600, .inr (.inl fL)))], [(qs 7, .inl (cJ, 1600, .inr (.inl fH)))], [(qs 8, .inl (cZ, 1600, .inl (dB uf)))], [(qs 9, .inl (cI, 144, .inl (fl (sI S.T.2.1))))], [(qs 10, .inl (cI, 4000, .inl fM))], [(qs 11, .inl (cJ, 4000, .inr (.inl fC)))], [(qs 12, .inl (cI, 4000, .inl fT))], [(qs 13, .inl (cI, 8, .inl (lI S.G.1)))], [(qs 14, .inl (cI, 8, .inl S.G.2.1))], [(qs 15, .inl (cI, 96, .inl (fl (gN (bm_up2 (rT S.G.2.2.1) g e9 nx)))))], [(qs 16, .inl (cI, 901, .inl fD))], [(qs 17, .inl (cI, 901, .inl fX))], [(qs 18, .inl (cI, 144, .inl (fl MK)))], [(qs 19, .inl (cI, 144, .inl (fl MF)))]]) H := hP
                      have hD : va_D A (List.flatten [[rf_o h qs (nI 0) ma S.T.2.2.1.2.1 ca S.D.2.1.2.1 na S.G.2.2.2.1.2.1 S.D.1.2.1 S.D.2.2.1 S.D.2.2.2.1 S.D.2.2.2.2 S.lost], [(qs 0, .inl (cI, 12, .inl (lI S.eb)))], [(qs 1, .inl (cI, 144, .inl (fl (gN S.lk))))], [(qs 2, .inl (cI, 144, .inl (fl (gN wt))))], [(qs 3, .inl (cZ, 144, .inl (fl (kB S.kn))))], [(qs 4, .inl (cI, 1600, .inl fR))], [(qs 5, .inl (cI, 1600, .inl fN))], [(qs 6, .inl (cJ, 1600, .inr (.inl fL)))], [(qs 7, .inl (cJ, 1600, .inr (.inl fH)))], [(qs 8, .inl (cZ, 1600, .inl (dB uf)))], [(qs 9, .inl (cI, 144, .inl (fl (sI S.T.2.1))))], [(qs 10, .inl (cI, 4000, .inl fM))], [(qs 11, .inl (cJ, 4000, .inr (.inl fC)))], [(qs 12, .inl (cI, 4000, .inl fT))], [(qs 13, .inl (cI, 8, .inl (lI S.G.1)))], [(qs 14, .inl (cI, 8, .inl S.G.2.1))], [(qs 15, .inl (cI, 96, .inl (fl (gN (bm_up2 (rT S.G.2.2.1) g e9 nx)))))], [(qs 16, .inl (cI, 901, .inl fD))], [(qs 17, .inl (cI, 901, .inl fX))], [(qs 18, .inl (cI, 144, .inl (fl MK)))], [(qs 19, .inl (cI, 144, .inl (fl MF)))]]) := hD
                      rw [rT_up] at hP hD
                      have hP : va_P D kls (List.flatten [[rf_o h qs (nI 0) ma S.T.2.2.1.2.1 ca S.D.2.1.2.1 na S.G.2.2.2.1.2.1 S.D.1.2.1 S.D.2.2.1 S.D.2.2.2.1 S.D.2.2.2.2 S.lost], [(qs 0, .inl (cI, 12, .inl (lI S.eb)))], [(qs 1, .inl (cI, 144, .inl (fl (gN S.lk))))], [(qs 2, .inl (cI, 144, .inl (fl (gN wt))))], [(qs 3, .inl (cZ, 144, .inl (fl (kB S.kn))))], [(qs 4, .inl (cI, 1600, .inl fR))], [(qs 5, .inl (cI, 1600, .inl fN))], [(qs 6, .inl (cJ, 1600, .inr (.inl fL)))], [(qs 7, .inl (cJ, 1600, .inr (.inl fH)))], [(qs 8, .inl (cZ, 1600, .inl (dB uf)))], [(qs 9, .inl (cI, 144, .inl (fl (sI S.T.2.1))))], [(qs 10, .inl (cI, 4000, .inl fM))], [(qs 11, .inl (cJ, 4000, .inr (.inl fC)))], [(qs 12, .inl (cI, 4000, .inl fT))], [(qs 13, .inl (cI, 8, .inl (lI S.G.1)))], [(qs 14, .inl (cI, 8, .inl S.G.2.1))], [(qs 15, .inl (cI, 96, .inl (fl (gN (rT (bm_up2 S.G.2.2.1 e9 g nx))))))], [(qs 16, .inl (cI, 901, .inl fD))], [(qs 17, .inl (cI, 901, .inl fX))], [(qs 18, .inl (cI, 144, .inl (fl MK)))], [(qs 19, .inl (cI, 144, .inl (fl MF)))]]) H := hP
                      have hD : va_D A (List.flatten [[rf_o h qs (nI 0) ma S.T.2.2.1.2.1 ca S.D.2.1.2.1 na S.G.2.2.2.1.2.1 S.D.1.2.1 S.D.2.2.1 S.D.2.2.2.1 S.D.2.2.2.2 S.lost], [(qs 0, .inl (cI, 12, .inl (lI S.eb)))], [(qs 1, .inl (cI, 144, .inl (fl (gN S.lk))))], [(qs 2, .inl (cI, 144, .inl (fl (gN wt))))], [(qs 3, .inl (cZ, 144, .inl (fl (kB S.kn))))], [(qs 4, .inl (cI, 1600, .inl fR))], [(qs 5, .inl (cI, 1600, .inl fN))], [(qs 6, .inl (cJ, 1600, .inr (.inl fL)))], [(qs 7, .inl (cJ, 1600, .inr (.inl fH)))], [(qs 8, .inl (cZ, 1600, .inl (dB uf)))], [(qs 9, .inl (cI, 144, .inl (fl (sI S.T.2.1))))], [(qs 10, .inl (cI, 4000, .inl fM))], [(qs 11, .inl (cJ, 4000, .inr (.inl fC)))], [(qs 12, .inl (cI, 4000, .inl fT))], [(qs 13, .inl (cI, 8, .inl (lI S.G.1)))], [(qs 14, .inl (cI, 8, .inl S.G.2.1))], [(qs 15, .inl (cI, 96, .inl (fl (gN (rT (bm_up2 S.G.2.2.1 e9 g nx))))))], [(qs 16, .inl (cI, 901, .inl fD))], [(qs 17, .inl (cI, 901, .inl fX))], [(qs 18, .inl (cI, 144, .inl (fl MK)))], [(qs 19, .inl (cI, 144, .inl (fl MF)))]]) := hD
                      refine lv_iload hx hb d_Ref_join_179 (lv_at hl 0 rfl) ?_
                      refine ri_if_eq hx hb (by omega) d_Ref_join_181 (tgt := 190) (by decide) (fun h114 => ?_) (fun h114 => ?_)
                      · refine lv_iload hx hb d_Ref_join_190 (lv_at hl 2 rfl) ?_
                        have hnn : ¬ bm_news S.G.1 S.G.2.2.1 e9 g nx := fun z => by first | exact z.1 ((oI_lt (fun b z => Nat.lt_trans (hgi.2.2.1 _ b z) (by decide))).mp h112) | exact z.2 (by omega)
                        have hrec : bm_rec S.eb e9 g nx S.G = (bm_count e9 g nx S.G) := if_neg (by rw [bP_f hnn]; decide)
                        exact ct_iret hQ hx hb hr hlk hP hD hS hK (by omega) (by omega) d_Ref_join_192 ⟨rfl, ⟨qs, ma, ca, na, wt, fR, fN, fL, fH, uf, fM, fC, fT, fD, fX, MK, MF, (by unfold bm_joi; rw [hrec]; first | done | rfl), hwt, hAd, hM, hC, (by show nr_R _ _ (bm_rec S.eb e9 g nx S.G).2.2.2.1; rw [hrec]; exact hN), hPd⟩⟩
                      · exact absurd h114 (by decide)
                    · exact absurd h113 (by decide)
                  · refine lv_iload hx hb d_Ref_join_115 (lv_at hl 2 rfl) ?_
                    refine ri_if_le hx hb (by omega) d_Ref_join_117 (tgt := 124) (by decide) (fun h117 => ?_) (fun h117 => ?_)
                    · refine lv_iconst (v := nI 0) hx hb d_Ref_join_124 (by decide) ?_
                      refine lv_iload hx hb d_Ref_join_125 (lv_at hl 1 rfl) ?_
                      refine ri_if_le hx hb (by omega) d_Ref_join_127 (tgt := 134) (by decide) (fun h127 => ?_) (fun h127 => ?_)
                      · refine lv_iconst (v := nI 0) hx hb d_Ref_join_134 (by decide) ?_
                        refine ri_icmp_eq hx hb (by omega) (by omega) d_Ref_join_135 (tgt := 142) (by decide) (fun h117 => ?_) (fun h117 => ?_)
                        · refine lv_iconst (v := nI 0) hx hb d_Ref_join_142 (by decide) ?_
                          refine lv_istore hx hb d_Ref_join_143 hl (by decide) rfl (fun ls hl => ?_)
                          have hl : lv_has ls 8 [(7, .int (nI 0)), (4, .int (nI 1)), (6, .int (nI nx)), (5, .int (nI (S.G.2.2.1 e9 g))), (0, .ref h), (1, .int (nI e9)), (2, .int (nI g)), (3, .int dl)] := hl
                          refine lv_iload hx hb d_Ref_join_145 (lv_at hl 0 rfl) ?_
                          refine ri_if_eq hx hb (by omega) d_Ref_join_147 (tgt := 166) (by decide) (fun h118 => ?_) (fun h118 => ?_)
                          · refine lv_aload_n hx hb d_Ref_join_166 rfl (lv_at hl 4 rfl) ?_
                            refine va_get (D := D) (ci := 9) (v := .ref (qs 15)) (C := R_Ref) (T := T_Ref) (N := 32) hx hb ht in_Ref hown hK hP 0 rfl rfl 22 (by decide) (ht _ kl_Ref_57) (fun _ h9 => h9) rfl d_Ref_join_167 ?_
                            refine lv_bipush (v := nI 12) hx hb d_Ref_join_170 (by decide) ?_
                            refine lv_iload_n hx hb d_Ref_join_172 rfl (lv_at hl 6 rfl) ?_
                            refine ri_imul hx hb d_Ref_join_173 ?_
                            refine lv_iload_n hx hb d_Ref_join_174 rfl (lv_at hl 5 rfl) ?_
                            refine ri_iadd hx hb d_Ref_join_175 ?_
                            refine lv_iload hx hb d_Ref_join_176 (lv_at hl 2 rfl) ?_
                            refine ri_iast hx hb hK hP hD hS 16 0 rfl rfl (j := (12 * g) + e9) (by omega) (by omega) d_Ref_join_178 (fun H locs hP hD hS => ?_)
                            rw [fl_up (a := g) (b := e9) (show e9 < 12 by omega)] at hP hD
                            rw [gN_up] at hP hD
                            have hP : va_P D kls (List.flatten [[rf_o h qs (nI 0) ma S.T.2.2.1.2.1 ca S.D.2.1.2.1 na S.G.2.2.2.1.2.1 S.D.1.2.1 S.D.2.2.1 S.D.2.2.2.1 S.D.2.2.2.2 S.lost], [(qs 0, .inl (cI, 12, .inl (lI S.eb)))], [(qs 1, .inl (cI, 144, .inl (fl (gN S.lk))))], [(qs 2, .inl (cI, 144, .inl (fl (gN wt))))], [(qs 3, .inl (cZ, 144, .inl (fl (kB S.kn))))], [(qs 4, .inl (cI, 1600, .inl fR))], [(qs 5, .inl (cI, 1600, .inl fN))], [(qs 6, .inl (cJ, 1600, .inr (.inl fL)))], [(qs 7, .inl (cJ, 1600, .inr (.inl fH)))], [(qs 8, .inl (cZ, 1600, .inl (dB uf)))], [(qs 9, .inl (cI, 144, .inl (fl (sI S.T.2.1))))], [(qs 10, .inl (cI, 4000, .inl fM))], [(qs 11, .inl (cJ, 4000, .inr (.inl fC)))], [(qs 12, .inl (cI, 4000, .inl fT))], [(qs 13, .inl (cI, 8, .inl (lI S.G.1)))], [(qs 14, .inl (cI, 8, .inl S.G.2.1))], [(qs 15, .inl (cI, 96, .inl (fl (gN (bm_up2 (rT S.G.2.2.1) g e9 nx)))))], [(qs 16, .inl (cI, 901, .inl fD))], [(qs 17, .inl (cI, 901, .inl fX))], [(qs 18, .inl (cI, 144, .inl (fl MK)))], [(qs 19, .inl (cI, 144, .inl (fl MF)))]]) H := hP
                            have hD : va_D A (List.flatten [[rf_o h qs (nI 0) ma S.T.2.2.1.2.1 ca S.D.2.1.2.1 na S.G.2.2.2.1.2.1 S.D.1.2.1 S.D.2.2.1 S.D.2.2.2.1 S.D.2.2.2.2 S.lost], [(qs 0, .inl (cI, 12, .inl (lI S.eb)))], [(qs 1, .inl (cI, 144, .inl (fl (gN S.lk))))], [(qs 2, .inl (cI, 144, .inl (fl (gN wt))))], [(qs 3, .inl (cZ, 144, .inl (fl (kB S.kn))))], [(qs 4, .inl (cI, 1600, .inl fR))], [(qs 5, .inl (cI, 1600, .inl fN))], [(qs 6, .inl (cJ, 1600, .inr (.inl fL)))], [(qs 7, .inl (cJ, 1600, .inr (.inl fH)))], [(qs 8, .inl (cZ, 1600, .inl (dB uf)))], [(qs 9, .inl (cI, 144, .inl (fl (sI S.T.2.1))))], [(qs 10, .inl (cI, 4000, .inl fM))], [(qs 11, .inl (cJ, 4000, .inr (.inl fC)))], [(qs 12, .inl (cI, 4000, .inl fT))], [(qs 13, .inl (cI, 8, .inl (lI S.G.1)))], [(qs 14, .inl (cI, 8, .inl S.G.2.1))], [(qs 15, .inl (cI, 96, .inl (fl (gN (bm_up2 (rT S.G.2.2.1) g e9 nx)))))], [(qs 16, .inl (cI, 901, .inl fD))], [(qs 17, .inl (cI, 901, .inl fX))], [(qs 18, .inl (cI, 144, .inl (fl MK)))], [(qs 19, .inl (cI, 144, .inl (fl MF)))]]) := hD
                            rw [rT_up] at hP hD
                            have hP : va_P D kls (List.flatten [[rf_o h qs (nI 0) ma S.T.2.2.1.2.1 ca S.D.2.1.2.1 na S.G.2.2.2.1.2.1 S.D.1.2.1 S.D.2.2.1 S.D.2.2.2.1 S.D.2.2.2.2 S.lost], [(qs 0, .inl (cI, 12, .inl (lI S.eb)))], [(qs 1, .inl (cI, 144, .inl (fl (gN S.lk))))], [(qs 2, .inl (cI, 144, .inl (fl (gN wt))))], [(qs 3, .inl (cZ, 144, .inl (fl (kB S.kn))))], [(qs 4, .inl (cI, 1600, .inl fR))], [(qs 5, .inl (cI, 1600, .inl fN))], [(qs 6, .inl (cJ, 1600, .inr (.inl fL)))], [(qs 7, .inl (cJ, 1600, .inr (.inl fH)))], [(qs 8, .inl (cZ, 1600, .inl (dB uf)))], [(qs 9, .inl (cI, 144, .inl (fl (sI S.T.2.1))))], [(qs 10, .inl (cI, 4000, .inl fM))], [(qs 11, .inl (cJ, 4000, .inr (.inl fC)))], [(qs 12, .inl (cI, 4000, .inl fT))], [(qs 13, .inl (cI, 8, .inl (lI S.G.1)))], [(qs 14, .inl (cI, 8, .inl S.G.2.1))], [(qs 15, .inl (cI, 96, .inl (fl (gN (rT (bm_up2 S.G.2.2.1 e9 g nx))))))], [(qs 16, .inl (cI, 901, .inl fD))], [(qs 17, .inl (cI, 901, .inl fX))], [(qs 18, .inl (cI, 144, .inl (fl MK)))], [(qs 19, .inl (cI, 144, .inl (fl MF)))]]) H := hP
                            have hD : va_D A (List.flatten [[rf_o h qs (nI 0) ma S.T.2.2.1.2.1 ca S.D.2.1.2.1 na S.G.2.2.2.1.2.1 S.D.1.2.1 S.D.2.2.1 S.D.2.2.2.1 S.D.2.2.2.2 S.lost], [(qs 0, .inl (cI, 12, .inl (lI S.eb)))], [(qs 1, .inl (cI, 144, .inl (fl (gN S.lk))))], [(qs 2, .inl (cI, 144, .inl (fl (gN wt))))], [(qs 3, .inl (cZ, 144, .inl (fl (kB S.kn))))], [(qs 4, .inl (cI, 1600, .inl fR))], [(qs 5, .inl (cI, 1600, .inl fN))], [(qs 6, .inl (cJ, 1600, .inr (.inl fL)))], [(qs 7, .inl (cJ, 1600, .inr (.inl fH)))], [(qs 8, .inl (cZ, 1600, .inl (dB uf)))], [(qs 9, .inl (cI, 144, .inl (fl (sI S.T.2.1))))], [(qs 10, .inl (cI, 4000, .inl fM))], [(qs 11, .inl (cJ, 4000, .inr (.inl fC)))], [(qs 12, .inl (cI, 4000, .inl fT))], [(qs 13, .inl (cI, 8, .inl (lI S.G.1)))], [(qs 14, .inl (cI, 8, .inl S.G.2.1))], [(qs 15, .inl (cI, 96, .inl (fl (gN (rT (bm_up2 S.G.2.2.1 e9 g nx))))))], [(qs 16, .inl (cI, 901, .inl fD))], [(qs 17, .inl (cI, 901, .inl fX))], [(qs 18, .inl (cI, 144, .inl (fl MK)))], [(qs 19, .inl (cI, 144, .inl (fl MF)))]]) := hD
                            refine lv_iload hx hb d_Ref_join_179 (lv_at hl 0 rfl) ?_
                            refine ri_if_eq hx hb (by omega) d_Ref_join_181 (tgt := 190) (by decide) (fun h119 => ?_) (fun h119 => ?_)
                            · refine lv_iload hx hb d_Ref_join_190 (lv_at hl 2 rfl) ?_
                              have hnn : ¬ bm_news S.G.1 S.G.2.2.1 e9 g nx := fun z => by first | exact z.1 ((oI_lt (fun b z => Nat.lt_trans (hgi.2.2.1 _ b z) (by decide))).mp h112) | exact z.2 (by omega)
                              have hrec : bm_rec S.eb e9 g nx S.G = (bm_count e9 g nx S.G) := if_neg (by rw [bP_f hnn]; decide)
                              exact ct_iret hQ hx hb hr hlk hP hD hS hK (by omega) (by omega) d_Ref_join_192 ⟨rfl, ⟨qs, ma, ca, na, wt, fR, fN, fL, fH, uf, fM, fC, fT, fD, fX, MK, MF, (by unfold bm_joi; rw [hrec]; first | done | rfl), hwt, hAd, hM, hC, (by show nr_R _ _ (bm_rec S.eb e9 g nx S.G).2.2.2.1; rw [hrec]; exact hN), hPd⟩⟩
                            · exact absurd h119 (by decide)
                          · exact absurd h118 (by decide)
                        · exact absurd h117 (by decide)
                      · refine lv_iconst (v := nI 1) hx hb d_Ref_join_130 (by decide) ?_
                        refine lv_goto hx hb d_Ref_join_131 (tgt := 135) (by decide) ?_
                        refine ri_icmp_eq hx hb (by omega) (by omega) d_Ref_join_135 (tgt := 142) (by decide) (fun h120 => ?_) (fun h120 => ?_)
                        · exact absurd h120 (by decide)
                        · refine lv_iconst (v := nI 1) hx hb d_Ref_join_138 (by decide) ?_
                          refine lv_goto hx hb d_Ref_join_139 (tgt := 143) (by decide) ?_
                          refine lv_istore hx hb d_Ref_join_143 hl (by decide) rfl (fun ls hl => ?_)
                          have hl : lv_has ls 8 [(7, .int (nI 1)), (4, .int (nI 1)), (6, .int (nI nx)), (5, .int (nI (S.G.2.2.1 e9 g))), (0, .ref h), (1, .int (nI e9)), (2, .int (nI g)), (3, .int dl)] := hl
                          refine lv_iload hx hb d_Ref_join_145 (lv_at hl 0 rfl) ?_
                          refine ri_if_eq hx hb (by omega) d_Ref_join_147 (tgt := 166) (by decide) (fun h121 => ?_) (fun h121 => ?_)
                          · exact absurd h121 (by decide)
                          · have hnw : bm_news S.G.1 S.G.2.2.1 e9 g nx := ⟨fun z => h112 ((oI_lt (fun b z => Nat.lt_trans (hgi.2.2.1 _ b z) (by decide))).mpr z), by intro z; omega⟩
                            refine lv_aload_n hx hb d_Ref_join_150 rfl (lv_at hl 4 rfl) ?_
                            refine va_get (D := D) (ci := 9) (v := .int (nI S.G.2.2.2.1.2.1)) (C := R_Ref) (T := T_Ref) (N := 32) hx hb ht in_Ref hown hK hP 0 rfl rfl 18 (by decide) (ht _ kl_Ref_151) (fun _ h9 => h9) rfl d_Ref_join_151 ?_
                            refine lv_sipush (v := nI 4000) hx hb d_Ref_join_154 (by decide) ?_
                            refine ri_icmp_ne hx hb (by omega) (by omega) d_Ref_join_157 (tgt := 166) (by decide) (fun h157 => ?_) (fun h157 => ?_)
                            · refine lv_aload_n hx hb d_Ref_join_166 rfl (lv_at hl 4 rfl) ?_
                              refine va_get (D := D) (ci := 9) (v := .ref (qs 15)) (C := R_Ref) (T := T_Ref) (N := 32) hx hb ht in_Ref hown hK hP 0 rfl rfl 22 (by decide) (ht _ kl_Ref_57) (fun _ h9 => h9) rfl d_Ref_join_167 ?_
                              refine lv_bipush (v := nI 12) hx hb d_Ref_join_170 (by decide) ?_
                              refine lv_iload_n hx hb d_Ref_join_172 rfl (lv_at hl 6 rfl) ?_
                              refine ri_imul hx hb d_Ref_join_173 ?_
                              refine lv_iload_n hx hb d_Ref_join_174 rfl (lv_at hl 5 rfl) ?_
                              refine ri_iadd hx hb d_Ref_join_175 ?_
                              refine lv_iload hx hb d_Ref_join_176 (lv_at hl 2 rfl) ?_
                              refine ri_iast hx hb hK hP hD hS 16 0 rfl rfl (j := (12 * g) + e9) (by omega) (by omega) d_Ref_join_178 (fun H locs hP hD hS => ?_)
                              rw [fl_up (a := g) (b := e9) (show e9 < 12 by omega)] at hP hD
                              rw [gN_up] at hP hD
                              have hP : va_P D kls (List.flatten [[rf_o h qs (nI 0) ma S.T.2.2.1.2.1 ca S.D.2.1.2.1 na S.G.2.2.2.1.2.1 S.D.1.2.1 S.D.2.2.1 S.D.2.2.2.1 S.D.2.2.2.2 S.lost], [(qs 0, .inl (cI, 12, .inl (lI S.eb)))], [(qs 1, .inl (cI, 144, .inl (fl (gN S.lk))))], [(qs 2, .inl (cI, 144, .inl (fl (gN wt))))], [(qs 3, .inl (cZ, 144, .inl (fl (kB S.kn))))], [(qs 4, .inl (cI, 1600, .inl fR))], [(qs 5, .inl (cI, 1600, .inl fN))], [(qs 6, .inl (cJ, 1600, .inr (.inl fL)))], [(qs 7, .inl (cJ, 1600, .inr (.inl fH)))], [(qs 8, .inl (cZ, 1600, .inl (dB uf)))], [(qs 9, .inl (cI, 144, .inl (fl (sI S.T.2.1))))], [(qs 10, .inl (cI, 4000, .inl fM))], [(qs 11, .inl (cJ, 4000, .inr (.inl fC)))], [(qs 12, .inl (cI, 4000, .inl fT))], [(qs 13, .inl (cI, 8, .inl (lI S.G.1)))], [(qs 14, .inl (cI, 8, .inl S.G.2.1))], [(qs 15, .inl (cI, 96, .inl (fl (gN (bm_up2 (rT S.G.2.2.1) g e9 nx)))))], [(qs 16, .inl (cI, 901, .inl fD))], [(qs 17, .inl (cI, 901, .inl fX))], [(qs 18, .inl (cI, 144, .inl (fl MK)))], [(qs 19, .inl (cI, 144, .inl (fl MF)))]]) H := hP
                              have hD : va_D A (List.flatten [[rf_o h qs (nI 0) ma S.T.2.2.1.2.1 ca S.D.2.1.2.1 na S.G.2.2.2.1.2.1 S.D.1.2.1 S.D.2.2.1 S.D.2.2.2.1 S.D.2.2.2.2 S.lost], [(qs 0, .inl (cI, 12, .inl (lI S.eb)))], [(qs 1, .inl (cI, 144, .inl (fl (gN S.lk))))], [(qs 2, .inl (cI, 144, .inl (fl (gN wt))))], [(qs 3, .inl (cZ, 144, .inl (fl (kB S.kn))))], [(qs 4, .inl (cI, 1600, .inl fR))], [(qs 5, .inl (cI, 1600, .inl fN))], [(qs 6, .inl (cJ, 1600, .inr (.inl fL)))], [(qs 7, .inl (cJ, 1600, .inr (.inl fH)))], [(qs 8, .inl (cZ, 1600, .inl (dB uf)))], [(qs 9, .inl (cI, 144, .inl (fl (sI S.T.2.1))))], [(qs 10, .inl (cI, 4000, .inl fM))], [(qs 11, .inl (cJ, 4000, .inr (.inl fC)))], [(qs 12, .inl (cI, 4000, .inl fT))], [(qs 13, .inl (cI, 8, .inl (lI S.G.1)))], [(qs 14, .inl (cI, 8, .inl S.G.2.1))], [(qs 15, .inl (cI, 96, .inl (fl (gN (bm_up2 (rT S.G.2.2.1) g e9 nx)))))], [(qs 16, .inl (cI, 901, .inl fD))], [(qs 17, .inl (cI, 901, .inl fX))], [(qs 18, .inl (cI, 144, .inl (fl MK)))], [(qs 19, .inl (cI, 144, .inl (fl MF)))]]) := hD
                              rw [rT_up] at hP hD
                              have hP : va_P D kls (List.flatten [[rf_o h qs (nI 0) ma S.T.2.2.1.2.1 ca S.D.2.1.2.1 na S.G.2.2.2.1.2.1 S.D.1.2.1 S.D.2.2.1 S.D.2.2.2.1 S.D.2.2.2.2 S.lost], [(qs 0, .inl (cI, 12, .inl (lI S.eb)))], [(qs 1, .inl (cI, 144, .inl (fl (gN S.lk))))], [(qs 2, .inl (cI, 144, .inl (fl (gN wt))))], [(qs 3, .inl (cZ, 144, .inl (fl (kB S.kn))))], [(qs 4, .inl (cI, 1600, .inl fR))], [(qs 5, .inl (cI, 1600, .inl fN))], [(qs 6, .inl (cJ, 1600, .inr (.inl fL)))], [(qs 7, .inl (cJ, 1600, .inr (.inl fH)))], [(qs 8, .inl (cZ, 1600, .inl (dB uf)))], [(qs 9, .inl (cI, 144, .inl (fl (sI S.T.2.1))))], [(qs 10, .inl (cI, 4000, .inl fM))], [(qs 11, .inl (cJ, 4000, .inr (.inl fC)))], [(qs 12, .inl (cI, 4000, .inl fT))], [(qs 13, .inl (cI, 8, .inl (lI S.G.1)))], [(qs 14, .inl (cI, 8, .inl S.G.2.1))], [(qs 15, .inl (cI, 96, .inl (fl (gN (rT (bm_up2 S.G.2.2.1 e9 g nx))))))], [(qs 16, .inl (cI, 901, .inl fD))], [(qs 17, .inl (cI, 901, .inl fX))], [(qs 18, .inl (cI, 144, .inl (fl MK)))], [(qs 19, .inl (cI, 144, .inl (fl MF)))]]) H := hP
                              have hD : va_D A (List.flatten [[rf_o h qs (nI 0) ma S.T.2.2.1.2.1 ca S.D.2.1.2.1 na S.G.2.2.2.1.2.1 S.D.1.2.1 S.D.2.2.1 S.D.2.2.2.1 S.D.2.2.2.2 S.lost], [(qs 0, .inl (cI, 12, .inl (lI S.eb)))], [(qs 1, .inl (cI, 144, .inl (fl (gN S.lk))))], [(qs 2, .inl (cI, 144, .inl (fl (gN wt))))], [(qs 3, .inl (cZ, 144, .inl (fl (kB S.kn))))], [(qs 4, .inl (cI, 1600, .inl fR))], [(qs 5, .inl (cI, 1600, .inl fN))], [(qs 6, .inl (cJ, 1600, .inr (.inl fL)))], [(qs 7, .inl (cJ, 1600, .inr (.inl fH)))], [(qs 8, .inl (cZ, 1600, .inl (dB uf)))], [(qs 9, .inl (cI, 144, .inl (fl (sI S.T.2.1))))], [(qs 10, .inl (cI, 4000, .inl fM))], [(qs 11, .inl (cJ, 4000, .inr (.inl fC)))], [(qs 12, .inl (cI, 4000, .inl fT))], [(qs 13, .inl (cI, 8, .inl (lI S.G.1)))], [(qs 14, .inl (cI, 8, .inl S.G.2.1))], [(qs 15, .inl (cI, 96, .inl (fl (gN (rT (bm_up2 S.G.2.2.1 e9 g nx))))))], [(qs 16, .inl (cI, 901, .inl fD))], [(qs 17, .inl (cI, 901, .inl fX))], [(qs 18, .inl (cI, 144, .inl (fl MK)))], [(qs 19, .inl (cI, 144, .inl (fl MF)))]]) := hD
                              refine lv_iload hx hb d_Ref_join_179 (lv_at hl 0 rfl) ?_
                              refine ri_if_eq hx hb (by omega) d_Ref_join_181 (tgt := 190) (by decide) (fun h123 => ?_) (fun h123 => ?_)
                              · exact absurd h123 (by decide)
                              · refine lv_aload_n hx hb d_Ref_join_184 rfl (lv_at hl 4 rfl) ?_
                                refine lv_iload_n hx hb d_Ref_join_185 rfl (lv_at hl 6 rfl) ?_
                                refine lv_iload_n hx hb d_Ref_join_186 rfl (lv_at hl 5 rfl) ?_
                                have hrcG : ∀ a b, (bm_count e9 g nx S.G).2.2.1 a b ≤ 100 := fun a b => by show (if a = e9 ∧ b = g then nx else S.G.2.2.1 a b) ≤ 100; split; (· exact hnx); (· exact hgi.1 a b)
                                refine ct_callVV (C := R_Ref) (ci := 9) (As := [.int (nI g), .int (nI e9)]) (rest := []) ⟨hx, hb, hml, hown, ht⟩ (k_Ref_tell l D cI cZ cJ cG (rc := (bm_count e9 g nx S.G).2.2.1) (M := (bm_count e9 g nx S.G).2.2.2.1) hN (hroom.resolve_right (fun z => z hnw)) g e9 b (by omega) he hee (heb _ _ hee) hrcG) (cb_V ht kc_Ref_tell kl_Ref_163 kn_Ref ki_Ref_tell ks_Ref_tell hd_Ref_tell ⟨Nat.le_of_ble_eq_true rfl, Nat.le_of_ble_eq_true rfl⟩) (List.mem_of_getElem? (i := 0) rfl) rfl rfl (wd_ct (Bs := [[rf_o h qs (nI 0) ma S.T.2.2.1.2.1 ca S.D.2.1.2.1 na S.G.2.2.2.1.2.1 S.D.1.2.1 S.D.2.2.1 S.D.2.2.2.1 S.D.2.2.2.2 S.lost], [(qs 0, .inl (cI, 12, .inl (lI S.eb)))], [(qs 1, .inl (cI, 144, .inl (fl (gN S.lk))))], [(qs 2, .inl (cI, 144, .inl (fl (gN wt))))], [(qs 3, .inl (cZ, 144, .inl (fl (kB S.kn))))], [(qs 4, .inl (cI, 1600, .inl fR))], [(qs 5, .inl (cI, 1600, .inl fN))], [(qs 6, .inl (cJ, 1600, .inr (.inl fL)))], [(qs 7, .inl (cJ, 1600, .inr (.inl fH)))], [(qs 8, .inl (cZ, 1600, .inl (dB uf)))], [(qs 9, .inl (cI, 144, .inl (fl (sI S.T.2.1))))], [(qs 10, .inl (cI, 4000, .inl fM))], [(qs 11, .inl (cJ, 4000, .inr (.inl fC)))], [(qs 12, .inl (cI, 4000, .inl fT))], [(qs 13, .inl (cI, 8, .inl (lI S.G.1)))], [(qs 14, .inl (cI, 8, .inl S.G.2.1))], [(qs 15, .inl (cI, 96, .inl (fl (gN (rT (bm_up2 S.G.2.2.1 e9 g nx))))))], [(qs 16, .inl (cI, 901, .inl fD))], [(qs 17, .inl (cI, 901, .inl fX))], [(qs 18, .inl (cI, 144, .inl (fl MK)))], [(qs 19, .inl (cI, 144, .inl (fl MF)))]]) 21 rfl [0, 1, 13, 16] [2, 3, 4, 5, 6, 7, 8, 9, 10, 11, 12, 14, 15, 17, 18, 19, 20] (by decide) rfl) hK hP hD hS hA rfl hl.1 rfl (Nat.le_of_ble_eq_true rfl) ⟨(show 0 + 0 ≤ 0 by omega), (show 0 + 0 ≤ 0 by omega)⟩ d_Ref_join_187 (fun u124 H locs hu124 hP hD hS => ?_)
                                obtain ⟨fT2, rfl, hN2⟩ := hu124
                                refine W.widen (k := 0) (n := 0) (Nat.le_refl _) (Nat.le_refl _) ?_
                                have hP := wd_nP (N := [[rf_o h qs (nI 0) ma S.T.2.2.1.2.1 ca S.D.2.1.2.1 na ((bm_tell S.eb e9 g (bm_count e9 g nx S.G)).2.2.2.1.2.1) S.D.1.2.1 S.D.2.2.1 S.D.2.2.2.1 S.D.2.2.2.2 S.lost], [(qs 0, .inl (cI, 12, .inl (lI S.eb)))], [(qs 12, .inl (cI, 4000, .inl fT2))], [(qs 15, .inl (cI, 96, .inl (fl (gN (rT (bm_count e9 g nx S.G).2.2.1)))))]]) rfl 21 rfl [0, 1, 4, 5, 6, 7, 8, 9, 10, 11, 12, 13, 14, 2, 15, 16, 3, 17, 18, 19, 20] (by decide) hP
                                have hD := wd_nD (N := [[rf_o h qs (nI 0) ma S.T.2.2.1.2.1 ca S.D.2.1.2.1 na ((bm_tell S.eb e9 g (bm_count e9 g nx S.G)).2.2.2.1.2.1) S.D.1.2.1 S.D.2.2.1 S.D.2.2.2.1 S.D.2.2.2.2 S.lost], [(qs 0, .inl (cI, 12, .inl (lI S.eb)))], [(qs 12, .inl (cI, 4000, .inl fT2))], [(qs 15, .inl (cI, 96, .inl (fl (gN (rT (bm_count e9 g nx S.G).2.2.1)))))]]) rfl 21 rfl [0, 1, 4, 5, 6, 7, 8, 9, 10, 11, 12, 13, 14, 2, 15, 16, 3, 17, 18, 19, 20] (by decide) hD
                                have hP : va_P D kls (List.flatten [[rf_o h qs (nI 0) ma S.T.2.2.1.2.1 ca S.D.2.1.2.1 na ((bm_tell S.eb e9 g (bm_count e9 g nx S.G)).2.2.2.1.2.1) S.D.1.2.1 S.D.2.2.1 S.D.2.2.2.1 S.D.2.2.2.2 S.lost], [(qs 0, .inl (cI, 12, .inl (lI S.eb)))], [(qs 1, .inl (cI, 144, .inl (fl (gN S.lk))))], [(qs 2, .inl (cI, 144, .inl (fl (gN wt))))], [(qs 3, .inl (cZ, 144, .inl (fl (kB S.kn))))], [(qs 4, .inl (cI, 1600, .inl fR))], [(qs 5, .inl (cI, 1600, .inl fN))], [(qs 6, .inl (cJ, 1600, .inr (.inl fL)))], [(qs 7, .inl (cJ, 1600, .inr (.inl fH)))], [(qs 8, .inl (cZ, 1600, .inl (dB uf)))], [(qs 9, .inl (cI, 144, .inl (fl (sI S.T.2.1))))], [(qs 10, .inl (cI, 4000, .inl fM))], [(qs 11, .inl (cJ, 4000, .inr (.inl fC)))], [(qs 12, .inl (cI, 4000, .inl fT2))], [(qs 13, .inl (cI, 8, .inl (lI S.G.1)))], [(qs 14, .inl (cI, 8, .inl S.G.2.1))], [(qs 15, .inl (cI, 96, .inl (fl (gN (rT (bm_count e9 g nx S.G).2.2.1)))))], [(qs 16, .inl (cI, 901, .inl fD))], [(qs 17, .inl (cI, 901, .inl fX))], [(qs 18, .inl (cI, 144, .inl (fl MK)))], [(qs 19, .inl (cI, 144, .inl (fl MF)))]]) H := hP
                                have hD : va_D A (List.flatten [[rf_o h qs (nI 0) ma S.T.2.2.1.2.1 ca S.D.2.1.2.1 na ((bm_tell S.eb e9 g (bm_count e9 g nx S.G)).2.2.2.1.2.1) S.D.1.2.1 S.D.2.2.1 S.D.2.2.2.1 S.D.2.2.2.2 S.lost], [(qs 0, .inl (cI, 12, .inl (lI S.eb)))], [(qs 1, .inl (cI, 144, .inl (fl (gN S.lk))))], [(qs 2, .inl (cI, 144, .inl (fl (gN wt))))], [(qs 3, .inl (cZ, 144, .inl (fl (kB S.kn))))], [(qs 4, .inl (cI, 1600, .inl fR))], [(qs 5, .inl (cI, 1600, .inl fN))], [(qs 6, .inl (cJ, 1600, .inr (.inl fL)))], [(qs 7, .inl (cJ, 1600, .inr (.inl fH)))], [(qs 8, .inl (cZ, 1600, .inl (dB uf)))], [(qs 9, .inl (cI, 144, .inl (fl (sI S.T.2.1))))], [(qs 10, .inl (cI, 4000, .inl fM))], [(qs 11, .inl (cJ, 4000, .inr (.inl fC)))], [(qs 12, .inl (cI, 4000, .inl fT2))], [(qs 13, .inl (cI, 8, .inl (lI S.G.1)))], [(qs 14, .inl (cI, 8, .inl S.G.2.1))], [(qs 15, .inl (cI, 96, .inl (fl (gN (rT (bm_count e9 g nx S.G).2.2.1)))))], [(qs 16, .inl (cI, 901, .inl fD))], [(qs 17, .inl (cI, 901, .inl fX))], [(qs 18, .inl (cI, 144, .inl (fl MK)))], [(qs 19, .inl (cI, 144, .inl (fl MF)))]]) := hD
                                refine W.eq (g2 := F0 m 190 ls []) rfl ?_
                                refine lv_iload hx hb d_Ref_join_190 (lv_at hl 2 rfl) ?_
                                have hrec : bm_rec S.eb e9 g nx S.G = bm_tell S.eb e9 g (bm_count e9 g nx S.G) := if_pos (bP_t hnw)
                                exact ct_iret hQ hx hb hr hlk hP hD hS hK (by omega) (by omega) d_Ref_join_192 ⟨rfl, ⟨qs, ma, ca, na, wt, fR, fN, fL, fH, uf, fM, fC, fT2, fD, fX, MK, MF, (by unfold bm_joi; rw [hrec]; first | done | rfl), hwt, hAd, hM, hC, (by show nr_R _ _ (bm_rec S.eb e9 g nx S.G).2.2.2.1; rw [hrec]; exact hN2), hPd⟩⟩
                            · exact absurd h157 (by have : S.G.2.2.2.1.2.1 < 4000 := hroom.resolve_right (fun z => z hnw); omega)
                    · refine lv_iconst (v := nI 1) hx hb d_Ref_join_120 (by decide) ?_
                      refine lv_goto hx hb d_Ref_join_121 (tgt := 125) (by decide) ?_
                      refine lv_iload hx hb d_Ref_join_125 (lv_at hl 1 rfl) ?_
                      refine ri_if_le hx hb (by omega) d_Ref_join_127 (tgt := 134) (by decide) (fun h127 => ?_) (fun h127 => ?_)
                      · refine lv_iconst (v := nI 0) hx hb d_Ref_join_134 (by decide) ?_
                        refine ri_icmp_eq hx hb (by omega) (by omega) d_Ref_join_135 (tgt := 142) (by decide) (fun h126 => ?_) (fun h126 => ?_)
                        · exact absurd h126 (by decide)
                        · refine lv_iconst (v := nI 1) hx hb d_Ref_join_138 (by decide) ?_
                          refine lv_goto hx hb d_Ref_join_139 (tgt := 143) (by decide) ?_
                          refine lv_istore hx hb d_Ref_join_143 hl (by decide) rfl (fun ls hl => ?_)
                          have hl : lv_has ls 8 [(7, .int (nI 1)), (4, .int (nI 1)), (6, .int (nI nx)), (5, .int (nI (S.G.2.2.1 e9 g))), (0, .ref h), (1, .int (nI e9)), (2, .int (nI g)), (3, .int dl)] := hl
                          refine lv_iload hx hb d_Ref_join_145 (lv_at hl 0 rfl) ?_
                          refine ri_if_eq hx hb (by omega) d_Ref_join_147 (tgt := 166) (by decide) (fun h127 => ?_) (fun h127 => ?_)
                          · exact absurd h127 (by decide)
                          · have hnw : bm_news S.G.1 S.G.2.2.1 e9 g nx := ⟨fun z => h112 ((oI_lt (fun b z => Nat.lt_trans (hgi.2.2.1 _ b z) (by decide))).mpr z), by intro z; omega⟩
                            refine lv_aload_n hx hb d_Ref_join_150 rfl (lv_at hl 4 rfl) ?_
                            refine va_get (D := D) (ci := 9) (v := .int (nI S.G.2.2.2.1.2.1)) (C := R_Ref) (T := T_Ref) (N := 32) hx hb ht in_Ref hown hK hP 0 rfl rfl 18 (by decide) (ht _ kl_Ref_151) (fun _ h9 => h9) rfl d_Ref_join_151 ?_
                            refine lv_sipush (v := nI 4000) hx hb d_Ref_join_154 (by decide) ?_
                            refine ri_icmp_ne hx hb (by omega) (by omega) d_Ref_join_157 (tgt := 166) (by decide) (fun h157 => ?_) (fun h157 => ?_)
                            · refine lv_aload_n hx hb d_Ref_join_166 rfl (lv_at hl 4 rfl) ?_
                              refine va_get (D := D) (ci := 9) (v := .ref (qs 15)) (C := R_Ref) (T := T_Ref) (N := 32) hx hb ht in_Ref hown hK hP 0 rfl rfl 22 (by decide) (ht _ kl_Ref_57) (fun _ h9 => h9) rfl d_Ref_join_167 ?_
                              refine lv_bipush (v := nI 12) hx hb d_Ref_join_170 (by decide) ?_
                              refine lv_iload_n hx hb d_Ref_join_172 rfl (lv_at hl 6 rfl) ?_
                              refine ri_imul hx hb d_Ref_join_173 ?_
                              refine lv_iload_n hx hb d_Ref_join_174 rfl (lv_at hl 5 rfl) ?_
                              refine ri_iadd hx hb d_Ref_join_175 ?_
                              refine lv_iload hx hb d_Ref_join_176 (lv_at hl 2 rfl) ?_
                              refine ri_iast hx hb hK hP hD hS 16 0 rfl rfl (j := (12 * g) + e9) (by omega) (by omega) d_Ref_join_178 (fun H locs hP hD hS => ?_)
                              rw [fl_up (a := g) (b := e9) (show e9 < 12 by omega)] at hP hD
                              rw [gN_up] at hP hD
                              have hP : va_P D kls (List.flatten [[rf_o h qs (nI 0) ma S.T.2.2.1.2.1 ca S.D.2.1.2.1 na S.G.2.2.2.1.2.1 S.D.1.2.1 S.D.2.2.1 S.D.2.2.2.1 S.D.2.2.2.2 S.lost], [(qs 0, .inl (cI, 12, .inl (lI S.eb)))], [(qs 1, .inl (cI, 144, .inl (fl (gN S.lk))))], [(qs 2, .inl (cI, 144, .inl (fl (gN wt))))], [(qs 3, .inl (cZ, 144, .inl (fl (kB S.kn))))], [(qs 4, .inl (cI, 1600, .inl fR))], [(qs 5, .inl (cI, 1600, .inl fN))], [(qs 6, .inl (cJ, 1600, .inr (.inl fL)))], [(qs 7, .inl (cJ, 1600, .inr (.inl fH)))], [(qs 8, .inl (cZ, 1600, .inl (dB uf)))], [(qs 9, .inl (cI, 144, .inl (fl (sI S.T.2.1))))], [(qs 10, .inl (cI, 4000, .inl fM))], [(qs 11, .inl (cJ, 4000, .inr (.inl fC)))], [(qs 12, .inl (cI, 4000, .inl fT))], [(qs 13, .inl (cI, 8, .inl (lI S.G.1)))], [(qs 14, .inl (cI, 8, .inl S.G.2.1))], [(qs 15, .inl (cI, 96, .inl (fl (gN (bm_up2 (rT S.G.2.2.1) g e9 nx)))))], [(qs 16, .inl (cI, 901, .inl fD))], [(qs 17, .inl (cI, 901, .inl fX))], [(qs 18, .inl (cI, 144, .inl (fl MK)))], [(qs 19, .inl (cI, 144, .inl (fl MF)))]]) H := hP
                              have hD : va_D A (List.flatten [[rf_o h qs (nI 0) ma S.T.2.2.1.2.1 ca S.D.2.1.2.1 na S.G.2.2.2.1.2.1 S.D.1.2.1 S.D.2.2.1 S.D.2.2.2.1 S.D.2.2.2.2 S.lost], [(qs 0, .inl (cI, 12, .inl (lI S.eb)))], [(qs 1, .inl (cI, 144, .inl (fl (gN S.lk))))], [(qs 2, .inl (cI, 144, .inl (fl (gN wt))))], [(qs 3, .inl (cZ, 144, .inl (fl (kB S.kn))))], [(qs 4, .inl (cI, 1600, .inl fR))], [(qs 5, .inl (cI, 1600, .inl fN))], [(qs 6, .inl (cJ, 1600, .inr (.inl fL)))], [(qs 7, .inl (cJ, 1600, .inr (.inl fH)))], [(qs 8, .inl (cZ, 1600, .inl (dB uf)))], [(qs 9, .inl (cI, 144, .inl (fl (sI S.T.2.1))))], [(qs 10, .inl (cI, 4000, .inl fM))], [(qs 11, .inl (cJ, 4000, .inr (.inl fC)))], [(qs 12, .inl (cI, 4000, .inl fT))], [(qs 13, .inl (cI, 8, .inl (lI S.G.1)))], [(qs 14, .inl (cI, 8, .inl S.G.2.1))], [(qs 15, .inl (cI, 96, .inl (fl (gN (bm_up2 (rT S.G.2.2.1) g e9 nx)))))], [(qs 16, .inl (cI, 901, .inl fD))], [(qs 17, .inl (cI, 901, .inl fX))], [(qs 18, .inl (cI, 144, .inl (fl MK)))], [(qs 19, .inl (cI, 144, .inl (fl MF)))]]) := hD
                              rw [rT_up] at hP hD
                              have hP : va_P D kls (List.flatten [[rf_o h qs (nI 0) ma S.T.2.2.1.2.1 ca S.D.2.1.2.1 na S.G.2.2.2.1.2.1 S.D.1.2.1 S.D.2.2.1 S.D.2.2.2.1 S.D.2.2.2.2 S.lost], [(qs 0, .inl (cI, 12, .inl (lI S.eb)))], [(qs 1, .inl (cI, 144, .inl (fl (gN S.lk))))], [(qs 2, .inl (cI, 144, .inl (fl (gN wt))))], [(qs 3, .inl (cZ, 144, .inl (fl (kB S.kn))))], [(qs 4, .inl (cI, 1600, .inl fR))], [(qs 5, .inl (cI, 1600, .inl fN))], [(qs 6, .inl (cJ, 1600, .inr (.inl fL)))], [(qs 7, .inl (cJ, 1600, .inr (.inl fH)))], [(qs 8, .inl (cZ, 1600, .inl (dB uf)))], [(qs 9, .inl (cI, 144, .inl (fl (sI S.T.2.1))))], [(qs 10, .inl (cI, 4000, .inl fM))], [(qs 11, .inl (cJ, 4000, .inr (.inl fC)))], [(qs 12, .inl (cI, 4000, .inl fT))], [(qs 13, .inl (cI, 8, .inl (lI S.G.1)))], [(qs 14, .inl (cI, 8, .inl S.G.2.1))], [(qs 15, .inl (cI, 96, .inl (fl (gN (rT (bm_up2 S.G.2.2.1 e9 g nx))))))], [(qs 16, .inl (cI, 901, .inl fD))], [(qs 17, .inl (cI, 901, .inl fX))], [(qs 18, .inl (cI, 144, .inl (fl MK)))], [(qs 19, .inl (cI, 144, .inl (fl MF)))]]) H := hP
                              have hD : va_D A (List.flatten [[rf_o h qs (nI 0) ma S.T.2.2.1.2.1 ca S.D.2.1.2.1 na S.G.2.2.2.1.2.1 S.D.1.2.1 S.D.2.2.1 S.D.2.2.2.1 S.D.2.2.2.2 S.lost], [(qs 0, .inl (cI, 12, .inl (lI S.eb)))], [(qs 1, .inl (cI, 144, .inl (fl (gN S.lk))))], [(qs 2, .inl (cI, 144, .inl (fl (gN wt))))], [(qs 3, .inl (cZ, 144, .inl (fl (kB S.kn))))], [(qs 4, .inl (cI, 1600, .inl fR))], [(qs 5, .inl (cI, 1600, .inl fN))], [(qs 6, .inl (cJ, 1600, .inr (.inl fL)))], [(qs 7, .inl (cJ, 1600, .inr (.inl fH)))], [(qs 8, .inl (cZ, 1600, .inl (dB uf)))], [(qs 9, .inl (cI, 144, .inl (fl (sI S.T.2.1))))], [(qs 10, .inl (cI, 4000, .inl fM))], [(qs 11, .inl (cJ, 4000, .inr (.inl fC)))], [(qs 12, .inl (cI, 4000, .inl fT))], [(qs 13, .inl (cI, 8, .inl (lI S.G.1)))], [(qs 14, .inl (cI, 8, .inl S.G.2.1))], [(qs 15, .inl (cI, 96, .inl (fl (gN (rT (bm_up2 S.G.2.2.1 e9 g nx))))))], [(qs 16, .inl (cI, 901, .inl fD))], [(qs 17, .inl (cI, 901, .inl fX))], [(qs 18, .inl (cI, 144, .inl (fl MK)))], [(qs 19, .inl (cI, 144, .inl (fl MF)))]]) := hD
                              refine lv_iload hx hb d_Ref_join_179 (lv_at hl 0 rfl) ?_
                              refine ri_if_eq hx hb (by omega) d_Ref_join_181 (tgt := 190) (by decide) (fun h129 => ?_) (fun h129 => ?_)
                              · exact absurd h129 (by decide)
                              · refine lv_aload_n hx hb d_Ref_join_184 rfl (lv_at hl 4 rfl) ?_
                                refine lv_iload_n hx hb d_Ref_join_185 rfl (lv_at hl 6 rfl) ?_
                                refine lv_iload_n hx hb d_Ref_join_186 rfl (lv_at hl 5 rfl) ?_
                                have hrcG : ∀ a b, (bm_count e9 g nx S.G).2.2.1 a b ≤ 100 := fun a b => by show (if a = e9 ∧ b = g then nx else S.G.2.2.1 a b) ≤ 100; split; (· exact hnx); (· exact hgi.1 a b)
                                refine ct_callVV (C := R_Ref) (ci := 9) (As := [.int (nI g), .int (nI e9)]) (rest := []) ⟨hx, hb, hml, hown, ht⟩ (k_Ref_tell l D cI cZ cJ cG (rc := (bm_count e9 g nx S.G).2.2.1) (M := (bm_count e9 g nx S.G).2.2.2.1) hN (hroom.resolve_right (fun z => z hnw)) g e9 b (by omega) he hee (heb _ _ hee) hrcG) (cb_V ht kc_Ref_tell kl_Ref_163 kn_Ref ki_Ref_tell ks_Ref_tell hd_Ref_tell ⟨Nat.le_of_ble_eq_true rfl, Nat.le_of_ble_eq_true rfl⟩) (List.mem_of_getElem? (i := 0) rfl) rfl rfl (wd_ct (Bs := [[rf_o h qs (nI 0) ma S.T.2.2.1.2.1 ca S.D.2.1.2.1 na S.G.2.2.2.1.2.1 S.D.1.2.1 S.D.2.2.1 S.D.2.2.2.1 S.D.2.2.2.2 S.lost], [(qs 0, .inl (cI, 12, .inl (lI S.eb)))], [(qs 1, .inl (cI, 144, .inl (fl (gN S.lk))))], [(qs 2, .inl (cI, 144, .inl (fl (gN wt))))], [(qs 3, .inl (cZ, 144, .inl (fl (kB S.kn))))], [(qs 4, .inl (cI, 1600, .inl fR))], [(qs 5, .inl (cI, 1600, .inl fN))], [(qs 6, .inl (cJ, 1600, .inr (.inl fL)))], [(qs 7, .inl (cJ, 1600, .inr (.inl fH)))], [(qs 8, .inl (cZ, 1600, .inl (dB uf)))], [(qs 9, .inl (cI, 144, .inl (fl (sI S.T.2.1))))], [(qs 10, .inl (cI, 4000, .inl fM))], [(qs 11, .inl (cJ, 4000, .inr (.inl fC)))], [(qs 12, .inl (cI, 4000, .inl fT))], [(qs 13, .inl (cI, 8, .inl (lI S.G.1)))], [(qs 14, .inl (cI, 8, .inl S.G.2.1))], [(qs 15, .inl (cI, 96, .inl (fl (gN (rT (bm_up2 S.G.2.2.1 e9 g nx))))))], [(qs 16, .inl (cI, 901, .inl fD))], [(qs 17, .inl (cI, 901, .inl fX))], [(qs 18, .inl (cI, 144, .inl (fl MK)))], [(qs 19, .inl (cI, 144, .inl (fl MF)))]]) 21 rfl [0, 1, 13, 16] [2, 3, 4, 5, 6, 7, 8, 9, 10, 11, 12, 14, 15, 17, 18, 19, 20] (by decide) rfl) hK hP hD hS hA rfl hl.1 rfl (Nat.le_of_ble_eq_true rfl) ⟨(show 0 + 0 ≤ 0 by omega), (show 0 + 0 ≤ 0 by omega)⟩ d_Ref_join_187 (fun u130 H locs hu130 hP hD hS => ?_)
                                obtain ⟨fT2, rfl, hN2⟩ := hu130
                                refine W.widen (k := 0) (n := 0) (Nat.le_refl _) (Nat.le_refl _) ?_
                                have hP := wd_nP (N := [[rf_o h qs (nI 0) ma S.T.2.2.1.2.1 ca S.D.2.1.2.1 na ((bm_tell S.eb e9 g (bm_count e9 g nx S.G)).2.2.2.1.2.1) S.D.1.2.1 S.D.2.2.1 S.D.2.2.2.1 S.D.2.2.2.2 S.lost], [(qs 0, .inl (cI, 12, .inl (lI S.eb)))], [(qs 12, .inl (cI, 4000, .inl fT2))], [(qs 15, .inl (cI, 96, .inl (fl (gN (rT (bm_count e9 g nx S.G).2.2.1)))))]]) rfl 21 rfl [0, 1, 4, 5, 6, 7, 8, 9, 10, 11, 12, 13, 14, 2, 15, 16, 3, 17, 18, 19, 20] (by decide) hP
                                have hD := wd_nD (N := [[rf_o h qs (nI 0) ma S.T.2.2.1.2.1 ca S.D.2.1.2.1 na ((bm_tell S.eb e9 g (bm_count e9 g nx S.G)).2.2.2.1.2.1) S.D.1.2.1 S.D.2.2.1 S.D.2.2.2.1 S.D.2.2.2.2 S.lost], [(qs 0, .inl (cI, 12, .inl (lI S.eb)))], [(qs 12, .inl (cI, 4000, .inl fT2))], [(qs 15, .inl (cI, 96, .inl (fl (gN (rT (bm_count e9 g nx S.G).2.2.1)))))]]) rfl 21 rfl [0, 1, 4, 5, 6, 7, 8, 9, 10, 11, 12, 13, 14, 2, 15, 16, 3, 17, 18, 19, 20] (by decide) hD
                                have hP : va_P D kls (List.flatten [[rf_o h qs (nI 0) ma S.T.2.2.1.2.1 ca S.D.2.1.2.1 na ((bm_tell S.eb e9 g (bm_count e9 g nx S.G)).2.2.2.1.2.1) S.D.1.2.1 S.D.2.2.1 S.D.2.2.2.1 S.D.2.2.2.2 S.lost], [(qs 0, .inl (cI, 12, .inl (lI S.eb)))], [(qs 1, .inl (cI, 144, .inl (fl (gN S.lk))))], [(qs 2, .inl (cI, 144, .inl (fl (gN wt))))], [(qs 3, .inl (cZ, 144, .inl (fl (kB S.kn))))], [(qs 4, .inl (cI, 1600, .inl fR))], [(qs 5, .inl (cI, 1600, .inl fN))], [(qs 6, .inl (cJ, 1600, .inr (.inl fL)))], [(qs 7, .inl (cJ, 1600, .inr (.inl fH)))], [(qs 8, .inl (cZ, 1600, .inl (dB uf)))], [(qs 9, .inl (cI, 144, .inl (fl (sI S.T.2.1))))], [(qs 10, .inl (cI, 4000, .inl fM))], [(qs 11, .inl (cJ, 4000, .inr (.inl fC)))], [(qs 12, .inl (cI, 4000, .inl fT2))], [(qs 13, .inl (cI, 8, .inl (lI S.G.1)))], [(qs 14, .inl (cI, 8, .inl S.G.2.1))], [(qs 15, .inl (cI, 96, .inl (fl (gN (rT (bm_count e9 g nx S.G).2.2.1)))))], [(qs 16, .inl (cI, 901, .inl fD))], [(qs 17, .inl (cI, 901, .inl fX))], [(qs 18, .inl (cI, 144, .inl (fl MK)))], [(qs 19, .inl (cI, 144, .inl (fl MF)))]]) H := hP
                                have hD : va_D A (List.flatten [[rf_o h qs (nI 0) ma S.T.2.2.1.2.1 ca S.D.2.1.2.1 na ((bm_tell S.eb e9 g (bm_count e9 g nx S.G)).2.2.2.1.2.1) S.D.1.2.1 S.D.2.2.1 S.D.2.2.2.1 S.D.2.2.2.2 S.lost], [(qs 0, .inl (cI, 12, .inl (lI S.eb)))], [(qs 1, .inl (cI, 144, .inl (fl (gN S.lk))))], [(qs 2, .inl (cI, 144, .inl (fl (gN wt))))], [(qs 3, .inl (cZ, 144, .inl (fl (kB S.kn))))], [(qs 4, .inl (cI, 1600, .inl fR))], [(qs 5, .inl (cI, 1600, .inl fN))], [(qs 6, .inl (cJ, 1600, .inr (.inl fL)))], [(qs 7, .inl (cJ, 1600, .inr (.inl fH)))], [(qs 8, .inl (cZ, 1600, .inl (dB uf)))], [(qs 9, .inl (cI, 144, .inl (fl (sI S.T.2.1))))], [(qs 10, .inl (cI, 4000, .inl fM))], [(qs 11, .inl (cJ, 4000, .inr (.inl fC)))], [(qs 12, .inl (cI, 4000, .inl fT2))], [(qs 13, .inl (cI, 8, .inl (lI S.G.1)))], [(qs 14, .inl (cI, 8, .inl S.G.2.1))], [(qs 15, .inl (cI, 96, .inl (fl (gN (rT (bm_count e9 g nx S.G).2.2.1)))))], [(qs 16, .inl (cI, 901, .inl fD))], [(qs 17, .inl (cI, 901, .inl fX))], [(qs 18, .inl (cI, 144, .inl (fl MK)))], [(qs 19, .inl (cI, 144, .inl (fl MF)))]]) := hD
                                refine W.eq (g2 := F0 m 190 ls []) rfl ?_
                                refine lv_iload hx hb d_Ref_join_190 (lv_at hl 2 rfl) ?_
                                have hrec : bm_rec S.eb e9 g nx S.G = bm_tell S.eb e9 g (bm_count e9 g nx S.G) := if_pos (bP_t hnw)
                                exact ct_iret hQ hx hb hr hlk hP hD hS hK (by omega) (by omega) d_Ref_join_192 ⟨rfl, ⟨qs, ma, ca, na, wt, fR, fN, fL, fH, uf, fM, fC, fT2, fD, fX, MK, MF, (by unfold bm_joi; rw [hrec]; first | done | rfl), hwt, hAd, hM, hC, (by show nr_R _ _ (bm_rec S.eb e9 g nx S.G).2.2.2.1; rw [hrec]; exact hN2), hPd⟩⟩
                            · exact absurd h157 (by have : S.G.2.2.2.1.2.1 < 4000 := hroom.resolve_right (fun z => z hnw); omega)
                      · refine lv_iconst (v := nI 1) hx hb d_Ref_join_130 (by decide) ?_
                        refine lv_goto hx hb d_Ref_join_131 (tgt := 135) (by decide) ?_
                        refine ri_icmp_eq hx hb (by omega) (by omega) d_Ref_join_135 (tgt := 142) (by decide) (fun h131 => ?_) (fun h131 => ?_)
                        · refine lv_iconst (v := nI 0) hx hb d_Ref_join_142 (by decide) ?_
                          refine lv_istore hx hb d_Ref_join_143 hl (by decide) rfl (fun ls hl => ?_)
                          have hl : lv_has ls 8 [(7, .int (nI 0)), (4, .int (nI 1)), (6, .int (nI nx)), (5, .int (nI (S.G.2.2.1 e9 g))), (0, .ref h), (1, .int (nI e9)), (2, .int (nI g)), (3, .int dl)] := hl
                          refine lv_iload hx hb d_Ref_join_145 (lv_at hl 0 rfl) ?_
                          refine ri_if_eq hx hb (by omega) d_Ref_join_147 (tgt := 166) (by decide) (fun h132 => ?_) (fun h132 => ?_)
                          · refine lv_aload_n hx hb d_Ref_join_166 rfl (lv_at hl 4 rfl) ?_
                            refine va_get (D := D) (ci := 9) (v := .ref (qs 15)) (C := R_Ref) (T := T_Ref) (N := 32) hx hb ht in_Ref hown hK hP 0 rfl rfl 22 (by decide) (ht _ kl_Ref_57) (fun _ h9 => h9) rfl d_Ref_join_167 ?_
                            refine lv_bipush (v := nI 12) hx hb d_Ref_join_170 (by decide) ?_
                            refine lv_iload_n hx hb d_Ref_join_172 rfl (lv_at hl 6 rfl) ?_
                            refine ri_imul hx hb d_Ref_join_173 ?_
                            refine lv_iload_n hx hb d_Ref_join_174 rfl (lv_at hl 5 rfl) ?_
                            refine ri_iadd hx hb d_Ref_join_175 ?_
                            refine lv_iload hx hb d_Ref_join_176 (lv_at hl 2 rfl) ?_
                            refine ri_iast hx hb hK hP hD hS 16 0 rfl rfl (j := (12 * g) + e9) (by omega) (by omega) d_Ref_join_178 (fun H locs hP hD hS => ?_)
                            rw [fl_up (a := g) (b := e9) (show e9 < 12 by omega)] at hP hD
                            rw [gN_up] at hP hD
                            have hP : va_P D kls (List.flatten [[rf_o h qs (nI 0) ma S.T.2.2.1.2.1 ca S.D.2.1.2.1 na S.G.2.2.2.1.2.1 S.D.1.2.1 S.D.2.2.1 S.D.2.2.2.1 S.D.2.2.2.2 S.lost], [(qs 0, .inl (cI, 12, .inl (lI S.eb)))], [(qs 1, .inl (cI, 144, .inl (fl (gN S.lk))))], [(qs 2, .inl (cI, 144, .inl (fl (gN wt))))], [(qs 3, .inl (cZ, 144, .inl (fl (kB S.kn))))], [(qs 4, .inl (cI, 1600, .inl fR))], [(qs 5, .inl (cI, 1600, .inl fN))], [(qs 6, .inl (cJ, 1600, .inr (.inl fL)))], [(qs 7, .inl (cJ, 1600, .inr (.inl fH)))], [(qs 8, .inl (cZ, 1600, .inl (dB uf)))], [(qs 9, .inl (cI, 144, .inl (fl (sI S.T.2.1))))], [(qs 10, .inl (cI, 4000, .inl fM))], [(qs 11, .inl (cJ, 4000, .inr (.inl fC)))], [(qs 12, .inl (cI, 4000, .inl fT))], [(qs 13, .inl (cI, 8, .inl (lI S.G.1)))], [(qs 14, .inl (cI, 8, .inl S.G.2.1))], [(qs 15, .inl (cI, 96, .inl (fl (gN (bm_up2 (rT S.G.2.2.1) g e9 nx)))))], [(qs 16, .inl (cI, 901, .inl fD))], [(qs 17, .inl (cI, 901, .inl fX))], [(qs 18, .inl (cI, 144, .inl (fl MK)))], [(qs 19, .inl (cI, 144, .inl (fl MF)))]]) H := hP
                            have hD : va_D A (List.flatten [[rf_o h qs (nI 0) ma S.T.2.2.1.2.1 ca S.D.2.1.2.1 na S.G.2.2.2.1.2.1 S.D.1.2.1 S.D.2.2.1 S.D.2.2.2.1 S.D.2.2.2.2 S.lost], [(qs 0, .inl (cI, 12, .inl (lI S.eb)))], [(qs 1, .inl (cI, 144, .inl (fl (gN S.lk))))], [(qs 2, .inl (cI, 144, .inl (fl (gN wt))))], [(qs 3, .inl (cZ, 144, .inl (fl (kB S.kn))))], [(qs 4, .inl (cI, 1600, .inl fR))], [(qs 5, .inl (cI, 1600, .inl fN))], [(qs 6, .inl (cJ, 1600, .inr (.inl fL)))], [(qs 7, .inl (cJ, 1600, .inr (.inl fH)))], [(qs 8, .inl (cZ, 1600, .inl (dB uf)))], [(qs 9, .inl (cI, 144, .inl (fl (sI S.T.2.1))))], [(qs 10, .inl (cI, 4000, .inl fM))], [(qs 11, .inl (cJ, 4000, .inr (.inl fC)))], [(qs 12, .inl (cI, 4000, .inl fT))], [(qs 13, .inl (cI, 8, .inl (lI S.G.1)))], [(qs 14, .inl (cI, 8, .inl S.G.2.1))], [(qs 15, .inl (cI, 96, .inl (fl (gN (bm_up2 (rT S.G.2.2.1) g e9 nx)))))], [(qs 16, .inl (cI, 901, .inl fD))], [(qs 17, .inl (cI, 901, .inl fX))], [(qs 18, .inl (cI, 144, .inl (fl MK)))], [(qs 19, .inl (cI, 144, .inl (fl MF)))]]) := hD
                            rw [rT_up] at hP hD
                            have hP : va_P D kls (List.flatten [[rf_o h qs (nI 0) ma S.T.2.2.1.2.1 ca S.D.2.1.2.1 na S.G.2.2.2.1.2.1 S.D.1.2.1 S.D.2.2.1 S.D.2.2.2.1 S.D.2.2.2.2 S.lost], [(qs 0, .inl (cI, 12, .inl (lI S.eb)))], [(qs 1, .inl (cI, 144, .inl (fl (gN S.lk))))], [(qs 2, .inl (cI, 144, .inl (fl (gN wt))))], [(qs 3, .inl (cZ, 144, .inl (fl (kB S.kn))))], [(qs 4, .inl (cI, 1600, .inl fR))], [(qs 5, .inl (cI, 1600, .inl fN))], [(qs 6, .inl (cJ, 1600, .inr (.inl fL)))], [(qs 7, .inl (cJ, 1600, .inr (.inl fH)))], [(qs 8, .inl (cZ, 1600, .inl (dB uf)))], [(qs 9, .inl (cI, 144, .inl (fl (sI S.T.2.1))))], [(qs 10, .inl (cI, 4000, .inl fM))], [(qs 11, .inl (cJ, 4000, .inr (.inl fC)))], [(qs 12, .inl (cI, 4000, .inl fT))], [(qs 13, .inl (cI, 8, .inl (lI S.G.1)))], [(qs 14, .inl (cI, 8, .inl S.G.2.1))], [(qs 15, .inl (cI, 96, .inl (fl (gN (rT (bm_up2 S.G.2.2.1 e9 g nx))))))], [(qs 16, .inl (cI, 901, .inl fD))], [(qs 17, .inl (cI, 901, .inl fX))], [(qs 18, .inl (cI, 144, .inl (fl MK)))], [(qs 19, .inl (cI, 144, .inl (fl MF)))]]) H := hP
                            have hD : va_D A (List.flatten [[rf_o h qs (nI 0) ma S.T.2.2.1.2.1 ca S.D.2.1.2.1 na S.G.2.2.2.1.2.1 S.D.1.2.1 S.D.2.2.1 S.D.2.2.2.1 S.D.2.2.2.2 S.lost], [(qs 0, .inl (cI, 12, .inl (lI S.eb)))], [(qs 1, .inl (cI, 144, .inl (fl (gN S.lk))))], [(qs 2, .inl (cI, 144, .inl (fl (gN wt))))], [(qs 3, .inl (cZ, 144, .inl (fl (kB S.kn))))], [(qs 4, .inl (cI, 1600, .inl fR))], [(qs 5, .inl (cI, 1600, .inl fN))], [(qs 6, .inl (cJ, 1600, .inr (.inl fL)))], [(qs 7, .inl (cJ, 1600, .inr (.inl fH)))], [(qs 8, .inl (cZ, 1600, .inl (dB uf)))], [(qs 9, .inl (cI, 144, .inl (fl (sI S.T.2.1))))], [(qs 10, .inl (cI, 4000, .inl fM))], [(qs 11, .inl (cJ, 4000, .inr (.inl fC)))], [(qs 12, .inl (cI, 4000, .inl fT))], [(qs 13, .inl (cI, 8, .inl (lI S.G.1)))], [(qs 14, .inl (cI, 8, .inl S.G.2.1))], [(qs 15, .inl (cI, 96, .inl (fl (gN (rT (bm_up2 S.G.2.2.1 e9 g nx))))))], [(qs 16, .inl (cI, 901, .inl fD))], [(qs 17, .inl (cI, 901, .inl fX))], [(qs 18, .inl (cI, 144, .inl (fl MK)))], [(qs 19, .inl (cI, 144, .inl (fl MF)))]]) := hD
                            refine lv_iload hx hb d_Ref_join_179 (lv_at hl 0 rfl) ?_
                            refine ri_if_eq hx hb (by omega) d_Ref_join_181 (tgt := 190) (by decide) (fun h133 => ?_) (fun h133 => ?_)
                            · refine lv_iload hx hb d_Ref_join_190 (lv_at hl 2 rfl) ?_
                              have hnn : ¬ bm_news S.G.1 S.G.2.2.1 e9 g nx := fun z => by first | exact z.1 ((oI_lt (fun b z => Nat.lt_trans (hgi.2.2.1 _ b z) (by decide))).mp h112) | exact z.2 (by omega)
                              have hrec : bm_rec S.eb e9 g nx S.G = (bm_count e9 g nx S.G) := if_neg (by rw [bP_f hnn]; decide)
                              exact ct_iret hQ hx hb hr hlk hP hD hS hK (by omega) (by omega) d_Ref_join_192 ⟨rfl, ⟨qs, ma, ca, na, wt, fR, fN, fL, fH, uf, fM, fC, fT, fD, fX, MK, MF, (by unfold bm_joi; rw [hrec]; first | done | rfl), hwt, hAd, hM, hC, (by show nr_R _ _ (bm_rec S.eb e9 g nx S.G).2.2.2.1; rw [hrec]; exact hN), hPd⟩⟩
                            · exact absurd h133 (by decide)
                          · exact absurd h132 (by decide)
                        · exact absurd h131 (by decide)
                · exact absurd h111 (by decide)
      · refine lv_iload_n hx hb d_Ref_join_20 rfl (lv_at hl 3 rfl) ?_
        refine lv_iconst (v := (-1)) hx hb d_Ref_join_21 (by decide) ?_
        refine lv_icmp_ne hx hb d_Ref_join_22 (tgt := 29) (by decide) (fun h22 => ?_) (fun h22 => ?_)
        · exact absurd h22 (fun z => by rcases hdl with q | q; exact h17 q; exact z q)
        · refine lv_iconst (v := nI 1) hx hb d_Ref_join_25 (by decide) ?_
          refine lv_goto hx hb d_Ref_join_26 (tgt := 30) (by decide) ?_
          refine lv_istore hx hb d_Ref_join_30 hl (by decide) rfl (fun ls hl => ?_)
          have hl : lv_has ls 8 [(4, .int (nI 1)), (0, .ref h), (1, .int (nI e9)), (2, .int (nI g)), (3, .int dl)] := hl
          refine lv_iload hx hb d_Ref_join_32 (lv_at hl 0 rfl) ?_
          refine ri_if_eq hx hb (by omega) d_Ref_join_34 (tgt := 51) (by decide) (fun h135 => ?_) (fun h135 => ?_)
          · exact absurd h135 (by decide)
          · refine lv_aload_n hx hb d_Ref_join_37 rfl (lv_at hl 1 rfl) ?_
            refine va_get (D := D) (ci := 9) (v := .ref (qs 15)) (C := R_Ref) (T := T_Ref) (N := 32) hx hb ht in_Ref hown hK hP 0 rfl rfl 22 (by decide) (ht _ kl_Ref_57) (fun _ h9 => h9) rfl d_Ref_join_38 ?_
            refine lv_bipush (v := nI 12) hx hb d_Ref_join_41 (by decide) ?_
            refine lv_iload_n hx hb d_Ref_join_43 rfl (lv_at hl 3 rfl) ?_
            refine ri_imul hx hb d_Ref_join_44 ?_
            refine lv_iload_n hx hb d_Ref_join_45 rfl (lv_at hl 2 rfl) ?_
            refine ri_iadd hx hb d_Ref_join_46 ?_
            refine ri_iald hx hb hK hP 16 0 rfl rfl (j := (12 * g) + e9) (by omega) (by omega) d_Ref_join_47 ?_
            refine W.eq (g2 := F0 m 48 ls [.int (nI ((rT S.G.2.2.1) g e9))]) (congrArg (fun z => F0 m 48 ls (.int z :: [])) (fl_at (a := g) (b := e9) (by omega))) ?_
            refine W.eq (g2 := F0 m 48 ls [.int (nI (S.G.2.2.1 e9 g))]) (congrArg (fun z => F0 m 48 ls (.int z :: [])) (rfl)) ?_
            refine lv_goto hx hb d_Ref_join_48 (tgt := 52) (by decide) ?_
            refine lv_istore hx hb d_Ref_join_52 hl (by decide) rfl (fun ls hl => ?_)
            have hl : lv_has ls 8 [(5, .int (nI (S.G.2.2.1 e9 g))), (4, .int (nI 1)), (0, .ref h), (1, .int (nI e9)), (2, .int (nI g)), (3, .int dl)] := hl
            refine lv_iload hx hb d_Ref_join_54 (lv_at hl 0 rfl) ?_
            refine lv_iload_n hx hb d_Ref_join_56 rfl (lv_at hl 5 rfl) ?_
            refine lv_iadd hx hb d_Ref_join_57 ?_
            refine W.eq (g2 := F0 m 58 ls [.int (nI nx)]) (congrArg (fun z => F0 m 58 ls (.int z :: [])) (hsum)) ?_
            refine lv_istore hx hb d_Ref_join_58 hl (by decide) rfl (fun ls hl => ?_)
            have hl : lv_has ls 8 [(6, .int (nI nx)), (5, .int (nI (S.G.2.2.1 e9 g))), (4, .int (nI 1)), (0, .ref h), (1, .int (nI e9)), (2, .int (nI g)), (3, .int dl)] := hl
            refine lv_iload hx hb d_Ref_join_60 (lv_at hl 2 rfl) ?_
            refine ri_if_eq hx hb (by omega) d_Ref_join_62 (tgt := 82) (by decide) (fun h136 => ?_) (fun h136 => ?_)
            · exact absurd h136 (by decide)
            · refine lv_iload hx hb d_Ref_join_65 (lv_at hl 0 rfl) ?_
              refine lv_i2l (v := lN nx) hx hb d_Ref_join_67 (nI_l (by omega)) ?_
              refine lv_lconst (v := lN 0) hx hb d_Ref_join_68 rfl ?_
              refine lv_ldc2 (v := lN 100) hx hb hown (ht _ kl_Ref_157) d_Ref_join_69 ?_
              refine ct_rdS (As := [.long (lN nx), .long (lN 0), .long (lN 100)]) (rest := []) ⟨hx, hb, hml, hown, ht⟩ (k_Ref_in l D cI cZ cJ cG (lN nx) (lN 0) (lN 100)) (cb_S ht kc_Ref_in kl_Ref_78 kn_Ref ki_Ref_in hd_Ref_in ⟨Nat.le_of_ble_eq_true rfl, Nat.le_of_ble_eq_true rfl⟩) (wd_ct (Bs := [[rf_o h qs cd ma S.T.2.2.1.2.1 ca S.D.2.1.2.1 na S.G.2.2.2.1.2.1 S.D.1.2.1 S.D.2.2.1 S.D.2.2.2.1 S.D.2.2.2.2 S.lost], [(qs 0, .inl (cI, 12, .inl (lI S.eb)))], [(qs 1, .inl (cI, 144, .inl (fl (gN S.lk))))], [(qs 2, .inl (cI, 144, .inl (fl (gN wt))))], [(qs 3, .inl (cZ, 144, .inl (fl (kB S.kn))))], [(qs 4, .inl (cI, 1600, .inl fR))], [(qs 5, .inl (cI, 1600, .inl fN))], [(qs 6, .inl (cJ, 1600, .inr (.inl fL)))], [(qs 7, .inl (cJ, 1600, .inr (.inl fH)))], [(qs 8, .inl (cZ, 1600, .inl (dB uf)))], [(qs 9, .inl (cI, 144, .inl (fl (sI S.T.2.1))))], [(qs 10, .inl (cI, 4000, .inl fM))], [(qs 11, .inl (cJ, 4000, .inr (.inl fC)))], [(qs 12, .inl (cI, 4000, .inl fT))], [(qs 13, .inl (cI, 8, .inl (lI S.G.1)))], [(qs 14, .inl (cI, 8, .inl S.G.2.1))], [(qs 15, .inl (cI, 96, .inl (fl (gN (rT S.G.2.2.1)))))], [(qs 16, .inl (cI, 901, .inl fD))], [(qs 17, .inl (cI, 901, .inl fX))], [(qs 18, .inl (cI, 144, .inl (fl MK)))], [(qs 19, .inl (cI, 144, .inl (fl MF)))]]) 21 rfl [] [0, 1, 2, 3, 4, 5, 6, 7, 8, 9, 10, 11, 12, 13, 14, 15, 16, 17, 18, 19, 20] (by decide) rfl) hK hP hD hS hA rfl hl.1 rfl (Nat.le_of_ble_eq_true rfl) ⟨(show 0 + 0 ≤ 0 by omega), (show 0 + 0 ≤ 0 by omega)⟩ d_Ref_join_72 (fun rhr137 H locs hr137 hP hD hS => ?_)
              subst hr137
              refine W.eq (g2 := F0 m 75 ls [.int (bI true)]) (congrArg (fun z => F0 m 75 ls (.int z :: [])) (congrArg bI (decide_eq_true ⟨(lN_le (by decide) (show nx < 2 ^ 31 by omega)).mpr (Nat.zero_le _), (lN_le (show nx < 2 ^ 31 by omega) (by decide)).mpr hnx⟩))) ?_
              refine ri_ifeqB hx hb d_Ref_join_75 (tgt := 82) (by decide) (fun h138 => ?_) (fun h138 => ?_)
              · exact absurd h138 (fun z => by cases z)
              · refine lv_iconst (v := nI 1) hx hb d_Ref_join_78 (by decide) ?_
                refine lv_goto hx hb d_Ref_join_79 (tgt := 83) (by decide) ?_
                refine lv_istore hx hb d_Ref_join_83 hl (by decide) rfl (fun ls hl => ?_)
                have hl : lv_has ls 8 [(4, .int (nI 1)), (6, .int (nI nx)), (5, .int (nI (S.G.2.2.1 e9 g))), (0, .ref h), (1, .int (nI e9)), (2, .int (nI g)), (3, .int dl)] := hl
                refine lv_aload_n hx hb d_Ref_join_85 rfl (lv_at hl 3 rfl) ?_
                refine lv_iload hx hb d_Ref_join_86 (lv_at hl 0 rfl) ?_
                refine ri_if_eq hx hb (by omega) d_Ref_join_88 (tgt := 95) (by decide) (fun h139 => ?_) (fun h139 => ?_)
                · exact absurd h139 (by decide)
                · refine lv_iconst (v := nI 0) hx hb d_Ref_join_91 (by decide) ?_
                  refine lv_goto hx hb d_Ref_join_92 (tgt := 96) (by decide) ?_
                  refine va_put (D := D) (ci := 9) (v := .int (nI 0)) (ty := .int) (C := R_Ref) (T := T_Ref) (N := 32) hx hb ht in_Ref t_Ref ok_Ref nm_Ref hown hK hP hD hS 0 rfl rfl 0 (by decide) (ht _ kl_Ref_72) (fun _ h9 => h9) rfl (by decide +kernel) rfl rfl (Nat.le_of_ble_eq_true rfl) d_Ref_join_96 (fun H locs hP hD hS => ?_)
                  have hP : va_P D kls (List.flatten [[rf_o h qs (nI 0) ma S.T.2.2.1.2.1 ca S.D.2.1.2.1 na S.G.2.2.2.1.2.1 S.D.1.2.1 S.D.2.2.1 S.D.2.2.2.1 S.D.2.2.2.2 S.lost], [(qs 0, .inl (cI, 12, .inl (lI S.eb)))], [(qs 1, .inl (cI, 144, .inl (fl (gN S.lk))))], [(qs 2, .inl (cI, 144, .inl (fl (gN wt))))], [(qs 3, .inl (cZ, 144, .inl (fl (kB S.kn))))], [(qs 4, .inl (cI, 1600, .inl fR))], [(qs 5, .inl (cI, 1600, .inl fN))], [(qs 6, .inl (cJ, 1600, .inr (.inl fL)))], [(qs 7, .inl (cJ, 1600, .inr (.inl fH)))], [(qs 8, .inl (cZ, 1600, .inl (dB uf)))], [(qs 9, .inl (cI, 144, .inl (fl (sI S.T.2.1))))], [(qs 10, .inl (cI, 4000, .inl fM))], [(qs 11, .inl (cJ, 4000, .inr (.inl fC)))], [(qs 12, .inl (cI, 4000, .inl fT))], [(qs 13, .inl (cI, 8, .inl (lI S.G.1)))], [(qs 14, .inl (cI, 8, .inl S.G.2.1))], [(qs 15, .inl (cI, 96, .inl (fl (gN (rT S.G.2.2.1)))))], [(qs 16, .inl (cI, 901, .inl fD))], [(qs 17, .inl (cI, 901, .inl fX))], [(qs 18, .inl (cI, 144, .inl (fl MK)))], [(qs 19, .inl (cI, 144, .inl (fl MF)))]]) H := hP
                  have hD : va_D A (List.flatten [[rf_o h qs (nI 0) ma S.T.2.2.1.2.1 ca S.D.2.1.2.1 na S.G.2.2.2.1.2.1 S.D.1.2.1 S.D.2.2.1 S.D.2.2.2.1 S.D.2.2.2.2 S.lost], [(qs 0, .inl (cI, 12, .inl (lI S.eb)))], [(qs 1, .inl (cI, 144, .inl (fl (gN S.lk))))], [(qs 2, .inl (cI, 144, .inl (fl (gN wt))))], [(qs 3, .inl (cZ, 144, .inl (fl (kB S.kn))))], [(qs 4, .inl (cI, 1600, .inl fR))], [(qs 5, .inl (cI, 1600, .inl fN))], [(qs 6, .inl (cJ, 1600, .inr (.inl fL)))], [(qs 7, .inl (cJ, 1600, .inr (.inl fH)))], [(qs 8, .inl (cZ, 1600, .inl (dB uf)))], [(qs 9, .inl (cI, 144, .inl (fl (sI S.T.2.1))))], [(qs 10, .inl (cI, 4000, .inl fM))], [(qs 11, .inl (cJ, 4000, .inr (.inl fC)))], [(qs 12, .inl (cI, 4000, .inl fT))], [(qs 13, .inl (cI, 8, .inl (lI S.G.1)))], [(qs 14, .inl (cI, 8, .inl S.G.2.1))], [(qs 15, .inl (cI, 96, .inl (fl (gN (rT S.G.2.2.1)))))], [(qs 16, .inl (cI, 901, .inl fD))], [(qs 17, .inl (cI, 901, .inl fX))], [(qs 18, .inl (cI, 144, .inl (fl MK)))], [(qs 19, .inl (cI, 144, .inl (fl MF)))]]) := hD
                  refine lv_iload hx hb d_Ref_join_99 (lv_at hl 0 rfl) ?_
                  refine ri_if_ne hx hb (by omega) d_Ref_join_101 (tgt := 106) (by decide) (fun h140 => ?_) (fun h140 => ?_)
                  · have hrcj := hgi.1 e9 g
                    refine lv_aload_n hx hb d_Ref_join_106 rfl (lv_at hl 3 rfl) ?_
                    refine va_get (D := D) (ci := 9) (v := .ref (qs 13)) (C := R_Ref) (T := T_Ref) (N := 32) hx hb ht in_Ref hown hK hP 0 rfl rfl 20 (by decide) (ht _ kl_Ref_51) (fun _ h9 => h9) rfl d_Ref_join_107 ?_
                    refine lv_iload_n hx hb d_Ref_join_110 rfl (lv_at hl 5 rfl) ?_
                    refine ri_iald hx hb hK hP 14 0 rfl rfl (j := g) (by omega) (by omega) d_Ref_join_111 ?_
                    refine W.eq (g2 := F0 m 112 ls [.int (bm_oI (S.G.1 g))]) rfl ?_
                    refine lv_if_lt hx hb d_Ref_join_112 (tgt := 142) (by decide) (fun h112 => ?_) (fun h112 => ?_)
                    · refine lv_iconst (v := nI 0) hx hb d_Ref_join_142 (by decide) ?_
                      refine lv_istore hx hb d_Ref_join_143 hl (by decide) rfl (fun ls hl => ?_)
                      have hl : lv_has ls 8 [(7, .int (nI 0)), (4, .int (nI 1)), (6, .int (nI nx)), (5, .int (nI (S.G.2.2.1 e9 g))), (0, .ref h), (1, .int (nI e9)), (2, .int (nI g)), (3, .int dl)] := hl
                      refine lv_iload hx hb d_Ref_join_145 (lv_at hl 0 rfl) ?_
                      refine ri_if_eq hx hb (by omega) d_Ref_join_147 (tgt := 166) (by decide) (fun h142 => ?_) (fun h142 => ?_)
                      · refine lv_aload_n hx hb d_Ref_join_166 rfl (lv_at hl 4 rfl) ?_
                        refine va_get (D := D) (ci := 9) (v := .ref (qs 15)) (C := R_Ref) (T := T_Ref) (N := 32) hx hb ht in_Ref hown hK hP 0 rfl rfl 22 (by decide) (ht _ kl_Ref_57) (fun _ h9 => h9) rfl d_Ref_join_167 ?_
                        refine lv_bipush (v := nI 12) hx hb d_Ref_join_170 (by decide) ?_
                        refine lv_iload_n hx hb d_Ref_join_172 rfl (lv_at hl 6 rfl) ?_
                        refine ri_imul hx hb d_Ref_join_173 ?_
                        refine lv_iload_n hx hb d_Ref_join_174 rfl (lv_at hl 5 rfl) ?_
                        refine ri_iadd hx hb d_Ref_join_175 ?_
                        refine lv_iload hx hb d_Ref_join_176 (lv_at hl 2 rfl) ?_
                        refine ri_iast hx hb hK hP hD hS 16 0 rfl rfl (j := (12 * g) + e9) (by omega) (by omega) d_Ref_join_178 (fun H locs hP hD hS => ?_)
                        rw [fl_up (a := g) (b := e9) (show e9 < 12 by omega)] at hP hD
                        rw [gN_up] at hP hD
                        have hP : va_P D kls (List.flatten [[rf_o h qs (nI 0) ma S.T.2.2.1.2.1 ca S.D.2.1.2.1 na S.G.2.2.2.1.2.1 S.D.1.2.1 S.D.2.2.1 S.D.2.2.2.1 S.D.2.2.2.2 S.lost], [(qs 0, .inl (cI, 12, .inl (lI S.eb)))], [(qs 1, .inl (cI, 144, .inl (fl (gN S.lk))))], [(qs 2, .inl (cI, 144, .inl (fl (gN wt))))], [(qs 3, .inl (cZ, 144, .inl (fl (kB S.kn))))], [(qs 4, .inl (cI, 1600, .inl fR))], [(qs 5, .inl (cI, 1600, .inl fN))], [(qs 6, .inl (cJ, 1600, .inr (.inl fL)))], [(qs 7, .inl (cJ, 1600, .inr (.inl fH)))], [(qs 8, .inl (cZ, 1600, .inl (dB uf)))], [(qs 9, .inl (cI, 144, .inl (fl (sI S.T.2.1))))], [(qs 10, .inl (cI, 4000, .inl fM))], [(qs 11, .inl (cJ, 4000, .inr (.inl fC)))], [(qs 12, .inl (cI, 4000, .inl fT))], [(qs 13, .inl (cI, 8, .inl (lI S.G.1)))], [(qs 14, .inl (cI, 8, .inl S.G.2.1))], [(qs 15, .inl (cI, 96, .inl (fl (gN (bm_up2 (rT S.G.2.2.1) g e9 nx)))))], [(qs 16, .inl (cI, 901, .inl fD))], [(qs 17, .inl (cI, 901, .inl fX))], [(qs 18, .inl (cI, 144, .inl (fl MK)))], [(qs 19, .inl (cI, 144, .inl (fl MF)))]]) H := hP
                        have hD : va_D A (List.flatten [[rf_o h qs (nI 0) ma S.T.2.2.1.2.1 ca S.D.2.1.2.1 na S.G.2.2.2.1.2.1 S.D.1.2.1 S.D.2.2.1 S.D.2.2.2.1 S.D.2.2.2.2 S.lost], [(qs 0, .inl (cI, 12, .inl (lI S.eb)))], [(qs 1, .inl (cI, 144, .inl (fl (gN S.lk))))], [(qs 2, .inl (cI, 144, .inl (fl (gN wt))))], [(qs 3, .inl (cZ, 144, .inl (fl (kB S.kn))))], [(qs 4, .inl (cI, 1600, .inl fR))], [(qs 5, .inl (cI, 1600, .inl fN))], [(qs 6, .inl (cJ, 1600, .inr (.inl fL)))], [(qs 7, .inl (cJ, 1600, .inr (.inl fH)))], [(qs 8, .inl (cZ, 1600, .inl (dB uf)))], [(qs 9, .inl (cI, 144, .inl (fl (sI S.T.2.1))))], [(qs 10, .inl (cI, 4000, .inl fM))], [(qs 11, .inl (cJ, 4000, .inr (.inl fC)))], [(qs 12, .inl (cI, 4000, .inl fT))], [(qs 13, .inl (cI, 8, .inl (lI S.G.1)))], [(qs 14, .inl (cI, 8, .inl S.G.2.1))], [(qs 15, .inl (cI, 96, .inl (fl (gN (bm_up2 (rT S.G.2.2.1) g e9 nx)))))], [(qs 16, .inl (cI, 901, .inl fD))], [(qs 17, .inl (cI, 901, .inl fX))], [(qs 18, .inl (cI, 144, .inl (fl MK)))], [(qs 19, .inl (cI, 144, .inl (fl MF)))]]) := hD
                        rw [rT_up] at hP hD
                        have hP : va_P D kls (List.flatten [[rf_o h qs (nI 0) ma S.T.2.2.1.2.1 ca S.D.2.1.2.1 na S.G.2.2.2.1.2.1 S.D.1.2.1 S.D.2.2.1 S.D.2.2.2.1 S.D.2.2.2.2 S.lost], [(qs 0, .inl (cI, 12, .inl (lI S.eb)))], [(qs 1, .inl (cI, 144, .inl (fl (gN S.lk))))], [(qs 2, .inl (cI, 144, .inl (fl (gN wt))))], [(qs 3, .inl (cZ, 144, .inl (fl (kB S.kn))))], [(qs 4, .inl (cI, 1600, .inl fR))], [(qs 5, .inl (cI, 1600, .inl fN))], [(qs 6, .inl (cJ, 1600, .inr (.inl fL)))], [(qs 7, .inl (cJ, 1600, .inr (.inl fH)))], [(qs 8, .inl (cZ, 1600, .inl (dB uf)))], [(qs 9, .inl (cI, 144, .inl (fl (sI S.T.2.1))))], [(qs 10, .inl (cI, 4000, .inl fM))], [(qs 11, .inl (cJ, 4000, .inr (.inl fC)))], [(qs 12, .inl (cI, 4000, .inl fT))], [(qs 13, .inl (cI, 8, .inl (lI S.G.1)))], [(qs 14, .inl (cI, 8, .inl S.G.2.1))], [(qs 15, .inl (cI, 96, .inl (fl (gN (rT (bm_up2 S.G.2.2.1 e9 g nx))))))], [(qs 16, .inl (cI, 901, .inl fD))], [(qs 17, .inl (cI, 901, .inl fX))], [(qs 18, .inl (cI, 144, .inl (fl MK)))], [(qs 19, .inl (cI, 144, .inl (fl MF)))]]) H := hP
                        have hD : va_D A (List.flatten [[rf_o h qs (nI 0) ma S.T.2.2.1.2.1 ca S.D.2.1.2.1 na S.G.2.2.2.1.2.1 S.D.1.2.1 S.D.2.2.1 S.D.2.2.2.1 S.D.2.2.2.2 S.lost], [(qs 0, .inl (cI, 12, .inl (lI S.eb)))], [(qs 1, .inl (cI, 144, .inl (fl (gN S.lk))))], [(qs 2, .inl (cI, 144, .inl (fl (gN wt))))], [(qs 3, .inl (cZ, 144, .inl (fl (kB S.kn))))], [(qs 4, .inl (cI, 1600, .inl fR))], [(qs 5, .inl (cI, 1600, .inl fN))], [(qs 6, .inl (cJ, 1600, .inr (.inl fL)))], [(qs 7, .inl (cJ, 1600, .inr (.inl fH)))], [(qs 8, .inl (cZ, 1600, .inl (dB uf)))], [(qs 9, .inl (cI, 144, .inl (fl (sI S.T.2.1))))], [(qs 10, .inl (cI, 4000, .inl fM))], [(qs 11, .inl (cJ, 4000, .inr (.inl fC)))], [(qs 12, .inl (cI, 4000, .inl fT))], [(qs 13, .inl (cI, 8, .inl (lI S.G.1)))], [(qs 14, .inl (cI, 8, .inl S.G.2.1))], [(qs 15, .inl (cI, 96, .inl (fl (gN (rT (bm_up2 S.G.2.2.1 e9 g nx))))))], [(qs 16, .inl (cI, 901, .inl fD))], [(qs 17, .inl (cI, 901, .inl fX))], [(qs 18, .inl (cI, 144, .inl (fl MK)))], [(qs 19, .inl (cI, 144, .inl (fl MF)))]]) := hD
                        refine lv_iload hx hb d_Ref_join_179 (lv_at hl 0 rfl) ?_
                        refine ri_if_eq hx hb (by omega) d_Ref_join_181 (tgt := 190) (by decide) (fun h143 => ?_) (fun h143 => ?_)
                        · refine lv_iload hx hb d_Ref_join_190 (lv_at hl 2 rfl) ?_
                          have hnn : ¬ bm_news S.G.1 S.G.2.2.1 e9 g nx := fun z => by first | exact z.1 ((oI_lt (fun b z => Nat.lt_trans (hgi.2.2.1 _ b z) (by decide))).mp h112) | exact z.2 (by omega)
                          have hrec : bm_rec S.eb e9 g nx S.G = (bm_count e9 g nx S.G) := if_neg (by rw [bP_f hnn]; decide)
                          exact ct_iret hQ hx hb hr hlk hP hD hS hK (by omega) (by omega) d_Ref_join_192 ⟨rfl, ⟨qs, ma, ca, na, wt, fR, fN, fL, fH, uf, fM, fC, fT, fD, fX, MK, MF, (by unfold bm_joi; rw [hrec]; first | done | rfl), hwt, hAd, hM, hC, (by show nr_R _ _ (bm_rec S.eb e9 g nx S.G).2.2.2.1; rw [hrec]; exact hN), hPd⟩⟩
                        · exact absurd h143 (by decide)
                      · exact absurd h142 (by decide)
                    · refine lv_iload hx hb d_Ref_join_115 (lv_at hl 2 rfl) ?_
                      refine ri_if_le hx hb (by omega) d_Ref_join_117 (tgt := 124) (by decide) (fun h117 => ?_) (fun h117 => ?_)
                      · refine lv_iconst (v := nI 0) hx hb d_Ref_join_124 (by decide) ?_
                        refine lv_iload hx hb d_Ref_join_125 (lv_at hl 1 rfl) ?_
                        refine ri_if_le hx hb (by omega) d_Ref_join_127 (tgt := 134) (by decide) (fun h127 => ?_) (fun h127 => ?_)
                        · refine lv_iconst (v := nI 0) hx hb d_Ref_join_134 (by decide) ?_
                          refine ri_icmp_eq hx hb (by omega) (by omega) d_Ref_join_135 (tgt := 142) (by decide) (fun h146 => ?_) (fun h146 => ?_)
                          · refine lv_iconst (v := nI 0) hx hb d_Ref_join_142 (by decide) ?_
                            refine lv_istore hx hb d_Ref_join_143 hl (by decide) rfl (fun ls hl => ?_)
                            have hl : lv_has ls 8 [(7, .int (nI 0)), (4, .int (nI 1)), (6, .int (nI nx)), (5, .int (nI (S.G.2.2.1 e9 g))), (0, .ref h), (1, .int (nI e9)), (2, .int (nI g)), (3, .int dl)] := hl
                            refine lv_iload hx hb d_Ref_join_145 (lv_at hl 0 rfl) ?_
                            refine ri_if_eq hx hb (by omega) d_Ref_join_147 (tgt := 166) (by decide) (fun h147 => ?_) (fun h147 => ?_)
                            · refine lv_aload_n hx hb d_Ref_join_166 rfl (lv_at hl 4 rfl) ?_
                              refine va_get (D := D) (ci := 9) (v := .ref (qs 15)) (C := R_Ref) (T := T_Ref) (N := 32) hx hb ht in_Ref hown hK hP 0 rfl rfl 22 (by decide) (ht _ kl_Ref_57) (fun _ h9 => h9) rfl d_Ref_join_167 ?_
                              refine lv_bipush (v := nI 12) hx hb d_Ref_join_170 (by decide) ?_
                              refine lv_iload_n hx hb d_Ref_join_172 rfl (lv_at hl 6 rfl) ?_
                              refine ri_imul hx hb d_Ref_join_173 ?_
                              refine lv_iload_n hx hb d_Ref_join_174 rfl (lv_at hl 5 rfl) ?_
                              refine ri_iadd hx hb d_Ref_join_175 ?_
                              refine lv_iload hx hb d_Ref_join_176 (lv_at hl 2 rfl) ?_
                              refine ri_iast hx hb hK hP hD hS 16 0 rfl rfl (j := (12 * g) + e9) (by omega) (by omega) d_Ref_join_178 (fun H locs hP hD hS => ?_)
                              rw [fl_up (a := g) (b := e9) (show e9 < 12 by omega)] at hP hD
                              rw [gN_up] at hP hD
                              have hP : va_P D kls (List.flatten [[rf_o h qs (nI 0) ma S.T.2.2.1.2.1 ca S.D.2.1.2.1 na S.G.2.2.2.1.2.1 S.D.1.2.1 S.D.2.2.1 S.D.2.2.2.1 S.D.2.2.2.2 S.lost], [(qs 0, .inl (cI, 12, .inl (lI S.eb)))], [(qs 1, .inl (cI, 144, .inl (fl (gN S.lk))))], [(qs 2, .inl (cI, 144, .inl (fl (gN wt))))], [(qs 3, .inl (cZ, 144, .inl (fl (kB S.kn))))], [(qs 4, .inl (cI, 1600, .inl fR))], [(qs 5, .inl (cI, 1600, .inl fN))], [(qs 6, .inl (cJ, 1600, .inr (.inl fL)))], [(qs 7, .inl (cJ, 1600, .inr (.inl fH)))], [(qs 8, .inl (cZ, 1600, .inl (dB uf)))], [(qs 9, .inl (cI, 144, .inl (fl (sI S.T.2.1))))], [(qs 10, .inl (cI, 4000, .inl fM))], [(qs 11, .inl (cJ, 4000, .inr (.inl fC)))], [(qs 12, .inl (cI, 4000, .inl fT))], [(qs 13, .inl (cI, 8, .inl (lI S.G.1)))], [(qs 14, .inl (cI, 8, .inl S.G.2.1))], [(qs 15, .inl (cI, 96, .inl (fl (gN (bm_up2 (rT S.G.2.2.1) g e9 nx)))))], [(qs 16, .inl (cI, 901, .inl fD))], [(qs 17, .inl (cI, 901, .inl fX))], [(qs 18, .inl (cI, 144, .inl (fl MK)))], [(qs 19, .inl (cI, 144, .inl (fl MF)))]]) H := hP
                              have hD : va_D A (List.flatten [[rf_o h qs (nI 0) ma S.T.2.2.1.2.1 ca S.D.2.1.2.1 na S.G.2.2.2.1.2.1 S.D.1.2.1 S.D.2.2.1 S.D.2.2.2.1 S.D.2.2.2.2 S.lost], [(qs 0, .inl (cI, 12, .inl (lI S.eb)))], [(qs 1, .inl (cI, 144, .inl (fl (gN S.lk))))], [(qs 2, .inl (cI, 144, .inl (fl (gN wt))))], [(qs 3, .inl (cZ, 144, .inl (fl (kB S.kn))))], [(qs 4, .inl (cI, 1600, .inl fR))], [(qs 5, .inl (cI, 1600, .inl fN))], [(qs 6, .inl (cJ, 1600, .inr (.inl fL)))], [(qs 7, .inl (cJ, 1600, .inr (.inl fH)))], [(qs 8, .inl (cZ, 1600, .inl (dB uf)))], [(qs 9, .inl (cI, 144, .inl (fl (sI S.T.2.1))))], [(qs 10, .inl (cI, 4000, .inl fM))], [(qs 11, .inl (cJ, 4000, .inr (.inl fC)))], [(qs 12, .inl (cI, 4000, .inl fT))], [(qs 13, .inl (cI, 8, .inl (lI S.G.1)))], [(qs 14, .inl (cI, 8, .inl S.G.2.1))], [(qs 15, .inl (cI, 96, .inl (fl (gN (bm_up2 (rT S.G.2.2.1) g e9 nx)))))], [(qs 16, .inl (cI, 901, .inl fD))], [(qs 17, .inl (cI, 901, .inl fX))], [(qs 18, .inl (cI, 144, .inl (fl MK)))], [(qs 19, .inl (cI, 144, .inl (fl MF)))]]) := hD
                              rw [rT_up] at hP hD
                              have hP : va_P D kls (List.flatten [[rf_o h qs (nI 0) ma S.T.2.2.1.2.1 ca S.D.2.1.2.1 na S.G.2.2.2.1.2.1 S.D.1.2.1 S.D.2.2.1 S.D.2.2.2.1 S.D.2.2.2.2 S.lost], [(qs 0, .inl (cI, 12, .inl (lI S.eb)))], [(qs 1, .inl (cI, 144, .inl (fl (gN S.lk))))], [(qs 2, .inl (cI, 144, .inl (fl (gN wt))))], [(qs 3, .inl (cZ, 144, .inl (fl (kB S.kn))))], [(qs 4, .inl (cI, 1600, .inl fR))], [(qs 5, .inl (cI, 1600, .inl fN))], [(qs 6, .inl (cJ, 1600, .inr (.inl fL)))], [(qs 7, .inl (cJ, 1600, .inr (.inl fH)))], [(qs 8, .inl (cZ, 1600, .inl (dB uf)))], [(qs 9, .inl (cI, 144, .inl (fl (sI S.T.2.1))))], [(qs 10, .inl (cI, 4000, .inl fM))], [(qs 11, .inl (cJ, 4000, .inr (.inl fC)))], [(qs 12, .inl (cI, 4000, .inl fT))], [(qs 13, .inl (cI, 8, .inl (lI S.G.1)))], [(qs 14, .inl (cI, 8, .inl S.G.2.1))], [(qs 15, .inl (cI, 96, .inl (fl (gN (rT (bm_up2 S.G.2.2.1 e9 g nx))))))], [(qs 16, .inl (cI, 901, .inl fD))], [(qs 17, .inl (cI, 901, .inl fX))], [(qs 18, .inl (cI, 144, .inl (fl MK)))], [(qs 19, .inl (cI, 144, .inl (fl MF)))]]) H := hP
                              have hD : va_D A (List.flatten [[rf_o h qs (nI 0) ma S.T.2.2.1.2.1 ca S.D.2.1.2.1 na S.G.2.2.2.1.2.1 S.D.1.2.1 S.D.2.2.1 S.D.2.2.2.1 S.D.2.2.2.2 S.lost], [(qs 0, .inl (cI, 12, .inl (lI S.eb)))], [(qs 1, .inl (cI, 144, .inl (fl (gN S.lk))))], [(qs 2, .inl (cI, 144, .inl (fl (gN wt))))], [(qs 3, .inl (cZ, 144, .inl (fl (kB S.kn))))], [(qs 4, .inl (cI, 1600, .inl fR))], [(qs 5, .inl (cI, 1600, .inl fN))], [(qs 6, .inl (cJ, 1600, .inr (.inl fL)))], [(qs 7, .inl (cJ, 1600, .inr (.inl fH)))], [(qs 8, .inl (cZ, 1600, .inl (dB uf)))], [(qs 9, .inl (cI, 144, .inl (fl (sI S.T.2.1))))], [(qs 10, .inl (cI, 4000, .inl fM))], [(qs 11, .inl (cJ, 4000, .inr (.inl fC)))], [(qs 12, .inl (cI, 4000, .inl fT))], [(qs 13, .inl (cI, 8, .inl (lI S.G.1)))], [(qs 14, .inl (cI, 8, .inl S.G.2.1))], [(qs 15, .inl (cI, 96, .inl (fl (gN (rT (bm_up2 S.G.2.2.1 e9 g nx))))))], [(qs 16, .inl (cI, 901, .inl fD))], [(qs 17, .inl (cI, 901, .inl fX))], [(qs 18, .inl (cI, 144, .inl (fl MK)))], [(qs 19, .inl (cI, 144, .inl (fl MF)))]]) := hD
                              refine lv_iload hx hb d_Ref_join_179 (lv_at hl 0 rfl) ?_
                              refine ri_if_eq hx hb (by omega) d_Ref_join_181 (tgt := 190) (by decide) (fun h148 => ?_) (fun h148 => ?_)
                              · refine lv_iload hx hb d_Ref_join_190 (lv_at hl 2 rfl) ?_
                                have hnn : ¬ bm_news S.G.1 S.G.2.2.1 e9 g nx := fun z => by first | exact z.1 ((oI_lt (fun b z => Nat.lt_trans (hgi.2.2.1 _ b z) (by decide))).mp h112) | exact z.2 (by omega)
                                have hrec : bm_rec S.eb e9 g nx S.G = (bm_count e9 g nx S.G) := if_neg (by rw [bP_f hnn]; decide)
                                exact ct_iret hQ hx hb hr hlk hP hD hS hK (by omega) (by omega) d_Ref_join_192 ⟨rfl, ⟨qs, ma, ca, na, wt, fR, fN, fL, fH, uf, fM, fC, fT, fD, fX, MK, MF, (by unfold bm_joi; rw [hrec]; first | done | rfl), hwt, hAd, hM, hC, (by show nr_R _ _ (bm_rec S.eb e9 g nx S.G).2.2.2.1; rw [hrec]; exact hN), hPd⟩⟩
                              · exact absurd h148 (by decide)
                            · exact absurd h147 (by decide)
                          · exact absurd h146 (by decide)
                        · refine lv_iconst (v := nI 1) hx hb d_Ref_join_130 (by decide) ?_
                          refine lv_goto hx hb d_Ref_join_131 (tgt := 135) (by decide) ?_
                          refine ri_icmp_eq hx hb (by omega) (by omega) d_Ref_join_135 (tgt := 142) (by decide) (fun h149 => ?_) (fun h149 => ?_)
                          · exact absurd h149 (by decide)
                          · refine lv_iconst (v := nI 1) hx hb d_Ref_join_138 (by decide) ?_
                            refine lv_goto hx hb d_Ref_join_139 (tgt := 143) (by decide) ?_
                            refine lv_istore hx hb d_Ref_join_143 hl (by decide) rfl (fun ls hl => ?_)
                            have hl : lv_has ls 8 [(7, .int (nI 1)), (4, .int (nI 1)), (6, .int (nI nx)), (5, .int (nI (S.G.2.2.1 e9 g))), (0, .ref h), (1, .int (nI e9)), (2, .int (nI g)), (3, .int dl)] := hl
                            refine lv_iload hx hb d_Ref_join_145 (lv_at hl 0 rfl) ?_
                            refine ri_if_eq hx hb (by omega) d_Ref_join_147 (tgt := 166) (by decide) (fun h150 => ?_) (fun h150 => ?_)
                            · exact absurd h150 (by decide)
                            · have hnw : bm_news S.G.1 S.G.2.2.1 e9 g nx := ⟨fun z => h112 ((oI_lt (fun b z => Nat.lt_trans (hgi.2.2.1 _ b z) (by decide))).mpr z), by intro z; omega⟩
                              refine lv_aload_n hx hb d_Ref_join_150 rfl (lv_at hl 4 rfl) ?_
                              refine va_get (D := D) (ci := 9) (v := .int (nI S.G.2.2.2.1.2.1)) (C := R_Ref) (T := T_Ref) (N := 32) hx hb ht in_Ref hown hK hP 0 rfl rfl 18 (by decide) (ht _ kl_Ref_151) (fun _ h9 => h9) rfl d_Ref_join_151 ?_
                              refine lv_sipush (v := nI 4000) hx hb d_Ref_join_154 (by decide) ?_
                              refine ri_icmp_ne hx hb (by omega) (by omega) d_Ref_join_157 (tgt := 166) (by decide) (fun h157 => ?_) (fun h157 => ?_)
                              · refine lv_aload_n hx hb d_Ref_join_166 rfl (lv_at hl 4 rfl) ?_
                                refine va_get (D := D) (ci := 9) (v := .ref (qs 15)) (C := R_Ref) (T := T_Ref) (N := 32) hx hb ht in_Ref hown hK hP 0 rfl rfl 22 (by decide) (ht _ kl_Ref_57) (fun _ h9 => h9) rfl d_Ref_join_167 ?_
                                refine lv_bipush (v := nI 12) hx hb d_Ref_join_170 (by decide) ?_
                                refine lv_iload_n hx hb d_Ref_join_172 rfl (lv_at hl 6 rfl) ?_
                                refine ri_imul hx hb d_Ref_join_173 ?_
                                refine lv_iload_n hx hb d_Ref_join_174 rfl (lv_at hl 5 rfl) ?_
                                refine ri_iadd hx hb d_Ref_join_175 ?_
                                refine lv_iload hx hb d_Ref_join_176 (lv_at hl 2 rfl) ?_
                                refine ri_iast hx hb hK hP hD hS 16 0 rfl rfl (j := (12 * g) + e9) (by omega) (by omega) d_Ref_join_178 (fun H locs hP hD hS => ?_)
                                rw [fl_up (a := g) (b := e9) (show e9 < 12 by omega)] at hP hD
                                rw [gN_up] at hP hD
                                have hP : va_P D kls (List.flatten [[rf_o h qs (nI 0) ma S.T.2.2.1.2.1 ca S.D.2.1.2.1 na S.G.2.2.2.1.2.1 S.D.1.2.1 S.D.2.2.1 S.D.2.2.2.1 S.D.2.2.2.2 S.lost], [(qs 0, .inl (cI, 12, .inl (lI S.eb)))], [(qs 1, .inl (cI, 144, .inl (fl (gN S.lk))))], [(qs 2, .inl (cI, 144, .inl (fl (gN wt))))], [(qs 3, .inl (cZ, 144, .inl (fl (kB S.kn))))], [(qs 4, .inl (cI, 1600, .inl fR))], [(qs 5, .inl (cI, 1600, .inl fN))], [(qs 6, .inl (cJ, 1600, .inr (.inl fL)))], [(qs 7, .inl (cJ, 1600, .inr (.inl fH)))], [(qs 8, .inl (cZ, 1600, .inl (dB uf)))], [(qs 9, .inl (cI, 144, .inl (fl (sI S.T.2.1))))], [(qs 10, .inl (cI, 4000, .inl fM))], [(qs 11, .inl (cJ, 4000, .inr (.inl fC)))], [(qs 12, .inl (cI, 4000, .inl fT))], [(qs 13, .inl (cI, 8, .inl (lI S.G.1)))], [(qs 14, .inl (cI, 8, .inl S.G.2.1))], [(qs 15, .inl (cI, 96, .inl (fl (gN (bm_up2 (rT S.G.2.2.1) g e9 nx)))))], [(qs 16, .inl (cI, 901, .inl fD))], [(qs 17, .inl (cI, 901, .inl fX))], [(qs 18, .inl (cI, 144, .inl (fl MK)))], [(qs 19, .inl (cI, 144, .inl (fl MF)))]]) H := hP
                                have hD : va_D A (List.flatten [[rf_o h qs (nI 0) ma S.T.2.2.1.2.1 ca S.D.2.1.2.1 na S.G.2.2.2.1.2.1 S.D.1.2.1 S.D.2.2.1 S.D.2.2.2.1 S.D.2.2.2.2 S.lost], [(qs 0, .inl (cI, 12, .inl (lI S.eb)))], [(qs 1, .inl (cI, 144, .inl (fl (gN S.lk))))], [(qs 2, .inl (cI, 144, .inl (fl (gN wt))))], [(qs 3, .inl (cZ, 144, .inl (fl (kB S.kn))))], [(qs 4, .inl (cI, 1600, .inl fR))], [(qs 5, .inl (cI, 1600, .inl fN))], [(qs 6, .inl (cJ, 1600, .inr (.inl fL)))], [(qs 7, .inl (cJ, 1600, .inr (.inl fH)))], [(qs 8, .inl (cZ, 1600, .inl (dB uf)))], [(qs 9, .inl (cI, 144, .inl (fl (sI S.T.2.1))))], [(qs 10, .inl (cI, 4000, .inl fM))], [(qs 11, .inl (cJ, 4000, .inr (.inl fC)))], [(qs 12, .inl (cI, 4000, .inl fT))], [(qs 13, .inl (cI, 8, .inl (lI S.G.1)))], [(qs 14, .inl (cI, 8, .inl S.G.2.1))], [(qs 15, .inl (cI, 96, .inl (fl (gN (bm_up2 (rT S.G.2.2.1) g e9 nx)))))], [(qs 16, .inl (cI, 901, .inl fD))], [(qs 17, .inl (cI, 901, .inl fX))], [(qs 18, .inl (cI, 144, .inl (fl MK)))], [(qs 19, .inl (cI, 144, .inl (fl MF)))]]) := hD
                                rw [rT_up] at hP hD
                                have hP : va_P D kls (List.flatten [[rf_o h qs (nI 0) ma S.T.2.2.1.2.1 ca S.D.2.1.2.1 na S.G.2.2.2.1.2.1 S.D.1.2.1 S.D.2.2.1 S.D.2.2.2.1 S.D.2.2.2.2 S.lost], [(qs 0, .inl (cI, 12, .inl (lI S.eb)))], [(qs 1, .inl (cI, 144, .inl (fl (gN S.lk))))], [(qs 2, .inl (cI, 144, .inl (fl (gN wt))))], [(qs 3, .inl (cZ, 144, .inl (fl (kB S.kn))))], [(qs 4, .inl (cI, 1600, .inl fR))], [(qs 5, .inl (cI, 1600, .inl fN))], [(qs 6, .inl (cJ, 1600, .inr (.inl fL)))], [(qs 7, .inl (cJ, 1600, .inr (.inl fH)))], [(qs 8, .inl (cZ, 1600, .inl (dB uf)))], [(qs 9, .inl (cI, 144, .inl (fl (sI S.T.2.1))))], [(qs 10, .inl (cI, 4000, .inl fM))], [(qs 11, .inl (cJ, 4000, .inr (.inl fC)))], [(qs 12, .inl (cI, 4000, .inl fT))], [(qs 13, .inl (cI, 8, .inl (lI S.G.1)))], [(qs 14, .inl (cI, 8, .inl S.G.2.1))], [(qs 15, .inl (cI, 96, .inl (fl (gN (rT (bm_up2 S.G.2.2.1 e9 g nx))))))], [(qs 16, .inl (cI, 901, .inl fD))], [(qs 17, .inl (cI, 901, .inl fX))], [(qs 18, .inl (cI, 144, .inl (fl MK)))], [(qs 19, .inl (cI, 144, .inl (fl MF)))]]) H := hP
                                have hD : va_D A (List.flatten [[rf_o h qs (nI 0) ma S.T.2.2.1.2.1 ca S.D.2.1.2.1 na S.G.2.2.2.1.2.1 S.D.1.2.1 S.D.2.2.1 S.D.2.2.2.1 S.D.2.2.2.2 S.lost], [(qs 0, .inl (cI, 12, .inl (lI S.eb)))], [(qs 1, .inl (cI, 144, .inl (fl (gN S.lk))))], [(qs 2, .inl (cI, 144, .inl (fl (gN wt))))], [(qs 3, .inl (cZ, 144, .inl (fl (kB S.kn))))], [(qs 4, .inl (cI, 1600, .inl fR))], [(qs 5, .inl (cI, 1600, .inl fN))], [(qs 6, .inl (cJ, 1600, .inr (.inl fL)))], [(qs 7, .inl (cJ, 1600, .inr (.inl fH)))], [(qs 8, .inl (cZ, 1600, .inl (dB uf)))], [(qs 9, .inl (cI, 144, .inl (fl (sI S.T.2.1))))], [(qs 10, .inl (cI, 4000, .inl fM))], [(qs 11, .inl (cJ, 4000, .inr (.inl fC)))], [(qs 12, .inl (cI, 4000, .inl fT))], [(qs 13, .inl (cI, 8, .inl (lI S.G.1)))], [(qs 14, .inl (cI, 8, .inl S.G.2.1))], [(qs 15, .inl (cI, 96, .inl (fl (gN (rT (bm_up2 S.G.2.2.1 e9 g nx))))))], [(qs 16, .inl (cI, 901, .inl fD))], [(qs 17, .inl (cI, 901, .inl fX))], [(qs 18, .inl (cI, 144, .inl (fl MK)))], [(qs 19, .inl (cI, 144, .inl (fl MF)))]]) := hD
                                refine lv_iload hx hb d_Ref_join_179 (lv_at hl 0 rfl) ?_
                                refine ri_if_eq hx hb (by omega) d_Ref_join_181 (tgt := 190) (by decide) (fun h152 => ?_) (fun h152 => ?_)
                                · exact absurd h152 (by decide)
                                · refine lv_aload_n hx hb d_Ref_join_184 rfl (lv_at hl 4 rfl) ?_
                                  refine lv_iload_n hx hb d_Ref_join_185 rfl (lv_at hl 6 rfl) ?_
                                  refine lv_iload_n hx hb d_Ref_join_186 rfl (lv_at hl 5 rfl) ?_
                                  have hrcG : ∀ a b, (bm_count e9 g nx S.G).2.2.1 a b ≤ 100 := fun a b => by show (if a = e9 ∧ b = g then nx else S.G.2.2.1 a b) ≤ 100; split; (· exact hnx); (· exact hgi.1 a b)
                                  refine ct_callVV (C := R_Ref) (ci := 9) (As := [.int (nI g), .int (nI e9)]) (rest := []) ⟨hx, hb, hml, hown, ht⟩ (k_Ref_tell l D cI cZ cJ cG (rc := (bm_count e9 g nx S.G).2.2.1) (M := (bm_count e9 g nx S.G).2.2.2.1) hN (hroom.resolve_right (fun z => z hnw)) g e9 b (by omega) he hee (heb _ _ hee) hrcG) (cb_V ht kc_Ref_tell kl_Ref_163 kn_Ref ki_Ref_tell ks_Ref_tell hd_Ref_tell ⟨Nat.le_of_ble_eq_true rfl, Nat.le_of_ble_eq_true rfl⟩) (List.mem_of_getElem? (i := 0) rfl) rfl rfl (wd_ct (Bs := [[rf_o h qs (nI 0) ma S.T.2.2.1.2.1 ca S.D.2.1.2.1 na S.G.2.2.2.1.2.1 S.D.1.2.1 S.D.2.2.1 S.D.2.2.2.1 S.D.2.2.2.2 S.lost], [(qs 0, .inl (cI, 12, .inl (lI S.eb)))], [(qs 1, .inl (cI, 144, .inl (fl (gN S.lk))))], [(qs 2, .inl (cI, 144, .inl (fl (gN wt))))], [(qs 3, .inl (cZ, 144, .inl (fl (kB S.kn))))], [(qs 4, .inl (cI, 1600, .inl fR))], [(qs 5, .inl (cI, 1600, .inl fN))], [(qs 6, .inl (cJ, 1600, .inr (.inl fL)))], [(qs 7, .inl (cJ, 1600, .inr (.inl fH)))], [(qs 8, .inl (cZ, 1600, .inl (dB uf)))], [(qs 9, .inl (cI, 144, .inl (fl (sI S.T.2.1))))], [(qs 10, .inl (cI, 4000, .inl fM))], [(qs 11, .inl (cJ, 4000, .inr (.inl fC)))], [(qs 12, .inl (cI, 4000, .inl fT))], [(qs 13, .inl (cI, 8, .inl (lI S.G.1)))], [(qs 14, .inl (cI, 8, .inl S.G.2.1))], [(qs 15, .inl (cI, 96, .inl (fl (gN (rT (bm_up2 S.G.2.2.1 e9 g nx))))))], [(qs 16, .inl (cI, 901, .inl fD))], [(qs 17, .inl (cI, 901, .inl fX))], [(qs 18, .inl (cI, 144, .inl (fl MK)))], [(qs 19, .inl (cI, 144, .inl (fl MF)))]]) 21 rfl [0, 1, 13, 16] [2, 3, 4, 5, 6, 7, 8, 9, 10, 11, 12, 14, 15, 17, 18, 19, 20] (by decide) rfl) hK hP hD hS hA rfl hl.1 rfl (Nat.le_of_ble_eq_true rfl) ⟨(show 0 + 0 ≤ 0 by omega), (show 0 + 0 ≤ 0 by omega)⟩ d_Ref_join_187 (fun u153 H locs hu153 hP hD hS => ?_)
                                  obtain ⟨fT2, rfl, hN2⟩ := hu153
                                  refine W.widen (k := 0) (n := 0) (Nat.le_refl _) (Nat.le_refl _) ?_
                                  have hP := wd_nP (N := [[rf_o h qs (nI 0) ma S.T.2.2.1.2.1 ca S.D.2.1.2.1 na ((bm_tell S.eb e9 g (bm_count e9 g nx S.G)).2.2.2.1.2.1) S.D.1.2.1 S.D.2.2.1 S.D.2.2.2.1 S.D.2.2.2.2 S.lost], [(qs 0, .inl (cI, 12, .inl (lI S.eb)))], [(qs 12, .inl (cI, 4000, .inl fT2))], [(qs 15, .inl (cI, 96, .inl (fl (gN (rT (bm_count e9 g nx S.G).2.2.1)))))]]) rfl 21 rfl [0, 1, 4, 5, 6, 7, 8, 9, 10, 11, 12, 13, 14, 2, 15, 16, 3, 17, 18, 19, 20] (by decide) hP
                                  have hD := wd_nD (N := [[rf_o h qs (nI 0) ma S.T.2.2.1.2.1 ca S.D.2.1.2.1 na ((bm_tell S.eb e9 g (bm_count e9 g nx S.G)).2.2.2.1.2.1) S.D.1.2.1 S.D.2.2.1 S.D.2.2.2.1 S.D.2.2.2.2 S.lost], [(qs 0, .inl (cI, 12, .inl (lI S.eb)))], [(qs 12, .inl (cI, 4000, .inl fT2))], [(qs 15, .inl (cI, 96, .inl (fl (gN (rT (bm_count e9 g nx S.G).2.2.1)))))]]) rfl 21 rfl [0, 1, 4, 5, 6, 7, 8, 9, 10, 11, 12, 13, 14, 2, 15, 16, 3, 17, 18, 19, 20] (by decide) hD
                                  have hP : va_P D kls (List.flatten [[rf_o h qs (nI 0) ma S.T.2.2.1.2.1 ca S.D.2.1.2.1 na ((bm_tell S.eb e9 g (bm_count e9 g nx S.G)).2.2.2.1.2.1) S.D.1.2.1 S.D.2.2.1 S.D.2.2.2.1 S.D.2.2.2.2 S.lost], [(qs 0, .inl (cI, 12, .inl (lI S.eb)))], [(qs 1, .inl (cI, 144, .inl (fl (gN S.lk))))], [(qs 2, .inl (cI, 144, .inl (fl (gN wt))))], [(qs 3, .inl (cZ, 144, .inl (fl (kB S.kn))))], [(qs 4, .inl (cI, 1600, .inl fR))], [(qs 5, .inl (cI, 1600, .inl fN))], [(qs 6, .inl (cJ, 1600, .inr (.inl fL)))], [(qs 7, .inl (cJ, 1600, .inr (.inl fH)))], [(qs 8, .inl (cZ, 1600, .inl (dB uf)))], [(qs 9, .inl (cI, 144, .inl (fl (sI S.T.2.1))))], [(qs 10, .inl (cI, 4000, .inl fM))], [(qs 11, .inl (cJ, 4000, .inr (.inl fC)))], [(qs 12, .inl (cI, 4000, .inl fT2))], [(qs 13, .inl (cI, 8, .inl (lI S.G.1)))], [(qs 14, .inl (cI, 8, .inl S.G.2.1))], [(qs 15, .inl (cI, 96, .inl (fl (gN (rT (bm_count e9 g nx S.G).2.2.1)))))], [(qs 16, .inl (cI, 901, .inl fD))], [(qs 17, .inl (cI, 901, .inl fX))], [(qs 18, .inl (cI, 144, .inl (fl MK)))], [(qs 19, .inl (cI, 144, .inl (fl MF)))]]) H := hP
                                  have hD : va_D A (List.flatten [[rf_o h qs (nI 0) ma S.T.2.2.1.2.1 ca S.D.2.1.2.1 na ((bm_tell S.eb e9 g (bm_count e9 g nx S.G)).2.2.2.1.2.1) S.D.1.2.1 S.D.2.2.1 S.D.2.2.2.1 S.D.2.2.2.2 S.lost], [(qs 0, .inl (cI, 12, .inl (lI S.eb)))], [(qs 1, .inl (cI, 144, .inl (fl (gN S.lk))))], [(qs 2, .inl (cI, 144, .inl (fl (gN wt))))], [(qs 3, .inl (cZ, 144, .inl (fl (kB S.kn))))], [(qs 4, .inl (cI, 1600, .inl fR))], [(qs 5, .inl (cI, 1600, .inl fN))], [(qs 6, .inl (cJ, 1600, .inr (.inl fL)))], [(qs 7, .inl (cJ, 1600, .inr (.inl fH)))], [(qs 8, .inl (cZ, 1600, .inl (dB uf)))], [(qs 9, .inl (cI, 144, .inl (fl (sI S.T.2.1))))], [(qs 10, .inl (cI, 4000, .inl fM))], [(qs 11, .inl (cJ, 4000, .inr (.inl fC)))], [(qs 12, .inl (cI, 4000, .inl fT2))], [(qs 13, .inl (cI, 8, .inl (lI S.G.1)))], [(qs 14, .inl (cI, 8, .inl S.G.2.1))], [(qs 15, .inl (cI, 96, .inl (fl (gN (rT (bm_count e9 g nx S.G).2.2.1)))))], [(qs 16, .inl (cI, 901, .inl fD))], [(qs 17, .inl (cI, 901, .inl fX))], [(qs 18, .inl (cI, 144, .inl (fl MK)))], [(qs 19, .inl (cI, 144, .inl (fl MF)))]]) := hD
                                  refine W.eq (g2 := F0 m 190 ls []) rfl ?_
                                  refine lv_iload hx hb d_Ref_join_190 (lv_at hl 2 rfl) ?_
                                  have hrec : bm_rec S.eb e9 g nx S.G = bm_tell S.eb e9 g (bm_count e9 g nx S.G) := if_pos (bP_t hnw)
                                  exact ct_iret hQ hx hb hr hlk hP hD hS hK (by omega) (by omega) d_Ref_join_192 ⟨rfl, ⟨qs, ma, ca, na, wt, fR, fN, fL, fH, uf, fM, fC, fT2, fD, fX, MK, MF, (by unfold bm_joi; rw [hrec]; first | done | rfl), hwt, hAd, hM, hC, (by show nr_R _ _ (bm_rec S.eb e9 g nx S.G).2.2.2.1; rw [hrec]; exact hN2), hPd⟩⟩
                              · exact absurd h157 (by have : S.G.2.2.2.1.2.1 < 4000 := hroom.resolve_right (fun z => z hnw); omega)
                      · refine lv_iconst (v := nI 1) hx hb d_Ref_join_120 (by decide) ?_
                        refine lv_goto hx hb d_Ref_join_121 (tgt := 125) (by decide) ?_
                        refine lv_iload hx hb d_Ref_join_125 (lv_at hl 1 rfl) ?_
                        refine ri_if_le hx hb (by omega) d_Ref_join_127 (tgt := 134) (by decide) (fun h127 => ?_) (fun h127 => ?_)
                        · refine lv_iconst (v := nI 0) hx hb d_Ref_join_134 (by decide) ?_
                          refine ri_icmp_eq hx hb (by omega) (by omega) d_Ref_join_135 (tgt := 142) (by decide) (fun h155 => ?_) (fun h155 => ?_)
                          · exact absurd h155 (by decide)
                          · refine lv_iconst (v := nI 1) hx hb d_Ref_join_138 (by decide) ?_
                            refine lv_goto hx hb d_Ref_join_139 (tgt := 143) (by decide) ?_
                            refine lv_istore hx hb d_Ref_join_143 hl (by decide) rfl (fun ls hl => ?_)
                            have hl : lv_has ls 8 [(7, .int (nI 1)), (4, .int (nI 1)), (6, .int (nI nx)), (5, .int (nI (S.G.2.2.1 e9 g))), (0, .ref h), (1, .int (nI e9)), (2, .int (nI g)), (3, .int dl)] := hl
                            refine lv_iload hx hb d_Ref_join_145 (lv_at hl 0 rfl) ?_
                            refine ri_if_eq hx hb (by omega) d_Ref_join_147 (tgt := 166) (by decide) (fun h156 => ?_) (fun h156 => ?_)
                            · exact absurd h156 (by decide)
                            · have hnw : bm_news S.G.1 S.G.2.2.1 e9 g nx := ⟨fun z => h112 ((oI_lt (fun b z => Nat.lt_trans (hgi.2.2.1 _ b z) (by decide))).mpr z), by intro z; omega⟩
                              refine lv_aload_n hx hb d_Ref_join_150 rfl (lv_at hl 4 rfl) ?_
                              refine va_get (D := D) (ci := 9) (v := .int (nI S.G.2.2.2.1.2.1)) (C := R_Ref) (T := T_Ref) (N := 32) hx hb ht in_Ref hown hK hP 0 rfl rfl 18 (by decide) (ht _ kl_Ref_151) (fun _ h9 => h9) rfl d_Ref_join_151 ?_
                              refine lv_sipush (v := nI 4000) hx hb d_Ref_join_154 (by decide) ?_
                              refine ri_icmp_ne hx hb (by omega) (by omega) d_Ref_join_157 (tgt := 166) (by decide) (fun h157 => ?_) (fun h157 => ?_)
                              · refine lv_aload_n hx hb d_Ref_join_166 rfl (lv_at hl 4 rfl) ?_
                                refine va_get (D := D) (ci := 9) (v := .ref (qs 15)) (C := R_Ref) (T := T_Ref) (N := 32) hx hb ht in_Ref hown hK hP 0 rfl rfl 22 (by decide) (ht _ kl_Ref_57) (fun _ h9 => h9) rfl d_Ref_join_167 ?_
                                refine lv_bipush (v := nI 12) hx hb d_Ref_join_170 (by decide) ?_
                                refine lv_iload_n hx hb d_Ref_join_172 rfl (lv_at hl 6 rfl) ?_
                                refine ri_imul hx hb d_Ref_join_173 ?_
                                refine lv_iload_n hx hb d_Ref_join_174 rfl (lv_at hl 5 rfl) ?_
                                refine ri_iadd hx hb d_Ref_join_175 ?_
                                refine lv_iload hx hb d_Ref_join_176 (lv_at hl 2 rfl) ?_
                                refine ri_iast hx hb hK hP hD hS 16 0 rfl rfl (j := (12 * g) + e9) (by omega) (by omega) d_Ref_join_178 (fun H locs hP hD hS => ?_)
                                rw [fl_up (a := g) (b := e9) (show e9 < 12 by omega)] at hP hD
                                rw [gN_up] at hP hD
                                have hP : va_P D kls (List.flatten [[rf_o h qs (nI 0) ma S.T.2.2.1.2.1 ca S.D.2.1.2.1 na S.G.2.2.2.1.2.1 S.D.1.2.1 S.D.2.2.1 S.D.2.2.2.1 S.D.2.2.2.2 S.lost], [(qs 0, .inl (cI, 12, .inl (lI S.eb)))], [(qs 1, .inl (cI, 144, .inl (fl (gN S.lk))))], [(qs 2, .inl (cI, 144, .inl (fl (gN wt))))], [(qs 3, .inl (cZ, 144, .inl (fl (kB S.kn))))], [(qs 4, .inl (cI, 1600, .inl fR))], [(qs 5, .inl (cI, 1600, .inl fN))], [(qs 6, .inl (cJ, 1600, .inr (.inl fL)))], [(qs 7, .inl (cJ, 1600, .inr (.inl fH)))], [(qs 8, .inl (cZ, 1600, .inl (dB uf)))], [(qs 9, .inl (cI, 144, .inl (fl (sI S.T.2.1))))], [(qs 10, .inl (cI, 4000, .inl fM))], [(qs 11, .inl (cJ, 4000, .inr (.inl fC)))], [(qs 12, .inl (cI, 4000, .inl fT))], [(qs 13, .inl (cI, 8, .inl (lI S.G.1)))], [(qs 14, .inl (cI, 8, .inl S.G.2.1))], [(qs 15, .inl (cI, 96, .inl (fl (gN (bm_up2 (rT S.G.2.2.1) g e9 nx)))))], [(qs 16, .inl (cI, 901, .inl fD))], [(qs 17, .inl (cI, 901, .inl fX))], [(qs 18, .inl (cI, 144, .inl (fl MK)))], [(qs 19, .inl (cI, 144, .inl (fl MF)))]]) H := hP
                                have hD : va_D A (List.flatten [[rf_o h qs (nI 0) ma S.T.2.2.1.2.1 ca S.D.2.1.2.1 na S.G.2.2.2.1.2.1 S.D.1.2.1 S.D.2.2.1 S.D.2.2.2.1 S.D.2.2.2.2 S.lost], [(qs 0, .inl (cI, 12, .inl (lI S.eb)))], [(qs 1, .inl (cI, 144, .inl (fl (gN S.lk))))], [(qs 2, .inl (cI, 144, .inl (fl (gN wt))))], [(qs 3, .inl (cZ, 144, .inl (fl (kB S.kn))))], [(qs 4, .inl (cI, 1600, .inl fR))], [(qs 5, .inl (cI, 1600, .inl fN))], [(qs 6, .inl (cJ, 1600, .inr (.inl fL)))], [(qs 7, .inl (cJ, 1600, .inr (.inl fH)))], [(qs 8, .inl (cZ, 1600, .inl (dB uf)))], [(qs 9, .inl (cI, 144, .inl (fl (sI S.T.2.1))))], [(qs 10, .inl (cI, 4000, .inl fM))], [(qs 11, .inl (cJ, 4000, .inr (.inl fC)))], [(qs 12, .inl (cI, 4000, .inl fT))], [(qs 13, .inl (cI, 8, .inl (lI S.G.1)))], [(qs 14, .inl (cI, 8, .inl S.G.2.1))], [(qs 15, .inl (cI, 96, .inl (fl (gN (bm_up2 (rT S.G.2.2.1) g e9 nx)))))], [(qs 16, .inl (cI, 901, .inl fD))], [(qs 17, .inl (cI, 901, .inl fX))], [(qs 18, .inl (cI, 144, .inl (fl MK)))], [(qs 19, .inl (cI, 144, .inl (fl MF)))]]) := hD
                                rw [rT_up] at hP hD
                                have hP : va_P D kls (List.flatten [[rf_o h qs (nI 0) ma S.T.2.2.1.2.1 ca S.D.2.1.2.1 na S.G.2.2.2.1.2.1 S.D.1.2.1 S.D.2.2.1 S.D.2.2.2.1 S.D.2.2.2.2 S.lost], [(qs 0, .inl (cI, 12, .inl (lI S.eb)))], [(qs 1, .inl (cI, 144, .inl (fl (gN S.lk))))], [(qs 2, .inl (cI, 144, .inl (fl (gN wt))))], [(qs 3, .inl (cZ, 144, .inl (fl (kB S.kn))))], [(qs 4, .inl (cI, 1600, .inl fR))], [(qs 5, .inl (cI, 1600, .inl fN))], [(qs 6, .inl (cJ, 1600, .inr (.inl fL)))], [(qs 7, .inl (cJ, 1600, .inr (.inl fH)))], [(qs 8, .inl (cZ, 1600, .inl (dB uf)))], [(qs 9, .inl (cI, 144, .inl (fl (sI S.T.2.1))))], [(qs 10, .inl (cI, 4000, .inl fM))], [(qs 11, .inl (cJ, 4000, .inr (.inl fC)))], [(qs 12, .inl (cI, 4000, .inl fT))], [(qs 13, .inl (cI, 8, .inl (lI S.G.1)))], [(qs 14, .inl (cI, 8, .inl S.G.2.1))], [(qs 15, .inl (cI, 96, .inl (fl (gN (rT (bm_up2 S.G.2.2.1 e9 g nx))))))], [(qs 16, .inl (cI, 901, .inl fD))], [(qs 17, .inl (cI, 901, .inl fX))], [(qs 18, .inl (cI, 144, .inl (fl MK)))], [(qs 19, .inl (cI, 144, .inl (fl MF)))]]) H := hP
                                have hD : va_D A (List.flatten [[rf_o h qs (nI 0) ma S.T.2.2.1.2.1 ca S.D.2.1.2.1 na S.G.2.2.2.1.2.1 S.D.1.2.1 S.D.2.2.1 S.D.2.2.2.1 S.D.2.2.2.2 S.lost], [(qs 0, .inl (cI, 12, .inl (lI S.eb)))], [(qs 1, .inl (cI, 144, .inl (fl (gN S.lk))))], [(qs 2, .inl (cI, 144, .inl (fl (gN wt))))], [(qs 3, .inl (cZ, 144, .inl (fl (kB S.kn))))], [(qs 4, .inl (cI, 1600, .inl fR))], [(qs 5, .inl (cI, 1600, .inl fN))], [(qs 6, .inl (cJ, 1600, .inr (.inl fL)))], [(qs 7, .inl (cJ, 1600, .inr (.inl fH)))], [(qs 8, .inl (cZ, 1600, .inl (dB uf)))], [(qs 9, .inl (cI, 144, .inl (fl (sI S.T.2.1))))], [(qs 10, .inl (cI, 4000, .inl fM))], [(qs 11, .inl (cJ, 4000, .inr (.inl fC)))], [(qs 12, .inl (cI, 4000, .inl fT))], [(qs 13, .inl (cI, 8, .inl (lI S.G.1)))], [(qs 14, .inl (cI, 8, .inl S.G.2.1))], [(qs 15, .inl (cI, 96, .inl (fl (gN (rT (bm_up2 S.G.2.2.1 e9 g nx))))))], [(qs 16, .inl (cI, 901, .inl fD))], [(qs 17, .inl (cI, 901, .inl fX))], [(qs 18, .inl (cI, 144, .inl (fl MK)))], [(qs 19, .inl (cI, 144, .inl (fl MF)))]]) := hD
                                refine lv_iload hx hb d_Ref_join_179 (lv_at hl 0 rfl) ?_
                                refine ri_if_eq hx hb (by omega) d_Ref_join_181 (tgt := 190) (by decide) (fun h158 => ?_) (fun h158 => ?_)
                                · exact absurd h158 (by decide)
                                · refine lv_aload_n hx hb d_Ref_join_184 rfl (lv_at hl 4 rfl) ?_
                                  refine lv_iload_n hx hb d_Ref_join_185 rfl (lv_at hl 6 rfl) ?_
                                  refine lv_iload_n hx hb d_Ref_join_186 rfl (lv_at hl 5 rfl) ?_
                                  have hrcG : ∀ a b, (bm_count e9 g nx S.G).2.2.1 a b ≤ 100 := fun a b => by show (if a = e9 ∧ b = g then nx else S.G.2.2.1 a b) ≤ 100; split; (· exact hnx); (· exact hgi.1 a b)
                                  refine ct_callVV (C := R_Ref) (ci := 9) (As := [.int (nI g), .int (nI e9)]) (rest := []) ⟨hx, hb, hml, hown, ht⟩ (k_Ref_tell l D cI cZ cJ cG (rc := (bm_count e9 g nx S.G).2.2.1) (M := (bm_count e9 g nx S.G).2.2.2.1) hN (hroom.resolve_right (fun z => z hnw)) g e9 b (by omega) he hee (heb _ _ hee) hrcG) (cb_V ht kc_Ref_tell kl_Ref_163 kn_Ref ki_Ref_tell ks_Ref_tell hd_Ref_tell ⟨Nat.le_of_ble_eq_true rfl, Nat.le_of_ble_eq_true rfl⟩) (List.mem_of_getElem? (i := 0) rfl) rfl rfl (wd_ct (Bs := [[rf_o h qs (nI 0) ma S.T.2.2.1.2.1 ca S.D.2.1.2.1 na S.G.2.2.2.1.2.1 S.D.1.2.1 S.D.2.2.1 S.D.2.2.2.1 S.D.2.2.2.2 S.lost], [(qs 0, .inl (cI, 12, .inl (lI S.eb)))], [(qs 1, .inl (cI, 144, .inl (fl (gN S.lk))))], [(qs 2, .inl (cI, 144, .inl (fl (gN wt))))], [(qs 3, .inl (cZ, 144, .inl (fl (kB S.kn))))], [(qs 4, .inl (cI, 1600, .inl fR))], [(qs 5, .inl (cI, 1600, .inl fN))], [(qs 6, .inl (cJ, 1600, .inr (.inl fL)))], [(qs 7, .inl (cJ, 1600, .inr (.inl fH)))], [(qs 8, .inl (cZ, 1600, .inl (dB uf)))], [(qs 9, .inl (cI, 144, .inl (fl (sI S.T.2.1))))], [(qs 10, .inl (cI, 4000, .inl fM))], [(qs 11, .inl (cJ, 4000, .inr (.inl fC)))], [(qs 12, .inl (cI, 4000, .inl fT))], [(qs 13, .inl (cI, 8, .inl (lI S.G.1)))], [(qs 14, .inl (cI, 8, .inl S.G.2.1))], [(qs 15, .inl (cI, 96, .inl (fl (gN (rT (bm_up2 S.G.2.2.1 e9 g nx))))))], [(qs 16, .inl (cI, 901, .inl fD))], [(qs 17, .inl (cI, 901, .inl fX))], [(qs 18, .inl (cI, 144, .inl (fl MK)))], [(qs 19, .inl (cI, 144, .inl (fl MF)))]]) 21 rfl [0, 1, 13, 16] [2, 3, 4, 5, 6, 7, 8, 9, 10, 11, 12, 14, 15, 17, 18, 19, 20] (by decide) rfl) hK hP hD hS hA rfl hl.1 rfl (Nat.le_of_ble_eq_true rfl) ⟨(show 0 + 0 ≤ 0 by omega), (show 0 + 0 ≤ 0 by omega)⟩ d_Ref_join_187 (fun u159 H locs hu159 hP hD hS => ?_)
                                  obtain ⟨fT2, rfl, hN2⟩ := hu159
                                  refine W.widen (k := 0) (n := 0) (Nat.le_refl _) (Nat.le_refl _) ?_
                                  have hP := wd_nP (N := [[rf_o h qs (nI 0) ma S.T.2.2.1.2.1 ca S.D.2.1.2.1 na ((bm_tell S.eb e9 g (bm_count e9 g nx S.G)).2.2.2.1.2.1) S.D.1.2.1 S.D.2.2.1 S.D.2.2.2.1 S.D.2.2.2.2 S.lost], [(qs 0, .inl (cI, 12, .inl (lI S.eb)))], [(qs 12, .inl (cI, 4000, .inl fT2))], [(qs 15, .inl (cI, 96, .inl (fl (gN (rT (bm_count e9 g nx S.G).2.2.1)))))]]) rfl 21 rfl [0, 1, 4, 5, 6, 7, 8, 9, 10, 11, 12, 13, 14, 2, 15, 16, 3, 17, 18, 19, 20] (by decide) hP
                                  have hD := wd_nD (N := [[rf_o h qs (nI 0) ma S.T.2.2.1.2.1 ca S.D.2.1.2.1 na ((bm_tell S.eb e9 g (bm_count e9 g nx S.G)).2.2.2.1.2.1) S.D.1.2.1 S.D.2.2.1 S.D.2.2.2.1 S.D.2.2.2.2 S.lost], [(qs 0, .inl (cI, 12, .inl (lI S.eb)))], [(qs 12, .inl (cI, 4000, .inl fT2))], [(qs 15, .inl (cI, 96, .inl (fl (gN (rT (bm_count e9 g nx S.G).2.2.1)))))]]) rfl 21 rfl [0, 1, 4, 5, 6, 7, 8, 9, 10, 11, 12, 13, 14, 2, 15, 16, 3, 17, 18, 19, 20] (by decide) hD
                                  have hP : va_P D kls (List.flatten [[rf_o h qs (nI 0) ma S.T.2.2.1.2.1 ca S.D.2.1.2.1 na ((bm_tell S.eb e9 g (bm_count e9 g nx S.G)).2.2.2.1.2.1) S.D.1.2.1 S.D.2.2.1 S.D.2.2.2.1 S.D.2.2.2.2 S.lost], [(qs 0, .inl (cI, 12, .inl (lI S.eb)))], [(qs 1, .inl (cI, 144, .inl (fl (gN S.lk))))], [(qs 2, .inl (cI, 144, .inl (fl (gN wt))))], [(qs 3, .inl (cZ, 144, .inl (fl (kB S.kn))))], [(qs 4, .inl (cI, 1600, .inl fR))], [(qs 5, .inl (cI, 1600, .inl fN))], [(qs 6, .inl (cJ, 1600, .inr (.inl fL)))], [(qs 7, .inl (cJ, 1600, .inr (.inl fH)))], [(qs 8, .inl (cZ, 1600, .inl (dB uf)))], [(qs 9, .inl (cI, 144, .inl (fl (sI S.T.2.1))))], [(qs 10, .inl (cI, 4000, .inl fM))], [(qs 11, .inl (cJ, 4000, .inr (.inl fC)))], [(qs 12, .inl (cI, 4000, .inl fT2))], [(qs 13, .inl (cI, 8, .inl (lI S.G.1)))], [(qs 14, .inl (cI, 8, .inl S.G.2.1))], [(qs 15, .inl (cI, 96, .inl (fl (gN (rT (bm_count e9 g nx S.G).2.2.1)))))], [(qs 16, .inl (cI, 901, .inl fD))], [(qs 17, .inl (cI, 901, .inl fX))], [(qs 18, .inl (cI, 144, .inl (fl MK)))], [(qs 19, .inl (cI, 144, .inl (fl MF)))]]) H := hP
                                  have hD : va_D A (List.flatten [[rf_o h qs (nI 0) ma S.T.2.2.1.2.1 ca S.D.2.1.2.1 na ((bm_tell S.eb e9 g (bm_count e9 g nx S.G)).2.2.2.1.2.1) S.D.1.2.1 S.D.2.2.1 S.D.2.2.2.1 S.D.2.2.2.2 S.lost], [(qs 0, .inl (cI, 12, .inl (lI S.eb)))], [(qs 1, .inl (cI, 144, .inl (fl (gN S.lk))))], [(qs 2, .inl (cI, 144, .inl (fl (gN wt))))], [(qs 3, .inl (cZ, 144, .inl (fl (kB S.kn))))], [(qs 4, .inl (cI, 1600, .inl fR))], [(qs 5, .inl (cI, 1600, .inl fN))], [(qs 6, .inl (cJ, 1600, .inr (.inl fL)))], [(qs 7, .inl (cJ, 1600, .inr (.inl fH)))], [(qs 8, .inl (cZ, 1600, .inl (dB uf)))], [(qs 9, .inl (cI, 144, .inl (fl (sI S.T.2.1))))], [(qs 10, .inl (cI, 4000, .inl fM))], [(qs 11, .inl (cJ, 4000, .inr (.inl fC)))], [(qs 12, .inl (cI, 4000, .inl fT2))], [(qs 13, .inl (cI, 8, .inl (lI S.G.1)))], [(qs 14, .inl (cI, 8, .inl S.G.2.1))], [(qs 15, .inl (cI, 96, .inl (fl (gN (rT (bm_count e9 g nx S.G).2.2.1)))))], [(qs 16, .inl (cI, 901, .inl fD))], [(qs 17, .inl (cI, 901, .inl fX))], [(qs 18, .inl (cI, 144, .inl (fl MK)))], [(qs 19, .inl (cI, 144, .inl (fl MF)))]]) := hD
                                  refine W.eq (g2 := F0 m 190 ls []) rfl ?_
                                  refine lv_iload hx hb d_Ref_join_190 (lv_at hl 2 rfl) ?_
                                  have hrec : bm_rec S.eb e9 g nx S.G = bm_tell S.eb e9 g (bm_count e9 g nx S.G) := if_pos (bP_t hnw)
                                  exact ct_iret hQ hx hb hr hlk hP hD hS hK (by omega) (by omega) d_Ref_join_192 ⟨rfl, ⟨qs, ma, ca, na, wt, fR, fN, fL, fH, uf, fM, fC, fT2, fD, fX, MK, MF, (by unfold bm_joi; rw [hrec]; first | done | rfl), hwt, hAd, hM, hC, (by show nr_R _ _ (bm_rec S.eb e9 g nx S.G).2.2.2.1; rw [hrec]; exact hN2), hPd⟩⟩
                              · exact absurd h157 (by have : S.G.2.2.2.1.2.1 < 4000 := hroom.resolve_right (fun z => z hnw); omega)
                        · refine lv_iconst (v := nI 1) hx hb d_Ref_join_130 (by decide) ?_
                          refine lv_goto hx hb d_Ref_join_131 (tgt := 135) (by decide) ?_
                          refine ri_icmp_eq hx hb (by omega) (by omega) d_Ref_join_135 (tgt := 142) (by decide) (fun h160 => ?_) (fun h160 => ?_)
                          · refine lv_iconst (v := nI 0) hx hb d_Ref_join_142 (by decide) ?_
                            refine lv_istore hx hb d_Ref_join_143 hl (by decide) rfl (fun ls hl => ?_)
                            have hl : lv_has ls 8 [(7, .int (nI 0)), (4, .int (nI 1)), (6, .int (nI nx)), (5, .int (nI (S.G.2.2.1 e9 g))), (0, .ref h), (1, .int (nI e9)), (2, .int (nI g)), (3, .int dl)] := hl
                            refine lv_iload hx hb d_Ref_join_145 (lv_at hl 0 rfl) ?_
                            refine ri_if_eq hx hb (by omega) d_Ref_join_147 (tgt := 166) (by decide) (fun h161 => ?_) (fun h161 => ?_)
                            · refine lv_aload_n hx hb d_Ref_join_166 rfl (lv_at hl 4 rfl) ?_
                              refine va_get (D := D) (ci := 9) (v := .ref (qs 15)) (C := R_Ref) (T := T_Ref) (N := 32) hx hb ht in_Ref hown hK hP 0 rfl rfl 22 (by decide) (ht _ kl_Ref_57) (fun _ h9 => h9) rfl d_Ref_join_167 ?_
                              refine lv_bipush (v := nI 12) hx hb d_Ref_join_170 (by decide) ?_
                              refine lv_iload_n hx hb d_Ref_join_172 rfl (lv_at hl 6 rfl) ?_
                              refine ri_imul hx hb d_Ref_join_173 ?_
                              refine lv_iload_n hx hb d_Ref_join_174 rfl (lv_at hl 5 rfl) ?_
                              refine ri_iadd hx hb d_Ref_join_175 ?_
                              refine lv_iload hx hb d_Ref_join_176 (lv_at hl 2 rfl) ?_
                              refine ri_iast hx hb hK hP hD hS 16 0 rfl rfl (j := (12 * g) + e9) (by omega) (by omega) d_Ref_join_178 (fun H locs hP hD hS => ?_)
                              rw [fl_up (a := g) (b := e9) (show e9 < 12 by omega)] at hP hD
                              rw [gN_up] at hP hD
                              have hP : va_P D kls (List.flatten [[rf_o h qs (nI 0) ma S.T.2.2.1.2.1 ca S.D.2.1.2.1 na S.G.2.2.2.1.2.1 S.D.1.2.1 S.D.2.2.1 S.D.2.2.2.1 S.D.2.2.2.2 S.lost], [(qs 0, .inl (cI, 12, .inl (lI S.eb)))], [(qs 1, .inl (cI, 144, .inl (fl (gN S.lk))))], [(qs 2, .inl (cI, 144, .inl (fl (gN wt))))], [(qs 3, .inl (cZ, 144, .inl (fl (kB S.kn))))], [(qs 4, .inl (cI, 1600, .inl fR))], [(qs 5, .inl (cI, 1600, .inl fN))], [(qs 6, .inl (cJ, 1600, .inr (.inl fL)))], [(qs 7, .inl (cJ, 1600, .inr (.inl fH)))], [(qs 8, .inl (cZ, 1600, .inl (dB uf)))], [(qs 9, .inl (cI, 144, .inl (fl (sI S.T.2.1))))], [(qs 10, .inl (cI, 4000, .inl fM))], [(qs 11, .inl (cJ, 4000, .inr (.inl fC)))], [(qs 12, .inl (cI, 4000, .inl fT))], [(qs 13, .inl (cI, 8, .inl (lI S.G.1)))], [(qs 14, .inl (cI, 8, .inl S.G.2.1))], [(qs 15, .inl (cI, 96, .inl (fl (gN (bm_up2 (rT S.G.2.2.1) g e9 nx)))))], [(qs 16, .inl (cI, 901, .inl fD))], [(qs 17, .inl (cI, 901, .inl fX))], [(qs 18, .inl (cI, 144, .inl (fl MK)))], [(qs 19, .inl (cI, 144, .inl (fl MF)))]]) H := hP
                              have hD : va_D A (List.flatten [[rf_o h qs (nI 0) ma S.T.2.2.1.2.1 ca S.D.2.1.2.1 na S.G.2.2.2.1.2.1 S.D.1.2.1 S.D.2.2.1 S.D.2.2.2.1 S.D.2.2.2.2 S.lost], [(qs 0, .inl (cI, 12, .inl (lI S.eb)))], [(qs 1, .inl (cI, 144, .inl (fl (gN S.lk))))], [(qs 2, .inl (cI, 144, .inl (fl (gN wt))))], [(qs 3, .inl (cZ, 144, .inl (fl (kB S.kn))))], [(qs 4, .inl (cI, 1600, .inl fR))], [(qs 5, .inl (cI, 1600, .inl fN))], [(qs 6, .inl (cJ, 1600, .inr (.inl fL)))], [(qs 7, .inl (cJ, 1600, .inr (.inl fH)))], [(qs 8, .inl (cZ, 1600, .inl (dB uf)))], [(qs 9, .inl (cI, 144, .inl (fl (sI S.T.2.1))))], [(qs 10, .inl (cI, 4000, .inl fM))], [(qs 11, .inl (cJ, 4000, .inr (.inl fC)))], [(qs 12, .inl (cI, 4000, .inl fT))], [(qs 13, .inl (cI, 8, .inl (lI S.G.1)))], [(qs 14, .inl (cI, 8, .inl S.G.2.1))], [(qs 15, .inl (cI, 96, .inl (fl (gN (bm_up2 (rT S.G.2.2.1) g e9 nx)))))], [(qs 16, .inl (cI, 901, .inl fD))], [(qs 17, .inl (cI, 901, .inl fX))], [(qs 18, .inl (cI, 144, .inl (fl MK)))], [(qs 19, .inl (cI, 144, .inl (fl MF)))]]) := hD
                              rw [rT_up] at hP hD
                              have hP : va_P D kls (List.flatten [[rf_o h qs (nI 0) ma S.T.2.2.1.2.1 ca S.D.2.1.2.1 na S.G.2.2.2.1.2.1 S.D.1.2.1 S.D.2.2.1 S.D.2.2.2.1 S.D.2.2.2.2 S.lost], [(qs 0, .inl (cI, 12, .inl (lI S.eb)))], [(qs 1, .inl (cI, 144, .inl (fl (gN S.lk))))], [(qs 2, .inl (cI, 144, .inl (fl (gN wt))))], [(qs 3, .inl (cZ, 144, .inl (fl (kB S.kn))))], [(qs 4, .inl (cI, 1600, .inl fR))], [(qs 5, .inl (cI, 1600, .inl fN))], [(qs 6, .inl (cJ, 1600, .inr (.inl fL)))], [(qs 7, .inl (cJ, 1600, .inr (.inl fH)))], [(qs 8, .inl (cZ, 1600, .inl (dB uf)))], [(qs 9, .inl (cI, 144, .inl (fl (sI S.T.2.1))))], [(qs 10, .inl (cI, 4000, .inl fM))], [(qs 11, .inl (cJ, 4000, .inr (.inl fC)))], [(qs 12, .inl (cI, 4000, .inl fT))], [(qs 13, .inl (cI, 8, .inl (lI S.G.1)))], [(qs 14, .inl (cI, 8, .inl S.G.2.1))], [(qs 15, .inl (cI, 96, .inl (fl (gN (rT (bm_up2 S.G.2.2.1 e9 g nx))))))], [(qs 16, .inl (cI, 901, .inl fD))], [(qs 17, .inl (cI, 901, .inl fX))], [(qs 18, .inl (cI, 144, .inl (fl MK)))], [(qs 19, .inl (cI, 144, .inl (fl MF)))]]) H := hP
                              have hD : va_D A (List.flatten [[rf_o h qs (nI 0) ma S.T.2.2.1.2.1 ca S.D.2.1.2.1 na S.G.2.2.2.1.2.1 S.D.1.2.1 S.D.2.2.1 S.D.2.2.2.1 S.D.2.2.2.2 S.lost], [(qs 0, .inl (cI, 12, .inl (lI S.eb)))], [(qs 1, .inl (cI, 144, .inl (fl (gN S.lk))))], [(qs 2, .inl (cI, 144, .inl (fl (gN wt))))], [(qs 3, .inl (cZ, 144, .inl (fl (kB S.kn))))], [(qs 4, .inl (cI, 1600, .inl fR))], [(qs 5, .inl (cI, 1600, .inl fN))], [(qs 6, .inl (cJ, 1600, .inr (.inl fL)))], [(qs 7, .inl (cJ, 1600, .inr (.inl fH)))], [(qs 8, .inl (cZ, 1600, .inl (dB uf)))], [(qs 9, .inl (cI, 144, .inl (fl (sI S.T.2.1))))], [(qs 10, .inl (cI, 4000, .inl fM))], [(qs 11, .inl (cJ, 4000, .inr (.inl fC)))], [(qs 12, .inl (cI, 4000, .inl fT))], [(qs 13, .inl (cI, 8, .inl (lI S.G.1)))], [(qs 14, .inl (cI, 8, .inl S.G.2.1))], [(qs 15, .inl (cI, 96, .inl (fl (gN (rT (bm_up2 S.G.2.2.1 e9 g nx))))))], [(qs 16, .inl (cI, 901, .inl fD))], [(qs 17, .inl (cI, 901, .inl fX))], [(qs 18, .inl (cI, 144, .inl (fl MK)))], [(qs 19, .inl (cI, 144, .inl (fl MF)))]]) := hD
                              refine lv_iload hx hb d_Ref_join_179 (lv_at hl 0 rfl) ?_
                              refine ri_if_eq hx hb (by omega) d_Ref_join_181 (tgt := 190) (by decide) (fun h162 => ?_) (fun h162 => ?_)
                              · refine lv_iload hx hb d_Ref_join_190 (lv_at hl 2 rfl) ?_
                                have hnn : ¬ bm_news S.G.1 S.G.2.2.1 e9 g nx := fun z => by first | exact z.1 ((oI_lt (fun b z => Nat.lt_trans (hgi.2.2.1 _ b z) (by decide))).mp h112) | exact z.2 (by omega)
                                have hrec : bm_rec S.eb e9 g nx S.G = (bm_count e9 g nx S.G) := if_neg (by rw [bP_f hnn]; decide)
                                exact ct_iret hQ hx hb hr hlk hP hD hS hK (by omega) (by omega) d_Ref_join_192 ⟨rfl, ⟨qs, ma, ca, na, wt, fR, fN, fL, fH, uf, fM, fC, fT, fD, fX, MK, MF, (by unfold bm_joi; rw [hrec]; first | done | rfl), hwt, hAd, hM, hC, (by show nr_R _ _ (bm_rec S.eb e9 g nx S.G).2.2.2.1; rw [hrec]; exact hN), hPd⟩⟩
                              · exact absurd h162 (by decide)
                            · exact absurd h161 (by decide)
                          · exact absurd h160 (by decide)
                  · exact absurd h140 (by decide)
set_option maxHeartbeats 1600000 in
set_option maxRecDepth 100000 in
theorem n_Ref_join_room (l : Launch) (D : va_G) (cI cZ cJ cG : ClassId) {h : Nat} {cd : Int32} {S : bm_S} {ws : va_W} (hR : rf_R cI cZ cJ h cd S ws) (hi : rf_i S) (g : Nat) (hg : g < 8) (e9 b : Nat) (he : e9 < 12) (hee : S.eb e9 = some b) (nx : Nat) (dl : Int32) (hdl : dl = 1 ∨ dl = -1) (hsum : nI (S.G.2.2.1 e9 g) + dl = nI nx) (hnx : nx ≤ 100) (hno : ¬ bm_jroom S e9 g nx) : ct_I l D kls (ty4 cI cZ cJ cG) y_Ref_join ws_Ref_join (rm_ 3 66 0 0) [.ref h, .int (nI e9), .int (nI g), .int dl] (ws) (fun z u => rf_R cI cZ cJ h (nI 1) S u) 0 0 := by
  obtain ⟨qs, ma, ca, na, wt, fR, fN, fL, fH, uf, fM, fC, fT, fD, fX, MK, MF, rfl, hwt, hAd, hM, hC, hN, hPd⟩ := hR
  obtain ⟨hsi, heb, h00, hA9, hm9, hcp9, hnt9, hpk9, hgi⟩ := hi
  have hok := hsi.1
  have hkn9 := hsi.2.1
  have hlk9 := hsi.2.2.1
  have hma := hM.1
  refine ct_enterI (cc := b_Ref_join) (maxL := 8) (ret := (some .int)) (by decide +kernel) (Nat.le_of_ble_eq_true rfl) ?_
  intro p e s m args below meth c hx hb hml hr ht hown hlk hnm A Q hA hK hP hD hQ ls hl
  have hown : s.vm.findClass R_Ref = some m.cls := hown
  have hS : va_S A s.heap s.heap [] := va_S.rf
  have hl : lv_has ls 8 [(0, .ref h), (1, .int (nI e9)), (2, .int (nI g)), (3, .int dl)] := hl
  have hrt := hsi.2.2.2.2.1
  have hnw9 : bm_news S.G.1 S.G.2.2.1 e9 g nx := Classical.byContradiction (fun z => hno (Or.inr z))
  have hfull : ¬ S.G.2.2.2.1.2.1 < 4000 := fun z => hno (Or.inl z)
  refine lv_aload_n hx hb d_Ref_join_0 rfl (lv_at hl 0 rfl) ?_
  refine lv_iload_n hx hb d_Ref_join_1 rfl (lv_at hl 1 rfl) ?_
  refine ct_rdV (C := R_Ref) (ci := 9) (As := [.int (nI e9)]) (rest := []) ⟨hx, hb, hml, hown, ht⟩ (k_Ref_isEdge l D cI cZ cJ cG heb (nI e9)) (cb_V ht kc_Ref_isEdge kl_Ref_148 kn_Ref ki_Ref_isEdge ks_Ref_isEdge hd_Ref_isEdge ⟨Nat.le_of_ble_eq_true rfl, Nat.le_of_ble_eq_true rfl⟩) (List.mem_of_getElem? (i := 0) rfl) rfl rfl (wd_ct (Bs := [[rf_o h qs cd ma S.T.2.2.1.2.1 ca S.D.2.1.2.1 na S.G.2.2.2.1.2.1 S.D.1.2.1 S.D.2.2.1 S.D.2.2.2.1 S.D.2.2.2.2 S.lost], [(qs 0, .inl (cI, 12, .inl (lI S.eb)))], [(qs 1, .inl (cI, 144, .inl (fl (gN S.lk))))], [(qs 2, .inl (cI, 144, .inl (fl (gN wt))))], [(qs 3, .inl (cZ, 144, .inl (fl (kB S.kn))))], [(qs 4, .inl (cI, 1600, .inl fR))], [(qs 5, .inl (cI, 1600, .inl fN))], [(qs 6, .inl (cJ, 1600, .inr (.inl fL)))], [(qs 7, .inl (cJ, 1600, .inr (.inl fH)))], [(qs 8, .inl (cZ, 1600, .inl (dB uf)))], [(qs 9, .inl (cI, 144, .inl (fl (sI S.T.2.1))))], [(qs 10, .inl (cI, 4000, .inl fM))], [(qs 11, .inl (cJ, 4000, .inr (.inl fC)))], [(qs 12, .inl (cI, 4000, .inl fT))], [(qs 13, .inl (cI, 8, .inl (lI S.G.1)))], [(qs 14, .inl (cI, 8, .inl S.G.2.1))], [(qs 15, .inl (cI, 96, .inl (fl (gN (rT S.G.2.2.1)))))], [(qs 16, .inl (cI, 901, .inl fD))], [(qs 17, .inl (cI, 901, .inl fX))], [(qs 18, .inl (cI, 144, .inl (fl MK)))], [(qs 19, .inl (cI, 144, .inl (fl MF)))]]) 21 rfl [0, 1] [2, 3, 4, 5, 6, 7, 8, 9, 10, 11, 12, 13, 14, 15, 16, 17, 18, 19, 20] (by decide) rfl) hK hP hD hS hA rfl hl.1 rfl (Nat.le_of_ble_eq_true rfl) ⟨(show 0 + 0 ≤ 0 by omega), (show 0 + 0 ≤ 0 by omega)⟩ d_Ref_join_2 (fun rhr101 H locs hr101 hP hD hS => ?_)
  subst hr101
  refine W.eq (g2 := F0 m 5 ls [.int (bI true)]) (congrArg (fun z => F0 m 5 ls (.int z :: [])) (congrArg bI (rf_isE_s he hee))) ?_
  refine ri_ifeqB hx hb d_Ref_join_5 (tgt := 29) (by decide) (fun h102 => ?_) (fun h102 => ?_)
  · exact absurd h102 (fun z => by cases z)
  · refine lv_iload_n hx hb d_Ref_join_8 rfl (lv_at hl 2 rfl) ?_
    refine ct_rdS (As := [.int (nI g)]) (rest := []) ⟨hx, hb, hml, hown, ht⟩ (k_Ref_isGroup l D cI cZ cJ cG (nI g)) (cb_S ht kc_Ref_isGroup kl_Ref_145 kn_Ref ki_Ref_isGroup hd_Ref_isGroup ⟨Nat.le_of_ble_eq_true rfl, Nat.le_of_ble_eq_true rfl⟩) (wd_ct (Bs := [[rf_o h qs cd ma S.T.2.2.1.2.1 ca S.D.2.1.2.1 na S.G.2.2.2.1.2.1 S.D.1.2.1 S.D.2.2.1 S.D.2.2.2.1 S.D.2.2.2.2 S.lost], [(qs 0, .inl (cI, 12, .inl (lI S.eb)))], [(qs 1, .inl (cI, 144, .inl (fl (gN S.lk))))], [(qs 2, .inl (cI, 144, .inl (fl (gN wt))))], [(qs 3, .inl (cZ, 144, .inl (fl (kB S.kn))))], [(qs 4, .inl (cI, 1600, .inl fR))], [(qs 5, .inl (cI, 1600, .inl fN))], [(qs 6, .inl (cJ, 1600, .inr (.inl fL)))], [(qs 7, .inl (cJ, 1600, .inr (.inl fH)))], [(qs 8, .inl (cZ, 1600, .inl (dB uf)))], [(qs 9, .inl (cI, 144, .inl (fl (sI S.T.2.1))))], [(qs 10, .inl (cI, 4000, .inl fM))], [(qs 11, .inl (cJ, 4000, .inr (.inl fC)))], [(qs 12, .inl (cI, 4000, .inl fT))], [(qs 13, .inl (cI, 8, .inl (lI S.G.1)))], [(qs 14, .inl (cI, 8, .inl S.G.2.1))], [(qs 15, .inl (cI, 96, .inl (fl (gN (rT S.G.2.2.1)))))], [(qs 16, .inl (cI, 901, .inl fD))], [(qs 17, .inl (cI, 901, .inl fX))], [(qs 18, .inl (cI, 144, .inl (fl MK)))], [(qs 19, .inl (cI, 144, .inl (fl MF)))]]) 21 rfl [] [0, 1, 2, 3, 4, 5, 6, 7, 8, 9, 10, 11, 12, 13, 14, 15, 16, 17, 18, 19, 20] (by decide) rfl) hK hP hD hS hA rfl hl.1 rfl (Nat.le_of_ble_eq_true rfl) ⟨(show 0 + 0 ≤ 0 by omega), (show 0 + 0 ≤ 0 by omega)⟩ d_Ref_join_9 (fun rhr103 H locs hr103 hP hD hS => ?_)
    subst hr103
    refine W.eq (g2 := F0 m 12 ls [.int (bI true)]) (congrArg (fun z => F0 m 12 ls (.int z :: [])) (congrArg bI (rg_t8 hg))) ?_
    refine ri_ifeqB hx hb d_Ref_join_12 (tgt := 29) (by decide) (fun h104 => ?_) (fun h104 => ?_)
    · exact absurd h104 (fun z => by cases z)
    · refine lv_iload_n hx hb d_Ref_join_15 rfl (lv_at hl 3 rfl) ?_
      refine lv_iconst (v := nI 1) hx hb d_Ref_join_16 (by decide) ?_
      refine lv_icmp_eq hx hb d_Ref_join_17 (tgt := 25) (by decide) (fun h17 => ?_) (fun h17 => ?_)
      · refine lv_iconst (v := nI 1) hx hb d_Ref_join_25 (by decide) ?_
        refine lv_goto hx hb d_Ref_join_26 (tgt := 30) (by decide) ?_
        refine lv_istore hx hb d_Ref_join_30 hl (by decide) rfl (fun ls hl => ?_)
        have hl : lv_has ls 8 [(4, .int (nI 1)), (0, .ref h), (1, .int (nI e9)), (2, .int (nI g)), (3, .int dl)] := hl
        refine lv_iload hx hb d_Ref_join_32 (lv_at hl 0 rfl) ?_
        refine ri_if_eq hx hb (by omega) d_Ref_join_34 (tgt := 51) (by decide) (fun h106 => ?_) (fun h106 => ?_)
        · exact absurd h106 (by decide)
        · refine lv_aload_n hx hb d_Ref_join_37 rfl (lv_at hl 1 rfl) ?_
          refine va_get (D := D) (ci := 9) (v := .ref (qs 15)) (C := R_Ref) (T := T_Ref) (N := 32) hx hb ht in_Ref hown hK hP 0 rfl rfl 22 (by decide) (ht _ kl_Ref_57) (fun _ h9 => h9) rfl d_Ref_join_38 ?_
          refine lv_bipush (v := nI 12) hx hb d_Ref_join_41 (by decide) ?_
          refine lv_iload_n hx hb d_Ref_join_43 rfl (lv_at hl 3 rfl) ?_
          refine ri_imul hx hb d_Ref_join_44 ?_
          refine lv_iload_n hx hb d_Ref_join_45 rfl (lv_at hl 2 rfl) ?_
          refine ri_iadd hx hb d_Ref_join_46 ?_
          refine ri_iald hx hb hK hP 16 0 rfl rfl (j := (12 * g) + e9) (by omega) (by omega) d_Ref_join_47 ?_
          refine W.eq (g2 := F0 m 48 ls [.int (nI ((rT S.G.2.2.1) g e9))]) (congrArg (fun z => F0 m 48 ls (.int z :: [])) (fl_at (a := g) (b := e9) (by omega))) ?_
          refine W.eq (g2 := F0 m 48 ls [.int (nI (S.G.2.2.1 e9 g))]) (congrArg (fun z => F0 m 48 ls (.int z :: [])) (rfl)) ?_
          refine lv_goto hx hb d_Ref_join_48 (tgt := 52) (by decide) ?_
          refine lv_istore hx hb d_Ref_join_52 hl (by decide) rfl (fun ls hl => ?_)
          have hl : lv_has ls 8 [(5, .int (nI (S.G.2.2.1 e9 g))), (4, .int (nI 1)), (0, .ref h), (1, .int (nI e9)), (2, .int (nI g)), (3, .int dl)] := hl
          refine lv_iload hx hb d_Ref_join_54 (lv_at hl 0 rfl) ?_
          refine lv_iload_n hx hb d_Ref_join_56 rfl (lv_at hl 5 rfl) ?_
          refine lv_iadd hx hb d_Ref_join_57 ?_
          refine W.eq (g2 := F0 m 58 ls [.int (nI nx)]) (congrArg (fun z => F0 m 58 ls (.int z :: [])) (hsum)) ?_
          refine lv_istore hx hb d_Ref_join_58 hl (by decide) rfl (fun ls hl => ?_)
          have hl : lv_has ls 8 [(6, .int (nI nx)), (5, .int (nI (S.G.2.2.1 e9 g))), (4, .int (nI 1)), (0, .ref h), (1, .int (nI e9)), (2, .int (nI g)), (3, .int dl)] := hl
          refine lv_iload hx hb d_Ref_join_60 (lv_at hl 2 rfl) ?_
          refine ri_if_eq hx hb (by omega) d_Ref_join_62 (tgt := 82) (by decide) (fun h107 => ?_) (fun h107 => ?_)
          · exact absurd h107 (by decide)
          · refine lv_iload hx hb d_Ref_join_65 (lv_at hl 0 rfl) ?_
            refine lv_i2l (v := lN nx) hx hb d_Ref_join_67 (nI_l (by omega)) ?_
            refine lv_lconst (v := lN 0) hx hb d_Ref_join_68 rfl ?_
            refine lv_ldc2 (v := lN 100) hx hb hown (ht _ kl_Ref_157) d_Ref_join_69 ?_
            refine ct_rdS (As := [.long (lN nx), .long (lN 0), .long (lN 100)]) (rest := []) ⟨hx, hb, hml, hown, ht⟩ (k_Ref_in l D cI cZ cJ cG (lN nx) (lN 0) (lN 100)) (cb_S ht kc_Ref_in kl_Ref_78 kn_Ref ki_Ref_in hd_Ref_in ⟨Nat.le_of_ble_eq_true rfl, Nat.le_of_ble_eq_true rfl⟩) (wd_ct (Bs := [[rf_o h qs cd ma S.T.2.2.1.2.1 ca S.D.2.1.2.1 na S.G.2.2.2.1.2.1 S.D.1.2.1 S.D.2.2.1 S.D.2.2.2.1 S.D.2.2.2.2 S.lost], [(qs 0, .inl (cI, 12, .inl (lI S.eb)))], [(qs 1, .inl (cI, 144, .inl (fl (gN S.lk))))], [(qs 2, .inl (cI, 144, .inl (fl (gN wt))))], [(qs 3, .inl (cZ, 144, .inl (fl (kB S.kn))))], [(qs 4, .inl (cI, 1600, .inl fR))], [(qs 5, .inl (cI, 1600, .inl fN))], [(qs 6, .inl (cJ, 1600, .inr (.inl fL)))], [(qs 7, .inl (cJ, 1600, .inr (.inl fH)))], [(qs 8, .inl (cZ, 1600, .inl (dB uf)))], [(qs 9, .inl (cI, 144, .inl (fl (sI S.T.2.1))))], [(qs 10, .inl (cI, 4000, .inl fM))], [(qs 11, .inl (cJ, 4000, .inr (.inl fC)))], [(qs 12, .inl (cI, 4000, .inl fT))], [(qs 13, .inl (cI, 8, .inl (lI S.G.1)))], [(qs 14, .inl (cI, 8, .inl S.G.2.1))], [(qs 15, .inl (cI, 96, .inl (fl (gN (rT S.G.2.2.1)))))], [(qs 16, .inl (cI, 901, .inl fD))], [(qs 17, .inl (cI, 901, .inl fX))], [(qs 18, .inl (cI, 144, .inl (fl MK)))], [(qs 19, .inl (cI, 144, .inl (fl MF)))]]) 21 rfl [] [0, 1, 2, 3, 4, 5, 6, 7, 8, 9, 10, 11, 12, 13, 14, 15, 16, 17, 18, 19, 20] (by decide) rfl) hK hP hD hS hA rfl hl.1 rfl (Nat.le_of_ble_eq_true rfl) ⟨(show 0 + 0 ≤ 0 by omega), (show 0 + 0 ≤ 0 by omega)⟩ d_Ref_join_72 (fun rhr108 H locs hr108 hP hD hS => ?_)
            subst hr108
            refine W.eq (g2 := F0 m 75 ls [.int (bI true)]) (congrArg (fun z => F0 m 75 ls (.int z :: [])) (congrArg bI (decide_eq_true ⟨(lN_le (by decide) (show nx < 2 ^ 31 by omega)).mpr (Nat.zero_le _), (lN_le (show nx < 2 ^ 31 by omega) (by decide)).mpr hnx⟩))) ?_
            refine ri_ifeqB hx hb d_Ref_join_75 (tgt := 82) (by decide) (fun h109 => ?_) (fun h109 => ?_)
            · exact absurd h109 (fun z => by cases z)
            · refine lv_iconst (v := nI 1) hx hb d_Ref_join_78 (by decide) ?_
              refine lv_goto hx hb d_Ref_join_79 (tgt := 83) (by decide) ?_
              refine lv_istore hx hb d_Ref_join_83 hl (by decide) rfl (fun ls hl => ?_)
              have hl : lv_has ls 8 [(4, .int (nI 1)), (6, .int (nI nx)), (5, .int (nI (S.G.2.2.1 e9 g))), (0, .ref h), (1, .int (nI e9)), (2, .int (nI g)), (3, .int dl)] := hl
              refine lv_aload_n hx hb d_Ref_join_85 rfl (lv_at hl 3 rfl) ?_
              refine lv_iload hx hb d_Ref_join_86 (lv_at hl 0 rfl) ?_
              refine ri_if_eq hx hb (by omega) d_Ref_join_88 (tgt := 95) (by decide) (fun h110 => ?_) (fun h110 => ?_)
              · exact absurd h110 (by decide)
              · refine lv_iconst (v := nI 0) hx hb d_Ref_join_91 (by decide) ?_
                refine lv_goto hx hb d_Ref_join_92 (tgt := 96) (by decide) ?_
                refine va_put (D := D) (ci := 9) (v := .int (nI 0)) (ty := .int) (C := R_Ref) (T := T_Ref) (N := 32) hx hb ht in_Ref t_Ref ok_Ref nm_Ref hown hK hP hD hS 0 rfl rfl 0 (by decide) (ht _ kl_Ref_72) (fun _ h9 => h9) rfl (by decide +kernel) rfl rfl (Nat.le_of_ble_eq_true rfl) d_Ref_join_96 (fun H locs hP hD hS => ?_)
                have hP : va_P D kls (List.flatten [[rf_o h qs (nI 0) ma S.T.2.2.1.2.1 ca S.D.2.1.2.1 na S.G.2.2.2.1.2.1 S.D.1.2.1 S.D.2.2.1 S.D.2.2.2.1 S.D.2.2.2.2 S.lost], [(qs 0, .inl (cI, 12, .inl (lI S.eb)))], [(qs 1, .inl (cI, 144, .inl (fl (gN S.lk))))], [(qs 2, .inl (cI, 144, .inl (fl (gN wt))))], [(qs 3, .inl (cZ, 144, .inl (fl (kB S.kn))))], [(qs 4, .inl (cI, 1600, .inl fR))], [(qs 5, .inl (cI, 1600, .inl fN))], [(qs 6, .inl (cJ, 1600, .inr (.inl fL)))], [(qs 7, .inl (cJ, 1600, .inr (.inl fH)))], [(qs 8, .inl (cZ, 1600, .inl (dB uf)))], [(qs 9, .inl (cI, 144, .inl (fl (sI S.T.2.1))))], [(qs 10, .inl (cI, 4000, .inl fM))], [(qs 11, .inl (cJ, 4000, .inr (.inl fC)))], [(qs 12, .inl (cI, 4000, .inl fT))], [(qs 13, .inl (cI, 8, .inl (lI S.G.1)))], [(qs 14, .inl (cI, 8, .inl S.G.2.1))], [(qs 15, .inl (cI, 96, .inl (fl (gN (rT S.G.2.2.1)))))], [(qs 16, .inl (cI, 901, .inl fD))], [(qs 17, .inl (cI, 901, .inl fX))], [(qs 18, .inl (cI, 144, .inl (fl MK)))], [(qs 19, .inl (cI, 144, .inl (fl MF)))]]) H := hP
                have hD : va_D A (List.flatten [[rf_o h qs (nI 0) ma S.T.2.2.1.2.1 ca S.D.2.1.2.1 na S.G.2.2.2.1.2.1 S.D.1.2.1 S.D.2.2.1 S.D.2.2.2.1 S.D.2.2.2.2 S.lost], [(qs 0, .inl (cI, 12, .inl (lI S.eb)))], [(qs 1, .inl (cI, 144, .inl (fl (gN S.lk))))], [(qs 2, .inl (cI, 144, .inl (fl (gN wt))))], [(qs 3, .inl (cZ, 144, .inl (fl (kB S.kn))))], [(qs 4, .inl (cI, 1600, .inl fR))], [(qs 5, .inl (cI, 1600, .inl fN))], [(qs 6, .inl (cJ, 1600, .inr (.inl fL)))], [(qs 7, .inl (cJ, 1600, .inr (.inl fH)))], [(qs 8, .inl (cZ, 1600, .inl (dB uf)))], [(qs 9, .inl (cI, 144, .inl (fl (sI S.T.2.1))))], [(qs 10, .inl (cI, 4000, .inl fM))], [(qs 11, .inl (cJ, 4000, .inr (.inl fC)))], [(qs 12, .inl (cI, 4000, .inl fT))], [(qs 13, .inl (cI, 8, .inl (lI S.G.1)))], [(qs 14, .inl (cI, 8, .inl S.G.2.1))], [(qs 15, .inl (cI, 96, .inl (fl (gN (rT S.G.2.2.1)))))], [(qs 16, .inl (cI, 901, .inl fD))], [(qs 17, .inl (cI, 901, .inl fX))], [(qs 18, .inl (cI, 144, .inl (fl MK)))], [(qs 19, .inl (cI, 144, .inl (fl MF)))]]) := hD
                refine lv_iload hx hb d_Ref_join_99 (lv_at hl 0 rfl) ?_
                refine ri_if_ne hx hb (by omega) d_Ref_join_101 (tgt := 106) (by decide) (fun h111 => ?_) (fun h111 => ?_)
                · have hrcj := hgi.1 e9 g
                  refine lv_aload_n hx hb d_Ref_join_106 rfl (lv_at hl 3 rfl) ?_
                  refine va_get (D := D) (ci := 9) (v := .ref (qs 13)) (C := R_Ref) (T := T_Ref) (N := 32) hx hb ht in_Ref hown hK hP 0 rfl rfl 20 (by decide) (ht _ kl_Ref_51) (fun _ h9 => h9) rfl d_Ref_join_107 ?_
                  refine lv_iload_n hx hb d_Ref_join_110 rfl (lv_at hl 5 rfl) ?_
                  refine ri_iald hx hb hK hP 14 0 rfl rfl (j := g) (by omega) (by omega) d_Ref_join_111 ?_
                  refine W.eq (g2 := F0 m 112 ls [.int (bm_oI (S.G.1 g))]) rfl ?_
                  refine lv_if_lt hx hb d_Ref_join_112 (tgt := 142) (by decide) (fun h112 => ?_) (fun h112 => ?_)
                  · refine lv_iconst (v := nI 0) hx hb d_Ref_join_142 (by decide) ?_
                    refine lv_istore hx hb d_Ref_join_143 hl (by decide) rfl (fun ls hl => ?_)
                    have hl : lv_has ls 8 [(7, .int (nI 0)), (4, .int (nI 1)), (6, .int (nI nx)), (5, .int (nI (S.G.2.2.1 e9 g))), (0, .ref h), (1, .int (nI e9)), (2, .int (nI g)), (3, .int dl)] := hl
                    refine lv_iload hx hb d_Ref_join_145 (lv_at hl 0 rfl) ?_
                    refine ri_if_eq hx hb (by omega) d_Ref_join_147 (tgt := 166) (by decide) (fun h113 => ?_) (fun h113 => ?_)
                    · exact absurd hnw9 (fun z => by first | exact z.1 ((oI_lt (fun b z => Nat.lt_trans (hgi.2.2.1 _ b z) (by decide))).mp h112) | exact z.2 (by omega))
                    · exact absurd h113 (by decide)
                  · refine lv_iload hx hb d_Ref_join_115 (lv_at hl 2 rfl) ?_
                    refine ri_if_le hx hb (by omega) d_Ref_join_117 (tgt := 124) (by decide) (fun h117 => ?_) (fun h117 => ?_)
                    · refine lv_iconst (v := nI 0) hx hb d_Ref_join_124 (by decide) ?_
                      refine lv_iload hx hb d_Ref_join_125 (lv_at hl 1 rfl) ?_
                      refine ri_if_le hx hb (by omega) d_Ref_join_127 (tgt := 134) (by decide) (fun h127 => ?_) (fun h127 => ?_)
                      · refine lv_iconst (v := nI 0) hx hb d_Ref_join_134 (by decide) ?_
                        refine ri_icmp_eq hx hb (by omega) (by omega) d_Ref_join_135 (tgt := 142) (by decide) (fun h116 => ?_) (fun h116 => ?_)
                        · refine lv_iconst (v := nI 0) hx hb d_Ref_join_142 (by decide) ?_
                          refine lv_istore hx hb d_Ref_join_143 hl (by decide) rfl (fun ls hl => ?_)
                          have hl : lv_has ls 8 [(7, .int (nI 0)), (4, .int (nI 1)), (6, .int (nI nx)), (5, .int (nI (S.G.2.2.1 e9 g))), (0, .ref h), (1, .int (nI e9)), (2, .int (nI g)), (3, .int dl)] := hl
                          refine lv_iload hx hb d_Ref_join_145 (lv_at hl 0 rfl) ?_
                          refine ri_if_eq hx hb (by omega) d_Ref_join_147 (tgt := 166) (by decide) (fun h117 => ?_) (fun h117 => ?_)
                          · exact absurd hnw9 (fun z => by first | exact z.1 ((oI_lt (fun b z => Nat.lt_trans (hgi.2.2.1 _ b z) (by decide))).mp h112) | exact z.2 (by omega))
                          · exact absurd h117 (by decide)
                        · exact absurd h116 (by decide)
                      · refine lv_iconst (v := nI 1) hx hb d_Ref_join_130 (by decide) ?_
                        refine lv_goto hx hb d_Ref_join_131 (tgt := 135) (by decide) ?_
                        refine ri_icmp_eq hx hb (by omega) (by omega) d_Ref_join_135 (tgt := 142) (by decide) (fun h118 => ?_) (fun h118 => ?_)
                        · exact absurd h118 (by decide)
                        · refine lv_iconst (v := nI 1) hx hb d_Ref_join_138 (by decide) ?_
                          refine lv_goto hx hb d_Ref_join_139 (tgt := 143) (by decide) ?_
                          refine lv_istore hx hb d_Ref_join_143 hl (by decide) rfl (fun ls hl => ?_)
                          have hl : lv_has ls 8 [(7, .int (nI 1)), (4, .int (nI 1)), (6, .int (nI nx)), (5, .int (nI (S.G.2.2.1 e9 g))), (0, .ref h), (1, .int (nI e9)), (2, .int (nI g)), (3, .int dl)] := hl
                          refine lv_iload hx hb d_Ref_join_145 (lv_at hl 0 rfl) ?_
                          refine ri_if_eq hx hb (by omega) d_Ref_join_147 (tgt := 166) (by decide) (fun h119 => ?_) (fun h119 => ?_)
                          · exact absurd h119 (by decide)
                          · have hnw : bm_news S.G.1 S.G.2.2.1 e9 g nx := ⟨fun z => h112 ((oI_lt (fun b z => Nat.lt_trans (hgi.2.2.1 _ b z) (by decide))).mpr z), by intro z; omega⟩
                            refine lv_aload_n hx hb d_Ref_join_150 rfl (lv_at hl 4 rfl) ?_
                            refine va_get (D := D) (ci := 9) (v := .int (nI S.G.2.2.2.1.2.1)) (C := R_Ref) (T := T_Ref) (N := 32) hx hb ht in_Ref hown hK hP 0 rfl rfl 18 (by decide) (ht _ kl_Ref_151) (fun _ h9 => h9) rfl d_Ref_join_151 ?_
                            refine lv_sipush (v := nI 4000) hx hb d_Ref_join_154 (by decide) ?_
                            refine ri_icmp_ne hx hb (by omega) (by omega) d_Ref_join_157 (tgt := 166) (by decide) (fun h157 => ?_) (fun h157 => ?_)
                            · exact absurd h157 (by omega)
                            · refine lv_aload_n hx hb d_Ref_join_160 rfl (lv_at hl 4 rfl) ?_
                              refine lv_iconst (v := nI 1) hx hb d_Ref_join_161 (by decide) ?_
                              refine ct_callVI (C := R_Ref) (ci := 9) (As := [.int (nI 1)]) (rest := []) ⟨hx, hb, hml, hown, ht⟩ (k_Ref_raise l D cI cZ cJ cG (nI 1)) (cb_V ht kc_Ref_raise kl_Ref_159 kn_Ref ki_Ref_raise ks_Ref_raise hd_Ref_raise ⟨Nat.le_of_ble_eq_true rfl, Nat.le_of_ble_eq_true rfl⟩) (List.mem_of_getElem? (i := 0) rfl) rfl rfl (wd_ct (Bs := [[rf_o h qs (nI 0) ma S.T.2.2.1.2.1 ca S.D.2.1.2.1 na S.G.2.2.2.1.2.1 S.D.1.2.1 S.D.2.2.1 S.D.2.2.2.1 S.D.2.2.2.2 S.lost], [(qs 0, .inl (cI, 12, .inl (lI S.eb)))], [(qs 1, .inl (cI, 144, .inl (fl (gN S.lk))))], [(qs 2, .inl (cI, 144, .inl (fl (gN wt))))], [(qs 3, .inl (cZ, 144, .inl (fl (kB S.kn))))], [(qs 4, .inl (cI, 1600, .inl fR))], [(qs 5, .inl (cI, 1600, .inl fN))], [(qs 6, .inl (cJ, 1600, .inr (.inl fL)))], [(qs 7, .inl (cJ, 1600, .inr (.inl fH)))], [(qs 8, .inl (cZ, 1600, .inl (dB uf)))], [(qs 9, .inl (cI, 144, .inl (fl (sI S.T.2.1))))], [(qs 10, .inl (cI, 4000, .inl fM))], [(qs 11, .inl (cJ, 4000, .inr (.inl fC)))], [(qs 12, .inl (cI, 4000, .inl fT))], [(qs 13, .inl (cI, 8, .inl (lI S.G.1)))], [(qs 14, .inl (cI, 8, .inl S.G.2.1))], [(qs 15, .inl (cI, 96, .inl (fl (gN (rT S.G.2.2.1)))))], [(qs 16, .inl (cI, 901, .inl fD))], [(qs 17, .inl (cI, 901, .inl fX))], [(qs 18, .inl (cI, 144, .inl (fl MK)))], [(qs 19, .inl (cI, 144, .inl (fl MF)))]]) 21 rfl [0] [1, 2, 3, 4, 5, 6, 7, 8, 9, 10, 11, 12, 13, 14, 15, 16, 17, 18, 19, 20] (by decide) rfl) hK hP hD hS hA rfl hl.1 rfl (Nat.le_of_ble_eq_true rfl) ⟨(show 0 + 0 ≤ 0 by omega), (show 0 + 0 ≤ 0 by omega)⟩ d_Ref_join_162 (fun ru121 u121 H locs hu121 hP hD hS => ?_)
                              obtain ⟨rfl, rfl⟩ := hu121
                              refine W.widen (k := 0) (n := 0) (Nat.le_refl _) (Nat.le_refl _) ?_
                              have hP := wd_nP (N := [[rf_o h qs (nI 1) ma S.T.2.2.1.2.1 ca S.D.2.1.2.1 na S.G.2.2.2.1.2.1 S.D.1.2.1 S.D.2.2.1 S.D.2.2.2.1 S.D.2.2.2.2 S.lost]]) rfl 21 rfl [0, 1, 2, 3, 4, 5, 6, 7, 8, 9, 10, 11, 12, 13, 14, 15, 16, 17, 18, 19, 20] (by decide) hP
                              have hD := wd_nD (N := [[rf_o h qs (nI 1) ma S.T.2.2.1.2.1 ca S.D.2.1.2.1 na S.G.2.2.2.1.2.1 S.D.1.2.1 S.D.2.2.1 S.D.2.2.2.1 S.D.2.2.2.2 S.lost]]) rfl 21 rfl [0, 1, 2, 3, 4, 5, 6, 7, 8, 9, 10, 11, 12, 13, 14, 15, 16, 17, 18, 19, 20] (by decide) hD
                              have hP : va_P D kls (List.flatten [[rf_o h qs (nI 1) ma S.T.2.2.1.2.1 ca S.D.2.1.2.1 na S.G.2.2.2.1.2.1 S.D.1.2.1 S.D.2.2.1 S.D.2.2.2.1 S.D.2.2.2.2 S.lost], [(qs 0, .inl (cI, 12, .inl (lI S.eb)))], [(qs 1, .inl (cI, 144, .inl (fl (gN S.lk))))], [(qs 2, .inl (cI, 144, .inl (fl (gN wt))))], [(qs 3, .inl (cZ, 144, .inl (fl (kB S.kn))))], [(qs 4, .inl (cI, 1600, .inl fR))], [(qs 5, .inl (cI, 1600, .inl fN))], [(qs 6, .inl (cJ, 1600, .inr (.inl fL)))], [(qs 7, .inl (cJ, 1600, .inr (.inl fH)))], [(qs 8, .inl (cZ, 1600, .inl (dB uf)))], [(qs 9, .inl (cI, 144, .inl (fl (sI S.T.2.1))))], [(qs 10, .inl (cI, 4000, .inl fM))], [(qs 11, .inl (cJ, 4000, .inr (.inl fC)))], [(qs 12, .inl (cI, 4000, .inl fT))], [(qs 13, .inl (cI, 8, .inl (lI S.G.1)))], [(qs 14, .inl (cI, 8, .inl S.G.2.1))], [(qs 15, .inl (cI, 96, .inl (fl (gN (rT S.G.2.2.1)))))], [(qs 16, .inl (cI, 901, .inl fD))], [(qs 17, .inl (cI, 901, .inl fX))], [(qs 18, .inl (cI, 144, .inl (fl MK)))], [(qs 19, .inl (cI, 144, .inl (fl MF)))]]) H := hP
                              have hD : va_D A (List.flatten [[rf_o h qs (nI 1) ma S.T.2.2.1.2.1 ca S.D.2.1.2.1 na S.G.2.2.2.1.2.1 S.D.1.2.1 S.D.2.2.1 S.D.2.2.2.1 S.D.2.2.2.2 S.lost], [(qs 0, .inl (cI, 12, .inl (lI S.eb)))], [(qs 1, .inl (cI, 144, .inl (fl (gN S.lk))))], [(qs 2, .inl (cI, 144, .inl (fl (gN wt))))], [(qs 3, .inl (cZ, 144, .inl (fl (kB S.kn))))], [(qs 4, .inl (cI, 1600, .inl fR))], [(qs 5, .inl (cI, 1600, .inl fN))], [(qs 6, .inl (cJ, 1600, .inr (.inl fL)))], [(qs 7, .inl (cJ, 1600, .inr (.inl fH)))], [(qs 8, .inl (cZ, 1600, .inl (dB uf)))], [(qs 9, .inl (cI, 144, .inl (fl (sI S.T.2.1))))], [(qs 10, .inl (cI, 4000, .inl fM))], [(qs 11, .inl (cJ, 4000, .inr (.inl fC)))], [(qs 12, .inl (cI, 4000, .inl fT))], [(qs 13, .inl (cI, 8, .inl (lI S.G.1)))], [(qs 14, .inl (cI, 8, .inl S.G.2.1))], [(qs 15, .inl (cI, 96, .inl (fl (gN (rT S.G.2.2.1)))))], [(qs 16, .inl (cI, 901, .inl fD))], [(qs 17, .inl (cI, 901, .inl fX))], [(qs 18, .inl (cI, 144, .inl (fl MK)))], [(qs 19, .inl (cI, 144, .inl (fl MF)))]]) := hD
                              refine W.eq (g2 := F0 m 165 ls [.int (nI 0)]) rfl ?_
                              exact ct_iret hQ hx hb hr hlk hP hD hS hK (by omega) (by omega) d_Ref_join_165 (⟨qs, ma, ca, na, wt, fR, fN, fL, fH, uf, fM, fC, fT, fD, fX, MK, MF, rfl, hwt, hAd, hM, hC, hN, hPd⟩)
                    · refine lv_iconst (v := nI 1) hx hb d_Ref_join_120 (by decide) ?_
                      refine lv_goto hx hb d_Ref_join_121 (tgt := 125) (by decide) ?_
                      refine lv_iload hx hb d_Ref_join_125 (lv_at hl 1 rfl) ?_
                      refine ri_if_le hx hb (by omega) d_Ref_join_127 (tgt := 134) (by decide) (fun h127 => ?_) (fun h127 => ?_)
                      · refine lv_iconst (v := nI 0) hx hb d_Ref_join_134 (by decide) ?_
                        refine ri_icmp_eq hx hb (by omega) (by omega) d_Ref_join_135 (tgt := 142) (by decide) (fun h123 => ?_) (fun h123 => ?_)
                        · exact absurd h123 (by decide)
                        · refine lv_iconst (v := nI 1) hx hb d_Ref_join_138 (by decide) ?_
                          refine lv_goto hx hb d_Ref_join_139 (tgt := 143) (by decide) ?_
                          refine lv_istore hx hb d_Ref_join_143 hl (by decide) rfl (fun ls hl => ?_)
                          have hl : lv_has ls 8 [(7, .int (nI 1)), (4, .int (nI 1)), (6, .int (nI nx)), (5, .int (nI (S.G.2.2.1 e9 g))), (0, .ref h), (1, .int (nI e9)), (2, .int (nI g)), (3, .int dl)] := hl
                          refine lv_iload hx hb d_Ref_join_145 (lv_at hl 0 rfl) ?_
                          refine ri_if_eq hx hb (by omega) d_Ref_join_147 (tgt := 166) (by decide) (fun h124 => ?_) (fun h124 => ?_)
                          · exact absurd h124 (by decide)
                          · have hnw : bm_news S.G.1 S.G.2.2.1 e9 g nx := ⟨fun z => h112 ((oI_lt (fun b z => Nat.lt_trans (hgi.2.2.1 _ b z) (by decide))).mpr z), by intro z; omega⟩
                            refine lv_aload_n hx hb d_Ref_join_150 rfl (lv_at hl 4 rfl) ?_
                            refine va_get (D := D) (ci := 9) (v := .int (nI S.G.2.2.2.1.2.1)) (C := R_Ref) (T := T_Ref) (N := 32) hx hb ht in_Ref hown hK hP 0 rfl rfl 18 (by decide) (ht _ kl_Ref_151) (fun _ h9 => h9) rfl d_Ref_join_151 ?_
                            refine lv_sipush (v := nI 4000) hx hb d_Ref_join_154 (by decide) ?_
                            refine ri_icmp_ne hx hb (by omega) (by omega) d_Ref_join_157 (tgt := 166) (by decide) (fun h157 => ?_) (fun h157 => ?_)
                            · exact absurd h157 (by omega)
                            · refine lv_aload_n hx hb d_Ref_join_160 rfl (lv_at hl 4 rfl) ?_
                              refine lv_iconst (v := nI 1) hx hb d_Ref_join_161 (by decide) ?_
                              refine ct_callVI (C := R_Ref) (ci := 9) (As := [.int (nI 1)]) (rest := []) ⟨hx, hb, hml, hown, ht⟩ (k_Ref_raise l D cI cZ cJ cG (nI 1)) (cb_V ht kc_Ref_raise kl_Ref_159 kn_Ref ki_Ref_raise ks_Ref_raise hd_Ref_raise ⟨Nat.le_of_ble_eq_true rfl, Nat.le_of_ble_eq_true rfl⟩) (List.mem_of_getElem? (i := 0) rfl) rfl rfl (wd_ct (Bs := [[rf_o h qs (nI 0) ma S.T.2.2.1.2.1 ca S.D.2.1.2.1 na S.G.2.2.2.1.2.1 S.D.1.2.1 S.D.2.2.1 S.D.2.2.2.1 S.D.2.2.2.2 S.lost], [(qs 0, .inl (cI, 12, .inl (lI S.eb)))], [(qs 1, .inl (cI, 144, .inl (fl (gN S.lk))))], [(qs 2, .inl (cI, 144, .inl (fl (gN wt))))], [(qs 3, .inl (cZ, 144, .inl (fl (kB S.kn))))], [(qs 4, .inl (cI, 1600, .inl fR))], [(qs 5, .inl (cI, 1600, .inl fN))], [(qs 6, .inl (cJ, 1600, .inr (.inl fL)))], [(qs 7, .inl (cJ, 1600, .inr (.inl fH)))], [(qs 8, .inl (cZ, 1600, .inl (dB uf)))], [(qs 9, .inl (cI, 144, .inl (fl (sI S.T.2.1))))], [(qs 10, .inl (cI, 4000, .inl fM))], [(qs 11, .inl (cJ, 4000, .inr (.inl fC)))], [(qs 12, .inl (cI, 4000, .inl fT))], [(qs 13, .inl (cI, 8, .inl (lI S.G.1)))], [(qs 14, .inl (cI, 8, .inl S.G.2.1))], [(qs 15, .inl (cI, 96, .inl (fl (gN (rT S.G.2.2.1)))))], [(qs 16, .inl (cI, 901, .inl fD))], [(qs 17, .inl (cI, 901, .inl fX))], [(qs 18, .inl (cI, 144, .inl (fl MK)))], [(qs 19, .inl (cI, 144, .inl (fl MF)))]]) 21 rfl [0] [1, 2, 3, 4, 5, 6, 7, 8, 9, 10, 11, 12, 13, 14, 15, 16, 17, 18, 19, 20] (by decide) rfl) hK hP hD hS hA rfl hl.1 rfl (Nat.le_of_ble_eq_true rfl) ⟨(show 0 + 0 ≤ 0 by omega), (show 0 + 0 ≤ 0 by omega)⟩ d_Ref_join_162 (fun ru126 u126 H locs hu126 hP hD hS => ?_)
                              obtain ⟨rfl, rfl⟩ := hu126
                              refine W.widen (k := 0) (n := 0) (Nat.le_refl _) (Nat.le_refl _) ?_
                              have hP := wd_nP (N := [[rf_o h qs (nI 1) ma S.T.2.2.1.2.1 ca S.D.2.1.2.1 na S.G.2.2.2.1.2.1 S.D.1.2.1 S.D.2.2.1 S.D.2.2.2.1 S.D.2.2.2.2 S.lost]]) rfl 21 rfl [0, 1, 2, 3, 4, 5, 6, 7, 8, 9, 10, 11, 12, 13, 14, 15, 16, 17, 18, 19, 20] (by decide) hP
                              have hD := wd_nD (N := [[rf_o h qs (nI 1) ma S.T.2.2.1.2.1 ca S.D.2.1.2.1 na S.G.2.2.2.1.2.1 S.D.1.2.1 S.D.2.2.1 S.D.2.2.2.1 S.D.2.2.2.2 S.lost]]) rfl 21 rfl [0, 1, 2, 3, 4, 5, 6, 7, 8, 9, 10, 11, 12, 13, 14, 15, 16, 17, 18, 19, 20] (by decide) hD
                              have hP : va_P D kls (List.flatten [[rf_o h qs (nI 1) ma S.T.2.2.1.2.1 ca S.D.2.1.2.1 na S.G.2.2.2.1.2.1 S.D.1.2.1 S.D.2.2.1 S.D.2.2.2.1 S.D.2.2.2.2 S.lost], [(qs 0, .inl (cI, 12, .inl (lI S.eb)))], [(qs 1, .inl (cI, 144, .inl (fl (gN S.lk))))], [(qs 2, .inl (cI, 144, .inl (fl (gN wt))))], [(qs 3, .inl (cZ, 144, .inl (fl (kB S.kn))))], [(qs 4, .inl (cI, 1600, .inl fR))], [(qs 5, .inl (cI, 1600, .inl fN))], [(qs 6, .inl (cJ, 1600, .inr (.inl fL)))], [(qs 7, .inl (cJ, 1600, .inr (.inl fH)))], [(qs 8, .inl (cZ, 1600, .inl (dB uf)))], [(qs 9, .inl (cI, 144, .inl (fl (sI S.T.2.1))))], [(qs 10, .inl (cI, 4000, .inl fM))], [(qs 11, .inl (cJ, 4000, .inr (.inl fC)))], [(qs 12, .inl (cI, 4000, .inl fT))], [(qs 13, .inl (cI, 8, .inl (lI S.G.1)))], [(qs 14, .inl (cI, 8, .inl S.G.2.1))], [(qs 15, .inl (cI, 96, .inl (fl (gN (rT S.G.2.2.1)))))], [(qs 16, .inl (cI, 901, .inl fD))], [(qs 17, .inl (cI, 901, .inl fX))], [(qs 18, .inl (cI, 144, .inl (fl MK)))], [(qs 19, .inl (cI, 144, .inl (fl MF)))]]) H := hP
                              have hD : va_D A (List.flatten [[rf_o h qs (nI 1) ma S.T.2.2.1.2.1 ca S.D.2.1.2.1 na S.G.2.2.2.1.2.1 S.D.1.2.1 S.D.2.2.1 S.D.2.2.2.1 S.D.2.2.2.2 S.lost], [(qs 0, .inl (cI, 12, .inl (lI S.eb)))], [(qs 1, .inl (cI, 144, .inl (fl (gN S.lk))))], [(qs 2, .inl (cI, 144, .inl (fl (gN wt))))], [(qs 3, .inl (cZ, 144, .inl (fl (kB S.kn))))], [(qs 4, .inl (cI, 1600, .inl fR))], [(qs 5, .inl (cI, 1600, .inl fN))], [(qs 6, .inl (cJ, 1600, .inr (.inl fL)))], [(qs 7, .inl (cJ, 1600, .inr (.inl fH)))], [(qs 8, .inl (cZ, 1600, .inl (dB uf)))], [(qs 9, .inl (cI, 144, .inl (fl (sI S.T.2.1))))], [(qs 10, .inl (cI, 4000, .inl fM))], [(qs 11, .inl (cJ, 4000, .inr (.inl fC)))], [(qs 12, .inl (cI, 4000, .inl fT))], [(qs 13, .inl (cI, 8, .inl (lI S.G.1)))], [(qs 14, .inl (cI, 8, .inl S.G.2.1))], [(qs 15, .inl (cI, 96, .inl (fl (gN (rT S.G.2.2.1)))))], [(qs 16, .inl (cI, 901, .inl fD))], [(qs 17, .inl (cI, 901, .inl fX))], [(qs 18, .inl (cI, 144, .inl (fl MK)))], [(qs 19, .inl (cI, 144, .inl (fl MF)))]]) := hD
                              refine W.eq (g2 := F0 m 165 ls [.int (nI 0)]) rfl ?_
                              exact ct_iret hQ hx hb hr hlk hP hD hS hK (by omega) (by omega) d_Ref_join_165 (⟨qs, ma, ca, na, wt, fR, fN, fL, fH, uf, fM, fC, fT, fD, fX, MK, MF, rfl, hwt, hAd, hM, hC, hN, hPd⟩)
                      · refine lv_iconst (v := nI 1) hx hb d_Ref_join_130 (by decide) ?_
                        refine lv_goto hx hb d_Ref_join_131 (tgt := 135) (by decide) ?_
                        refine ri_icmp_eq hx hb (by omega) (by omega) d_Ref_join_135 (tgt := 142) (by decide) (fun h127 => ?_) (fun h127 => ?_)
                        · refine lv_iconst (v := nI 0) hx hb d_Ref_join_142 (by decide) ?_
                          refine lv_istore hx hb d_Ref_join_143 hl (by decide) rfl (fun ls hl => ?_)
                          have hl : lv_has ls 8 [(7, .int (nI 0)), (4, .int (nI 1)), (6, .int (nI nx)), (5, .int (nI (S.G.2.2.1 e9 g))), (0, .ref h), (1, .int (nI e9)), (2, .int (nI g)), (3, .int dl)] := hl
                          refine lv_iload hx hb d_Ref_join_145 (lv_at hl 0 rfl) ?_
                          refine ri_if_eq hx hb (by omega) d_Ref_join_147 (tgt := 166) (by decide) (fun h128 => ?_) (fun h128 => ?_)
                          · exact absurd hnw9 (fun z => by first | exact z.1 ((oI_lt (fun b z => Nat.lt_trans (hgi.2.2.1 _ b z) (by decide))).mp h112) | exact z.2 (by omega))
                          · exact absurd h128 (by decide)
                        · exact absurd h127 (by decide)
                · exact absurd h111 (by decide)
      · refine lv_iload_n hx hb d_Ref_join_20 rfl (lv_at hl 3 rfl) ?_
        refine lv_iconst (v := (-1)) hx hb d_Ref_join_21 (by decide) ?_
        refine lv_icmp_ne hx hb d_Ref_join_22 (tgt := 29) (by decide) (fun h22 => ?_) (fun h22 => ?_)
        · exact absurd h22 (fun z => by rcases hdl with q | q; exact h17 q; exact z q)
        · refine lv_iconst (v := nI 1) hx hb d_Ref_join_25 (by decide) ?_
          refine lv_goto hx hb d_Ref_join_26 (tgt := 30) (by decide) ?_
          refine lv_istore hx hb d_Ref_join_30 hl (by decide) rfl (fun ls hl => ?_)
          have hl : lv_has ls 8 [(4, .int (nI 1)), (0, .ref h), (1, .int (nI e9)), (2, .int (nI g)), (3, .int dl)] := hl
          refine lv_iload hx hb d_Ref_join_32 (lv_at hl 0 rfl) ?_
          refine ri_if_eq hx hb (by omega) d_Ref_join_34 (tgt := 51) (by decide) (fun h130 => ?_) (fun h130 => ?_)
          · exact absurd h130 (by decide)
          · refine lv_aload_n hx hb d_Ref_join_37 rfl (lv_at hl 1 rfl) ?_
            refine va_get (D := D) (ci := 9) (v := .ref (qs 15)) (C := R_Ref) (T := T_Ref) (N := 32) hx hb ht in_Ref hown hK hP 0 rfl rfl 22 (by decide) (ht _ kl_Ref_57) (fun _ h9 => h9) rfl d_Ref_join_38 ?_
            refine lv_bipush (v := nI 12) hx hb d_Ref_join_41 (by decide) ?_
            refine lv_iload_n hx hb d_Ref_join_43 rfl (lv_at hl 3 rfl) ?_
            refine ri_imul hx hb d_Ref_join_44 ?_
            refine lv_iload_n hx hb d_Ref_join_45 rfl (lv_at hl 2 rfl) ?_
            refine ri_iadd hx hb d_Ref_join_46 ?_
            refine ri_iald hx hb hK hP 16 0 rfl rfl (j := (12 * g) + e9) (by omega) (by omega) d_Ref_join_47 ?_
            refine W.eq (g2 := F0 m 48 ls [.int (nI ((rT S.G.2.2.1) g e9))]) (congrArg (fun z => F0 m 48 ls (.int z :: [])) (fl_at (a := g) (b := e9) (by omega))) ?_
            refine W.eq (g2 := F0 m 48 ls [.int (nI (S.G.2.2.1 e9 g))]) (congrArg (fun z => F0 m 48 ls (.int z :: [])) (rfl)) ?_
            refine lv_goto hx hb d_Ref_join_48 (tgt := 52) (by decide) ?_
            refine lv_istore hx hb d_Ref_join_52 hl (by decide) rfl (fun ls hl => ?_)
            have hl : lv_has ls 8 [(5, .int (nI (S.G.2.2.1 e9 g))), (4, .int (nI 1)), (0, .ref h), (1, .int (nI e9)), (2, .int (nI g)), (3, .int dl)] := hl
            refine lv_iload hx hb d_Ref_join_54 (lv_at hl 0 rfl) ?_
            refine lv_iload_n hx hb d_Ref_join_56 rfl (lv_at hl 5 rfl) ?_
            refine lv_iadd hx hb d_Ref_join_57 ?_
            refine W.eq (g2 := F0 m 58 ls [.int (nI nx)]) (congrArg (fun z => F0 m 58 ls (.int z :: [])) (hsum)) ?_
            refine lv_istore hx hb d_Ref_join_58 hl (by decide) rfl (fun ls hl => ?_)
            have hl : lv_has ls 8 [(6, .int (nI nx)), (5, .int (nI (S.G.2.2.1 e9 g))), (4, .int (nI 1)), (0, .ref h), (1, .int (nI e9)), (2, .int (nI g)), (3, .int dl)] := hl
            refine lv_iload hx hb d_Ref_join_60 (lv_at hl 2 rfl) ?_
            refine ri_if_eq hx hb (by omega) d_Ref_join_62 (tgt := 82) (by decide) (fun h131 => ?_) (fun h131 => ?_)
            · exact absurd h131 (by decide)
            · refine lv_iload hx hb d_Ref_join_65 (lv_at hl 0 rfl) ?_
              refine lv_i2l (v := lN nx) hx hb d_Ref_join_67 (nI_l (by omega)) ?_
              refine lv_lconst (v := lN 0) hx hb d_Ref_join_68 rfl ?_
              refine lv_ldc2 (v := lN 100) hx hb hown (ht _ kl_Ref_157) d_Ref_join_69 ?_
              refine ct_rdS (As := [.long (lN nx), .long (lN 0), .long (lN 100)]) (rest := []) ⟨hx, hb, hml, hown, ht⟩ (k_Ref_in l D cI cZ cJ cG (lN nx) (lN 0) (lN 100)) (cb_S ht kc_Ref_in kl_Ref_78 kn_Ref ki_Ref_in hd_Ref_in ⟨Nat.le_of_ble_eq_true rfl, Nat.le_of_ble_eq_true rfl⟩) (wd_ct (Bs := [[rf_o h qs cd ma S.T.2.2.1.2.1 ca S.D.2.1.2.1 na S.G.2.2.2.1.2.1 S.D.1.2.1 S.D.2.2.1 S.D.2.2.2.1 S.D.2.2.2.2 S.lost], [(qs 0, .inl (cI, 12, .inl (lI S.eb)))], [(qs 1, .inl (cI, 144, .inl (fl (gN S.lk))))], [(qs 2, .inl (cI, 144, .inl (fl (gN wt))))], [(qs 3, .inl (cZ, 144, .inl (fl (kB S.kn))))], [(qs 4, .inl (cI, 1600, .inl fR))], [(qs 5, .inl (cI, 1600, .inl fN))], [(qs 6, .inl (cJ, 1600, .inr (.inl fL)))], [(qs 7, .inl (cJ, 1600, .inr (.inl fH)))], [(qs 8, .inl (cZ, 1600, .inl (dB uf)))], [(qs 9, .inl (cI, 144, .inl (fl (sI S.T.2.1))))], [(qs 10, .inl (cI, 4000, .inl fM))], [(qs 11, .inl (cJ, 4000, .inr (.inl fC)))], [(qs 12, .inl (cI, 4000, .inl fT))], [(qs 13, .inl (cI, 8, .inl (lI S.G.1)))], [(qs 14, .inl (cI, 8, .inl S.G.2.1))], [(qs 15, .inl (cI, 96, .inl (fl (gN (rT S.G.2.2.1)))))], [(qs 16, .inl (cI, 901, .inl fD))], [(qs 17, .inl (cI, 901, .inl fX))], [(qs 18, .inl (cI, 144, .inl (fl MK)))], [(qs 19, .inl (cI, 144, .inl (fl MF)))]]) 21 rfl [] [0, 1, 2, 3, 4, 5, 6, 7, 8, 9, 10, 11, 12, 13, 14, 15, 16, 17, 18, 19, 20] (by decide) rfl) hK hP hD hS hA rfl hl.1 rfl (Nat.le_of_ble_eq_true rfl) ⟨(show 0 + 0 ≤ 0 by omega), (show 0 + 0 ≤ 0 by omega)⟩ d_Ref_join_72 (fun rhr132 H locs hr132 hP hD hS => ?_)
              subst hr132
              refine W.eq (g2 := F0 m 75 ls [.int (bI true)]) (congrArg (fun z => F0 m 75 ls (.int z :: [])) (congrArg bI (decide_eq_true ⟨(lN_le (by decide) (show nx < 2 ^ 31 by omega)).mpr (Nat.zero_le _), (lN_le (show nx < 2 ^ 31 by omega) (by decide)).mpr hnx⟩))) ?_
              refine ri_ifeqB hx hb d_Ref_join_75 (tgt := 82) (by decide) (fun h133 => ?_) (fun h133 => ?_)
              · exact absurd h133 (fun z => by cases z)
              · refine lv_iconst (v := nI 1) hx hb d_Ref_join_78 (by decide) ?_
                refine lv_goto hx hb d_Ref_join_79 (tgt := 83) (by decide) ?_
                refine lv_istore hx hb d_Ref_join_83 hl (by decide) rfl (fun ls hl => ?_)
                have hl : lv_has ls 8 [(4, .int (nI 1)), (6, .int (nI nx)), (5, .int (nI (S.G.2.2.1 e9 g))), (0, .ref h), (1, .int (nI e9)), (2, .int (nI g)), (3, .int dl)] := hl
                refine lv_aload_n hx hb d_Ref_join_85 rfl (lv_at hl 3 rfl) ?_
                refine lv_iload hx hb d_Ref_join_86 (lv_at hl 0 rfl) ?_
                refine ri_if_eq hx hb (by omega) d_Ref_join_88 (tgt := 95) (by decide) (fun h134 => ?_) (fun h134 => ?_)
                · exact absurd h134 (by decide)
                · refine lv_iconst (v := nI 0) hx hb d_Ref_join_91 (by decide) ?_
                  refine lv_goto hx hb d_Ref_join_92 (tgt := 96) (by decide) ?_
                  refine va_put (D := D) (ci := 9) (v := .int (nI 0)) (ty := .int) (C := R_Ref) (T := T_Ref) (N := 32) hx hb ht in_Ref t_Ref ok_Ref nm_Ref hown hK hP hD hS 0 rfl rfl 0 (by decide) (ht _ kl_Ref_72) (fun _ h9 => h9) rfl (by decide +kernel) rfl rfl (Nat.le_of_ble_eq_true rfl) d_Ref_join_96 (fun H locs hP hD hS => ?_)
                  have hP : va_P D kls (List.flatten [[rf_o h qs (nI 0) ma S.T.2.2.1.2.1 ca S.D.2.1.2.1 na S.G.2.2.2.1.2.1 S.D.1.2.1 S.D.2.2.1 S.D.2.2.2.1 S.D.2.2.2.2 S.lost], [(qs 0, .inl (cI, 12, .inl (lI S.eb)))], [(qs 1, .inl (cI, 144, .inl (fl (gN S.lk))))], [(qs 2, .inl (cI, 144, .inl (fl (gN wt))))], [(qs 3, .inl (cZ, 144, .inl (fl (kB S.kn))))], [(qs 4, .inl (cI, 1600, .inl fR))], [(qs 5, .inl (cI, 1600, .inl fN))], [(qs 6, .inl (cJ, 1600, .inr (.inl fL)))], [(qs 7, .inl (cJ, 1600, .inr (.inl fH)))], [(qs 8, .inl (cZ, 1600, .inl (dB uf)))], [(qs 9, .inl (cI, 144, .inl (fl (sI S.T.2.1))))], [(qs 10, .inl (cI, 4000, .inl fM))], [(qs 11, .inl (cJ, 4000, .inr (.inl fC)))], [(qs 12, .inl (cI, 4000, .inl fT))], [(qs 13, .inl (cI, 8, .inl (lI S.G.1)))], [(qs 14, .inl (cI, 8, .inl S.G.2.1))], [(qs 15, .inl (cI, 96, .inl (fl (gN (rT S.G.2.2.1)))))], [(qs 16, .inl (cI, 901, .inl fD))], [(qs 17, .inl (cI, 901, .inl fX))], [(qs 18, .inl (cI, 144, .inl (fl MK)))], [(qs 19, .inl (cI, 144, .inl (fl MF)))]]) H := hP
                  have hD : va_D A (List.flatten [[rf_o h qs (nI 0) ma S.T.2.2.1.2.1 ca S.D.2.1.2.1 na S.G.2.2.2.1.2.1 S.D.1.2.1 S.D.2.2.1 S.D.2.2.2.1 S.D.2.2.2.2 S.lost], [(qs 0, .inl (cI, 12, .inl (lI S.eb)))], [(qs 1, .inl (cI, 144, .inl (fl (gN S.lk))))], [(qs 2, .inl (cI, 144, .inl (fl (gN wt))))], [(qs 3, .inl (cZ, 144, .inl (fl (kB S.kn))))], [(qs 4, .inl (cI, 1600, .inl fR))], [(qs 5, .inl (cI, 1600, .inl fN))], [(qs 6, .inl (cJ, 1600, .inr (.inl fL)))], [(qs 7, .inl (cJ, 1600, .inr (.inl fH)))], [(qs 8, .inl (cZ, 1600, .inl (dB uf)))], [(qs 9, .inl (cI, 144, .inl (fl (sI S.T.2.1))))], [(qs 10, .inl (cI, 4000, .inl fM))], [(qs 11, .inl (cJ, 4000, .inr (.inl fC)))], [(qs 12, .inl (cI, 4000, .inl fT))], [(qs 13, .inl (cI, 8, .inl (lI S.G.1)))], [(qs 14, .inl (cI, 8, .inl S.G.2.1))], [(qs 15, .inl (cI, 96, .inl (fl (gN (rT S.G.2.2.1)))))], [(qs 16, .inl (cI, 901, .inl fD))], [(qs 17, .inl (cI, 901, .inl fX))], [(qs 18, .inl (cI, 144, .inl (fl MK)))], [(qs 19, .inl (cI, 144, .inl (fl MF)))]]) := hD
                  refine lv_iload hx hb d_Ref_join_99 (lv_at hl 0 rfl) ?_
                  refine ri_if_ne hx hb (by omega) d_Ref_join_101 (tgt := 106) (by decide) (fun h135 => ?_) (fun h135 => ?_)
                  · have hrcj := hgi.1 e9 g
                    refine lv_aload_n hx hb d_Ref_join_106 rfl (lv_at hl 3 rfl) ?_
                    refine va_get (D := D) (ci := 9) (v := .ref (qs 13)) (C := R_Ref) (T := T_Ref) (N := 32) hx hb ht in_Ref hown hK hP 0 rfl rfl 20 (by decide) (ht _ kl_Ref_51) (fun _ h9 => h9) rfl d_Ref_join_107 ?_
                    refine lv_iload_n hx hb d_Ref_join_110 rfl (lv_at hl 5 rfl) ?_
                    refine ri_iald hx hb hK hP 14 0 rfl rfl (j := g) (by omega) (by omega) d_Ref_join_111 ?_
                    refine W.eq (g2 := F0 m 112 ls [.int (bm_oI (S.G.1 g))]) rfl ?_
                    refine lv_if_lt hx hb d_Ref_join_112 (tgt := 142) (by decide) (fun h112 => ?_) (fun h112 => ?_)
                    · refine lv_iconst (v := nI 0) hx hb d_Ref_join_142 (by decide) ?_
                      refine lv_istore hx hb d_Ref_join_143 hl (by decide) rfl (fun ls hl => ?_)
                      have hl : lv_has ls 8 [(7, .int (nI 0)), (4, .int (nI 1)), (6, .int (nI nx)), (5, .int (nI (S.G.2.2.1 e9 g))), (0, .ref h), (1, .int (nI e9)), (2, .int (nI g)), (3, .int dl)] := hl
                      refine lv_iload hx hb d_Ref_join_145 (lv_at hl 0 rfl) ?_
                      refine ri_if_eq hx hb (by omega) d_Ref_join_147 (tgt := 166) (by decide) (fun h137 => ?_) (fun h137 => ?_)
                      · exact absurd hnw9 (fun z => by first | exact z.1 ((oI_lt (fun b z => Nat.lt_trans (hgi.2.2.1 _ b z) (by decide))).mp h112) | exact z.2 (by omega))
                      · exact absurd h137 (by decide)
                    · refine lv_iload hx hb d_Ref_join_115 (lv_at hl 2 rfl) ?_
                      refine ri_if_le hx hb (by omega) d_Ref_join_117 (tgt := 124) (by decide) (fun h117 => ?_) (fun h117 => ?_)
                      · refine lv_iconst (v := nI 0) hx hb d_Ref_join_124 (by decide) ?_
                        refine lv_iload hx hb d_Ref_join_125 (lv_at hl 1 rfl) ?_
                        refine ri_if_le hx hb (by omega) d_Ref_join_127 (tgt := 134) (by decide) (fun h127 => ?_) (fun h127 => ?_)
                        · refine lv_iconst (v := nI 0) hx hb d_Ref_join_134 (by decide) ?_
                          refine ri_icmp_eq hx hb (by omega) (by omega) d_Ref_join_135 (tgt := 142) (by decide) (fun h140 => ?_) (fun h140 => ?_)
                          · refine lv_iconst (v := nI 0) hx hb d_Ref_join_142 (by decide) ?_
                            refine lv_istore hx hb d_Ref_join_143 hl (by decide) rfl (fun ls hl => ?_)
                            have hl : lv_has ls 8 [(7, .int (nI 0)), (4, .int (nI 1)), (6, .int (nI nx)), (5, .int (nI (S.G.2.2.1 e9 g))), (0, .ref h), (1, .int (nI e9)), (2, .int (nI g)), (3, .int dl)] := hl
                            refine lv_iload hx hb d_Ref_join_145 (lv_at hl 0 rfl) ?_
                            refine ri_if_eq hx hb (by omega) d_Ref_join_147 (tgt := 166) (by decide) (fun h141 => ?_) (fun h141 => ?_)
                            · exact absurd hnw9 (fun z => by first | exact z.1 ((oI_lt (fun b z => Nat.lt_trans (hgi.2.2.1 _ b z) (by decide))).mp h112) | exact z.2 (by omega))
                            · exact absurd h141 (by decide)
                          · exact absurd h140 (by decide)
                        · refine lv_iconst (v := nI 1) hx hb d_Ref_join_130 (by decide) ?_
                          refine lv_goto hx hb d_Ref_join_131 (tgt := 135) (by decide) ?_
                          refine ri_icmp_eq hx hb (by omega) (by omega) d_Ref_join_135 (tgt := 142) (by decide) (fun h142 => ?_) (fun h142 => ?_)
                          · exact absurd h142 (by decide)
                          · refine lv_iconst (v := nI 1) hx hb d_Ref_join_138 (by decide) ?_
                            refine lv_goto hx hb d_Ref_join_139 (tgt := 143) (by decide) ?_
                            refine lv_istore hx hb d_Ref_join_143 hl (by decide) rfl (fun ls hl => ?_)
                            have hl : lv_has ls 8 [(7, .int (nI 1)), (4, .int (nI 1)), (6, .int (nI nx)), (5, .int (nI (S.G.2.2.1 e9 g))), (0, .ref h), (1, .int (nI e9)), (2, .int (nI g)), (3, .int dl)] := hl
                            refine lv_iload hx hb d_Ref_join_145 (lv_at hl 0 rfl) ?_
                            refine ri_if_eq hx hb (by omega) d_Ref_join_147 (tgt := 166) (by decide) (fun h143 => ?_) (fun h143 => ?_)
                            · exact absurd h143 (by decide)
                            · have hnw : bm_news S.G.1 S.G.2.2.1 e9 g nx := ⟨fun z => h112 ((oI_lt (fun b z => Nat.lt_trans (hgi.2.2.1 _ b z) (by decide))).mpr z), by intro z; omega⟩
                              refine lv_aload_n hx hb d_Ref_join_150 rfl (lv_at hl 4 rfl) ?_
                              refine va_get (D := D) (ci := 9) (v := .int (nI S.G.2.2.2.1.2.1)) (C := R_Ref) (T := T_Ref) (N := 32) hx hb ht in_Ref hown hK hP 0 rfl rfl 18 (by decide) (ht _ kl_Ref_151) (fun _ h9 => h9) rfl d_Ref_join_151 ?_
                              refine lv_sipush (v := nI 4000) hx hb d_Ref_join_154 (by decide) ?_
                              refine ri_icmp_ne hx hb (by omega) (by omega) d_Ref_join_157 (tgt := 166) (by decide) (fun h157 => ?_) (fun h157 => ?_)
                              · exact absurd h157 (by omega)
                              · refine lv_aload_n hx hb d_Ref_join_160 rfl (lv_at hl 4 rfl) ?_
                                refine lv_iconst (v := nI 1) hx hb d_Ref_join_161 (by decide) ?_
                                refine ct_callVI (C := R_Ref) (ci := 9) (As := [.int (nI 1)]) (rest := []) ⟨hx, hb, hml, hown, ht⟩ (k_Ref_raise l D cI cZ cJ cG (nI 1)) (cb_V ht kc_Ref_raise kl_Ref_159 kn_Ref ki_Ref_raise ks_Ref_raise hd_Ref_raise ⟨Nat.le_of_ble_eq_true rfl, Nat.le_of_ble_eq_true rfl⟩) (List.mem_of_getElem? (i := 0) rfl) rfl rfl (wd_ct (Bs := [[rf_o h qs (nI 0) ma S.T.2.2.1.2.1 ca S.D.2.1.2.1 na S.G.2.2.2.1.2.1 S.D.1.2.1 S.D.2.2.1 S.D.2.2.2.1 S.D.2.2.2.2 S.lost], [(qs 0, .inl (cI, 12, .inl (lI S.eb)))], [(qs 1, .inl (cI, 144, .inl (fl (gN S.lk))))], [(qs 2, .inl (cI, 144, .inl (fl (gN wt))))], [(qs 3, .inl (cZ, 144, .inl (fl (kB S.kn))))], [(qs 4, .inl (cI, 1600, .inl fR))], [(qs 5, .inl (cI, 1600, .inl fN))], [(qs 6, .inl (cJ, 1600, .inr (.inl fL)))], [(qs 7, .inl (cJ, 1600, .inr (.inl fH)))], [(qs 8, .inl (cZ, 1600, .inl (dB uf)))], [(qs 9, .inl (cI, 144, .inl (fl (sI S.T.2.1))))], [(qs 10, .inl (cI, 4000, .inl fM))], [(qs 11, .inl (cJ, 4000, .inr (.inl fC)))], [(qs 12, .inl (cI, 4000, .inl fT))], [(qs 13, .inl (cI, 8, .inl (lI S.G.1)))], [(qs 14, .inl (cI, 8, .inl S.G.2.1))], [(qs 15, .inl (cI, 96, .inl (fl (gN (rT S.G.2.2.1)))))], [(qs 16, .inl (cI, 901, .inl fD))], [(qs 17, .inl (cI, 901, .inl fX))], [(qs 18, .inl (cI, 144, .inl (fl MK)))], [(qs 19, .inl (cI, 144, .inl (fl MF)))]]) 21 rfl [0] [1, 2, 3, 4, 5, 6, 7, 8, 9, 10, 11, 12, 13, 14, 15, 16, 17, 18, 19, 20] (by decide) rfl) hK hP hD hS hA rfl hl.1 rfl (Nat.le_of_ble_eq_true rfl) ⟨(show 0 + 0 ≤ 0 by omega), (show 0 + 0 ≤ 0 by omega)⟩ d_Ref_join_162 (fun ru145 u145 H locs hu145 hP hD hS => ?_)
                                obtain ⟨rfl, rfl⟩ := hu145
                                refine W.widen (k := 0) (n := 0) (Nat.le_refl _) (Nat.le_refl _) ?_
                                have hP := wd_nP (N := [[rf_o h qs (nI 1) ma S.T.2.2.1.2.1 ca S.D.2.1.2.1 na S.G.2.2.2.1.2.1 S.D.1.2.1 S.D.2.2.1 S.D.2.2.2.1 S.D.2.2.2.2 S.lost]]) rfl 21 rfl [0, 1, 2, 3, 4, 5, 6, 7, 8, 9, 10, 11, 12, 13, 14, 15, 16, 17, 18, 19, 20] (by decide) hP
                                have hD := wd_nD (N := [[rf_o h qs (nI 1) ma S.T.2.2.1.2.1 ca S.D.2.1.2.1 na S.G.2.2.2.1.2.1 S.D.1.2.1 S.D.2.2.1 S.D.2.2.2.1 S.D.2.2.2.2 S.lost]]) rfl 21 rfl [0, 1, 2, 3, 4, 5, 6, 7, 8, 9, 10, 11, 12, 13, 14, 15, 16, 17, 18, 19, 20] (by decide) hD
                                have hP : va_P D kls (List.flatten [[rf_o h qs (nI 1) ma S.T.2.2.1.2.1 ca S.D.2.1.2.1 na S.G.2.2.2.1.2.1 S.D.1.2.1 S.D.2.2.1 S.D.2.2.2.1 S.D.2.2.2.2 S.lost], [(qs 0, .inl (cI, 12, .inl (lI S.eb)))], [(qs 1, .inl (cI, 144, .inl (fl (gN S.lk))))], [(qs 2, .inl (cI, 144, .inl (fl (gN wt))))], [(qs 3, .inl (cZ, 144, .inl (fl (kB S.kn))))], [(qs 4, .inl (cI, 1600, .inl fR))], [(qs 5, .inl (cI, 1600, .inl fN))], [(qs 6, .inl (cJ, 1600, .inr (.inl fL)))], [(qs 7, .inl (cJ, 1600, .inr (.inl fH)))], [(qs 8, .inl (cZ, 1600, .inl (dB uf)))], [(qs 9, .inl (cI, 144, .inl (fl (sI S.T.2.1))))], [(qs 10, .inl (cI, 4000, .inl fM))], [(qs 11, .inl (cJ, 4000, .inr (.inl fC)))], [(qs 12, .inl (cI, 4000, .inl fT))], [(qs 13, .inl (cI, 8, .inl (lI S.G.1)))], [(qs 14, .inl (cI, 8, .inl S.G.2.1))], [(qs 15, .inl (cI, 96, .inl (fl (gN (rT S.G.2.2.1)))))], [(qs 16, .inl (cI, 901, .inl fD))], [(qs 17, .inl (cI, 901, .inl fX))], [(qs 18, .inl (cI, 144, .inl (fl MK)))], [(qs 19, .inl (cI, 144, .inl (fl MF)))]]) H := hP
                                have hD : va_D A (List.flatten [[rf_o h qs (nI 1) ma S.T.2.2.1.2.1 ca S.D.2.1.2.1 na S.G.2.2.2.1.2.1 S.D.1.2.1 S.D.2.2.1 S.D.2.2.2.1 S.D.2.2.2.2 S.lost], [(qs 0, .inl (cI, 12, .inl (lI S.eb)))], [(qs 1, .inl (cI, 144, .inl (fl (gN S.lk))))], [(qs 2, .inl (cI, 144, .inl (fl (gN wt))))], [(qs 3, .inl (cZ, 144, .inl (fl (kB S.kn))))], [(qs 4, .inl (cI, 1600, .inl fR))], [(qs 5, .inl (cI, 1600, .inl fN))], [(qs 6, .inl (cJ, 1600, .inr (.inl fL)))], [(qs 7, .inl (cJ, 1600, .inr (.inl fH)))], [(qs 8, .inl (cZ, 1600, .inl (dB uf)))], [(qs 9, .inl (cI, 144, .inl (fl (sI S.T.2.1))))], [(qs 10, .inl (cI, 4000, .inl fM))], [(qs 11, .inl (cJ, 4000, .inr (.inl fC)))], [(qs 12, .inl (cI, 4000, .inl fT))], [(qs 13, .inl (cI, 8, .inl (lI S.G.1)))], [(qs 14, .inl (cI, 8, .inl S.G.2.1))], [(qs 15, .inl (cI, 96, .inl (fl (gN (rT S.G.2.2.1)))))], [(qs 16, .inl (cI, 901, .inl fD))], [(qs 17, .inl (cI, 901, .inl fX))], [(qs 18, .inl (cI, 144, .inl (fl MK)))], [(qs 19, .inl (cI, 144, .inl (fl MF)))]]) := hD
                                refine W.eq (g2 := F0 m 165 ls [.int (nI 0)]) rfl ?_
                                exact ct_iret hQ hx hb hr hlk hP hD hS hK (by omega) (by omega) d_Ref_join_165 (⟨qs, ma, ca, na, wt, fR, fN, fL, fH, uf, fM, fC, fT, fD, fX, MK, MF, rfl, hwt, hAd, hM, hC, hN, hPd⟩)
                      · refine lv_iconst (v := nI 1) hx hb d_Ref_join_120 (by decide) ?_
                        refine lv_goto hx hb d_Ref_join_121 (tgt := 125) (by decide) ?_
                        refine lv_iload hx hb d_Ref_join_125 (lv_at hl 1 rfl) ?_
                        refine ri_if_le hx hb (by omega) d_Ref_join_127 (tgt := 134) (by decide) (fun h127 => ?_) (fun h127 => ?_)
                        · refine lv_iconst (v := nI 0) hx hb d_Ref_join_134 (by decide) ?_
                          refine ri_icmp_eq hx hb (by omega) (by omega) d_Ref_join_135 (tgt := 142) (by decide) (fun h147 => ?_) (fun h147 => ?_)
                          · exact absurd h147 (by decide)
                          · refine lv_iconst (v := nI 1) hx hb d_Ref_join_138 (by decide) ?_
                            refine lv_goto hx hb d_Ref_join_139 (tgt := 143) (by decide) ?_
                            refine lv_istore hx hb d_Ref_join_143 hl (by decide) rfl (fun ls hl => ?_)
                            have hl : lv_has ls 8 [(7, .int (nI 1)), (4, .int (nI 1)), (6, .int (nI nx)), (5, .int (nI (S.G.2.2.1 e9 g))), (0, .ref h), (1, .int (nI e9)), (2, .int (nI g)), (3, .int dl)] := hl
                            refine lv_iload hx hb d_Ref_join_145 (lv_at hl 0 rfl) ?_
                            refine ri_if_eq hx hb (by omega) d_Ref_join_147 (tgt := 166) (by decide) (fun h148 => ?_) (fun h148 => ?_)
                            · exact absurd h148 (by decide)
                            · have hnw : bm_news S.G.1 S.G.2.2.1 e9 g nx := ⟨fun z => h112 ((oI_lt (fun b z => Nat.lt_trans (hgi.2.2.1 _ b z) (by decide))).mpr z), by intro z; omega⟩
                              refine lv_aload_n hx hb d_Ref_join_150 rfl (lv_at hl 4 rfl) ?_
                              refine va_get (D := D) (ci := 9) (v := .int (nI S.G.2.2.2.1.2.1)) (C := R_Ref) (T := T_Ref) (N := 32) hx hb ht in_Ref hown hK hP 0 rfl rfl 18 (by decide) (ht _ kl_Ref_151) (fun _ h9 => h9) rfl d_Ref_join_151 ?_
                              refine lv_sipush (v := nI 4000) hx hb d_Ref_join_154 (by decide) ?_
                              refine ri_icmp_ne hx hb (by omega) (by omega) d_Ref_join_157 (tgt := 166) (by decide) (fun h157 => ?_) (fun h157 => ?_)
                              · exact absurd h157 (by omega)
                              · refine lv_aload_n hx hb d_Ref_join_160 rfl (lv_at hl 4 rfl) ?_
                                refine lv_iconst (v := nI 1) hx hb d_Ref_join_161 (by decide) ?_
                                refine ct_callVI (C := R_Ref) (ci := 9) (As := [.int (nI 1)]) (rest := []) ⟨hx, hb, hml, hown, ht⟩ (k_Ref_raise l D cI cZ cJ cG (nI 1)) (cb_V ht kc_Ref_raise kl_Ref_159 kn_Ref ki_Ref_raise ks_Ref_raise hd_Ref_raise ⟨Nat.le_of_ble_eq_true rfl, Nat.le_of_ble_eq_true rfl⟩) (List.mem_of_getElem? (i := 0) rfl) rfl rfl (wd_ct (Bs := [[rf_o h qs (nI 0) ma S.T.2.2.1.2.1 ca S.D.2.1.2.1 na S.G.2.2.2.1.2.1 S.D.1.2.1 S.D.2.2.1 S.D.2.2.2.1 S.D.2.2.2.2 S.lost], [(qs 0, .inl (cI, 12, .inl (lI S.eb)))], [(qs 1, .inl (cI, 144, .inl (fl (gN S.lk))))], [(qs 2, .inl (cI, 144, .inl (fl (gN wt))))], [(qs 3, .inl (cZ, 144, .inl (fl (kB S.kn))))], [(qs 4, .inl (cI, 1600, .inl fR))], [(qs 5, .inl (cI, 1600, .inl fN))], [(qs 6, .inl (cJ, 1600, .inr (.inl fL)))], [(qs 7, .inl (cJ, 1600, .inr (.inl fH)))], [(qs 8, .inl (cZ, 1600, .inl (dB uf)))], [(qs 9, .inl (cI, 144, .inl (fl (sI S.T.2.1))))], [(qs 10, .inl (cI, 4000, .inl fM))], [(qs 11, .inl (cJ, 4000, .inr (.inl fC)))], [(qs 12, .inl (cI, 4000, .inl fT))], [(qs 13, .inl (cI, 8, .inl (lI S.G.1)))], [(qs 14, .inl (cI, 8, .inl S.G.2.1))], [(qs 15, .inl (cI, 96, .inl (fl (gN (rT S.G.2.2.1)))))], [(qs 16, .inl (cI, 901, .inl fD))], [(qs 17, .inl (cI, 901, .inl fX))], [(qs 18, .inl (cI, 144, .inl (fl MK)))], [(qs 19, .inl (cI, 144, .inl (fl MF)))]]) 21 rfl [0] [1, 2, 3, 4, 5, 6, 7, 8, 9, 10, 11, 12, 13, 14, 15, 16, 17, 18, 19, 20] (by decide) rfl) hK hP hD hS hA rfl hl.1 rfl (Nat.le_of_ble_eq_true rfl) ⟨(show 0 + 0 ≤ 0 by omega), (show 0 + 0 ≤ 0 by omega)⟩ d_Ref_join_162 (fun ru150 u150 H locs hu150 hP hD hS => ?_)
                                obtain ⟨rfl, rfl⟩ := hu150
                                refine W.widen (k := 0) (n := 0) (Nat.le_refl _) (Nat.le_refl _) ?_
                                have hP := wd_nP (N := [[rf_o h qs (nI 1) ma S.T.2.2.1.2.1 ca S.D.2.1.2.1 na S.G.2.2.2.1.2.1 S.D.1.2.1 S.D.2.2.1 S.D.2.2.2.1 S.D.2.2.2.2 S.lost]]) rfl 21 rfl [0, 1, 2, 3, 4, 5, 6, 7, 8, 9, 10, 11, 12, 13, 14, 15, 16, 17, 18, 19, 20] (by decide) hP
                                have hD := wd_nD (N := [[rf_o h qs (nI 1) ma S.T.2.2.1.2.1 ca S.D.2.1.2.1 na S.G.2.2.2.1.2.1 S.D.1.2.1 S.D.2.2.1 S.D.2.2.2.1 S.D.2.2.2.2 S.lost]]) rfl 21 rfl [0, 1, 2, 3, 4, 5, 6, 7, 8, 9, 10, 11, 12, 13, 14, 15, 16, 17, 18, 19, 20] (by decide) hD
                                have hP : va_P D kls (List.flatten [[rf_o h qs (nI 1) ma S.T.2.2.1.2.1 ca S.D.2.1.2.1 na S.G.2.2.2.1.2.1 S.D.1.2.1 S.D.2.2.1 S.D.2.2.2.1 S.D.2.2.2.2 S.lost], [(qs 0, .inl (cI, 12, .inl (lI S.eb)))], [(qs 1, .inl (cI, 144, .inl (fl (gN S.lk))))], [(qs 2, .inl (cI, 144, .inl (fl (gN wt))))], [(qs 3, .inl (cZ, 144, .inl (fl (kB S.kn))))], [(qs 4, .inl (cI, 1600, .inl fR))], [(qs 5, .inl (cI, 1600, .inl fN))], [(qs 6, .inl (cJ, 1600, .inr (.inl fL)))], [(qs 7, .inl (cJ, 1600, .inr (.inl fH)))], [(qs 8, .inl (cZ, 1600, .inl (dB uf)))], [(qs 9, .inl (cI, 144, .inl (fl (sI S.T.2.1))))], [(qs 10, .inl (cI, 4000, .inl fM))], [(qs 11, .inl (cJ, 4000, .inr (.inl fC)))], [(qs 12, .inl (cI, 4000, .inl fT))], [(qs 13, .inl (cI, 8, .inl (lI S.G.1)))], [(qs 14, .inl (cI, 8, .inl S.G.2.1))], [(qs 15, .inl (cI, 96, .inl (fl (gN (rT S.G.2.2.1)))))], [(qs 16, .inl (cI, 901, .inl fD))], [(qs 17, .inl (cI, 901, .inl fX))], [(qs 18, .inl (cI, 144, .inl (fl MK)))], [(qs 19, .inl (cI, 144, .inl (fl MF)))]]) H := hP
                                have hD : va_D A (List.flatten [[rf_o h qs (nI 1) ma S.T.2.2.1.2.1 ca S.D.2.1.2.1 na S.G.2.2.2.1.2.1 S.D.1.2.1 S.D.2.2.1 S.D.2.2.2.1 S.D.2.2.2.2 S.lost], [(qs 0, .inl (cI, 12, .inl (lI S.eb)))], [(qs 1, .inl (cI, 144, .inl (fl (gN S.lk))))], [(qs 2, .inl (cI, 144, .inl (fl (gN wt))))], [(qs 3, .inl (cZ, 144, .inl (fl (kB S.kn))))], [(qs 4, .inl (cI, 1600, .inl fR))], [(qs 5, .inl (cI, 1600, .inl fN))], [(qs 6, .inl (cJ, 1600, .inr (.inl fL)))], [(qs 7, .inl (cJ, 1600, .inr (.inl fH)))], [(qs 8, .inl (cZ, 1600, .inl (dB uf)))], [(qs 9, .inl (cI, 144, .inl (fl (sI S.T.2.1))))], [(qs 10, .inl (cI, 4000, .inl fM))], [(qs 11, .inl (cJ, 4000, .inr (.inl fC)))], [(qs 12, .inl (cI, 4000, .inl fT))], [(qs 13, .inl (cI, 8, .inl (lI S.G.1)))], [(qs 14, .inl (cI, 8, .inl S.G.2.1))], [(qs 15, .inl (cI, 96, .inl (fl (gN (rT S.G.2.2.1)))))], [(qs 16, .inl (cI, 901, .inl fD))], [(qs 17, .inl (cI, 901, .inl fX))], [(qs 18, .inl (cI, 144, .inl (fl MK)))], [(qs 19, .inl (cI, 144, .inl (fl MF)))]]) := hD
                                refine W.eq (g2 := F0 m 165 ls [.int (nI 0)]) rfl ?_
                                exact ct_iret hQ hx hb hr hlk hP hD hS hK (by omega) (by omega) d_Ref_join_165 (⟨qs, ma, ca, na, wt, fR, fN, fL, fH, uf, fM, fC, fT, fD, fX, MK, MF, rfl, hwt, hAd, hM, hC, hN, hPd⟩)
                        · refine lv_iconst (v := nI 1) hx hb d_Ref_join_130 (by decide) ?_
                          refine lv_goto hx hb d_Ref_join_131 (tgt := 135) (by decide) ?_
                          refine ri_icmp_eq hx hb (by omega) (by omega) d_Ref_join_135 (tgt := 142) (by decide) (fun h151 => ?_) (fun h151 => ?_)
                          · refine lv_iconst (v := nI 0) hx hb d_Ref_join_142 (by decide) ?_
                            refine lv_istore hx hb d_Ref_join_143 hl (by decide) rfl (fun ls hl => ?_)
                            have hl : lv_has ls 8 [(7, .int (nI 0)), (4, .int (nI 1)), (6, .int (nI nx)), (5, .int (nI (S.G.2.2.1 e9 g))), (0, .ref h), (1, .int (nI e9)), (2, .int (nI g)), (3, .int dl)] := hl
                            refine lv_iload hx hb d_Ref_join_145 (lv_at hl 0 rfl) ?_
                            refine ri_if_eq hx hb (by omega) d_Ref_join_147 (tgt := 166) (by decide) (fun h152 => ?_) (fun h152 => ?_)
                            · exact absurd hnw9 (fun z => by first | exact z.1 ((oI_lt (fun b z => Nat.lt_trans (hgi.2.2.1 _ b z) (by decide))).mp h112) | exact z.2 (by omega))
                            · exact absurd h152 (by decide)
                          · exact absurd h151 (by decide)
                  · exact absurd h135 (by decide)
set_option maxHeartbeats 1600000 in
set_option maxRecDepth 100000 in
theorem n_Ref_join (l : Launch) (D : va_G) (cI cZ cJ cG : ClassId) {h : Nat} {cd : Int32} {S : bm_S} {ws : va_W} (hR : rf_R cI cZ cJ h cd S ws) (hi : rf_i S) (x y dl : Int32) (hno : ¬ ∃ e9 g nx, e9 < 12 ∧ g < 8 ∧ x = nI e9 ∧ y = nI g ∧ S.eb e9 ≠ none ∧ (dl = 1 ∨ dl = -1) ∧ nI (S.G.2.2.1 e9 g) + dl = nI nx ∧ nx ≤ 100) : ct_I l D kls (ty4 cI cZ cJ cG) y_Ref_join ws_Ref_join (rm_ 3 66 0 0) [.ref h, .int x, .int y, .int dl] (ws) (fun z u => rf_R cI cZ cJ h (nI 2) S u) 0 0 := by
  obtain ⟨qs, ma, ca, na, wt, fR, fN, fL, fH, uf, fM, fC, fT, fD, fX, MK, MF, rfl, hwt, hAd, hM, hC, hN, hPd⟩ := hR
  obtain ⟨hsi, heb, h00, hA9, hm9, hcp9, hnt9, hpk9, hgi⟩ := hi
  have hok := hsi.1
  have hkn9 := hsi.2.1
  have hlk9 := hsi.2.2.1
  have hma := hM.1
  refine ct_enterI (cc := b_Ref_join) (maxL := 8) (ret := (some .int)) (by decide +kernel) (Nat.le_of_ble_eq_true rfl) ?_
  intro p e s m args below meth c hx hb hml hr ht hown hlk hnm A Q hA hK hP hD hQ ls hl
  have hown : s.vm.findClass R_Ref = some m.cls := hown
  have hS : va_S A s.heap s.heap [] := va_S.rf
  have hl : lv_has ls 8 [(0, .ref h), (1, .int x), (2, .int y), (3, .int dl)] := hl
  have hrt := hsi.2.2.2.2.1
  refine lv_aload_n hx hb d_Ref_join_0 rfl (lv_at hl 0 rfl) ?_
  refine lv_iload_n hx hb d_Ref_join_1 rfl (lv_at hl 1 rfl) ?_
  refine ct_rdV (C := R_Ref) (ci := 9) (As := [.int x]) (rest := []) ⟨hx, hb, hml, hown, ht⟩ (k_Ref_isEdge l D cI cZ cJ cG heb (x)) (cb_V ht kc_Ref_isEdge kl_Ref_148 kn_Ref ki_Ref_isEdge ks_Ref_isEdge hd_Ref_isEdge ⟨Nat.le_of_ble_eq_true rfl, Nat.le_of_ble_eq_true rfl⟩) (List.mem_of_getElem? (i := 0) rfl) rfl rfl (wd_ct (Bs := [[rf_o h qs cd ma S.T.2.2.1.2.1 ca S.D.2.1.2.1 na S.G.2.2.2.1.2.1 S.D.1.2.1 S.D.2.2.1 S.D.2.2.2.1 S.D.2.2.2.2 S.lost], [(qs 0, .inl (cI, 12, .inl (lI S.eb)))], [(qs 1, .inl (cI, 144, .inl (fl (gN S.lk))))], [(qs 2, .inl (cI, 144, .inl (fl (gN wt))))], [(qs 3, .inl (cZ, 144, .inl (fl (kB S.kn))))], [(qs 4, .inl (cI, 1600, .inl fR))], [(qs 5, .inl (cI, 1600, .inl fN))], [(qs 6, .inl (cJ, 1600, .inr (.inl fL)))], [(qs 7, .inl (cJ, 1600, .inr (.inl fH)))], [(qs 8, .inl (cZ, 1600, .inl (dB uf)))], [(qs 9, .inl (cI, 144, .inl (fl (sI S.T.2.1))))], [(qs 10, .inl (cI, 4000, .inl fM))], [(qs 11, .inl (cJ, 4000, .inr (.inl fC)))], [(qs 12, .inl (cI, 4000, .inl fT))], [(qs 13, .inl (cI, 8, .inl (lI S.G.1)))], [(qs 14, .inl (cI, 8, .inl S.G.2.1))], [(qs 15, .inl (cI, 96, .inl (fl (gN (rT S.G.2.2.1)))))], [(qs 16, .inl (cI, 901, .inl fD))], [(qs 17, .inl (cI, 901, .inl fX))], [(qs 18, .inl (cI, 144, .inl (fl MK)))], [(qs 19, .inl (cI, 144, .inl (fl MF)))]]) 21 rfl [0, 1] [2, 3, 4, 5, 6, 7, 8, 9, 10, 11, 12, 13, 14, 15, 16, 17, 18, 19, 20] (by decide) rfl) hK hP hD hS hA rfl hl.1 rfl (Nat.le_of_ble_eq_true rfl) ⟨(show 0 + 0 ≤ 0 by omega), (show 0 + 0 ≤ 0 by omega)⟩ d_Ref_join_2 (fun rhr101 H locs hr101 hP hD hS => ?_)
  subst hr101
  refine ri_ifeqB hx hb d_Ref_join_5 (tgt := 29) (by decide) (fun h5 => ?_) (fun h5 => ?_)
  · refine lv_iconst (v := nI 0) hx hb d_Ref_join_29 (by decide) ?_
    refine lv_istore hx hb d_Ref_join_30 hl (by decide) rfl (fun ls hl => ?_)
    have hl : lv_has ls 8 [(4, .int (nI 0)), (0, .ref h), (1, .int x), (2, .int y), (3, .int dl)] := hl
    refine lv_iload hx hb d_Ref_join_32 (lv_at hl 0 rfl) ?_
    refine ri_if_eq hx hb (by omega) d_Ref_join_34 (tgt := 51) (by decide) (fun h103 => ?_) (fun h103 => ?_)
    · refine lv_iconst (v := nI 0) hx hb d_Ref_join_51 (by decide) ?_
      refine lv_istore hx hb d_Ref_join_52 hl (by decide) rfl (fun ls hl => ?_)
      have hl : lv_has ls 8 [(5, .int (nI 0)), (4, .int (nI 0)), (0, .ref h), (1, .int x), (2, .int y), (3, .int dl)] := hl
      refine lv_iload hx hb d_Ref_join_54 (lv_at hl 0 rfl) ?_
      refine lv_iload_n hx hb d_Ref_join_56 rfl (lv_at hl 5 rfl) ?_
      refine lv_iadd hx hb d_Ref_join_57 ?_
      refine lv_istore hx hb d_Ref_join_58 hl (by decide) rfl (fun ls hl => ?_)
      have hl : lv_has ls 8 [(6, .int ((nI 0) + dl)), (5, .int (nI 0)), (4, .int (nI 0)), (0, .ref h), (1, .int x), (2, .int y), (3, .int dl)] := hl
      refine lv_iload hx hb d_Ref_join_60 (lv_at hl 2 rfl) ?_
      refine ri_if_eq hx hb (by omega) d_Ref_join_62 (tgt := 82) (by decide) (fun h104 => ?_) (fun h104 => ?_)
      · refine lv_iconst (v := nI 0) hx hb d_Ref_join_82 (by decide) ?_
        refine lv_istore hx hb d_Ref_join_83 hl (by decide) rfl (fun ls hl => ?_)
        have hl : lv_has ls 8 [(4, .int (nI 0)), (6, .int ((nI 0) + dl)), (5, .int (nI 0)), (0, .ref h), (1, .int x), (2, .int y), (3, .int dl)] := hl
        refine lv_aload_n hx hb d_Ref_join_85 rfl (lv_at hl 3 rfl) ?_
        refine lv_iload hx hb d_Ref_join_86 (lv_at hl 0 rfl) ?_
        refine ri_if_eq hx hb (by omega) d_Ref_join_88 (tgt := 95) (by decide) (fun h105 => ?_) (fun h105 => ?_)
        · refine lv_iconst (v := nI 2) hx hb d_Ref_join_95 (by decide) ?_
          refine va_put (D := D) (ci := 9) (v := .int (nI 2)) (ty := .int) (C := R_Ref) (T := T_Ref) (N := 32) hx hb ht in_Ref t_Ref ok_Ref nm_Ref hown hK hP hD hS 0 rfl rfl 0 (by decide) (ht _ kl_Ref_72) (fun _ h9 => h9) rfl (by decide +kernel) rfl rfl (Nat.le_of_ble_eq_true rfl) d_Ref_join_96 (fun H locs hP hD hS => ?_)
          have hP : va_P D kls (List.flatten [[rf_o h qs (nI 2) ma S.T.2.2.1.2.1 ca S.D.2.1.2.1 na S.G.2.2.2.1.2.1 S.D.1.2.1 S.D.2.2.1 S.D.2.2.2.1 S.D.2.2.2.2 S.lost], [(qs 0, .inl (cI, 12, .inl (lI S.eb)))], [(qs 1, .inl (cI, 144, .inl (fl (gN S.lk))))], [(qs 2, .inl (cI, 144, .inl (fl (gN wt))))], [(qs 3, .inl (cZ, 144, .inl (fl (kB S.kn))))], [(qs 4, .inl (cI, 1600, .inl fR))], [(qs 5, .inl (cI, 1600, .inl fN))], [(qs 6, .inl (cJ, 1600, .inr (.inl fL)))], [(qs 7, .inl (cJ, 1600, .inr (.inl fH)))], [(qs 8, .inl (cZ, 1600, .inl (dB uf)))], [(qs 9, .inl (cI, 144, .inl (fl (sI S.T.2.1))))], [(qs 10, .inl (cI, 4000, .inl fM))], [(qs 11, .inl (cJ, 4000, .inr (.inl fC)))], [(qs 12, .inl (cI, 4000, .inl fT))], [(qs 13, .inl (cI, 8, .inl (lI S.G.1)))], [(qs 14, .inl (cI, 8, .inl S.G.2.1))], [(qs 15, .inl (cI, 96, .inl (fl (gN (rT S.G.2.2.1)))))], [(qs 16, .inl (cI, 901, .inl fD))], [(qs 17, .inl (cI, 901, .inl fX))], [(qs 18, .inl (cI, 144, .inl (fl MK)))], [(qs 19, .inl (cI, 144, .inl (fl MF)))]]) H := hP
          have hD : va_D A (List.flatten [[rf_o h qs (nI 2) ma S.T.2.2.1.2.1 ca S.D.2.1.2.1 na S.G.2.2.2.1.2.1 S.D.1.2.1 S.D.2.2.1 S.D.2.2.2.1 S.D.2.2.2.2 S.lost], [(qs 0, .inl (cI, 12, .inl (lI S.eb)))], [(qs 1, .inl (cI, 144, .inl (fl (gN S.lk))))], [(qs 2, .inl (cI, 144, .inl (fl (gN wt))))], [(qs 3, .inl (cZ, 144, .inl (fl (kB S.kn))))], [(qs 4, .inl (cI, 1600, .inl fR))], [(qs 5, .inl (cI, 1600, .inl fN))], [(qs 6, .inl (cJ, 1600, .inr (.inl fL)))], [(qs 7, .inl (cJ, 1600, .inr (.inl fH)))], [(qs 8, .inl (cZ, 1600, .inl (dB uf)))], [(qs 9, .inl (cI, 144, .inl (fl (sI S.T.2.1))))], [(qs 10, .inl (cI, 4000, .inl fM))], [(qs 11, .inl (cJ, 4000, .inr (.inl fC)))], [(qs 12, .inl (cI, 4000, .inl fT))], [(qs 13, .inl (cI, 8, .inl (lI S.G.1)))], [(qs 14, .inl (cI, 8, .inl S.G.2.1))], [(qs 15, .inl (cI, 96, .inl (fl (gN (rT S.G.2.2.1)))))], [(qs 16, .inl (cI, 901, .inl fD))], [(qs 17, .inl (cI, 901, .inl fX))], [(qs 18, .inl (cI, 144, .inl (fl MK)))], [(qs 19, .inl (cI, 144, .inl (fl MF)))]]) := hD
          refine lv_iload hx hb d_Ref_join_99 (lv_at hl 0 rfl) ?_
          refine ri_if_ne hx hb (by omega) d_Ref_join_101 (tgt := 106) (by decide) (fun h106 => ?_) (fun h106 => ?_)
          · exact absurd h106 (by decide)
          · refine lv_iconst (v := nI 0) hx hb d_Ref_join_104 (by decide) ?_
            exact ct_iret hQ hx hb hr hlk hP hD hS hK (by omega) (by omega) d_Ref_join_105 (⟨qs, ma, ca, na, wt, fR, fN, fL, fH, uf, fM, fC, fT, fD, fX, MK, MF, rfl, hwt, hAd, hM, hC, hN, hPd⟩)
        · exact absurd h105 (by decide)
      · exact absurd h104 (by decide)
    · exact absurd h103 (by decide)
  · refine lv_iload_n hx hb d_Ref_join_8 rfl (lv_at hl 2 rfl) ?_
    refine ct_rdS (As := [.int y]) (rest := []) ⟨hx, hb, hml, hown, ht⟩ (k_Ref_isGroup l D cI cZ cJ cG (y)) (cb_S ht kc_Ref_isGroup kl_Ref_145 kn_Ref ki_Ref_isGroup hd_Ref_isGroup ⟨Nat.le_of_ble_eq_true rfl, Nat.le_of_ble_eq_true rfl⟩) (wd_ct (Bs := [[rf_o h qs cd ma S.T.2.2.1.2.1 ca S.D.2.1.2.1 na S.G.2.2.2.1.2.1 S.D.1.2.1 S.D.2.2.1 S.D.2.2.2.1 S.D.2.2.2.2 S.lost], [(qs 0, .inl (cI, 12, .inl (lI S.eb)))], [(qs 1, .inl (cI, 144, .inl (fl (gN S.lk))))], [(qs 2, .inl (cI, 144, .inl (fl (gN wt))))], [(qs 3, .inl (cZ, 144, .inl (fl (kB S.kn))))], [(qs 4, .inl (cI, 1600, .inl fR))], [(qs 5, .inl (cI, 1600, .inl fN))], [(qs 6, .inl (cJ, 1600, .inr (.inl fL)))], [(qs 7, .inl (cJ, 1600, .inr (.inl fH)))], [(qs 8, .inl (cZ, 1600, .inl (dB uf)))], [(qs 9, .inl (cI, 144, .inl (fl (sI S.T.2.1))))], [(qs 10, .inl (cI, 4000, .inl fM))], [(qs 11, .inl (cJ, 4000, .inr (.inl fC)))], [(qs 12, .inl (cI, 4000, .inl fT))], [(qs 13, .inl (cI, 8, .inl (lI S.G.1)))], [(qs 14, .inl (cI, 8, .inl S.G.2.1))], [(qs 15, .inl (cI, 96, .inl (fl (gN (rT S.G.2.2.1)))))], [(qs 16, .inl (cI, 901, .inl fD))], [(qs 17, .inl (cI, 901, .inl fX))], [(qs 18, .inl (cI, 144, .inl (fl MK)))], [(qs 19, .inl (cI, 144, .inl (fl MF)))]]) 21 rfl [] [0, 1, 2, 3, 4, 5, 6, 7, 8, 9, 10, 11, 12, 13, 14, 15, 16, 17, 18, 19, 20] (by decide) rfl) hK hP hD hS hA rfl hl.1 rfl (Nat.le_of_ble_eq_true rfl) ⟨(show 0 + 0 ≤ 0 by omega), (show 0 + 0 ≤ 0 by omega)⟩ d_Ref_join_9 (fun rhr107 H locs hr107 hP hD hS => ?_)
    subst hr107
    refine ri_ifeqB hx hb d_Ref_join_12 (tgt := 29) (by decide) (fun h12 => ?_) (fun h12 => ?_)
    · refine lv_iconst (v := nI 0) hx hb d_Ref_join_29 (by decide) ?_
      refine lv_istore hx hb d_Ref_join_30 hl (by decide) rfl (fun ls hl => ?_)
      have hl : lv_has ls 8 [(4, .int (nI 0)), (0, .ref h), (1, .int x), (2, .int y), (3, .int dl)] := hl
      refine lv_iload hx hb d_Ref_join_32 (lv_at hl 0 rfl) ?_
      refine ri_if_eq hx hb (by omega) d_Ref_join_34 (tgt := 51) (by decide) (fun h109 => ?_) (fun h109 => ?_)
      · refine lv_iconst (v := nI 0) hx hb d_Ref_join_51 (by decide) ?_
        refine lv_istore hx hb d_Ref_join_52 hl (by decide) rfl (fun ls hl => ?_)
        have hl : lv_has ls 8 [(5, .int (nI 0)), (4, .int (nI 0)), (0, .ref h), (1, .int x), (2, .int y), (3, .int dl)] := hl
        refine lv_iload hx hb d_Ref_join_54 (lv_at hl 0 rfl) ?_
        refine lv_iload_n hx hb d_Ref_join_56 rfl (lv_at hl 5 rfl) ?_
        refine lv_iadd hx hb d_Ref_join_57 ?_
        refine lv_istore hx hb d_Ref_join_58 hl (by decide) rfl (fun ls hl => ?_)
        have hl : lv_has ls 8 [(6, .int ((nI 0) + dl)), (5, .int (nI 0)), (4, .int (nI 0)), (0, .ref h), (1, .int x), (2, .int y), (3, .int dl)] := hl
        refine lv_iload hx hb d_Ref_join_60 (lv_at hl 2 rfl) ?_
        refine ri_if_eq hx hb (by omega) d_Ref_join_62 (tgt := 82) (by decide) (fun h110 => ?_) (fun h110 => ?_)
        · refine lv_iconst (v := nI 0) hx hb d_Ref_join_82 (by decide) ?_
          refine lv_istore hx hb d_Ref_join_83 hl (by decide) rfl (fun ls hl => ?_)
          have hl : lv_has ls 8 [(4, .int (nI 0)), (6, .int ((nI 0) + dl)), (5, .int (nI 0)), (0, .ref h), (1, .int x), (2, .int y), (3, .int dl)] := hl
          refine lv_aload_n hx hb d_Ref_join_85 rfl (lv_at hl 3 rfl) ?_
          refine lv_iload hx hb d_Ref_join_86 (lv_at hl 0 rfl) ?_
          refine ri_if_eq hx hb (by omega) d_Ref_join_88 (tgt := 95) (by decide) (fun h111 => ?_) (fun h111 => ?_)
          · refine lv_iconst (v := nI 2) hx hb d_Ref_join_95 (by decide) ?_
            refine va_put (D := D) (ci := 9) (v := .int (nI 2)) (ty := .int) (C := R_Ref) (T := T_Ref) (N := 32) hx hb ht in_Ref t_Ref ok_Ref nm_Ref hown hK hP hD hS 0 rfl rfl 0 (by decide) (ht _ kl_Ref_72) (fun _ h9 => h9) rfl (by decide +kernel) rfl rfl (Nat.le_of_ble_eq_true rfl) d_Ref_join_96 (fun H locs hP hD hS => ?_)
            have hP : va_P D kls (List.flatten [[rf_o h qs (nI 2) ma S.T.2.2.1.2.1 ca S.D.2.1.2.1 na S.G.2.2.2.1.2.1 S.D.1.2.1 S.D.2.2.1 S.D.2.2.2.1 S.D.2.2.2.2 S.lost], [(qs 0, .inl (cI, 12, .inl (lI S.eb)))], [(qs 1, .inl (cI, 144, .inl (fl (gN S.lk))))], [(qs 2, .inl (cI, 144, .inl (fl (gN wt))))], [(qs 3, .inl (cZ, 144, .inl (fl (kB S.kn))))], [(qs 4, .inl (cI, 1600, .inl fR))], [(qs 5, .inl (cI, 1600, .inl fN))], [(qs 6, .inl (cJ, 1600, .inr (.inl fL)))], [(qs 7, .inl (cJ, 1600, .inr (.inl fH)))], [(qs 8, .inl (cZ, 1600, .inl (dB uf)))], [(qs 9, .inl (cI, 144, .inl (fl (sI S.T.2.1))))], [(qs 10, .inl (cI, 4000, .inl fM))], [(qs 11, .inl (cJ, 4000, .inr (.inl fC)))], [(qs 12, .inl (cI, 4000, .inl fT))], [(qs 13, .inl (cI, 8, .inl (lI S.G.1)))], [(qs 14, .inl (cI, 8, .inl S.G.2.1))], [(qs 15, .inl (cI, 96, .inl (fl (gN (rT S.G.2.2.1)))))], [(qs 16, .inl (cI, 901, .inl fD))], [(qs 17, .inl (cI, 901, .inl fX))], [(qs 18, .inl (cI, 144, .inl (fl MK)))], [(qs 19, .inl (cI, 144, .inl (fl MF)))]]) H := hP
            have hD : va_D A (List.flatten [[rf_o h qs (nI 2) ma S.T.2.2.1.2.1 ca S.D.2.1.2.1 na S.G.2.2.2.1.2.1 S.D.1.2.1 S.D.2.2.1 S.D.2.2.2.1 S.D.2.2.2.2 S.lost], [(qs 0, .inl (cI, 12, .inl (lI S.eb)))], [(qs 1, .inl (cI, 144, .inl (fl (gN S.lk))))], [(qs 2, .inl (cI, 144, .inl (fl (gN wt))))], [(qs 3, .inl (cZ, 144, .inl (fl (kB S.kn))))], [(qs 4, .inl (cI, 1600, .inl fR))], [(qs 5, .inl (cI, 1600, .inl fN))], [(qs 6, .inl (cJ, 1600, .inr (.inl fL)))], [(qs 7, .inl (cJ, 1600, .inr (.inl fH)))], [(qs 8, .inl (cZ, 1600, .inl (dB uf)))], [(qs 9, .inl (cI, 144, .inl (fl (sI S.T.2.1))))], [(qs 10, .inl (cI, 4000, .inl fM))], [(qs 11, .inl (cJ, 4000, .inr (.inl fC)))], [(qs 12, .inl (cI, 4000, .inl fT))], [(qs 13, .inl (cI, 8, .inl (lI S.G.1)))], [(qs 14, .inl (cI, 8, .inl S.G.2.1))], [(qs 15, .inl (cI, 96, .inl (fl (gN (rT S.G.2.2.1)))))], [(qs 16, .inl (cI, 901, .inl fD))], [(qs 17, .inl (cI, 901, .inl fX))], [(qs 18, .inl (cI, 144, .inl (fl MK)))], [(qs 19, .inl (cI, 144, .inl (fl MF)))]]) := hD
            refine lv_iload hx hb d_Ref_join_99 (lv_at hl 0 rfl) ?_
            refine ri_if_ne hx hb (by omega) d_Ref_join_101 (tgt := 106) (by decide) (fun h112 => ?_) (fun h112 => ?_)
            · exact absurd h112 (by decide)
            · refine lv_iconst (v := nI 0) hx hb d_Ref_join_104 (by decide) ?_
              exact ct_iret hQ hx hb hr hlk hP hD hS hK (by omega) (by omega) d_Ref_join_105 (⟨qs, ma, ca, na, wt, fR, fN, fL, fH, uf, fM, fC, fT, fD, fX, MK, MF, rfl, hwt, hAd, hM, hC, hN, hPd⟩)
          · exact absurd h111 (by decide)
        · exact absurd h110 (by decide)
      · exact absurd h109 (by decide)
    · obtain ⟨e9, b, he, rfl, hee⟩ := rf_isE_of h5
      obtain ⟨g, hg, rfl⟩ := rg_n (k := 8) h12
      have hl : lv_has ls 8 [(0, .ref h), (1, .int (nI e9)), (2, .int (nI g)), (3, .int dl)] := hl
      refine lv_iload_n hx hb d_Ref_join_15 rfl (lv_at hl 3 rfl) ?_
      refine lv_iconst (v := nI 1) hx hb d_Ref_join_16 (by decide) ?_
      refine lv_icmp_eq hx hb d_Ref_join_17 (tgt := 25) (by decide) (fun h17 => ?_) (fun h17 => ?_)
      · refine lv_iconst (v := nI 1) hx hb d_Ref_join_25 (by decide) ?_
        refine lv_goto hx hb d_Ref_join_26 (tgt := 30) (by decide) ?_
        refine lv_istore hx hb d_Ref_join_30 hl (by decide) rfl (fun ls hl => ?_)
        have hl : lv_has ls 8 [(4, .int (nI 1)), (0, .ref h), (1, .int (nI e9)), (2, .int (nI g)), (3, .int dl)] := hl
        refine lv_iload hx hb d_Ref_join_32 (lv_at hl 0 rfl) ?_
        refine ri_if_eq hx hb (by omega) d_Ref_join_34 (tgt := 51) (by decide) (fun h114 => ?_) (fun h114 => ?_)
        · exact absurd h114 (by decide)
        · have hdl : dl = 1 ∨ dl = -1 := by first | exact Or.inl h17 | exact Or.inr h22
          refine lv_aload_n hx hb d_Ref_join_37 rfl (lv_at hl 1 rfl) ?_
          refine va_get (D := D) (ci := 9) (v := .ref (qs 15)) (C := R_Ref) (T := T_Ref) (N := 32) hx hb ht in_Ref hown hK hP 0 rfl rfl 22 (by decide) (ht _ kl_Ref_57) (fun _ h9 => h9) rfl d_Ref_join_38 ?_
          refine lv_bipush (v := nI 12) hx hb d_Ref_join_41 (by decide) ?_
          refine lv_iload_n hx hb d_Ref_join_43 rfl (lv_at hl 3 rfl) ?_
          refine ri_imul hx hb d_Ref_join_44 ?_
          refine lv_iload_n hx hb d_Ref_join_45 rfl (lv_at hl 2 rfl) ?_
          refine ri_iadd hx hb d_Ref_join_46 ?_
          refine ri_iald hx hb hK hP 16 0 rfl rfl (j := (12 * g) + e9) (by omega) (by omega) d_Ref_join_47 ?_
          refine W.eq (g2 := F0 m 48 ls [.int (nI ((rT S.G.2.2.1) g e9))]) (congrArg (fun z => F0 m 48 ls (.int z :: [])) (fl_at (a := g) (b := e9) (by omega))) ?_
          refine W.eq (g2 := F0 m 48 ls [.int (nI (S.G.2.2.1 e9 g))]) (congrArg (fun z => F0 m 48 ls (.int z :: [])) (rfl)) ?_
          refine lv_goto hx hb d_Ref_join_48 (tgt := 52) (by decide) ?_
          refine lv_istore hx hb d_Ref_join_52 hl (by decide) rfl (fun ls hl => ?_)
          have hl : lv_has ls 8 [(5, .int (nI (S.G.2.2.1 e9 g))), (4, .int (nI 1)), (0, .ref h), (1, .int (nI e9)), (2, .int (nI g)), (3, .int dl)] := hl
          refine lv_iload hx hb d_Ref_join_54 (lv_at hl 0 rfl) ?_
          refine lv_iload_n hx hb d_Ref_join_56 rfl (lv_at hl 5 rfl) ?_
          refine lv_iadd hx hb d_Ref_join_57 ?_
          refine W.eq (g2 := F0 m 58 ls [.int (nI (S.G.2.2.1 e9 g) + dl)]) (congrArg (fun z => F0 m 58 ls (.int z :: [])) (rfl)) ?_
          refine lv_istore hx hb d_Ref_join_58 hl (by decide) rfl (fun ls hl => ?_)
          have hl : lv_has ls 8 [(6, .int (nI (S.G.2.2.1 e9 g) + dl)), (5, .int (nI (S.G.2.2.1 e9 g))), (4, .int (nI 1)), (0, .ref h), (1, .int (nI e9)), (2, .int (nI g)), (3, .int dl)] := hl
          refine lv_iload hx hb d_Ref_join_60 (lv_at hl 2 rfl) ?_
          refine ri_if_eq hx hb (by omega) d_Ref_join_62 (tgt := 82) (by decide) (fun h115 => ?_) (fun h115 => ?_)
          · exact absurd h115 (by decide)
          · refine lv_iload hx hb d_Ref_join_65 (lv_at hl 0 rfl) ?_
            refine lv_i2l (v := (nI (S.G.2.2.1 e9 g) + dl).toInt64) hx hb d_Ref_join_67 rfl ?_
            refine lv_lconst (v := lN 0) hx hb d_Ref_join_68 rfl ?_
            refine lv_ldc2 (v := lN 100) hx hb hown (ht _ kl_Ref_157) d_Ref_join_69 ?_
            refine ct_rdS (As := [.long ((nI (S.G.2.2.1 e9 g) + dl).toInt64), .long (lN 0), .long (lN 100)]) (rest := []) ⟨hx, hb, hml, hown, ht⟩ (k_Ref_in l D cI cZ cJ cG (nI (S.G.2.2.1 e9 g) + dl).toInt64 (lN 0) (lN 100)) (cb_S ht kc_Ref_in kl_Ref_78 kn_Ref ki_Ref_in hd_Ref_in ⟨Nat.le_of_ble_eq_true rfl, Nat.le_of_ble_eq_true rfl⟩) (wd_ct (Bs := [[rf_o h qs cd ma S.T.2.2.1.2.1 ca S.D.2.1.2.1 na S.G.2.2.2.1.2.1 S.D.1.2.1 S.D.2.2.1 S.D.2.2.2.1 S.D.2.2.2.2 S.lost], [(qs 0, .inl (cI, 12, .inl (lI S.eb)))], [(qs 1, .inl (cI, 144, .inl (fl (gN S.lk))))], [(qs 2, .inl (cI, 144, .inl (fl (gN wt))))], [(qs 3, .inl (cZ, 144, .inl (fl (kB S.kn))))], [(qs 4, .inl (cI, 1600, .inl fR))], [(qs 5, .inl (cI, 1600, .inl fN))], [(qs 6, .inl (cJ, 1600, .inr (.inl fL)))], [(qs 7, .inl (cJ, 1600, .inr (.inl fH)))], [(qs 8, .inl (cZ, 1600, .inl (dB uf)))], [(qs 9, .inl (cI, 144, .inl (fl (sI S.T.2.1))))], [(qs 10, .inl (cI, 4000, .inl fM))], [(qs 11, .inl (cJ, 4000, .inr (.inl fC)))], [(qs 12, .inl (cI, 4000, .inl fT))], [(qs 13, .inl (cI, 8, .inl (lI S.G.1)))], [(qs 14, .inl (cI, 8, .inl S.G.2.1))], [(qs 15, .inl (cI, 96, .inl (fl (gN (rT S.G.2.2.1)))))], [(qs 16, .inl (cI, 901, .inl fD))], [(qs 17, .inl (cI, 901, .inl fX))], [(qs 18, .inl (cI, 144, .inl (fl MK)))], [(qs 19, .inl (cI, 144, .inl (fl MF)))]]) 21 rfl [] [0, 1, 2, 3, 4, 5, 6, 7, 8, 9, 10, 11, 12, 13, 14, 15, 16, 17, 18, 19, 20] (by decide) rfl) hK hP hD hS hA rfl hl.1 rfl (Nat.le_of_ble_eq_true rfl) ⟨(show 0 + 0 ≤ 0 by omega), (show 0 + 0 ≤ 0 by omega)⟩ d_Ref_join_72 (fun rhr116 H locs hr116 hP hD hS => ?_)
            subst hr116
            refine W.eq (g2 := F0 m 75 ls [.int (bI (rg 0 101 (nI (S.G.2.2.1 e9 g) + dl)))]) (congrArg (fun z => F0 m 75 ls (.int z :: [])) (congrArg bI (in_rg (a := 0) (b := 100) (by decide) (by decide) (nI (S.G.2.2.1 e9 g) + dl)))) ?_
            refine ri_ifeqB hx hb d_Ref_join_75 (tgt := 82) (by decide) (fun h75 => ?_) (fun h75 => ?_)
            · refine lv_iconst (v := nI 0) hx hb d_Ref_join_82 (by decide) ?_
              refine lv_istore hx hb d_Ref_join_83 hl (by decide) rfl (fun ls hl => ?_)
              have hl : lv_has ls 8 [(4, .int (nI 0)), (6, .int (nI (S.G.2.2.1 e9 g) + dl)), (5, .int (nI (S.G.2.2.1 e9 g))), (0, .ref h), (1, .int (nI e9)), (2, .int (nI g)), (3, .int dl)] := hl
              refine lv_aload_n hx hb d_Ref_join_85 rfl (lv_at hl 3 rfl) ?_
              refine lv_iload hx hb d_Ref_join_86 (lv_at hl 0 rfl) ?_
              refine ri_if_eq hx hb (by omega) d_Ref_join_88 (tgt := 95) (by decide) (fun h118 => ?_) (fun h118 => ?_)
              · refine lv_iconst (v := nI 2) hx hb d_Ref_join_95 (by decide) ?_
                refine va_put (D := D) (ci := 9) (v := .int (nI 2)) (ty := .int) (C := R_Ref) (T := T_Ref) (N := 32) hx hb ht in_Ref t_Ref ok_Ref nm_Ref hown hK hP hD hS 0 rfl rfl 0 (by decide) (ht _ kl_Ref_72) (fun _ h9 => h9) rfl (by decide +kernel) rfl rfl (Nat.le_of_ble_eq_true rfl) d_Ref_join_96 (fun H locs hP hD hS => ?_)
                have hP : va_P D kls (List.flatten [[rf_o h qs (nI 2) ma S.T.2.2.1.2.1 ca S.D.2.1.2.1 na S.G.2.2.2.1.2.1 S.D.1.2.1 S.D.2.2.1 S.D.2.2.2.1 S.D.2.2.2.2 S.lost], [(qs 0, .inl (cI, 12, .inl (lI S.eb)))], [(qs 1, .inl (cI, 144, .inl (fl (gN S.lk))))], [(qs 2, .inl (cI, 144, .inl (fl (gN wt))))], [(qs 3, .inl (cZ, 144, .inl (fl (kB S.kn))))], [(qs 4, .inl (cI, 1600, .inl fR))], [(qs 5, .inl (cI, 1600, .inl fN))], [(qs 6, .inl (cJ, 1600, .inr (.inl fL)))], [(qs 7, .inl (cJ, 1600, .inr (.inl fH)))], [(qs 8, .inl (cZ, 1600, .inl (dB uf)))], [(qs 9, .inl (cI, 144, .inl (fl (sI S.T.2.1))))], [(qs 10, .inl (cI, 4000, .inl fM))], [(qs 11, .inl (cJ, 4000, .inr (.inl fC)))], [(qs 12, .inl (cI, 4000, .inl fT))], [(qs 13, .inl (cI, 8, .inl (lI S.G.1)))], [(qs 14, .inl (cI, 8, .inl S.G.2.1))], [(qs 15, .inl (cI, 96, .inl (fl (gN (rT S.G.2.2.1)))))], [(qs 16, .inl (cI, 901, .inl fD))], [(qs 17, .inl (cI, 901, .inl fX))], [(qs 18, .inl (cI, 144, .inl (fl MK)))], [(qs 19, .inl (cI, 144, .inl (fl MF)))]]) H := hP
                have hD : va_D A (List.flatten [[rf_o h qs (nI 2) ma S.T.2.2.1.2.1 ca S.D.2.1.2.1 na S.G.2.2.2.1.2.1 S.D.1.2.1 S.D.2.2.1 S.D.2.2.2.1 S.D.2.2.2.2 S.lost], [(qs 0, .inl (cI, 12, .inl (lI S.eb)))], [(qs 1, .inl (cI, 144, .inl (fl (gN S.lk))))], [(qs 2, .inl (cI, 144, .inl (fl (gN wt))))], [(qs 3, .inl (cZ, 144, .inl (fl (kB S.kn))))], [(qs 4, .inl (cI, 1600, .inl fR))], [(qs 5, .inl (cI, 1600, .inl fN))], [(qs 6, .inl (cJ, 1600, .inr (.inl fL)))], [(qs 7, .inl (cJ, 1600, .inr (.inl fH)))], [(qs 8, .inl (cZ, 1600, .inl (dB uf)))], [(qs 9, .inl (cI, 144, .inl (fl (sI S.T.2.1))))], [(qs 10, .inl (cI, 4000, .inl fM))], [(qs 11, .inl (cJ, 4000, .inr (.inl fC)))], [(qs 12, .inl (cI, 4000, .inl fT))], [(qs 13, .inl (cI, 8, .inl (lI S.G.1)))], [(qs 14, .inl (cI, 8, .inl S.G.2.1))], [(qs 15, .inl (cI, 96, .inl (fl (gN (rT S.G.2.2.1)))))], [(qs 16, .inl (cI, 901, .inl fD))], [(qs 17, .inl (cI, 901, .inl fX))], [(qs 18, .inl (cI, 144, .inl (fl MK)))], [(qs 19, .inl (cI, 144, .inl (fl MF)))]]) := hD
                refine lv_iload hx hb d_Ref_join_99 (lv_at hl 0 rfl) ?_
                refine ri_if_ne hx hb (by omega) d_Ref_join_101 (tgt := 106) (by decide) (fun h119 => ?_) (fun h119 => ?_)
                · exact absurd h119 (by decide)
                · refine lv_iconst (v := nI 0) hx hb d_Ref_join_104 (by decide) ?_
                  exact ct_iret hQ hx hb hr hlk hP hD hS hK (by omega) (by omega) d_Ref_join_105 (⟨qs, ma, ca, na, wt, fR, fN, fL, fH, uf, fM, fC, fT, fD, fX, MK, MF, rfl, hwt, hAd, hM, hC, hN, hPd⟩)
              · exact absurd h118 (by decide)
            · obtain ⟨nx, hnx, hsum⟩ := rg_n (k := 101) h75
              exact absurd ⟨e9, g, nx, he, hg, rfl, rfl, (by rw [hee]; exact fun z => by cases z), hdl, hsum, by omega⟩ hno
      · refine lv_iload_n hx hb d_Ref_join_20 rfl (lv_at hl 3 rfl) ?_
        refine lv_iconst (v := (-1)) hx hb d_Ref_join_21 (by decide) ?_
        refine lv_icmp_ne hx hb d_Ref_join_22 (tgt := 29) (by decide) (fun h22 => ?_) (fun h22 => ?_)
        · refine lv_iconst (v := nI 0) hx hb d_Ref_join_29 (by decide) ?_
          refine lv_istore hx hb d_Ref_join_30 hl (by decide) rfl (fun ls hl => ?_)
          have hl : lv_has ls 8 [(4, .int (nI 0)), (0, .ref h), (1, .int (nI e9)), (2, .int (nI g)), (3, .int dl)] := hl
          refine lv_iload hx hb d_Ref_join_32 (lv_at hl 0 rfl) ?_
          refine ri_if_eq hx hb (by omega) d_Ref_join_34 (tgt := 51) (by decide) (fun h121 => ?_) (fun h121 => ?_)
          · refine lv_iconst (v := nI 0) hx hb d_Ref_join_51 (by decide) ?_
            refine lv_istore hx hb d_Ref_join_52 hl (by decide) rfl (fun ls hl => ?_)
            have hl : lv_has ls 8 [(5, .int (nI 0)), (4, .int (nI 0)), (0, .ref h), (1, .int (nI e9)), (2, .int (nI g)), (3, .int dl)] := hl
            refine lv_iload hx hb d_Ref_join_54 (lv_at hl 0 rfl) ?_
            refine lv_iload_n hx hb d_Ref_join_56 rfl (lv_at hl 5 rfl) ?_
            refine lv_iadd hx hb d_Ref_join_57 ?_
            refine lv_istore hx hb d_Ref_join_58 hl (by decide) rfl (fun ls hl => ?_)
            have hl : lv_has ls 8 [(6, .int ((nI 0) + dl)), (5, .int (nI 0)), (4, .int (nI 0)), (0, .ref h), (1, .int (nI e9)), (2, .int (nI g)), (3, .int dl)] := hl
            refine lv_iload hx hb d_Ref_join_60 (lv_at hl 2 rfl) ?_
            refine ri_if_eq hx hb (by omega) d_Ref_join_62 (tgt := 82) (by decide) (fun h122 => ?_) (fun h122 => ?_)
            · refine lv_iconst (v := nI 0) hx hb d_Ref_join_82 (by decide) ?_
              refine lv_istore hx hb d_Ref_join_83 hl (by decide) rfl (fun ls hl => ?_)
              have hl : lv_has ls 8 [(4, .int (nI 0)), (6, .int ((nI 0) + dl)), (5, .int (nI 0)), (0, .ref h), (1, .int (nI e9)), (2, .int (nI g)), (3, .int dl)] := hl
              refine lv_aload_n hx hb d_Ref_join_85 rfl (lv_at hl 3 rfl) ?_
              refine lv_iload hx hb d_Ref_join_86 (lv_at hl 0 rfl) ?_
              refine ri_if_eq hx hb (by omega) d_Ref_join_88 (tgt := 95) (by decide) (fun h123 => ?_) (fun h123 => ?_)
              · refine lv_iconst (v := nI 2) hx hb d_Ref_join_95 (by decide) ?_
                refine va_put (D := D) (ci := 9) (v := .int (nI 2)) (ty := .int) (C := R_Ref) (T := T_Ref) (N := 32) hx hb ht in_Ref t_Ref ok_Ref nm_Ref hown hK hP hD hS 0 rfl rfl 0 (by decide) (ht _ kl_Ref_72) (fun _ h9 => h9) rfl (by decide +kernel) rfl rfl (Nat.le_of_ble_eq_true rfl) d_Ref_join_96 (fun H locs hP hD hS => ?_)
                have hP : va_P D kls (List.flatten [[rf_o h qs (nI 2) ma S.T.2.2.1.2.1 ca S.D.2.1.2.1 na S.G.2.2.2.1.2.1 S.D.1.2.1 S.D.2.2.1 S.D.2.2.2.1 S.D.2.2.2.2 S.lost], [(qs 0, .inl (cI, 12, .inl (lI S.eb)))], [(qs 1, .inl (cI, 144, .inl (fl (gN S.lk))))], [(qs 2, .inl (cI, 144, .inl (fl (gN wt))))], [(qs 3, .inl (cZ, 144, .inl (fl (kB S.kn))))], [(qs 4, .inl (cI, 1600, .inl fR))], [(qs 5, .inl (cI, 1600, .inl fN))], [(qs 6, .inl (cJ, 1600, .inr (.inl fL)))], [(qs 7, .inl (cJ, 1600, .inr (.inl fH)))], [(qs 8, .inl (cZ, 1600, .inl (dB uf)))], [(qs 9, .inl (cI, 144, .inl (fl (sI S.T.2.1))))], [(qs 10, .inl (cI, 4000, .inl fM))], [(qs 11, .inl (cJ, 4000, .inr (.inl fC)))], [(qs 12, .inl (cI, 4000, .inl fT))], [(qs 13, .inl (cI, 8, .inl (lI S.G.1)))], [(qs 14, .inl (cI, 8, .inl S.G.2.1))], [(qs 15, .inl (cI, 96, .inl (fl (gN (rT S.G.2.2.1)))))], [(qs 16, .inl (cI, 901, .inl fD))], [(qs 17, .inl (cI, 901, .inl fX))], [(qs 18, .inl (cI, 144, .inl (fl MK)))], [(qs 19, .inl (cI, 144, .inl (fl MF)))]]) H := hP
                have hD : va_D A (List.flatten [[rf_o h qs (nI 2) ma S.T.2.2.1.2.1 ca S.D.2.1.2.1 na S.G.2.2.2.1.2.1 S.D.1.2.1 S.D.2.2.1 S.D.2.2.2.1 S.D.2.2.2.2 S.lost], [(qs 0, .inl (cI, 12, .inl (lI S.eb)))], [(qs 1, .inl (cI, 144, .inl (fl (gN S.lk))))], [(qs 2, .inl (cI, 144, .inl (fl (gN wt))))], [(qs 3, .inl (cZ, 144, .inl (fl (kB S.kn))))], [(qs 4, .inl (cI, 1600, .inl fR))], [(qs 5, .inl (cI, 1600, .inl fN))], [(qs 6, .inl (cJ, 1600, .inr (.inl fL)))], [(qs 7, .inl (cJ, 1600, .inr (.inl fH)))], [(qs 8, .inl (cZ, 1600, .inl (dB uf)))], [(qs 9, .inl (cI, 144, .inl (fl (sI S.T.2.1))))], [(qs 10, .inl (cI, 4000, .inl fM))], [(qs 11, .inl (cJ, 4000, .inr (.inl fC)))], [(qs 12, .inl (cI, 4000, .inl fT))], [(qs 13, .inl (cI, 8, .inl (lI S.G.1)))], [(qs 14, .inl (cI, 8, .inl S.G.2.1))], [(qs 15, .inl (cI, 96, .inl (fl (gN (rT S.G.2.2.1)))))], [(qs 16, .inl (cI, 901, .inl fD))], [(qs 17, .inl (cI, 901, .inl fX))], [(qs 18, .inl (cI, 144, .inl (fl MK)))], [(qs 19, .inl (cI, 144, .inl (fl MF)))]]) := hD
                refine lv_iload hx hb d_Ref_join_99 (lv_at hl 0 rfl) ?_
                refine ri_if_ne hx hb (by omega) d_Ref_join_101 (tgt := 106) (by decide) (fun h124 => ?_) (fun h124 => ?_)
                · exact absurd h124 (by decide)
                · refine lv_iconst (v := nI 0) hx hb d_Ref_join_104 (by decide) ?_
                  exact ct_iret hQ hx hb hr hlk hP hD hS hK (by omega) (by omega) d_Ref_join_105 (⟨qs, ma, ca, na, wt, fR, fN, fL, fH, uf, fM, fC, fT, fD, fX, MK, MF, rfl, hwt, hAd, hM, hC, hN, hPd⟩)
              · exact absurd h123 (by decide)
            · exact absurd h122 (by decide)
          · exact absurd h121 (by decide)
        · refine lv_iconst (v := nI 1) hx hb d_Ref_join_25 (by decide) ?_
          refine lv_goto hx hb d_Ref_join_26 (tgt := 30) (by decide) ?_
          refine lv_istore hx hb d_Ref_join_30 hl (by decide) rfl (fun ls hl => ?_)
          have hl : lv_has ls 8 [(4, .int (nI 1)), (0, .ref h), (1, .int (nI e9)), (2, .int (nI g)), (3, .int dl)] := hl
          refine lv_iload hx hb d_Ref_join_32 (lv_at hl 0 rfl) ?_
          refine ri_if_eq hx hb (by omega) d_Ref_join_34 (tgt := 51) (by decide) (fun h125 => ?_) (fun h125 => ?_)
          · exact absurd h125 (by decide)
          · have hdl : dl = 1 ∨ dl = -1 := by first | exact Or.inl h17 | exact Or.inr h22
            refine lv_aload_n hx hb d_Ref_join_37 rfl (lv_at hl 1 rfl) ?_
            refine va_get (D := D) (ci := 9) (v := .ref (qs 15)) (C := R_Ref) (T := T_Ref) (N := 32) hx hb ht in_Ref hown hK hP 0 rfl rfl 22 (by decide) (ht _ kl_Ref_57) (fun _ h9 => h9) rfl d_Ref_join_38 ?_
            refine lv_bipush (v := nI 12) hx hb d_Ref_join_41 (by decide) ?_
            refine lv_iload_n hx hb d_Ref_join_43 rfl (lv_at hl 3 rfl) ?_
            refine ri_imul hx hb d_Ref_join_44 ?_
            refine lv_iload_n hx hb d_Ref_join_45 rfl (lv_at hl 2 rfl) ?_
            refine ri_iadd hx hb d_Ref_join_46 ?_
            refine ri_iald hx hb hK hP 16 0 rfl rfl (j := (12 * g) + e9) (by omega) (by omega) d_Ref_join_47 ?_
            refine W.eq (g2 := F0 m 48 ls [.int (nI ((rT S.G.2.2.1) g e9))]) (congrArg (fun z => F0 m 48 ls (.int z :: [])) (fl_at (a := g) (b := e9) (by omega))) ?_
            refine W.eq (g2 := F0 m 48 ls [.int (nI (S.G.2.2.1 e9 g))]) (congrArg (fun z => F0 m 48 ls (.int z :: [])) (rfl)) ?_
            refine lv_goto hx hb d_Ref_join_48 (tgt := 52) (by decide) ?_
            refine lv_istore hx hb d_Ref_join_52 hl (by decide) rfl (fun ls hl => ?_)
            have hl : lv_has ls 8 [(5, .int (nI (S.G.2.2.1 e9 g))), (4, .int (nI 1)), (0, .ref h), (1, .int (nI e9)), (2, .int (nI g)), (3, .int dl)] := hl
            refine lv_iload hx hb d_Ref_join_54 (lv_at hl 0 rfl) ?_
            refine lv_iload_n hx hb d_Ref_join_56 rfl (lv_at hl 5 rfl) ?_
            refine lv_iadd hx hb d_Ref_join_57 ?_
            refine W.eq (g2 := F0 m 58 ls [.int (nI (S.G.2.2.1 e9 g) + dl)]) (congrArg (fun z => F0 m 58 ls (.int z :: [])) (rfl)) ?_
            refine lv_istore hx hb d_Ref_join_58 hl (by decide) rfl (fun ls hl => ?_)
            have hl : lv_has ls 8 [(6, .int (nI (S.G.2.2.1 e9 g) + dl)), (5, .int (nI (S.G.2.2.1 e9 g))), (4, .int (nI 1)), (0, .ref h), (1, .int (nI e9)), (2, .int (nI g)), (3, .int dl)] := hl
            refine lv_iload hx hb d_Ref_join_60 (lv_at hl 2 rfl) ?_
            refine ri_if_eq hx hb (by omega) d_Ref_join_62 (tgt := 82) (by decide) (fun h126 => ?_) (fun h126 => ?_)
            · exact absurd h126 (by decide)
            · refine lv_iload hx hb d_Ref_join_65 (lv_at hl 0 rfl) ?_
              refine lv_i2l (v := (nI (S.G.2.2.1 e9 g) + dl).toInt64) hx hb d_Ref_join_67 rfl ?_
              refine lv_lconst (v := lN 0) hx hb d_Ref_join_68 rfl ?_
              refine lv_ldc2 (v := lN 100) hx hb hown (ht _ kl_Ref_157) d_Ref_join_69 ?_
              refine ct_rdS (As := [.long ((nI (S.G.2.2.1 e9 g) + dl).toInt64), .long (lN 0), .long (lN 100)]) (rest := []) ⟨hx, hb, hml, hown, ht⟩ (k_Ref_in l D cI cZ cJ cG (nI (S.G.2.2.1 e9 g) + dl).toInt64 (lN 0) (lN 100)) (cb_S ht kc_Ref_in kl_Ref_78 kn_Ref ki_Ref_in hd_Ref_in ⟨Nat.le_of_ble_eq_true rfl, Nat.le_of_ble_eq_true rfl⟩) (wd_ct (Bs := [[rf_o h qs cd ma S.T.2.2.1.2.1 ca S.D.2.1.2.1 na S.G.2.2.2.1.2.1 S.D.1.2.1 S.D.2.2.1 S.D.2.2.2.1 S.D.2.2.2.2 S.lost], [(qs 0, .inl (cI, 12, .inl (lI S.eb)))], [(qs 1, .inl (cI, 144, .inl (fl (gN S.lk))))], [(qs 2, .inl (cI, 144, .inl (fl (gN wt))))], [(qs 3, .inl (cZ, 144, .inl (fl (kB S.kn))))], [(qs 4, .inl (cI, 1600, .inl fR))], [(qs 5, .inl (cI, 1600, .inl fN))], [(qs 6, .inl (cJ, 1600, .inr (.inl fL)))], [(qs 7, .inl (cJ, 1600, .inr (.inl fH)))], [(qs 8, .inl (cZ, 1600, .inl (dB uf)))], [(qs 9, .inl (cI, 144, .inl (fl (sI S.T.2.1))))], [(qs 10, .inl (cI, 4000, .inl fM))], [(qs 11, .inl (cJ, 4000, .inr (.inl fC)))], [(qs 12, .inl (cI, 4000, .inl fT))], [(qs 13, .inl (cI, 8, .inl (lI S.G.1)))], [(qs 14, .inl (cI, 8, .inl S.G.2.1))], [(qs 15, .inl (cI, 96, .inl (fl (gN (rT S.G.2.2.1)))))], [(qs 16, .inl (cI, 901, .inl fD))], [(qs 17, .inl (cI, 901, .inl fX))], [(qs 18, .inl (cI, 144, .inl (fl MK)))], [(qs 19, .inl (cI, 144, .inl (fl MF)))]]) 21 rfl [] [0, 1, 2, 3, 4, 5, 6, 7, 8, 9, 10, 11, 12, 13, 14, 15, 16, 17, 18, 19, 20] (by decide) rfl) hK hP hD hS hA rfl hl.1 rfl (Nat.le_of_ble_eq_true rfl) ⟨(show 0 + 0 ≤ 0 by omega), (show 0 + 0 ≤ 0 by omega)⟩ d_Ref_join_72 (fun rhr127 H locs hr127 hP hD hS => ?_)
              subst hr127
              refine W.eq (g2 := F0 m 75 ls [.int (bI (rg 0 101 (nI (S.G.2.2.1 e9 g) + dl)))]) (congrArg (fun z => F0 m 75 ls (.int z :: [])) (congrArg bI (in_rg (a := 0) (b := 100) (by decide) (by decide) (nI (S.G.2.2.1 e9 g) + dl)))) ?_
              refine ri_ifeqB hx hb d_Ref_join_75 (tgt := 82) (by decide) (fun h75 => ?_) (fun h75 => ?_)
              · refine lv_iconst (v := nI 0) hx hb d_Ref_join_82 (by decide) ?_
                refine lv_istore hx hb d_Ref_join_83 hl (by decide) rfl (fun ls hl => ?_)
                have hl : lv_has ls 8 [(4, .int (nI 0)), (6, .int (nI (S.G.2.2.1 e9 g) + dl)), (5, .int (nI (S.G.2.2.1 e9 g))), (0, .ref h), (1, .int (nI e9)), (2, .int (nI g)), (3, .int dl)] := hl
                refine lv_aload_n hx hb d_Ref_join_85 rfl (lv_at hl 3 rfl) ?_
                refine lv_iload hx hb d_Ref_join_86 (lv_at hl 0 rfl) ?_
                refine ri_if_eq hx hb (by omega) d_Ref_join_88 (tgt := 95) (by decide) (fun h129 => ?_) (fun h129 => ?_)
                · refine lv_iconst (v := nI 2) hx hb d_Ref_join_95 (by decide) ?_
                  refine va_put (D := D) (ci := 9) (v := .int (nI 2)) (ty := .int) (C := R_Ref) (T := T_Ref) (N := 32) hx hb ht in_Ref t_Ref ok_Ref nm_Ref hown hK hP hD hS 0 rfl rfl 0 (by decide) (ht _ kl_Ref_72) (fun _ h9 => h9) rfl (by decide +kernel) rfl rfl (Nat.le_of_ble_eq_true rfl) d_Ref_join_96 (fun H locs hP hD hS => ?_)
                  have hP : va_P D kls (List.flatten [[rf_o h qs (nI 2) ma S.T.2.2.1.2.1 ca S.D.2.1.2.1 na S.G.2.2.2.1.2.1 S.D.1.2.1 S.D.2.2.1 S.D.2.2.2.1 S.D.2.2.2.2 S.lost], [(qs 0, .inl (cI, 12, .inl (lI S.eb)))], [(qs 1, .inl (cI, 144, .inl (fl (gN S.lk))))], [(qs 2, .inl (cI, 144, .inl (fl (gN wt))))], [(qs 3, .inl (cZ, 144, .inl (fl (kB S.kn))))], [(qs 4, .inl (cI, 1600, .inl fR))], [(qs 5, .inl (cI, 1600, .inl fN))], [(qs 6, .inl (cJ, 1600, .inr (.inl fL)))], [(qs 7, .inl (cJ, 1600, .inr (.inl fH)))], [(qs 8, .inl (cZ, 1600, .inl (dB uf)))], [(qs 9, .inl (cI, 144, .inl (fl (sI S.T.2.1))))], [(qs 10, .inl (cI, 4000, .inl fM))], [(qs 11, .inl (cJ, 4000, .inr (.inl fC)))], [(qs 12, .inl (cI, 4000, .inl fT))], [(qs 13, .inl (cI, 8, .inl (lI S.G.1)))], [(qs 14, .inl (cI, 8, .inl S.G.2.1))], [(qs 15, .inl (cI, 96, .inl (fl (gN (rT S.G.2.2.1)))))], [(qs 16, .inl (cI, 901, .inl fD))], [(qs 17, .inl (cI, 901, .inl fX))], [(qs 18, .inl (cI, 144, .inl (fl MK)))], [(qs 19, .inl (cI, 144, .inl (fl MF)))]]) H := hP
                  have hD : va_D A (List.flatten [[rf_o h qs (nI 2) ma S.T.2.2.1.2.1 ca S.D.2.1.2.1 na S.G.2.2.2.1.2.1 S.D.1.2.1 S.D.2.2.1 S.D.2.2.2.1 S.D.2.2.2.2 S.lost], [(qs 0, .inl (cI, 12, .inl (lI S.eb)))], [(qs 1, .inl (cI, 144, .inl (fl (gN S.lk))))], [(qs 2, .inl (cI, 144, .inl (fl (gN wt))))], [(qs 3, .inl (cZ, 144, .inl (fl (kB S.kn))))], [(qs 4, .inl (cI, 1600, .inl fR))], [(qs 5, .inl (cI, 1600, .inl fN))], [(qs 6, .inl (cJ, 1600, .inr (.inl fL)))], [(qs 7, .inl (cJ, 1600, .inr (.inl fH)))], [(qs 8, .inl (cZ, 1600, .inl (dB uf)))], [(qs 9, .inl (cI, 144, .inl (fl (sI S.T.2.1))))], [(qs 10, .inl (cI, 4000, .inl fM))], [(qs 11, .inl (cJ, 4000, .inr (.inl fC)))], [(qs 12, .inl (cI, 4000, .inl fT))], [(qs 13, .inl (cI, 8, .inl (lI S.G.1)))], [(qs 14, .inl (cI, 8, .inl S.G.2.1))], [(qs 15, .inl (cI, 96, .inl (fl (gN (rT S.G.2.2.1)))))], [(qs 16, .inl (cI, 901, .inl fD))], [(qs 17, .inl (cI, 901, .inl fX))], [(qs 18, .inl (cI, 144, .inl (fl MK)))], [(qs 19, .inl (cI, 144, .inl (fl MF)))]]) := hD
                  refine lv_iload hx hb d_Ref_join_99 (lv_at hl 0 rfl) ?_
                  refine ri_if_ne hx hb (by omega) d_Ref_join_101 (tgt := 106) (by decide) (fun h130 => ?_) (fun h130 => ?_)
                  · exact absurd h130 (by decide)
                  · refine lv_iconst (v := nI 0) hx hb d_Ref_join_104 (by decide) ?_
                    exact ct_iret hQ hx hb hr hlk hP hD hS hK (by omega) (by omega) d_Ref_join_105 (⟨qs, ma, ca, na, wt, fR, fN, fL, fH, uf, fM, fC, fT, fD, fX, MK, MF, rfl, hwt, hAd, hM, hC, hN, hPd⟩)
                · exact absurd h129 (by decide)
              · obtain ⟨nx, hnx, hsum⟩ := rg_n (k := 101) h75
                exact absurd ⟨e9, g, nx, he, hg, rfl, rfl, (by rw [hee]; exact fun z => by cases z), hdl, hsum, by omega⟩ hno
set_option maxHeartbeats 1600000 in
set_option maxRecDepth 100000 in
theorem k_Ref_carry (l : Launch) (D : va_G) (cI cZ cJ cG : ClassId) {h : Nat} {cd : Int32} {S : bm_S} {ws : va_W} (hR : rf_R cI cZ cJ h cd S ws) (hi : rf_i S) (n : Nat) (hn1 : 1 ≤ n) (hn2 : n ≤ 1000) : ct_I l D kls (ty4 cI cZ cJ cG) y_Ref_carry ws_Ref_carry (rm_ 1 25 0 0) [.ref h, .int (nI n)] (ws) (fun z u => ∃ d, z = nI d ∧ d ≤ n ∧ (∀ j, j < d → 0 < (bm_git S.G j).2.2.2.1.2.1) ∧ (d = n ∨ (bm_git S.G d).2.2.2.1.2.1 = 0) ∧ rf_R cI cZ cJ h (nI 0) (bm_cry d S) u) 0 0 := by
  obtain ⟨qs, ma, ca, na, wt, fR, fN, fL, fH, uf, fM, fC, fT, fD, fX, MK, MF, rfl, hwt, hAd, hM, hC, hN, hPd⟩ := hR
  obtain ⟨hsi, heb, h00, hA9, hm9, hcp9, hnt9, hpk9, hgi⟩ := hi
  have hok := hsi.1
  have hkn9 := hsi.2.1
  have hlk9 := hsi.2.2.1
  have hma := hM.1
  refine ct_enterI (cc := b_Ref_carry) (maxL := 6) (ret := (some .int)) (by decide +kernel) (Nat.le_of_ble_eq_true rfl) ?_
  intro p e s m args below meth c hx hb hml hr ht hown hlk hnm A Q hA hK hP hD hQ ls hl
  have hown : s.vm.findClass R_Ref = some m.cls := hown
  have hS : va_S A s.heap s.heap [] := va_S.rf
  have hl : lv_has ls 6 [(0, .ref h), (1, .int (nI n))] := hl
  have hrt := hsi.2.2.2.2.1
  have loop : ∀ (k j : Nat) (nb : Nat) (H : Heap) (locs : List Loc) (ls : Array Slot), j + k = n → (∀ i, i < j → 0 < (bm_git S.G i).2.2.2.1.2.1) → (nr_R fT nb (bm_git S.G j).2.2.2.1) → ((bm_git S.G j).2.2.2.1.2.1 ≤ 4000) → va_P D kls (List.flatten [[rf_o h qs (nI 0) ma S.T.2.2.1.2.1 ca S.D.2.1.2.1 nb ((bm_git S.G j).2.2.2.1.2.1) S.D.1.2.1 S.D.2.2.1 S.D.2.2.2.1 S.D.2.2.2.2 S.lost], [(qs 0, .inl (cI, 12, .inl (lI S.eb)))], [(qs 1, .inl (cI, 144, .inl (fl (gN S.lk))))], [(qs 2, .inl (cI, 144, .inl (fl (gN wt))))], [(qs 3, .inl (cZ, 144, .inl (fl (kB S.kn))))], [(qs 4, .inl (cI, 1600, .inl fR))], [(qs 5, .inl (cI, 1600, .inl fN))], [(qs 6, .inl (cJ, 1600, .inr (.inl fL)))], [(qs 7, .inl (cJ, 1600, .inr (.inl fH)))], [(qs 8, .inl (cZ, 1600, .inl (dB uf)))], [(qs 9, .inl (cI, 144, .inl (fl (sI S.T.2.1))))], [(qs 10, .inl (cI, 4000, .inl fM))], [(qs 11, .inl (cJ, 4000, .inr (.inl fC)))], [(qs 12, .inl (cI, 4000, .inl fT))], [(qs 13, .inl (cI, 8, .inl (lI ((bm_git S.G j).1))))], [(qs 14, .inl (cI, 8, .inl ((bm_git S.G j).2.1)))], [(qs 15, .inl (cI, 96, .inl (fl (gN (rT (bm_git S.G j).2.2.1)))))], [(qs 16, .inl (cI, 901, .inl fD))], [(qs 17, .inl (cI, 901, .inl fX))], [(qs 18, .inl (cI, 144, .inl (fl MK)))], [(qs 19, .inl (cI, 144, .inl (fl MF)))]]) H → va_D A (List.flatten [[rf_o h qs (nI 0) ma S.T.2.2.1.2.1 ca S.D.2.1.2.1 nb ((bm_git S.G j).2.2.2.1.2.1) S.D.1.2.1 S.D.2.2.1 S.D.2.2.2.1 S.D.2.2.2.2 S.lost], [(qs 0, .inl (cI, 12, .inl (lI S.eb)))], [(qs 1, .inl (cI, 144, .inl (fl (gN S.lk))))], [(qs 2, .inl (cI, 144, .inl (fl (gN wt))))], [(qs 3, .inl (cZ, 144, .inl (fl (kB S.kn))))], [(qs 4, .inl (cI, 1600, .inl fR))], [(qs 5, .inl (cI, 1600, .inl fN))], [(qs 6, .inl (cJ, 1600, .inr (.inl fL)))], [(qs 7, .inl (cJ, 1600, .inr (.inl fH)))], [(qs 8, .inl (cZ, 1600, .inl (dB uf)))], [(qs 9, .inl (cI, 144, .inl (fl (sI S.T.2.1))))], [(qs 10, .inl (cI, 4000, .inl fM))], [(qs 11, .inl (cJ, 4000, .inr (.inl fC)))], [(qs 12, .inl (cI, 4000, .inl fT))], [(qs 13, .inl (cI, 8, .inl (lI ((bm_git S.G j).1))))], [(qs 14, .inl (cI, 8, .inl ((bm_git S.G j).2.1)))], [(qs 15, .inl (cI, 96, .inl (fl (gN (rT (bm_git S.G j).2.2.1)))))], [(qs 16, .inl (cI, 901, .inl fD))], [(qs 17, .inl (cI, 901, .inl fX))], [(qs 18, .inl (cI, 144, .inl (fl MK)))], [(qs 19, .inl (cI, 144, .inl (fl MF)))]]) → va_S A s.heap H locs → lv_has ls 6 [(3, .int (nI j)), (2, .int (nI n)), (0, .ref h), (1, .int (nI n))] → W p l e (rm_ 1 25 0 0) s m args below meth c H locs 0 0 Q (F0 m 47 ls []) := by
    intro k
    induction k with
    | zero =>
      intro j nb H locs ls hk hs hJ hz hP hD hS hl
      refine lv_iload_n hx hb d_Ref_carry_47 rfl (lv_at hl 0 rfl) ?_
      refine lv_iload_n hx hb d_Ref_carry_48 rfl (lv_at hl 1 rfl) ?_
      refine ri_icmp_ge hx hb (by omega) (by omega) d_Ref_carry_49 (tgt := 161) (by decide) (fun hc9 => ?_) (fun hc9 => ?_)
      · refine lv_iload_n hx hb d_Ref_carry_161 rfl (lv_at hl 0 rfl) ?_
        exact ct_iret hQ hx hb hr hlk hP hD hS hK (by omega) (by omega) d_Ref_carry_162 (⟨j, rfl, by omega, hs, (by first | exact Or.inl (by omega) | exact Or.inr (by omega)), ⟨qs, ma, ca, nb, wt, fR, fN, fL, fH, uf, fM, fC, fT, fD, fX, MK, MF, rfl, hwt, hAd, hM, hC, hJ, hPd⟩⟩)
      · exact absurd hc9 (by omega)
    | succ k ih =>
      intro j nb H locs ls hk hs hJ hz hP hD hS hl
      refine lv_iload_n hx hb d_Ref_carry_47 rfl (lv_at hl 0 rfl) ?_
      refine lv_iload_n hx hb d_Ref_carry_48 rfl (lv_at hl 1 rfl) ?_
      refine ri_icmp_ge hx hb (by omega) (by omega) d_Ref_carry_49 (tgt := 161) (by decide) (fun hc9 => ?_) (fun hc9 => ?_)
      · refine lv_iload_n hx hb d_Ref_carry_161 rfl (lv_at hl 0 rfl) ?_
        exact ct_iret hQ hx hb hr hlk hP hD hS hK (by omega) (by omega) d_Ref_carry_162 (⟨j, rfl, by omega, hs, (by first | exact Or.inl (by omega) | exact Or.inr (by omega)), ⟨qs, ma, ca, nb, wt, fR, fN, fL, fH, uf, fM, fC, fT, fD, fX, MK, MF, rfl, hwt, hAd, hM, hC, hJ, hPd⟩⟩)
      · refine lv_aload_n hx hb d_Ref_carry_52 rfl (lv_at hl 2 rfl) ?_
        refine va_get (D := D) (ci := 9) (v := .int (nI ((bm_git S.G j).2.2.2.1.2.1))) (C := R_Ref) (T := T_Ref) (N := 32) hx hb ht in_Ref hown hK hP 0 rfl rfl 18 (by decide) (ht _ kl_Ref_151) (fun _ h9 => h9) rfl d_Ref_carry_53 ?_
        refine ri_if_le hx hb (by omega) d_Ref_carry_56 (tgt := 161) (by decide) (fun h56 => ?_) (fun h56 => ?_)
        · refine lv_iload_n hx hb d_Ref_carry_161 rfl (lv_at hl 0 rfl) ?_
          exact ct_iret hQ hx hb hr hlk hP hD hS hK (by omega) (by omega) d_Ref_carry_162 (⟨j, rfl, by omega, hs, (by first | exact Or.inl (by omega) | exact Or.inr (by omega)), ⟨qs, ma, ca, nb, wt, fR, fN, fL, fH, uf, fM, fC, fT, fD, fX, MK, MF, rfl, hwt, hAd, hM, hC, hJ, hPd⟩⟩)
        · have hnb := hJ.1
          obtain ⟨g, b, t, hg, hb9, ht9, hr0, hr1, hr2, hv⟩ := hJ.2 0 (by omega)
          rw [Nat.add_zero, Nat.mod_eq_of_lt hnb] at hv
          have hgo : bm_gof (bm_git S.G j) = g := by unfold bm_gof; rw [hr0]; exact nI_clamp (by omega)
          refine lv_aload_n hx hb d_Ref_carry_59 rfl (lv_at hl 2 rfl) ?_
          refine va_get (D := D) (ci := 9) (v := .ref (qs 12)) (C := R_Ref) (T := T_Ref) (N := 32) hx hb ht in_Ref hown hK hP 0 rfl rfl 19 (by decide) (ht _ kl_Ref_48) (fun _ h9 => h9) rfl d_Ref_carry_60 ?_
          refine lv_aload_n hx hb d_Ref_carry_63 rfl (lv_at hl 2 rfl) ?_
          refine va_get (D := D) (ci := 9) (v := .int (nI nb)) (C := R_Ref) (T := T_Ref) (N := 32) hx hb ht in_Ref hown hK hP 0 rfl rfl 17 (by decide) (ht _ kl_Ref_154) (fun _ h9 => h9) rfl d_Ref_carry_64 ?_
          refine ri_iald hx hb hK hP 13 0 rfl rfl (j := nb) (by omega) (by omega) d_Ref_carry_67 ?_
          refine W.eq (g2 := F0 m 68 ls [.int (nI (g * 64 + b * 2 + t))]) (congrArg (fun z => F0 m 68 ls (.int z :: [])) (hv)) ?_
          refine lv_istore hx hb d_Ref_carry_68 hl (by decide) rfl (fun ls hl => ?_)
          have hl : lv_has ls 6 [(4, .int (nI (g * 64 + b * 2 + t))), (3, .int (nI j)), (2, .int (nI n)), (0, .ref h), (1, .int (nI n))] := hl
          refine lv_aload_n hx hb d_Ref_carry_70 rfl (lv_at hl 3 rfl) ?_
          refine lv_aload_n hx hb d_Ref_carry_71 rfl (lv_at hl 3 rfl) ?_
          refine va_get (D := D) (ci := 9) (v := .int (nI nb)) (C := R_Ref) (T := T_Ref) (N := 32) hx hb ht in_Ref hown hK hP 0 rfl rfl 17 (by decide) (ht _ kl_Ref_154) (fun _ h9 => h9) rfl d_Ref_carry_72 ?_
          refine lv_iconst (v := nI 1) hx hb d_Ref_carry_75 (by decide) ?_
          refine ri_iadd hx hb d_Ref_carry_76 ?_
          refine lv_sipush (v := nI 4000) hx hb d_Ref_carry_77 (by decide) ?_
          refine ri_irem2 hx hb (by omega) (by omega) (by omega) d_Ref_carry_80 ?_
          refine va_put (D := D) (ci := 9) (v := .int (nI ((nb + 1) % 4000))) (ty := .int) (C := R_Ref) (T := T_Ref) (N := 32) hx hb ht in_Ref t_Ref ok_Ref nm_Ref hown hK hP hD hS 0 rfl rfl 17 (by decide) (ht _ kl_Ref_154) (fun _ h9 => h9) rfl (by decide +kernel) rfl rfl (Nat.le_of_ble_eq_true rfl) d_Ref_carry_81 (fun H locs hP hD hS => ?_)
          have hP : va_P D kls (List.flatten [[rf_o h qs (nI 0) ma S.T.2.2.1.2.1 ca S.D.2.1.2.1 ((nb + 1) % 4000) ((bm_git S.G j).2.2.2.1.2.1) S.D.1.2.1 S.D.2.2.1 S.D.2.2.2.1 S.D.2.2.2.2 S.lost], [(qs 0, .inl (cI, 12, .inl (lI S.eb)))], [(qs 1, .inl (cI, 144, .inl (fl (gN S.lk))))], [(qs 2, .inl (cI, 144, .inl (fl (gN wt))))], [(qs 3, .inl (cZ, 144, .inl (fl (kB S.kn))))], [(qs 4, .inl (cI, 1600, .inl fR))], [(qs 5, .inl (cI, 1600, .inl fN))], [(qs 6, .inl (cJ, 1600, .inr (.inl fL)))], [(qs 7, .inl (cJ, 1600, .inr (.inl fH)))], [(qs 8, .inl (cZ, 1600, .inl (dB uf)))], [(qs 9, .inl (cI, 144, .inl (fl (sI S.T.2.1))))], [(qs 10, .inl (cI, 4000, .inl fM))], [(qs 11, .inl (cJ, 4000, .inr (.inl fC)))], [(qs 12, .inl (cI, 4000, .inl fT))], [(qs 13, .inl (cI, 8, .inl (lI ((bm_git S.G j).1))))], [(qs 14, .inl (cI, 8, .inl ((bm_git S.G j).2.1)))], [(qs 15, .inl (cI, 96, .inl (fl (gN (rT (bm_git S.G j).2.2.1)))))], [(qs 16, .inl (cI, 901, .inl fD))], [(qs 17, .inl (cI, 901, .inl fX))], [(qs 18, .inl (cI, 144, .inl (fl MK)))], [(qs 19, .inl (cI, 144, .inl (fl MF)))]]) H := hP
          have hD : va_D A (List.flatten [[rf_o h qs (nI 0) ma S.T.2.2.1.2.1 ca S.D.2.1.2.1 ((nb + 1) % 4000) ((bm_git S.G j).2.2.2.1.2.1) S.D.1.2.1 S.D.2.2.1 S.D.2.2.2.1 S.D.2.2.2.2 S.lost], [(qs 0, .inl (cI, 12, .inl (lI S.eb)))], [(qs 1, .inl (cI, 144, .inl (fl (gN S.lk))))], [(qs 2, .inl (cI, 144, .inl (fl (gN wt))))], [(qs 3, .inl (cZ, 144, .inl (fl (kB S.kn))))], [(qs 4, .inl (cI, 1600, .inl fR))], [(qs 5, .inl (cI, 1600, .inl fN))], [(qs 6, .inl (cJ, 1600, .inr (.inl fL)))], [(qs 7, .inl (cJ, 1600, .inr (.inl fH)))], [(qs 8, .inl (cZ, 1600, .inl (dB uf)))], [(qs 9, .inl (cI, 144, .inl (fl (sI S.T.2.1))))], [(qs 10, .inl (cI, 4000, .inl fM))], [(qs 11, .inl (cJ, 4000, .inr (.inl fC)))], [(qs 12, .inl (cI, 4000, .inl fT))], [(qs 13, .inl (cI, 8, .inl (lI ((bm_git S.G j).1))))], [(qs 14, .inl (cI, 8, .inl ((bm_git S.G j).2.1)))], [(qs 15, .inl (cI, 96, .inl (fl (gN (rT (bm_git S.G j).2.2.1)))))], [(qs 16, .inl (cI, 901, .inl fD))], [(qs 17, .inl (cI, 901, .inl fX))], [(qs 18, .inl (cI, 144, .inl (fl MK)))], [(qs 19, .inl (cI, 144, .inl (fl MF)))]]) := hD
          refine lv_aload_n hx hb d_Ref_carry_84 rfl (lv_at hl 3 rfl) ?_
          refine lv_dup hx hb d_Ref_carry_85 rfl ?_
          refine va_get (D := D) (ci := 9) (v := .int (nI ((bm_git S.G j).2.2.2.1.2.1))) (C := R_Ref) (T := T_Ref) (N := 32) hx hb ht in_Ref hown hK hP 0 rfl rfl 18 (by decide) (ht _ kl_Ref_151) (fun _ h9 => h9) rfl d_Ref_carry_86 ?_
          refine lv_iconst (v := nI 1) hx hb d_Ref_carry_89 (by decide) ?_
          refine ri_isub hx hb (by omega) d_Ref_carry_90 ?_
          refine va_put (D := D) (ci := 9) (v := .int (nI (((bm_git S.G j).2.2.2.1.2.1) - 1))) (ty := .int) (C := R_Ref) (T := T_Ref) (N := 32) hx hb ht in_Ref t_Ref ok_Ref nm_Ref hown hK hP hD hS 0 rfl rfl 18 (by decide) (ht _ kl_Ref_151) (fun _ h9 => h9) rfl (by decide +kernel) rfl rfl (Nat.le_of_ble_eq_true rfl) d_Ref_carry_91 (fun H locs hP hD hS => ?_)
          have hP : va_P D kls (List.flatten [[rf_o h qs (nI 0) ma S.T.2.2.1.2.1 ca S.D.2.1.2.1 ((nb + 1) % 4000) (((bm_git S.G j).2.2.2.1.2.1) - 1) S.D.1.2.1 S.D.2.2.1 S.D.2.2.2.1 S.D.2.2.2.2 S.lost], [(qs 0, .inl (cI, 12, .inl (lI S.eb)))], [(qs 1, .inl (cI, 144, .inl (fl (gN S.lk))))], [(qs 2, .inl (cI, 144, .inl (fl (gN wt))))], [(qs 3, .inl (cZ, 144, .inl (fl (kB S.kn))))], [(qs 4, .inl (cI, 1600, .inl fR))], [(qs 5, .inl (cI, 1600, .inl fN))], [(qs 6, .inl (cJ, 1600, .inr (.inl fL)))], [(qs 7, .inl (cJ, 1600, .inr (.inl fH)))], [(qs 8, .inl (cZ, 1600, .inl (dB uf)))], [(qs 9, .inl (cI, 144, .inl (fl (sI S.T.2.1))))], [(qs 10, .inl (cI, 4000, .inl fM))], [(qs 11, .inl (cJ, 4000, .inr (.inl fC)))], [(qs 12, .inl (cI, 4000, .inl fT))], [(qs 13, .inl (cI, 8, .inl (lI ((bm_git S.G j).1))))], [(qs 14, .inl (cI, 8, .inl ((bm_git S.G j).2.1)))], [(qs 15, .inl (cI, 96, .inl (fl (gN (rT (bm_git S.G j).2.2.1)))))], [(qs 16, .inl (cI, 901, .inl fD))], [(qs 17, .inl (cI, 901, .inl fX))], [(qs 18, .inl (cI, 144, .inl (fl MK)))], [(qs 19, .inl (cI, 144, .inl (fl MF)))]]) H := hP
          have hD : va_D A (List.flatten [[rf_o h qs (nI 0) ma S.T.2.2.1.2.1 ca S.D.2.1.2.1 ((nb + 1) % 4000) (((bm_git S.G j).2.2.2.1.2.1) - 1) S.D.1.2.1 S.D.2.2.1 S.D.2.2.2.1 S.D.2.2.2.2 S.lost], [(qs 0, .inl (cI, 12, .inl (lI S.eb)))], [(qs 1, .inl (cI, 144, .inl (fl (gN S.lk))))], [(qs 2, .inl (cI, 144, .inl (fl (gN wt))))], [(qs 3, .inl (cZ, 144, .inl (fl (kB S.kn))))], [(qs 4, .inl (cI, 1600, .inl fR))], [(qs 5, .inl (cI, 1600, .inl fN))], [(qs 6, .inl (cJ, 1600, .inr (.inl fL)))], [(qs 7, .inl (cJ, 1600, .inr (.inl fH)))], [(qs 8, .inl (cZ, 1600, .inl (dB uf)))], [(qs 9, .inl (cI, 144, .inl (fl (sI S.T.2.1))))], [(qs 10, .inl (cI, 4000, .inl fM))], [(qs 11, .inl (cJ, 4000, .inr (.inl fC)))], [(qs 12, .inl (cI, 4000, .inl fT))], [(qs 13, .inl (cI, 8, .inl (lI ((bm_git S.G j).1))))], [(qs 14, .inl (cI, 8, .inl ((bm_git S.G j).2.1)))], [(qs 15, .inl (cI, 96, .inl (fl (gN (rT (bm_git S.G j).2.2.1)))))], [(qs 16, .inl (cI, 901, .inl fD))], [(qs 17, .inl (cI, 901, .inl fX))], [(qs 18, .inl (cI, 144, .inl (fl MK)))], [(qs 19, .inl (cI, 144, .inl (fl MF)))]]) := hD
          refine ri_iinc hx hb d_Ref_carry_94 hl (k := 1) rfl (by decide) rfl (fun ls hl => ?_)
          have hl : lv_has ls 6 [(3, .int (nI (j + 1))), (4, .int (nI (g * 64 + b * 2 + t))), (2, .int (nI n)), (0, .ref h), (1, .int (nI n))] := hl
          refine lv_iconst (v := nI 1) hx hb d_Ref_carry_97 (by decide) ?_
          refine lv_iload hx hb d_Ref_carry_98 (lv_at hl 1 rfl) ?_
          refine lv_iconst (v := nI 1) hx hb d_Ref_carry_100 (by decide) ?_
          refine ri_ishr2 hx hb (by omega) (by omega) d_Ref_carry_101 ?_
          refine lv_bipush (v := nI 31) hx hb d_Ref_carry_102 (by decide) ?_
          refine ri_iand2 hx hb d_Ref_carry_104 ?_
          refine W.eq (g2 := F0 m 105 ls [.int (nI b), .int (nI 1)]) (congrArg (fun z => F0 m 105 ls (.int z :: [.int (nI 1)])) (congrArg nI (nt_b hb9 ht9))) ?_
          refine lv_ishl hx hb d_Ref_carry_105 ?_
          refine W.eq (g2 := F0 m 106 ls [.int (bm_em (some b))]) (congrArg (fun z => F0 m 106 ls (.int z :: [])) (rfl)) ?_
          refine lv_istore hx hb d_Ref_carry_106 hl (by decide) rfl (fun ls hl => ?_)
          have hl : lv_has ls 6 [(5, .int (bm_em (some b))), (3, .int (nI (j + 1))), (4, .int (nI (g * 64 + b * 2 + t))), (2, .int (nI n)), (0, .ref h), (1, .int (nI n))] := hl
          refine lv_iload_n hx hb d_Ref_carry_108 rfl (lv_at hl 5 rfl) ?_
          refine ri_if_ge hx hb (by omega) d_Ref_carry_109 (tgt := 115) (by decide) (fun h109 => ?_) (fun h109 => ?_)
          · refine lv_iload hx hb d_Ref_carry_115 (lv_at hl 2 rfl) ?_
            refine lv_iconst (v := nI 1) hx hb d_Ref_carry_117 (by decide) ?_
            refine ri_iand2 hx hb d_Ref_carry_118 ?_
            refine W.eq (g2 := F0 m 119 ls [.int (nI t)]) (congrArg (fun z => F0 m 119 ls (.int z :: [])) (congrArg nI (nt_t ht9))) ?_
            refine lv_iconst (v := nI 1) hx hb d_Ref_carry_119 (by decide) ?_
            refine ri_icmp_ne hx hb (by omega) (by omega) d_Ref_carry_120 (tgt := 141) (by decide) (fun h120 => ?_) (fun h120 => ?_)
            · refine lv_aload_n hx hb d_Ref_carry_141 rfl (lv_at hl 4 rfl) ?_
              refine va_get (D := D) (ci := 9) (v := .ref (qs 14)) (C := R_Ref) (T := T_Ref) (N := 32) hx hb ht in_Ref hown hK hP 0 rfl rfl 21 (by decide) (ht _ kl_Ref_54) (fun _ h9 => h9) rfl d_Ref_carry_142 ?_
              refine lv_iload hx hb d_Ref_carry_145 (lv_at hl 2 rfl) ?_
              refine lv_bipush (v := nI 6) hx hb d_Ref_carry_147 (by decide) ?_
              refine ri_ishr2 hx hb (by omega) (by omega) d_Ref_carry_149 ?_
              refine W.eq (g2 := F0 m 150 ls [.int (nI g), .ref (qs 14)]) (congrArg (fun z => F0 m 150 ls (.int z :: [.ref (qs 14)])) (congrArg nI (nt_g hb9 ht9))) ?_
              refine lv_dup2_11 hx hb d_Ref_carry_150 rfl rfl ?_
              refine ri_iald hx hb hK hP 15 0 rfl rfl (j := g) (by omega) (by omega) d_Ref_carry_151 ?_
              refine lv_iload hx hb d_Ref_carry_152 (lv_at hl 0 rfl) ?_
              refine lv_iconst (v := (-1)) hx hb d_Ref_carry_154 (by decide) ?_
              refine lv_ixor hx hb d_Ref_carry_155 ?_
              refine lv_iand hx hb d_Ref_carry_156 ?_
              refine ri_iast hx hb hK hP hD hS 15 0 rfl rfl (j := g) (by omega) (by omega) d_Ref_carry_157 (fun H locs hP hD hS => ?_)
              have hP : va_P D kls (List.flatten [[rf_o h qs (nI 0) ma S.T.2.2.1.2.1 ca S.D.2.1.2.1 ((nb + 1) % 4000) (((bm_git S.G j).2.2.2.1.2.1) - 1) S.D.1.2.1 S.D.2.2.1 S.D.2.2.2.1 S.D.2.2.2.2 S.lost], [(qs 0, .inl (cI, 12, .inl (lI S.eb)))], [(qs 1, .inl (cI, 144, .inl (fl (gN S.lk))))], [(qs 2, .inl (cI, 144, .inl (fl (gN wt))))], [(qs 3, .inl (cZ, 144, .inl (fl (kB S.kn))))], [(qs 4, .inl (cI, 1600, .inl fR))], [(qs 5, .inl (cI, 1600, .inl fN))], [(qs 6, .inl (cJ, 1600, .inr (.inl fL)))], [(qs 7, .inl (cJ, 1600, .inr (.inl fH)))], [(qs 8, .inl (cZ, 1600, .inl (dB uf)))], [(qs 9, .inl (cI, 144, .inl (fl (sI S.T.2.1))))], [(qs 10, .inl (cI, 4000, .inl fM))], [(qs 11, .inl (cJ, 4000, .inr (.inl fC)))], [(qs 12, .inl (cI, 4000, .inl fT))], [(qs 13, .inl (cI, 8, .inl (lI ((bm_git S.G j).1))))], [(qs 14, .inl (cI, 8, .inl (upd ((bm_git S.G j).2.1) g ((((bm_git S.G j).2.1) g) &&& ((bm_em (some b)) ^^^ ((-1)))))))], [(qs 15, .inl (cI, 96, .inl (fl (gN (rT (bm_git S.G j).2.2.1)))))], [(qs 16, .inl (cI, 901, .inl fD))], [(qs 17, .inl (cI, 901, .inl fX))], [(qs 18, .inl (cI, 144, .inl (fl MK)))], [(qs 19, .inl (cI, 144, .inl (fl MF)))]]) H := hP
              have hD : va_D A (List.flatten [[rf_o h qs (nI 0) ma S.T.2.2.1.2.1 ca S.D.2.1.2.1 ((nb + 1) % 4000) (((bm_git S.G j).2.2.2.1.2.1) - 1) S.D.1.2.1 S.D.2.2.1 S.D.2.2.2.1 S.D.2.2.2.2 S.lost], [(qs 0, .inl (cI, 12, .inl (lI S.eb)))], [(qs 1, .inl (cI, 144, .inl (fl (gN S.lk))))], [(qs 2, .inl (cI, 144, .inl (fl (gN wt))))], [(qs 3, .inl (cZ, 144, .inl (fl (kB S.kn))))], [(qs 4, .inl (cI, 1600, .inl fR))], [(qs 5, .inl (cI, 1600, .inl fN))], [(qs 6, .inl (cJ, 1600, .inr (.inl fL)))], [(qs 7, .inl (cJ, 1600, .inr (.inl fH)))], [(qs 8, .inl (cZ, 1600, .inl (dB uf)))], [(qs 9, .inl (cI, 144, .inl (fl (sI S.T.2.1))))], [(qs 10, .inl (cI, 4000, .inl fM))], [(qs 11, .inl (cJ, 4000, .inr (.inl fC)))], [(qs 12, .inl (cI, 4000, .inl fT))], [(qs 13, .inl (cI, 8, .inl (lI ((bm_git S.G j).1))))], [(qs 14, .inl (cI, 8, .inl (upd ((bm_git S.G j).2.1) g ((((bm_git S.G j).2.1) g) &&& ((bm_em (some b)) ^^^ ((-1)))))))], [(qs 15, .inl (cI, 96, .inl (fl (gN (rT (bm_git S.G j).2.2.1)))))], [(qs 16, .inl (cI, 901, .inl fD))], [(qs 17, .inl (cI, 901, .inl fX))], [(qs 18, .inl (cI, 144, .inl (fl MK)))], [(qs 19, .inl (cI, 144, .inl (fl MF)))]]) := hD
              refine lv_goto hx hb d_Ref_carry_158 (tgt := 47) (by decide) ?_
              have hst : (bm_git S.G (j + 1)).2.1 = upd ((bm_git S.G j).2.1) g ((((bm_git S.G j).2.1) g) &&& ((bm_em (some b)) ^^^ ((-1)))) := by
                show bm_up1 (bm_git S.G j).2.1 (bm_gof (bm_git S.G j)) (if (bm_git S.G j).2.2.2.1.2.2 0 2 = nI 1 then (bm_git S.G j).2.1 (bm_gof (bm_git S.G j)) ||| (bm_git S.G j).2.2.2.1.2.2 0 1 else (bm_git S.G j).2.1 (bm_gof (bm_git S.G j)) &&& ((bm_git S.G j).2.2.2.1.2.2 0 1 ^^^ (-1))) = _
                rw [hgo, hr1, hr2]
                first | rw [if_pos (congrArg nI h120)] | rw [if_neg (fun z => h120 ((nI_eq (by omega) (by decide)).mp z))]
                rfl
              rw [← hst] at hP hD
              exact ih (j + 1) ((nb + 1) % 4000) H locs ls (by omega) (fun i hi => by by_cases e : i = j; (· rw [e]; omega); (· exact hs i (by omega))) (nr_drop hJ) (by show (bm_git S.G j).2.2.2.1.2.1 - 1 ≤ 4000; omega) hP hD hS (lv_sub hl [1, 3, 4, 5] rfl)
            · refine lv_aload_n hx hb d_Ref_carry_123 rfl (lv_at hl 4 rfl) ?_
              refine va_get (D := D) (ci := 9) (v := .ref (qs 14)) (C := R_Ref) (T := T_Ref) (N := 32) hx hb ht in_Ref hown hK hP 0 rfl rfl 21 (by decide) (ht _ kl_Ref_54) (fun _ h9 => h9) rfl d_Ref_carry_124 ?_
              refine lv_iload hx hb d_Ref_carry_127 (lv_at hl 2 rfl) ?_
              refine lv_bipush (v := nI 6) hx hb d_Ref_carry_129 (by decide) ?_
              refine ri_ishr2 hx hb (by omega) (by omega) d_Ref_carry_131 ?_
              refine W.eq (g2 := F0 m 132 ls [.int (nI g), .ref (qs 14)]) (congrArg (fun z => F0 m 132 ls (.int z :: [.ref (qs 14)])) (congrArg nI (nt_g hb9 ht9))) ?_
              refine lv_dup2_11 hx hb d_Ref_carry_132 rfl rfl ?_
              refine ri_iald hx hb hK hP 15 0 rfl rfl (j := g) (by omega) (by omega) d_Ref_carry_133 ?_
              refine lv_iload hx hb d_Ref_carry_134 (lv_at hl 0 rfl) ?_
              refine lv_ior hx hb d_Ref_carry_136 ?_
              refine ri_iast hx hb hK hP hD hS 15 0 rfl rfl (j := g) (by omega) (by omega) d_Ref_carry_137 (fun H locs hP hD hS => ?_)
              have hP : va_P D kls (List.flatten [[rf_o h qs (nI 0) ma S.T.2.2.1.2.1 ca S.D.2.1.2.1 ((nb + 1) % 4000) (((bm_git S.G j).2.2.2.1.2.1) - 1) S.D.1.2.1 S.D.2.2.1 S.D.2.2.2.1 S.D.2.2.2.2 S.lost], [(qs 0, .inl (cI, 12, .inl (lI S.eb)))], [(qs 1, .inl (cI, 144, .inl (fl (gN S.lk))))], [(qs 2, .inl (cI, 144, .inl (fl (gN wt))))], [(qs 3, .inl (cZ, 144, .inl (fl (kB S.kn))))], [(qs 4, .inl (cI, 1600, .inl fR))], [(qs 5, .inl (cI, 1600, .inl fN))], [(qs 6, .inl (cJ, 1600, .inr (.inl fL)))], [(qs 7, .inl (cJ, 1600, .inr (.inl fH)))], [(qs 8, .inl (cZ, 1600, .inl (dB uf)))], [(qs 9, .inl (cI, 144, .inl (fl (sI S.T.2.1))))], [(qs 10, .inl (cI, 4000, .inl fM))], [(qs 11, .inl (cJ, 4000, .inr (.inl fC)))], [(qs 12, .inl (cI, 4000, .inl fT))], [(qs 13, .inl (cI, 8, .inl (lI ((bm_git S.G j).1))))], [(qs 14, .inl (cI, 8, .inl (upd ((bm_git S.G j).2.1) g ((((bm_git S.G j).2.1) g) ||| (bm_em (some b))))))], [(qs 15, .inl (cI, 96, .inl (fl (gN (rT (bm_git S.G j).2.2.1)))))], [(qs 16, .inl (cI, 901, .inl fD))], [(qs 17, .inl (cI, 901, .inl fX))], [(qs 18, .inl (cI, 144, .inl (fl MK)))], [(qs 19, .inl (cI, 144, .inl (fl MF)))]]) H := hP
              have hD : va_D A (List.flatten [[rf_o h qs (nI 0) ma S.T.2.2.1.2.1 ca S.D.2.1.2.1 ((nb + 1) % 4000) (((bm_git S.G j).2.2.2.1.2.1) - 1) S.D.1.2.1 S.D.2.2.1 S.D.2.2.2.1 S.D.2.2.2.2 S.lost], [(qs 0, .inl (cI, 12, .inl (lI S.eb)))], [(qs 1, .inl (cI, 144, .inl (fl (gN S.lk))))], [(qs 2, .inl (cI, 144, .inl (fl (gN wt))))], [(qs 3, .inl (cZ, 144, .inl (fl (kB S.kn))))], [(qs 4, .inl (cI, 1600, .inl fR))], [(qs 5, .inl (cI, 1600, .inl fN))], [(qs 6, .inl (cJ, 1600, .inr (.inl fL)))], [(qs 7, .inl (cJ, 1600, .inr (.inl fH)))], [(qs 8, .inl (cZ, 1600, .inl (dB uf)))], [(qs 9, .inl (cI, 144, .inl (fl (sI S.T.2.1))))], [(qs 10, .inl (cI, 4000, .inl fM))], [(qs 11, .inl (cJ, 4000, .inr (.inl fC)))], [(qs 12, .inl (cI, 4000, .inl fT))], [(qs 13, .inl (cI, 8, .inl (lI ((bm_git S.G j).1))))], [(qs 14, .inl (cI, 8, .inl (upd ((bm_git S.G j).2.1) g ((((bm_git S.G j).2.1) g) ||| (bm_em (some b))))))], [(qs 15, .inl (cI, 96, .inl (fl (gN (rT (bm_git S.G j).2.2.1)))))], [(qs 16, .inl (cI, 901, .inl fD))], [(qs 17, .inl (cI, 901, .inl fX))], [(qs 18, .inl (cI, 144, .inl (fl MK)))], [(qs 19, .inl (cI, 144, .inl (fl MF)))]]) := hD
              refine lv_goto hx hb d_Ref_carry_138 (tgt := 158) (by decide) ?_
              refine lv_goto hx hb d_Ref_carry_158 (tgt := 47) (by decide) ?_
              have hst : (bm_git S.G (j + 1)).2.1 = upd ((bm_git S.G j).2.1) g ((((bm_git S.G j).2.1) g) ||| (bm_em (some b))) := by
                show bm_up1 (bm_git S.G j).2.1 (bm_gof (bm_git S.G j)) (if (bm_git S.G j).2.2.2.1.2.2 0 2 = nI 1 then (bm_git S.G j).2.1 (bm_gof (bm_git S.G j)) ||| (bm_git S.G j).2.2.2.1.2.2 0 1 else (bm_git S.G j).2.1 (bm_gof (bm_git S.G j)) &&& ((bm_git S.G j).2.2.2.1.2.2 0 1 ^^^ (-1))) = _
                rw [hgo, hr1, hr2]
                first | rw [if_pos (congrArg nI h120)] | rw [if_neg (fun z => h120 ((nI_eq (by omega) (by decide)).mp z))]
                rfl
              rw [← hst] at hP hD
              exact ih (j + 1) ((nb + 1) % 4000) H locs ls (by omega) (fun i hi => by by_cases e : i = j; (· rw [e]; omega); (· exact hs i (by omega))) (nr_drop hJ) (by show (bm_git S.G j).2.2.2.1.2.1 - 1 ≤ 4000; omega) hP hD hS (lv_sub hl [1, 3, 4, 5] rfl)
          · exact absurd h109 (by omega)
  refine lv_aload_n hx hb d_Ref_carry_0 rfl (lv_at hl 0 rfl) ?_
  refine lv_iload_n hx hb d_Ref_carry_1 rfl (lv_at hl 1 rfl) ?_
  refine lv_iconst (v := (-1)) hx hb d_Ref_carry_2 (by decide) ?_
  refine lv_icmp_eq hx hb d_Ref_carry_3 (tgt := 18) (by decide) (fun h3 => ?_) (fun h3 => ?_)
  · exact absurd h3 (nI_m1 (by omega))
  · refine lv_iload_n hx hb d_Ref_carry_6 rfl (lv_at hl 1 rfl) ?_
    refine lv_i2l (v := lN n) hx hb d_Ref_carry_7 (nI_l (by omega)) ?_
    refine lv_lconst (v := lN 1) hx hb d_Ref_carry_8 rfl ?_
    refine lv_ldc2 (v := lN 1000) hx hb hown (ht _ kl_Ref_116) d_Ref_carry_9 ?_
    refine ct_rdS (As := [.long (lN n), .long (lN 1), .long (lN 1000)]) (rest := [.ref h]) ⟨hx, hb, hml, hown, ht⟩ (k_Ref_in l D cI cZ cJ cG (lN n) (lN 1) (lN 1000)) (cb_S ht kc_Ref_in kl_Ref_78 kn_Ref ki_Ref_in hd_Ref_in ⟨Nat.le_of_ble_eq_true rfl, Nat.le_of_ble_eq_true rfl⟩) (wd_ct (Bs := [[rf_o h qs cd ma S.T.2.2.1.2.1 ca S.D.2.1.2.1 na S.G.2.2.2.1.2.1 S.D.1.2.1 S.D.2.2.1 S.D.2.2.2.1 S.D.2.2.2.2 S.lost], [(qs 0, .inl (cI, 12, .inl (lI S.eb)))], [(qs 1, .inl (cI, 144, .inl (fl (gN S.lk))))], [(qs 2, .inl (cI, 144, .inl (fl (gN wt))))], [(qs 3, .inl (cZ, 144, .inl (fl (kB S.kn))))], [(qs 4, .inl (cI, 1600, .inl fR))], [(qs 5, .inl (cI, 1600, .inl fN))], [(qs 6, .inl (cJ, 1600, .inr (.inl fL)))], [(qs 7, .inl (cJ, 1600, .inr (.inl fH)))], [(qs 8, .inl (cZ, 1600, .inl (dB uf)))], [(qs 9, .inl (cI, 144, .inl (fl (sI S.T.2.1))))], [(qs 10, .inl (cI, 4000, .inl fM))], [(qs 11, .inl (cJ, 4000, .inr (.inl fC)))], [(qs 12, .inl (cI, 4000, .inl fT))], [(qs 13, .inl (cI, 8, .inl (lI S.G.1)))], [(qs 14, .inl (cI, 8, .inl S.G.2.1))], [(qs 15, .inl (cI, 96, .inl (fl (gN (rT S.G.2.2.1)))))], [(qs 16, .inl (cI, 901, .inl fD))], [(qs 17, .inl (cI, 901, .inl fX))], [(qs 18, .inl (cI, 144, .inl (fl MK)))], [(qs 19, .inl (cI, 144, .inl (fl MF)))]]) 21 rfl [] [0, 1, 2, 3, 4, 5, 6, 7, 8, 9, 10, 11, 12, 13, 14, 15, 16, 17, 18, 19, 20] (by decide) rfl) hK hP hD hS hA rfl hl.1 rfl (Nat.le_of_ble_eq_true rfl) ⟨(show 0 + 0 ≤ 0 by omega), (show 0 + 0 ≤ 0 by omega)⟩ d_Ref_carry_12 (fun rhr107 H locs hr107 hP hD hS => ?_)
    subst hr107
    refine W.eq (g2 := F0 m 15 ls [.int (bI true), .ref h]) (congrArg (fun z => F0 m 15 ls (.int z :: [.ref h])) (congrArg bI (decide_eq_true ⟨(lN_le (by decide) (show n < 2 ^ 31 by omega)).mpr hn1, (lN_le (show n < 2 ^ 31 by omega) (by decide)).mpr hn2⟩))) ?_
    refine ri_ifeqB hx hb d_Ref_carry_15 (tgt := 22) (by decide) (fun h108 => ?_) (fun h108 => ?_)
    · exact absurd h108 (fun z => by cases z)
    · refine lv_iconst (v := nI 0) hx hb d_Ref_carry_18 (by decide) ?_
      refine lv_goto hx hb d_Ref_carry_19 (tgt := 23) (by decide) ?_
      refine va_put (D := D) (ci := 9) (v := .int (nI 0)) (ty := .int) (C := R_Ref) (T := T_Ref) (N := 32) hx hb ht in_Ref t_Ref ok_Ref nm_Ref hown hK hP hD hS 0 rfl rfl 0 (by decide) (ht _ kl_Ref_72) (fun _ h9 => h9) rfl (by decide +kernel) rfl rfl (Nat.le_of_ble_eq_true rfl) d_Ref_carry_23 (fun H locs hP hD hS => ?_)
      have hP : va_P D kls (List.flatten [[rf_o h qs (nI 0) ma S.T.2.2.1.2.1 ca S.D.2.1.2.1 na S.G.2.2.2.1.2.1 S.D.1.2.1 S.D.2.2.1 S.D.2.2.2.1 S.D.2.2.2.2 S.lost], [(qs 0, .inl (cI, 12, .inl (lI S.eb)))], [(qs 1, .inl (cI, 144, .inl (fl (gN S.lk))))], [(qs 2, .inl (cI, 144, .inl (fl (gN wt))))], [(qs 3, .inl (cZ, 144, .inl (fl (kB S.kn))))], [(qs 4, .inl (cI, 1600, .inl fR))], [(qs 5, .inl (cI, 1600, .inl fN))], [(qs 6, .inl (cJ, 1600, .inr (.inl fL)))], [(qs 7, .inl (cJ, 1600, .inr (.inl fH)))], [(qs 8, .inl (cZ, 1600, .inl (dB uf)))], [(qs 9, .inl (cI, 144, .inl (fl (sI S.T.2.1))))], [(qs 10, .inl (cI, 4000, .inl fM))], [(qs 11, .inl (cJ, 4000, .inr (.inl fC)))], [(qs 12, .inl (cI, 4000, .inl fT))], [(qs 13, .inl (cI, 8, .inl (lI S.G.1)))], [(qs 14, .inl (cI, 8, .inl S.G.2.1))], [(qs 15, .inl (cI, 96, .inl (fl (gN (rT S.G.2.2.1)))))], [(qs 16, .inl (cI, 901, .inl fD))], [(qs 17, .inl (cI, 901, .inl fX))], [(qs 18, .inl (cI, 144, .inl (fl MK)))], [(qs 19, .inl (cI, 144, .inl (fl MF)))]]) H := hP
      have hD : va_D A (List.flatten [[rf_o h qs (nI 0) ma S.T.2.2.1.2.1 ca S.D.2.1.2.1 na S.G.2.2.2.1.2.1 S.D.1.2.1 S.D.2.2.1 S.D.2.2.2.1 S.D.2.2.2.2 S.lost], [(qs 0, .inl (cI, 12, .inl (lI S.eb)))], [(qs 1, .inl (cI, 144, .inl (fl (gN S.lk))))], [(qs 2, .inl (cI, 144, .inl (fl (gN wt))))], [(qs 3, .inl (cZ, 144, .inl (fl (kB S.kn))))], [(qs 4, .inl (cI, 1600, .inl fR))], [(qs 5, .inl (cI, 1600, .inl fN))], [(qs 6, .inl (cJ, 1600, .inr (.inl fL)))], [(qs 7, .inl (cJ, 1600, .inr (.inl fH)))], [(qs 8, .inl (cZ, 1600, .inl (dB uf)))], [(qs 9, .inl (cI, 144, .inl (fl (sI S.T.2.1))))], [(qs 10, .inl (cI, 4000, .inl fM))], [(qs 11, .inl (cJ, 4000, .inr (.inl fC)))], [(qs 12, .inl (cI, 4000, .inl fT))], [(qs 13, .inl (cI, 8, .inl (lI S.G.1)))], [(qs 14, .inl (cI, 8, .inl S.G.2.1))], [(qs 15, .inl (cI, 96, .inl (fl (gN (rT S.G.2.2.1)))))], [(qs 16, .inl (cI, 901, .inl fD))], [(qs 17, .inl (cI, 901, .inl fX))], [(qs 18, .inl (cI, 144, .inl (fl MK)))], [(qs 19, .inl (cI, 144, .inl (fl MF)))]]) := hD
      refine lv_aload_n hx hb d_Ref_carry_26 rfl (lv_at hl 0 rfl) ?_
      refine va_get (D := D) (ci := 9) (v := .int (nI 0)) (C := R_Ref) (T := T_Ref) (N := 32) hx hb ht in_Ref hown hK hP 0 rfl rfl 0 (by decide) (ht _ kl_Ref_72) (fun _ h9 => h9) rfl d_Ref_carry_27 ?_
      refine ri_if_le hx hb (by omega) d_Ref_carry_30 (tgt := 35) (by decide) (fun h109 => ?_) (fun h109 => ?_)
      · refine lv_iload_n hx hb d_Ref_carry_35 rfl (lv_at hl 1 rfl) ?_
        refine ri_if_ge hx hb (by omega) d_Ref_carry_36 (tgt := 43) (by decide) (fun h36 => ?_) (fun h36 => ?_)
        · refine lv_iload_n hx hb d_Ref_carry_43 rfl (lv_at hl 1 rfl) ?_
          refine lv_istore_n hx hb d_Ref_carry_44 rfl hl (by decide) rfl (fun ls hl => ?_)
          have hl : lv_has ls 6 [(2, .int (nI n)), (0, .ref h), (1, .int (nI n))] := hl
          refine lv_iconst (v := nI 0) hx hb d_Ref_carry_45 (by decide) ?_
          refine lv_istore_n hx hb d_Ref_carry_46 rfl hl (by decide) rfl (fun ls hl => ?_)
          have hl : lv_has ls 6 [(3, .int (nI 0)), (2, .int (nI n)), (0, .ref h), (1, .int (nI n))] := hl
          exact loop n 0 na H locs ls (by omega) (fun i hi9 => absurd hi9 (by omega)) hN hnt9 hP hD hS (lv_sub hl [0, 1, 2, 3] rfl)
        · exact absurd h36 (by omega)
      · exact absurd h109 (by decide)
set_option maxHeartbeats 1600000 in
set_option maxRecDepth 100000 in
theorem k_Ref_carry_lose (l : Launch) (D : va_G) (cI cZ cJ cG : ClassId) {h : Nat} {cd : Int32} {S : bm_S} {ws : va_W} (hR : rf_R cI cZ cJ h cd S ws) (hi : rf_i S)  : ct_I l D kls (ty4 cI cZ cJ cG) y_Ref_carry ws_Ref_carry (rm_ 1 25 0 0) [.ref h, .int ((-1))] (ws) (fun z u => z = nI (if S.G.2.2.2.1.2.1 = 0 then 0 else 1) ∧ rf_R cI cZ cJ h (nI 0) (bm_close S) u) 0 0 := by
  obtain ⟨qs, ma, ca, na, wt, fR, fN, fL, fH, uf, fM, fC, fT, fD, fX, MK, MF, rfl, hwt, hAd, hM, hC, hN, hPd⟩ := hR
  obtain ⟨hsi, heb, h00, hA9, hm9, hcp9, hnt9, hpk9, hgi⟩ := hi
  have hok := hsi.1
  have hkn9 := hsi.2.1
  have hlk9 := hsi.2.2.1
  have hma := hM.1
  refine ct_enterI (cc := b_Ref_carry) (maxL := 6) (ret := (some .int)) (by decide +kernel) (Nat.le_of_ble_eq_true rfl) ?_
  intro p e s m args below meth c hx hb hml hr ht hown hlk hnm A Q hA hK hP hD hQ ls hl
  have hown : s.vm.findClass R_Ref = some m.cls := hown
  have hS : va_S A s.heap s.heap [] := va_S.rf
  have hl : lv_has ls 6 [(0, .ref h), (1, .int ((-1)))] := hl
  have hrt := hsi.2.2.2.2.1
  refine lv_aload_n hx hb d_Ref_carry_0 rfl (lv_at hl 0 rfl) ?_
  refine lv_iload_n hx hb d_Ref_carry_1 rfl (lv_at hl 1 rfl) ?_
  refine lv_iconst (v := (-1)) hx hb d_Ref_carry_2 (by decide) ?_
  refine lv_icmp_eq hx hb d_Ref_carry_3 (tgt := 18) (by decide) (fun h3 => ?_) (fun h3 => ?_)
  · refine lv_iconst (v := nI 0) hx hb d_Ref_carry_18 (by decide) ?_
    refine lv_goto hx hb d_Ref_carry_19 (tgt := 23) (by decide) ?_
    refine va_put (D := D) (ci := 9) (v := .int (nI 0)) (ty := .int) (C := R_Ref) (T := T_Ref) (N := 32) hx hb ht in_Ref t_Ref ok_Ref nm_Ref hown hK hP hD hS 0 rfl rfl 0 (by decide) (ht _ kl_Ref_72) (fun _ h9 => h9) rfl (by decide +kernel) rfl rfl (Nat.le_of_ble_eq_true rfl) d_Ref_carry_23 (fun H locs hP hD hS => ?_)
    have hP : va_P D kls (List.flatten [[rf_o h qs (nI 0) ma S.T.2.2.1.2.1 ca S.D.2.1.2.1 na S.G.2.2.2.1.2.1 S.D.1.2.1 S.D.2.2.1 S.D.2.2.2.1 S.D.2.2.2.2 S.lost], [(qs 0, .inl (cI, 12, .inl (lI S.eb)))], [(qs 1, .inl (cI, 144, .inl (fl (gN S.lk))))], [(qs 2, .inl (cI, 144, .inl (fl (gN wt))))], [(qs 3, .inl (cZ, 144, .inl (fl (kB S.kn))))], [(qs 4, .inl (cI, 1600, .inl fR))], [(qs 5, .inl (cI, 1600, .inl fN))], [(qs 6, .inl (cJ, 1600, .inr (.inl fL)))], [(qs 7, .inl (cJ, 1600, .inr (.inl fH)))], [(qs 8, .inl (cZ, 1600, .inl (dB uf)))], [(qs 9, .inl (cI, 144, .inl (fl (sI S.T.2.1))))], [(qs 10, .inl (cI, 4000, .inl fM))], [(qs 11, .inl (cJ, 4000, .inr (.inl fC)))], [(qs 12, .inl (cI, 4000, .inl fT))], [(qs 13, .inl (cI, 8, .inl (lI S.G.1)))], [(qs 14, .inl (cI, 8, .inl S.G.2.1))], [(qs 15, .inl (cI, 96, .inl (fl (gN (rT S.G.2.2.1)))))], [(qs 16, .inl (cI, 901, .inl fD))], [(qs 17, .inl (cI, 901, .inl fX))], [(qs 18, .inl (cI, 144, .inl (fl MK)))], [(qs 19, .inl (cI, 144, .inl (fl MF)))]]) H := hP
    have hD : va_D A (List.flatten [[rf_o h qs (nI 0) ma S.T.2.2.1.2.1 ca S.D.2.1.2.1 na S.G.2.2.2.1.2.1 S.D.1.2.1 S.D.2.2.1 S.D.2.2.2.1 S.D.2.2.2.2 S.lost], [(qs 0, .inl (cI, 12, .inl (lI S.eb)))], [(qs 1, .inl (cI, 144, .inl (fl (gN S.lk))))], [(qs 2, .inl (cI, 144, .inl (fl (gN wt))))], [(qs 3, .inl (cZ, 144, .inl (fl (kB S.kn))))], [(qs 4, .inl (cI, 1600, .inl fR))], [(qs 5, .inl (cI, 1600, .inl fN))], [(qs 6, .inl (cJ, 1600, .inr (.inl fL)))], [(qs 7, .inl (cJ, 1600, .inr (.inl fH)))], [(qs 8, .inl (cZ, 1600, .inl (dB uf)))], [(qs 9, .inl (cI, 144, .inl (fl (sI S.T.2.1))))], [(qs 10, .inl (cI, 4000, .inl fM))], [(qs 11, .inl (cJ, 4000, .inr (.inl fC)))], [(qs 12, .inl (cI, 4000, .inl fT))], [(qs 13, .inl (cI, 8, .inl (lI S.G.1)))], [(qs 14, .inl (cI, 8, .inl S.G.2.1))], [(qs 15, .inl (cI, 96, .inl (fl (gN (rT S.G.2.2.1)))))], [(qs 16, .inl (cI, 901, .inl fD))], [(qs 17, .inl (cI, 901, .inl fX))], [(qs 18, .inl (cI, 144, .inl (fl MK)))], [(qs 19, .inl (cI, 144, .inl (fl MF)))]]) := hD
    refine lv_aload_n hx hb d_Ref_carry_26 rfl (lv_at hl 0 rfl) ?_
    refine va_get (D := D) (ci := 9) (v := .int (nI 0)) (C := R_Ref) (T := T_Ref) (N := 32) hx hb ht in_Ref hown hK hP 0 rfl rfl 0 (by decide) (ht _ kl_Ref_72) (fun _ h9 => h9) rfl d_Ref_carry_27 ?_
    refine ri_if_le hx hb (by omega) d_Ref_carry_30 (tgt := 35) (by decide) (fun h102 => ?_) (fun h102 => ?_)
    · refine lv_iload_n hx hb d_Ref_carry_35 rfl (lv_at hl 1 rfl) ?_
      refine lv_if_ge hx hb d_Ref_carry_36 (tgt := 43) (by decide) (fun h36 => ?_) (fun h36 => ?_)
      · exact absurd h36 (by decide)
      · refine lv_iconst (v := nI 1) hx hb d_Ref_carry_39 (by decide) ?_
        refine lv_goto hx hb d_Ref_carry_40 (tgt := 44) (by decide) ?_
        refine lv_istore_n hx hb d_Ref_carry_44 rfl hl (by decide) rfl (fun ls hl => ?_)
        have hl : lv_has ls 6 [(2, .int (nI 1)), (0, .ref h), (1, .int ((-1)))] := hl
        refine lv_iconst (v := nI 0) hx hb d_Ref_carry_45 (by decide) ?_
        refine lv_istore_n hx hb d_Ref_carry_46 rfl hl (by decide) rfl (fun ls hl => ?_)
        have hl : lv_has ls 6 [(3, .int (nI 0)), (2, .int (nI 1)), (0, .ref h), (1, .int ((-1)))] := hl
        refine lv_iload_n hx hb d_Ref_carry_47 rfl (lv_at hl 0 rfl) ?_
        refine lv_iload_n hx hb d_Ref_carry_48 rfl (lv_at hl 1 rfl) ?_
        refine ri_icmp_ge hx hb (by omega) (by omega) d_Ref_carry_49 (tgt := 161) (by decide) (fun h104 => ?_) (fun h104 => ?_)
        · exact absurd h104 (by decide)
        · refine lv_aload_n hx hb d_Ref_carry_52 rfl (lv_at hl 2 rfl) ?_
          refine va_get (D := D) (ci := 9) (v := .int (nI S.G.2.2.2.1.2.1)) (C := R_Ref) (T := T_Ref) (N := 32) hx hb ht in_Ref hown hK hP 0 rfl rfl 18 (by decide) (ht _ kl_Ref_151) (fun _ h9 => h9) rfl d_Ref_carry_53 ?_
          refine ri_if_le hx hb (by omega) d_Ref_carry_56 (tgt := 161) (by decide) (fun h56 => ?_) (fun h56 => ?_)
          · refine lv_iload_n hx hb d_Ref_carry_161 rfl (lv_at hl 0 rfl) ?_
            have hgl : bm_glose S.G = S.G := if_pos (by omega)
            exact ct_iret hQ hx hb hr hlk hP hD hS hK (by omega) (by omega) d_Ref_carry_162 ⟨by rw [if_pos (by omega)], ⟨qs, ma, ca, na, wt, fR, fN, fL, fH, uf, fM, fC, fT, fD, fX, MK, MF, (by unfold bm_close; rw [hgl]; first | done | rfl), hwt, hAd, hM, hC, (by show nr_R _ _ (bm_glose S.G).2.2.2.1; rw [hgl]; exact hN), hPd⟩⟩
          · have hnb := hN.1
            obtain ⟨g, b, t, hg, hb9, ht9, hr0, hr1, hr2, hv⟩ := hN.2 0 (by omega)
            rw [Nat.add_zero, Nat.mod_eq_of_lt hnb] at hv
            refine lv_aload_n hx hb d_Ref_carry_59 rfl (lv_at hl 2 rfl) ?_
            refine va_get (D := D) (ci := 9) (v := .ref (qs 12)) (C := R_Ref) (T := T_Ref) (N := 32) hx hb ht in_Ref hown hK hP 0 rfl rfl 19 (by decide) (ht _ kl_Ref_48) (fun _ h9 => h9) rfl d_Ref_carry_60 ?_
            refine lv_aload_n hx hb d_Ref_carry_63 rfl (lv_at hl 2 rfl) ?_
            refine va_get (D := D) (ci := 9) (v := .int (nI na)) (C := R_Ref) (T := T_Ref) (N := 32) hx hb ht in_Ref hown hK hP 0 rfl rfl 17 (by decide) (ht _ kl_Ref_154) (fun _ h9 => h9) rfl d_Ref_carry_64 ?_
            refine ri_iald hx hb hK hP 13 0 rfl rfl (j := na) (by omega) (by omega) d_Ref_carry_67 ?_
            refine W.eq (g2 := F0 m 68 ls [.int (nI (g * 64 + b * 2 + t))]) (congrArg (fun z => F0 m 68 ls (.int z :: [])) (hv)) ?_
            refine lv_istore hx hb d_Ref_carry_68 hl (by decide) rfl (fun ls hl => ?_)
            have hl : lv_has ls 6 [(4, .int (nI (g * 64 + b * 2 + t))), (3, .int (nI 0)), (2, .int (nI 1)), (0, .ref h), (1, .int ((-1)))] := hl
            refine lv_aload_n hx hb d_Ref_carry_70 rfl (lv_at hl 3 rfl) ?_
            refine lv_aload_n hx hb d_Ref_carry_71 rfl (lv_at hl 3 rfl) ?_
            refine va_get (D := D) (ci := 9) (v := .int (nI na)) (C := R_Ref) (T := T_Ref) (N := 32) hx hb ht in_Ref hown hK hP 0 rfl rfl 17 (by decide) (ht _ kl_Ref_154) (fun _ h9 => h9) rfl d_Ref_carry_72 ?_
            refine lv_iconst (v := nI 1) hx hb d_Ref_carry_75 (by decide) ?_
            refine ri_iadd hx hb d_Ref_carry_76 ?_
            refine lv_sipush (v := nI 4000) hx hb d_Ref_carry_77 (by decide) ?_
            refine ri_irem2 hx hb (by omega) (by omega) (by omega) d_Ref_carry_80 ?_
            refine va_put (D := D) (ci := 9) (v := .int (nI ((na + 1) % 4000))) (ty := .int) (C := R_Ref) (T := T_Ref) (N := 32) hx hb ht in_Ref t_Ref ok_Ref nm_Ref hown hK hP hD hS 0 rfl rfl 17 (by decide) (ht _ kl_Ref_154) (fun _ h9 => h9) rfl (by decide +kernel) rfl rfl (Nat.le_of_ble_eq_true rfl) d_Ref_carry_81 (fun H locs hP hD hS => ?_)
            have hP : va_P D kls (List.flatten [[rf_o h qs (nI 0) ma S.T.2.2.1.2.1 ca S.D.2.1.2.1 ((na + 1) % 4000) S.G.2.2.2.1.2.1 S.D.1.2.1 S.D.2.2.1 S.D.2.2.2.1 S.D.2.2.2.2 S.lost], [(qs 0, .inl (cI, 12, .inl (lI S.eb)))], [(qs 1, .inl (cI, 144, .inl (fl (gN S.lk))))], [(qs 2, .inl (cI, 144, .inl (fl (gN wt))))], [(qs 3, .inl (cZ, 144, .inl (fl (kB S.kn))))], [(qs 4, .inl (cI, 1600, .inl fR))], [(qs 5, .inl (cI, 1600, .inl fN))], [(qs 6, .inl (cJ, 1600, .inr (.inl fL)))], [(qs 7, .inl (cJ, 1600, .inr (.inl fH)))], [(qs 8, .inl (cZ, 1600, .inl (dB uf)))], [(qs 9, .inl (cI, 144, .inl (fl (sI S.T.2.1))))], [(qs 10, .inl (cI, 4000, .inl fM))], [(qs 11, .inl (cJ, 4000, .inr (.inl fC)))], [(qs 12, .inl (cI, 4000, .inl fT))], [(qs 13, .inl (cI, 8, .inl (lI S.G.1)))], [(qs 14, .inl (cI, 8, .inl S.G.2.1))], [(qs 15, .inl (cI, 96, .inl (fl (gN (rT S.G.2.2.1)))))], [(qs 16, .inl (cI, 901, .inl fD))], [(qs 17, .inl (cI, 901, .inl fX))], [(qs 18, .inl (cI, 144, .inl (fl MK)))], [(qs 19, .inl (cI, 144, .inl (fl MF)))]]) H := hP
            have hD : va_D A (List.flatten [[rf_o h qs (nI 0) ma S.T.2.2.1.2.1 ca S.D.2.1.2.1 ((na + 1) % 4000) S.G.2.2.2.1.2.1 S.D.1.2.1 S.D.2.2.1 S.D.2.2.2.1 S.D.2.2.2.2 S.lost], [(qs 0, .inl (cI, 12, .inl (lI S.eb)))], [(qs 1, .inl (cI, 144, .inl (fl (gN S.lk))))], [(qs 2, .inl (cI, 144, .inl (fl (gN wt))))], [(qs 3, .inl (cZ, 144, .inl (fl (kB S.kn))))], [(qs 4, .inl (cI, 1600, .inl fR))], [(qs 5, .inl (cI, 1600, .inl fN))], [(qs 6, .inl (cJ, 1600, .inr (.inl fL)))], [(qs 7, .inl (cJ, 1600, .inr (.inl fH)))], [(qs 8, .inl (cZ, 1600, .inl (dB uf)))], [(qs 9, .inl (cI, 144, .inl (fl (sI S.T.2.1))))], [(qs 10, .inl (cI, 4000, .inl fM))], [(qs 11, .inl (cJ, 4000, .inr (.inl fC)))], [(qs 12, .inl (cI, 4000, .inl fT))], [(qs 13, .inl (cI, 8, .inl (lI S.G.1)))], [(qs 14, .inl (cI, 8, .inl S.G.2.1))], [(qs 15, .inl (cI, 96, .inl (fl (gN (rT S.G.2.2.1)))))], [(qs 16, .inl (cI, 901, .inl fD))], [(qs 17, .inl (cI, 901, .inl fX))], [(qs 18, .inl (cI, 144, .inl (fl MK)))], [(qs 19, .inl (cI, 144, .inl (fl MF)))]]) := hD
            refine lv_aload_n hx hb d_Ref_carry_84 rfl (lv_at hl 3 rfl) ?_
            refine lv_dup hx hb d_Ref_carry_85 rfl ?_
            refine va_get (D := D) (ci := 9) (v := .int (nI S.G.2.2.2.1.2.1)) (C := R_Ref) (T := T_Ref) (N := 32) hx hb ht in_Ref hown hK hP 0 rfl rfl 18 (by decide) (ht _ kl_Ref_151) (fun _ h9 => h9) rfl d_Ref_carry_86 ?_
            refine lv_iconst (v := nI 1) hx hb d_Ref_carry_89 (by decide) ?_
            refine ri_isub hx hb (by omega) d_Ref_carry_90 ?_
            refine va_put (D := D) (ci := 9) (v := .int (nI (S.G.2.2.2.1.2.1 - 1))) (ty := .int) (C := R_Ref) (T := T_Ref) (N := 32) hx hb ht in_Ref t_Ref ok_Ref nm_Ref hown hK hP hD hS 0 rfl rfl 18 (by decide) (ht _ kl_Ref_151) (fun _ h9 => h9) rfl (by decide +kernel) rfl rfl (Nat.le_of_ble_eq_true rfl) d_Ref_carry_91 (fun H locs hP hD hS => ?_)
            have hP : va_P D kls (List.flatten [[rf_o h qs (nI 0) ma S.T.2.2.1.2.1 ca S.D.2.1.2.1 ((na + 1) % 4000) (S.G.2.2.2.1.2.1 - 1) S.D.1.2.1 S.D.2.2.1 S.D.2.2.2.1 S.D.2.2.2.2 S.lost], [(qs 0, .inl (cI, 12, .inl (lI S.eb)))], [(qs 1, .inl (cI, 144, .inl (fl (gN S.lk))))], [(qs 2, .inl (cI, 144, .inl (fl (gN wt))))], [(qs 3, .inl (cZ, 144, .inl (fl (kB S.kn))))], [(qs 4, .inl (cI, 1600, .inl fR))], [(qs 5, .inl (cI, 1600, .inl fN))], [(qs 6, .inl (cJ, 1600, .inr (.inl fL)))], [(qs 7, .inl (cJ, 1600, .inr (.inl fH)))], [(qs 8, .inl (cZ, 1600, .inl (dB uf)))], [(qs 9, .inl (cI, 144, .inl (fl (sI S.T.2.1))))], [(qs 10, .inl (cI, 4000, .inl fM))], [(qs 11, .inl (cJ, 4000, .inr (.inl fC)))], [(qs 12, .inl (cI, 4000, .inl fT))], [(qs 13, .inl (cI, 8, .inl (lI S.G.1)))], [(qs 14, .inl (cI, 8, .inl S.G.2.1))], [(qs 15, .inl (cI, 96, .inl (fl (gN (rT S.G.2.2.1)))))], [(qs 16, .inl (cI, 901, .inl fD))], [(qs 17, .inl (cI, 901, .inl fX))], [(qs 18, .inl (cI, 144, .inl (fl MK)))], [(qs 19, .inl (cI, 144, .inl (fl MF)))]]) H := hP
            have hD : va_D A (List.flatten [[rf_o h qs (nI 0) ma S.T.2.2.1.2.1 ca S.D.2.1.2.1 ((na + 1) % 4000) (S.G.2.2.2.1.2.1 - 1) S.D.1.2.1 S.D.2.2.1 S.D.2.2.2.1 S.D.2.2.2.2 S.lost], [(qs 0, .inl (cI, 12, .inl (lI S.eb)))], [(qs 1, .inl (cI, 144, .inl (fl (gN S.lk))))], [(qs 2, .inl (cI, 144, .inl (fl (gN wt))))], [(qs 3, .inl (cZ, 144, .inl (fl (kB S.kn))))], [(qs 4, .inl (cI, 1600, .inl fR))], [(qs 5, .inl (cI, 1600, .inl fN))], [(qs 6, .inl (cJ, 1600, .inr (.inl fL)))], [(qs 7, .inl (cJ, 1600, .inr (.inl fH)))], [(qs 8, .inl (cZ, 1600, .inl (dB uf)))], [(qs 9, .inl (cI, 144, .inl (fl (sI S.T.2.1))))], [(qs 10, .inl (cI, 4000, .inl fM))], [(qs 11, .inl (cJ, 4000, .inr (.inl fC)))], [(qs 12, .inl (cI, 4000, .inl fT))], [(qs 13, .inl (cI, 8, .inl (lI S.G.1)))], [(qs 14, .inl (cI, 8, .inl S.G.2.1))], [(qs 15, .inl (cI, 96, .inl (fl (gN (rT S.G.2.2.1)))))], [(qs 16, .inl (cI, 901, .inl fD))], [(qs 17, .inl (cI, 901, .inl fX))], [(qs 18, .inl (cI, 144, .inl (fl MK)))], [(qs 19, .inl (cI, 144, .inl (fl MF)))]]) := hD
            refine ri_iinc hx hb d_Ref_carry_94 hl (k := 1) rfl (by decide) rfl (fun ls hl => ?_)
            have hl : lv_has ls 6 [(3, .int (nI (0 + 1))), (4, .int (nI (g * 64 + b * 2 + t))), (2, .int (nI 1)), (0, .ref h), (1, .int ((-1)))] := hl
            have hl : lv_has ls 6 [(3, .int (nI 1)), (4, .int (nI (g * 64 + b * 2 + t))), (2, .int (nI 1)), (0, .ref h), (1, .int ((-1)))] := hl
            refine lv_iconst (v := nI 1) hx hb d_Ref_carry_97 (by decide) ?_
            refine lv_iload hx hb d_Ref_carry_98 (lv_at hl 1 rfl) ?_
            refine lv_iconst (v := nI 1) hx hb d_Ref_carry_100 (by decide) ?_
            refine ri_ishr2 hx hb (by omega) (by omega) d_Ref_carry_101 ?_
            refine lv_bipush (v := nI 31) hx hb d_Ref_carry_102 (by decide) ?_
            refine ri_iand2 hx hb d_Ref_carry_104 ?_
            refine W.eq (g2 := F0 m 105 ls [.int (nI b), .int (nI 1)]) (congrArg (fun z => F0 m 105 ls (.int z :: [.int (nI 1)])) (congrArg nI (nt_b hb9 ht9))) ?_
            refine lv_ishl hx hb d_Ref_carry_105 ?_
            refine W.eq (g2 := F0 m 106 ls [.int (bm_em (some b))]) (congrArg (fun z => F0 m 106 ls (.int z :: [])) (rfl)) ?_
            refine lv_istore hx hb d_Ref_carry_106 hl (by decide) rfl (fun ls hl => ?_)
            have hl : lv_has ls 6 [(5, .int (bm_em (some b))), (3, .int (nI 1)), (4, .int (nI (g * 64 + b * 2 + t))), (2, .int (nI 1)), (0, .ref h), (1, .int ((-1)))] := hl
            refine lv_iload_n hx hb d_Ref_carry_108 rfl (lv_at hl 5 rfl) ?_
            refine lv_if_ge hx hb d_Ref_carry_109 (tgt := 115) (by decide) (fun h109 => ?_) (fun h109 => ?_)
            · exact absurd h109 (by decide)
            · refine lv_goto hx hb d_Ref_carry_112 (tgt := 47) (by decide) ?_
              refine lv_iload_n hx hb d_Ref_carry_47 rfl (lv_at hl 1 rfl) ?_
              refine lv_iload_n hx hb d_Ref_carry_48 rfl (lv_at hl 3 rfl) ?_
              refine ri_icmp_ge hx hb (by omega) (by omega) d_Ref_carry_49 (tgt := 161) (by decide) (fun h107 => ?_) (fun h107 => ?_)
              · refine lv_iload_n hx hb d_Ref_carry_161 rfl (lv_at hl 1 rfl) ?_
                have hgl : bm_glose S.G = bm_gdrop (bm_gof S.G) S.G := if_neg (by omega)
                exact ct_iret hQ hx hb hr hlk hP hD hS hK (by omega) (by omega) d_Ref_carry_162 ⟨by rw [if_neg (by omega)], ⟨qs, ma, ca, ((na + 1) % 4000), wt, fR, fN, fL, fH, uf, fM, fC, fT, fD, fX, MK, MF, (by unfold bm_close; rw [hgl]; first | done | rfl), hwt, hAd, hM, hC, (by show nr_R _ _ (bm_glose S.G).2.2.2.1; rw [hgl]; exact nr_drop hN), hPd⟩⟩
              · exact absurd h107 (by decide)
    · exact absurd h102 (by decide)
  · exact absurd h3 (fun z => z rfl)
set_option maxHeartbeats 1600000 in
set_option maxRecDepth 100000 in
theorem n_Ref_carry (l : Launch) (D : va_G) (cI cZ cJ cG : ClassId) {h : Nat} {cd : Int32} {S : bm_S} {ws : va_W} (hR : rf_R cI cZ cJ h cd S ws) (hi : rf_i S) (x : Int32) (hm1 : x ≠ -1) (hno : rg 1 1001 x = false) : ct_I l D kls (ty4 cI cZ cJ cG) y_Ref_carry ws_Ref_carry (rm_ 1 25 0 0) [.ref h, .int x] (ws) (fun z u => rf_R cI cZ cJ h (nI 1) S u) 0 0 := by
  obtain ⟨qs, ma, ca, na, wt, fR, fN, fL, fH, uf, fM, fC, fT, fD, fX, MK, MF, rfl, hwt, hAd, hM, hC, hN, hPd⟩ := hR
  obtain ⟨hsi, heb, h00, hA9, hm9, hcp9, hnt9, hpk9, hgi⟩ := hi
  have hok := hsi.1
  have hkn9 := hsi.2.1
  have hlk9 := hsi.2.2.1
  have hma := hM.1
  refine ct_enterI (cc := b_Ref_carry) (maxL := 6) (ret := (some .int)) (by decide +kernel) (Nat.le_of_ble_eq_true rfl) ?_
  intro p e s m args below meth c hx hb hml hr ht hown hlk hnm A Q hA hK hP hD hQ ls hl
  have hown : s.vm.findClass R_Ref = some m.cls := hown
  have hS : va_S A s.heap s.heap [] := va_S.rf
  have hl : lv_has ls 6 [(0, .ref h), (1, .int x)] := hl
  have hrt := hsi.2.2.2.2.1
  refine lv_aload_n hx hb d_Ref_carry_0 rfl (lv_at hl 0 rfl) ?_
  refine lv_iload_n hx hb d_Ref_carry_1 rfl (lv_at hl 1 rfl) ?_
  refine lv_iconst (v := (-1)) hx hb d_Ref_carry_2 (by decide) ?_
  refine lv_icmp_eq hx hb d_Ref_carry_3 (tgt := 18) (by decide) (fun h3 => ?_) (fun h3 => ?_)
  · exact absurd h3 (hm1)
  · refine lv_iload_n hx hb d_Ref_carry_6 rfl (lv_at hl 1 rfl) ?_
    refine lv_i2l (v := x.toInt64) hx hb d_Ref_carry_7 rfl ?_
    refine lv_lconst (v := lN 1) hx hb d_Ref_carry_8 rfl ?_
    refine lv_ldc2 (v := lN 1000) hx hb hown (ht _ kl_Ref_116) d_Ref_carry_9 ?_
    refine ct_rdS (As := [.long x.toInt64, .long (lN 1), .long (lN 1000)]) (rest := [.ref h]) ⟨hx, hb, hml, hown, ht⟩ (k_Ref_in l D cI cZ cJ cG (x).toInt64 (lN 1) (lN 1000)) (cb_S ht kc_Ref_in kl_Ref_78 kn_Ref ki_Ref_in hd_Ref_in ⟨Nat.le_of_ble_eq_true rfl, Nat.le_of_ble_eq_true rfl⟩) (wd_ct (Bs := [[rf_o h qs cd ma S.T.2.2.1.2.1 ca S.D.2.1.2.1 na S.G.2.2.2.1.2.1 S.D.1.2.1 S.D.2.2.1 S.D.2.2.2.1 S.D.2.2.2.2 S.lost], [(qs 0, .inl (cI, 12, .inl (lI S.eb)))], [(qs 1, .inl (cI, 144, .inl (fl (gN S.lk))))], [(qs 2, .inl (cI, 144, .inl (fl (gN wt))))], [(qs 3, .inl (cZ, 144, .inl (fl (kB S.kn))))], [(qs 4, .inl (cI, 1600, .inl fR))], [(qs 5, .inl (cI, 1600, .inl fN))], [(qs 6, .inl (cJ, 1600, .inr (.inl fL)))], [(qs 7, .inl (cJ, 1600, .inr (.inl fH)))], [(qs 8, .inl (cZ, 1600, .inl (dB uf)))], [(qs 9, .inl (cI, 144, .inl (fl (sI S.T.2.1))))], [(qs 10, .inl (cI, 4000, .inl fM))], [(qs 11, .inl (cJ, 4000, .inr (.inl fC)))], [(qs 12, .inl (cI, 4000, .inl fT))], [(qs 13, .inl (cI, 8, .inl (lI S.G.1)))], [(qs 14, .inl (cI, 8, .inl S.G.2.1))], [(qs 15, .inl (cI, 96, .inl (fl (gN (rT S.G.2.2.1)))))], [(qs 16, .inl (cI, 901, .inl fD))], [(qs 17, .inl (cI, 901, .inl fX))], [(qs 18, .inl (cI, 144, .inl (fl MK)))], [(qs 19, .inl (cI, 144, .inl (fl MF)))]]) 21 rfl [] [0, 1, 2, 3, 4, 5, 6, 7, 8, 9, 10, 11, 12, 13, 14, 15, 16, 17, 18, 19, 20] (by decide) rfl) hK hP hD hS hA rfl hl.1 rfl (Nat.le_of_ble_eq_true rfl) ⟨(show 0 + 0 ≤ 0 by omega), (show 0 + 0 ≤ 0 by omega)⟩ d_Ref_carry_12 (fun rhr102 H locs hr102 hP hD hS => ?_)
    subst hr102
    refine W.eq (g2 := F0 m 15 ls [.int (bI (rg 1 1001 (x))), .ref h]) (congrArg (fun z => F0 m 15 ls (.int z :: [.ref h])) (congrArg bI (in_rg (a := 1) (b := 1000) (by decide) (by decide) (x)))) ?_
    refine W.eq (g2 := F0 m 15 ls [.int (bI false), .ref h]) (congrArg (fun z => F0 m 15 ls (.int z :: [.ref h])) (congrArg bI hno)) ?_
    refine ri_ifeqB hx hb d_Ref_carry_15 (tgt := 22) (by decide) (fun h103 => ?_) (fun h103 => ?_)
    · refine lv_iconst (v := nI 1) hx hb d_Ref_carry_22 (by decide) ?_
      refine va_put (D := D) (ci := 9) (v := .int (nI 1)) (ty := .int) (C := R_Ref) (T := T_Ref) (N := 32) hx hb ht in_Ref t_Ref ok_Ref nm_Ref hown hK hP hD hS 0 rfl rfl 0 (by decide) (ht _ kl_Ref_72) (fun _ h9 => h9) rfl (by decide +kernel) rfl rfl (Nat.le_of_ble_eq_true rfl) d_Ref_carry_23 (fun H locs hP hD hS => ?_)
      have hP : va_P D kls (List.flatten [[rf_o h qs (nI 1) ma S.T.2.2.1.2.1 ca S.D.2.1.2.1 na S.G.2.2.2.1.2.1 S.D.1.2.1 S.D.2.2.1 S.D.2.2.2.1 S.D.2.2.2.2 S.lost], [(qs 0, .inl (cI, 12, .inl (lI S.eb)))], [(qs 1, .inl (cI, 144, .inl (fl (gN S.lk))))], [(qs 2, .inl (cI, 144, .inl (fl (gN wt))))], [(qs 3, .inl (cZ, 144, .inl (fl (kB S.kn))))], [(qs 4, .inl (cI, 1600, .inl fR))], [(qs 5, .inl (cI, 1600, .inl fN))], [(qs 6, .inl (cJ, 1600, .inr (.inl fL)))], [(qs 7, .inl (cJ, 1600, .inr (.inl fH)))], [(qs 8, .inl (cZ, 1600, .inl (dB uf)))], [(qs 9, .inl (cI, 144, .inl (fl (sI S.T.2.1))))], [(qs 10, .inl (cI, 4000, .inl fM))], [(qs 11, .inl (cJ, 4000, .inr (.inl fC)))], [(qs 12, .inl (cI, 4000, .inl fT))], [(qs 13, .inl (cI, 8, .inl (lI S.G.1)))], [(qs 14, .inl (cI, 8, .inl S.G.2.1))], [(qs 15, .inl (cI, 96, .inl (fl (gN (rT S.G.2.2.1)))))], [(qs 16, .inl (cI, 901, .inl fD))], [(qs 17, .inl (cI, 901, .inl fX))], [(qs 18, .inl (cI, 144, .inl (fl MK)))], [(qs 19, .inl (cI, 144, .inl (fl MF)))]]) H := hP
      have hD : va_D A (List.flatten [[rf_o h qs (nI 1) ma S.T.2.2.1.2.1 ca S.D.2.1.2.1 na S.G.2.2.2.1.2.1 S.D.1.2.1 S.D.2.2.1 S.D.2.2.2.1 S.D.2.2.2.2 S.lost], [(qs 0, .inl (cI, 12, .inl (lI S.eb)))], [(qs 1, .inl (cI, 144, .inl (fl (gN S.lk))))], [(qs 2, .inl (cI, 144, .inl (fl (gN wt))))], [(qs 3, .inl (cZ, 144, .inl (fl (kB S.kn))))], [(qs 4, .inl (cI, 1600, .inl fR))], [(qs 5, .inl (cI, 1600, .inl fN))], [(qs 6, .inl (cJ, 1600, .inr (.inl fL)))], [(qs 7, .inl (cJ, 1600, .inr (.inl fH)))], [(qs 8, .inl (cZ, 1600, .inl (dB uf)))], [(qs 9, .inl (cI, 144, .inl (fl (sI S.T.2.1))))], [(qs 10, .inl (cI, 4000, .inl fM))], [(qs 11, .inl (cJ, 4000, .inr (.inl fC)))], [(qs 12, .inl (cI, 4000, .inl fT))], [(qs 13, .inl (cI, 8, .inl (lI S.G.1)))], [(qs 14, .inl (cI, 8, .inl S.G.2.1))], [(qs 15, .inl (cI, 96, .inl (fl (gN (rT S.G.2.2.1)))))], [(qs 16, .inl (cI, 901, .inl fD))], [(qs 17, .inl (cI, 901, .inl fX))], [(qs 18, .inl (cI, 144, .inl (fl MK)))], [(qs 19, .inl (cI, 144, .inl (fl MF)))]]) := hD
      refine lv_aload_n hx hb d_Ref_carry_26 rfl (lv_at hl 0 rfl) ?_
      refine va_get (D := D) (ci := 9) (v := .int (nI 1)) (C := R_Ref) (T := T_Ref) (N := 32) hx hb ht in_Ref hown hK hP 0 rfl rfl 0 (by decide) (ht _ kl_Ref_72) (fun _ h9 => h9) rfl d_Ref_carry_27 ?_
      refine ri_if_le hx hb (by omega) d_Ref_carry_30 (tgt := 35) (by decide) (fun h104 => ?_) (fun h104 => ?_)
      · exact absurd h104 (by decide)
      · refine lv_iconst (v := nI 0) hx hb d_Ref_carry_33 (by decide) ?_
        exact ct_iret hQ hx hb hr hlk hP hD hS hK (by omega) (by omega) d_Ref_carry_34 (⟨qs, ma, ca, na, wt, fR, fN, fL, fH, uf, fM, fC, fT, fD, fX, MK, MF, rfl, hwt, hAd, hM, hC, hN, hPd⟩)
    · exact absurd h103 (fun z => by cases z)
