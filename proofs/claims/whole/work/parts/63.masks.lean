/-! Routes: masks, the spare neighbour. -/
theorem bn_len_none {w : Nat → Nat → Nat} {r d : Nat} (h : bn_len w r d = none) : bn_nh w r d = none := by
  unfold bn_len at h
  unfold bn_nh
  split at h
  · rename_i c
    rw [if_pos c]
  · cases h
theorem bn_len_some {w : Nat → Nat → Nat} {r d x : Nat} (h : bn_len w r d = some x) : bn_far w r d = x ∧ x < 1000000 := by
  unfold bn_len at h
  split at h
  · cases h
  · rename_i c
    have : bn_far w r d = x := Option.some.inj h
    exact ⟨this, by omega⟩
/-- the masks that are kept are right where they are said to be of now -/
def bm_cache (Ad hd : Nat → Nat → Nat) (ch : Nat → Nat) (eb : Nat → Option Nat) (es : Nat) (mk : Nat → Nat → Int32) (ra : Nat → Nat) : Prop :=
  ∀ r, r < 12 → ra r ≤ ch r + es ∧ (ra r = ch r + es → ∀ n, n < 12 → mk r n = bm_mask (vw0 Ad hd r) eb r n 12)
set_option maxHeartbeats 4000000 in
set_option maxRecDepth 100000 in
theorem c_Routes_reckonMasks (l : Launch) (D : va_G) (cI cZ cJ cG : ClassId) (h aS aE gm qr gw ql qf qd : Nat) (rm rw : Nat → Nat) (mk : Nat → Nat → Int32) (ra : Nat → Nat) (M : Nat → Nat → Int32) (L : Nat → Option Nat) (Hh : Nat → Nat) (Nn : Nat → Bool) {T1 : bm_M Nat} {hd : Nat → Nat → Nat} {ch : Nat → Nat} {wS : va_W} {eb : Nat → Option Nat} {t9 n9 : Int32} {wE : va_W} (kS : so_R cI cG aS T1 hd ch wS) (kE : ed_R cI aE eb t9 n9 wE) (r : Nat) (hr9 : r < 12) (hh : ∀ x, x < 12 → hd r x < T1.2.1) (hA1 : ∀ i j, i < T1.2.1 → j < 12 → T1.2.2 i (2 + j) ≤ 1000) (hw0 : ∀ x, vw0 T1.2.2 hd r x x = 0) (hwb : ∀ a b, vw0 T1.2.2 hd r a b ≤ 1023) : ct_V l D kls (ty4 cI cZ cJ cG) y_Routes_reckonMasks ws_Routes_reckonMasks (rm_ 3 71 0 0) [.ref h, .int (nI r)] (List.flatten [[(h, .inr (5, [.ref aS, .ref aE, .ref gm, .ref qr, .ref gw, .ref ql, .ref qf, .ref qd]))], [(gm, .inl (cG, 12, .inr (.inr (.inr (.inr (go rm))))))], [(qr, .inl (cI, 12, .inl (cN ra)))], [(gw, .inl (cG, 12, .inr (.inr (.inr (.inr (go rw))))))], [(ql, .inl (cI, 12, .inl (lI L)))], [(qf, .inl (cI, 12, .inl (cN Hh)))], [(qd, .inl (cZ, 12, .inl (dB Nn)))], gd cI 12 rm mk, gd cI 12 rw M, wS, wE]) (fun u => ∃ mk2 M2 L2 H2 N2, u = List.flatten [[(h, .inr (5, [.ref aS, .ref aE, .ref gm, .ref qr, .ref gw, .ref ql, .ref qf, .ref qd]))], [(gm, .inl (cG, 12, .inr (.inr (.inr (.inr (go rm))))))], [(qr, .inl (cI, 12, .inl (cN ra)))], [(gw, .inl (cG, 12, .inr (.inr (.inr (.inr (go rw))))))], [(ql, .inl (cI, 12, .inl (lI L2)))], [(qf, .inl (cI, 12, .inl (cN H2)))], [(qd, .inl (cZ, 12, .inl (dB N2)))], gd cI 12 rm mk2, gd cI 12 rw M2, wS, wE] ∧ (∀ n, n < 12 → mk2 r n = bm_mask (vw0 T1.2.2 hd r) eb r n 12) ∧ ∀ a n, a ≠ r → mk2 a n = mk a n) 0 0 := by
  obtain ⟨fsS, mS⟩ := kS.mem
  obtain ⟨fsE, mE⟩ := kE.mem
  refine ct_enterV (cc := b_Routes_reckonMasks) (maxL := 3) (ret := none) (by decide +kernel) (Nat.le_of_ble_eq_true rfl) ?_
  intro p e s m args below meth c hx hb hml hr ht hown hlk hnm A Q hA hK hP hD hQ ls hl
  have hown : s.vm.findClass R_Routes = some m.cls := hown
  have hS : va_S A s.heap s.heap [] := va_S.rf
  have hl : lv_has ls 3 [(0, .ref h), (1, .int (nI r))] := hl
  refine lv_aload_n hx hb d_Routes_reckonMasks_0 rfl (lv_at hl 0 rfl) ?_
  refine va_get (D := D) (ci := 5) (v := .ref aS) (C := R_Routes) (T := T_Routes) (N := 8) hx hb ht in_Routes hown hK hP 0 rfl rfl 0 (by decide) (ht _ kl_Routes_33) (fun _ h9 => h9) rfl d_Routes_reckonMasks_1 ?_
  refine lv_iload_n hx hb d_Routes_reckonMasks_4 rfl (lv_at hl 1 rfl) ?_
  refine lv_aload_n hx hb d_Routes_reckonMasks_5 rfl (lv_at hl 0 rfl) ?_
  refine va_get (D := D) (ci := 5) (v := .ref gw) (C := R_Routes) (T := T_Routes) (N := 8) hx hb ht in_Routes hown hK hP 0 rfl rfl 4 (by decide) (ht _ kl_Routes_20) (fun _ h9 => h9) rfl d_Routes_reckonMasks_6 ?_
  refine ct_callVV (C := R_Stores) (ci := 3) (As := [.int (nI r), .ref gw]) (rest := []) ⟨hx, hb, hml, hown, ht⟩ (k_Stores_writeView l D cI cZ cJ cG kS gw rw M r hr9 hh hA1) (cb_V ht kc_Stores_writeView kl_Routes_57 kn_Stores ki_Stores_writeView ks_Stores_writeView hd_Stores_writeView ⟨Nat.le_of_ble_eq_true rfl, Nat.le_of_ble_eq_true rfl⟩) (wd_mem 9 rfl mS) rfl rfl (wd_ct (Bs := [[(h, .inr (5, [.ref aS, .ref aE, .ref gm, .ref qr, .ref gw, .ref ql, .ref qf, .ref qd]))], [(gm, .inl (cG, 12, .inr (.inr (.inr (.inr (go rm))))))], [(qr, .inl (cI, 12, .inl (cN ra)))], [(gw, .inl (cG, 12, .inr (.inr (.inr (.inr (go rw))))))], [(ql, .inl (cI, 12, .inl (lI L)))], [(qf, .inl (cI, 12, .inl (cN Hh)))], [(qd, .inl (cZ, 12, .inl (dB Nn)))], gd cI 12 rm mk, gd cI 12 rw M, wS, wE]) 11 rfl [9, 3, 8] [0, 1, 2, 4, 5, 6, 7, 10] (by decide) rfl) hK hP hD hS hA rfl hl.1 rfl (Nat.le_of_ble_eq_true rfl) ⟨(show 0 + 0 ≤ 0 by omega), (show 0 + 0 ≤ 0 by omega)⟩ d_Routes_reckonMasks_9 (fun u1 H locs hu1 hP hD hS => ?_)
  subst hu1
  refine W.widen (k := 0) (n := 0) (Nat.le_refl _) (Nat.le_refl _) ?_
  have hP := wd_nP (N := [wS, [(gw, .inl (cG, 12, .inr (.inr (.inr (.inr (go rw))))))], gd cI 12 rw (gN (vw0 T1.2.2 hd r))]) rfl 11 rfl [3, 4, 5, 1, 6, 7, 8, 9, 2, 0, 10] (by decide) hP
  have hD := wd_nD (N := [wS, [(gw, .inl (cG, 12, .inr (.inr (.inr (.inr (go rw))))))], gd cI 12 rw (gN (vw0 T1.2.2 hd r))]) rfl 11 rfl [3, 4, 5, 1, 6, 7, 8, 9, 2, 0, 10] (by decide) hD
  have hP : va_P D kls (List.flatten [[(h, .inr (5, [.ref aS, .ref aE, .ref gm, .ref qr, .ref gw, .ref ql, .ref qf, .ref qd]))], [(gm, .inl (cG, 12, .inr (.inr (.inr (.inr (go rm))))))], [(qr, .inl (cI, 12, .inl (cN ra)))], [(gw, .inl (cG, 12, .inr (.inr (.inr (.inr (go rw))))))], [(ql, .inl (cI, 12, .inl (lI L)))], [(qf, .inl (cI, 12, .inl (cN Hh)))], [(qd, .inl (cZ, 12, .inl (dB Nn)))], gd cI 12 rm mk, gd cI 12 rw (gN (vw0 T1.2.2 hd r)), wS, wE]) H := hP
  have hD : va_D A (List.flatten [[(h, .inr (5, [.ref aS, .ref aE, .ref gm, .ref qr, .ref gw, .ref ql, .ref qf, .ref qd]))], [(gm, .inl (cG, 12, .inr (.inr (.inr (.inr (go rm))))))], [(qr, .inl (cI, 12, .inl (cN ra)))], [(gw, .inl (cG, 12, .inr (.inr (.inr (.inr (go rw))))))], [(ql, .inl (cI, 12, .inl (lI L)))], [(qf, .inl (cI, 12, .inl (cN Hh)))], [(qd, .inl (cZ, 12, .inl (dB Nn)))], gd cI 12 rm mk, gd cI 12 rw (gN (vw0 T1.2.2 hd r)), wS, wE]) := hD
  refine W.eq (g2 := F0 m 12 ls []) rfl ?_
  refine lv_aload_n hx hb d_Routes_reckonMasks_12 rfl (lv_at hl 0 rfl) ?_
  refine lv_iload_n hx hb d_Routes_reckonMasks_13 rfl (lv_at hl 1 rfl) ?_
  refine ct_callVV (C := R_Routes) (ci := 5) (As := [.int (nI r)]) (rest := []) ⟨hx, hb, hml, hown, ht⟩ (c_Routes_reckonWaysFrom l D cI cZ cJ cG h aS aE gm qr gw ql qf qd rw (vw0 T1.2.2 hd r) L Hh Nn r hr9 hw0 hwb) (cb_V ht kc_Routes_reckonWaysFrom kl_Routes_61 kn_Routes ki_Routes_reckonWaysFrom ks_Routes_reckonWaysFrom hd_Routes_reckonWaysFrom ⟨Nat.le_of_ble_eq_true rfl, Nat.le_of_ble_eq_true rfl⟩) (List.mem_of_getElem? (i := 0) rfl) rfl rfl (wd_ct (Bs := [[(h, .inr (5, [.ref aS, .ref aE, .ref gm, .ref qr, .ref gw, .ref ql, .ref qf, .ref qd]))], [(gm, .inl (cG, 12, .inr (.inr (.inr (.inr (go rm))))))], [(qr, .inl (cI, 12, .inl (cN ra)))], [(gw, .inl (cG, 12, .inr (.inr (.inr (.inr (go rw))))))], [(ql, .inl (cI, 12, .inl (lI L)))], [(qf, .inl (cI, 12, .inl (cN Hh)))], [(qd, .inl (cZ, 12, .inl (dB Nn)))], gd cI 12 rm mk, gd cI 12 rw (gN (vw0 T1.2.2 hd r)), wS, wE]) 11 rfl [0, 3, 4, 5, 6, 8] [1, 2, 7, 9, 10] (by decide) rfl) hK hP hD hS hA rfl hl.1 rfl (Nat.le_of_ble_eq_true rfl) ⟨(show 0 + 0 ≤ 0 by omega), (show 0 + 0 ≤ 0 by omega)⟩ d_Routes_reckonMasks_14 (fun u2 H locs hu2 hP hD hS => ?_)
  obtain ⟨L2, H2, N2, rfl, eL2, eH2, bH2, bL2⟩ := hu2
  refine W.widen (k := 0) (n := 0) (Nat.le_refl _) (Nat.le_refl _) ?_
  have hP := wd_nP (N := [[(h, .inr (5, [.ref aS, .ref aE, .ref gm, .ref qr, .ref gw, .ref ql, .ref qf, .ref qd]))], [(gw, .inl (cG, 12, .inr (.inr (.inr (.inr (go rw))))))], [(ql, .inl (cI, 12, .inl (lI L2)))], [(qf, .inl (cI, 12, .inl (cN H2)))], [(qd, .inl (cZ, 12, .inl (dB N2)))], gd cI 12 rw (gN (vw0 T1.2.2 hd r))]) rfl 11 rfl [0, 6, 7, 1, 2, 3, 4, 8, 5, 9, 10] (by decide) hP
  have hD := wd_nD (N := [[(h, .inr (5, [.ref aS, .ref aE, .ref gm, .ref qr, .ref gw, .ref ql, .ref qf, .ref qd]))], [(gw, .inl (cG, 12, .inr (.inr (.inr (.inr (go rw))))))], [(ql, .inl (cI, 12, .inl (lI L2)))], [(qf, .inl (cI, 12, .inl (cN H2)))], [(qd, .inl (cZ, 12, .inl (dB N2)))], gd cI 12 rw (gN (vw0 T1.2.2 hd r))]) rfl 11 rfl [0, 6, 7, 1, 2, 3, 4, 8, 5, 9, 10] (by decide) hD
  have hP : va_P D kls (List.flatten [[(h, .inr (5, [.ref aS, .ref aE, .ref gm, .ref qr, .ref gw, .ref ql, .ref qf, .ref qd]))], [(gm, .inl (cG, 12, .inr (.inr (.inr (.inr (go rm))))))], [(qr, .inl (cI, 12, .inl (cN ra)))], [(gw, .inl (cG, 12, .inr (.inr (.inr (.inr (go rw))))))], [(ql, .inl (cI, 12, .inl (lI L2)))], [(qf, .inl (cI, 12, .inl (cN H2)))], [(qd, .inl (cZ, 12, .inl (dB N2)))], gd cI 12 rm mk, gd cI 12 rw (gN (vw0 T1.2.2 hd r)), wS, wE]) H := hP
  have hD : va_D A (List.flatten [[(h, .inr (5, [.ref aS, .ref aE, .ref gm, .ref qr, .ref gw, .ref ql, .ref qf, .ref qd]))], [(gm, .inl (cG, 12, .inr (.inr (.inr (.inr (go rm))))))], [(qr, .inl (cI, 12, .inl (cN ra)))], [(gw, .inl (cG, 12, .inr (.inr (.inr (.inr (go rw))))))], [(ql, .inl (cI, 12, .inl (lI L2)))], [(qf, .inl (cI, 12, .inl (cN H2)))], [(qd, .inl (cZ, 12, .inl (dB N2)))], gd cI 12 rm mk, gd cI 12 rw (gN (vw0 T1.2.2 hd r)), wS, wE]) := hD
  refine W.eq (g2 := F0 m 17 ls []) rfl ?_
  refine lv_iconst (v := nI 0) hx hb d_Routes_reckonMasks_17 (by decide) ?_
  refine lv_istore_n hx hb d_Routes_reckonMasks_18 rfl hl (by decide) rfl (fun ls hl => ?_)
  have hl : lv_has ls 3 [(2, .int (nI 0)), (0, .ref h), (1, .int (nI r))] := hl
  have ors : ∀ (k d : Nat) (mk2 : Nat → Nat → Int32) (H : Heap) (locs : List Loc) (ls : Array Slot), d + k = 12 → (∀ n, n < 12 → mk2 r n = bm_mask (vw0 T1.2.2 hd r) eb r n d) → (∀ a n, a ≠ r → mk2 a n = mk a n) → va_P D kls (List.flatten [[(h, .inr (5, [.ref aS, .ref aE, .ref gm, .ref qr, .ref gw, .ref ql, .ref qf, .ref qd]))], [(gm, .inl (cG, 12, .inr (.inr (.inr (.inr (go rm))))))], [(qr, .inl (cI, 12, .inl (cN ra)))], [(gw, .inl (cG, 12, .inr (.inr (.inr (.inr (go rw))))))], [(ql, .inl (cI, 12, .inl (lI L2)))], [(qf, .inl (cI, 12, .inl (cN H2)))], [(qd, .inl (cZ, 12, .inl (dB N2)))], gd cI 12 rm mk2, gd cI 12 rw (gN (vw0 T1.2.2 hd r)), wS, wE]) H → va_D A (List.flatten [[(h, .inr (5, [.ref aS, .ref aE, .ref gm, .ref qr, .ref gw, .ref ql, .ref qf, .ref qd]))], [(gm, .inl (cG, 12, .inr (.inr (.inr (.inr (go rm))))))], [(qr, .inl (cI, 12, .inl (cN ra)))], [(gw, .inl (cG, 12, .inr (.inr (.inr (.inr (go rw))))))], [(ql, .inl (cI, 12, .inl (lI L2)))], [(qf, .inl (cI, 12, .inl (cN H2)))], [(qd, .inl (cZ, 12, .inl (dB N2)))], gd cI 12 rm mk2, gd cI 12 rw (gN (vw0 T1.2.2 hd r)), wS, wE]) → va_S A s.heap H locs → lv_has ls 3 [(2, .int (nI d)), (0, .ref h), (1, .int (nI r))] → W p l e (rm_ 3 71 0 0) s m args below meth c H locs 0 0 Q (F0 m 42 ls []) := by
    intro k
    induction k with
    | zero =>
      intro d mk2 H locs ls hk hs ho hP hD hS hl
      refine lv_iload_n hx hb d_Routes_reckonMasks_42 rfl (lv_at hl 0 rfl) ?_
      refine lv_bipush (v := nI 12) hx hb d_Routes_reckonMasks_43 (by decide) ?_
      refine ri_icmp_ge hx hb (by omega) (by omega) d_Routes_reckonMasks_45 (tgt := 93) (by decide) (fun hc9 => ?_) (fun hc9 => ?_)
      · exact ct_vret hQ hx hb hr hlk hP hD hS hK (by omega) (by omega) d_Routes_reckonMasks_93 (⟨mk2, _, L2, H2, N2, rfl, fun n hn => by have := hs n hn; rw [show d = 12 by omega] at this; exact this, ho⟩)
      · exact absurd hc9 (by omega)
    | succ k ih =>
      intro d mk2 H locs ls hk hs ho hP hD hS hl
      refine lv_iload_n hx hb d_Routes_reckonMasks_42 rfl (lv_at hl 0 rfl) ?_
      refine lv_bipush (v := nI 12) hx hb d_Routes_reckonMasks_43 (by decide) ?_
      refine ri_icmp_ge hx hb (by omega) (by omega) d_Routes_reckonMasks_45 (tgt := 93) (by decide) (fun hc9 => ?_) (fun hc9 => ?_)
      · exact absurd hc9 (by omega)
      · refine lv_iload_n hx hb d_Routes_reckonMasks_48 rfl (lv_at hl 0 rfl) ?_
        refine lv_iload_n hx hb d_Routes_reckonMasks_49 rfl (lv_at hl 2 rfl) ?_
        refine ri_icmp_eq hx hb (by omega) (by omega) d_Routes_reckonMasks_50 (tgt := 87) (by decide) (fun hdr => ?_) (fun hdr => ?_)
        · refine ri_iinc hx hb d_Routes_reckonMasks_87 hl (k := 0) rfl (by decide) rfl (fun ls hl => ?_)
          have hl : lv_has ls 3 [(2, .int (nI (d + 1))), (0, .ref h), (1, .int (nI r))] := hl
          refine lv_goto hx hb d_Routes_reckonMasks_90 (tgt := 42) (by decide) ?_
          refine ih (d + 1) _ H locs ls (by omega) (fun n hn => ?_) (fun a n ha => ?_) hP hD hS hl
          · rw [hs n hn]
            show _ = (if d ≠ r ∧ bn_nh (vw0 T1.2.2 hd r) r d = some n then _ else bm_mask (vw0 T1.2.2 hd r) eb r n d)
            rw [if_neg (fun z => by first | exact z.1 hdr | (have h5 := bn_len_none ((eL2 d (by omega)).symm.trans hLd); rw [h5] at z; cases z.2))]
          · exact ho a n ha
        · rcases hLd : L2 d with _ | x
          · refine lv_aload_n hx hb d_Routes_reckonMasks_53 rfl (lv_at hl 1 rfl) ?_
            refine va_get (D := D) (ci := 5) (v := .ref ql) (C := R_Routes) (T := T_Routes) (N := 8) hx hb ht in_Routes hown hK hP 0 rfl rfl 5 (by decide) (ht _ kl_Routes_23) (fun _ h9 => h9) rfl d_Routes_reckonMasks_54 ?_
            refine lv_iload_n hx hb d_Routes_reckonMasks_57 rfl (lv_at hl 0 rfl) ?_
            refine ri_iald hx hb hK hP 4 0 rfl rfl (j := d) (by omega) (by omega) d_Routes_reckonMasks_58 ?_
            refine W.eq (g2 := F0 m 59 ls [.int (bm_oI (L2 d))]) rfl ?_
            refine W.eq (g2 := F0 m 59 ls [.int ((-1))]) (congrArg (fun z => F0 m 59 ls (.int z :: [])) (show bm_oI (L2 d) = -1 by rw [hLd]; rfl)) ?_
            refine lv_iconst (v := (-1)) hx hb d_Routes_reckonMasks_59 (by decide) ?_
            refine lv_icmp_eq hx hb d_Routes_reckonMasks_60 (tgt := 87) (by decide) (fun h6 => ?_) (fun h6 => ?_)
            · refine ri_iinc hx hb d_Routes_reckonMasks_87 hl (k := 0) rfl (by decide) rfl (fun ls hl => ?_)
              have hl : lv_has ls 3 [(2, .int (nI (d + 1))), (0, .ref h), (1, .int (nI r))] := hl
              refine lv_goto hx hb d_Routes_reckonMasks_90 (tgt := 42) (by decide) ?_
              refine ih (d + 1) _ H locs ls (by omega) (fun n hn => ?_) (fun a n ha => ?_) hP hD hS hl
              · rw [hs n hn]
                show _ = (if d ≠ r ∧ bn_nh (vw0 T1.2.2 hd r) r d = some n then _ else bm_mask (vw0 T1.2.2 hd r) eb r n d)
                rw [if_neg (fun z => by first | exact z.1 hdr | (have h5 := bn_len_none ((eL2 d (by omega)).symm.trans hLd); rw [h5] at z; cases z.2))]
              · exact ho a n ha
            · exact absurd h6 (fun z => z rfl)
          · have hbx := bL2 d x (by omega) hLd
            refine lv_aload_n hx hb d_Routes_reckonMasks_53 rfl (lv_at hl 1 rfl) ?_
            refine va_get (D := D) (ci := 5) (v := .ref ql) (C := R_Routes) (T := T_Routes) (N := 8) hx hb ht in_Routes hown hK hP 0 rfl rfl 5 (by decide) (ht _ kl_Routes_23) (fun _ h9 => h9) rfl d_Routes_reckonMasks_54 ?_
            refine lv_iload_n hx hb d_Routes_reckonMasks_57 rfl (lv_at hl 0 rfl) ?_
            refine ri_iald hx hb hK hP 4 0 rfl rfl (j := d) (by omega) (by omega) d_Routes_reckonMasks_58 ?_
            refine W.eq (g2 := F0 m 59 ls [.int (bm_oI (L2 d))]) rfl ?_
            refine W.eq (g2 := F0 m 59 ls [.int (nI x)]) (congrArg (fun z => F0 m 59 ls (.int z :: [])) (show bm_oI (L2 d) = nI x by rw [hLd]; rfl)) ?_
            refine lv_iconst (v := (-1)) hx hb d_Routes_reckonMasks_59 (by decide) ?_
            refine lv_icmp_eq hx hb d_Routes_reckonMasks_60 (tgt := 87) (by decide) (fun h6 => ?_) (fun h6 => ?_)
            · exact absurd h6 (nI_m1 (by omega))
            · refine lv_aload_n hx hb d_Routes_reckonMasks_63 rfl (lv_at hl 1 rfl) ?_
              refine va_get (D := D) (ci := 5) (v := .ref gm) (C := R_Routes) (T := T_Routes) (N := 8) hx hb ht in_Routes hown hK hP 0 rfl rfl 2 (by decide) (ht _ kl_Routes_11) (fun _ h9 => h9) rfl d_Routes_reckonMasks_64 ?_
              refine lv_iload_n hx hb d_Routes_reckonMasks_67 rfl (lv_at hl 2 rfl) ?_
              refine ri_aald hx hb hK hP 1 3 rfl rfl (j := r) (by omega) (by omega) (go_at (by omega)) d_Routes_reckonMasks_68 ?_
              refine lv_aload_n hx hb d_Routes_reckonMasks_69 rfl (lv_at hl 1 rfl) ?_
              refine va_get (D := D) (ci := 5) (v := .ref qf) (C := R_Routes) (T := T_Routes) (N := 8) hx hb ht in_Routes hown hK hP 0 rfl rfl 6 (by decide) (ht _ kl_Routes_26) (fun _ h9 => h9) rfl d_Routes_reckonMasks_70 ?_
              refine lv_iload_n hx hb d_Routes_reckonMasks_73 rfl (lv_at hl 0 rfl) ?_
              refine ri_iald hx hb hK hP 5 0 rfl rfl (j := d) (by omega) (by omega) d_Routes_reckonMasks_74 ?_
              refine W.eq (g2 := F0 m 75 ls [.int (nI (H2 d)), .ref (rm r)]) rfl ?_
              refine lv_dup2_11 hx hb d_Routes_reckonMasks_75 rfl rfl ?_
              refine ri_gld hx hb hK hP 7 0 rfl rfl (i := r) (j := H2 d) hr9 (bH2 d (by omega)) (by decide) d_Routes_reckonMasks_76 ?_
              refine W.eq (g2 := F0 m 77 ls [.int (mk2 r (H2 d)), .int (nI (H2 d)), .ref (rm r)]) rfl ?_
              refine lv_aload_n hx hb d_Routes_reckonMasks_77 rfl (lv_at hl 1 rfl) ?_
              refine va_get (D := D) (ci := 5) (v := .ref aE) (C := R_Routes) (T := T_Routes) (N := 8) hx hb ht in_Routes hown hK hP 0 rfl rfl 1 (by decide) (ht _ kl_Routes_37) (fun _ h9 => h9) rfl d_Routes_reckonMasks_78 ?_
              refine lv_iload_n hx hb d_Routes_reckonMasks_81 rfl (lv_at hl 0 rfl) ?_
              refine ct_rdV (C := R_Edges) (ci := 1) (As := [.int (nI d)]) (rest := [.int (mk2 r (H2 d)), .int (nI (H2 d)), .ref (rm r)]) ⟨hx, hb, hml, hown, ht⟩ (k_Edges_bitOf l D cI cZ cJ cG kE d (by omega)) (cb_V ht kc_Edges_bitOf kl_Routes_64 kn_Edges ki_Edges_bitOf ks_Edges_bitOf hd_Edges_bitOf ⟨Nat.le_of_ble_eq_true rfl, Nat.le_of_ble_eq_true rfl⟩) (wd_mem 10 rfl mE) rfl rfl (wd_ct (Bs := [[(h, .inr (5, [.ref aS, .ref aE, .ref gm, .ref qr, .ref gw, .ref ql, .ref qf, .ref qd]))], [(gm, .inl (cG, 12, .inr (.inr (.inr (.inr (go rm))))))], [(qr, .inl (cI, 12, .inl (cN ra)))], [(gw, .inl (cG, 12, .inr (.inr (.inr (.inr (go rw))))))], [(ql, .inl (cI, 12, .inl (lI L2)))], [(qf, .inl (cI, 12, .inl (cN H2)))], [(qd, .inl (cZ, 12, .inl (dB N2)))], gd cI 12 rm mk2, gd cI 12 rw (gN (vw0 T1.2.2 hd r)), wS, wE]) 11 rfl [10] [0, 1, 2, 3, 4, 5, 6, 7, 8, 9] (by decide) (wd_1 _)) hK hP hD hS hA rfl hl.1 rfl (Nat.le_of_ble_eq_true rfl) ⟨(show 0 + 0 ≤ 0 by omega), (show 0 + 0 ≤ 0 by omega)⟩ d_Routes_reckonMasks_82 (fun rhr8 H locs hr8 hP hD hS => ?_)
              subst hr8
              refine lv_ior hx hb d_Routes_reckonMasks_85 ?_
              refine ri_gst hx hb hK hP hD hS 7 0 rfl rfl (i := r) (j := H2 d) hr9 (bH2 d (by omega)) (by decide) d_Routes_reckonMasks_86 (fun H locs hP hD hS => ?_)
              have hP : va_P D kls (List.flatten [[(h, .inr (5, [.ref aS, .ref aE, .ref gm, .ref qr, .ref gw, .ref ql, .ref qf, .ref qd]))], [(gm, .inl (cG, 12, .inr (.inr (.inr (.inr (go rm))))))], [(qr, .inl (cI, 12, .inl (cN ra)))], [(gw, .inl (cG, 12, .inr (.inr (.inr (.inr (go rw))))))], [(ql, .inl (cI, 12, .inl (lI L2)))], [(qf, .inl (cI, 12, .inl (cN H2)))], [(qd, .inl (cZ, 12, .inl (dB N2)))], gd cI 12 rm (bm_up2 mk2 r (H2 d) ((mk2 r (H2 d)) ||| (bm_em (eb d)))), gd cI 12 rw (gN (vw0 T1.2.2 hd r)), wS, wE]) H := hP
              have hD : va_D A (List.flatten [[(h, .inr (5, [.ref aS, .ref aE, .ref gm, .ref qr, .ref gw, .ref ql, .ref qf, .ref qd]))], [(gm, .inl (cG, 12, .inr (.inr (.inr (.inr (go rm))))))], [(qr, .inl (cI, 12, .inl (cN ra)))], [(gw, .inl (cG, 12, .inr (.inr (.inr (.inr (go rw))))))], [(ql, .inl (cI, 12, .inl (lI L2)))], [(qf, .inl (cI, 12, .inl (cN H2)))], [(qd, .inl (cZ, 12, .inl (dB N2)))], gd cI 12 rm (bm_up2 mk2 r (H2 d) ((mk2 r (H2 d)) ||| (bm_em (eb d)))), gd cI 12 rw (gN (vw0 T1.2.2 hd r)), wS, wE]) := hD
              refine ri_iinc hx hb d_Routes_reckonMasks_87 hl (k := 0) rfl (by decide) rfl (fun ls hl => ?_)
              have hl : lv_has ls 3 [(2, .int (nI (d + 1))), (0, .ref h), (1, .int (nI r))] := hl
              refine lv_goto hx hb d_Routes_reckonMasks_90 (tgt := 42) (by decide) ?_
              refine ih (d + 1) _ H locs ls (by omega) (fun n hn => ?_) (fun a n ha => ?_) hP hD hS hl
              · have hnh := eH2 d x (by omega) hdr hLd
                show (if r = r ∧ n = H2 d then mk2 r (H2 d) ||| bm_em (eb d) else mk2 r n) = (if d ≠ r ∧ bn_nh (vw0 T1.2.2 hd r) r d = some n then bm_mask (vw0 T1.2.2 hd r) eb r n d ||| bm_em (eb d) else bm_mask (vw0 T1.2.2 hd r) eb r n d)
                by_cases e : n = H2 d
                · rw [if_pos ⟨rfl, e⟩, if_pos ⟨hdr, by rw [hnh, e]⟩, ← hs n hn, e]
                · rw [if_neg (fun z => e z.2), if_neg (fun z => e (Option.some.inj (z.2.symm.trans hnh))), hs n hn]
              · show (if a = r ∧ n = H2 d then _ else mk2 a n) = _
                rw [if_neg (fun z => ha z.1)]
                exact ho a n ha
  have zeros : ∀ (k j : Nat) (mk2 : Nat → Nat → Int32) (H : Heap) (locs : List Loc) (ls : Array Slot), j + k = 12 → (∀ n, n < j → mk2 r n = 0) → (∀ a n, a ≠ r → mk2 a n = mk a n) → va_P D kls (List.flatten [[(h, .inr (5, [.ref aS, .ref aE, .ref gm, .ref qr, .ref gw, .ref ql, .ref qf, .ref qd]))], [(gm, .inl (cG, 12, .inr (.inr (.inr (.inr (go rm))))))], [(qr, .inl (cI, 12, .inl (cN ra)))], [(gw, .inl (cG, 12, .inr (.inr (.inr (.inr (go rw))))))], [(ql, .inl (cI, 12, .inl (lI L2)))], [(qf, .inl (cI, 12, .inl (cN H2)))], [(qd, .inl (cZ, 12, .inl (dB N2)))], gd cI 12 rm mk2, gd cI 12 rw (gN (vw0 T1.2.2 hd r)), wS, wE]) H → va_D A (List.flatten [[(h, .inr (5, [.ref aS, .ref aE, .ref gm, .ref qr, .ref gw, .ref ql, .ref qf, .ref qd]))], [(gm, .inl (cG, 12, .inr (.inr (.inr (.inr (go rm))))))], [(qr, .inl (cI, 12, .inl (cN ra)))], [(gw, .inl (cG, 12, .inr (.inr (.inr (.inr (go rw))))))], [(ql, .inl (cI, 12, .inl (lI L2)))], [(qf, .inl (cI, 12, .inl (cN H2)))], [(qd, .inl (cZ, 12, .inl (dB N2)))], gd cI 12 rm mk2, gd cI 12 rw (gN (vw0 T1.2.2 hd r)), wS, wE]) → va_S A s.heap H locs → lv_has ls 3 [(2, .int (nI j)), (0, .ref h), (1, .int (nI r))] → W p l e (rm_ 3 71 0 0) s m args below meth c H locs 0 0 Q (F0 m 19 ls []) := by
    intro k
    induction k with
    | zero =>
      intro j mk2 H locs ls hk hz ho hP hD hS hl
      refine lv_iload_n hx hb d_Routes_reckonMasks_19 rfl (lv_at hl 0 rfl) ?_
      refine lv_bipush (v := nI 12) hx hb d_Routes_reckonMasks_20 (by decide) ?_
      refine ri_icmp_ge hx hb (by omega) (by omega) d_Routes_reckonMasks_22 (tgt := 40) (by decide) (fun hc9 => ?_) (fun hc9 => ?_)
      · refine lv_iconst (v := nI 0) hx hb d_Routes_reckonMasks_40 (by decide) ?_
        refine lv_istore_n hx hb d_Routes_reckonMasks_41 rfl hl (by decide) rfl (fun ls hl => ?_)
        have hl : lv_has ls 3 [(2, .int (nI 0)), (0, .ref h), (1, .int (nI r))] := hl
        exact ors 12 0 mk2 H locs ls (by omega) (fun n hn => hz n (by omega)) ho hP hD hS hl
      · exact absurd hc9 (by omega)
    | succ k ih =>
      intro j mk2 H locs ls hk hz ho hP hD hS hl
      refine lv_iload_n hx hb d_Routes_reckonMasks_19 rfl (lv_at hl 0 rfl) ?_
      refine lv_bipush (v := nI 12) hx hb d_Routes_reckonMasks_20 (by decide) ?_
      refine ri_icmp_ge hx hb (by omega) (by omega) d_Routes_reckonMasks_22 (tgt := 40) (by decide) (fun hc9 => ?_) (fun hc9 => ?_)
      · exact absurd hc9 (by omega)
      · refine lv_aload_n hx hb d_Routes_reckonMasks_25 rfl (lv_at hl 1 rfl) ?_
        refine va_get (D := D) (ci := 5) (v := .ref gm) (C := R_Routes) (T := T_Routes) (N := 8) hx hb ht in_Routes hown hK hP 0 rfl rfl 2 (by decide) (ht _ kl_Routes_11) (fun _ h9 => h9) rfl d_Routes_reckonMasks_26 ?_
        refine lv_iload_n hx hb d_Routes_reckonMasks_29 rfl (lv_at hl 2 rfl) ?_
        refine ri_aald hx hb hK hP 1 3 rfl rfl (j := r) (by omega) (by omega) (go_at (by omega)) d_Routes_reckonMasks_30 ?_
        refine lv_iload_n hx hb d_Routes_reckonMasks_31 rfl (lv_at hl 0 rfl) ?_
        refine lv_iconst (v := nI 0) hx hb d_Routes_reckonMasks_32 (by decide) ?_
        refine ri_gst hx hb hK hP hD hS 7 0 rfl rfl (i := r) (j := j) hr9 (by omega) (by decide) d_Routes_reckonMasks_33 (fun H locs hP hD hS => ?_)
        have hP : va_P D kls (List.flatten [[(h, .inr (5, [.ref aS, .ref aE, .ref gm, .ref qr, .ref gw, .ref ql, .ref qf, .ref qd]))], [(gm, .inl (cG, 12, .inr (.inr (.inr (.inr (go rm))))))], [(qr, .inl (cI, 12, .inl (cN ra)))], [(gw, .inl (cG, 12, .inr (.inr (.inr (.inr (go rw))))))], [(ql, .inl (cI, 12, .inl (lI L2)))], [(qf, .inl (cI, 12, .inl (cN H2)))], [(qd, .inl (cZ, 12, .inl (dB N2)))], gd cI 12 rm (bm_up2 mk2 r j (nI 0)), gd cI 12 rw (gN (vw0 T1.2.2 hd r)), wS, wE]) H := hP
        have hD : va_D A (List.flatten [[(h, .inr (5, [.ref aS, .ref aE, .ref gm, .ref qr, .ref gw, .ref ql, .ref qf, .ref qd]))], [(gm, .inl (cG, 12, .inr (.inr (.inr (.inr (go rm))))))], [(qr, .inl (cI, 12, .inl (cN ra)))], [(gw, .inl (cG, 12, .inr (.inr (.inr (.inr (go rw))))))], [(ql, .inl (cI, 12, .inl (lI L2)))], [(qf, .inl (cI, 12, .inl (cN H2)))], [(qd, .inl (cZ, 12, .inl (dB N2)))], gd cI 12 rm (bm_up2 mk2 r j (nI 0)), gd cI 12 rw (gN (vw0 T1.2.2 hd r)), wS, wE]) := hD
        refine ri_iinc hx hb d_Routes_reckonMasks_34 hl (k := 0) rfl (by decide) rfl (fun ls hl => ?_)
        have hl : lv_has ls 3 [(2, .int (nI (j + 1))), (0, .ref h), (1, .int (nI r))] := hl
        refine lv_goto hx hb d_Routes_reckonMasks_37 (tgt := 19) (by decide) ?_
        refine ih (j + 1) _ H locs ls (by omega) (fun n hn => ?_) (fun a n ha => ?_) hP hD hS hl
        · show (if r = r ∧ n = j then _ else mk2 r n) = 0
          by_cases e : n = j
          · rw [if_pos ⟨rfl, e⟩]; rfl
          · rw [if_neg (fun z => e z.2)]; exact hz n (by omega)
        · show (if a = r ∧ n = j then _ else mk2 a n) = _
          rw [if_neg (fun z => ha z.1)]
          exact ho a n ha
  exact zeros 12 0 mk H locs ls (by omega) (fun n hn => absurd hn (by omega)) (fun a n _ => rfl) hP hD hS hl
set_option maxHeartbeats 4000000 in
set_option maxRecDepth 100000 in
theorem k_Routes_masksOf (l : Launch) (D : va_G) (cI cZ cJ cG : ClassId) {h aS aE : Nat} {mk : Nat → Nat → Int32} {ra : Nat → Nat} {wR : va_W} {T1 : bm_M Nat} {hd : Nat → Nat → Nat} {ch : Nat → Nat} {wS : va_W} {eb : Nat → Option Nat} {t9 : Int32} {es : Nat} {wE : va_W} (hR : ro_R cI cZ cG h aS aE mk ra wR) (kS : so_R cI cG aS T1 hd ch wS) (kE : ed_R cI aE eb t9 (nI es) wE) (hca : bm_cache T1.2.2 hd ch eb es mk ra) (r : Nat) (hr9 : r < 12) (hce : ch r + es < 2147483648) (hh : ∀ x, x < 12 → hd r x < T1.2.1) (hA1 : ∀ i j, i < T1.2.1 → j < 12 → T1.2.2 i (2 + j) ≤ 1000) (hw0 : ∀ x, vw0 T1.2.2 hd r x x = 0) (hwb : ∀ a b, vw0 T1.2.2 hd r a b ≤ 1023) : ct_A l D kls (ty4 cI cZ cJ cG) y_Routes_masksOf ws_Routes_masksOf (rm_ 4 93 0 0) [.ref h, .int (nI r)] (List.flatten [wR, wS, wE]) (fun q u => ∃ (gm qr gw ql qf qd : Nat) (rm rw : Nat → Nat) (mk2 : Nat → Nat → Int32) (ra2 : Nat → Nat) (M : Nat → Nat → Int32) (L : Nat → Option Nat) (Hh : Nat → Nat) (Nn : Nat → Bool), u = List.flatten [ro_w cI cZ cG h aS aE gm qr gw ql qf qd rm rw mk2 ra2 M L Hh Nn, wS, wE] ∧ q = rm r ∧ bm_cache T1.2.2 hd ch eb es mk2 ra2 ∧ ∀ n, n < 12 → mk2 r n = bm_mask (vw0 T1.2.2 hd r) eb r n 12) 0 0 := by
  obtain ⟨gm, qr, gw, ql, qf, qd, rm, rw, M, L, Hh, Nn, rfl⟩ := hR
  obtain ⟨fsS, mS⟩ := kS.mem
  obtain ⟨fsE, mE⟩ := kE.mem
  refine ct_enterA (cc := b_Routes_masksOf) (maxL := 3) (ret := (some (.array .int))) (by decide +kernel) (Nat.le_of_ble_eq_true rfl) ?_
  intro p e s m args below meth c hx hb hml hr ht hown hlk hnm A Q hA hK hP hD hQ ls hl
  have hown : s.vm.findClass R_Routes = some m.cls := hown
  have hS : va_S A s.heap s.heap [] := va_S.rf
  have hl : lv_has ls 3 [(0, .ref h), (1, .int (nI r))] := hl
  rw [fl_exp] at hP hD
  have hP : va_P D kls (List.flatten [[(h, .inr (5, [.ref aS, .ref aE, .ref gm, .ref qr, .ref gw, .ref ql, .ref qf, .ref qd]))], [(gm, .inl (cG, 12, .inr (.inr (.inr (.inr (go rm))))))], [(qr, .inl (cI, 12, .inl (cN ra)))], [(gw, .inl (cG, 12, .inr (.inr (.inr (.inr (go rw))))))], [(ql, .inl (cI, 12, .inl (lI L)))], [(qf, .inl (cI, 12, .inl (cN Hh)))], [(qd, .inl (cZ, 12, .inl (dB Nn)))], gd cI 12 rm mk, gd cI 12 rw M, wS, wE]) s.heap := hP
  have hD : va_D A (List.flatten [[(h, .inr (5, [.ref aS, .ref aE, .ref gm, .ref qr, .ref gw, .ref ql, .ref qf, .ref qd]))], [(gm, .inl (cG, 12, .inr (.inr (.inr (.inr (go rm))))))], [(qr, .inl (cI, 12, .inl (cN ra)))], [(gw, .inl (cG, 12, .inr (.inr (.inr (.inr (go rw))))))], [(ql, .inl (cI, 12, .inl (lI L)))], [(qf, .inl (cI, 12, .inl (cN Hh)))], [(qd, .inl (cZ, 12, .inl (dB Nn)))], gd cI 12 rm mk, gd cI 12 rw M, wS, wE]) := hD
  have hra := (hca r hr9).1
  refine lv_aload_n hx hb d_Routes_masksOf_0 rfl (lv_at hl 0 rfl) ?_
  refine va_get (D := D) (ci := 5) (v := .ref aS) (C := R_Routes) (T := T_Routes) (N := 8) hx hb ht in_Routes hown hK hP 0 rfl rfl 0 (by decide) (ht _ kl_Routes_33) (fun _ h9 => h9) rfl d_Routes_masksOf_1 ?_
  refine lv_iload_n hx hb d_Routes_masksOf_4 rfl (lv_at hl 1 rfl) ?_
  refine ct_rdV (C := R_Stores) (ci := 3) (As := [.int (nI r)]) (rest := []) ⟨hx, hb, hml, hown, ht⟩ (k_Stores_changesOf l D cI cZ cJ cG kS r hr9) (cb_V ht kc_Stores_changesOf kl_Routes_41 kn_Stores ki_Stores_changesOf ks_Stores_changesOf hd_Stores_changesOf ⟨Nat.le_of_ble_eq_true rfl, Nat.le_of_ble_eq_true rfl⟩) (wd_mem 9 rfl mS) rfl rfl (wd_ct (Bs := [[(h, .inr (5, [.ref aS, .ref aE, .ref gm, .ref qr, .ref gw, .ref ql, .ref qf, .ref qd]))], [(gm, .inl (cG, 12, .inr (.inr (.inr (.inr (go rm))))))], [(qr, .inl (cI, 12, .inl (cN ra)))], [(gw, .inl (cG, 12, .inr (.inr (.inr (.inr (go rw))))))], [(ql, .inl (cI, 12, .inl (lI L)))], [(qf, .inl (cI, 12, .inl (cN Hh)))], [(qd, .inl (cZ, 12, .inl (dB Nn)))], gd cI 12 rm mk, gd cI 12 rw M, wS, wE]) 11 rfl [9] [0, 1, 2, 3, 4, 5, 6, 7, 8, 10] (by decide) (wd_1 _)) hK hP hD hS hA rfl hl.1 rfl (Nat.le_of_ble_eq_true rfl) ⟨(show 0 + 0 ≤ 0 by omega), (show 0 + 0 ≤ 0 by omega)⟩ d_Routes_masksOf_5 (fun rhr1 H locs hr1 hP hD hS => ?_)
  subst hr1
  refine lv_aload_n hx hb d_Routes_masksOf_8 rfl (lv_at hl 0 rfl) ?_
  refine va_get (D := D) (ci := 5) (v := .ref aE) (C := R_Routes) (T := T_Routes) (N := 8) hx hb ht in_Routes hown hK hP 0 rfl rfl 1 (by decide) (ht _ kl_Routes_37) (fun _ h9 => h9) rfl d_Routes_masksOf_9 ?_
  refine ct_rdV (C := R_Edges) (ci := 1) (As := []) (rest := [.int (nI (ch r))]) ⟨hx, hb, hml, hown, ht⟩ (k_Edges_edgesSoFar l D cI cZ cJ cG kE) (cb_V ht kc_Edges_edgesSoFar kl_Routes_47 kn_Edges ki_Edges_edgesSoFar ks_Edges_edgesSoFar hd_Edges_edgesSoFar ⟨Nat.le_of_ble_eq_true rfl, Nat.le_of_ble_eq_true rfl⟩) (wd_mem 10 rfl mE) rfl rfl (wd_ct (Bs := [[(h, .inr (5, [.ref aS, .ref aE, .ref gm, .ref qr, .ref gw, .ref ql, .ref qf, .ref qd]))], [(gm, .inl (cG, 12, .inr (.inr (.inr (.inr (go rm))))))], [(qr, .inl (cI, 12, .inl (cN ra)))], [(gw, .inl (cG, 12, .inr (.inr (.inr (.inr (go rw))))))], [(ql, .inl (cI, 12, .inl (lI L)))], [(qf, .inl (cI, 12, .inl (cN Hh)))], [(qd, .inl (cZ, 12, .inl (dB Nn)))], gd cI 12 rm mk, gd cI 12 rw M, wS, wE]) 11 rfl [10] [0, 1, 2, 3, 4, 5, 6, 7, 8, 9] (by decide) (wd_1 _)) hK hP hD hS hA rfl hl.1 rfl (Nat.le_of_ble_eq_true rfl) ⟨(show 0 + 0 ≤ 0 by omega), (show 0 + 0 ≤ 0 by omega)⟩ d_Routes_masksOf_12 (fun rhr2 H locs hr2 hP hD hS => ?_)
  subst hr2
  refine ri_iadd hx hb d_Routes_masksOf_15 ?_
  refine lv_istore_n hx hb d_Routes_masksOf_16 rfl hl (by decide) rfl (fun ls hl => ?_)
  have hl : lv_has ls 3 [(2, .int (nI ((ch r) + es))), (0, .ref h), (1, .int (nI r))] := hl
  refine lv_aload_n hx hb d_Routes_masksOf_17 rfl (lv_at hl 1 rfl) ?_
  refine va_get (D := D) (ci := 5) (v := .ref qr) (C := R_Routes) (T := T_Routes) (N := 8) hx hb ht in_Routes hown hK hP 0 rfl rfl 3 (by decide) (ht _ kl_Routes_16) (fun _ h9 => h9) rfl d_Routes_masksOf_18 ?_
  refine lv_iload_n hx hb d_Routes_masksOf_21 rfl (lv_at hl 2 rfl) ?_
  refine ri_iald hx hb hK hP 2 0 rfl rfl (j := r) (by omega) (by omega) d_Routes_masksOf_22 ?_
  refine W.eq (g2 := F0 m 23 ls [.int (nI (ra r))]) rfl ?_
  refine lv_iload_n hx hb d_Routes_masksOf_23 rfl (lv_at hl 0 rfl) ?_
  refine ri_icmp_eq hx hb (by omega) (by omega) d_Routes_masksOf_24 (tgt := 39) (by decide) (fun h1 => ?_) (fun h1 => ?_)
  · refine lv_aload_n hx hb d_Routes_masksOf_39 rfl (lv_at hl 1 rfl) ?_
    refine va_get (D := D) (ci := 5) (v := .ref gm) (C := R_Routes) (T := T_Routes) (N := 8) hx hb ht in_Routes hown hK hP 0 rfl rfl 2 (by decide) (ht _ kl_Routes_11) (fun _ h9 => h9) rfl d_Routes_masksOf_40 ?_
    refine lv_iload_n hx hb d_Routes_masksOf_43 rfl (lv_at hl 2 rfl) ?_
    refine ri_aald hx hb hK hP 1 3 rfl rfl (j := r) (by omega) (by omega) (go_at (by omega)) d_Routes_masksOf_44 ?_
    exact ct_aret hQ hx hb hr hlk hP hD hS hK (by omega) (by omega) d_Routes_masksOf_45 (⟨gm, qr, gw, ql, qf, qd, rm, rw, mk, ra, M, L, Hh, Nn, by rw [fl_exp]; rfl, rfl, hca, fun n hn => (hca r hr9).2 h1 n hn⟩)
  · refine lv_aload_n hx hb d_Routes_masksOf_27 rfl (lv_at hl 1 rfl) ?_
    refine lv_iload_n hx hb d_Routes_masksOf_28 rfl (lv_at hl 2 rfl) ?_
    refine ct_callVV (C := R_Routes) (ci := 5) (As := [.int (nI r)]) (rest := []) ⟨hx, hb, hml, hown, ht⟩ (c_Routes_reckonMasks l D cI cZ cJ cG h aS aE gm qr gw ql qf qd rm rw mk ra M L Hh Nn kS kE r hr9 hh hA1 hw0 hwb) (cb_V ht kc_Routes_reckonMasks kl_Routes_53 kn_Routes ki_Routes_reckonMasks ks_Routes_reckonMasks hd_Routes_reckonMasks ⟨Nat.le_of_ble_eq_true rfl, Nat.le_of_ble_eq_true rfl⟩) (List.mem_of_getElem? (i := 0) rfl) rfl rfl (pm_all _) hK hP hD hS hA rfl hl.1 rfl (Nat.le_of_ble_eq_true rfl) ⟨(show 0 + 0 ≤ 0 by omega), (show 0 + 0 ≤ 0 by omega)⟩ d_Routes_masksOf_29 (fun u4 H locs hu4 hP hD hS => ?_)
    obtain ⟨mk2, M2, L2, H2, N2, rfl, em2, eo2⟩ := hu4
    refine W.widen (k := 0) (n := 0) (Nat.le_refl _) (Nat.le_refl _) ?_
    rw [List.append_nil] at hP hD
    have hP : va_P D kls (List.flatten [[(h, .inr (5, [.ref aS, .ref aE, .ref gm, .ref qr, .ref gw, .ref ql, .ref qf, .ref qd]))], [(gm, .inl (cG, 12, .inr (.inr (.inr (.inr (go rm))))))], [(qr, .inl (cI, 12, .inl (cN ra)))], [(gw, .inl (cG, 12, .inr (.inr (.inr (.inr (go rw))))))], [(ql, .inl (cI, 12, .inl (lI L2)))], [(qf, .inl (cI, 12, .inl (cN H2)))], [(qd, .inl (cZ, 12, .inl (dB N2)))], gd cI 12 rm mk2, gd cI 12 rw M2, wS, wE]) H := hP
    have hD : va_D A (List.flatten [[(h, .inr (5, [.ref aS, .ref aE, .ref gm, .ref qr, .ref gw, .ref ql, .ref qf, .ref qd]))], [(gm, .inl (cG, 12, .inr (.inr (.inr (.inr (go rm))))))], [(qr, .inl (cI, 12, .inl (cN ra)))], [(gw, .inl (cG, 12, .inr (.inr (.inr (.inr (go rw))))))], [(ql, .inl (cI, 12, .inl (lI L2)))], [(qf, .inl (cI, 12, .inl (cN H2)))], [(qd, .inl (cZ, 12, .inl (dB N2)))], gd cI 12 rm mk2, gd cI 12 rw M2, wS, wE]) := hD
    refine W.eq (g2 := F0 m 32 ls []) rfl ?_
    refine lv_aload_n hx hb d_Routes_masksOf_32 rfl (lv_at hl 1 rfl) ?_
    refine va_get (D := D) (ci := 5) (v := .ref qr) (C := R_Routes) (T := T_Routes) (N := 8) hx hb ht in_Routes hown hK hP 0 rfl rfl 3 (by decide) (ht _ kl_Routes_16) (fun _ h9 => h9) rfl d_Routes_masksOf_33 ?_
    refine lv_iload_n hx hb d_Routes_masksOf_36 rfl (lv_at hl 2 rfl) ?_
    refine lv_iload_n hx hb d_Routes_masksOf_37 rfl (lv_at hl 0 rfl) ?_
    refine ri_iast hx hb hK hP hD hS 2 0 rfl rfl (j := r) (by omega) (by omega) d_Routes_masksOf_38 (fun H locs hP hD hS => ?_)
    rw [cN_up] at hP hD
    have hP : va_P D kls (List.flatten [[(h, .inr (5, [.ref aS, .ref aE, .ref gm, .ref qr, .ref gw, .ref ql, .ref qf, .ref qd]))], [(gm, .inl (cG, 12, .inr (.inr (.inr (.inr (go rm))))))], [(qr, .inl (cI, 12, .inl (cN (bm_up1 ra r ((ch r) + es)))))], [(gw, .inl (cG, 12, .inr (.inr (.inr (.inr (go rw))))))], [(ql, .inl (cI, 12, .inl (lI L2)))], [(qf, .inl (cI, 12, .inl (cN H2)))], [(qd, .inl (cZ, 12, .inl (dB N2)))], gd cI 12 rm mk2, gd cI 12 rw M2, wS, wE]) H := hP
    have hD : va_D A (List.flatten [[(h, .inr (5, [.ref aS, .ref aE, .ref gm, .ref qr, .ref gw, .ref ql, .ref qf, .ref qd]))], [(gm, .inl (cG, 12, .inr (.inr (.inr (.inr (go rm))))))], [(qr, .inl (cI, 12, .inl (cN (bm_up1 ra r ((ch r) + es)))))], [(gw, .inl (cG, 12, .inr (.inr (.inr (.inr (go rw))))))], [(ql, .inl (cI, 12, .inl (lI L2)))], [(qf, .inl (cI, 12, .inl (cN H2)))], [(qd, .inl (cZ, 12, .inl (dB N2)))], gd cI 12 rm mk2, gd cI 12 rw M2, wS, wE]) := hD
    refine lv_aload_n hx hb d_Routes_masksOf_39 rfl (lv_at hl 1 rfl) ?_
    refine va_get (D := D) (ci := 5) (v := .ref gm) (C := R_Routes) (T := T_Routes) (N := 8) hx hb ht in_Routes hown hK hP 0 rfl rfl 2 (by decide) (ht _ kl_Routes_11) (fun _ h9 => h9) rfl d_Routes_masksOf_40 ?_
    refine lv_iload_n hx hb d_Routes_masksOf_43 rfl (lv_at hl 2 rfl) ?_
    refine ri_aald hx hb hK hP 1 3 rfl rfl (j := r) (by omega) (by omega) (go_at (by omega)) d_Routes_masksOf_44 ?_
    have hca2 : bm_cache T1.2.2 hd ch eb es mk2 (bm_up1 ra r (ch r + es)) := by
      intro a ha
      by_cases e : a = r
      · rw [e]
        refine ⟨?_, fun _ n hn => em2 n hn⟩
        show (if r = r then ch r + es else ra r) ≤ _
        rw [if_pos rfl]
        exact Nat.le_refl _
      · have e2 : bm_up1 ra r (ch r + es) a = ra a := if_neg e
        rw [e2]
        exact ⟨(hca a ha).1, fun z n hn => by rw [eo2 a n e]; exact (hca a ha).2 z n hn⟩
    exact ct_aret hQ hx hb hr hlk hP hD hS hK (by omega) (by omega) d_Routes_masksOf_45 (⟨gm, qr, gw, ql, qf, qd, rm, rw, mk2, _, M2, L2, H2, N2, by rw [fl_exp]; rfl, rfl, hca2, em2⟩)
