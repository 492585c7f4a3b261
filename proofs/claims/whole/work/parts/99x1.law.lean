/-! The law's body. -/
def lawC (S : bm_S) (c : Nat) : Nat := 127 + bc S + c
def lawS (S : bm_S) (c : Nat) : Nat := 24300 + bs S + 6 * c
theorem lawC_le {S : bm_S} {c : Nat} (h : iV S c) (hc : c ≤ 512) : lawC S c ≤ 601024 ∧ lawS S c ≤ 7293034 := by
  have := h.bcs
  unfold lawC lawS
  omega
theorem lawC_s {S S2 : bm_S} {c mc ms : Nat} (h : mc + bc S ≤ bc S2 + 1 ∧ ms + bs S ≤ bs S2 + 6) : lawC S c + mc ≤ lawC S2 (c + 1) ∧ lawS S c + ms ≤ lawS S2 (c + 1) := by
  unfold lawC lawS
  omega
set_option maxHeartbeats 4000000 in
set_option maxRecDepth 100000 in
theorem law_body {p : Program} {l : Launch} {e : Env} {s : State} {m : MethodId} {args : Array Value} {below : List Frame} {meth : Method} {c : Code} {Q : State → Prop} (hx : p.tables.exec = Jvm.exec) (hb : c.code = b_Law_law) (hml : c.maxLocals = 7) (hown : s.vm.findClass R_Law = some m.cls) (ht : ∀ w ∈ tb, w.before args s = true) (A0 : Array Value) (h0 : fz_0 A0 s) (hnc : nc_0 A0 s) (hfl : ∀ e : Env, l.admits e → e.platform.stackTraces = false) (D : va_G) (cI cZ cJ cG : ClassId) (hK : va_K D kls (ty4 cI cZ cJ cG) s) (hZ : cz_Z s) {b L : Nat} {xs : Nat → Int32} (hL : L ≤ 2048) (hX : va_X b L xs s s.heap) (hbl : b < s.heap.size) (hend : ∀ (H : Heap) (ls : Array Slot), W p l e (rm_ 11 428 601024 7293034) s m args below meth c H [] 601024 7293034 Q (F0 m 1293 ls [.int 1])) (ls : Array Slot) (hl : lv_has ls 7 [(0, .ref b)]) : W p l e (rm_ 11 428 601024 7293034) s m args below meth c s.heap [] 0 0 Q (F0 m 0 ls []) := by
  have hS : va_S (fun q => s.heap.size ≤ q) s.heap s.heap [] := va_S.rf
  have hA : ∀ q, s.heap.size ≤ q → (fun q => s.heap.size ≤ q) q := fun q hq => hq
  have hbA : ¬ (fun q => s.heap.size ≤ q) b := fun z => absurd (show s.heap.size ≤ b from z) (by omega)
  have hz : fz s s ∧ ∀ q, (fun q => s.heap.size ≤ q) q → s.heap.size ≤ q := ⟨⟨State.WarmedH.refl s, Nat.le_refl _, fun _ _ => rfl⟩, fun q hq => hq⟩
  generalize hAe : (fun q => s.heap.size ≤ q) = A at hS hA hbA hz
  have hP : va_P D kls (List.flatten []) s.heap := fun k q hq => by cases hq
  have hD : va_D A (List.flatten []) := ⟨(fun i j p q hi => by cases hi), (fun k q hq => by cases hq)⟩
  refine va_new (D := D) (ci := 8) (C := R_Net) (T := T_Net) (N := 7) (fs := [.null, .null, .null, .null, .null, .null, .null]) hx hb ht in_Net t_Net ok_Net hown (ht _ kl_Law_8) (ht _ kt_Net) (ht _ kn_Net) hK hP hD hS hA rfl (fun j hj => by rcases nt_lt7 hj with rfl | rfl | rfl | rfl | rfl | rfl | rfl <;> rfl) (show 0 + 1 ≤ 601024 by omega) (show 0 + 7 ≤ 7293034 by omega) d_Law_law_0 (fun o0 H hP hD hS => ?_)
  rw [fl_add] at hP hD
  have hP : va_P D kls (List.flatten [[(o0, .inr (8, [.null, .null, .null, .null, .null, .null, .null]))]]) H := hP
  have hD : va_D A (List.flatten [[(o0, .inr (8, [.null, .null, .null, .null, .null, .null, .null]))]]) := hD
  refine lv_dup hx hb d_Law_law_3 rfl ?_
  refine ct_callN hZ (As := []) (rest := [.ref o0]) ⟨hx, hb, hml, hown, ht⟩ (k_Net_init l D cI cZ cJ cG o0) (cb_I ht kc_Net_init kl_Law_76 kn_Net ki_Net_init hd_Net_init rfl ⟨Nat.le_of_ble_eq_true rfl, Nat.le_of_ble_eq_true rfl⟩) (wd_ct (Bs := [[(o0, .inr (8, [.null, .null, .null, .null, .null, .null, .null]))]]) 1 rfl [0] [] (by decide) (wd_1 _)) hK hP hD hS hA rfl hl.1 rfl (Nat.le_of_ble_eq_true rfl) ⟨(show (0 + 1) + 104 ≤ 601024 by omega), (show (0 + 7) + 1470 ≤ 7293034 by omega)⟩ d_Law_law_4 (fun u101 H locs hu101 hP hD hS => ?_)
  have hN := hu101
  have hP := wd_nP (N := [u101]) (wd_1 _) 1 rfl [0] (by decide) hP
  have hD := wd_nD (N := [u101]) (wd_1 _) 1 rfl [0] (by decide) hD
  have hP : va_P D kls (List.flatten [u101]) H := hP
  have hD : va_D A (List.flatten [u101]) := hD
  refine W.eq (g2 := F0 m 7 ls [.ref o0]) rfl ?_
  refine lv_astore_n hx hb d_Law_law_7 rfl hl (by decide) rfl (fun ls hl => ?_)
  have hl : lv_has ls 7 [(1, .ref o0), (0, .ref b)] := hl
  refine va_new (D := D) (ci := 9) (C := R_Ref) (T := T_Ref) (N := 32) (fs := [.int (nI 0), .null, .null, .null, .null, .null, .null, .null, .null, .null, .null, .int (nI 0), .int (nI 0), .null, .int (nI 0), .int (nI 0), .null, .int (nI 0), .int (nI 0), .null, .null, .null, .null, .int (nI 0), .null, .null, .int (nI 0), .int (nI 0), .int (nI 0), .int (nI 0), .null, .null]) hx hb ht in_Ref t_Ref ok_Ref hown (ht _ kl_Law_77) (ht _ kt_Ref) (ht _ kn_Ref) hK hP hD hS hA rfl (fun j hj => by rcases nt_lt32 hj with rfl | rfl | rfl | rfl | rfl | rfl | rfl | rfl | rfl | rfl | rfl | rfl | rfl | rfl | rfl | rfl | rfl | rfl | rfl | rfl | rfl | rfl | rfl | rfl | rfl | rfl | rfl | rfl | rfl | rfl | rfl | rfl <;> rfl) (show ((0 + 1) + 104) + 1 ≤ 601024 by omega) (show ((0 + 7) + 1470) + 32 ≤ 7293034 by omega) d_Law_law_8 (fun o8 H hP hD hS => ?_)
  rw [fl_add] at hP hD
  have hP := wd_rP 2 rfl [1, 0] (by decide) hP
  have hD := wd_rD 2 rfl [1, 0] (by decide) hD
  have hP : va_P D kls (List.flatten [[(o8, .inr (9, [.int (nI 0), .null, .null, .null, .null, .null, .null, .null, .null, .null, .null, .int (nI 0), .int (nI 0), .null, .int (nI 0), .int (nI 0), .null, .int (nI 0), .int (nI 0), .null, .null, .null, .null, .int (nI 0), .null, .null, .int (nI 0), .int (nI 0), .int (nI 0), .int (nI 0), .null, .null]))], u101]) H := hP
  have hD : va_D A (List.flatten [[(o8, .inr (9, [.int (nI 0), .null, .null, .null, .null, .null, .null, .null, .null, .null, .null, .int (nI 0), .int (nI 0), .null, .int (nI 0), .int (nI 0), .null, .int (nI 0), .int (nI 0), .null, .null, .null, .null, .int (nI 0), .null, .null, .int (nI 0), .int (nI 0), .int (nI 0), .int (nI 0), .null, .null]))], u101]) := hD
  refine lv_dup hx hb d_Law_law_11 rfl ?_
  refine ct_callI (As := []) (rest := [.ref o8]) ⟨hx, hb, hml, hown, ht⟩ (k_Ref_init l D cI cZ cJ cG o8) (cb_I ht kc_Ref_init kl_Law_79 kn_Ref ki_Ref_init hd_Ref_init rfl ⟨Nat.le_of_ble_eq_true rfl, Nat.le_of_ble_eq_true rfl⟩) (wd_ct (Bs := [[(o8, .inr (9, [.int (nI 0), .null, .null, .null, .null, .null, .null, .null, .null, .null, .null, .int (nI 0), .int (nI 0), .null, .int (nI 0), .int (nI 0), .null, .int (nI 0), .int (nI 0), .null, .null, .null, .null, .int (nI 0), .null, .null, .int (nI 0), .int (nI 0), .int (nI 0), .int (nI 0), .null, .null]))], u101]) 2 rfl [0] [1] (by decide) rfl) hK hP hD hS hA rfl hl.1 rfl (Nat.le_of_ble_eq_true rfl) ⟨(show (((0 + 1) + 104) + 1) + 20 ≤ 601024 by omega), (show (((0 + 7) + 1470) + 32) + 22790 ≤ 7293034 by omega)⟩ d_Law_law_12 (fun u102 H locs hu102 hP hD hS => ?_)
  have hRf := hu102
  have hP := wd_nP (N := [u102]) (wd_1 _) 2 rfl [0, 1] (by decide) hP
  have hD := wd_nD (N := [u102]) (wd_1 _) 2 rfl [0, 1] (by decide) hD
  have hP : va_P D kls (List.flatten [u102, u101]) H := hP
  have hD : va_D A (List.flatten [u102, u101]) := hD
  refine W.eq (g2 := F0 m 15 ls [.ref o8]) rfl ?_
  refine lv_astore_n hx hb d_Law_law_15 rfl hl (by decide) rfl (fun ls hl => ?_)
  have hl : lv_has ls 7 [(2, .ref o8), (1, .ref o0), (0, .ref b)] := hl
  refine lv_iconst (v := nI 1) hx hb d_Law_law_16 (by decide) ?_
  refine ri_newl hx hb (ht _ ka_long) hK hP hD hS hA 2 rfl (by omega) (show ((((0 + 1) + 104) + 1) + 20) + 1 ≤ 601024 by omega) (show ((((0 + 7) + 1470) + 32) + 22790) + 1 ≤ 7293034 by omega) d_Law_law_17 (fun q17 H hP hD hS => ?_)
  rw [fl_add] at hP hD
  have hP := wd_rP 3 rfl [2, 0, 1] (by decide) hP
  have hD := wd_rD 3 rfl [2, 0, 1] (by decide) hD
  have hP : va_P D kls (List.flatten [[(q17, .inl (cJ, 1, .inr (.inl (fun _ => 0))))], u102, u101]) H := hP
  have hD : va_D A (List.flatten [[(q17, .inl (cJ, 1, .inr (.inl (fun _ => 0))))], u102, u101]) := hD
  refine lv_astore_n hx hb d_Law_law_19 rfl hl (by decide) rfl (fun ls hl => ?_)
  have hl : lv_has ls 7 [(3, .ref q17), (2, .ref o8), (1, .ref o0), (0, .ref b)] := hl
  refine lv_iconst (v := nI 0) hx hb d_Law_law_20 (by decide) ?_
  refine lv_istore hx hb d_Law_law_21 hl (by decide) rfl (fun ls hl => ?_)
  have hl : lv_has ls 7 [(4, .int (nI 0)), (3, .ref q17), (2, .ref o8), (1, .ref o0), (0, .ref b)] := hl
  have hP := wd_rP 3 rfl [0, 2, 1] (by decide) hP
  have hD := wd_rD 3 rfl [0, 2, 1] (by decide) hD
  have hP : va_P D kls (List.flatten [[(q17, .inl (cJ, 1, .inr (.inl (fun _ => 0))))], u101, u102]) H := hP
  have hD : va_D A (List.flatten [[(q17, .inl (cJ, 1, .inr (.inl (fun _ => 0))))], u101, u102]) := hD
  have loop : ∀ (k c9 : Nat) (S : bm_S) (cd : Int32) (fo : Nat → Int64) (ws wr : va_W) (H : Heap) (locs : List Loc) (ls : Array Slot), c9 + k = 512 → iV S c9 → nt_R cI cZ cG o0 S ws → rf_R cI cZ cJ o8 cd S wr → va_P D kls (List.flatten [[(q17, .inl (cJ, 1, .inr (.inl fo)))], ws, wr]) H → va_D A (List.flatten [[(q17, .inl (cJ, 1, .inr (.inl fo)))], ws, wr]) → va_S A s.heap H locs → lv_has ls 7 [(4, .int (nI (4 * c9))), (3, .ref q17), (2, .ref o8), (1, .ref o0), (0, .ref b)] → W p l e (rm_ 11 428 601024 7293034) s m args below meth c H locs (lawC S c9) (lawS S c9) Q (F0 m 23 ls []) := by
    intro k
    induction k with
    | zero =>
      intro c9 S cd fo ws wr H locs ls hk hv hN hRf hP hD hS hl
      have hbd := lawC_le hv (by omega)
      have hcmp := lw_cmp (L := L) (c := c9) hL (by omega)
      refine lv_iload hx hb d_Law_law_23 (lv_at hl 0 rfl) ?_
      refine lv_aload_n hx hb d_Law_law_25 rfl (lv_at hl 4 rfl) ?_
      refine va_slen hx hb hX hbl hbA hS d_Law_law_26 ?_
      refine W.eq (g2 := F0 m 27 ls [.int (nI L), .int (nI (4 * c9))]) rfl ?_
      refine lv_iconst (v := nI 4) hx hb d_Law_law_27 (by decide) ?_
      refine lv_isub hx hb d_Law_law_28 ?_
      refine lv_icmp_gt hx hb d_Law_law_29 (tgt := 1292) (by decide) (fun h29 => ?_) (fun h29 => ?_)
      · refine lv_iconst (v := nI 1) hx hb d_Law_law_1292 (by decide) ?_
        refine va_forget (fun q hq => by have := hS.2.2 q hq; rw [← hAe] at this; exact this) ?_
        refine W.widen (k := 601024) (n := 7293034) hbd.1 hbd.2 ?_
        exact hend H ls
      · exact absurd (hcmp.mpr (by omega)) h29
    | succ k ih =>
      intro c9 S cd fo ws wr H locs ls hk hv hN hRf hP hD hS hl
      have hbd := lawC_le hv (by omega)
      have hcmp := lw_cmp (L := L) (c := c9) hL (by omega)
      refine lv_iload hx hb d_Law_law_23 (lv_at hl 0 rfl) ?_
      refine lv_aload_n hx hb d_Law_law_25 rfl (lv_at hl 4 rfl) ?_
      refine va_slen hx hb hX hbl hbA hS d_Law_law_26 ?_
      refine W.eq (g2 := F0 m 27 ls [.int (nI L), .int (nI (4 * c9))]) rfl ?_
      refine lv_iconst (v := nI 4) hx hb d_Law_law_27 (by decide) ?_
      refine lv_isub hx hb d_Law_law_28 ?_
      refine lv_icmp_gt hx hb d_Law_law_29 (tgt := 1292) (by decide) (fun h29 => ?_) (fun h29 => ?_)
      · refine lv_iconst (v := nI 1) hx hb d_Law_law_1292 (by decide) ?_
        refine va_forget (fun q hq => by have := hS.2.2 q hq; rw [← hAe] at this; exact this) ?_
        refine W.widen (k := 601024) (n := 7293034) hbd.1 hbd.2 ?_
        exact hend H ls
      · have hgo : 4 * c9 + 4 ≤ L := Nat.not_lt.mp (fun z => h29 (hcmp.mpr z))
        refine lv_aload_n hx hb d_Law_law_32 rfl (lv_at hl 4 rfl) ?_
        refine lv_iload hx hb d_Law_law_33 (lv_at hl 0 rfl) ?_
        refine va_sld hx hb hX hbl hbA hS (i := nI (4 * c9)) (vp_in_nI (show 4 * c9 < L by omega) (show L < 2147483648 by omega)) d_Law_law_35 ?_
        refine W.eq (g2 := F0 m 36 ls [.int (xs (4 * c9))]) (congrArg (fun z => F0 m 36 ls (.int z :: [])) (congrArg xs (nI_clamp (show 4 * c9 < 2 ^ 31 by omega)))) ?_
        refine lv_bipush (v := nI 31) hx hb d_Law_law_36 (by decide) ?_
        refine lv_iand hx hb d_Law_law_38 ?_
        generalize hx9 : (xs (4 * c9)) &&& (nI 31) = x9
        by_cases hsw : ∃ k, k < 21 ∧ x9 = nI k
        · obtain ⟨k7, hk7, rfl⟩ := hsw
          rcases nt_lt21 hk7 with rfl | rfl | rfl | rfl | rfl | rfl | rfl | rfl | rfl | rfl | rfl | rfl | rfl | rfl | rfl | rfl | rfl | rfl | rfl | rfl | rfl
          · refine lv_tableIn hx hb d_Law_law_39 (by decide +kernel) (by decide +kernel) (off := 97) (by decide +kernel) (tgt := 136) (by decide) ?_
            refine lv_aload_n hx hb d_Law_law_136 rfl (lv_at hl 3 rfl) ?_
            refine lv_aload_n hx hb d_Law_law_137 rfl (lv_at hl 4 rfl) ?_
            refine lv_iload hx hb d_Law_law_138 (lv_at hl 0 rfl) ?_
            refine lv_iconst (v := nI 1) hx hb d_Law_law_140 (by decide) ?_
            refine ri_iadd hx hb d_Law_law_141 ?_
            refine va_sld hx hb hX hbl hbA hS (i := nI ((4 * c9) + 1)) (vp_in_nI (show (4 * c9) + 1 < L by omega) (show L < 2147483648 by omega)) d_Law_law_142 ?_
            refine W.eq (g2 := F0 m 143 ls [.int (xs ((4 * c9) + 1)), .ref o0]) (congrArg (fun z => F0 m 143 ls (.int z :: [.ref o0])) (congrArg xs (nI_clamp (show (4 * c9) + 1 < 2 ^ 31 by omega)))) ?_
            refine lv_aload_n hx hb d_Law_law_143 rfl (lv_at hl 4 rfl) ?_
            refine lv_iload hx hb d_Law_law_144 (lv_at hl 0 rfl) ?_
            refine lv_iconst (v := nI 2) hx hb d_Law_law_146 (by decide) ?_
            refine ri_iadd hx hb d_Law_law_147 ?_
            refine va_sld hx hb hX hbl hbA hS (i := nI ((4 * c9) + 2)) (vp_in_nI (show (4 * c9) + 2 < L by omega) (show L < 2147483648 by omega)) d_Law_law_148 ?_
            refine W.eq (g2 := F0 m 149 ls [.int (xs ((4 * c9) + 2)), .int (xs ((4 * c9) + 1)), .ref o0]) (congrArg (fun z => F0 m 149 ls (.int z :: [.int (xs ((4 * c9) + 1)), .ref o0])) (congrArg xs (nI_clamp (show (4 * c9) + 2 < 2 ^ 31 by omega)))) ?_
            obtain ⟨k9, S2, mc9, ms9, F9, L9, F8, L8, hk9, hV9, hco, hr9, hr8, hH9, hV8⟩ := cs_edge l s A0 h0 hnc hfl D cI cZ cJ cG hN hRf hv (by omega) (xs ((4 * c9) + 1)) (xs ((4 * c9) + 2))
            have hbd2 := lawC_le hV9 (by omega)
            have hcs := lawC_s (c := c9) hco
            refine ct_callSH (bytes := b_Law_edge) (maxL := 4) (ret := some .int) (hs := [(0, 6, 9, 13)]) (As := [.ref o0, .int (xs ((4 * c9) + 1)), .int (xs ((4 * c9) + 2))]) (rest := []) hz ⟨hx, hb, hml, hown, ht⟩ hH9 rfl rfl hr9.1 hr9.2 (pay_in ht (tb_good kh_edge)) List.mem_cons_self (ht _ kh_edge) (ht _ kn_Law) ⟨hd_Law_edge.1, hd_Law_edge.2.1⟩ (hd_len hd_Law_edge) (ht _ kl_Law_80) (ht _ ki_Law_edge) (wd_ct (Bs := [[(q17, .inl (cJ, 1, .inr (.inl fo)))], ws, wr]) 3 rfl [1] [0, 2] (by decide) rfl) hK hP hD hS hA rfl hl.1 rfl (Nat.le_of_ble_eq_true rfl) ⟨Nat.le_trans hcs.1 hbd2.1, Nat.le_trans hcs.2 hbd2.2⟩ d_Law_law_149 (fun r9 u8 H locs hpo hP hD hS => ?_)
            refine W.widen (k := lawC S2 (c9 + 1)) (n := lawS S2 (c9 + 1)) hcs.1 hcs.2 ?_
            obtain ⟨rfl, u9, hN9, rfl⟩ := hpo
            have hP := wd_nP (N := [u9]) rfl 3 rfl [1, 0, 2] (by decide) hP
            have hD := wd_nD (N := [u9]) rfl 3 rfl [1, 0, 2] (by decide) hD
            have hP : va_P D kls (List.flatten [[(q17, .inl (cJ, 1, .inr (.inl fo)))], u9, wr]) H := hP
            have hD : va_D A (List.flatten [[(q17, .inl (cJ, 1, .inr (.inl fo)))], u9, wr]) := hD
            refine W.eq (g2 := F0 m 152 ls [.int (nI k9)]) rfl ?_
            obtain ⟨fs9, mR9⟩ := rf_mem hRf
            refine lv_istore hx hb d_Law_law_152 hl (by decide) rfl (fun ls hl => ?_)
            have hl : lv_has ls 7 [(5, .int (nI k9)), (4, .int (nI (4 * c9))), (3, .ref q17), (2, .ref o8), (1, .ref o0), (0, .ref b)] := hl
            refine lv_aload_n hx hb d_Law_law_154 rfl (lv_at hl 3 rfl) ?_
            refine lv_aload_n hx hb d_Law_law_155 rfl (lv_at hl 5 rfl) ?_
            refine lv_iload hx hb d_Law_law_156 (lv_at hl 1 rfl) ?_
            refine lv_iconst (v := nI 1) hx hb d_Law_law_158 (by decide) ?_
            refine ri_iadd hx hb d_Law_law_159 ?_
            refine va_sld hx hb hX hbl hbA hS (i := nI ((4 * c9) + 1)) (vp_in_nI (show (4 * c9) + 1 < L by omega) (show L < 2147483648 by omega)) d_Law_law_160 ?_
            refine W.eq (g2 := F0 m 161 ls [.int (xs ((4 * c9) + 1)), .ref o8]) (congrArg (fun z => F0 m 161 ls (.int z :: [.ref o8])) (congrArg xs (nI_clamp (show (4 * c9) + 1 < 2 ^ 31 by omega)))) ?_
            refine lv_aload_n hx hb d_Law_law_161 rfl (lv_at hl 5 rfl) ?_
            refine lv_iload hx hb d_Law_law_162 (lv_at hl 1 rfl) ?_
            refine lv_iconst (v := nI 2) hx hb d_Law_law_164 (by decide) ?_
            refine ri_iadd hx hb d_Law_law_165 ?_
            refine va_sld hx hb hX hbl hbA hS (i := nI ((4 * c9) + 2)) (vp_in_nI (show (4 * c9) + 2 < L by omega) (show L < 2147483648 by omega)) d_Law_law_166 ?_
            refine W.eq (g2 := F0 m 167 ls [.int (xs ((4 * c9) + 2)), .int (xs ((4 * c9) + 1)), .ref o8]) (congrArg (fun z => F0 m 167 ls (.int z :: [.int (xs ((4 * c9) + 1)), .ref o8])) (congrArg xs (nI_clamp (show (4 * c9) + 2 < 2 ^ 31 by omega)))) ?_
            refine ct_callVV (C := R_Ref) (ci := 9) (As := [.int (xs ((4 * c9) + 1)), .int (xs ((4 * c9) + 2))]) (rest := []) ⟨hx, hb, hml, hown, ht⟩ (hV8) (cb_V ht kc_Ref_edge kl_Law_85 kn_Ref ki_Ref_edge ks_Ref_edge hd_Ref_edge hr8) (wd_mem 2 rfl mR9) rfl rfl (wd_ct (Bs := [[(q17, .inl (cJ, 1, .inr (.inl fo)))], u9, wr]) 3 rfl [2] [0, 1] (by decide) (wd_1 _)) hK hP hD hS hA rfl hl.1 rfl (Nat.le_of_ble_eq_true rfl) ⟨hbd2.1, hbd2.2⟩ d_Law_law_167 (fun u105 H locs hu105 hP hD hS => ?_)
            have hRf9 := hu105
            refine W.widen (k := lawC S2 (c9 + 1)) (n := lawS S2 (c9 + 1)) (Nat.le_refl _) (Nat.le_refl _) ?_
            have hP := wd_nP (N := [u105]) (wd_1 _) 3 rfl [1, 2, 0] (by decide) hP
            have hD := wd_nD (N := [u105]) (wd_1 _) 3 rfl [1, 2, 0] (by decide) hD
            have hP : va_P D kls (List.flatten [[(q17, .inl (cJ, 1, .inr (.inl fo)))], u9, u105]) H := hP
            have hD : va_D A (List.flatten [[(q17, .inl (cJ, 1, .inr (.inl fo)))], u9, u105]) := hD
            refine W.eq (g2 := F0 m 170 ls []) rfl ?_
            obtain ⟨fs7, mR7⟩ := rf_mem hRf9
            refine lv_aload_n hx hb d_Law_law_170 rfl (lv_at hl 3 rfl) ?_
            refine ct_rdV (C := R_Ref) (ci := 9) (As := []) (rest := []) ⟨hx, hb, hml, hown, ht⟩ (k_Ref_thr l D cI cZ cJ cG hRf9) (cb_V ht kc_Ref_thrown kl_Law_86 kn_Ref ki_Ref_thrown ks_Ref_thrown hd_Ref_thrown ⟨Nat.le_of_ble_eq_true rfl, Nat.le_of_ble_eq_true rfl⟩) (wd_mem 2 rfl mR7) rfl rfl (wd_ct (Bs := [[(q17, .inl (cJ, 1, .inr (.inl fo)))], u9, u105]) 3 rfl [2] [0, 1] (by decide) (wd_1 _)) hK hP hD hS hA rfl hl.1 rfl (Nat.le_of_ble_eq_true rfl) ⟨(show (lawC S2 (c9 + 1)) + 0 ≤ 601024 by omega), (show (lawS S2 (c9 + 1)) + 0 ≤ 7293034 by omega)⟩ d_Law_law_171 (fun rhr106 H locs hr106 hP hD hS => ?_)
            subst hr106
            refine lv_iload hx hb d_Law_law_174 (lv_at hl 0 rfl) ?_
            refine ri_icmp_eq hx hb (by omega) (by omega) d_Law_law_176 (tgt := 181) (by decide) (fun hq1 => ?_) (fun hq1 => ?_)
            · refine lv_goto hx hb d_Law_law_181 (tgt := 1286) (by decide) ?_
              refine lv_iinc hx hb d_Law_law_1286 hl (k := 1) rfl (v := nI ((4 * c9) + 4)) (by rw [← nI_add]; rfl) (by decide) rfl (fun ls hl => ?_)
              have hl : lv_has ls 7 [(4, .int (nI ((4 * c9) + 4))), (5, .int (nI k9)), (3, .ref q17), (2, .ref o8), (1, .ref o0), (0, .ref b)] := hl
              refine lv_goto hx hb d_Law_law_1289 (tgt := 23) (by decide) ?_
              exact ih (c9 + 1) S2 (nI k9) fo u9 u105 H locs ls (by omega) hV9 hN9 hRf9 hP hD hS (lv_sub hl [0, 2, 3, 4, 5] rfl)
            · exact absurd hq1 (fun z => z rfl)
          · refine lv_tableIn hx hb d_Law_law_39 (by decide +kernel) (by decide +kernel) (off := 145) (by decide +kernel) (tgt := 184) (by decide) ?_
            refine lv_aload_n hx hb d_Law_law_184 rfl (lv_at hl 3 rfl) ?_
            refine lv_aload_n hx hb d_Law_law_185 rfl (lv_at hl 4 rfl) ?_
            refine lv_iload hx hb d_Law_law_186 (lv_at hl 0 rfl) ?_
            refine lv_iconst (v := nI 1) hx hb d_Law_law_188 (by decide) ?_
            refine ri_iadd hx hb d_Law_law_189 ?_
            refine va_sld hx hb hX hbl hbA hS (i := nI ((4 * c9) + 1)) (vp_in_nI (show (4 * c9) + 1 < L by omega) (show L < 2147483648 by omega)) d_Law_law_190 ?_
            refine W.eq (g2 := F0 m 191 ls [.int (xs ((4 * c9) + 1)), .ref o0]) (congrArg (fun z => F0 m 191 ls (.int z :: [.ref o0])) (congrArg xs (nI_clamp (show (4 * c9) + 1 < 2 ^ 31 by omega)))) ?_
            refine lv_aload_n hx hb d_Law_law_191 rfl (lv_at hl 4 rfl) ?_
            refine lv_iload hx hb d_Law_law_192 (lv_at hl 0 rfl) ?_
            refine lv_iconst (v := nI 2) hx hb d_Law_law_194 (by decide) ?_
            refine ri_iadd hx hb d_Law_law_195 ?_
            refine va_sld hx hb hX hbl hbA hS (i := nI ((4 * c9) + 2)) (vp_in_nI (show (4 * c9) + 2 < L by omega) (show L < 2147483648 by omega)) d_Law_law_196 ?_
            refine W.eq (g2 := F0 m 197 ls [.int (xs ((4 * c9) + 2)), .int (xs ((4 * c9) + 1)), .ref o0]) (congrArg (fun z => F0 m 197 ls (.int z :: [.int (xs ((4 * c9) + 1)), .ref o0])) (congrArg xs (nI_clamp (show (4 * c9) + 2 < 2 ^ 31 by omega)))) ?_
            refine lv_aload_n hx hb d_Law_law_197 rfl (lv_at hl 4 rfl) ?_
            refine lv_iload hx hb d_Law_law_198 (lv_at hl 0 rfl) ?_
            refine lv_iconst (v := nI 3) hx hb d_Law_law_200 (by decide) ?_
            refine ri_iadd hx hb d_Law_law_201 ?_
            refine va_sld hx hb hX hbl hbA hS (i := nI ((4 * c9) + 3)) (vp_in_nI (show (4 * c9) + 3 < L by omega) (show L < 2147483648 by omega)) d_Law_law_202 ?_
            refine W.eq (g2 := F0 m 203 ls [.int (xs ((4 * c9) + 3)), .int (xs ((4 * c9) + 2)), .int (xs ((4 * c9) + 1)), .ref o0]) (congrArg (fun z => F0 m 203 ls (.int z :: [.int (xs ((4 * c9) + 2)), .int (xs ((4 * c9) + 1)), .ref o0])) (congrArg xs (nI_clamp (show (4 * c9) + 3 < 2 ^ 31 by omega)))) ?_
            obtain ⟨k9, S2, mc9, ms9, F9, L9, F8, L8, hk9, hV9, hco, hr9, hr8, hH9, hV8⟩ := cs_link l s A0 h0 hnc hfl D cI cZ cJ cG hN hRf hv (by omega) (xs ((4 * c9) + 1)) (xs ((4 * c9) + 2)) (xs ((4 * c9) + 3))
            have hbd2 := lawC_le hV9 (by omega)
            have hcs := lawC_s (c := c9) hco
            refine ct_callSH (bytes := b_Law_link) (maxL := 5) (ret := some .int) (hs := [(0, 7, 10, 19), (0, 7, 14, 13)]) (As := [.ref o0, .int (xs ((4 * c9) + 1)), .int (xs ((4 * c9) + 2)), .int (xs ((4 * c9) + 3))]) (rest := []) hz ⟨hx, hb, hml, hown, ht⟩ hH9 rfl rfl hr9.1 hr9.2 (pay_in ht (tb_good kh_link)) List.mem_cons_self (ht _ kh_link) (ht _ kn_Law) ⟨hd_Law_link.1, hd_Law_link.2.1⟩ (hd_len hd_Law_link) (ht _ kl_Law_90) (ht _ ki_Law_link) (wd_ct (Bs := [[(q17, .inl (cJ, 1, .inr (.inl fo)))], ws, wr]) 3 rfl [1] [0, 2] (by decide) rfl) hK hP hD hS hA rfl hl.1 rfl (Nat.le_of_ble_eq_true rfl) ⟨Nat.le_trans hcs.1 hbd2.1, Nat.le_trans hcs.2 hbd2.2⟩ d_Law_law_203 (fun r9 u8 H locs hpo hP hD hS => ?_)
            refine W.widen (k := lawC S2 (c9 + 1)) (n := lawS S2 (c9 + 1)) hcs.1 hcs.2 ?_
            obtain ⟨rfl, u9, hN9, rfl⟩ := hpo
            have hP := wd_nP (N := [u9]) rfl 3 rfl [1, 0, 2] (by decide) hP
            have hD := wd_nD (N := [u9]) rfl 3 rfl [1, 0, 2] (by decide) hD
            have hP : va_P D kls (List.flatten [[(q17, .inl (cJ, 1, .inr (.inl fo)))], u9, wr]) H := hP
            have hD : va_D A (List.flatten [[(q17, .inl (cJ, 1, .inr (.inl fo)))], u9, wr]) := hD
            refine W.eq (g2 := F0 m 206 ls [.int (nI k9)]) rfl ?_
            obtain ⟨fs9, mR9⟩ := rf_mem hRf
            refine lv_istore hx hb d_Law_law_206 hl (by decide) rfl (fun ls hl => ?_)
            have hl : lv_has ls 7 [(5, .int (nI k9)), (4, .int (nI (4 * c9))), (3, .ref q17), (2, .ref o8), (1, .ref o0), (0, .ref b)] := hl
            refine lv_aload_n hx hb d_Law_law_208 rfl (lv_at hl 3 rfl) ?_
            refine lv_aload_n hx hb d_Law_law_209 rfl (lv_at hl 5 rfl) ?_
            refine lv_iload hx hb d_Law_law_210 (lv_at hl 1 rfl) ?_
            refine lv_iconst (v := nI 1) hx hb d_Law_law_212 (by decide) ?_
            refine ri_iadd hx hb d_Law_law_213 ?_
            refine va_sld hx hb hX hbl hbA hS (i := nI ((4 * c9) + 1)) (vp_in_nI (show (4 * c9) + 1 < L by omega) (show L < 2147483648 by omega)) d_Law_law_214 ?_
            refine W.eq (g2 := F0 m 215 ls [.int (xs ((4 * c9) + 1)), .ref o8]) (congrArg (fun z => F0 m 215 ls (.int z :: [.ref o8])) (congrArg xs (nI_clamp (show (4 * c9) + 1 < 2 ^ 31 by omega)))) ?_
            refine lv_aload_n hx hb d_Law_law_215 rfl (lv_at hl 5 rfl) ?_
            refine lv_iload hx hb d_Law_law_216 (lv_at hl 1 rfl) ?_
            refine lv_iconst (v := nI 2) hx hb d_Law_law_218 (by decide) ?_
            refine ri_iadd hx hb d_Law_law_219 ?_
            refine va_sld hx hb hX hbl hbA hS (i := nI ((4 * c9) + 2)) (vp_in_nI (show (4 * c9) + 2 < L by omega) (show L < 2147483648 by omega)) d_Law_law_220 ?_
            refine W.eq (g2 := F0 m 221 ls [.int (xs ((4 * c9) + 2)), .int (xs ((4 * c9) + 1)), .ref o8]) (congrArg (fun z => F0 m 221 ls (.int z :: [.int (xs ((4 * c9) + 1)), .ref o8])) (congrArg xs (nI_clamp (show (4 * c9) + 2 < 2 ^ 31 by omega)))) ?_
            refine lv_aload_n hx hb d_Law_law_221 rfl (lv_at hl 5 rfl) ?_
            refine lv_iload hx hb d_Law_law_222 (lv_at hl 1 rfl) ?_
            refine lv_iconst (v := nI 3) hx hb d_Law_law_224 (by decide) ?_
            refine ri_iadd hx hb d_Law_law_225 ?_
            refine va_sld hx hb hX hbl hbA hS (i := nI ((4 * c9) + 3)) (vp_in_nI (show (4 * c9) + 3 < L by omega) (show L < 2147483648 by omega)) d_Law_law_226 ?_
            refine W.eq (g2 := F0 m 227 ls [.int (xs ((4 * c9) + 3)), .int (xs ((4 * c9) + 2)), .int (xs ((4 * c9) + 1)), .ref o8]) (congrArg (fun z => F0 m 227 ls (.int z :: [.int (xs ((4 * c9) + 2)), .int (xs ((4 * c9) + 1)), .ref o8])) (congrArg xs (nI_clamp (show (4 * c9) + 3 < 2 ^ 31 by omega)))) ?_
            refine ct_callVV (C := R_Ref) (ci := 9) (As := [.int (xs ((4 * c9) + 1)), .int (xs ((4 * c9) + 2)), .int (xs ((4 * c9) + 3))]) (rest := []) ⟨hx, hb, hml, hown, ht⟩ (hV8) (cb_V ht kc_Ref_link kl_Law_93 kn_Ref ki_Ref_link ks_Ref_link hd_Ref_link hr8) (wd_mem 2 rfl mR9) rfl rfl (wd_ct (Bs := [[(q17, .inl (cJ, 1, .inr (.inl fo)))], u9, wr]) 3 rfl [2] [0, 1] (by decide) (wd_1 _)) hK hP hD hS hA rfl hl.1 rfl (Nat.le_of_ble_eq_true rfl) ⟨hbd2.1, hbd2.2⟩ d_Law_law_227 (fun u108 H locs hu108 hP hD hS => ?_)
            have hRf9 := hu108
            refine W.widen (k := lawC S2 (c9 + 1)) (n := lawS S2 (c9 + 1)) (Nat.le_refl _) (Nat.le_refl _) ?_
            have hP := wd_nP (N := [u108]) (wd_1 _) 3 rfl [1, 2, 0] (by decide) hP
            have hD := wd_nD (N := [u108]) (wd_1 _) 3 rfl [1, 2, 0] (by decide) hD
            have hP : va_P D kls (List.flatten [[(q17, .inl (cJ, 1, .inr (.inl fo)))], u9, u108]) H := hP
            have hD : va_D A (List.flatten [[(q17, .inl (cJ, 1, .inr (.inl fo)))], u9, u108]) := hD
            refine W.eq (g2 := F0 m 230 ls []) rfl ?_
            obtain ⟨fs7, mR7⟩ := rf_mem hRf9
            refine lv_aload_n hx hb d_Law_law_230 rfl (lv_at hl 3 rfl) ?_
            refine ct_rdV (C := R_Ref) (ci := 9) (As := []) (rest := []) ⟨hx, hb, hml, hown, ht⟩ (k_Ref_thr l D cI cZ cJ cG hRf9) (cb_V ht kc_Ref_thrown kl_Law_86 kn_Ref ki_Ref_thrown ks_Ref_thrown hd_Ref_thrown ⟨Nat.le_of_ble_eq_true rfl, Nat.le_of_ble_eq_true rfl⟩) (wd_mem 2 rfl mR7) rfl rfl (wd_ct (Bs := [[(q17, .inl (cJ, 1, .inr (.inl fo)))], u9, u108]) 3 rfl [2] [0, 1] (by decide) (wd_1 _)) hK hP hD hS hA rfl hl.1 rfl (Nat.le_of_ble_eq_true rfl) ⟨(show (lawC S2 (c9 + 1)) + 0 ≤ 601024 by omega), (show (lawS S2 (c9 + 1)) + 0 ≤ 7293034 by omega)⟩ d_Law_law_231 (fun rhr109 H locs hr109 hP hD hS => ?_)
            subst hr109
            refine lv_iload hx hb d_Law_law_234 (lv_at hl 0 rfl) ?_
            refine ri_icmp_eq hx hb (by omega) (by omega) d_Law_law_236 (tgt := 241) (by decide) (fun hq1 => ?_) (fun hq1 => ?_)
            · refine lv_goto hx hb d_Law_law_241 (tgt := 1286) (by decide) ?_
              refine lv_iinc hx hb d_Law_law_1286 hl (k := 1) rfl (v := nI ((4 * c9) + 4)) (by rw [← nI_add]; rfl) (by decide) rfl (fun ls hl => ?_)
              have hl : lv_has ls 7 [(4, .int (nI ((4 * c9) + 4))), (5, .int (nI k9)), (3, .ref q17), (2, .ref o8), (1, .ref o0), (0, .ref b)] := hl
              refine lv_goto hx hb d_Law_law_1289 (tgt := 23) (by decide) ?_
              exact ih (c9 + 1) S2 (nI k9) fo u9 u108 H locs ls (by omega) hV9 hN9 hRf9 hP hD hS (lv_sub hl [0, 2, 3, 4, 5] rfl)
            · exact absurd hq1 (fun z => z rfl)
          · refine lv_tableIn hx hb d_Law_law_39 (by decide +kernel) (by decide +kernel) (off := 205) (by decide +kernel) (tgt := 244) (by decide) ?_
            refine lv_aload_n hx hb d_Law_law_244 rfl (lv_at hl 3 rfl) ?_
            refine lv_aload_n hx hb d_Law_law_245 rfl (lv_at hl 4 rfl) ?_
            refine lv_iload hx hb d_Law_law_246 (lv_at hl 0 rfl) ?_
            refine lv_iconst (v := nI 1) hx hb d_Law_law_248 (by decide) ?_
            refine ri_iadd hx hb d_Law_law_249 ?_
            refine va_sld hx hb hX hbl hbA hS (i := nI ((4 * c9) + 1)) (vp_in_nI (show (4 * c9) + 1 < L by omega) (show L < 2147483648 by omega)) d_Law_law_250 ?_
            refine W.eq (g2 := F0 m 251 ls [.int (xs ((4 * c9) + 1)), .ref o0]) (congrArg (fun z => F0 m 251 ls (.int z :: [.ref o0])) (congrArg xs (nI_clamp (show (4 * c9) + 1 < 2 ^ 31 by omega)))) ?_
            refine lv_aload_n hx hb d_Law_law_251 rfl (lv_at hl 4 rfl) ?_
            refine lv_iload hx hb d_Law_law_252 (lv_at hl 0 rfl) ?_
            refine lv_iconst (v := nI 2) hx hb d_Law_law_254 (by decide) ?_
            refine ri_iadd hx hb d_Law_law_255 ?_
            refine va_sld hx hb hX hbl hbA hS (i := nI ((4 * c9) + 2)) (vp_in_nI (show (4 * c9) + 2 < L by omega) (show L < 2147483648 by omega)) d_Law_law_256 ?_
            refine W.eq (g2 := F0 m 257 ls [.int (xs ((4 * c9) + 2)), .int (xs ((4 * c9) + 1)), .ref o0]) (congrArg (fun z => F0 m 257 ls (.int z :: [.int (xs ((4 * c9) + 1)), .ref o0])) (congrArg xs (nI_clamp (show (4 * c9) + 2 < 2 ^ 31 by omega)))) ?_
            obtain ⟨k9, S2, mc9, ms9, F9, L9, F8, L8, hk9, hV9, hco, hr9, hr8, hH9, hV8⟩ := cs_cut l s A0 h0 hnc hfl D cI cZ cJ cG hN hRf hv (by omega) (xs ((4 * c9) + 1)) (xs ((4 * c9) + 2))
            have hbd2 := lawC_le hV9 (by omega)
            have hcs := lawC_s (c := c9) hco
            refine ct_callSH (bytes := b_Law_cut) (maxL := 4) (ret := some .int) (hs := [(0, 6, 9, 13)]) (As := [.ref o0, .int (xs ((4 * c9) + 1)), .int (xs ((4 * c9) + 2))]) (rest := []) hz ⟨hx, hb, hml, hown, ht⟩ hH9 rfl rfl hr9.1 hr9.2 (pay_in ht (tb_good kh_cut)) List.mem_cons_self (ht _ kh_cut) (ht _ kn_Law) ⟨hd_Law_cut.1, hd_Law_cut.2.1⟩ (hd_len hd_Law_cut) (ht _ kl_Law_94) (ht _ ki_Law_cut) (wd_ct (Bs := [[(q17, .inl (cJ, 1, .inr (.inl fo)))], ws, wr]) 3 rfl [1] [0, 2] (by decide) rfl) hK hP hD hS hA rfl hl.1 rfl (Nat.le_of_ble_eq_true rfl) ⟨Nat.le_trans hcs.1 hbd2.1, Nat.le_trans hcs.2 hbd2.2⟩ d_Law_law_257 (fun r9 u8 H locs hpo hP hD hS => ?_)
            refine W.widen (k := lawC S2 (c9 + 1)) (n := lawS S2 (c9 + 1)) hcs.1 hcs.2 ?_
            obtain ⟨rfl, u9, hN9, rfl⟩ := hpo
            have hP := wd_nP (N := [u9]) rfl 3 rfl [1, 0, 2] (by decide) hP
            have hD := wd_nD (N := [u9]) rfl 3 rfl [1, 0, 2] (by decide) hD
            have hP : va_P D kls (List.flatten [[(q17, .inl (cJ, 1, .inr (.inl fo)))], u9, wr]) H := hP
            have hD : va_D A (List.flatten [[(q17, .inl (cJ, 1, .inr (.inl fo)))], u9, wr]) := hD
            refine W.eq (g2 := F0 m 260 ls [.int (nI k9)]) rfl ?_
            obtain ⟨fs9, mR9⟩ := rf_mem hRf
            refine lv_istore hx hb d_Law_law_260 hl (by decide) rfl (fun ls hl => ?_)
            have hl : lv_has ls 7 [(5, .int (nI k9)), (4, .int (nI (4 * c9))), (3, .ref q17), (2, .ref o8), (1, .ref o0), (0, .ref b)] := hl
            refine lv_aload_n hx hb d_Law_law_262 rfl (lv_at hl 3 rfl) ?_
            refine lv_aload_n hx hb d_Law_law_263 rfl (lv_at hl 5 rfl) ?_
            refine lv_iload hx hb d_Law_law_264 (lv_at hl 1 rfl) ?_
            refine lv_iconst (v := nI 1) hx hb d_Law_law_266 (by decide) ?_
            refine ri_iadd hx hb d_Law_law_267 ?_
            refine va_sld hx hb hX hbl hbA hS (i := nI ((4 * c9) + 1)) (vp_in_nI (show (4 * c9) + 1 < L by omega) (show L < 2147483648 by omega)) d_Law_law_268 ?_
            refine W.eq (g2 := F0 m 269 ls [.int (xs ((4 * c9) + 1)), .ref o8]) (congrArg (fun z => F0 m 269 ls (.int z :: [.ref o8])) (congrArg xs (nI_clamp (show (4 * c9) + 1 < 2 ^ 31 by omega)))) ?_
            refine lv_aload_n hx hb d_Law_law_269 rfl (lv_at hl 5 rfl) ?_
            refine lv_iload hx hb d_Law_law_270 (lv_at hl 1 rfl) ?_
            refine lv_iconst (v := nI 2) hx hb d_Law_law_272 (by decide) ?_
            refine ri_iadd hx hb d_Law_law_273 ?_
            refine va_sld hx hb hX hbl hbA hS (i := nI ((4 * c9) + 2)) (vp_in_nI (show (4 * c9) + 2 < L by omega) (show L < 2147483648 by omega)) d_Law_law_274 ?_
            refine W.eq (g2 := F0 m 275 ls [.int (xs ((4 * c9) + 2)), .int (xs ((4 * c9) + 1)), .ref o8]) (congrArg (fun z => F0 m 275 ls (.int z :: [.int (xs ((4 * c9) + 1)), .ref o8])) (congrArg xs (nI_clamp (show (4 * c9) + 2 < 2 ^ 31 by omega)))) ?_
            refine ct_callVV (C := R_Ref) (ci := 9) (As := [.int (xs ((4 * c9) + 1)), .int (xs ((4 * c9) + 2))]) (rest := []) ⟨hx, hb, hml, hown, ht⟩ (hV8) (cb_V ht kc_Ref_cut kl_Law_96 kn_Ref ki_Ref_cut ks_Ref_cut hd_Ref_cut hr8) (wd_mem 2 rfl mR9) rfl rfl (wd_ct (Bs := [[(q17, .inl (cJ, 1, .inr (.inl fo)))], u9, wr]) 3 rfl [2] [0, 1] (by decide) (wd_1 _)) hK hP hD hS hA rfl hl.1 rfl (Nat.le_of_ble_eq_true rfl) ⟨hbd2.1, hbd2.2⟩ d_Law_law_275 (fun u111 H locs hu111 hP hD hS => ?_)
            have hRf9 := hu111
            refine W.widen (k := lawC S2 (c9 + 1)) (n := lawS S2 (c9 + 1)) (Nat.le_refl _) (Nat.le_refl _) ?_
            have hP := wd_nP (N := [u111]) (wd_1 _) 3 rfl [1, 2, 0] (by decide) hP
            have hD := wd_nD (N := [u111]) (wd_1 _) 3 rfl [1, 2, 0] (by decide) hD
            have hP : va_P D kls (List.flatten [[(q17, .inl (cJ, 1, .inr (.inl fo)))], u9, u111]) H := hP
            have hD : va_D A (List.flatten [[(q17, .inl (cJ, 1, .inr (.inl fo)))], u9, u111]) := hD
            refine W.eq (g2 := F0 m 278 ls []) rfl ?_
            obtain ⟨fs7, mR7⟩ := rf_mem hRf9
            refine lv_aload_n hx hb d_Law_law_278 rfl (lv_at hl 3 rfl) ?_
            refine ct_rdV (C := R_Ref) (ci := 9) (As := []) (rest := []) ⟨hx, hb, hml, hown, ht⟩ (k_Ref_thr l D cI cZ cJ cG hRf9) (cb_V ht kc_Ref_thrown kl_Law_86 kn_Ref ki_Ref_thrown ks_Ref_thrown hd_Ref_thrown ⟨Nat.le_of_ble_eq_true rfl, Nat.le_of_ble_eq_true rfl⟩) (wd_mem 2 rfl mR7) rfl rfl (wd_ct (Bs := [[(q17, .inl (cJ, 1, .inr (.inl fo)))], u9, u111]) 3 rfl [2] [0, 1] (by decide) (wd_1 _)) hK hP hD hS hA rfl hl.1 rfl (Nat.le_of_ble_eq_true rfl) ⟨(show (lawC S2 (c9 + 1)) + 0 ≤ 601024 by omega), (show (lawS S2 (c9 + 1)) + 0 ≤ 7293034 by omega)⟩ d_Law_law_279 (fun rhr112 H locs hr112 hP hD hS => ?_)
            subst hr112
            refine lv_iload hx hb d_Law_law_282 (lv_at hl 0 rfl) ?_
            refine ri_icmp_eq hx hb (by omega) (by omega) d_Law_law_284 (tgt := 289) (by decide) (fun hq1 => ?_) (fun hq1 => ?_)
            · refine lv_goto hx hb d_Law_law_289 (tgt := 1286) (by decide) ?_
              refine lv_iinc hx hb d_Law_law_1286 hl (k := 1) rfl (v := nI ((4 * c9) + 4)) (by rw [← nI_add]; rfl) (by decide) rfl (fun ls hl => ?_)
              have hl : lv_has ls 7 [(4, .int (nI ((4 * c9) + 4))), (5, .int (nI k9)), (3, .ref q17), (2, .ref o8), (1, .ref o0), (0, .ref b)] := hl
              refine lv_goto hx hb d_Law_law_1289 (tgt := 23) (by decide) ?_
              exact ih (c9 + 1) S2 (nI k9) fo u9 u111 H locs ls (by omega) hV9 hN9 hRf9 hP hD hS (lv_sub hl [0, 2, 3, 4, 5] rfl)
            · exact absurd hq1 (fun z => z rfl)
          · refine lv_tableIn hx hb d_Law_law_39 (by decide +kernel) (by decide +kernel) (off := 253) (by decide +kernel) (tgt := 292) (by decide) ?_
            refine lv_aload_n hx hb d_Law_law_292 rfl (lv_at hl 3 rfl) ?_
            refine lv_aload_n hx hb d_Law_law_293 rfl (lv_at hl 4 rfl) ?_
            refine lv_iload hx hb d_Law_law_294 (lv_at hl 0 rfl) ?_
            refine lv_iconst (v := nI 1) hx hb d_Law_law_296 (by decide) ?_
            refine ri_iadd hx hb d_Law_law_297 ?_
            refine va_sld hx hb hX hbl hbA hS (i := nI ((4 * c9) + 1)) (vp_in_nI (show (4 * c9) + 1 < L by omega) (show L < 2147483648 by omega)) d_Law_law_298 ?_
            refine W.eq (g2 := F0 m 299 ls [.int (xs ((4 * c9) + 1)), .ref o0]) (congrArg (fun z => F0 m 299 ls (.int z :: [.ref o0])) (congrArg xs (nI_clamp (show (4 * c9) + 1 < 2 ^ 31 by omega)))) ?_
            refine lv_aload_n hx hb d_Law_law_299 rfl (lv_at hl 4 rfl) ?_
            refine lv_iload hx hb d_Law_law_300 (lv_at hl 0 rfl) ?_
            refine lv_iconst (v := nI 2) hx hb d_Law_law_302 (by decide) ?_
            refine ri_iadd hx hb d_Law_law_303 ?_
            refine va_sld hx hb hX hbl hbA hS (i := nI ((4 * c9) + 2)) (vp_in_nI (show (4 * c9) + 2 < L by omega) (show L < 2147483648 by omega)) d_Law_law_304 ?_
            refine W.eq (g2 := F0 m 305 ls [.int (xs ((4 * c9) + 2)), .int (xs ((4 * c9) + 1)), .ref o0]) (congrArg (fun z => F0 m 305 ls (.int z :: [.int (xs ((4 * c9) + 1)), .ref o0])) (congrArg xs (nI_clamp (show (4 * c9) + 2 < 2 ^ 31 by omega)))) ?_
            obtain ⟨k9, S2, mc9, ms9, F9, L9, F8, L8, hk9, hV9, hco, hr9, hr8, hH9, hV8⟩ := cs_notice l s A0 h0 hnc hfl D cI cZ cJ cG hN hRf hv (by omega) (xs ((4 * c9) + 1)) (xs ((4 * c9) + 2))
            have hbd2 := lawC_le hV9 (by omega)
            have hcs := lawC_s (c := c9) hco
            refine ct_callSH (bytes := b_Law_notice) (maxL := 4) (ret := some .int) (hs := [(0, 6, 9, 19), (0, 6, 12, 13)]) (As := [.ref o0, .int (xs ((4 * c9) + 1)), .int (xs ((4 * c9) + 2))]) (rest := []) hz ⟨hx, hb, hml, hown, ht⟩ hH9 rfl rfl hr9.1 hr9.2 (pay_in ht (tb_good kh_notice)) List.mem_cons_self (ht _ kh_notice) (ht _ kn_Law) ⟨hd_Law_notice.1, hd_Law_notice.2.1⟩ (hd_len hd_Law_notice) (ht _ kl_Law_97) (ht _ ki_Law_notice) (wd_ct (Bs := [[(q17, .inl (cJ, 1, .inr (.inl fo)))], ws, wr]) 3 rfl [1] [0, 2] (by decide) rfl) hK hP hD hS hA rfl hl.1 rfl (Nat.le_of_ble_eq_true rfl) ⟨Nat.le_trans hcs.1 hbd2.1, Nat.le_trans hcs.2 hbd2.2⟩ d_Law_law_305 (fun r9 u8 H locs hpo hP hD hS => ?_)
            refine W.widen (k := lawC S2 (c9 + 1)) (n := lawS S2 (c9 + 1)) hcs.1 hcs.2 ?_
            obtain ⟨rfl, u9, hN9, rfl⟩ := hpo
            have hP := wd_nP (N := [u9]) rfl 3 rfl [1, 0, 2] (by decide) hP
            have hD := wd_nD (N := [u9]) rfl 3 rfl [1, 0, 2] (by decide) hD
            have hP : va_P D kls (List.flatten [[(q17, .inl (cJ, 1, .inr (.inl fo)))], u9, wr]) H := hP
            have hD : va_D A (List.flatten [[(q17, .inl (cJ, 1, .inr (.inl fo)))], u9, wr]) := hD
            refine W.eq (g2 := F0 m 308 ls [.int (nI k9)]) rfl ?_
            obtain ⟨fs9, mR9⟩ := rf_mem hRf
            refine lv_istore hx hb d_Law_law_308 hl (by decide) rfl (fun ls hl => ?_)
            have hl : lv_has ls 7 [(5, .int (nI k9)), (4, .int (nI (4 * c9))), (3, .ref q17), (2, .ref o8), (1, .ref o0), (0, .ref b)] := hl
            refine lv_aload_n hx hb d_Law_law_310 rfl (lv_at hl 3 rfl) ?_
            refine lv_aload_n hx hb d_Law_law_311 rfl (lv_at hl 5 rfl) ?_
            refine lv_iload hx hb d_Law_law_312 (lv_at hl 1 rfl) ?_
            refine lv_iconst (v := nI 1) hx hb d_Law_law_314 (by decide) ?_
            refine ri_iadd hx hb d_Law_law_315 ?_
            refine va_sld hx hb hX hbl hbA hS (i := nI ((4 * c9) + 1)) (vp_in_nI (show (4 * c9) + 1 < L by omega) (show L < 2147483648 by omega)) d_Law_law_316 ?_
            refine W.eq (g2 := F0 m 317 ls [.int (xs ((4 * c9) + 1)), .ref o8]) (congrArg (fun z => F0 m 317 ls (.int z :: [.ref o8])) (congrArg xs (nI_clamp (show (4 * c9) + 1 < 2 ^ 31 by omega)))) ?_
            refine lv_aload_n hx hb d_Law_law_317 rfl (lv_at hl 5 rfl) ?_
            refine lv_iload hx hb d_Law_law_318 (lv_at hl 1 rfl) ?_
            refine lv_iconst (v := nI 2) hx hb d_Law_law_320 (by decide) ?_
            refine ri_iadd hx hb d_Law_law_321 ?_
            refine va_sld hx hb hX hbl hbA hS (i := nI ((4 * c9) + 2)) (vp_in_nI (show (4 * c9) + 2 < L by omega) (show L < 2147483648 by omega)) d_Law_law_322 ?_
            refine W.eq (g2 := F0 m 323 ls [.int (xs ((4 * c9) + 2)), .int (xs ((4 * c9) + 1)), .ref o8]) (congrArg (fun z => F0 m 323 ls (.int z :: [.int (xs ((4 * c9) + 1)), .ref o8])) (congrArg xs (nI_clamp (show (4 * c9) + 2 < 2 ^ 31 by omega)))) ?_
            refine ct_callVV (C := R_Ref) (ci := 9) (As := [.int (xs ((4 * c9) + 1)), .int (xs ((4 * c9) + 2))]) (rest := []) ⟨hx, hb, hml, hown, ht⟩ (hV8) (cb_V ht kc_Ref_notice kl_Law_99 kn_Ref ki_Ref_notice ks_Ref_notice hd_Ref_notice hr8) (wd_mem 2 rfl mR9) rfl rfl (wd_ct (Bs := [[(q17, .inl (cJ, 1, .inr (.inl fo)))], u9, wr]) 3 rfl [2] [0, 1] (by decide) (wd_1 _)) hK hP hD hS hA rfl hl.1 rfl (Nat.le_of_ble_eq_true rfl) ⟨hbd2.1, hbd2.2⟩ d_Law_law_323 (fun u114 H locs hu114 hP hD hS => ?_)
            have hRf9 := hu114
            refine W.widen (k := lawC S2 (c9 + 1)) (n := lawS S2 (c9 + 1)) (Nat.le_refl _) (Nat.le_refl _) ?_
            have hP := wd_nP (N := [u114]) (wd_1 _) 3 rfl [1, 2, 0] (by decide) hP
            have hD := wd_nD (N := [u114]) (wd_1 _) 3 rfl [1, 2, 0] (by decide) hD
            have hP : va_P D kls (List.flatten [[(q17, .inl (cJ, 1, .inr (.inl fo)))], u9, u114]) H := hP
            have hD : va_D A (List.flatten [[(q17, .inl (cJ, 1, .inr (.inl fo)))], u9, u114]) := hD
            refine W.eq (g2 := F0 m 326 ls []) rfl ?_
            obtain ⟨fs7, mR7⟩ := rf_mem hRf9
            refine lv_aload_n hx hb d_Law_law_326 rfl (lv_at hl 3 rfl) ?_
            refine ct_rdV (C := R_Ref) (ci := 9) (As := []) (rest := []) ⟨hx, hb, hml, hown, ht⟩ (k_Ref_thr l D cI cZ cJ cG hRf9) (cb_V ht kc_Ref_thrown kl_Law_86 kn_Ref ki_Ref_thrown ks_Ref_thrown hd_Ref_thrown ⟨Nat.le_of_ble_eq_true rfl, Nat.le_of_ble_eq_true rfl⟩) (wd_mem 2 rfl mR7) rfl rfl (wd_ct (Bs := [[(q17, .inl (cJ, 1, .inr (.inl fo)))], u9, u114]) 3 rfl [2] [0, 1] (by decide) (wd_1 _)) hK hP hD hS hA rfl hl.1 rfl (Nat.le_of_ble_eq_true rfl) ⟨(show (lawC S2 (c9 + 1)) + 0 ≤ 601024 by omega), (show (lawS S2 (c9 + 1)) + 0 ≤ 7293034 by omega)⟩ d_Law_law_327 (fun rhr115 H locs hr115 hP hD hS => ?_)
            subst hr115
            refine lv_iload hx hb d_Law_law_330 (lv_at hl 0 rfl) ?_
            refine ri_icmp_eq hx hb (by omega) (by omega) d_Law_law_332 (tgt := 337) (by decide) (fun hq1 => ?_) (fun hq1 => ?_)
            · refine lv_goto hx hb d_Law_law_337 (tgt := 1286) (by decide) ?_
              refine lv_iinc hx hb d_Law_law_1286 hl (k := 1) rfl (v := nI ((4 * c9) + 4)) (by rw [← nI_add]; rfl) (by decide) rfl (fun ls hl => ?_)
              have hl : lv_has ls 7 [(4, .int (nI ((4 * c9) + 4))), (5, .int (nI k9)), (3, .ref q17), (2, .ref o8), (1, .ref o0), (0, .ref b)] := hl
              refine lv_goto hx hb d_Law_law_1289 (tgt := 23) (by decide) ?_
              exact ih (c9 + 1) S2 (nI k9) fo u9 u114 H locs ls (by omega) hV9 hN9 hRf9 hP hD hS (lv_sub hl [0, 2, 3, 4, 5] rfl)
            · exact absurd hq1 (fun z => z rfl)
          · refine lv_tableIn hx hb d_Law_law_39 (by decide +kernel) (by decide +kernel) (off := 301) (by decide +kernel) (tgt := 340) (by decide) ?_
            refine lv_aload_n hx hb d_Law_law_340 rfl (lv_at hl 3 rfl) ?_
            refine lv_aload_n hx hb d_Law_law_341 rfl (lv_at hl 4 rfl) ?_
            refine lv_iload hx hb d_Law_law_342 (lv_at hl 0 rfl) ?_
            refine lv_iconst (v := nI 1) hx hb d_Law_law_344 (by decide) ?_
            refine ri_iadd hx hb d_Law_law_345 ?_
            refine va_sld hx hb hX hbl hbA hS (i := nI ((4 * c9) + 1)) (vp_in_nI (show (4 * c9) + 1 < L by omega) (show L < 2147483648 by omega)) d_Law_law_346 ?_
            refine W.eq (g2 := F0 m 347 ls [.int (xs ((4 * c9) + 1)), .ref o0]) (congrArg (fun z => F0 m 347 ls (.int z :: [.ref o0])) (congrArg xs (nI_clamp (show (4 * c9) + 1 < 2 ^ 31 by omega)))) ?_
            refine lv_aload_n hx hb d_Law_law_347 rfl (lv_at hl 1 rfl) ?_
            obtain ⟨k9, v9, S2, mc9, ms9, F9, L9, F8, L8, hk9, hV9, hco, hr9, hr8, hH9, hV8⟩ := cs_step l s A0 h0 hnc hfl D cI cZ cJ cG (qo := q17) (fo := fo) hN hRf hv (by omega) (xs ((4 * c9) + 1))
            have hbd2 := lawC_le hV9 (by omega)
            have hcs := lawC_s (c := c9) hco
            refine ct_callSH (bytes := b_Law_step) (maxL := 4) (ret := some .int) (hs := [(0, 9, 12, 19), (0, 9, 15, 13)]) (As := [.ref o0, .int (xs ((4 * c9) + 1)), .ref q17]) (rest := []) hz ⟨hx, hb, hml, hown, ht⟩ hH9 rfl rfl hr9.1 hr9.2 (pay_in ht (tb_good kh_step)) List.mem_cons_self (ht _ kh_step) (ht _ kn_Law) ⟨hd_Law_step.1, hd_Law_step.2.1⟩ (hd_len hd_Law_step) (ht _ kl_Law_100) (ht _ ki_Law_step) (wd_ct (Bs := [[(q17, .inl (cJ, 1, .inr (.inl fo)))], ws, wr]) 3 rfl [0, 1] [2] (by decide) rfl) hK hP hD hS hA rfl hl.1 rfl (Nat.le_of_ble_eq_true rfl) ⟨Nat.le_trans hcs.1 hbd2.1, Nat.le_trans hcs.2 hbd2.2⟩ d_Law_law_348 (fun r9 u8 H locs hpo hP hD hS => ?_)
            refine W.widen (k := lawC S2 (c9 + 1)) (n := lawS S2 (c9 + 1)) hcs.1 hcs.2 ?_
            obtain ⟨rfl, f9, u9, hf9, hN9, rfl⟩ := hpo
            have hP := wd_nP (N := [ow cJ q17 f9, u9]) rfl 3 rfl [0, 1, 2] (by decide) hP
            have hD := wd_nD (N := [ow cJ q17 f9, u9]) rfl 3 rfl [0, 1, 2] (by decide) hD
            have hP : va_P D kls (List.flatten [[(q17, .inl (cJ, 1, .inr (.inl f9)))], u9, wr]) H := hP
            have hD : va_D A (List.flatten [[(q17, .inl (cJ, 1, .inr (.inl f9)))], u9, wr]) := hD
            refine W.eq (g2 := F0 m 351 ls [.int (nI k9)]) rfl ?_
            obtain ⟨fs9, mR9⟩ := rf_mem hRf
            refine lv_istore hx hb d_Law_law_351 hl (by decide) rfl (fun ls hl => ?_)
            have hl : lv_has ls 7 [(5, .int (nI k9)), (4, .int (nI (4 * c9))), (3, .ref q17), (2, .ref o8), (1, .ref o0), (0, .ref b)] := hl
            refine lv_aload_n hx hb d_Law_law_353 rfl (lv_at hl 3 rfl) ?_
            refine lv_aload_n hx hb d_Law_law_354 rfl (lv_at hl 5 rfl) ?_
            refine lv_iload hx hb d_Law_law_355 (lv_at hl 1 rfl) ?_
            refine lv_iconst (v := nI 1) hx hb d_Law_law_357 (by decide) ?_
            refine ri_iadd hx hb d_Law_law_358 ?_
            refine va_sld hx hb hX hbl hbA hS (i := nI ((4 * c9) + 1)) (vp_in_nI (show (4 * c9) + 1 < L by omega) (show L < 2147483648 by omega)) d_Law_law_359 ?_
            refine W.eq (g2 := F0 m 360 ls [.int (xs ((4 * c9) + 1)), .ref o8]) (congrArg (fun z => F0 m 360 ls (.int z :: [.ref o8])) (congrArg xs (nI_clamp (show (4 * c9) + 1 < 2 ^ 31 by omega)))) ?_
            refine ct_callVI (C := R_Ref) (ci := 9) (As := [.int (xs ((4 * c9) + 1))]) (rest := []) ⟨hx, hb, hml, hown, ht⟩ (hV8) (cb_V ht kc_Ref_step kl_Law_103 kn_Ref ki_Ref_step ks_Ref_step hd_Ref_step hr8) (wd_mem 2 rfl mR9) rfl rfl (wd_ct (Bs := [[(q17, .inl (cJ, 1, .inr (.inl f9)))], u9, wr]) 3 rfl [2] [0, 1] (by decide) (wd_1 _)) hK hP hD hS hA rfl hl.1 rfl (Nat.le_of_ble_eq_true rfl) ⟨hbd2.1, hbd2.2⟩ d_Law_law_360 (fun ru117 u117 H locs hu117 hP hD hS => ?_)
            obtain ⟨hz9, hRf9⟩ := hu117
            refine W.widen (k := lawC S2 (c9 + 1)) (n := lawS S2 (c9 + 1)) (Nat.le_refl _) (Nat.le_refl _) ?_
            have hP := wd_nP (N := [u117]) (wd_1 _) 3 rfl [1, 2, 0] (by decide) hP
            have hD := wd_nD (N := [u117]) (wd_1 _) 3 rfl [1, 2, 0] (by decide) hD
            have hP : va_P D kls (List.flatten [[(q17, .inl (cJ, 1, .inr (.inl f9)))], u9, u117]) H := hP
            have hD : va_D A (List.flatten [[(q17, .inl (cJ, 1, .inr (.inl f9)))], u9, u117]) := hD
            refine W.eq (g2 := F0 m 363 ls [.int ru117]) rfl ?_
            obtain ⟨fs7, mR7⟩ := rf_mem hRf9
            refine lv_istore hx hb d_Law_law_363 hl (by decide) rfl (fun ls hl => ?_)
            have hl : lv_has ls 7 [(6, .int ru117), (5, .int (nI k9)), (4, .int (nI (4 * c9))), (3, .ref q17), (2, .ref o8), (1, .ref o0), (0, .ref b)] := hl
            refine lv_aload_n hx hb d_Law_law_365 rfl (lv_at hl 4 rfl) ?_
            refine ct_rdV (C := R_Ref) (ci := 9) (As := []) (rest := []) ⟨hx, hb, hml, hown, ht⟩ (k_Ref_thr l D cI cZ cJ cG hRf9) (cb_V ht kc_Ref_thrown kl_Law_86 kn_Ref ki_Ref_thrown ks_Ref_thrown hd_Ref_thrown ⟨Nat.le_of_ble_eq_true rfl, Nat.le_of_ble_eq_true rfl⟩) (wd_mem 2 rfl mR7) rfl rfl (wd_ct (Bs := [[(q17, .inl (cJ, 1, .inr (.inl f9)))], u9, u117]) 3 rfl [2] [0, 1] (by decide) (wd_1 _)) hK hP hD hS hA rfl hl.1 rfl (Nat.le_of_ble_eq_true rfl) ⟨(show (lawC S2 (c9 + 1)) + 0 ≤ 601024 by omega), (show (lawS S2 (c9 + 1)) + 0 ≤ 7293034 by omega)⟩ d_Law_law_366 (fun rhr118 H locs hr118 hP hD hS => ?_)
            subst hr118
            refine lv_iload hx hb d_Law_law_369 (lv_at hl 1 rfl) ?_
            refine ri_icmp_eq hx hb (by omega) (by omega) d_Law_law_371 (tgt := 376) (by decide) (fun hq1 => ?_) (fun hq1 => ?_)
            · refine lv_iload hx hb d_Law_law_376 (lv_at hl 1 rfl) ?_
              refine ri_if_ne hx hb (by omega) d_Law_law_378 (tgt := 393) (by decide) (fun hq2 => ?_) (fun hq2 => ?_)
              · refine lv_goto hx hb d_Law_law_393 (tgt := 1286) (by decide) ?_
                refine lv_iinc hx hb d_Law_law_1286 hl (k := 2) rfl (v := nI ((4 * c9) + 4)) (by rw [← nI_add]; rfl) (by decide) rfl (fun ls hl => ?_)
                have hl : lv_has ls 7 [(4, .int (nI ((4 * c9) + 4))), (6, .int ru117), (5, .int (nI k9)), (3, .ref q17), (2, .ref o8), (1, .ref o0), (0, .ref b)] := hl
                refine lv_goto hx hb d_Law_law_1289 (tgt := 23) (by decide) ?_
                exact ih (c9 + 1) S2 (nI k9) f9 u9 u117 H locs ls (by omega) hV9 hN9 hRf9 hP hD hS (lv_sub hl [0, 3, 4, 5, 6] rfl)
              · refine lv_aload_n hx hb d_Law_law_381 rfl (lv_at hl 3 rfl) ?_
                refine lv_iconst (v := nI 0) hx hb d_Law_law_382 (by decide) ?_
                refine ri_lald hx hb hK hP 0 2 rfl rfl (j := 0) (by omega) (by omega) d_Law_law_383 ?_
                refine W.eq (g2 := F0 m 384 ls [.long v9.toInt64]) (congrArg (fun z => F0 m 384 ls (.long z :: [])) (hf9 (by omega))) ?_
                refine lv_iload hx hb d_Law_law_384 (lv_at hl 0 rfl) ?_
                refine W.eq (g2 := F0 m 386 ls [.int v9, .long v9.toInt64]) (congrArg (fun z => F0 m 386 ls (.int z :: [.long v9.toInt64])) (hz9 (by omega))) ?_
                refine lv_i2l (v := v9.toInt64) hx hb d_Law_law_386 rfl ?_
                refine ri_lcmp hx hb d_Law_law_387 ?_
                refine lv_if_eq hx hb d_Law_law_388 (tgt := 393) (by decide) (fun hq3 => ?_) (fun hq3 => ?_)
                · refine lv_goto hx hb d_Law_law_393 (tgt := 1286) (by decide) ?_
                  refine lv_iinc hx hb d_Law_law_1286 hl (k := 2) rfl (v := nI ((4 * c9) + 4)) (by rw [← nI_add]; rfl) (by decide) rfl (fun ls hl => ?_)
                  have hl : lv_has ls 7 [(4, .int (nI ((4 * c9) + 4))), (6, .int ru117), (5, .int (nI k9)), (3, .ref q17), (2, .ref o8), (1, .ref o0), (0, .ref b)] := hl
                  refine lv_goto hx hb d_Law_law_1289 (tgt := 23) (by decide) ?_
                  exact ih (c9 + 1) S2 (nI k9) f9 u9 u117 H locs ls (by omega) hV9 hN9 hRf9 hP hD hS (lv_sub hl [0, 3, 4, 5, 6] rfl)
                · exact absurd hq3 (fun z => z (lc_0 _))
            · exact absurd hq1 (fun z => z rfl)
          · refine lv_tableIn hx hb d_Law_law_39 (by decide +kernel) (by decide +kernel) (off := 357) (by decide +kernel) (tgt := 396) (by decide) ?_
            refine lv_aload_n hx hb d_Law_law_396 rfl (lv_at hl 3 rfl) ?_
            obtain ⟨fs8, mN8⟩ := nt_mem hN
            obtain ⟨fs9, mR9⟩ := rf_mem hRf
            refine ct_rdV (C := R_Net) (ci := 8) (As := []) (rest := []) ⟨hx, hb, hml, hown, ht⟩ (k_Net_settled l D cI cZ cJ cG hN (hv.si (by omega))) (cb_V ht kc_Net_settled kl_Law_104 kn_Net ki_Net_settled ks_Net_settled hd_Net_settled ⟨Nat.le_of_ble_eq_true rfl, Nat.le_of_ble_eq_true rfl⟩) (wd_mem 1 rfl mN8) rfl rfl (wd_ct (Bs := [[(q17, .inl (cJ, 1, .inr (.inl fo)))], ws, wr]) 3 rfl [1] [0, 2] (by decide) (wd_1 _)) hK hP hD hS hA rfl hl.1 rfl (Nat.le_of_ble_eq_true rfl) ⟨(show (lawC S c9) + 0 ≤ 601024 by omega), (show (lawS S c9) + 0 ≤ 7293034 by omega)⟩ d_Law_law_397 (fun rhr122 H locs hr122 hP hD hS => ?_)
            have hzs := hr122
            rw [hzs]
            refine lv_aload_n hx hb d_Law_law_400 rfl (lv_at hl 2 rfl) ?_
            refine ct_callVI (C := R_Ref) (ci := 9) (As := []) (rest := [.int (bI (bP (S.T.2.2.1.2.1 = 0 ∧ bm_agree S.lk S.T.2.1)))]) ⟨hx, hb, hml, hown, ht⟩ (k_Ref_settled l D cI cZ cJ cG hRf (hv.ri (by omega))) (cb_V ht kc_Ref_settled kl_Law_108 kn_Ref ki_Ref_settled ks_Ref_settled hd_Ref_settled ⟨Nat.le_of_ble_eq_true rfl, Nat.le_of_ble_eq_true rfl⟩) (wd_mem 2 rfl mR9) rfl rfl (wd_ct (Bs := [[(q17, .inl (cJ, 1, .inr (.inl fo)))], ws, wr]) 3 rfl [2] [0, 1] (by decide) (wd_1 _)) hK hP hD hS hA rfl hl.1 rfl (Nat.le_of_ble_eq_true rfl) ⟨hbd.1, hbd.2⟩ d_Law_law_401 (fun ru123 u123 H locs hu123 hP hD hS => ?_)
            obtain ⟨hzr, hRf8⟩ := hu123
            rw [hzr]
            refine W.widen (k := lawC S c9) (n := lawS S c9) (Nat.le_refl _) (Nat.le_refl _) ?_
            have hP := wd_nP (N := [u123]) (wd_1 _) 3 rfl [1, 2, 0] (by decide) hP
            have hD := wd_nD (N := [u123]) (wd_1 _) 3 rfl [1, 2, 0] (by decide) hD
            have hP : va_P D kls (List.flatten [[(q17, .inl (cJ, 1, .inr (.inl fo)))], ws, u123]) H := hP
            have hD : va_D A (List.flatten [[(q17, .inl (cJ, 1, .inr (.inl fo)))], ws, u123]) := hD
            refine W.eq (g2 := F0 m 404 ls [.int (bI (bP (sq S 12 0 0))), .int (bI (bP (S.T.2.2.1.2.1 = 0 ∧ bm_agree S.lk S.T.2.1)))]) rfl ?_
            refine lv_icmp_eq hx hb d_Law_law_404 (tgt := 1286) (by decide) (fun hq4 => ?_) (fun hq4 => ?_)
            · refine lv_iinc hx hb d_Law_law_1286 hl (k := 0) rfl (v := nI ((4 * c9) + 4)) (by rw [← nI_add]; rfl) (by decide) rfl (fun ls hl => ?_)
              have hl : lv_has ls 7 [(4, .int (nI ((4 * c9) + 4))), (3, .ref q17), (2, .ref o8), (1, .ref o0), (0, .ref b)] := hl
              refine lv_goto hx hb d_Law_law_1289 (tgt := 23) (by decide) ?_
              refine W.widen (k := lawC S (c9 + 1)) (n := lawS S (c9 + 1)) (by unfold lawC; omega) (by unfold lawS; omega) ?_
              exact ih (c9 + 1) S (nI 0) fo ws u123 H locs ls (by omega) hv.more hN hRf8 hP hD hS (lv_sub hl [0, 1, 2, 3, 4] rfl)
            · exact absurd hq4 (fun z => z (congrArg bI (bP_congr (settled_eq hv).symm)))
          · refine lv_tableIn hx hb d_Law_law_39 (by decide +kernel) (by decide +kernel) (off := 370) (by decide +kernel) (tgt := 409) (by decide) ?_
            refine lv_aload_n hx hb d_Law_law_409 rfl (lv_at hl 3 rfl) ?_
            refine lv_aload_n hx hb d_Law_law_410 rfl (lv_at hl 4 rfl) ?_
            refine lv_iload hx hb d_Law_law_411 (lv_at hl 0 rfl) ?_
            refine lv_iconst (v := nI 1) hx hb d_Law_law_413 (by decide) ?_
            refine ri_iadd hx hb d_Law_law_414 ?_
            refine va_sld hx hb hX hbl hbA hS (i := nI ((4 * c9) + 1)) (vp_in_nI (show (4 * c9) + 1 < L by omega) (show L < 2147483648 by omega)) d_Law_law_415 ?_
            refine W.eq (g2 := F0 m 416 ls [.int (xs ((4 * c9) + 1)), .ref o0]) (congrArg (fun z => F0 m 416 ls (.int z :: [.ref o0])) (congrArg xs (nI_clamp (show (4 * c9) + 1 < 2 ^ 31 by omega)))) ?_
            refine lv_aload_n hx hb d_Law_law_416 rfl (lv_at hl 4 rfl) ?_
            refine lv_iload hx hb d_Law_law_417 (lv_at hl 0 rfl) ?_
            refine lv_iconst (v := nI 2) hx hb d_Law_law_419 (by decide) ?_
            refine ri_iadd hx hb d_Law_law_420 ?_
            refine va_sld hx hb hX hbl hbA hS (i := nI ((4 * c9) + 2)) (vp_in_nI (show (4 * c9) + 2 < L by omega) (show L < 2147483648 by omega)) d_Law_law_421 ?_
            refine W.eq (g2 := F0 m 422 ls [.int (xs ((4 * c9) + 2)), .int (xs ((4 * c9) + 1)), .ref o0]) (congrArg (fun z => F0 m 422 ls (.int z :: [.int (xs ((4 * c9) + 1)), .ref o0])) (congrArg xs (nI_clamp (show (4 * c9) + 2 < 2 ^ 31 by omega)))) ?_
            refine lv_aload_n hx hb d_Law_law_422 rfl (lv_at hl 1 rfl) ?_
            obtain ⟨k9, v9, S2, mc9, ms9, F9, L9, F8, L8, hk9, hV9, hco, hr9, hr8, hH9, hV8⟩ := cs_mask l s A0 h0 hnc hfl D cI cZ cJ cG (qo := q17) (fo := fo) hN hRf hv (by omega) (xs ((4 * c9) + 1)) (xs ((4 * c9) + 2))
            have hbd2 := lawC_le hV9 (by omega)
            have hcs := lawC_s (c := c9) hco
            refine ct_callSH (bytes := b_Law_mask) (maxL := 5) (ret := some .int) (hs := [(0, 10, 13, 13)]) (As := [.ref o0, .int (xs ((4 * c9) + 1)), .int (xs ((4 * c9) + 2)), .ref q17]) (rest := []) hz ⟨hx, hb, hml, hown, ht⟩ hH9 rfl rfl hr9.1 hr9.2 (pay_in ht (tb_good kh_mask)) List.mem_cons_self (ht _ kh_mask) (ht _ kn_Law) ⟨hd_Law_mask.1, hd_Law_mask.2.1⟩ (hd_len hd_Law_mask) (ht _ kl_Law_109) (ht _ ki_Law_mask) (wd_ct (Bs := [[(q17, .inl (cJ, 1, .inr (.inl fo)))], ws, wr]) 3 rfl [0, 1] [2] (by decide) rfl) hK hP hD hS hA rfl hl.1 rfl (Nat.le_of_ble_eq_true rfl) ⟨Nat.le_trans hcs.1 hbd2.1, Nat.le_trans hcs.2 hbd2.2⟩ d_Law_law_423 (fun r9 u8 H locs hpo hP hD hS => ?_)
            refine W.widen (k := lawC S2 (c9 + 1)) (n := lawS S2 (c9 + 1)) hcs.1 hcs.2 ?_
            obtain ⟨rfl, f9, u9, hf9, hN9, rfl⟩ := hpo
            have hP := wd_nP (N := [ow cJ q17 f9, u9]) rfl 3 rfl [0, 1, 2] (by decide) hP
            have hD := wd_nD (N := [ow cJ q17 f9, u9]) rfl 3 rfl [0, 1, 2] (by decide) hD
            have hP : va_P D kls (List.flatten [[(q17, .inl (cJ, 1, .inr (.inl f9)))], u9, wr]) H := hP
            have hD : va_D A (List.flatten [[(q17, .inl (cJ, 1, .inr (.inl f9)))], u9, wr]) := hD
            refine W.eq (g2 := F0 m 426 ls [.int (nI k9)]) rfl ?_
            obtain ⟨fs9, mR9⟩ := rf_mem hRf
            refine lv_istore hx hb d_Law_law_426 hl (by decide) rfl (fun ls hl => ?_)
            have hl : lv_has ls 7 [(5, .int (nI k9)), (4, .int (nI (4 * c9))), (3, .ref q17), (2, .ref o8), (1, .ref o0), (0, .ref b)] := hl
            refine lv_aload_n hx hb d_Law_law_428 rfl (lv_at hl 3 rfl) ?_
            refine lv_aload_n hx hb d_Law_law_429 rfl (lv_at hl 5 rfl) ?_
            refine lv_iload hx hb d_Law_law_430 (lv_at hl 1 rfl) ?_
            refine lv_iconst (v := nI 1) hx hb d_Law_law_432 (by decide) ?_
            refine ri_iadd hx hb d_Law_law_433 ?_
            refine va_sld hx hb hX hbl hbA hS (i := nI ((4 * c9) + 1)) (vp_in_nI (show (4 * c9) + 1 < L by omega) (show L < 2147483648 by omega)) d_Law_law_434 ?_
            refine W.eq (g2 := F0 m 435 ls [.int (xs ((4 * c9) + 1)), .ref o8]) (congrArg (fun z => F0 m 435 ls (.int z :: [.ref o8])) (congrArg xs (nI_clamp (show (4 * c9) + 1 < 2 ^ 31 by omega)))) ?_
            refine lv_aload_n hx hb d_Law_law_435 rfl (lv_at hl 5 rfl) ?_
            refine lv_iload hx hb d_Law_law_436 (lv_at hl 1 rfl) ?_
            refine lv_iconst (v := nI 2) hx hb d_Law_law_438 (by decide) ?_
            refine ri_iadd hx hb d_Law_law_439 ?_
            refine va_sld hx hb hX hbl hbA hS (i := nI ((4 * c9) + 2)) (vp_in_nI (show (4 * c9) + 2 < L by omega) (show L < 2147483648 by omega)) d_Law_law_440 ?_
            refine W.eq (g2 := F0 m 441 ls [.int (xs ((4 * c9) + 2)), .int (xs ((4 * c9) + 1)), .ref o8]) (congrArg (fun z => F0 m 441 ls (.int z :: [.int (xs ((4 * c9) + 1)), .ref o8])) (congrArg xs (nI_clamp (show (4 * c9) + 2 < 2 ^ 31 by omega)))) ?_
            refine ct_callVI (C := R_Ref) (ci := 9) (As := [.int (xs ((4 * c9) + 1)), .int (xs ((4 * c9) + 2))]) (rest := []) ⟨hx, hb, hml, hown, ht⟩ (hV8) (cb_V ht kc_Ref_mask kl_Law_112 kn_Ref ki_Ref_mask ks_Ref_mask hd_Ref_mask hr8) (wd_mem 2 rfl mR9) rfl rfl (wd_ct (Bs := [[(q17, .inl (cJ, 1, .inr (.inl f9)))], u9, wr]) 3 rfl [2] [0, 1] (by decide) (wd_1 _)) hK hP hD hS hA rfl hl.1 rfl (Nat.le_of_ble_eq_true rfl) ⟨hbd2.1, hbd2.2⟩ d_Law_law_441 (fun ru125 u125 H locs hu125 hP hD hS => ?_)
            obtain ⟨hz9, hRf9⟩ := hu125
            refine W.widen (k := lawC S2 (c9 + 1)) (n := lawS S2 (c9 + 1)) (Nat.le_refl _) (Nat.le_refl _) ?_
            have hP := wd_nP (N := [u125]) (wd_1 _) 3 rfl [1, 2, 0] (by decide) hP
            have hD := wd_nD (N := [u125]) (wd_1 _) 3 rfl [1, 2, 0] (by decide) hD
            have hP : va_P D kls (List.flatten [[(q17, .inl (cJ, 1, .inr (.inl f9)))], u9, u125]) H := hP
            have hD : va_D A (List.flatten [[(q17, .inl (cJ, 1, .inr (.inl f9)))], u9, u125]) := hD
            refine W.eq (g2 := F0 m 444 ls [.int ru125]) rfl ?_
            obtain ⟨fs7, mR7⟩ := rf_mem hRf9
            refine lv_istore hx hb d_Law_law_444 hl (by decide) rfl (fun ls hl => ?_)
            have hl : lv_has ls 7 [(6, .int ru125), (5, .int (nI k9)), (4, .int (nI (4 * c9))), (3, .ref q17), (2, .ref o8), (1, .ref o0), (0, .ref b)] := hl
            refine lv_aload_n hx hb d_Law_law_446 rfl (lv_at hl 4 rfl) ?_
            refine ct_rdV (C := R_Ref) (ci := 9) (As := []) (rest := []) ⟨hx, hb, hml, hown, ht⟩ (k_Ref_thr l D cI cZ cJ cG hRf9) (cb_V ht kc_Ref_thrown kl_Law_86 kn_Ref ki_Ref_thrown ks_Ref_thrown hd_Ref_thrown ⟨Nat.le_of_ble_eq_true rfl, Nat.le_of_ble_eq_true rfl⟩) (wd_mem 2 rfl mR7) rfl rfl (wd_ct (Bs := [[(q17, .inl (cJ, 1, .inr (.inl f9)))], u9, u125]) 3 rfl [2] [0, 1] (by decide) (wd_1 _)) hK hP hD hS hA rfl hl.1 rfl (Nat.le_of_ble_eq_true rfl) ⟨(show (lawC S2 (c9 + 1)) + 0 ≤ 601024 by omega), (show (lawS S2 (c9 + 1)) + 0 ≤ 7293034 by omega)⟩ d_Law_law_447 (fun rhr126 H locs hr126 hP hD hS => ?_)
            subst hr126
            refine lv_iload hx hb d_Law_law_450 (lv_at hl 1 rfl) ?_
            refine ri_icmp_eq hx hb (by omega) (by omega) d_Law_law_452 (tgt := 457) (by decide) (fun hq1 => ?_) (fun hq1 => ?_)
            · refine lv_iload hx hb d_Law_law_457 (lv_at hl 1 rfl) ?_
              refine ri_if_ne hx hb (by omega) d_Law_law_459 (tgt := 474) (by decide) (fun hq2 => ?_) (fun hq2 => ?_)
              · refine lv_goto hx hb d_Law_law_474 (tgt := 1286) (by decide) ?_
                refine lv_iinc hx hb d_Law_law_1286 hl (k := 2) rfl (v := nI ((4 * c9) + 4)) (by rw [← nI_add]; rfl) (by decide) rfl (fun ls hl => ?_)
                have hl : lv_has ls 7 [(4, .int (nI ((4 * c9) + 4))), (6, .int ru125), (5, .int (nI k9)), (3, .ref q17), (2, .ref o8), (1, .ref o0), (0, .ref b)] := hl
                refine lv_goto hx hb d_Law_law_1289 (tgt := 23) (by decide) ?_
                exact ih (c9 + 1) S2 (nI k9) f9 u9 u125 H locs ls (by omega) hV9 hN9 hRf9 hP hD hS (lv_sub hl [0, 3, 4, 5, 6] rfl)
              · refine lv_aload_n hx hb d_Law_law_462 rfl (lv_at hl 3 rfl) ?_
                refine lv_iconst (v := nI 0) hx hb d_Law_law_463 (by decide) ?_
                refine ri_lald hx hb hK hP 0 2 rfl rfl (j := 0) (by omega) (by omega) d_Law_law_464 ?_
                refine W.eq (g2 := F0 m 465 ls [.long v9.toInt64]) (congrArg (fun z => F0 m 465 ls (.long z :: [])) (hf9 (by omega))) ?_
                refine lv_iload hx hb d_Law_law_465 (lv_at hl 0 rfl) ?_
                refine W.eq (g2 := F0 m 467 ls [.int v9, .long v9.toInt64]) (congrArg (fun z => F0 m 467 ls (.int z :: [.long v9.toInt64])) (hz9 (by omega))) ?_
                refine lv_i2l (v := v9.toInt64) hx hb d_Law_law_467 rfl ?_
                refine ri_lcmp hx hb d_Law_law_468 ?_
                refine lv_if_eq hx hb d_Law_law_469 (tgt := 474) (by decide) (fun hq3 => ?_) (fun hq3 => ?_)
                · refine lv_goto hx hb d_Law_law_474 (tgt := 1286) (by decide) ?_
                  refine lv_iinc hx hb d_Law_law_1286 hl (k := 2) rfl (v := nI ((4 * c9) + 4)) (by rw [← nI_add]; rfl) (by decide) rfl (fun ls hl => ?_)
                  have hl : lv_has ls 7 [(4, .int (nI ((4 * c9) + 4))), (6, .int ru125), (5, .int (nI k9)), (3, .ref q17), (2, .ref o8), (1, .ref o0), (0, .ref b)] := hl
                  refine lv_goto hx hb d_Law_law_1289 (tgt := 23) (by decide) ?_
                  exact ih (c9 + 1) S2 (nI k9) f9 u9 u125 H locs ls (by omega) hV9 hN9 hRf9 hP hD hS (lv_sub hl [0, 3, 4, 5, 6] rfl)
                · exact absurd hq3 (fun z => z (lc_0 _))
            · exact absurd hq1 (fun z => z rfl)
          · refine lv_tableIn hx hb d_Law_law_39 (by decide +kernel) (by decide +kernel) (off := 438) (by decide +kernel) (tgt := 477) (by decide) ?_
            refine lv_aload_n hx hb d_Law_law_477 rfl (lv_at hl 3 rfl) ?_
            refine lv_aload_n hx hb d_Law_law_478 rfl (lv_at hl 4 rfl) ?_
            refine lv_iload hx hb d_Law_law_479 (lv_at hl 0 rfl) ?_
            refine lv_iconst (v := nI 1) hx hb d_Law_law_481 (by decide) ?_
            refine ri_iadd hx hb d_Law_law_482 ?_
            refine va_sld hx hb hX hbl hbA hS (i := nI ((4 * c9) + 1)) (vp_in_nI (show (4 * c9) + 1 < L by omega) (show L < 2147483648 by omega)) d_Law_law_483 ?_
            refine W.eq (g2 := F0 m 484 ls [.int (xs ((4 * c9) + 1)), .ref o0]) (congrArg (fun z => F0 m 484 ls (.int z :: [.ref o0])) (congrArg xs (nI_clamp (show (4 * c9) + 1 < 2 ^ 31 by omega)))) ?_
            refine lv_aload_n hx hb d_Law_law_484 rfl (lv_at hl 4 rfl) ?_
            refine lv_iload hx hb d_Law_law_485 (lv_at hl 0 rfl) ?_
            refine lv_iconst (v := nI 2) hx hb d_Law_law_487 (by decide) ?_
            refine ri_iadd hx hb d_Law_law_488 ?_
            refine va_sld hx hb hX hbl hbA hS (i := nI ((4 * c9) + 2)) (vp_in_nI (show (4 * c9) + 2 < L by omega) (show L < 2147483648 by omega)) d_Law_law_489 ?_
            refine W.eq (g2 := F0 m 490 ls [.int (xs ((4 * c9) + 2)), .int (xs ((4 * c9) + 1)), .ref o0]) (congrArg (fun z => F0 m 490 ls (.int z :: [.int (xs ((4 * c9) + 1)), .ref o0])) (congrArg xs (nI_clamp (show (4 * c9) + 2 < 2 ^ 31 by omega)))) ?_
            refine lv_aload_n hx hb d_Law_law_490 rfl (lv_at hl 1 rfl) ?_
            obtain ⟨k9, v9, S2, mc9, ms9, F9, L9, F8, L8, hk9, hV9, hco, hr9, hr8, hH9, hV8⟩ := cs_distance l s A0 h0 hnc hfl D cI cZ cJ cG (qo := q17) (fo := fo) hN hRf hv (by omega) (xs ((4 * c9) + 1)) (xs ((4 * c9) + 2))
            have hbd2 := lawC_le hV9 (by omega)
            have hcs := lawC_s (c := c9) hco
            refine ct_callSH (bytes := b_Law_distance) (maxL := 5) (ret := some .int) (hs := [(0, 10, 13, 13)]) (As := [.ref o0, .int (xs ((4 * c9) + 1)), .int (xs ((4 * c9) + 2)), .ref q17]) (rest := []) hz ⟨hx, hb, hml, hown, ht⟩ hH9 rfl rfl hr9.1 hr9.2 (pay_in ht (tb_good kh_distance)) List.mem_cons_self (ht _ kh_distance) (ht _ kn_Law) ⟨hd_Law_distance.1, hd_Law_distance.2.1⟩ (hd_len hd_Law_distance) (ht _ kl_Law_113) (ht _ ki_Law_distance) (wd_ct (Bs := [[(q17, .inl (cJ, 1, .inr (.inl fo)))], ws, wr]) 3 rfl [0, 1] [2] (by decide) rfl) hK hP hD hS hA rfl hl.1 rfl (Nat.le_of_ble_eq_true rfl) ⟨Nat.le_trans hcs.1 hbd2.1, Nat.le_trans hcs.2 hbd2.2⟩ d_Law_law_491 (fun r9 u8 H locs hpo hP hD hS => ?_)
            refine W.widen (k := lawC S2 (c9 + 1)) (n := lawS S2 (c9 + 1)) hcs.1 hcs.2 ?_
            obtain ⟨rfl, f9, u9, hf9, hN9, rfl⟩ := hpo
            have hP := wd_nP (N := [ow cJ q17 f9, u9]) rfl 3 rfl [0, 1, 2] (by decide) hP
            have hD := wd_nD (N := [ow cJ q17 f9, u9]) rfl 3 rfl [0, 1, 2] (by decide) hD
            have hP : va_P D kls (List.flatten [[(q17, .inl (cJ, 1, .inr (.inl f9)))], u9, wr]) H := hP
            have hD : va_D A (List.flatten [[(q17, .inl (cJ, 1, .inr (.inl f9)))], u9, wr]) := hD
            refine W.eq (g2 := F0 m 494 ls [.int (nI k9)]) rfl ?_
            obtain ⟨fs9, mR9⟩ := rf_mem hRf
            refine lv_istore hx hb d_Law_law_494 hl (by decide) rfl (fun ls hl => ?_)
            have hl : lv_has ls 7 [(5, .int (nI k9)), (4, .int (nI (4 * c9))), (3, .ref q17), (2, .ref o8), (1, .ref o0), (0, .ref b)] := hl
            refine lv_aload_n hx hb d_Law_law_496 rfl (lv_at hl 3 rfl) ?_
            refine lv_aload_n hx hb d_Law_law_497 rfl (lv_at hl 5 rfl) ?_
            refine lv_iload hx hb d_Law_law_498 (lv_at hl 1 rfl) ?_
            refine lv_iconst (v := nI 1) hx hb d_Law_law_500 (by decide) ?_
            refine ri_iadd hx hb d_Law_law_501 ?_
            refine va_sld hx hb hX hbl hbA hS (i := nI ((4 * c9) + 1)) (vp_in_nI (show (4 * c9) + 1 < L by omega) (show L < 2147483648 by omega)) d_Law_law_502 ?_
            refine W.eq (g2 := F0 m 503 ls [.int (xs ((4 * c9) + 1)), .ref o8]) (congrArg (fun z => F0 m 503 ls (.int z :: [.ref o8])) (congrArg xs (nI_clamp (show (4 * c9) + 1 < 2 ^ 31 by omega)))) ?_
            refine lv_aload_n hx hb d_Law_law_503 rfl (lv_at hl 5 rfl) ?_
            refine lv_iload hx hb d_Law_law_504 (lv_at hl 1 rfl) ?_
            refine lv_iconst (v := nI 2) hx hb d_Law_law_506 (by decide) ?_
            refine ri_iadd hx hb d_Law_law_507 ?_
            refine va_sld hx hb hX hbl hbA hS (i := nI ((4 * c9) + 2)) (vp_in_nI (show (4 * c9) + 2 < L by omega) (show L < 2147483648 by omega)) d_Law_law_508 ?_
            refine W.eq (g2 := F0 m 509 ls [.int (xs ((4 * c9) + 2)), .int (xs ((4 * c9) + 1)), .ref o8]) (congrArg (fun z => F0 m 509 ls (.int z :: [.int (xs ((4 * c9) + 1)), .ref o8])) (congrArg xs (nI_clamp (show (4 * c9) + 2 < 2 ^ 31 by omega)))) ?_
            refine ct_callVI (C := R_Ref) (ci := 9) (As := [.int (xs ((4 * c9) + 1)), .int (xs ((4 * c9) + 2))]) (rest := []) ⟨hx, hb, hml, hown, ht⟩ (hV8) (cb_V ht kc_Ref_distance kl_Law_115 kn_Ref ki_Ref_distance ks_Ref_distance hd_Ref_distance hr8) (wd_mem 2 rfl mR9) rfl rfl (wd_ct (Bs := [[(q17, .inl (cJ, 1, .inr (.inl f9)))], u9, wr]) 3 rfl [2] [0, 1] (by decide) (wd_1 _)) hK hP hD hS hA rfl hl.1 rfl (Nat.le_of_ble_eq_true rfl) ⟨hbd2.1, hbd2.2⟩ d_Law_law_509 (fun ru130 u130 H locs hu130 hP hD hS => ?_)
            obtain ⟨hz9, hRf9⟩ := hu130
            refine W.widen (k := lawC S2 (c9 + 1)) (n := lawS S2 (c9 + 1)) (Nat.le_refl _) (Nat.le_refl _) ?_
            have hP := wd_nP (N := [u130]) (wd_1 _) 3 rfl [1, 2, 0] (by decide) hP
            have hD := wd_nD (N := [u130]) (wd_1 _) 3 rfl [1, 2, 0] (by decide) hD
            have hP : va_P D kls (List.flatten [[(q17, .inl (cJ, 1, .inr (.inl f9)))], u9, u130]) H := hP
            have hD : va_D A (List.flatten [[(q17, .inl (cJ, 1, .inr (.inl f9)))], u9, u130]) := hD
            refine W.eq (g2 := F0 m 512 ls [.int ru130]) rfl ?_
            obtain ⟨fs7, mR7⟩ := rf_mem hRf9
            refine lv_istore hx hb d_Law_law_512 hl (by decide) rfl (fun ls hl => ?_)
            have hl : lv_has ls 7 [(6, .int ru130), (5, .int (nI k9)), (4, .int (nI (4 * c9))), (3, .ref q17), (2, .ref o8), (1, .ref o0), (0, .ref b)] := hl
            refine lv_aload_n hx hb d_Law_law_514 rfl (lv_at hl 4 rfl) ?_
            refine ct_rdV (C := R_Ref) (ci := 9) (As := []) (rest := []) ⟨hx, hb, hml, hown, ht⟩ (k_Ref_thr l D cI cZ cJ cG hRf9) (cb_V ht kc_Ref_thrown kl_Law_86 kn_Ref ki_Ref_thrown ks_Ref_thrown hd_Ref_thrown ⟨Nat.le_of_ble_eq_true rfl, Nat.le_of_ble_eq_true rfl⟩) (wd_mem 2 rfl mR7) rfl rfl (wd_ct (Bs := [[(q17, .inl (cJ, 1, .inr (.inl f9)))], u9, u130]) 3 rfl [2] [0, 1] (by decide) (wd_1 _)) hK hP hD hS hA rfl hl.1 rfl (Nat.le_of_ble_eq_true rfl) ⟨(show (lawC S2 (c9 + 1)) + 0 ≤ 601024 by omega), (show (lawS S2 (c9 + 1)) + 0 ≤ 7293034 by omega)⟩ d_Law_law_515 (fun rhr131 H locs hr131 hP hD hS => ?_)
            subst hr131
            refine lv_iload hx hb d_Law_law_518 (lv_at hl 1 rfl) ?_
            refine ri_icmp_eq hx hb (by omega) (by omega) d_Law_law_520 (tgt := 525) (by decide) (fun hq1 => ?_) (fun hq1 => ?_)
            · refine lv_iload hx hb d_Law_law_525 (lv_at hl 1 rfl) ?_
              refine ri_if_ne hx hb (by omega) d_Law_law_527 (tgt := 542) (by decide) (fun hq2 => ?_) (fun hq2 => ?_)
              · refine lv_goto hx hb d_Law_law_542 (tgt := 1286) (by decide) ?_
                refine lv_iinc hx hb d_Law_law_1286 hl (k := 2) rfl (v := nI ((4 * c9) + 4)) (by rw [← nI_add]; rfl) (by decide) rfl (fun ls hl => ?_)
                have hl : lv_has ls 7 [(4, .int (nI ((4 * c9) + 4))), (6, .int ru130), (5, .int (nI k9)), (3, .ref q17), (2, .ref o8), (1, .ref o0), (0, .ref b)] := hl
                refine lv_goto hx hb d_Law_law_1289 (tgt := 23) (by decide) ?_
                exact ih (c9 + 1) S2 (nI k9) f9 u9 u130 H locs ls (by omega) hV9 hN9 hRf9 hP hD hS (lv_sub hl [0, 3, 4, 5, 6] rfl)
              · refine lv_aload_n hx hb d_Law_law_530 rfl (lv_at hl 3 rfl) ?_
                refine lv_iconst (v := nI 0) hx hb d_Law_law_531 (by decide) ?_
                refine ri_lald hx hb hK hP 0 2 rfl rfl (j := 0) (by omega) (by omega) d_Law_law_532 ?_
                refine W.eq (g2 := F0 m 533 ls [.long v9.toInt64]) (congrArg (fun z => F0 m 533 ls (.long z :: [])) (hf9 (by omega))) ?_
                refine lv_iload hx hb d_Law_law_533 (lv_at hl 0 rfl) ?_
                refine W.eq (g2 := F0 m 535 ls [.int v9, .long v9.toInt64]) (congrArg (fun z => F0 m 535 ls (.int z :: [.long v9.toInt64])) (hz9 (by omega))) ?_
                refine lv_i2l (v := v9.toInt64) hx hb d_Law_law_535 rfl ?_
                refine ri_lcmp hx hb d_Law_law_536 ?_
                refine lv_if_eq hx hb d_Law_law_537 (tgt := 542) (by decide) (fun hq3 => ?_) (fun hq3 => ?_)
                · refine lv_goto hx hb d_Law_law_542 (tgt := 1286) (by decide) ?_
                  refine lv_iinc hx hb d_Law_law_1286 hl (k := 2) rfl (v := nI ((4 * c9) + 4)) (by rw [← nI_add]; rfl) (by decide) rfl (fun ls hl => ?_)
                  have hl : lv_has ls 7 [(4, .int (nI ((4 * c9) + 4))), (6, .int ru130), (5, .int (nI k9)), (3, .ref q17), (2, .ref o8), (1, .ref o0), (0, .ref b)] := hl
                  refine lv_goto hx hb d_Law_law_1289 (tgt := 23) (by decide) ?_
                  exact ih (c9 + 1) S2 (nI k9) f9 u9 u130 H locs ls (by omega) hV9 hN9 hRf9 hP hD hS (lv_sub hl [0, 3, 4, 5, 6] rfl)
                · exact absurd hq3 (fun z => z (lc_0 _))
            · exact absurd hq1 (fun z => z rfl)
          · refine lv_tableIn hx hb d_Law_law_39 (by decide +kernel) (by decide +kernel) (off := 506) (by decide +kernel) (tgt := 545) (by decide) ?_
            refine lv_aload_n hx hb d_Law_law_545 rfl (lv_at hl 3 rfl) ?_
            refine lv_aload_n hx hb d_Law_law_546 rfl (lv_at hl 4 rfl) ?_
            refine lv_iload hx hb d_Law_law_547 (lv_at hl 0 rfl) ?_
            refine lv_iconst (v := nI 1) hx hb d_Law_law_549 (by decide) ?_
            refine ri_iadd hx hb d_Law_law_550 ?_
            refine va_sld hx hb hX hbl hbA hS (i := nI ((4 * c9) + 1)) (vp_in_nI (show (4 * c9) + 1 < L by omega) (show L < 2147483648 by omega)) d_Law_law_551 ?_
            refine W.eq (g2 := F0 m 552 ls [.int (xs ((4 * c9) + 1)), .ref o0]) (congrArg (fun z => F0 m 552 ls (.int z :: [.ref o0])) (congrArg xs (nI_clamp (show (4 * c9) + 1 < 2 ^ 31 by omega)))) ?_
            refine lv_aload_n hx hb d_Law_law_552 rfl (lv_at hl 4 rfl) ?_
            refine lv_iload hx hb d_Law_law_553 (lv_at hl 0 rfl) ?_
            refine lv_iconst (v := nI 2) hx hb d_Law_law_555 (by decide) ?_
            refine ri_iadd hx hb d_Law_law_556 ?_
            refine va_sld hx hb hX hbl hbA hS (i := nI ((4 * c9) + 2)) (vp_in_nI (show (4 * c9) + 2 < L by omega) (show L < 2147483648 by omega)) d_Law_law_557 ?_
            refine W.eq (g2 := F0 m 558 ls [.int (xs ((4 * c9) + 2)), .int (xs ((4 * c9) + 1)), .ref o0]) (congrArg (fun z => F0 m 558 ls (.int z :: [.int (xs ((4 * c9) + 1)), .ref o0])) (congrArg xs (nI_clamp (show (4 * c9) + 2 < 2 ^ 31 by omega)))) ?_
            refine lv_aload_n hx hb d_Law_law_558 rfl (lv_at hl 1 rfl) ?_
            obtain ⟨k9, v9, S2, mc9, ms9, F9, L9, F8, L8, hk9, hV9, hco, hr9, hr8, hH9, hV8⟩ := cs_alternate l s A0 h0 hnc hfl D cI cZ cJ cG (qo := q17) (fo := fo) hN hRf hv (by omega) (xs ((4 * c9) + 1)) (xs ((4 * c9) + 2))
            have hbd2 := lawC_le hV9 (by omega)
            have hcs := lawC_s (c := c9) hco
            refine ct_callSH (bytes := b_Law_alternate) (maxL := 5) (ret := some .int) (hs := [(0, 10, 13, 13)]) (As := [.ref o0, .int (xs ((4 * c9) + 1)), .int (xs ((4 * c9) + 2)), .ref q17]) (rest := []) hz ⟨hx, hb, hml, hown, ht⟩ hH9 rfl rfl hr9.1 hr9.2 (pay_in ht (tb_good kh_alternate)) List.mem_cons_self (ht _ kh_alternate) (ht _ kn_Law) ⟨hd_Law_alternate.1, hd_Law_alternate.2.1⟩ (hd_len hd_Law_alternate) (ht _ kl_Law_116) (ht _ ki_Law_alternate) (wd_ct (Bs := [[(q17, .inl (cJ, 1, .inr (.inl fo)))], ws, wr]) 3 rfl [0, 1] [2] (by decide) rfl) hK hP hD hS hA rfl hl.1 rfl (Nat.le_of_ble_eq_true rfl) ⟨Nat.le_trans hcs.1 hbd2.1, Nat.le_trans hcs.2 hbd2.2⟩ d_Law_law_559 (fun r9 u8 H locs hpo hP hD hS => ?_)
            refine W.widen (k := lawC S2 (c9 + 1)) (n := lawS S2 (c9 + 1)) hcs.1 hcs.2 ?_
            obtain ⟨rfl, f9, u9, hf9, hN9, rfl⟩ := hpo
            have hP := wd_nP (N := [ow cJ q17 f9, u9]) rfl 3 rfl [0, 1, 2] (by decide) hP
            have hD := wd_nD (N := [ow cJ q17 f9, u9]) rfl 3 rfl [0, 1, 2] (by decide) hD
            have hP : va_P D kls (List.flatten [[(q17, .inl (cJ, 1, .inr (.inl f9)))], u9, wr]) H := hP
            have hD : va_D A (List.flatten [[(q17, .inl (cJ, 1, .inr (.inl f9)))], u9, wr]) := hD
            refine W.eq (g2 := F0 m 562 ls [.int (nI k9)]) rfl ?_
            obtain ⟨fs9, mR9⟩ := rf_mem hRf
            refine lv_istore hx hb d_Law_law_562 hl (by decide) rfl (fun ls hl => ?_)
            have hl : lv_has ls 7 [(5, .int (nI k9)), (4, .int (nI (4 * c9))), (3, .ref q17), (2, .ref o8), (1, .ref o0), (0, .ref b)] := hl
            refine lv_aload_n hx hb d_Law_law_564 rfl (lv_at hl 3 rfl) ?_
            refine lv_aload_n hx hb d_Law_law_565 rfl (lv_at hl 5 rfl) ?_
            refine lv_iload hx hb d_Law_law_566 (lv_at hl 1 rfl) ?_
            refine lv_iconst (v := nI 1) hx hb d_Law_law_568 (by decide) ?_
            refine ri_iadd hx hb d_Law_law_569 ?_
            refine va_sld hx hb hX hbl hbA hS (i := nI ((4 * c9) + 1)) (vp_in_nI (show (4 * c9) + 1 < L by omega) (show L < 2147483648 by omega)) d_Law_law_570 ?_
            refine W.eq (g2 := F0 m 571 ls [.int (xs ((4 * c9) + 1)), .ref o8]) (congrArg (fun z => F0 m 571 ls (.int z :: [.ref o8])) (congrArg xs (nI_clamp (show (4 * c9) + 1 < 2 ^ 31 by omega)))) ?_
            refine lv_aload_n hx hb d_Law_law_571 rfl (lv_at hl 5 rfl) ?_
            refine lv_iload hx hb d_Law_law_572 (lv_at hl 1 rfl) ?_
            refine lv_iconst (v := nI 2) hx hb d_Law_law_574 (by decide) ?_
            refine ri_iadd hx hb d_Law_law_575 ?_
            refine va_sld hx hb hX hbl hbA hS (i := nI ((4 * c9) + 2)) (vp_in_nI (show (4 * c9) + 2 < L by omega) (show L < 2147483648 by omega)) d_Law_law_576 ?_
            refine W.eq (g2 := F0 m 577 ls [.int (xs ((4 * c9) + 2)), .int (xs ((4 * c9) + 1)), .ref o8]) (congrArg (fun z => F0 m 577 ls (.int z :: [.int (xs ((4 * c9) + 1)), .ref o8])) (congrArg xs (nI_clamp (show (4 * c9) + 2 < 2 ^ 31 by omega)))) ?_
            refine ct_callVI (C := R_Ref) (ci := 9) (As := [.int (xs ((4 * c9) + 1)), .int (xs ((4 * c9) + 2))]) (rest := []) ⟨hx, hb, hml, hown, ht⟩ (hV8) (cb_V ht kc_Ref_alternate kl_Law_118 kn_Ref ki_Ref_alternate ks_Ref_alternate hd_Ref_alternate hr8) (wd_mem 2 rfl mR9) rfl rfl (wd_ct (Bs := [[(q17, .inl (cJ, 1, .inr (.inl f9)))], u9, wr]) 3 rfl [2] [0, 1] (by decide) (wd_1 _)) hK hP hD hS hA rfl hl.1 rfl (Nat.le_of_ble_eq_true rfl) ⟨hbd2.1, hbd2.2⟩ d_Law_law_577 (fun ru135 u135 H locs hu135 hP hD hS => ?_)
            obtain ⟨hz9, hRf9⟩ := hu135
            refine W.widen (k := lawC S2 (c9 + 1)) (n := lawS S2 (c9 + 1)) (Nat.le_refl _) (Nat.le_refl _) ?_
            have hP := wd_nP (N := [u135]) (wd_1 _) 3 rfl [1, 2, 0] (by decide) hP
            have hD := wd_nD (N := [u135]) (wd_1 _) 3 rfl [1, 2, 0] (by decide) hD
            have hP : va_P D kls (List.flatten [[(q17, .inl (cJ, 1, .inr (.inl f9)))], u9, u135]) H := hP
            have hD : va_D A (List.flatten [[(q17, .inl (cJ, 1, .inr (.inl f9)))], u9, u135]) := hD
            refine W.eq (g2 := F0 m 580 ls [.int ru135]) rfl ?_
            obtain ⟨fs7, mR7⟩ := rf_mem hRf9
            refine lv_istore hx hb d_Law_law_580 hl (by decide) rfl (fun ls hl => ?_)
            have hl : lv_has ls 7 [(6, .int ru135), (5, .int (nI k9)), (4, .int (nI (4 * c9))), (3, .ref q17), (2, .ref o8), (1, .ref o0), (0, .ref b)] := hl
            refine lv_aload_n hx hb d_Law_law_582 rfl (lv_at hl 4 rfl) ?_
            refine ct_rdV (C := R_Ref) (ci := 9) (As := []) (rest := []) ⟨hx, hb, hml, hown, ht⟩ (k_Ref_thr l D cI cZ cJ cG hRf9) (cb_V ht kc_Ref_thrown kl_Law_86 kn_Ref ki_Ref_thrown ks_Ref_thrown hd_Ref_thrown ⟨Nat.le_of_ble_eq_true rfl, Nat.le_of_ble_eq_true rfl⟩) (wd_mem 2 rfl mR7) rfl rfl (wd_ct (Bs := [[(q17, .inl (cJ, 1, .inr (.inl f9)))], u9, u135]) 3 rfl [2] [0, 1] (by decide) (wd_1 _)) hK hP hD hS hA rfl hl.1 rfl (Nat.le_of_ble_eq_true rfl) ⟨(show (lawC S2 (c9 + 1)) + 0 ≤ 601024 by omega), (show (lawS S2 (c9 + 1)) + 0 ≤ 7293034 by omega)⟩ d_Law_law_583 (fun rhr136 H locs hr136 hP hD hS => ?_)
            subst hr136
            refine lv_iload hx hb d_Law_law_586 (lv_at hl 1 rfl) ?_
            refine ri_icmp_eq hx hb (by omega) (by omega) d_Law_law_588 (tgt := 593) (by decide) (fun hq1 => ?_) (fun hq1 => ?_)
            · refine lv_iload hx hb d_Law_law_593 (lv_at hl 1 rfl) ?_
              refine ri_if_ne hx hb (by omega) d_Law_law_595 (tgt := 610) (by decide) (fun hq2 => ?_) (fun hq2 => ?_)
              · refine lv_goto hx hb d_Law_law_610 (tgt := 1286) (by decide) ?_
                refine lv_iinc hx hb d_Law_law_1286 hl (k := 2) rfl (v := nI ((4 * c9) + 4)) (by rw [← nI_add]; rfl) (by decide) rfl (fun ls hl => ?_)
                have hl : lv_has ls 7 [(4, .int (nI ((4 * c9) + 4))), (6, .int ru135), (5, .int (nI k9)), (3, .ref q17), (2, .ref o8), (1, .ref o0), (0, .ref b)] := hl
                refine lv_goto hx hb d_Law_law_1289 (tgt := 23) (by decide) ?_
                exact ih (c9 + 1) S2 (nI k9) f9 u9 u135 H locs ls (by omega) hV9 hN9 hRf9 hP hD hS (lv_sub hl [0, 3, 4, 5, 6] rfl)
              · refine lv_aload_n hx hb d_Law_law_598 rfl (lv_at hl 3 rfl) ?_
                refine lv_iconst (v := nI 0) hx hb d_Law_law_599 (by decide) ?_
                refine ri_lald hx hb hK hP 0 2 rfl rfl (j := 0) (by omega) (by omega) d_Law_law_600 ?_
                refine W.eq (g2 := F0 m 601 ls [.long v9.toInt64]) (congrArg (fun z => F0 m 601 ls (.long z :: [])) (hf9 (by omega))) ?_
                refine lv_iload hx hb d_Law_law_601 (lv_at hl 0 rfl) ?_
                refine W.eq (g2 := F0 m 603 ls [.int v9, .long v9.toInt64]) (congrArg (fun z => F0 m 603 ls (.int z :: [.long v9.toInt64])) (hz9 (by omega))) ?_
                refine lv_i2l (v := v9.toInt64) hx hb d_Law_law_603 rfl ?_
                refine ri_lcmp hx hb d_Law_law_604 ?_
                refine lv_if_eq hx hb d_Law_law_605 (tgt := 610) (by decide) (fun hq3 => ?_) (fun hq3 => ?_)
                · refine lv_goto hx hb d_Law_law_610 (tgt := 1286) (by decide) ?_
                  refine lv_iinc hx hb d_Law_law_1286 hl (k := 2) rfl (v := nI ((4 * c9) + 4)) (by rw [← nI_add]; rfl) (by decide) rfl (fun ls hl => ?_)
                  have hl : lv_has ls 7 [(4, .int (nI ((4 * c9) + 4))), (6, .int ru135), (5, .int (nI k9)), (3, .ref q17), (2, .ref o8), (1, .ref o0), (0, .ref b)] := hl
                  refine lv_goto hx hb d_Law_law_1289 (tgt := 23) (by decide) ?_
                  exact ih (c9 + 1) S2 (nI k9) f9 u9 u135 H locs ls (by omega) hV9 hN9 hRf9 hP hD hS (lv_sub hl [0, 3, 4, 5, 6] rfl)
                · exact absurd hq3 (fun z => z (lc_0 _))
            · exact absurd hq1 (fun z => z rfl)
          · refine lv_tableIn hx hb d_Law_law_39 (by decide +kernel) (by decide +kernel) (off := 574) (by decide +kernel) (tgt := 613) (by decide) ?_
            refine lv_aload_n hx hb d_Law_law_613 rfl (lv_at hl 3 rfl) ?_
            refine lv_aload_n hx hb d_Law_law_614 rfl (lv_at hl 4 rfl) ?_
            refine lv_iload hx hb d_Law_law_615 (lv_at hl 0 rfl) ?_
            refine lv_iconst (v := nI 1) hx hb d_Law_law_617 (by decide) ?_
            refine ri_iadd hx hb d_Law_law_618 ?_
            refine va_sld hx hb hX hbl hbA hS (i := nI ((4 * c9) + 1)) (vp_in_nI (show (4 * c9) + 1 < L by omega) (show L < 2147483648 by omega)) d_Law_law_619 ?_
            refine W.eq (g2 := F0 m 620 ls [.int (xs ((4 * c9) + 1)), .ref o0]) (congrArg (fun z => F0 m 620 ls (.int z :: [.ref o0])) (congrArg xs (nI_clamp (show (4 * c9) + 1 < 2 ^ 31 by omega)))) ?_
            refine lv_aload_n hx hb d_Law_law_620 rfl (lv_at hl 4 rfl) ?_
            refine lv_iload hx hb d_Law_law_621 (lv_at hl 0 rfl) ?_
            refine lv_iconst (v := nI 2) hx hb d_Law_law_623 (by decide) ?_
            refine ri_iadd hx hb d_Law_law_624 ?_
            refine va_sld hx hb hX hbl hbA hS (i := nI ((4 * c9) + 2)) (vp_in_nI (show (4 * c9) + 2 < L by omega) (show L < 2147483648 by omega)) d_Law_law_625 ?_
            refine W.eq (g2 := F0 m 626 ls [.int (xs ((4 * c9) + 2)), .int (xs ((4 * c9) + 1)), .ref o0]) (congrArg (fun z => F0 m 626 ls (.int z :: [.int (xs ((4 * c9) + 1)), .ref o0])) (congrArg xs (nI_clamp (show (4 * c9) + 2 < 2 ^ 31 by omega)))) ?_
            refine lv_aload_n hx hb d_Law_law_626 rfl (lv_at hl 1 rfl) ?_
            obtain ⟨k9, v9, S2, mc9, ms9, F9, L9, F8, L8, hk9, hV9, hco, hr9, hr8, hH9, hV8⟩ := cs_stored l s A0 h0 hnc hfl D cI cZ cJ cG (qo := q17) (fo := fo) hN hRf hv (by omega) (xs ((4 * c9) + 1)) (xs ((4 * c9) + 2))
            have hbd2 := lawC_le hV9 (by omega)
            have hcs := lawC_s (c := c9) hco
            refine ct_callSH (bytes := b_Law_stored) (maxL := 5) (ret := some .int) (hs := [(0, 10, 13, 13)]) (As := [.ref o0, .int (xs ((4 * c9) + 1)), .int (xs ((4 * c9) + 2)), .ref q17]) (rest := []) hz ⟨hx, hb, hml, hown, ht⟩ hH9 rfl rfl hr9.1 hr9.2 (pay_in ht (tb_good kh_stored)) List.mem_cons_self (ht _ kh_stored) (ht _ kn_Law) ⟨hd_Law_stored.1, hd_Law_stored.2.1⟩ (hd_len hd_Law_stored) (ht _ kl_Law_119) (ht _ ki_Law_stored) (wd_ct (Bs := [[(q17, .inl (cJ, 1, .inr (.inl fo)))], ws, wr]) 3 rfl [0, 1] [2] (by decide) rfl) hK hP hD hS hA rfl hl.1 rfl (Nat.le_of_ble_eq_true rfl) ⟨Nat.le_trans hcs.1 hbd2.1, Nat.le_trans hcs.2 hbd2.2⟩ d_Law_law_627 (fun r9 u8 H locs hpo hP hD hS => ?_)
            refine W.widen (k := lawC S2 (c9 + 1)) (n := lawS S2 (c9 + 1)) hcs.1 hcs.2 ?_
            obtain ⟨rfl, f9, u9, hf9, hN9, rfl⟩ := hpo
            have hP := wd_nP (N := [ow cJ q17 f9, u9]) rfl 3 rfl [0, 1, 2] (by decide) hP
            have hD := wd_nD (N := [ow cJ q17 f9, u9]) rfl 3 rfl [0, 1, 2] (by decide) hD
            have hP : va_P D kls (List.flatten [[(q17, .inl (cJ, 1, .inr (.inl f9)))], u9, wr]) H := hP
            have hD : va_D A (List.flatten [[(q17, .inl (cJ, 1, .inr (.inl f9)))], u9, wr]) := hD
            refine W.eq (g2 := F0 m 630 ls [.int (nI k9)]) rfl ?_
            obtain ⟨fs9, mR9⟩ := rf_mem hRf
            refine lv_istore hx hb d_Law_law_630 hl (by decide) rfl (fun ls hl => ?_)
            have hl : lv_has ls 7 [(5, .int (nI k9)), (4, .int (nI (4 * c9))), (3, .ref q17), (2, .ref o8), (1, .ref o0), (0, .ref b)] := hl
            refine lv_aload_n hx hb d_Law_law_632 rfl (lv_at hl 3 rfl) ?_
            refine lv_aload_n hx hb d_Law_law_633 rfl (lv_at hl 5 rfl) ?_
            refine lv_iload hx hb d_Law_law_634 (lv_at hl 1 rfl) ?_
            refine lv_iconst (v := nI 1) hx hb d_Law_law_636 (by decide) ?_
            refine ri_iadd hx hb d_Law_law_637 ?_
            refine va_sld hx hb hX hbl hbA hS (i := nI ((4 * c9) + 1)) (vp_in_nI (show (4 * c9) + 1 < L by omega) (show L < 2147483648 by omega)) d_Law_law_638 ?_
            refine W.eq (g2 := F0 m 639 ls [.int (xs ((4 * c9) + 1)), .ref o8]) (congrArg (fun z => F0 m 639 ls (.int z :: [.ref o8])) (congrArg xs (nI_clamp (show (4 * c9) + 1 < 2 ^ 31 by omega)))) ?_
            refine lv_aload_n hx hb d_Law_law_639 rfl (lv_at hl 5 rfl) ?_
            refine lv_iload hx hb d_Law_law_640 (lv_at hl 1 rfl) ?_
            refine lv_iconst (v := nI 2) hx hb d_Law_law_642 (by decide) ?_
            refine ri_iadd hx hb d_Law_law_643 ?_
            refine va_sld hx hb hX hbl hbA hS (i := nI ((4 * c9) + 2)) (vp_in_nI (show (4 * c9) + 2 < L by omega) (show L < 2147483648 by omega)) d_Law_law_644 ?_
            refine W.eq (g2 := F0 m 645 ls [.int (xs ((4 * c9) + 2)), .int (xs ((4 * c9) + 1)), .ref o8]) (congrArg (fun z => F0 m 645 ls (.int z :: [.int (xs ((4 * c9) + 1)), .ref o8])) (congrArg xs (nI_clamp (show (4 * c9) + 2 < 2 ^ 31 by omega)))) ?_
            refine ct_callVI (C := R_Ref) (ci := 9) (As := [.int (xs ((4 * c9) + 1)), .int (xs ((4 * c9) + 2))]) (rest := []) ⟨hx, hb, hml, hown, ht⟩ (hV8) (cb_V ht kc_Ref_stored kl_Law_121 kn_Ref ki_Ref_stored ks_Ref_stored hd_Ref_stored hr8) (wd_mem 2 rfl mR9) rfl rfl (wd_ct (Bs := [[(q17, .inl (cJ, 1, .inr (.inl f9)))], u9, wr]) 3 rfl [2] [0, 1] (by decide) (wd_1 _)) hK hP hD hS hA rfl hl.1 rfl (Nat.le_of_ble_eq_true rfl) ⟨hbd2.1, hbd2.2⟩ d_Law_law_645 (fun ru140 u140 H locs hu140 hP hD hS => ?_)
            obtain ⟨hz9, hRf9⟩ := hu140
            refine W.widen (k := lawC S2 (c9 + 1)) (n := lawS S2 (c9 + 1)) (Nat.le_refl _) (Nat.le_refl _) ?_
            have hP := wd_nP (N := [u140]) (wd_1 _) 3 rfl [1, 2, 0] (by decide) hP
            have hD := wd_nD (N := [u140]) (wd_1 _) 3 rfl [1, 2, 0] (by decide) hD
            have hP : va_P D kls (List.flatten [[(q17, .inl (cJ, 1, .inr (.inl f9)))], u9, u140]) H := hP
            have hD : va_D A (List.flatten [[(q17, .inl (cJ, 1, .inr (.inl f9)))], u9, u140]) := hD
            refine W.eq (g2 := F0 m 648 ls [.int ru140]) rfl ?_
            obtain ⟨fs7, mR7⟩ := rf_mem hRf9
            refine lv_istore hx hb d_Law_law_648 hl (by decide) rfl (fun ls hl => ?_)
            have hl : lv_has ls 7 [(6, .int ru140), (5, .int (nI k9)), (4, .int (nI (4 * c9))), (3, .ref q17), (2, .ref o8), (1, .ref o0), (0, .ref b)] := hl
            refine lv_aload_n hx hb d_Law_law_650 rfl (lv_at hl 4 rfl) ?_
            refine ct_rdV (C := R_Ref) (ci := 9) (As := []) (rest := []) ⟨hx, hb, hml, hown, ht⟩ (k_Ref_thr l D cI cZ cJ cG hRf9) (cb_V ht kc_Ref_thrown kl_Law_86 kn_Ref ki_Ref_thrown ks_Ref_thrown hd_Ref_thrown ⟨Nat.le_of_ble_eq_true rfl, Nat.le_of_ble_eq_true rfl⟩) (wd_mem 2 rfl mR7) rfl rfl (wd_ct (Bs := [[(q17, .inl (cJ, 1, .inr (.inl f9)))], u9, u140]) 3 rfl [2] [0, 1] (by decide) (wd_1 _)) hK hP hD hS hA rfl hl.1 rfl (Nat.le_of_ble_eq_true rfl) ⟨(show (lawC S2 (c9 + 1)) + 0 ≤ 601024 by omega), (show (lawS S2 (c9 + 1)) + 0 ≤ 7293034 by omega)⟩ d_Law_law_651 (fun rhr141 H locs hr141 hP hD hS => ?_)
            subst hr141
            refine lv_iload hx hb d_Law_law_654 (lv_at hl 1 rfl) ?_
            refine ri_icmp_eq hx hb (by omega) (by omega) d_Law_law_656 (tgt := 661) (by decide) (fun hq1 => ?_) (fun hq1 => ?_)
            · refine lv_iload hx hb d_Law_law_661 (lv_at hl 1 rfl) ?_
              refine ri_if_ne hx hb (by omega) d_Law_law_663 (tgt := 678) (by decide) (fun hq2 => ?_) (fun hq2 => ?_)
              · refine lv_goto hx hb d_Law_law_678 (tgt := 1286) (by decide) ?_
                refine lv_iinc hx hb d_Law_law_1286 hl (k := 2) rfl (v := nI ((4 * c9) + 4)) (by rw [← nI_add]; rfl) (by decide) rfl (fun ls hl => ?_)
                have hl : lv_has ls 7 [(4, .int (nI ((4 * c9) + 4))), (6, .int ru140), (5, .int (nI k9)), (3, .ref q17), (2, .ref o8), (1, .ref o0), (0, .ref b)] := hl
                refine lv_goto hx hb d_Law_law_1289 (tgt := 23) (by decide) ?_
                exact ih (c9 + 1) S2 (nI k9) f9 u9 u140 H locs ls (by omega) hV9 hN9 hRf9 hP hD hS (lv_sub hl [0, 3, 4, 5, 6] rfl)
              · refine lv_aload_n hx hb d_Law_law_666 rfl (lv_at hl 3 rfl) ?_
                refine lv_iconst (v := nI 0) hx hb d_Law_law_667 (by decide) ?_
                refine ri_lald hx hb hK hP 0 2 rfl rfl (j := 0) (by omega) (by omega) d_Law_law_668 ?_
                refine W.eq (g2 := F0 m 669 ls [.long v9.toInt64]) (congrArg (fun z => F0 m 669 ls (.long z :: [])) (hf9 (by omega))) ?_
                refine lv_iload hx hb d_Law_law_669 (lv_at hl 0 rfl) ?_
                refine W.eq (g2 := F0 m 671 ls [.int v9, .long v9.toInt64]) (congrArg (fun z => F0 m 671 ls (.int z :: [.long v9.toInt64])) (hz9 (by omega))) ?_
                refine lv_i2l (v := v9.toInt64) hx hb d_Law_law_671 rfl ?_
                refine ri_lcmp hx hb d_Law_law_672 ?_
                refine lv_if_eq hx hb d_Law_law_673 (tgt := 678) (by decide) (fun hq3 => ?_) (fun hq3 => ?_)
                · refine lv_goto hx hb d_Law_law_678 (tgt := 1286) (by decide) ?_
                  refine lv_iinc hx hb d_Law_law_1286 hl (k := 2) rfl (v := nI ((4 * c9) + 4)) (by rw [← nI_add]; rfl) (by decide) rfl (fun ls hl => ?_)
                  have hl : lv_has ls 7 [(4, .int (nI ((4 * c9) + 4))), (6, .int ru140), (5, .int (nI k9)), (3, .ref q17), (2, .ref o8), (1, .ref o0), (0, .ref b)] := hl
                  refine lv_goto hx hb d_Law_law_1289 (tgt := 23) (by decide) ?_
                  exact ih (c9 + 1) S2 (nI k9) f9 u9 u140 H locs ls (by omega) hV9 hN9 hRf9 hP hD hS (lv_sub hl [0, 3, 4, 5, 6] rfl)
                · exact absurd hq3 (fun z => z (lc_0 _))
            · exact absurd hq1 (fun z => z rfl)
          · refine lv_tableIn hx hb d_Law_law_39 (by decide +kernel) (by decide +kernel) (off := 642) (by decide +kernel) (tgt := 681) (by decide) ?_
            refine lv_aload_n hx hb d_Law_law_681 rfl (lv_at hl 3 rfl) ?_
            refine lv_aload_n hx hb d_Law_law_682 rfl (lv_at hl 4 rfl) ?_
            refine lv_iload hx hb d_Law_law_683 (lv_at hl 0 rfl) ?_
            refine lv_iconst (v := nI 1) hx hb d_Law_law_685 (by decide) ?_
            refine ri_iadd hx hb d_Law_law_686 ?_
            refine va_sld hx hb hX hbl hbA hS (i := nI ((4 * c9) + 1)) (vp_in_nI (show (4 * c9) + 1 < L by omega) (show L < 2147483648 by omega)) d_Law_law_687 ?_
            refine W.eq (g2 := F0 m 688 ls [.int (xs ((4 * c9) + 1)), .ref o0]) (congrArg (fun z => F0 m 688 ls (.int z :: [.ref o0])) (congrArg xs (nI_clamp (show (4 * c9) + 1 < 2 ^ 31 by omega)))) ?_
            refine lv_aload_n hx hb d_Law_law_688 rfl (lv_at hl 4 rfl) ?_
            refine lv_iload hx hb d_Law_law_689 (lv_at hl 0 rfl) ?_
            refine lv_iconst (v := nI 2) hx hb d_Law_law_691 (by decide) ?_
            refine ri_iadd hx hb d_Law_law_692 ?_
            refine va_sld hx hb hX hbl hbA hS (i := nI ((4 * c9) + 2)) (vp_in_nI (show (4 * c9) + 2 < L by omega) (show L < 2147483648 by omega)) d_Law_law_693 ?_
            refine W.eq (g2 := F0 m 694 ls [.int (xs ((4 * c9) + 2)), .int (xs ((4 * c9) + 1)), .ref o0]) (congrArg (fun z => F0 m 694 ls (.int z :: [.int (xs ((4 * c9) + 1)), .ref o0])) (congrArg xs (nI_clamp (show (4 * c9) + 2 < 2 ^ 31 by omega)))) ?_
            obtain ⟨k9, S2, mc9, ms9, F9, L9, F8, L8, hk9, hV9, hco, hr9, hr8, hH9, hV8⟩ := cs_ingress l s A0 h0 hnc hfl D cI cZ cJ cG hN hRf hv (by omega) (xs ((4 * c9) + 1)) (xs ((4 * c9) + 2))
            have hbd2 := lawC_le hV9 (by omega)
            have hcs := lawC_s (c := c9) hco
            refine ct_callSH (bytes := b_Law_ingress) (maxL := 4) (ret := some .int) (hs := [(0, 6, 9, 13)]) (As := [.ref o0, .int (xs ((4 * c9) + 1)), .int (xs ((4 * c9) + 2))]) (rest := []) hz ⟨hx, hb, hml, hown, ht⟩ hH9 rfl rfl hr9.1 hr9.2 (pay_in ht (tb_good kh_ingress)) List.mem_cons_self (ht _ kh_ingress) (ht _ kn_Law) ⟨hd_Law_ingress.1, hd_Law_ingress.2.1⟩ (hd_len hd_Law_ingress) (ht _ kl_Law_122) (ht _ ki_Law_ingress) (wd_ct (Bs := [[(q17, .inl (cJ, 1, .inr (.inl fo)))], ws, wr]) 3 rfl [1] [0, 2] (by decide) rfl) hK hP hD hS hA rfl hl.1 rfl (Nat.le_of_ble_eq_true rfl) ⟨Nat.le_trans hcs.1 hbd2.1, Nat.le_trans hcs.2 hbd2.2⟩ d_Law_law_694 (fun r9 u8 H locs hpo hP hD hS => ?_)
            refine W.widen (k := lawC S2 (c9 + 1)) (n := lawS S2 (c9 + 1)) hcs.1 hcs.2 ?_
            obtain ⟨rfl, u9, hN9, rfl⟩ := hpo
            have hP := wd_nP (N := [u9]) rfl 3 rfl [1, 0, 2] (by decide) hP
            have hD := wd_nD (N := [u9]) rfl 3 rfl [1, 0, 2] (by decide) hD
            have hP : va_P D kls (List.flatten [[(q17, .inl (cJ, 1, .inr (.inl fo)))], u9, wr]) H := hP
            have hD : va_D A (List.flatten [[(q17, .inl (cJ, 1, .inr (.inl fo)))], u9, wr]) := hD
            refine W.eq (g2 := F0 m 697 ls [.int (nI k9)]) rfl ?_
            obtain ⟨fs9, mR9⟩ := rf_mem hRf
            refine lv_istore hx hb d_Law_law_697 hl (by decide) rfl (fun ls hl => ?_)
            have hl : lv_has ls 7 [(5, .int (nI k9)), (4, .int (nI (4 * c9))), (3, .ref q17), (2, .ref o8), (1, .ref o0), (0, .ref b)] := hl
            refine lv_aload_n hx hb d_Law_law_699 rfl (lv_at hl 3 rfl) ?_
            refine lv_aload_n hx hb d_Law_law_700 rfl (lv_at hl 5 rfl) ?_
            refine lv_iload hx hb d_Law_law_701 (lv_at hl 1 rfl) ?_
            refine lv_iconst (v := nI 1) hx hb d_Law_law_703 (by decide) ?_
            refine ri_iadd hx hb d_Law_law_704 ?_
            refine va_sld hx hb hX hbl hbA hS (i := nI ((4 * c9) + 1)) (vp_in_nI (show (4 * c9) + 1 < L by omega) (show L < 2147483648 by omega)) d_Law_law_705 ?_
            refine W.eq (g2 := F0 m 706 ls [.int (xs ((4 * c9) + 1)), .ref o8]) (congrArg (fun z => F0 m 706 ls (.int z :: [.ref o8])) (congrArg xs (nI_clamp (show (4 * c9) + 1 < 2 ^ 31 by omega)))) ?_
            refine lv_aload_n hx hb d_Law_law_706 rfl (lv_at hl 5 rfl) ?_
            refine lv_iload hx hb d_Law_law_707 (lv_at hl 1 rfl) ?_
            refine lv_iconst (v := nI 2) hx hb d_Law_law_709 (by decide) ?_
            refine ri_iadd hx hb d_Law_law_710 ?_
            refine va_sld hx hb hX hbl hbA hS (i := nI ((4 * c9) + 2)) (vp_in_nI (show (4 * c9) + 2 < L by omega) (show L < 2147483648 by omega)) d_Law_law_711 ?_
            refine W.eq (g2 := F0 m 712 ls [.int (xs ((4 * c9) + 2)), .int (xs ((4 * c9) + 1)), .ref o8]) (congrArg (fun z => F0 m 712 ls (.int z :: [.int (xs ((4 * c9) + 1)), .ref o8])) (congrArg xs (nI_clamp (show (4 * c9) + 2 < 2 ^ 31 by omega)))) ?_
            refine ct_callVV (C := R_Ref) (ci := 9) (As := [.int (xs ((4 * c9) + 1)), .int (xs ((4 * c9) + 2))]) (rest := []) ⟨hx, hb, hml, hown, ht⟩ (hV8) (cb_V ht kc_Ref_ingress kl_Law_124 kn_Ref ki_Ref_ingress ks_Ref_ingress hd_Ref_ingress hr8) (wd_mem 2 rfl mR9) rfl rfl (wd_ct (Bs := [[(q17, .inl (cJ, 1, .inr (.inl fo)))], u9, wr]) 3 rfl [2] [0, 1] (by decide) (wd_1 _)) hK hP hD hS hA rfl hl.1 rfl (Nat.le_of_ble_eq_true rfl) ⟨hbd2.1, hbd2.2⟩ d_Law_law_712 (fun u145 H locs hu145 hP hD hS => ?_)
            have hRf9 := hu145
            refine W.widen (k := lawC S2 (c9 + 1)) (n := lawS S2 (c9 + 1)) (Nat.le_refl _) (Nat.le_refl _) ?_
            have hP := wd_nP (N := [u145]) (wd_1 _) 3 rfl [1, 2, 0] (by decide) hP
            have hD := wd_nD (N := [u145]) (wd_1 _) 3 rfl [1, 2, 0] (by decide) hD
            have hP : va_P D kls (List.flatten [[(q17, .inl (cJ, 1, .inr (.inl fo)))], u9, u145]) H := hP
            have hD : va_D A (List.flatten [[(q17, .inl (cJ, 1, .inr (.inl fo)))], u9, u145]) := hD
            refine W.eq (g2 := F0 m 715 ls []) rfl ?_
            obtain ⟨fs7, mR7⟩ := rf_mem hRf9
            refine lv_aload_n hx hb d_Law_law_715 rfl (lv_at hl 3 rfl) ?_
            refine ct_rdV (C := R_Ref) (ci := 9) (As := []) (rest := []) ⟨hx, hb, hml, hown, ht⟩ (k_Ref_thr l D cI cZ cJ cG hRf9) (cb_V ht kc_Ref_thrown kl_Law_86 kn_Ref ki_Ref_thrown ks_Ref_thrown hd_Ref_thrown ⟨Nat.le_of_ble_eq_true rfl, Nat.le_of_ble_eq_true rfl⟩) (wd_mem 2 rfl mR7) rfl rfl (wd_ct (Bs := [[(q17, .inl (cJ, 1, .inr (.inl fo)))], u9, u145]) 3 rfl [2] [0, 1] (by decide) (wd_1 _)) hK hP hD hS hA rfl hl.1 rfl (Nat.le_of_ble_eq_true rfl) ⟨(show (lawC S2 (c9 + 1)) + 0 ≤ 601024 by omega), (show (lawS S2 (c9 + 1)) + 0 ≤ 7293034 by omega)⟩ d_Law_law_716 (fun rhr146 H locs hr146 hP hD hS => ?_)
            subst hr146
            refine lv_iload hx hb d_Law_law_719 (lv_at hl 0 rfl) ?_
            refine ri_icmp_eq hx hb (by omega) (by omega) d_Law_law_721 (tgt := 726) (by decide) (fun hq1 => ?_) (fun hq1 => ?_)
            · refine lv_goto hx hb d_Law_law_726 (tgt := 1286) (by decide) ?_
              refine lv_iinc hx hb d_Law_law_1286 hl (k := 1) rfl (v := nI ((4 * c9) + 4)) (by rw [← nI_add]; rfl) (by decide) rfl (fun ls hl => ?_)
              have hl : lv_has ls 7 [(4, .int (nI ((4 * c9) + 4))), (5, .int (nI k9)), (3, .ref q17), (2, .ref o8), (1, .ref o0), (0, .ref b)] := hl
              refine lv_goto hx hb d_Law_law_1289 (tgt := 23) (by decide) ?_
              exact ih (c9 + 1) S2 (nI k9) fo u9 u145 H locs ls (by omega) hV9 hN9 hRf9 hP hD hS (lv_sub hl [0, 2, 3, 4, 5] rfl)
            · exact absurd hq1 (fun z => z rfl)
          · refine lv_tableIn hx hb d_Law_law_39 (by decide +kernel) (by decide +kernel) (off := 690) (by decide +kernel) (tgt := 729) (by decide) ?_
            refine lv_aload_n hx hb d_Law_law_729 rfl (lv_at hl 3 rfl) ?_
            refine lv_aload_n hx hb d_Law_law_730 rfl (lv_at hl 4 rfl) ?_
            refine lv_iload hx hb d_Law_law_731 (lv_at hl 0 rfl) ?_
            refine lv_iconst (v := nI 1) hx hb d_Law_law_733 (by decide) ?_
            refine ri_iadd hx hb d_Law_law_734 ?_
            refine va_sld hx hb hX hbl hbA hS (i := nI ((4 * c9) + 1)) (vp_in_nI (show (4 * c9) + 1 < L by omega) (show L < 2147483648 by omega)) d_Law_law_735 ?_
            refine W.eq (g2 := F0 m 736 ls [.int (xs ((4 * c9) + 1)), .ref o0]) (congrArg (fun z => F0 m 736 ls (.int z :: [.ref o0])) (congrArg xs (nI_clamp (show (4 * c9) + 1 < 2 ^ 31 by omega)))) ?_
            refine lv_aload_n hx hb d_Law_law_736 rfl (lv_at hl 4 rfl) ?_
            refine lv_iload hx hb d_Law_law_737 (lv_at hl 0 rfl) ?_
            refine lv_iconst (v := nI 2) hx hb d_Law_law_739 (by decide) ?_
            refine ri_iadd hx hb d_Law_law_740 ?_
            refine va_sld hx hb hX hbl hbA hS (i := nI ((4 * c9) + 2)) (vp_in_nI (show (4 * c9) + 2 < L by omega) (show L < 2147483648 by omega)) d_Law_law_741 ?_
            refine W.eq (g2 := F0 m 742 ls [.int (xs ((4 * c9) + 2)), .int (xs ((4 * c9) + 1)), .ref o0]) (congrArg (fun z => F0 m 742 ls (.int z :: [.int (xs ((4 * c9) + 1)), .ref o0])) (congrArg xs (nI_clamp (show (4 * c9) + 2 < 2 ^ 31 by omega)))) ?_
            refine lv_aload_n hx hb d_Law_law_742 rfl (lv_at hl 4 rfl) ?_
            refine lv_iload hx hb d_Law_law_743 (lv_at hl 0 rfl) ?_
            refine lv_iconst (v := nI 3) hx hb d_Law_law_745 (by decide) ?_
            refine ri_iadd hx hb d_Law_law_746 ?_
            refine va_sld hx hb hX hbl hbA hS (i := nI ((4 * c9) + 3)) (vp_in_nI (show (4 * c9) + 3 < L by omega) (show L < 2147483648 by omega)) d_Law_law_747 ?_
            refine W.eq (g2 := F0 m 748 ls [.int (xs ((4 * c9) + 3)), .int (xs ((4 * c9) + 2)), .int (xs ((4 * c9) + 1)), .ref o0]) (congrArg (fun z => F0 m 748 ls (.int z :: [.int (xs ((4 * c9) + 2)), .int (xs ((4 * c9) + 1)), .ref o0])) (congrArg xs (nI_clamp (show (4 * c9) + 3 < 2 ^ 31 by omega)))) ?_
            refine lv_aload_n hx hb d_Law_law_748 rfl (lv_at hl 1 rfl) ?_
            obtain ⟨k9, v9, S2, mc9, ms9, F9, L9, F8, L8, hk9, hV9, hco, hr9, hr8, hH9, hV8⟩ := cs_join l s A0 h0 hnc hfl D cI cZ cJ cG (qo := q17) (fo := fo) hN hRf hv (by omega) (xs ((4 * c9) + 1)) (xs ((4 * c9) + 2)) (xs ((4 * c9) + 3))
            have hbd2 := lawC_le hV9 (by omega)
            have hcs := lawC_s (c := c9) hco
            refine ct_callSH (bytes := b_Law_join) (maxL := 6) (ret := some .int) (hs := [(0, 12, 15, 19), (0, 12, 19, 13)]) (As := [.ref o0, .int (xs ((4 * c9) + 1)), .int (xs ((4 * c9) + 2)), .int (xs ((4 * c9) + 3)), .ref q17]) (rest := []) hz ⟨hx, hb, hml, hown, ht⟩ hH9 rfl rfl hr9.1 hr9.2 (pay_in ht (tb_good kh_join)) List.mem_cons_self (ht _ kh_join) (ht _ kn_Law) ⟨hd_Law_join.1, hd_Law_join.2.1⟩ (hd_len hd_Law_join) (ht _ kl_Law_125) (ht _ ki_Law_join) (wd_ct (Bs := [[(q17, .inl (cJ, 1, .inr (.inl fo)))], ws, wr]) 3 rfl [0, 1] [2] (by decide) rfl) hK hP hD hS hA rfl hl.1 rfl (Nat.le_of_ble_eq_true rfl) ⟨Nat.le_trans hcs.1 hbd2.1, Nat.le_trans hcs.2 hbd2.2⟩ d_Law_law_749 (fun r9 u8 H locs hpo hP hD hS => ?_)
            refine W.widen (k := lawC S2 (c9 + 1)) (n := lawS S2 (c9 + 1)) hcs.1 hcs.2 ?_
            obtain ⟨rfl, f9, u9, hf9, hN9, rfl⟩ := hpo
            have hP := wd_nP (N := [ow cJ q17 f9, u9]) rfl 3 rfl [0, 1, 2] (by decide) hP
            have hD := wd_nD (N := [ow cJ q17 f9, u9]) rfl 3 rfl [0, 1, 2] (by decide) hD
            have hP : va_P D kls (List.flatten [[(q17, .inl (cJ, 1, .inr (.inl f9)))], u9, wr]) H := hP
            have hD : va_D A (List.flatten [[(q17, .inl (cJ, 1, .inr (.inl f9)))], u9, wr]) := hD
            refine W.eq (g2 := F0 m 752 ls [.int (nI k9)]) rfl ?_
            obtain ⟨fs9, mR9⟩ := rf_mem hRf
            refine lv_istore hx hb d_Law_law_752 hl (by decide) rfl (fun ls hl => ?_)
            have hl : lv_has ls 7 [(5, .int (nI k9)), (4, .int (nI (4 * c9))), (3, .ref q17), (2, .ref o8), (1, .ref o0), (0, .ref b)] := hl
            refine lv_aload_n hx hb d_Law_law_754 rfl (lv_at hl 3 rfl) ?_
            refine lv_aload_n hx hb d_Law_law_755 rfl (lv_at hl 5 rfl) ?_
            refine lv_iload hx hb d_Law_law_756 (lv_at hl 1 rfl) ?_
            refine lv_iconst (v := nI 1) hx hb d_Law_law_758 (by decide) ?_
            refine ri_iadd hx hb d_Law_law_759 ?_
            refine va_sld hx hb hX hbl hbA hS (i := nI ((4 * c9) + 1)) (vp_in_nI (show (4 * c9) + 1 < L by omega) (show L < 2147483648 by omega)) d_Law_law_760 ?_
            refine W.eq (g2 := F0 m 761 ls [.int (xs ((4 * c9) + 1)), .ref o8]) (congrArg (fun z => F0 m 761 ls (.int z :: [.ref o8])) (congrArg xs (nI_clamp (show (4 * c9) + 1 < 2 ^ 31 by omega)))) ?_
            refine lv_aload_n hx hb d_Law_law_761 rfl (lv_at hl 5 rfl) ?_
            refine lv_iload hx hb d_Law_law_762 (lv_at hl 1 rfl) ?_
            refine lv_iconst (v := nI 2) hx hb d_Law_law_764 (by decide) ?_
            refine ri_iadd hx hb d_Law_law_765 ?_
            refine va_sld hx hb hX hbl hbA hS (i := nI ((4 * c9) + 2)) (vp_in_nI (show (4 * c9) + 2 < L by omega) (show L < 2147483648 by omega)) d_Law_law_766 ?_
            refine W.eq (g2 := F0 m 767 ls [.int (xs ((4 * c9) + 2)), .int (xs ((4 * c9) + 1)), .ref o8]) (congrArg (fun z => F0 m 767 ls (.int z :: [.int (xs ((4 * c9) + 1)), .ref o8])) (congrArg xs (nI_clamp (show (4 * c9) + 2 < 2 ^ 31 by omega)))) ?_
            refine lv_aload_n hx hb d_Law_law_767 rfl (lv_at hl 5 rfl) ?_
            refine lv_iload hx hb d_Law_law_768 (lv_at hl 1 rfl) ?_
            refine lv_iconst (v := nI 3) hx hb d_Law_law_770 (by decide) ?_
            refine ri_iadd hx hb d_Law_law_771 ?_
            refine va_sld hx hb hX hbl hbA hS (i := nI ((4 * c9) + 3)) (vp_in_nI (show (4 * c9) + 3 < L by omega) (show L < 2147483648 by omega)) d_Law_law_772 ?_
            refine W.eq (g2 := F0 m 773 ls [.int (xs ((4 * c9) + 3)), .int (xs ((4 * c9) + 2)), .int (xs ((4 * c9) + 1)), .ref o8]) (congrArg (fun z => F0 m 773 ls (.int z :: [.int (xs ((4 * c9) + 2)), .int (xs ((4 * c9) + 1)), .ref o8])) (congrArg xs (nI_clamp (show (4 * c9) + 3 < 2 ^ 31 by omega)))) ?_
            refine ct_callVI (C := R_Ref) (ci := 9) (As := [.int (xs ((4 * c9) + 1)), .int (xs ((4 * c9) + 2)), .int (xs ((4 * c9) + 3))]) (rest := []) ⟨hx, hb, hml, hown, ht⟩ (hV8) (cb_V ht kc_Ref_join kl_Law_128 kn_Ref ki_Ref_join ks_Ref_join hd_Ref_join hr8) (wd_mem 2 rfl mR9) rfl rfl (wd_ct (Bs := [[(q17, .inl (cJ, 1, .inr (.inl f9)))], u9, wr]) 3 rfl [2] [0, 1] (by decide) (wd_1 _)) hK hP hD hS hA rfl hl.1 rfl (Nat.le_of_ble_eq_true rfl) ⟨hbd2.1, hbd2.2⟩ d_Law_law_773 (fun ru148 u148 H locs hu148 hP hD hS => ?_)
            obtain ⟨hz9, hRf9⟩ := hu148
            refine W.widen (k := lawC S2 (c9 + 1)) (n := lawS S2 (c9 + 1)) (Nat.le_refl _) (Nat.le_refl _) ?_
            have hP := wd_nP (N := [u148]) (wd_1 _) 3 rfl [1, 2, 0] (by decide) hP
            have hD := wd_nD (N := [u148]) (wd_1 _) 3 rfl [1, 2, 0] (by decide) hD
            have hP : va_P D kls (List.flatten [[(q17, .inl (cJ, 1, .inr (.inl f9)))], u9, u148]) H := hP
            have hD : va_D A (List.flatten [[(q17, .inl (cJ, 1, .inr (.inl f9)))], u9, u148]) := hD
            refine W.eq (g2 := F0 m 776 ls [.int ru148]) rfl ?_
            obtain ⟨fs7, mR7⟩ := rf_mem hRf9
            refine lv_istore hx hb d_Law_law_776 hl (by decide) rfl (fun ls hl => ?_)
            have hl : lv_has ls 7 [(6, .int ru148), (5, .int (nI k9)), (4, .int (nI (4 * c9))), (3, .ref q17), (2, .ref o8), (1, .ref o0), (0, .ref b)] := hl
            refine lv_aload_n hx hb d_Law_law_778 rfl (lv_at hl 4 rfl) ?_
            refine ct_rdV (C := R_Ref) (ci := 9) (As := []) (rest := []) ⟨hx, hb, hml, hown, ht⟩ (k_Ref_thr l D cI cZ cJ cG hRf9) (cb_V ht kc_Ref_thrown kl_Law_86 kn_Ref ki_Ref_thrown ks_Ref_thrown hd_Ref_thrown ⟨Nat.le_of_ble_eq_true rfl, Nat.le_of_ble_eq_true rfl⟩) (wd_mem 2 rfl mR7) rfl rfl (wd_ct (Bs := [[(q17, .inl (cJ, 1, .inr (.inl f9)))], u9, u148]) 3 rfl [2] [0, 1] (by decide) (wd_1 _)) hK hP hD hS hA rfl hl.1 rfl (Nat.le_of_ble_eq_true rfl) ⟨(show (lawC S2 (c9 + 1)) + 0 ≤ 601024 by omega), (show (lawS S2 (c9 + 1)) + 0 ≤ 7293034 by omega)⟩ d_Law_law_779 (fun rhr149 H locs hr149 hP hD hS => ?_)
            subst hr149
            refine lv_iload hx hb d_Law_law_782 (lv_at hl 1 rfl) ?_
            refine ri_icmp_eq hx hb (by omega) (by omega) d_Law_law_784 (tgt := 789) (by decide) (fun hq1 => ?_) (fun hq1 => ?_)
            · refine lv_iload hx hb d_Law_law_789 (lv_at hl 1 rfl) ?_
              refine ri_if_ne hx hb (by omega) d_Law_law_791 (tgt := 806) (by decide) (fun hq2 => ?_) (fun hq2 => ?_)
              · refine lv_goto hx hb d_Law_law_806 (tgt := 1286) (by decide) ?_
                refine lv_iinc hx hb d_Law_law_1286 hl (k := 2) rfl (v := nI ((4 * c9) + 4)) (by rw [← nI_add]; rfl) (by decide) rfl (fun ls hl => ?_)
                have hl : lv_has ls 7 [(4, .int (nI ((4 * c9) + 4))), (6, .int ru148), (5, .int (nI k9)), (3, .ref q17), (2, .ref o8), (1, .ref o0), (0, .ref b)] := hl
                refine lv_goto hx hb d_Law_law_1289 (tgt := 23) (by decide) ?_
                exact ih (c9 + 1) S2 (nI k9) f9 u9 u148 H locs ls (by omega) hV9 hN9 hRf9 hP hD hS (lv_sub hl [0, 3, 4, 5, 6] rfl)
              · refine lv_aload_n hx hb d_Law_law_794 rfl (lv_at hl 3 rfl) ?_
                refine lv_iconst (v := nI 0) hx hb d_Law_law_795 (by decide) ?_
                refine ri_lald hx hb hK hP 0 2 rfl rfl (j := 0) (by omega) (by omega) d_Law_law_796 ?_
                refine W.eq (g2 := F0 m 797 ls [.long v9.toInt64]) (congrArg (fun z => F0 m 797 ls (.long z :: [])) (hf9 (by omega))) ?_
                refine lv_iload hx hb d_Law_law_797 (lv_at hl 0 rfl) ?_
                refine W.eq (g2 := F0 m 799 ls [.int v9, .long v9.toInt64]) (congrArg (fun z => F0 m 799 ls (.int z :: [.long v9.toInt64])) (hz9 (by omega))) ?_
                refine lv_i2l (v := v9.toInt64) hx hb d_Law_law_799 rfl ?_
                refine ri_lcmp hx hb d_Law_law_800 ?_
                refine lv_if_eq hx hb d_Law_law_801 (tgt := 806) (by decide) (fun hq3 => ?_) (fun hq3 => ?_)
                · refine lv_goto hx hb d_Law_law_806 (tgt := 1286) (by decide) ?_
                  refine lv_iinc hx hb d_Law_law_1286 hl (k := 2) rfl (v := nI ((4 * c9) + 4)) (by rw [← nI_add]; rfl) (by decide) rfl (fun ls hl => ?_)
                  have hl : lv_has ls 7 [(4, .int (nI ((4 * c9) + 4))), (6, .int ru148), (5, .int (nI k9)), (3, .ref q17), (2, .ref o8), (1, .ref o0), (0, .ref b)] := hl
                  refine lv_goto hx hb d_Law_law_1289 (tgt := 23) (by decide) ?_
                  exact ih (c9 + 1) S2 (nI k9) f9 u9 u148 H locs ls (by omega) hV9 hN9 hRf9 hP hD hS (lv_sub hl [0, 3, 4, 5, 6] rfl)
                · exact absurd hq3 (fun z => z (lc_0 _))
            · exact absurd hq1 (fun z => z rfl)
          · refine lv_tableIn hx hb d_Law_law_39 (by decide +kernel) (by decide +kernel) (off := 770) (by decide +kernel) (tgt := 809) (by decide) ?_
            refine lv_aload_n hx hb d_Law_law_809 rfl (lv_at hl 3 rfl) ?_
            refine lv_aload_n hx hb d_Law_law_810 rfl (lv_at hl 4 rfl) ?_
            refine lv_iload hx hb d_Law_law_811 (lv_at hl 0 rfl) ?_
            refine lv_iconst (v := nI 1) hx hb d_Law_law_813 (by decide) ?_
            refine ri_iadd hx hb d_Law_law_814 ?_
            refine va_sld hx hb hX hbl hbA hS (i := nI ((4 * c9) + 1)) (vp_in_nI (show (4 * c9) + 1 < L by omega) (show L < 2147483648 by omega)) d_Law_law_815 ?_
            refine W.eq (g2 := F0 m 816 ls [.int (xs ((4 * c9) + 1)), .ref o0]) (congrArg (fun z => F0 m 816 ls (.int z :: [.ref o0])) (congrArg xs (nI_clamp (show (4 * c9) + 1 < 2 ^ 31 by omega)))) ?_
            obtain ⟨k9, S2, mc9, ms9, F9, L9, F8, L8, hk9, hV9, hco, hr9, hr8, hH9, hV8⟩ := cs_report l s A0 h0 hnc hfl D cI cZ cJ cG hN hRf hv (by omega) (xs ((4 * c9) + 1))
            have hbd2 := lawC_le hV9 (by omega)
            have hcs := lawC_s (c := c9) hco
            refine ct_callSH (bytes := b_Law_report) (maxL := 3) (ret := some .int) (hs := [(0, 5, 8, 19), (0, 5, 11, 13)]) (As := [.ref o0, .int (xs ((4 * c9) + 1))]) (rest := []) hz ⟨hx, hb, hml, hown, ht⟩ hH9 rfl rfl hr9.1 hr9.2 (pay_in ht (tb_good kh_report)) List.mem_cons_self (ht _ kh_report) (ht _ kn_Law) ⟨hd_Law_report.1, hd_Law_report.2.1⟩ (hd_len hd_Law_report) (ht _ kl_Law_129) (ht _ ki_Law_report) (wd_ct (Bs := [[(q17, .inl (cJ, 1, .inr (.inl fo)))], ws, wr]) 3 rfl [1] [0, 2] (by decide) rfl) hK hP hD hS hA rfl hl.1 rfl (Nat.le_of_ble_eq_true rfl) ⟨Nat.le_trans hcs.1 hbd2.1, Nat.le_trans hcs.2 hbd2.2⟩ d_Law_law_816 (fun r9 u8 H locs hpo hP hD hS => ?_)
            refine W.widen (k := lawC S2 (c9 + 1)) (n := lawS S2 (c9 + 1)) hcs.1 hcs.2 ?_
            obtain ⟨rfl, u9, hN9, rfl⟩ := hpo
            have hP := wd_nP (N := [u9]) rfl 3 rfl [1, 0, 2] (by decide) hP
            have hD := wd_nD (N := [u9]) rfl 3 rfl [1, 0, 2] (by decide) hD
            have hP : va_P D kls (List.flatten [[(q17, .inl (cJ, 1, .inr (.inl fo)))], u9, wr]) H := hP
            have hD : va_D A (List.flatten [[(q17, .inl (cJ, 1, .inr (.inl fo)))], u9, wr]) := hD
            refine W.eq (g2 := F0 m 819 ls [.int (nI k9)]) rfl ?_
            obtain ⟨fs9, mR9⟩ := rf_mem hRf
            refine lv_istore hx hb d_Law_law_819 hl (by decide) rfl (fun ls hl => ?_)
            have hl : lv_has ls 7 [(5, .int (nI k9)), (4, .int (nI (4 * c9))), (3, .ref q17), (2, .ref o8), (1, .ref o0), (0, .ref b)] := hl
            refine lv_aload_n hx hb d_Law_law_821 rfl (lv_at hl 3 rfl) ?_
            refine lv_aload_n hx hb d_Law_law_822 rfl (lv_at hl 5 rfl) ?_
            refine lv_iload hx hb d_Law_law_823 (lv_at hl 1 rfl) ?_
            refine lv_iconst (v := nI 1) hx hb d_Law_law_825 (by decide) ?_
            refine ri_iadd hx hb d_Law_law_826 ?_
            refine va_sld hx hb hX hbl hbA hS (i := nI ((4 * c9) + 1)) (vp_in_nI (show (4 * c9) + 1 < L by omega) (show L < 2147483648 by omega)) d_Law_law_827 ?_
            refine W.eq (g2 := F0 m 828 ls [.int (xs ((4 * c9) + 1)), .ref o8]) (congrArg (fun z => F0 m 828 ls (.int z :: [.ref o8])) (congrArg xs (nI_clamp (show (4 * c9) + 1 < 2 ^ 31 by omega)))) ?_
            refine ct_callVV (C := R_Ref) (ci := 9) (As := [.int (xs ((4 * c9) + 1))]) (rest := []) ⟨hx, hb, hml, hown, ht⟩ (hV8) (cb_V ht kc_Ref_report kl_Law_132 kn_Ref ki_Ref_report ks_Ref_report hd_Ref_report hr8) (wd_mem 2 rfl mR9) rfl rfl (wd_ct (Bs := [[(q17, .inl (cJ, 1, .inr (.inl fo)))], u9, wr]) 3 rfl [2] [0, 1] (by decide) (wd_1 _)) hK hP hD hS hA rfl hl.1 rfl (Nat.le_of_ble_eq_true rfl) ⟨hbd2.1, hbd2.2⟩ d_Law_law_828 (fun u153 H locs hu153 hP hD hS => ?_)
            have hRf9 := hu153
            refine W.widen (k := lawC S2 (c9 + 1)) (n := lawS S2 (c9 + 1)) (Nat.le_refl _) (Nat.le_refl _) ?_
            have hP := wd_nP (N := [u153]) (wd_1 _) 3 rfl [1, 2, 0] (by decide) hP
            have hD := wd_nD (N := [u153]) (wd_1 _) 3 rfl [1, 2, 0] (by decide) hD
            have hP : va_P D kls (List.flatten [[(q17, .inl (cJ, 1, .inr (.inl fo)))], u9, u153]) H := hP
            have hD : va_D A (List.flatten [[(q17, .inl (cJ, 1, .inr (.inl fo)))], u9, u153]) := hD
            refine W.eq (g2 := F0 m 831 ls []) rfl ?_
            obtain ⟨fs7, mR7⟩ := rf_mem hRf9
            refine lv_aload_n hx hb d_Law_law_831 rfl (lv_at hl 3 rfl) ?_
            refine ct_rdV (C := R_Ref) (ci := 9) (As := []) (rest := []) ⟨hx, hb, hml, hown, ht⟩ (k_Ref_thr l D cI cZ cJ cG hRf9) (cb_V ht kc_Ref_thrown kl_Law_86 kn_Ref ki_Ref_thrown ks_Ref_thrown hd_Ref_thrown ⟨Nat.le_of_ble_eq_true rfl, Nat.le_of_ble_eq_true rfl⟩) (wd_mem 2 rfl mR7) rfl rfl (wd_ct (Bs := [[(q17, .inl (cJ, 1, .inr (.inl fo)))], u9, u153]) 3 rfl [2] [0, 1] (by decide) (wd_1 _)) hK hP hD hS hA rfl hl.1 rfl (Nat.le_of_ble_eq_true rfl) ⟨(show (lawC S2 (c9 + 1)) + 0 ≤ 601024 by omega), (show (lawS S2 (c9 + 1)) + 0 ≤ 7293034 by omega)⟩ d_Law_law_832 (fun rhr154 H locs hr154 hP hD hS => ?_)
            subst hr154
            refine lv_iload hx hb d_Law_law_835 (lv_at hl 0 rfl) ?_
            refine ri_icmp_eq hx hb (by omega) (by omega) d_Law_law_837 (tgt := 842) (by decide) (fun hq1 => ?_) (fun hq1 => ?_)
            · refine lv_goto hx hb d_Law_law_842 (tgt := 1286) (by decide) ?_
              refine lv_iinc hx hb d_Law_law_1286 hl (k := 1) rfl (v := nI ((4 * c9) + 4)) (by rw [← nI_add]; rfl) (by decide) rfl (fun ls hl => ?_)
              have hl : lv_has ls 7 [(4, .int (nI ((4 * c9) + 4))), (5, .int (nI k9)), (3, .ref q17), (2, .ref o8), (1, .ref o0), (0, .ref b)] := hl
              refine lv_goto hx hb d_Law_law_1289 (tgt := 23) (by decide) ?_
              exact ih (c9 + 1) S2 (nI k9) fo u9 u153 H locs ls (by omega) hV9 hN9 hRf9 hP hD hS (lv_sub hl [0, 2, 3, 4, 5] rfl)
            · exact absurd hq1 (fun z => z rfl)
          · refine lv_tableIn hx hb d_Law_law_39 (by decide +kernel) (by decide +kernel) (off := 806) (by decide +kernel) (tgt := 845) (by decide) ?_
            refine lv_aload_n hx hb d_Law_law_845 rfl (lv_at hl 3 rfl) ?_
            refine lv_aload_n hx hb d_Law_law_846 rfl (lv_at hl 4 rfl) ?_
            refine lv_iload hx hb d_Law_law_847 (lv_at hl 0 rfl) ?_
            refine lv_iconst (v := nI 1) hx hb d_Law_law_849 (by decide) ?_
            refine ri_iadd hx hb d_Law_law_850 ?_
            refine va_sld hx hb hX hbl hbA hS (i := nI ((4 * c9) + 1)) (vp_in_nI (show (4 * c9) + 1 < L by omega) (show L < 2147483648 by omega)) d_Law_law_851 ?_
            refine W.eq (g2 := F0 m 852 ls [.int (xs ((4 * c9) + 1)), .ref o0]) (congrArg (fun z => F0 m 852 ls (.int z :: [.ref o0])) (congrArg xs (nI_clamp (show (4 * c9) + 1 < 2 ^ 31 by omega)))) ?_
            refine lv_aload_n hx hb d_Law_law_852 rfl (lv_at hl 1 rfl) ?_
            obtain ⟨k9, v9, S2, mc9, ms9, F9, L9, F8, L8, hk9, hV9, hco, hr9, hr8, hH9, hV8⟩ := cs_carry l s A0 h0 hnc hfl D cI cZ cJ cG (qo := q17) (fo := fo) hN hRf hv (by omega) (xs ((4 * c9) + 1))
            have hbd2 := lawC_le hV9 (by omega)
            have hcs := lawC_s (c := c9) hco
            refine ct_callSH (bytes := b_Law_carry) (maxL := 4) (ret := some .int) (hs := [(0, 9, 12, 13)]) (As := [.ref o0, .int (xs ((4 * c9) + 1)), .ref q17]) (rest := []) hz ⟨hx, hb, hml, hown, ht⟩ hH9 rfl rfl hr9.1 hr9.2 (pay_in ht (tb_good kh_carry)) List.mem_cons_self (ht _ kh_carry) (ht _ kn_Law) ⟨hd_Law_carry.1, hd_Law_carry.2.1⟩ (hd_len hd_Law_carry) (ht _ kl_Law_133) (ht _ ki_Law_carry) (wd_ct (Bs := [[(q17, .inl (cJ, 1, .inr (.inl fo)))], ws, wr]) 3 rfl [0, 1] [2] (by decide) rfl) hK hP hD hS hA rfl hl.1 rfl (Nat.le_of_ble_eq_true rfl) ⟨Nat.le_trans hcs.1 hbd2.1, Nat.le_trans hcs.2 hbd2.2⟩ d_Law_law_853 (fun r9 u8 H locs hpo hP hD hS => ?_)
            refine W.widen (k := lawC S2 (c9 + 1)) (n := lawS S2 (c9 + 1)) hcs.1 hcs.2 ?_
            obtain ⟨rfl, f9, u9, hf9, hN9, rfl⟩ := hpo
            have hP := wd_nP (N := [ow cJ q17 f9, u9]) rfl 3 rfl [0, 1, 2] (by decide) hP
            have hD := wd_nD (N := [ow cJ q17 f9, u9]) rfl 3 rfl [0, 1, 2] (by decide) hD
            have hP : va_P D kls (List.flatten [[(q17, .inl (cJ, 1, .inr (.inl f9)))], u9, wr]) H := hP
            have hD : va_D A (List.flatten [[(q17, .inl (cJ, 1, .inr (.inl f9)))], u9, wr]) := hD
            refine W.eq (g2 := F0 m 856 ls [.int (nI k9)]) rfl ?_
            obtain ⟨fs9, mR9⟩ := rf_mem hRf
            refine lv_istore hx hb d_Law_law_856 hl (by decide) rfl (fun ls hl => ?_)
            have hl : lv_has ls 7 [(5, .int (nI k9)), (4, .int (nI (4 * c9))), (3, .ref q17), (2, .ref o8), (1, .ref o0), (0, .ref b)] := hl
            refine lv_aload_n hx hb d_Law_law_858 rfl (lv_at hl 3 rfl) ?_
            refine lv_aload_n hx hb d_Law_law_859 rfl (lv_at hl 5 rfl) ?_
            refine lv_iload hx hb d_Law_law_860 (lv_at hl 1 rfl) ?_
            refine lv_iconst (v := nI 1) hx hb d_Law_law_862 (by decide) ?_
            refine ri_iadd hx hb d_Law_law_863 ?_
            refine va_sld hx hb hX hbl hbA hS (i := nI ((4 * c9) + 1)) (vp_in_nI (show (4 * c9) + 1 < L by omega) (show L < 2147483648 by omega)) d_Law_law_864 ?_
            refine W.eq (g2 := F0 m 865 ls [.int (xs ((4 * c9) + 1)), .ref o8]) (congrArg (fun z => F0 m 865 ls (.int z :: [.ref o8])) (congrArg xs (nI_clamp (show (4 * c9) + 1 < 2 ^ 31 by omega)))) ?_
            refine ct_callVI (C := R_Ref) (ci := 9) (As := [.int (xs ((4 * c9) + 1))]) (rest := []) ⟨hx, hb, hml, hown, ht⟩ (hV8) (cb_V ht kc_Ref_carry kl_Law_135 kn_Ref ki_Ref_carry ks_Ref_carry hd_Ref_carry hr8) (wd_mem 2 rfl mR9) rfl rfl (wd_ct (Bs := [[(q17, .inl (cJ, 1, .inr (.inl f9)))], u9, wr]) 3 rfl [2] [0, 1] (by decide) (wd_1 _)) hK hP hD hS hA rfl hl.1 rfl (Nat.le_of_ble_eq_true rfl) ⟨hbd2.1, hbd2.2⟩ d_Law_law_865 (fun ru156 u156 H locs hu156 hP hD hS => ?_)
            obtain ⟨hz9, hRf9⟩ := hu156
            refine W.widen (k := lawC S2 (c9 + 1)) (n := lawS S2 (c9 + 1)) (Nat.le_refl _) (Nat.le_refl _) ?_
            have hP := wd_nP (N := [u156]) (wd_1 _) 3 rfl [1, 2, 0] (by decide) hP
            have hD := wd_nD (N := [u156]) (wd_1 _) 3 rfl [1, 2, 0] (by decide) hD
            have hP : va_P D kls (List.flatten [[(q17, .inl (cJ, 1, .inr (.inl f9)))], u9, u156]) H := hP
            have hD : va_D A (List.flatten [[(q17, .inl (cJ, 1, .inr (.inl f9)))], u9, u156]) := hD
            refine W.eq (g2 := F0 m 868 ls [.int ru156]) rfl ?_
            obtain ⟨fs7, mR7⟩ := rf_mem hRf9
            refine lv_istore hx hb d_Law_law_868 hl (by decide) rfl (fun ls hl => ?_)
            have hl : lv_has ls 7 [(6, .int ru156), (5, .int (nI k9)), (4, .int (nI (4 * c9))), (3, .ref q17), (2, .ref o8), (1, .ref o0), (0, .ref b)] := hl
            refine lv_aload_n hx hb d_Law_law_870 rfl (lv_at hl 4 rfl) ?_
            refine ct_rdV (C := R_Ref) (ci := 9) (As := []) (rest := []) ⟨hx, hb, hml, hown, ht⟩ (k_Ref_thr l D cI cZ cJ cG hRf9) (cb_V ht kc_Ref_thrown kl_Law_86 kn_Ref ki_Ref_thrown ks_Ref_thrown hd_Ref_thrown ⟨Nat.le_of_ble_eq_true rfl, Nat.le_of_ble_eq_true rfl⟩) (wd_mem 2 rfl mR7) rfl rfl (wd_ct (Bs := [[(q17, .inl (cJ, 1, .inr (.inl f9)))], u9, u156]) 3 rfl [2] [0, 1] (by decide) (wd_1 _)) hK hP hD hS hA rfl hl.1 rfl (Nat.le_of_ble_eq_true rfl) ⟨(show (lawC S2 (c9 + 1)) + 0 ≤ 601024 by omega), (show (lawS S2 (c9 + 1)) + 0 ≤ 7293034 by omega)⟩ d_Law_law_871 (fun rhr157 H locs hr157 hP hD hS => ?_)
            subst hr157
            refine lv_iload hx hb d_Law_law_874 (lv_at hl 1 rfl) ?_
            refine ri_icmp_eq hx hb (by omega) (by omega) d_Law_law_876 (tgt := 881) (by decide) (fun hq1 => ?_) (fun hq1 => ?_)
            · refine lv_iload hx hb d_Law_law_881 (lv_at hl 1 rfl) ?_
              refine ri_if_ne hx hb (by omega) d_Law_law_883 (tgt := 898) (by decide) (fun hq2 => ?_) (fun hq2 => ?_)
              · refine lv_goto hx hb d_Law_law_898 (tgt := 1286) (by decide) ?_
                refine lv_iinc hx hb d_Law_law_1286 hl (k := 2) rfl (v := nI ((4 * c9) + 4)) (by rw [← nI_add]; rfl) (by decide) rfl (fun ls hl => ?_)
                have hl : lv_has ls 7 [(4, .int (nI ((4 * c9) + 4))), (6, .int ru156), (5, .int (nI k9)), (3, .ref q17), (2, .ref o8), (1, .ref o0), (0, .ref b)] := hl
                refine lv_goto hx hb d_Law_law_1289 (tgt := 23) (by decide) ?_
                exact ih (c9 + 1) S2 (nI k9) f9 u9 u156 H locs ls (by omega) hV9 hN9 hRf9 hP hD hS (lv_sub hl [0, 3, 4, 5, 6] rfl)
              · refine lv_aload_n hx hb d_Law_law_886 rfl (lv_at hl 3 rfl) ?_
                refine lv_iconst (v := nI 0) hx hb d_Law_law_887 (by decide) ?_
                refine ri_lald hx hb hK hP 0 2 rfl rfl (j := 0) (by omega) (by omega) d_Law_law_888 ?_
                refine W.eq (g2 := F0 m 889 ls [.long v9.toInt64]) (congrArg (fun z => F0 m 889 ls (.long z :: [])) (hf9 (by omega))) ?_
                refine lv_iload hx hb d_Law_law_889 (lv_at hl 0 rfl) ?_
                refine W.eq (g2 := F0 m 891 ls [.int v9, .long v9.toInt64]) (congrArg (fun z => F0 m 891 ls (.int z :: [.long v9.toInt64])) (hz9 (by omega))) ?_
                refine lv_i2l (v := v9.toInt64) hx hb d_Law_law_891 rfl ?_
                refine ri_lcmp hx hb d_Law_law_892 ?_
                refine lv_if_eq hx hb d_Law_law_893 (tgt := 898) (by decide) (fun hq3 => ?_) (fun hq3 => ?_)
                · refine lv_goto hx hb d_Law_law_898 (tgt := 1286) (by decide) ?_
                  refine lv_iinc hx hb d_Law_law_1286 hl (k := 2) rfl (v := nI ((4 * c9) + 4)) (by rw [← nI_add]; rfl) (by decide) rfl (fun ls hl => ?_)
                  have hl : lv_has ls 7 [(4, .int (nI ((4 * c9) + 4))), (6, .int ru156), (5, .int (nI k9)), (3, .ref q17), (2, .ref o8), (1, .ref o0), (0, .ref b)] := hl
                  refine lv_goto hx hb d_Law_law_1289 (tgt := 23) (by decide) ?_
                  exact ih (c9 + 1) S2 (nI k9) f9 u9 u156 H locs ls (by omega) hV9 hN9 hRf9 hP hD hS (lv_sub hl [0, 3, 4, 5, 6] rfl)
                · exact absurd hq3 (fun z => z (lc_0 _))
            · exact absurd hq1 (fun z => z rfl)
          · refine lv_tableIn hx hb d_Law_law_39 (by decide +kernel) (by decide +kernel) (off := 862) (by decide +kernel) (tgt := 901) (by decide) ?_
            refine lv_aload_n hx hb d_Law_law_901 rfl (lv_at hl 3 rfl) ?_
            refine lv_aload_n hx hb d_Law_law_902 rfl (lv_at hl 4 rfl) ?_
            refine lv_iload hx hb d_Law_law_903 (lv_at hl 0 rfl) ?_
            refine lv_iconst (v := nI 1) hx hb d_Law_law_905 (by decide) ?_
            refine ri_iadd hx hb d_Law_law_906 ?_
            refine va_sld hx hb hX hbl hbA hS (i := nI ((4 * c9) + 1)) (vp_in_nI (show (4 * c9) + 1 < L by omega) (show L < 2147483648 by omega)) d_Law_law_907 ?_
            refine W.eq (g2 := F0 m 908 ls [.int (xs ((4 * c9) + 1)), .ref o0]) (congrArg (fun z => F0 m 908 ls (.int z :: [.ref o0])) (congrArg xs (nI_clamp (show (4 * c9) + 1 < 2 ^ 31 by omega)))) ?_
            refine lv_aload_n hx hb d_Law_law_908 rfl (lv_at hl 1 rfl) ?_
            obtain ⟨k9, v9, S2, mc9, ms9, F9, L9, F8, L8, hk9, hV9, hco, hr9, hr8, hH9, hV8⟩ := cs_bits l s A0 h0 hnc hfl D cI cZ cJ cG (qo := q17) (fo := fo) hN hRf hv (by omega) (xs ((4 * c9) + 1))
            have hbd2 := lawC_le hV9 (by omega)
            have hcs := lawC_s (c := c9) hco
            refine ct_callSH (bytes := b_Law_bits) (maxL := 4) (ret := some .int) (hs := [(0, 9, 12, 13)]) (As := [.ref o0, .int (xs ((4 * c9) + 1)), .ref q17]) (rest := []) hz ⟨hx, hb, hml, hown, ht⟩ hH9 rfl rfl hr9.1 hr9.2 (pay_in ht (tb_good kh_bits)) List.mem_cons_self (ht _ kh_bits) (ht _ kn_Law) ⟨hd_Law_bits.1, hd_Law_bits.2.1⟩ (hd_len hd_Law_bits) (ht _ kl_Law_136) (ht _ ki_Law_bits) (wd_ct (Bs := [[(q17, .inl (cJ, 1, .inr (.inl fo)))], ws, wr]) 3 rfl [0, 1] [2] (by decide) rfl) hK hP hD hS hA rfl hl.1 rfl (Nat.le_of_ble_eq_true rfl) ⟨Nat.le_trans hcs.1 hbd2.1, Nat.le_trans hcs.2 hbd2.2⟩ d_Law_law_909 (fun r9 u8 H locs hpo hP hD hS => ?_)
            refine W.widen (k := lawC S2 (c9 + 1)) (n := lawS S2 (c9 + 1)) hcs.1 hcs.2 ?_
            obtain ⟨rfl, f9, u9, hf9, hN9, rfl⟩ := hpo
            have hP := wd_nP (N := [ow cJ q17 f9, u9]) rfl 3 rfl [0, 1, 2] (by decide) hP
            have hD := wd_nD (N := [ow cJ q17 f9, u9]) rfl 3 rfl [0, 1, 2] (by decide) hD
            have hP : va_P D kls (List.flatten [[(q17, .inl (cJ, 1, .inr (.inl f9)))], u9, wr]) H := hP
            have hD : va_D A (List.flatten [[(q17, .inl (cJ, 1, .inr (.inl f9)))], u9, wr]) := hD
            refine W.eq (g2 := F0 m 912 ls [.int (nI k9)]) rfl ?_
            obtain ⟨fs9, mR9⟩ := rf_mem hRf
            refine lv_istore hx hb d_Law_law_912 hl (by decide) rfl (fun ls hl => ?_)
            have hl : lv_has ls 7 [(5, .int (nI k9)), (4, .int (nI (4 * c9))), (3, .ref q17), (2, .ref o8), (1, .ref o0), (0, .ref b)] := hl
            refine lv_aload_n hx hb d_Law_law_914 rfl (lv_at hl 3 rfl) ?_
            refine lv_aload_n hx hb d_Law_law_915 rfl (lv_at hl 5 rfl) ?_
            refine lv_iload hx hb d_Law_law_916 (lv_at hl 1 rfl) ?_
            refine lv_iconst (v := nI 1) hx hb d_Law_law_918 (by decide) ?_
            refine ri_iadd hx hb d_Law_law_919 ?_
            refine va_sld hx hb hX hbl hbA hS (i := nI ((4 * c9) + 1)) (vp_in_nI (show (4 * c9) + 1 < L by omega) (show L < 2147483648 by omega)) d_Law_law_920 ?_
            refine W.eq (g2 := F0 m 921 ls [.int (xs ((4 * c9) + 1)), .ref o8]) (congrArg (fun z => F0 m 921 ls (.int z :: [.ref o8])) (congrArg xs (nI_clamp (show (4 * c9) + 1 < 2 ^ 31 by omega)))) ?_
            refine ct_callVI (C := R_Ref) (ci := 9) (As := [.int (xs ((4 * c9) + 1))]) (rest := []) ⟨hx, hb, hml, hown, ht⟩ (hV8) (cb_V ht kc_Ref_bits kl_Law_138 kn_Ref ki_Ref_bits ks_Ref_bits hd_Ref_bits hr8) (wd_mem 2 rfl mR9) rfl rfl (wd_ct (Bs := [[(q17, .inl (cJ, 1, .inr (.inl f9)))], u9, wr]) 3 rfl [2] [0, 1] (by decide) (wd_1 _)) hK hP hD hS hA rfl hl.1 rfl (Nat.le_of_ble_eq_true rfl) ⟨hbd2.1, hbd2.2⟩ d_Law_law_921 (fun ru161 u161 H locs hu161 hP hD hS => ?_)
            obtain ⟨hz9, hRf9⟩ := hu161
            refine W.widen (k := lawC S2 (c9 + 1)) (n := lawS S2 (c9 + 1)) (Nat.le_refl _) (Nat.le_refl _) ?_
            have hP := wd_nP (N := [u161]) (wd_1 _) 3 rfl [1, 2, 0] (by decide) hP
            have hD := wd_nD (N := [u161]) (wd_1 _) 3 rfl [1, 2, 0] (by decide) hD
            have hP : va_P D kls (List.flatten [[(q17, .inl (cJ, 1, .inr (.inl f9)))], u9, u161]) H := hP
            have hD : va_D A (List.flatten [[(q17, .inl (cJ, 1, .inr (.inl f9)))], u9, u161]) := hD
            refine W.eq (g2 := F0 m 924 ls [.int ru161]) rfl ?_
            obtain ⟨fs7, mR7⟩ := rf_mem hRf9
            refine lv_istore hx hb d_Law_law_924 hl (by decide) rfl (fun ls hl => ?_)
            have hl : lv_has ls 7 [(6, .int ru161), (5, .int (nI k9)), (4, .int (nI (4 * c9))), (3, .ref q17), (2, .ref o8), (1, .ref o0), (0, .ref b)] := hl
            refine lv_aload_n hx hb d_Law_law_926 rfl (lv_at hl 4 rfl) ?_
            refine ct_rdV (C := R_Ref) (ci := 9) (As := []) (rest := []) ⟨hx, hb, hml, hown, ht⟩ (k_Ref_thr l D cI cZ cJ cG hRf9) (cb_V ht kc_Ref_thrown kl_Law_86 kn_Ref ki_Ref_thrown ks_Ref_thrown hd_Ref_thrown ⟨Nat.le_of_ble_eq_true rfl, Nat.le_of_ble_eq_true rfl⟩) (wd_mem 2 rfl mR7) rfl rfl (wd_ct (Bs := [[(q17, .inl (cJ, 1, .inr (.inl f9)))], u9, u161]) 3 rfl [2] [0, 1] (by decide) (wd_1 _)) hK hP hD hS hA rfl hl.1 rfl (Nat.le_of_ble_eq_true rfl) ⟨(show (lawC S2 (c9 + 1)) + 0 ≤ 601024 by omega), (show (lawS S2 (c9 + 1)) + 0 ≤ 7293034 by omega)⟩ d_Law_law_927 (fun rhr162 H locs hr162 hP hD hS => ?_)
            subst hr162
            refine lv_iload hx hb d_Law_law_930 (lv_at hl 1 rfl) ?_
            refine ri_icmp_eq hx hb (by omega) (by omega) d_Law_law_932 (tgt := 937) (by decide) (fun hq1 => ?_) (fun hq1 => ?_)
            · refine lv_iload hx hb d_Law_law_937 (lv_at hl 1 rfl) ?_
              refine ri_if_ne hx hb (by omega) d_Law_law_939 (tgt := 954) (by decide) (fun hq2 => ?_) (fun hq2 => ?_)
              · refine lv_goto hx hb d_Law_law_954 (tgt := 1286) (by decide) ?_
                refine lv_iinc hx hb d_Law_law_1286 hl (k := 2) rfl (v := nI ((4 * c9) + 4)) (by rw [← nI_add]; rfl) (by decide) rfl (fun ls hl => ?_)
                have hl : lv_has ls 7 [(4, .int (nI ((4 * c9) + 4))), (6, .int ru161), (5, .int (nI k9)), (3, .ref q17), (2, .ref o8), (1, .ref o0), (0, .ref b)] := hl
                refine lv_goto hx hb d_Law_law_1289 (tgt := 23) (by decide) ?_
                exact ih (c9 + 1) S2 (nI k9) f9 u9 u161 H locs ls (by omega) hV9 hN9 hRf9 hP hD hS (lv_sub hl [0, 3, 4, 5, 6] rfl)
              · refine lv_aload_n hx hb d_Law_law_942 rfl (lv_at hl 3 rfl) ?_
                refine lv_iconst (v := nI 0) hx hb d_Law_law_943 (by decide) ?_
                refine ri_lald hx hb hK hP 0 2 rfl rfl (j := 0) (by omega) (by omega) d_Law_law_944 ?_
                refine W.eq (g2 := F0 m 945 ls [.long v9.toInt64]) (congrArg (fun z => F0 m 945 ls (.long z :: [])) (hf9 (by omega))) ?_
                refine lv_iload hx hb d_Law_law_945 (lv_at hl 0 rfl) ?_
                refine W.eq (g2 := F0 m 947 ls [.int v9, .long v9.toInt64]) (congrArg (fun z => F0 m 947 ls (.int z :: [.long v9.toInt64])) (hz9 (by omega))) ?_
                refine lv_i2l (v := v9.toInt64) hx hb d_Law_law_947 rfl ?_
                refine ri_lcmp hx hb d_Law_law_948 ?_
                refine lv_if_eq hx hb d_Law_law_949 (tgt := 954) (by decide) (fun hq3 => ?_) (fun hq3 => ?_)
                · refine lv_goto hx hb d_Law_law_954 (tgt := 1286) (by decide) ?_
                  refine lv_iinc hx hb d_Law_law_1286 hl (k := 2) rfl (v := nI ((4 * c9) + 4)) (by rw [← nI_add]; rfl) (by decide) rfl (fun ls hl => ?_)
                  have hl : lv_has ls 7 [(4, .int (nI ((4 * c9) + 4))), (6, .int ru161), (5, .int (nI k9)), (3, .ref q17), (2, .ref o8), (1, .ref o0), (0, .ref b)] := hl
                  refine lv_goto hx hb d_Law_law_1289 (tgt := 23) (by decide) ?_
                  exact ih (c9 + 1) S2 (nI k9) f9 u9 u161 H locs ls (by omega) hV9 hN9 hRf9 hP hD hS (lv_sub hl [0, 3, 4, 5, 6] rfl)
                · exact absurd hq3 (fun z => z (lc_0 _))
            · exact absurd hq1 (fun z => z rfl)
          · refine lv_tableIn hx hb d_Law_law_39 (by decide +kernel) (by decide +kernel) (off := 918) (by decide +kernel) (tgt := 957) (by decide) ?_
            refine lv_aload_n hx hb d_Law_law_957 rfl (lv_at hl 3 rfl) ?_
            refine lv_aload_n hx hb d_Law_law_958 rfl (lv_at hl 4 rfl) ?_
            refine lv_iload hx hb d_Law_law_959 (lv_at hl 0 rfl) ?_
            refine lv_iconst (v := nI 1) hx hb d_Law_law_961 (by decide) ?_
            refine ri_iadd hx hb d_Law_law_962 ?_
            refine va_sld hx hb hX hbl hbA hS (i := nI ((4 * c9) + 1)) (vp_in_nI (show (4 * c9) + 1 < L by omega) (show L < 2147483648 by omega)) d_Law_law_963 ?_
            refine W.eq (g2 := F0 m 964 ls [.int (xs ((4 * c9) + 1)), .ref o0]) (congrArg (fun z => F0 m 964 ls (.int z :: [.ref o0])) (congrArg xs (nI_clamp (show (4 * c9) + 1 < 2 ^ 31 by omega)))) ?_
            refine lv_aload_n hx hb d_Law_law_964 rfl (lv_at hl 4 rfl) ?_
            refine lv_iload hx hb d_Law_law_965 (lv_at hl 0 rfl) ?_
            refine lv_iconst (v := nI 2) hx hb d_Law_law_967 (by decide) ?_
            refine ri_iadd hx hb d_Law_law_968 ?_
            refine va_sld hx hb hX hbl hbA hS (i := nI ((4 * c9) + 2)) (vp_in_nI (show (4 * c9) + 2 < L by omega) (show L < 2147483648 by omega)) d_Law_law_969 ?_
            refine W.eq (g2 := F0 m 970 ls [.int (xs ((4 * c9) + 2)), .int (xs ((4 * c9) + 1)), .ref o0]) (congrArg (fun z => F0 m 970 ls (.int z :: [.int (xs ((4 * c9) + 1)), .ref o0])) (congrArg xs (nI_clamp (show (4 * c9) + 2 < 2 ^ 31 by omega)))) ?_
            refine lv_aload_n hx hb d_Law_law_970 rfl (lv_at hl 1 rfl) ?_
            obtain ⟨k9, v9, S2, mc9, ms9, F9, L9, F8, L8, hk9, hV9, hco, hr9, hr8, hH9, hV8⟩ := cs_send l s A0 h0 hnc hfl D cI cZ cJ cG (qo := q17) (fo := fo) hN hRf hv (by omega) (xs ((4 * c9) + 1)) (xs ((4 * c9) + 2))
            have hbd2 := lawC_le hV9 (by omega)
            have hcs := lawC_s (c := c9) hco
            refine ct_callSH (bytes := b_Law_send) (maxL := 5) (ret := some .int) (hs := [(0, 10, 13, 19), (0, 10, 17, 13)]) (As := [.ref o0, .int (xs ((4 * c9) + 1)), .int (xs ((4 * c9) + 2)), .ref q17]) (rest := []) hz ⟨hx, hb, hml, hown, ht⟩ hH9 rfl rfl hr9.1 hr9.2 (pay_in ht (tb_good kh_send)) List.mem_cons_self (ht _ kh_send) (ht _ kn_Law) ⟨hd_Law_send.1, hd_Law_send.2.1⟩ (hd_len hd_Law_send) (ht _ kl_Law_139) (ht _ ki_Law_send) (wd_ct (Bs := [[(q17, .inl (cJ, 1, .inr (.inl fo)))], ws, wr]) 3 rfl [0, 1] [2] (by decide) rfl) hK hP hD hS hA rfl hl.1 rfl (Nat.le_of_ble_eq_true rfl) ⟨Nat.le_trans hcs.1 hbd2.1, Nat.le_trans hcs.2 hbd2.2⟩ d_Law_law_971 (fun r9 u8 H locs hpo hP hD hS => ?_)
            refine W.widen (k := lawC S2 (c9 + 1)) (n := lawS S2 (c9 + 1)) hcs.1 hcs.2 ?_
            obtain ⟨rfl, f9, u9, hf9, hN9, rfl⟩ := hpo
            have hP := wd_nP (N := [ow cJ q17 f9, u9]) rfl 3 rfl [0, 1, 2] (by decide) hP
            have hD := wd_nD (N := [ow cJ q17 f9, u9]) rfl 3 rfl [0, 1, 2] (by decide) hD
            have hP : va_P D kls (List.flatten [[(q17, .inl (cJ, 1, .inr (.inl f9)))], u9, wr]) H := hP
            have hD : va_D A (List.flatten [[(q17, .inl (cJ, 1, .inr (.inl f9)))], u9, wr]) := hD
            refine W.eq (g2 := F0 m 974 ls [.int (nI k9)]) rfl ?_
            obtain ⟨fs9, mR9⟩ := rf_mem hRf
            refine lv_istore hx hb d_Law_law_974 hl (by decide) rfl (fun ls hl => ?_)
            have hl : lv_has ls 7 [(5, .int (nI k9)), (4, .int (nI (4 * c9))), (3, .ref q17), (2, .ref o8), (1, .ref o0), (0, .ref b)] := hl
            refine lv_aload_n hx hb d_Law_law_976 rfl (lv_at hl 3 rfl) ?_
            refine lv_aload_n hx hb d_Law_law_977 rfl (lv_at hl 5 rfl) ?_
            refine lv_iload hx hb d_Law_law_978 (lv_at hl 1 rfl) ?_
            refine lv_iconst (v := nI 1) hx hb d_Law_law_980 (by decide) ?_
            refine ri_iadd hx hb d_Law_law_981 ?_
            refine va_sld hx hb hX hbl hbA hS (i := nI ((4 * c9) + 1)) (vp_in_nI (show (4 * c9) + 1 < L by omega) (show L < 2147483648 by omega)) d_Law_law_982 ?_
            refine W.eq (g2 := F0 m 983 ls [.int (xs ((4 * c9) + 1)), .ref o8]) (congrArg (fun z => F0 m 983 ls (.int z :: [.ref o8])) (congrArg xs (nI_clamp (show (4 * c9) + 1 < 2 ^ 31 by omega)))) ?_
            refine lv_aload_n hx hb d_Law_law_983 rfl (lv_at hl 5 rfl) ?_
            refine lv_iload hx hb d_Law_law_984 (lv_at hl 1 rfl) ?_
            refine lv_iconst (v := nI 2) hx hb d_Law_law_986 (by decide) ?_
            refine ri_iadd hx hb d_Law_law_987 ?_
            refine va_sld hx hb hX hbl hbA hS (i := nI ((4 * c9) + 2)) (vp_in_nI (show (4 * c9) + 2 < L by omega) (show L < 2147483648 by omega)) d_Law_law_988 ?_
            refine W.eq (g2 := F0 m 989 ls [.int (xs ((4 * c9) + 2)), .int (xs ((4 * c9) + 1)), .ref o8]) (congrArg (fun z => F0 m 989 ls (.int z :: [.int (xs ((4 * c9) + 1)), .ref o8])) (congrArg xs (nI_clamp (show (4 * c9) + 2 < 2 ^ 31 by omega)))) ?_
            refine ct_callVI (C := R_Ref) (ci := 9) (As := [.int (xs ((4 * c9) + 1)), .int (xs ((4 * c9) + 2))]) (rest := []) ⟨hx, hb, hml, hown, ht⟩ (hV8) (cb_V ht kc_Ref_send kl_Law_141 kn_Ref ki_Ref_send ks_Ref_send hd_Ref_send hr8) (wd_mem 2 rfl mR9) rfl rfl (wd_ct (Bs := [[(q17, .inl (cJ, 1, .inr (.inl f9)))], u9, wr]) 3 rfl [2] [0, 1] (by decide) (wd_1 _)) hK hP hD hS hA rfl hl.1 rfl (Nat.le_of_ble_eq_true rfl) ⟨hbd2.1, hbd2.2⟩ d_Law_law_989 (fun ru166 u166 H locs hu166 hP hD hS => ?_)
            obtain ⟨hz9, hRf9⟩ := hu166
            refine W.widen (k := lawC S2 (c9 + 1)) (n := lawS S2 (c9 + 1)) (Nat.le_refl _) (Nat.le_refl _) ?_
            have hP := wd_nP (N := [u166]) (wd_1 _) 3 rfl [1, 2, 0] (by decide) hP
            have hD := wd_nD (N := [u166]) (wd_1 _) 3 rfl [1, 2, 0] (by decide) hD
            have hP : va_P D kls (List.flatten [[(q17, .inl (cJ, 1, .inr (.inl f9)))], u9, u166]) H := hP
            have hD : va_D A (List.flatten [[(q17, .inl (cJ, 1, .inr (.inl f9)))], u9, u166]) := hD
            refine W.eq (g2 := F0 m 992 ls [.int ru166]) rfl ?_
            obtain ⟨fs7, mR7⟩ := rf_mem hRf9
            refine lv_istore hx hb d_Law_law_992 hl (by decide) rfl (fun ls hl => ?_)
            have hl : lv_has ls 7 [(6, .int ru166), (5, .int (nI k9)), (4, .int (nI (4 * c9))), (3, .ref q17), (2, .ref o8), (1, .ref o0), (0, .ref b)] := hl
            refine lv_aload_n hx hb d_Law_law_994 rfl (lv_at hl 4 rfl) ?_
            refine ct_rdV (C := R_Ref) (ci := 9) (As := []) (rest := []) ⟨hx, hb, hml, hown, ht⟩ (k_Ref_thr l D cI cZ cJ cG hRf9) (cb_V ht kc_Ref_thrown kl_Law_86 kn_Ref ki_Ref_thrown ks_Ref_thrown hd_Ref_thrown ⟨Nat.le_of_ble_eq_true rfl, Nat.le_of_ble_eq_true rfl⟩) (wd_mem 2 rfl mR7) rfl rfl (wd_ct (Bs := [[(q17, .inl (cJ, 1, .inr (.inl f9)))], u9, u166]) 3 rfl [2] [0, 1] (by decide) (wd_1 _)) hK hP hD hS hA rfl hl.1 rfl (Nat.le_of_ble_eq_true rfl) ⟨(show (lawC S2 (c9 + 1)) + 0 ≤ 601024 by omega), (show (lawS S2 (c9 + 1)) + 0 ≤ 7293034 by omega)⟩ d_Law_law_995 (fun rhr167 H locs hr167 hP hD hS => ?_)
            subst hr167
            refine lv_iload hx hb d_Law_law_998 (lv_at hl 1 rfl) ?_
            refine ri_icmp_eq hx hb (by omega) (by omega) d_Law_law_1000 (tgt := 1005) (by decide) (fun hq1 => ?_) (fun hq1 => ?_)
            · refine lv_iload hx hb d_Law_law_1005 (lv_at hl 1 rfl) ?_
              refine ri_if_ne hx hb (by omega) d_Law_law_1007 (tgt := 1022) (by decide) (fun hq2 => ?_) (fun hq2 => ?_)
              · refine lv_goto hx hb d_Law_law_1022 (tgt := 1286) (by decide) ?_
                refine lv_iinc hx hb d_Law_law_1286 hl (k := 2) rfl (v := nI ((4 * c9) + 4)) (by rw [← nI_add]; rfl) (by decide) rfl (fun ls hl => ?_)
                have hl : lv_has ls 7 [(4, .int (nI ((4 * c9) + 4))), (6, .int ru166), (5, .int (nI k9)), (3, .ref q17), (2, .ref o8), (1, .ref o0), (0, .ref b)] := hl
                refine lv_goto hx hb d_Law_law_1289 (tgt := 23) (by decide) ?_
                exact ih (c9 + 1) S2 (nI k9) f9 u9 u166 H locs ls (by omega) hV9 hN9 hRf9 hP hD hS (lv_sub hl [0, 3, 4, 5, 6] rfl)
              · refine lv_aload_n hx hb d_Law_law_1010 rfl (lv_at hl 3 rfl) ?_
                refine lv_iconst (v := nI 0) hx hb d_Law_law_1011 (by decide) ?_
                refine ri_lald hx hb hK hP 0 2 rfl rfl (j := 0) (by omega) (by omega) d_Law_law_1012 ?_
                refine W.eq (g2 := F0 m 1013 ls [.long v9.toInt64]) (congrArg (fun z => F0 m 1013 ls (.long z :: [])) (hf9 (by omega))) ?_
                refine lv_iload hx hb d_Law_law_1013 (lv_at hl 0 rfl) ?_
                refine W.eq (g2 := F0 m 1015 ls [.int v9, .long v9.toInt64]) (congrArg (fun z => F0 m 1015 ls (.int z :: [.long v9.toInt64])) (hz9 (by omega))) ?_
                refine lv_i2l (v := v9.toInt64) hx hb d_Law_law_1015 rfl ?_
                refine ri_lcmp hx hb d_Law_law_1016 ?_
                refine lv_if_eq hx hb d_Law_law_1017 (tgt := 1022) (by decide) (fun hq3 => ?_) (fun hq3 => ?_)
                · refine lv_goto hx hb d_Law_law_1022 (tgt := 1286) (by decide) ?_
                  refine lv_iinc hx hb d_Law_law_1286 hl (k := 2) rfl (v := nI ((4 * c9) + 4)) (by rw [← nI_add]; rfl) (by decide) rfl (fun ls hl => ?_)
                  have hl : lv_has ls 7 [(4, .int (nI ((4 * c9) + 4))), (6, .int ru166), (5, .int (nI k9)), (3, .ref q17), (2, .ref o8), (1, .ref o0), (0, .ref b)] := hl
                  refine lv_goto hx hb d_Law_law_1289 (tgt := 23) (by decide) ?_
                  exact ih (c9 + 1) S2 (nI k9) f9 u9 u166 H locs ls (by omega) hV9 hN9 hRf9 hP hD hS (lv_sub hl [0, 3, 4, 5, 6] rfl)
                · exact absurd hq3 (fun z => z (lc_0 _))
            · exact absurd hq1 (fun z => z rfl)
          · refine lv_tableIn hx hb d_Law_law_39 (by decide +kernel) (by decide +kernel) (off := 986) (by decide +kernel) (tgt := 1025) (by decide) ?_
            refine lv_aload_n hx hb d_Law_law_1025 rfl (lv_at hl 3 rfl) ?_
            refine lv_aload_n hx hb d_Law_law_1026 rfl (lv_at hl 4 rfl) ?_
            refine lv_iload hx hb d_Law_law_1027 (lv_at hl 0 rfl) ?_
            refine lv_iconst (v := nI 1) hx hb d_Law_law_1029 (by decide) ?_
            refine ri_iadd hx hb d_Law_law_1030 ?_
            refine va_sld hx hb hX hbl hbA hS (i := nI ((4 * c9) + 1)) (vp_in_nI (show (4 * c9) + 1 < L by omega) (show L < 2147483648 by omega)) d_Law_law_1031 ?_
            refine W.eq (g2 := F0 m 1032 ls [.int (xs ((4 * c9) + 1)), .ref o0]) (congrArg (fun z => F0 m 1032 ls (.int z :: [.ref o0])) (congrArg xs (nI_clamp (show (4 * c9) + 1 < 2 ^ 31 by omega)))) ?_
            refine lv_aload_n hx hb d_Law_law_1032 rfl (lv_at hl 4 rfl) ?_
            refine lv_iload hx hb d_Law_law_1033 (lv_at hl 0 rfl) ?_
            refine lv_iconst (v := nI 2) hx hb d_Law_law_1035 (by decide) ?_
            refine ri_iadd hx hb d_Law_law_1036 ?_
            refine va_sld hx hb hX hbl hbA hS (i := nI ((4 * c9) + 2)) (vp_in_nI (show (4 * c9) + 2 < L by omega) (show L < 2147483648 by omega)) d_Law_law_1037 ?_
            refine W.eq (g2 := F0 m 1038 ls [.int (xs ((4 * c9) + 2)), .int (xs ((4 * c9) + 1)), .ref o0]) (congrArg (fun z => F0 m 1038 ls (.int z :: [.int (xs ((4 * c9) + 1)), .ref o0])) (congrArg xs (nI_clamp (show (4 * c9) + 2 < 2 ^ 31 by omega)))) ?_
            refine lv_aload_n hx hb d_Law_law_1038 rfl (lv_at hl 1 rfl) ?_
            obtain ⟨k9, v9, S2, mc9, ms9, F9, L9, F8, L8, hk9, hV9, hco, hr9, hr8, hH9, hV8⟩ := cs_sendBits l s A0 h0 hnc hfl D cI cZ cJ cG (qo := q17) (fo := fo) hN hRf hv (by omega) (xs ((4 * c9) + 1)) (xs ((4 * c9) + 2))
            have hbd2 := lawC_le hV9 (by omega)
            have hcs := lawC_s (c := c9) hco
            refine ct_callSH (bytes := b_Law_sendBits) (maxL := 5) (ret := some .int) (hs := [(0, 10, 13, 19), (0, 10, 17, 13)]) (As := [.ref o0, .int (xs ((4 * c9) + 1)), .int (xs ((4 * c9) + 2)), .ref q17]) (rest := []) hz ⟨hx, hb, hml, hown, ht⟩ hH9 rfl rfl hr9.1 hr9.2 (pay_in ht (tb_good kh_sendBits)) List.mem_cons_self (ht _ kh_sendBits) (ht _ kn_Law) ⟨hd_Law_sendBits.1, hd_Law_sendBits.2.1⟩ (hd_len hd_Law_sendBits) (ht _ kl_Law_142) (ht _ ki_Law_sendBits) (wd_ct (Bs := [[(q17, .inl (cJ, 1, .inr (.inl fo)))], ws, wr]) 3 rfl [0, 1] [2] (by decide) rfl) hK hP hD hS hA rfl hl.1 rfl (Nat.le_of_ble_eq_true rfl) ⟨Nat.le_trans hcs.1 hbd2.1, Nat.le_trans hcs.2 hbd2.2⟩ d_Law_law_1039 (fun r9 u8 H locs hpo hP hD hS => ?_)
            refine W.widen (k := lawC S2 (c9 + 1)) (n := lawS S2 (c9 + 1)) hcs.1 hcs.2 ?_
            obtain ⟨rfl, f9, u9, hf9, hN9, rfl⟩ := hpo
            have hP := wd_nP (N := [ow cJ q17 f9, u9]) rfl 3 rfl [0, 1, 2] (by decide) hP
            have hD := wd_nD (N := [ow cJ q17 f9, u9]) rfl 3 rfl [0, 1, 2] (by decide) hD
            have hP : va_P D kls (List.flatten [[(q17, .inl (cJ, 1, .inr (.inl f9)))], u9, wr]) H := hP
            have hD : va_D A (List.flatten [[(q17, .inl (cJ, 1, .inr (.inl f9)))], u9, wr]) := hD
            refine W.eq (g2 := F0 m 1042 ls [.int (nI k9)]) rfl ?_
            obtain ⟨fs9, mR9⟩ := rf_mem hRf
            refine lv_istore hx hb d_Law_law_1042 hl (by decide) rfl (fun ls hl => ?_)
            have hl : lv_has ls 7 [(5, .int (nI k9)), (4, .int (nI (4 * c9))), (3, .ref q17), (2, .ref o8), (1, .ref o0), (0, .ref b)] := hl
            refine lv_aload_n hx hb d_Law_law_1044 rfl (lv_at hl 3 rfl) ?_
            refine lv_aload_n hx hb d_Law_law_1045 rfl (lv_at hl 5 rfl) ?_
            refine lv_iload hx hb d_Law_law_1046 (lv_at hl 1 rfl) ?_
            refine lv_iconst (v := nI 1) hx hb d_Law_law_1048 (by decide) ?_
            refine ri_iadd hx hb d_Law_law_1049 ?_
            refine va_sld hx hb hX hbl hbA hS (i := nI ((4 * c9) + 1)) (vp_in_nI (show (4 * c9) + 1 < L by omega) (show L < 2147483648 by omega)) d_Law_law_1050 ?_
            refine W.eq (g2 := F0 m 1051 ls [.int (xs ((4 * c9) + 1)), .ref o8]) (congrArg (fun z => F0 m 1051 ls (.int z :: [.ref o8])) (congrArg xs (nI_clamp (show (4 * c9) + 1 < 2 ^ 31 by omega)))) ?_
            refine lv_aload_n hx hb d_Law_law_1051 rfl (lv_at hl 5 rfl) ?_
            refine lv_iload hx hb d_Law_law_1052 (lv_at hl 1 rfl) ?_
            refine lv_iconst (v := nI 2) hx hb d_Law_law_1054 (by decide) ?_
            refine ri_iadd hx hb d_Law_law_1055 ?_
            refine va_sld hx hb hX hbl hbA hS (i := nI ((4 * c9) + 2)) (vp_in_nI (show (4 * c9) + 2 < L by omega) (show L < 2147483648 by omega)) d_Law_law_1056 ?_
            refine W.eq (g2 := F0 m 1057 ls [.int (xs ((4 * c9) + 2)), .int (xs ((4 * c9) + 1)), .ref o8]) (congrArg (fun z => F0 m 1057 ls (.int z :: [.int (xs ((4 * c9) + 1)), .ref o8])) (congrArg xs (nI_clamp (show (4 * c9) + 2 < 2 ^ 31 by omega)))) ?_
            refine ct_callVI (C := R_Ref) (ci := 9) (As := [.int (xs ((4 * c9) + 1)), .int (xs ((4 * c9) + 2))]) (rest := []) ⟨hx, hb, hml, hown, ht⟩ (hV8) (cb_V ht kc_Ref_sendBits kl_Law_144 kn_Ref ki_Ref_sendBits ks_Ref_sendBits hd_Ref_sendBits hr8) (wd_mem 2 rfl mR9) rfl rfl (wd_ct (Bs := [[(q17, .inl (cJ, 1, .inr (.inl f9)))], u9, wr]) 3 rfl [2] [0, 1] (by decide) (wd_1 _)) hK hP hD hS hA rfl hl.1 rfl (Nat.le_of_ble_eq_true rfl) ⟨hbd2.1, hbd2.2⟩ d_Law_law_1057 (fun ru171 u171 H locs hu171 hP hD hS => ?_)
            obtain ⟨hz9, hRf9⟩ := hu171
            refine W.widen (k := lawC S2 (c9 + 1)) (n := lawS S2 (c9 + 1)) (Nat.le_refl _) (Nat.le_refl _) ?_
            have hP := wd_nP (N := [u171]) (wd_1 _) 3 rfl [1, 2, 0] (by decide) hP
            have hD := wd_nD (N := [u171]) (wd_1 _) 3 rfl [1, 2, 0] (by decide) hD
            have hP : va_P D kls (List.flatten [[(q17, .inl (cJ, 1, .inr (.inl f9)))], u9, u171]) H := hP
            have hD : va_D A (List.flatten [[(q17, .inl (cJ, 1, .inr (.inl f9)))], u9, u171]) := hD
            refine W.eq (g2 := F0 m 1060 ls [.int ru171]) rfl ?_
            obtain ⟨fs7, mR7⟩ := rf_mem hRf9
            refine lv_istore hx hb d_Law_law_1060 hl (by decide) rfl (fun ls hl => ?_)
            have hl : lv_has ls 7 [(6, .int ru171), (5, .int (nI k9)), (4, .int (nI (4 * c9))), (3, .ref q17), (2, .ref o8), (1, .ref o0), (0, .ref b)] := hl
            refine lv_aload_n hx hb d_Law_law_1062 rfl (lv_at hl 4 rfl) ?_
            refine ct_rdV (C := R_Ref) (ci := 9) (As := []) (rest := []) ⟨hx, hb, hml, hown, ht⟩ (k_Ref_thr l D cI cZ cJ cG hRf9) (cb_V ht kc_Ref_thrown kl_Law_86 kn_Ref ki_Ref_thrown ks_Ref_thrown hd_Ref_thrown ⟨Nat.le_of_ble_eq_true rfl, Nat.le_of_ble_eq_true rfl⟩) (wd_mem 2 rfl mR7) rfl rfl (wd_ct (Bs := [[(q17, .inl (cJ, 1, .inr (.inl f9)))], u9, u171]) 3 rfl [2] [0, 1] (by decide) (wd_1 _)) hK hP hD hS hA rfl hl.1 rfl (Nat.le_of_ble_eq_true rfl) ⟨(show (lawC S2 (c9 + 1)) + 0 ≤ 601024 by omega), (show (lawS S2 (c9 + 1)) + 0 ≤ 7293034 by omega)⟩ d_Law_law_1063 (fun rhr172 H locs hr172 hP hD hS => ?_)
            subst hr172
            refine lv_iload hx hb d_Law_law_1066 (lv_at hl 1 rfl) ?_
            refine ri_icmp_eq hx hb (by omega) (by omega) d_Law_law_1068 (tgt := 1073) (by decide) (fun hq1 => ?_) (fun hq1 => ?_)
            · refine lv_iload hx hb d_Law_law_1073 (lv_at hl 1 rfl) ?_
              refine ri_if_ne hx hb (by omega) d_Law_law_1075 (tgt := 1090) (by decide) (fun hq2 => ?_) (fun hq2 => ?_)
              · refine lv_goto hx hb d_Law_law_1090 (tgt := 1286) (by decide) ?_
                refine lv_iinc hx hb d_Law_law_1286 hl (k := 2) rfl (v := nI ((4 * c9) + 4)) (by rw [← nI_add]; rfl) (by decide) rfl (fun ls hl => ?_)
                have hl : lv_has ls 7 [(4, .int (nI ((4 * c9) + 4))), (6, .int ru171), (5, .int (nI k9)), (3, .ref q17), (2, .ref o8), (1, .ref o0), (0, .ref b)] := hl
                refine lv_goto hx hb d_Law_law_1289 (tgt := 23) (by decide) ?_
                exact ih (c9 + 1) S2 (nI k9) f9 u9 u171 H locs ls (by omega) hV9 hN9 hRf9 hP hD hS (lv_sub hl [0, 3, 4, 5, 6] rfl)
              · refine lv_aload_n hx hb d_Law_law_1078 rfl (lv_at hl 3 rfl) ?_
                refine lv_iconst (v := nI 0) hx hb d_Law_law_1079 (by decide) ?_
                refine ri_lald hx hb hK hP 0 2 rfl rfl (j := 0) (by omega) (by omega) d_Law_law_1080 ?_
                refine W.eq (g2 := F0 m 1081 ls [.long v9.toInt64]) (congrArg (fun z => F0 m 1081 ls (.long z :: [])) (hf9 (by omega))) ?_
                refine lv_iload hx hb d_Law_law_1081 (lv_at hl 0 rfl) ?_
                refine W.eq (g2 := F0 m 1083 ls [.int v9, .long v9.toInt64]) (congrArg (fun z => F0 m 1083 ls (.int z :: [.long v9.toInt64])) (hz9 (by omega))) ?_
                refine lv_i2l (v := v9.toInt64) hx hb d_Law_law_1083 rfl ?_
                refine ri_lcmp hx hb d_Law_law_1084 ?_
                refine lv_if_eq hx hb d_Law_law_1085 (tgt := 1090) (by decide) (fun hq3 => ?_) (fun hq3 => ?_)
                · refine lv_goto hx hb d_Law_law_1090 (tgt := 1286) (by decide) ?_
                  refine lv_iinc hx hb d_Law_law_1286 hl (k := 2) rfl (v := nI ((4 * c9) + 4)) (by rw [← nI_add]; rfl) (by decide) rfl (fun ls hl => ?_)
                  have hl : lv_has ls 7 [(4, .int (nI ((4 * c9) + 4))), (6, .int ru171), (5, .int (nI k9)), (3, .ref q17), (2, .ref o8), (1, .ref o0), (0, .ref b)] := hl
                  refine lv_goto hx hb d_Law_law_1289 (tgt := 23) (by decide) ?_
                  exact ih (c9 + 1) S2 (nI k9) f9 u9 u171 H locs ls (by omega) hV9 hN9 hRf9 hP hD hS (lv_sub hl [0, 3, 4, 5, 6] rfl)
                · exact absurd hq3 (fun z => z (lc_0 _))
            · exact absurd hq1 (fun z => z rfl)
          · refine lv_tableIn hx hb d_Law_law_39 (by decide +kernel) (by decide +kernel) (off := 1054) (by decide +kernel) (tgt := 1093) (by decide) ?_
            refine lv_aload_n hx hb d_Law_law_1093 rfl (lv_at hl 3 rfl) ?_
            refine lv_aload_n hx hb d_Law_law_1094 rfl (lv_at hl 4 rfl) ?_
            refine lv_iload hx hb d_Law_law_1095 (lv_at hl 0 rfl) ?_
            refine lv_iconst (v := nI 1) hx hb d_Law_law_1097 (by decide) ?_
            refine ri_iadd hx hb d_Law_law_1098 ?_
            refine va_sld hx hb hX hbl hbA hS (i := nI ((4 * c9) + 1)) (vp_in_nI (show (4 * c9) + 1 < L by omega) (show L < 2147483648 by omega)) d_Law_law_1099 ?_
            refine W.eq (g2 := F0 m 1100 ls [.int (xs ((4 * c9) + 1)), .ref o0]) (congrArg (fun z => F0 m 1100 ls (.int z :: [.ref o0])) (congrArg xs (nI_clamp (show (4 * c9) + 1 < 2 ^ 31 by omega)))) ?_
            refine lv_aload_n hx hb d_Law_law_1100 rfl (lv_at hl 1 rfl) ?_
            obtain ⟨k9, v9, S2, mc9, ms9, F9, L9, F8, L8, hk9, hV9, hco, hr9, hr8, hH9, hV8⟩ := cs_move l s A0 h0 hnc hfl D cI cZ cJ cG (qo := q17) (fo := fo) hN hRf hv (by omega) (xs ((4 * c9) + 1))
            have hbd2 := lawC_le hV9 (by omega)
            have hcs := lawC_s (c := c9) hco
            refine ct_callSH (bytes := b_Law_move) (maxL := 4) (ret := some .int) (hs := [(0, 9, 12, 19), (0, 9, 15, 13)]) (As := [.ref o0, .int (xs ((4 * c9) + 1)), .ref q17]) (rest := []) hz ⟨hx, hb, hml, hown, ht⟩ hH9 rfl rfl hr9.1 hr9.2 (pay_in ht (tb_good kh_move)) List.mem_cons_self (ht _ kh_move) (ht _ kn_Law) ⟨hd_Law_move.1, hd_Law_move.2.1⟩ (hd_len hd_Law_move) (ht _ kl_Law_145) (ht _ ki_Law_move) (wd_ct (Bs := [[(q17, .inl (cJ, 1, .inr (.inl fo)))], ws, wr]) 3 rfl [0, 1] [2] (by decide) rfl) hK hP hD hS hA rfl hl.1 rfl (Nat.le_of_ble_eq_true rfl) ⟨Nat.le_trans hcs.1 hbd2.1, Nat.le_trans hcs.2 hbd2.2⟩ d_Law_law_1101 (fun r9 u8 H locs hpo hP hD hS => ?_)
            refine W.widen (k := lawC S2 (c9 + 1)) (n := lawS S2 (c9 + 1)) hcs.1 hcs.2 ?_
            obtain ⟨rfl, f9, u9, hf9, hN9, rfl⟩ := hpo
            have hP := wd_nP (N := [ow cJ q17 f9, u9]) rfl 3 rfl [0, 1, 2] (by decide) hP
            have hD := wd_nD (N := [ow cJ q17 f9, u9]) rfl 3 rfl [0, 1, 2] (by decide) hD
            have hP : va_P D kls (List.flatten [[(q17, .inl (cJ, 1, .inr (.inl f9)))], u9, wr]) H := hP
            have hD : va_D A (List.flatten [[(q17, .inl (cJ, 1, .inr (.inl f9)))], u9, wr]) := hD
            refine W.eq (g2 := F0 m 1104 ls [.int (nI k9)]) rfl ?_
            obtain ⟨fs9, mR9⟩ := rf_mem hRf
            refine lv_istore hx hb d_Law_law_1104 hl (by decide) rfl (fun ls hl => ?_)
            have hl : lv_has ls 7 [(5, .int (nI k9)), (4, .int (nI (4 * c9))), (3, .ref q17), (2, .ref o8), (1, .ref o0), (0, .ref b)] := hl
            refine lv_aload_n hx hb d_Law_law_1106 rfl (lv_at hl 3 rfl) ?_
            refine lv_aload_n hx hb d_Law_law_1107 rfl (lv_at hl 5 rfl) ?_
            refine lv_iload hx hb d_Law_law_1108 (lv_at hl 1 rfl) ?_
            refine lv_iconst (v := nI 1) hx hb d_Law_law_1110 (by decide) ?_
            refine ri_iadd hx hb d_Law_law_1111 ?_
            refine va_sld hx hb hX hbl hbA hS (i := nI ((4 * c9) + 1)) (vp_in_nI (show (4 * c9) + 1 < L by omega) (show L < 2147483648 by omega)) d_Law_law_1112 ?_
            refine W.eq (g2 := F0 m 1113 ls [.int (xs ((4 * c9) + 1)), .ref o8]) (congrArg (fun z => F0 m 1113 ls (.int z :: [.ref o8])) (congrArg xs (nI_clamp (show (4 * c9) + 1 < 2 ^ 31 by omega)))) ?_
            refine ct_callVI (C := R_Ref) (ci := 9) (As := [.int (xs ((4 * c9) + 1))]) (rest := []) ⟨hx, hb, hml, hown, ht⟩ (hV8) (cb_V ht kc_Ref_move kl_Law_147 kn_Ref ki_Ref_move ks_Ref_move hd_Ref_move hr8) (wd_mem 2 rfl mR9) rfl rfl (wd_ct (Bs := [[(q17, .inl (cJ, 1, .inr (.inl f9)))], u9, wr]) 3 rfl [2] [0, 1] (by decide) (wd_1 _)) hK hP hD hS hA rfl hl.1 rfl (Nat.le_of_ble_eq_true rfl) ⟨hbd2.1, hbd2.2⟩ d_Law_law_1113 (fun ru176 u176 H locs hu176 hP hD hS => ?_)
            obtain ⟨hz9, hRf9⟩ := hu176
            refine W.widen (k := lawC S2 (c9 + 1)) (n := lawS S2 (c9 + 1)) (Nat.le_refl _) (Nat.le_refl _) ?_
            have hP := wd_nP (N := [u176]) (wd_1 _) 3 rfl [1, 2, 0] (by decide) hP
            have hD := wd_nD (N := [u176]) (wd_1 _) 3 rfl [1, 2, 0] (by decide) hD
            have hP : va_P D kls (List.flatten [[(q17, .inl (cJ, 1, .inr (.inl f9)))], u9, u176]) H := hP
            have hD : va_D A (List.flatten [[(q17, .inl (cJ, 1, .inr (.inl f9)))], u9, u176]) := hD
            refine W.eq (g2 := F0 m 1116 ls [.int ru176]) rfl ?_
            obtain ⟨fs7, mR7⟩ := rf_mem hRf9
            refine lv_istore hx hb d_Law_law_1116 hl (by decide) rfl (fun ls hl => ?_)
            have hl : lv_has ls 7 [(6, .int ru176), (5, .int (nI k9)), (4, .int (nI (4 * c9))), (3, .ref q17), (2, .ref o8), (1, .ref o0), (0, .ref b)] := hl
            refine lv_aload_n hx hb d_Law_law_1118 rfl (lv_at hl 4 rfl) ?_
            refine ct_rdV (C := R_Ref) (ci := 9) (As := []) (rest := []) ⟨hx, hb, hml, hown, ht⟩ (k_Ref_thr l D cI cZ cJ cG hRf9) (cb_V ht kc_Ref_thrown kl_Law_86 kn_Ref ki_Ref_thrown ks_Ref_thrown hd_Ref_thrown ⟨Nat.le_of_ble_eq_true rfl, Nat.le_of_ble_eq_true rfl⟩) (wd_mem 2 rfl mR7) rfl rfl (wd_ct (Bs := [[(q17, .inl (cJ, 1, .inr (.inl f9)))], u9, u176]) 3 rfl [2] [0, 1] (by decide) (wd_1 _)) hK hP hD hS hA rfl hl.1 rfl (Nat.le_of_ble_eq_true rfl) ⟨(show (lawC S2 (c9 + 1)) + 0 ≤ 601024 by omega), (show (lawS S2 (c9 + 1)) + 0 ≤ 7293034 by omega)⟩ d_Law_law_1119 (fun rhr177 H locs hr177 hP hD hS => ?_)
            subst hr177
            refine lv_iload hx hb d_Law_law_1122 (lv_at hl 1 rfl) ?_
            refine ri_icmp_eq hx hb (by omega) (by omega) d_Law_law_1124 (tgt := 1129) (by decide) (fun hq1 => ?_) (fun hq1 => ?_)
            · refine lv_iload hx hb d_Law_law_1129 (lv_at hl 1 rfl) ?_
              refine ri_if_ne hx hb (by omega) d_Law_law_1131 (tgt := 1146) (by decide) (fun hq2 => ?_) (fun hq2 => ?_)
              · refine lv_goto hx hb d_Law_law_1146 (tgt := 1286) (by decide) ?_
                refine lv_iinc hx hb d_Law_law_1286 hl (k := 2) rfl (v := nI ((4 * c9) + 4)) (by rw [← nI_add]; rfl) (by decide) rfl (fun ls hl => ?_)
                have hl : lv_has ls 7 [(4, .int (nI ((4 * c9) + 4))), (6, .int ru176), (5, .int (nI k9)), (3, .ref q17), (2, .ref o8), (1, .ref o0), (0, .ref b)] := hl
                refine lv_goto hx hb d_Law_law_1289 (tgt := 23) (by decide) ?_
                exact ih (c9 + 1) S2 (nI k9) f9 u9 u176 H locs ls (by omega) hV9 hN9 hRf9 hP hD hS (lv_sub hl [0, 3, 4, 5, 6] rfl)
              · refine lv_aload_n hx hb d_Law_law_1134 rfl (lv_at hl 3 rfl) ?_
                refine lv_iconst (v := nI 0) hx hb d_Law_law_1135 (by decide) ?_
                refine ri_lald hx hb hK hP 0 2 rfl rfl (j := 0) (by omega) (by omega) d_Law_law_1136 ?_
                refine W.eq (g2 := F0 m 1137 ls [.long v9.toInt64]) (congrArg (fun z => F0 m 1137 ls (.long z :: [])) (hf9 (by omega))) ?_
                refine lv_iload hx hb d_Law_law_1137 (lv_at hl 0 rfl) ?_
                refine W.eq (g2 := F0 m 1139 ls [.int v9, .long v9.toInt64]) (congrArg (fun z => F0 m 1139 ls (.int z :: [.long v9.toInt64])) (hz9 (by omega))) ?_
                refine lv_i2l (v := v9.toInt64) hx hb d_Law_law_1139 rfl ?_
                refine ri_lcmp hx hb d_Law_law_1140 ?_
                refine lv_if_eq hx hb d_Law_law_1141 (tgt := 1146) (by decide) (fun hq3 => ?_) (fun hq3 => ?_)
                · refine lv_goto hx hb d_Law_law_1146 (tgt := 1286) (by decide) ?_
                  refine lv_iinc hx hb d_Law_law_1286 hl (k := 2) rfl (v := nI ((4 * c9) + 4)) (by rw [← nI_add]; rfl) (by decide) rfl (fun ls hl => ?_)
                  have hl : lv_has ls 7 [(4, .int (nI ((4 * c9) + 4))), (6, .int ru176), (5, .int (nI k9)), (3, .ref q17), (2, .ref o8), (1, .ref o0), (0, .ref b)] := hl
                  refine lv_goto hx hb d_Law_law_1289 (tgt := 23) (by decide) ?_
                  exact ih (c9 + 1) S2 (nI k9) f9 u9 u176 H locs ls (by omega) hV9 hN9 hRf9 hP hD hS (lv_sub hl [0, 3, 4, 5, 6] rfl)
                · exact absurd hq3 (fun z => z (lc_0 _))
            · exact absurd hq1 (fun z => z rfl)
          · refine lv_tableIn hx hb d_Law_law_39 (by decide +kernel) (by decide +kernel) (off := 1110) (by decide +kernel) (tgt := 1149) (by decide) ?_
            refine lv_aload_n hx hb d_Law_law_1149 rfl (lv_at hl 3 rfl) ?_
            refine lv_aload_n hx hb d_Law_law_1150 rfl (lv_at hl 4 rfl) ?_
            refine lv_iload hx hb d_Law_law_1151 (lv_at hl 0 rfl) ?_
            refine lv_iconst (v := nI 1) hx hb d_Law_law_1153 (by decide) ?_
            refine ri_iadd hx hb d_Law_law_1154 ?_
            refine va_sld hx hb hX hbl hbA hS (i := nI ((4 * c9) + 1)) (vp_in_nI (show (4 * c9) + 1 < L by omega) (show L < 2147483648 by omega)) d_Law_law_1155 ?_
            refine W.eq (g2 := F0 m 1156 ls [.int (xs ((4 * c9) + 1)), .ref o0]) (congrArg (fun z => F0 m 1156 ls (.int z :: [.ref o0])) (congrArg xs (nI_clamp (show (4 * c9) + 1 < 2 ^ 31 by omega)))) ?_
            refine lv_aload_n hx hb d_Law_law_1156 rfl (lv_at hl 1 rfl) ?_
            obtain ⟨k9, v9, S2, mc9, ms9, F9, L9, F8, L8, hk9, hV9, hco, hr9, hr8, hH9, hV8⟩ := cs_delivered l s A0 h0 hnc hfl D cI cZ cJ cG (qo := q17) (fo := fo) hN hRf hv (by omega) (xs ((4 * c9) + 1))
            have hbd2 := lawC_le hV9 (by omega)
            have hcs := lawC_s (c := c9) hco
            refine ct_callSH (bytes := b_Law_delivered) (maxL := 4) (ret := some .int) (hs := [(0, 9, 12, 13)]) (As := [.ref o0, .int (xs ((4 * c9) + 1)), .ref q17]) (rest := []) hz ⟨hx, hb, hml, hown, ht⟩ hH9 rfl rfl hr9.1 hr9.2 (pay_in ht (tb_good kh_delivered)) List.mem_cons_self (ht _ kh_delivered) (ht _ kn_Law) ⟨hd_Law_delivered.1, hd_Law_delivered.2.1⟩ (hd_len hd_Law_delivered) (ht _ kl_Law_148) (ht _ ki_Law_delivered) (wd_ct (Bs := [[(q17, .inl (cJ, 1, .inr (.inl fo)))], ws, wr]) 3 rfl [0, 1] [2] (by decide) rfl) hK hP hD hS hA rfl hl.1 rfl (Nat.le_of_ble_eq_true rfl) ⟨Nat.le_trans hcs.1 hbd2.1, Nat.le_trans hcs.2 hbd2.2⟩ d_Law_law_1157 (fun r9 u8 H locs hpo hP hD hS => ?_)
            refine W.widen (k := lawC S2 (c9 + 1)) (n := lawS S2 (c9 + 1)) hcs.1 hcs.2 ?_
            obtain ⟨rfl, f9, u9, hf9, hN9, rfl⟩ := hpo
            have hP := wd_nP (N := [ow cJ q17 f9, u9]) rfl 3 rfl [0, 1, 2] (by decide) hP
            have hD := wd_nD (N := [ow cJ q17 f9, u9]) rfl 3 rfl [0, 1, 2] (by decide) hD
            have hP : va_P D kls (List.flatten [[(q17, .inl (cJ, 1, .inr (.inl f9)))], u9, wr]) H := hP
            have hD : va_D A (List.flatten [[(q17, .inl (cJ, 1, .inr (.inl f9)))], u9, wr]) := hD
            refine W.eq (g2 := F0 m 1160 ls [.int (nI k9)]) rfl ?_
            obtain ⟨fs9, mR9⟩ := rf_mem hRf
            refine lv_istore hx hb d_Law_law_1160 hl (by decide) rfl (fun ls hl => ?_)
            have hl : lv_has ls 7 [(5, .int (nI k9)), (4, .int (nI (4 * c9))), (3, .ref q17), (2, .ref o8), (1, .ref o0), (0, .ref b)] := hl
            refine lv_aload_n hx hb d_Law_law_1162 rfl (lv_at hl 3 rfl) ?_
            refine lv_aload_n hx hb d_Law_law_1163 rfl (lv_at hl 5 rfl) ?_
            refine lv_iload hx hb d_Law_law_1164 (lv_at hl 1 rfl) ?_
            refine lv_iconst (v := nI 1) hx hb d_Law_law_1166 (by decide) ?_
            refine ri_iadd hx hb d_Law_law_1167 ?_
            refine va_sld hx hb hX hbl hbA hS (i := nI ((4 * c9) + 1)) (vp_in_nI (show (4 * c9) + 1 < L by omega) (show L < 2147483648 by omega)) d_Law_law_1168 ?_
            refine W.eq (g2 := F0 m 1169 ls [.int (xs ((4 * c9) + 1)), .ref o8]) (congrArg (fun z => F0 m 1169 ls (.int z :: [.ref o8])) (congrArg xs (nI_clamp (show (4 * c9) + 1 < 2 ^ 31 by omega)))) ?_
            refine ct_callVI (C := R_Ref) (ci := 9) (As := [.int (xs ((4 * c9) + 1))]) (rest := []) ⟨hx, hb, hml, hown, ht⟩ (hV8) (cb_V ht kc_Ref_delivered kl_Law_150 kn_Ref ki_Ref_delivered ks_Ref_delivered hd_Ref_delivered hr8) (wd_mem 2 rfl mR9) rfl rfl (wd_ct (Bs := [[(q17, .inl (cJ, 1, .inr (.inl f9)))], u9, wr]) 3 rfl [2] [0, 1] (by decide) (wd_1 _)) hK hP hD hS hA rfl hl.1 rfl (Nat.le_of_ble_eq_true rfl) ⟨hbd2.1, hbd2.2⟩ d_Law_law_1169 (fun ru181 u181 H locs hu181 hP hD hS => ?_)
            obtain ⟨hz9, hRf9⟩ := hu181
            refine W.widen (k := lawC S2 (c9 + 1)) (n := lawS S2 (c9 + 1)) (Nat.le_refl _) (Nat.le_refl _) ?_
            have hP := wd_nP (N := [u181]) (wd_1 _) 3 rfl [1, 2, 0] (by decide) hP
            have hD := wd_nD (N := [u181]) (wd_1 _) 3 rfl [1, 2, 0] (by decide) hD
            have hP : va_P D kls (List.flatten [[(q17, .inl (cJ, 1, .inr (.inl f9)))], u9, u181]) H := hP
            have hD : va_D A (List.flatten [[(q17, .inl (cJ, 1, .inr (.inl f9)))], u9, u181]) := hD
            refine W.eq (g2 := F0 m 1172 ls [.int ru181]) rfl ?_
            obtain ⟨fs7, mR7⟩ := rf_mem hRf9
            refine lv_istore hx hb d_Law_law_1172 hl (by decide) rfl (fun ls hl => ?_)
            have hl : lv_has ls 7 [(6, .int ru181), (5, .int (nI k9)), (4, .int (nI (4 * c9))), (3, .ref q17), (2, .ref o8), (1, .ref o0), (0, .ref b)] := hl
            refine lv_aload_n hx hb d_Law_law_1174 rfl (lv_at hl 4 rfl) ?_
            refine ct_rdV (C := R_Ref) (ci := 9) (As := []) (rest := []) ⟨hx, hb, hml, hown, ht⟩ (k_Ref_thr l D cI cZ cJ cG hRf9) (cb_V ht kc_Ref_thrown kl_Law_86 kn_Ref ki_Ref_thrown ks_Ref_thrown hd_Ref_thrown ⟨Nat.le_of_ble_eq_true rfl, Nat.le_of_ble_eq_true rfl⟩) (wd_mem 2 rfl mR7) rfl rfl (wd_ct (Bs := [[(q17, .inl (cJ, 1, .inr (.inl f9)))], u9, u181]) 3 rfl [2] [0, 1] (by decide) (wd_1 _)) hK hP hD hS hA rfl hl.1 rfl (Nat.le_of_ble_eq_true rfl) ⟨(show (lawC S2 (c9 + 1)) + 0 ≤ 601024 by omega), (show (lawS S2 (c9 + 1)) + 0 ≤ 7293034 by omega)⟩ d_Law_law_1175 (fun rhr182 H locs hr182 hP hD hS => ?_)
            subst hr182
            refine lv_iload hx hb d_Law_law_1178 (lv_at hl 1 rfl) ?_
            refine ri_icmp_eq hx hb (by omega) (by omega) d_Law_law_1180 (tgt := 1185) (by decide) (fun hq1 => ?_) (fun hq1 => ?_)
            · refine lv_iload hx hb d_Law_law_1185 (lv_at hl 1 rfl) ?_
              refine ri_if_ne hx hb (by omega) d_Law_law_1187 (tgt := 1202) (by decide) (fun hq2 => ?_) (fun hq2 => ?_)
              · refine lv_goto hx hb d_Law_law_1202 (tgt := 1286) (by decide) ?_
                refine lv_iinc hx hb d_Law_law_1286 hl (k := 2) rfl (v := nI ((4 * c9) + 4)) (by rw [← nI_add]; rfl) (by decide) rfl (fun ls hl => ?_)
                have hl : lv_has ls 7 [(4, .int (nI ((4 * c9) + 4))), (6, .int ru181), (5, .int (nI k9)), (3, .ref q17), (2, .ref o8), (1, .ref o0), (0, .ref b)] := hl
                refine lv_goto hx hb d_Law_law_1289 (tgt := 23) (by decide) ?_
                exact ih (c9 + 1) S2 (nI k9) f9 u9 u181 H locs ls (by omega) hV9 hN9 hRf9 hP hD hS (lv_sub hl [0, 3, 4, 5, 6] rfl)
              · refine lv_aload_n hx hb d_Law_law_1190 rfl (lv_at hl 3 rfl) ?_
                refine lv_iconst (v := nI 0) hx hb d_Law_law_1191 (by decide) ?_
                refine ri_lald hx hb hK hP 0 2 rfl rfl (j := 0) (by omega) (by omega) d_Law_law_1192 ?_
                refine W.eq (g2 := F0 m 1193 ls [.long v9.toInt64]) (congrArg (fun z => F0 m 1193 ls (.long z :: [])) (hf9 (by omega))) ?_
                refine lv_iload hx hb d_Law_law_1193 (lv_at hl 0 rfl) ?_
                refine W.eq (g2 := F0 m 1195 ls [.int v9, .long v9.toInt64]) (congrArg (fun z => F0 m 1195 ls (.int z :: [.long v9.toInt64])) (hz9 (by omega))) ?_
                refine lv_i2l (v := v9.toInt64) hx hb d_Law_law_1195 rfl ?_
                refine ri_lcmp hx hb d_Law_law_1196 ?_
                refine lv_if_eq hx hb d_Law_law_1197 (tgt := 1202) (by decide) (fun hq3 => ?_) (fun hq3 => ?_)
                · refine lv_goto hx hb d_Law_law_1202 (tgt := 1286) (by decide) ?_
                  refine lv_iinc hx hb d_Law_law_1286 hl (k := 2) rfl (v := nI ((4 * c9) + 4)) (by rw [← nI_add]; rfl) (by decide) rfl (fun ls hl => ?_)
                  have hl : lv_has ls 7 [(4, .int (nI ((4 * c9) + 4))), (6, .int ru181), (5, .int (nI k9)), (3, .ref q17), (2, .ref o8), (1, .ref o0), (0, .ref b)] := hl
                  refine lv_goto hx hb d_Law_law_1289 (tgt := 23) (by decide) ?_
                  exact ih (c9 + 1) S2 (nI k9) f9 u9 u181 H locs ls (by omega) hV9 hN9 hRf9 hP hD hS (lv_sub hl [0, 3, 4, 5, 6] rfl)
                · exact absurd hq3 (fun z => z (lc_0 _))
            · exact absurd hq1 (fun z => z rfl)
          · refine lv_tableIn hx hb d_Law_law_39 (by decide +kernel) (by decide +kernel) (off := 1166) (by decide +kernel) (tgt := 1205) (by decide) ?_
            refine lv_aload_n hx hb d_Law_law_1205 rfl (lv_at hl 3 rfl) ?_
            refine lv_aload_n hx hb d_Law_law_1206 rfl (lv_at hl 4 rfl) ?_
            refine lv_iload hx hb d_Law_law_1207 (lv_at hl 0 rfl) ?_
            refine lv_iconst (v := nI 1) hx hb d_Law_law_1209 (by decide) ?_
            refine ri_iadd hx hb d_Law_law_1210 ?_
            refine va_sld hx hb hX hbl hbA hS (i := nI ((4 * c9) + 1)) (vp_in_nI (show (4 * c9) + 1 < L by omega) (show L < 2147483648 by omega)) d_Law_law_1211 ?_
            refine W.eq (g2 := F0 m 1212 ls [.int (xs ((4 * c9) + 1)), .ref o0]) (congrArg (fun z => F0 m 1212 ls (.int z :: [.ref o0])) (congrArg xs (nI_clamp (show (4 * c9) + 1 < 2 ^ 31 by omega)))) ?_
            refine lv_aload_n hx hb d_Law_law_1212 rfl (lv_at hl 1 rfl) ?_
            obtain ⟨k9, v9, S2, mc9, ms9, F9, L9, F8, L8, hk9, hV9, hco, hr9, hr8, hH9, hV8⟩ := cs_crossings l s A0 h0 hnc hfl D cI cZ cJ cG (qo := q17) (fo := fo) hN hRf hv (by omega) (xs ((4 * c9) + 1))
            have hbd2 := lawC_le hV9 (by omega)
            have hcs := lawC_s (c := c9) hco
            refine ct_callSH (bytes := b_Law_crossings) (maxL := 4) (ret := some .int) (hs := [(0, 9, 12, 13)]) (As := [.ref o0, .int (xs ((4 * c9) + 1)), .ref q17]) (rest := []) hz ⟨hx, hb, hml, hown, ht⟩ hH9 rfl rfl hr9.1 hr9.2 (pay_in ht (tb_good kh_crossings)) List.mem_cons_self (ht _ kh_crossings) (ht _ kn_Law) ⟨hd_Law_crossings.1, hd_Law_crossings.2.1⟩ (hd_len hd_Law_crossings) (ht _ kl_Law_151) (ht _ ki_Law_crossings) (wd_ct (Bs := [[(q17, .inl (cJ, 1, .inr (.inl fo)))], ws, wr]) 3 rfl [0, 1] [2] (by decide) rfl) hK hP hD hS hA rfl hl.1 rfl (Nat.le_of_ble_eq_true rfl) ⟨Nat.le_trans hcs.1 hbd2.1, Nat.le_trans hcs.2 hbd2.2⟩ d_Law_law_1213 (fun r9 u8 H locs hpo hP hD hS => ?_)
            refine W.widen (k := lawC S2 (c9 + 1)) (n := lawS S2 (c9 + 1)) hcs.1 hcs.2 ?_
            obtain ⟨rfl, f9, u9, hf9, hN9, rfl⟩ := hpo
            have hP := wd_nP (N := [ow cJ q17 f9, u9]) rfl 3 rfl [0, 1, 2] (by decide) hP
            have hD := wd_nD (N := [ow cJ q17 f9, u9]) rfl 3 rfl [0, 1, 2] (by decide) hD
            have hP : va_P D kls (List.flatten [[(q17, .inl (cJ, 1, .inr (.inl f9)))], u9, wr]) H := hP
            have hD : va_D A (List.flatten [[(q17, .inl (cJ, 1, .inr (.inl f9)))], u9, wr]) := hD
            refine W.eq (g2 := F0 m 1216 ls [.int (nI k9)]) rfl ?_
            obtain ⟨fs9, mR9⟩ := rf_mem hRf
            refine lv_istore hx hb d_Law_law_1216 hl (by decide) rfl (fun ls hl => ?_)
            have hl : lv_has ls 7 [(5, .int (nI k9)), (4, .int (nI (4 * c9))), (3, .ref q17), (2, .ref o8), (1, .ref o0), (0, .ref b)] := hl
            refine lv_aload_n hx hb d_Law_law_1218 rfl (lv_at hl 3 rfl) ?_
            refine lv_aload_n hx hb d_Law_law_1219 rfl (lv_at hl 5 rfl) ?_
            refine lv_iload hx hb d_Law_law_1220 (lv_at hl 1 rfl) ?_
            refine lv_iconst (v := nI 1) hx hb d_Law_law_1222 (by decide) ?_
            refine ri_iadd hx hb d_Law_law_1223 ?_
            refine va_sld hx hb hX hbl hbA hS (i := nI ((4 * c9) + 1)) (vp_in_nI (show (4 * c9) + 1 < L by omega) (show L < 2147483648 by omega)) d_Law_law_1224 ?_
            refine W.eq (g2 := F0 m 1225 ls [.int (xs ((4 * c9) + 1)), .ref o8]) (congrArg (fun z => F0 m 1225 ls (.int z :: [.ref o8])) (congrArg xs (nI_clamp (show (4 * c9) + 1 < 2 ^ 31 by omega)))) ?_
            refine ct_callVI (C := R_Ref) (ci := 9) (As := [.int (xs ((4 * c9) + 1))]) (rest := []) ⟨hx, hb, hml, hown, ht⟩ (hV8) (cb_V ht kc_Ref_crossings kl_Law_153 kn_Ref ki_Ref_crossings ks_Ref_crossings hd_Ref_crossings hr8) (wd_mem 2 rfl mR9) rfl rfl (wd_ct (Bs := [[(q17, .inl (cJ, 1, .inr (.inl f9)))], u9, wr]) 3 rfl [2] [0, 1] (by decide) (wd_1 _)) hK hP hD hS hA rfl hl.1 rfl (Nat.le_of_ble_eq_true rfl) ⟨hbd2.1, hbd2.2⟩ d_Law_law_1225 (fun ru186 u186 H locs hu186 hP hD hS => ?_)
            obtain ⟨hz9, hRf9⟩ := hu186
            refine W.widen (k := lawC S2 (c9 + 1)) (n := lawS S2 (c9 + 1)) (Nat.le_refl _) (Nat.le_refl _) ?_
            have hP := wd_nP (N := [u186]) (wd_1 _) 3 rfl [1, 2, 0] (by decide) hP
            have hD := wd_nD (N := [u186]) (wd_1 _) 3 rfl [1, 2, 0] (by decide) hD
            have hP : va_P D kls (List.flatten [[(q17, .inl (cJ, 1, .inr (.inl f9)))], u9, u186]) H := hP
            have hD : va_D A (List.flatten [[(q17, .inl (cJ, 1, .inr (.inl f9)))], u9, u186]) := hD
            refine W.eq (g2 := F0 m 1228 ls [.int ru186]) rfl ?_
            obtain ⟨fs7, mR7⟩ := rf_mem hRf9
            refine lv_istore hx hb d_Law_law_1228 hl (by decide) rfl (fun ls hl => ?_)
            have hl : lv_has ls 7 [(6, .int ru186), (5, .int (nI k9)), (4, .int (nI (4 * c9))), (3, .ref q17), (2, .ref o8), (1, .ref o0), (0, .ref b)] := hl
            refine lv_aload_n hx hb d_Law_law_1230 rfl (lv_at hl 4 rfl) ?_
            refine ct_rdV (C := R_Ref) (ci := 9) (As := []) (rest := []) ⟨hx, hb, hml, hown, ht⟩ (k_Ref_thr l D cI cZ cJ cG hRf9) (cb_V ht kc_Ref_thrown kl_Law_86 kn_Ref ki_Ref_thrown ks_Ref_thrown hd_Ref_thrown ⟨Nat.le_of_ble_eq_true rfl, Nat.le_of_ble_eq_true rfl⟩) (wd_mem 2 rfl mR7) rfl rfl (wd_ct (Bs := [[(q17, .inl (cJ, 1, .inr (.inl f9)))], u9, u186]) 3 rfl [2] [0, 1] (by decide) (wd_1 _)) hK hP hD hS hA rfl hl.1 rfl (Nat.le_of_ble_eq_true rfl) ⟨(show (lawC S2 (c9 + 1)) + 0 ≤ 601024 by omega), (show (lawS S2 (c9 + 1)) + 0 ≤ 7293034 by omega)⟩ d_Law_law_1231 (fun rhr187 H locs hr187 hP hD hS => ?_)
            subst hr187
            refine lv_iload hx hb d_Law_law_1234 (lv_at hl 1 rfl) ?_
            refine ri_icmp_eq hx hb (by omega) (by omega) d_Law_law_1236 (tgt := 1241) (by decide) (fun hq1 => ?_) (fun hq1 => ?_)
            · refine lv_iload hx hb d_Law_law_1241 (lv_at hl 1 rfl) ?_
              refine ri_if_ne hx hb (by omega) d_Law_law_1243 (tgt := 1258) (by decide) (fun hq2 => ?_) (fun hq2 => ?_)
              · refine lv_goto hx hb d_Law_law_1258 (tgt := 1286) (by decide) ?_
                refine lv_iinc hx hb d_Law_law_1286 hl (k := 2) rfl (v := nI ((4 * c9) + 4)) (by rw [← nI_add]; rfl) (by decide) rfl (fun ls hl => ?_)
                have hl : lv_has ls 7 [(4, .int (nI ((4 * c9) + 4))), (6, .int ru186), (5, .int (nI k9)), (3, .ref q17), (2, .ref o8), (1, .ref o0), (0, .ref b)] := hl
                refine lv_goto hx hb d_Law_law_1289 (tgt := 23) (by decide) ?_
                exact ih (c9 + 1) S2 (nI k9) f9 u9 u186 H locs ls (by omega) hV9 hN9 hRf9 hP hD hS (lv_sub hl [0, 3, 4, 5, 6] rfl)
              · refine lv_aload_n hx hb d_Law_law_1246 rfl (lv_at hl 3 rfl) ?_
                refine lv_iconst (v := nI 0) hx hb d_Law_law_1247 (by decide) ?_
                refine ri_lald hx hb hK hP 0 2 rfl rfl (j := 0) (by omega) (by omega) d_Law_law_1248 ?_
                refine W.eq (g2 := F0 m 1249 ls [.long v9.toInt64]) (congrArg (fun z => F0 m 1249 ls (.long z :: [])) (hf9 (by omega))) ?_
                refine lv_iload hx hb d_Law_law_1249 (lv_at hl 0 rfl) ?_
                refine W.eq (g2 := F0 m 1251 ls [.int v9, .long v9.toInt64]) (congrArg (fun z => F0 m 1251 ls (.int z :: [.long v9.toInt64])) (hz9 (by omega))) ?_
                refine lv_i2l (v := v9.toInt64) hx hb d_Law_law_1251 rfl ?_
                refine ri_lcmp hx hb d_Law_law_1252 ?_
                refine lv_if_eq hx hb d_Law_law_1253 (tgt := 1258) (by decide) (fun hq3 => ?_) (fun hq3 => ?_)
                · refine lv_goto hx hb d_Law_law_1258 (tgt := 1286) (by decide) ?_
                  refine lv_iinc hx hb d_Law_law_1286 hl (k := 2) rfl (v := nI ((4 * c9) + 4)) (by rw [← nI_add]; rfl) (by decide) rfl (fun ls hl => ?_)
                  have hl : lv_has ls 7 [(4, .int (nI ((4 * c9) + 4))), (6, .int ru186), (5, .int (nI k9)), (3, .ref q17), (2, .ref o8), (1, .ref o0), (0, .ref b)] := hl
                  refine lv_goto hx hb d_Law_law_1289 (tgt := 23) (by decide) ?_
                  exact ih (c9 + 1) S2 (nI k9) f9 u9 u186 H locs ls (by omega) hV9 hN9 hRf9 hP hD hS (lv_sub hl [0, 3, 4, 5, 6] rfl)
                · exact absurd hq3 (fun z => z (lc_0 _))
            · exact absurd hq1 (fun z => z rfl)
          · refine lv_tableIn hx hb d_Law_law_39 (by decide +kernel) (by decide +kernel) (off := 1222) (by decide +kernel) (tgt := 1261) (by decide) ?_
            refine lv_aload_n hx hb d_Law_law_1261 rfl (lv_at hl 3 rfl) ?_
            refine lv_aload_n hx hb d_Law_law_1262 rfl (lv_at hl 4 rfl) ?_
            refine lv_iload hx hb d_Law_law_1263 (lv_at hl 0 rfl) ?_
            refine lv_iconst (v := nI 1) hx hb d_Law_law_1265 (by decide) ?_
            refine ri_iadd hx hb d_Law_law_1266 ?_
            refine va_sld hx hb hX hbl hbA hS (i := nI ((4 * c9) + 1)) (vp_in_nI (show (4 * c9) + 1 < L by omega) (show L < 2147483648 by omega)) d_Law_law_1267 ?_
            refine W.eq (g2 := F0 m 1268 ls [.int (xs ((4 * c9) + 1)), .ref o0]) (congrArg (fun z => F0 m 1268 ls (.int z :: [.ref o0])) (congrArg xs (nI_clamp (show (4 * c9) + 1 < 2 ^ 31 by omega)))) ?_
            obtain ⟨fs8, mN8⟩ := nt_mem hN
            obtain ⟨fs9, mR9⟩ := rf_mem hRf
            refine ct_rdV (C := R_Net) (ci := 8) (As := [.int (xs ((4 * c9) + 1))]) (rest := []) ⟨hx, hb, hml, hown, ht⟩ (k_Net_count l D cI cZ cJ cG hN (xs ((4 * c9) + 1))) (cb_V ht kc_Net_count kl_Law_154 kn_Net ki_Net_count ks_Net_count hd_Net_count ⟨Nat.le_of_ble_eq_true rfl, Nat.le_of_ble_eq_true rfl⟩) (wd_mem 1 rfl mN8) rfl rfl (wd_ct (Bs := [[(q17, .inl (cJ, 1, .inr (.inl fo)))], ws, wr]) 3 rfl [1] [0, 2] (by decide) (wd_1 _)) hK hP hD hS hA rfl hl.1 rfl (Nat.le_of_ble_eq_true rfl) ⟨(show (lawC S c9) + 0 ≤ 601024 by omega), (show (lawS S c9) + 0 ≤ 7293034 by omega)⟩ d_Law_law_1268 (fun rhr191 H locs hr191 hP hD hS => ?_)
            have hzs := hr191
            rw [hzs]
            refine lv_aload_n hx hb d_Law_law_1271 rfl (lv_at hl 2 rfl) ?_
            refine lv_aload_n hx hb d_Law_law_1272 rfl (lv_at hl 4 rfl) ?_
            refine lv_iload hx hb d_Law_law_1273 (lv_at hl 0 rfl) ?_
            refine lv_iconst (v := nI 1) hx hb d_Law_law_1275 (by decide) ?_
            refine ri_iadd hx hb d_Law_law_1276 ?_
            refine va_sld hx hb hX hbl hbA hS (i := nI ((4 * c9) + 1)) (vp_in_nI (show (4 * c9) + 1 < L by omega) (show L < 2147483648 by omega)) d_Law_law_1277 ?_
            refine W.eq (g2 := F0 m 1278 ls [.int (xs ((4 * c9) + 1)), .ref o8, .int (bm_cnt S (xs ((4 * c9) + 1)))]) (congrArg (fun z => F0 m 1278 ls (.int z :: [.ref o8, .int (bm_cnt S (xs ((4 * c9) + 1)))])) (congrArg xs (nI_clamp (show (4 * c9) + 1 < 2 ^ 31 by omega)))) ?_
            refine ct_callVI (C := R_Ref) (ci := 9) (As := [.int (xs ((4 * c9) + 1))]) (rest := [.int (bm_cnt S (xs ((4 * c9) + 1)))]) ⟨hx, hb, hml, hown, ht⟩ (k_Ref_count l D cI cZ cJ cG hRf (hv.ri (by omega)) (xs ((4 * c9) + 1))) (cb_V ht kc_Ref_count kl_Law_157 kn_Ref ki_Ref_count ks_Ref_count hd_Ref_count ⟨Nat.le_of_ble_eq_true rfl, Nat.le_of_ble_eq_true rfl⟩) (wd_mem 2 rfl mR9) rfl rfl (wd_ct (Bs := [[(q17, .inl (cJ, 1, .inr (.inl fo)))], ws, wr]) 3 rfl [2] [0, 1] (by decide) (wd_1 _)) hK hP hD hS hA rfl hl.1 rfl (Nat.le_of_ble_eq_true rfl) ⟨hbd.1, hbd.2⟩ d_Law_law_1278 (fun ru192 u192 H locs hu192 hP hD hS => ?_)
            obtain ⟨hzr, hRf8⟩ := hu192
            rw [hzr]
            refine W.widen (k := lawC S c9) (n := lawS S c9) (Nat.le_refl _) (Nat.le_refl _) ?_
            have hP := wd_nP (N := [u192]) (wd_1 _) 3 rfl [1, 2, 0] (by decide) hP
            have hD := wd_nD (N := [u192]) (wd_1 _) 3 rfl [1, 2, 0] (by decide) hD
            have hP : va_P D kls (List.flatten [[(q17, .inl (cJ, 1, .inr (.inl fo)))], ws, u192]) H := hP
            have hD : va_D A (List.flatten [[(q17, .inl (cJ, 1, .inr (.inl fo)))], ws, u192]) := hD
            refine W.eq (g2 := F0 m 1281 ls [.int (bm_cnt S (xs ((4 * c9) + 1))), .int (bm_cnt S (xs ((4 * c9) + 1)))]) rfl ?_
            refine lv_icmp_eq hx hb d_Law_law_1281 (tgt := 1286) (by decide) (fun hq5 => ?_) (fun hq5 => ?_)
            · refine lv_iinc hx hb d_Law_law_1286 hl (k := 0) rfl (v := nI ((4 * c9) + 4)) (by rw [← nI_add]; rfl) (by decide) rfl (fun ls hl => ?_)
              have hl : lv_has ls 7 [(4, .int (nI ((4 * c9) + 4))), (3, .ref q17), (2, .ref o8), (1, .ref o0), (0, .ref b)] := hl
              refine lv_goto hx hb d_Law_law_1289 (tgt := 23) (by decide) ?_
              refine W.widen (k := lawC S (c9 + 1)) (n := lawS S (c9 + 1)) (by unfold lawC; omega) (by unfold lawS; omega) ?_
              exact ih (c9 + 1) S (nI 0) fo ws u192 H locs ls (by omega) hv.more hN hRf8 hP hD hS (lv_sub hl [0, 1, 2, 3, 4] rfl)
            · exact absurd hq5 (fun z => z rfl)
        · refine lv_tableOut hx hb d_Law_law_39 (tb_out (fun k7 hk7 z7 => hsw ⟨k7, hk7, z7⟩)) (tgt := 1286) (by decide) ?_
          refine lv_iinc hx hb d_Law_law_1286 hl (k := 0) rfl (v := nI ((4 * c9) + 4)) (by rw [← nI_add]; rfl) (by decide) rfl (fun ls hl => ?_)
          have hl : lv_has ls 7 [(4, .int (nI ((4 * c9) + 4))), (3, .ref q17), (2, .ref o8), (1, .ref o0), (0, .ref b)] := hl
          refine lv_goto hx hb d_Law_law_1289 (tgt := 23) (by decide) ?_
          refine W.widen (k := lawC S (c9 + 1)) (n := lawS S (c9 + 1)) (by unfold lawC; omega) (by unfold lawS; omega) ?_
          exact ih (c9 + 1) S cd fo ws wr H locs ls (by omega) hv.more hN hRf hP hD hS (lv_sub hl [0, 1, 2, 3, 4] rfl)
  refine W.widen (k := lawC bm_S0 0) (n := lawS bm_S0 0) (Nat.le_of_ble_eq_true rfl) (Nat.le_of_ble_eq_true rfl) ?_
  exact loop 512 0 bm_S0 (nI 0) (fun _ => 0) u101 u102 H _ ls rfl iV_0 hN hRf hP hD hS (lv_sub hl [0, 1, 2, 3, 4] rfl)
