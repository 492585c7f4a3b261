/-! The reference: next hops, masks, ones. -/
theorem oI_ne {n : Nat} {o : Option Nat} (hn : n < 12) (ho : ∀ e, o = some e → e < 12) : bm_oI o = nI n ↔ o = some n := ⟨fun z => ((bm_oI_eq hn ho).mp z.symm).symm, fun z => ((bm_oI_eq hn ho).mpr z.symm).symm⟩
theorem nh_lt {w : Nat → Nat → Nat} {r d e : Nat} (h : bn_nh w r d = some e) : e < 12 := by
  unfold bn_nh at h
  split at h
  · cases h
  · exact (bn_fst_at 12 h).1
theorem bm_mask_0 {w : Nat → Nat → Nat} {eb : Nat → Option Nat} {r n : Nat} (h : w r n = 0) : ∀ k, bm_mask w eb r n k = 0
  | 0 => rfl
  | k + 1 => by
    unfold bm_mask
    rw [bm_mask_0 h k, if_neg]
    intro z
    have h2 := z.2
    unfold bn_nh at h2
    split at h2
    · cases h2
    · have h3 := of_decide_eq_true (bn_fst_at 12 h2).2.1
      omega
set_option maxHeartbeats 800000 in
set_option maxRecDepth 100000 in
theorem k_Ref_nextHop (l : Launch) (D : va_G) (cI cZ cJ cG : ClassId) {h : Nat} {qs : Nat → Nat} {cd dv ex lb lm : Int32} {ma mn ca cn na nn pk : Nat} {wt : Nat → Nat → Nat} (hdg : ∀ x, wt x x = 0) (hw9 : ∀ x y, wt x y ≤ 1023) (r d : Nat) (hr9 : r < 12) (hd9 : d < 12) : ct_I l D kls (ty4 cI cZ cJ cG) y_Ref_nextHop ws_Ref_nextHop (rm_ 0 0 0 0) [.ref h, .int (nI r), .int (nI d)] (List.flatten [[rf_o h qs cd ma mn ca cn na nn pk dv ex lb lm], [(qs 18, .inl (cI, 144, .inl (fl (gN wt))))], [(qs 19, .inl (cI, 144, .inl (fl (gN (bn_far wt)))))]]) (fun z u => z = bm_oI (bn_nh wt r d) ∧ u = List.flatten [[rf_o h qs cd ma mn ca cn na nn pk dv ex lb lm], [(qs 18, .inl (cI, 144, .inl (fl (gN wt))))], [(qs 19, .inl (cI, 144, .inl (fl (gN (bn_far wt)))))]]) 0 0 := by
  refine ct_enterI (cc := b_Ref_nextHop) (maxL := 4) (ret := (some .int)) (by decide +kernel) (Nat.le_of_ble_eq_true rfl) ?_
  intro p e s m args below meth c hx hb hml hr ht hown hlk hnm A Q hA hK hP hD hQ ls hl
  have hown : s.vm.findClass R_Ref = some m.cls := hown
  have hS : va_S A s.heap s.heap [] := va_S.rf
  have hl : lv_has ls 4 [(0, .ref h), (1, .int (nI r)), (2, .int (nI d))] := hl
  have hFI := bn_FI_all hdg hw9 12 (Nat.le_refl _)
  have hF : ∀ x y, bn_far wt x y ≤ 1000000 := hFI.1
  have b0 := hF r d
  refine lv_aload_n hx hb d_Ref_nextHop_0 rfl (lv_at hl 0 rfl) ?_
  refine va_get (D := D) (ci := 9) (v := .ref (qs 19)) (C := R_Ref) (T := T_Ref) (N := 32) hx hb ht in_Ref hown hK hP 0 rfl rfl 31 (by decide) (ht _ kl_Ref_69) (fun _ h9 => h9) rfl d_Ref_nextHop_1 ?_
  refine lv_bipush (v := nI 12) hx hb d_Ref_nextHop_4 (by decide) ?_
  refine lv_iload_n hx hb d_Ref_nextHop_6 rfl (lv_at hl 1 rfl) ?_
  refine ri_imul hx hb d_Ref_nextHop_7 ?_
  refine lv_iload_n hx hb d_Ref_nextHop_8 rfl (lv_at hl 2 rfl) ?_
  refine ri_iadd hx hb d_Ref_nextHop_9 ?_
  refine ri_iald hx hb hK hP 2 0 rfl rfl (j := (12 * r) + d) (by omega) (by omega) d_Ref_nextHop_10 ?_
  refine W.eq (g2 := F0 m 11 ls [.int (nI ((bn_far wt) r d))]) (congrArg (fun z => F0 m 11 ls (.int z :: [])) (fl_at (a := r) (b := d) (by omega))) ?_
  refine lv_ldc (v := nI 1000000) hx hb hown (ht _ kl_Ref_135) d_Ref_nextHop_11 ?_
  refine ri_icmp_lt hx hb (by omega) (by omega) d_Ref_nextHop_13 (tgt := 18) (by decide) (fun h13 => ?_) (fun h13 => ?_)
  · refine lv_iconst (v := nI 0) hx hb d_Ref_nextHop_18 (by decide) ?_
    refine lv_istore_n hx hb d_Ref_nextHop_19 rfl hl (by decide) rfl (fun ls hl => ?_)
    have hl : lv_has ls 4 [(3, .int (nI 0)), (0, .ref h), (1, .int (nI r)), (2, .int (nI d))] := hl
    have loop : ∀ (k j : Nat)  (H : Heap) (locs : List Loc) (ls : Array Slot), j + k = 12 → (∀ i, i < j → (fun m => decide (0 < wt r m ∧ wt r m + bn_far wt m d = bn_far wt r d)) i = false) → va_P D kls (List.flatten [[rf_o h qs cd ma mn ca cn na nn pk dv ex lb lm], [(qs 18, .inl (cI, 144, .inl (fl (gN wt))))], [(qs 19, .inl (cI, 144, .inl (fl (gN (bn_far wt)))))]]) H → va_D A (List.flatten [[rf_o h qs cd ma mn ca cn na nn pk dv ex lb lm], [(qs 18, .inl (cI, 144, .inl (fl (gN wt))))], [(qs 19, .inl (cI, 144, .inl (fl (gN (bn_far wt)))))]]) → va_S A s.heap H locs → lv_has ls 4 [(3, .int (nI j)), (0, .ref h), (1, .int (nI r)), (2, .int (nI d))] → W p l e (rm_ 0 0 0 0) s m args below meth c H locs 0 0 Q (F0 m 20 ls []) := by
      intro k
      induction k with
      | zero =>
        intro j H locs ls hk hs hP hD hS hl
        refine lv_iload_n hx hb d_Ref_nextHop_20 rfl (lv_at hl 0 rfl) ?_
        refine lv_bipush (v := nI 12) hx hb d_Ref_nextHop_21 (by decide) ?_
        refine ri_icmp_ge hx hb (by omega) (by omega) d_Ref_nextHop_23 (tgt := 85) (by decide) (fun hc9 => ?_) (fun hc9 => ?_)
        · refine lv_iconst (v := (-1)) hx hb d_Ref_nextHop_85 (by decide) ?_
          exact ct_iret hQ hx hb hr hlk hP hD hS hK (by omega) (by omega) d_Ref_nextHop_86 ⟨(by unfold bn_nh; rw [if_neg (by omega), bn_fst_none 12 (fun i hi => hs i (by omega))]; rfl), rfl⟩
        · exact absurd hc9 (by omega)
      | succ k ih =>
        intro j H locs ls hk hs hP hD hS hl
        refine lv_iload_n hx hb d_Ref_nextHop_20 rfl (lv_at hl 0 rfl) ?_
        refine lv_bipush (v := nI 12) hx hb d_Ref_nextHop_21 (by decide) ?_
        refine ri_icmp_ge hx hb (by omega) (by omega) d_Ref_nextHop_23 (tgt := 85) (by decide) (fun hc9 => ?_) (fun hc9 => ?_)
        · exact absurd hc9 (by omega)
        · have b1 := hw9 r j
          have b2 := hF j d
          refine lv_aload_n hx hb d_Ref_nextHop_26 rfl (lv_at hl 1 rfl) ?_
          refine va_get (D := D) (ci := 9) (v := .ref (qs 18)) (C := R_Ref) (T := T_Ref) (N := 32) hx hb ht in_Ref hown hK hP 0 rfl rfl 30 (by decide) (ht _ kl_Ref_66) (fun _ h9 => h9) rfl d_Ref_nextHop_27 ?_
          refine lv_bipush (v := nI 12) hx hb d_Ref_nextHop_30 (by decide) ?_
          refine lv_iload_n hx hb d_Ref_nextHop_32 rfl (lv_at hl 2 rfl) ?_
          refine ri_imul hx hb d_Ref_nextHop_33 ?_
          refine lv_iload_n hx hb d_Ref_nextHop_34 rfl (lv_at hl 0 rfl) ?_
          refine ri_iadd hx hb d_Ref_nextHop_35 ?_
          refine ri_iald hx hb hK hP 1 0 rfl rfl (j := (12 * r) + j) (by omega) (by omega) d_Ref_nextHop_36 ?_
          refine W.eq (g2 := F0 m 37 ls [.int (nI (wt r j))]) (congrArg (fun z => F0 m 37 ls (.int z :: [])) (fl_at (a := r) (b := j) (by omega))) ?_
          refine ri_if_le hx hb (by omega) d_Ref_nextHop_37 (tgt := 79) (by decide) (fun h37 => ?_) (fun h37 => ?_)
          · refine ri_iinc hx hb d_Ref_nextHop_79 hl (k := 0) rfl (by decide) rfl (fun ls hl => ?_)
            have hl : lv_has ls 4 [(3, .int (nI (j + 1))), (0, .ref h), (1, .int (nI r)), (2, .int (nI d))] := hl
            refine lv_goto hx hb d_Ref_nextHop_82 (tgt := 20) (by decide) ?_
            exact ih (j + 1) H locs ls (by omega) (fun i hi => by by_cases e : i = j; (· rw [e]; exact decide_eq_false (fun z => by first | exact absurd z.1 (by omega) | exact h74 z.2)); (· exact hs i (by omega))) hP hD hS hl
          · refine lv_aload_n hx hb d_Ref_nextHop_40 rfl (lv_at hl 1 rfl) ?_
            refine va_get (D := D) (ci := 9) (v := .ref (qs 18)) (C := R_Ref) (T := T_Ref) (N := 32) hx hb ht in_Ref hown hK hP 0 rfl rfl 30 (by decide) (ht _ kl_Ref_66) (fun _ h9 => h9) rfl d_Ref_nextHop_41 ?_
            refine lv_bipush (v := nI 12) hx hb d_Ref_nextHop_44 (by decide) ?_
            refine lv_iload_n hx hb d_Ref_nextHop_46 rfl (lv_at hl 2 rfl) ?_
            refine ri_imul hx hb d_Ref_nextHop_47 ?_
            refine lv_iload_n hx hb d_Ref_nextHop_48 rfl (lv_at hl 0 rfl) ?_
            refine ri_iadd hx hb d_Ref_nextHop_49 ?_
            refine ri_iald hx hb hK hP 1 0 rfl rfl (j := (12 * r) + j) (by omega) (by omega) d_Ref_nextHop_50 ?_
            refine W.eq (g2 := F0 m 51 ls [.int (nI (wt r j))]) (congrArg (fun z => F0 m 51 ls (.int z :: [])) (fl_at (a := r) (b := j) (by omega))) ?_
            refine lv_aload_n hx hb d_Ref_nextHop_51 rfl (lv_at hl 1 rfl) ?_
            refine va_get (D := D) (ci := 9) (v := .ref (qs 19)) (C := R_Ref) (T := T_Ref) (N := 32) hx hb ht in_Ref hown hK hP 0 rfl rfl 31 (by decide) (ht _ kl_Ref_69) (fun _ h9 => h9) rfl d_Ref_nextHop_52 ?_
            refine lv_bipush (v := nI 12) hx hb d_Ref_nextHop_55 (by decide) ?_
            refine lv_iload_n hx hb d_Ref_nextHop_57 rfl (lv_at hl 0 rfl) ?_
            refine ri_imul hx hb d_Ref_nextHop_58 ?_
            refine lv_iload_n hx hb d_Ref_nextHop_59 rfl (lv_at hl 3 rfl) ?_
            refine ri_iadd hx hb d_Ref_nextHop_60 ?_
            refine ri_iald hx hb hK hP 2 0 rfl rfl (j := (12 * j) + d) (by omega) (by omega) d_Ref_nextHop_61 ?_
            refine W.eq (g2 := F0 m 62 ls [.int (nI ((bn_far wt) j d)), .int (nI (wt r j))]) (congrArg (fun z => F0 m 62 ls (.int z :: [.int (nI (wt r j))])) (fl_at (a := j) (b := d) (by omega))) ?_
            refine ri_iadd hx hb d_Ref_nextHop_62 ?_
            refine lv_aload_n hx hb d_Ref_nextHop_63 rfl (lv_at hl 1 rfl) ?_
            refine va_get (D := D) (ci := 9) (v := .ref (qs 19)) (C := R_Ref) (T := T_Ref) (N := 32) hx hb ht in_Ref hown hK hP 0 rfl rfl 31 (by decide) (ht _ kl_Ref_69) (fun _ h9 => h9) rfl d_Ref_nextHop_64 ?_
            refine lv_bipush (v := nI 12) hx hb d_Ref_nextHop_67 (by decide) ?_
            refine lv_iload_n hx hb d_Ref_nextHop_69 rfl (lv_at hl 2 rfl) ?_
            refine ri_imul hx hb d_Ref_nextHop_70 ?_
            refine lv_iload_n hx hb d_Ref_nextHop_71 rfl (lv_at hl 3 rfl) ?_
            refine ri_iadd hx hb d_Ref_nextHop_72 ?_
            refine ri_iald hx hb hK hP 2 0 rfl rfl (j := (12 * r) + d) (by omega) (by omega) d_Ref_nextHop_73 ?_
            refine W.eq (g2 := F0 m 74 ls [.int (nI ((bn_far wt) r d)), .int (nI ((wt r j) + ((bn_far wt) j d)))]) (congrArg (fun z => F0 m 74 ls (.int z :: [.int (nI ((wt r j) + ((bn_far wt) j d)))])) (fl_at (a := r) (b := d) (by omega))) ?_
            refine ri_icmp_ne hx hb (by omega) (by omega) d_Ref_nextHop_74 (tgt := 79) (by decide) (fun h74 => ?_) (fun h74 => ?_)
            · refine ri_iinc hx hb d_Ref_nextHop_79 hl (k := 0) rfl (by decide) rfl (fun ls hl => ?_)
              have hl : lv_has ls 4 [(3, .int (nI (j + 1))), (0, .ref h), (1, .int (nI r)), (2, .int (nI d))] := hl
              refine lv_goto hx hb d_Ref_nextHop_82 (tgt := 20) (by decide) ?_
              exact ih (j + 1) H locs ls (by omega) (fun i hi => by by_cases e : i = j; (· rw [e]; exact decide_eq_false (fun z => by first | exact absurd z.1 (by omega) | exact h74 z.2)); (· exact hs i (by omega))) hP hD hS hl
            · refine lv_iload_n hx hb d_Ref_nextHop_77 rfl (lv_at hl 0 rfl) ?_
              exact ct_iret hQ hx hb hr hlk hP hD hS hK (by omega) (by omega) d_Ref_nextHop_78 ⟨(by unfold bn_nh; rw [if_neg (by omega), bn_fst_some hs (decide_eq_true ⟨by omega, h74⟩) 12 (by omega)]; rfl), rfl⟩
    exact loop 12 0 s.heap [] ls (by omega) (fun i hi => absurd hi (by omega)) hP hD hS hl
  · refine lv_iconst (v := (-1)) hx hb d_Ref_nextHop_16 (by decide) ?_
    exact ct_iret hQ hx hb hr hlk hP hD hS hK (by omega) (by omega) d_Ref_nextHop_17 ⟨(by unfold bn_nh; rw [if_pos (by omega)]; rfl), rfl⟩
set_option maxHeartbeats 800000 in
set_option maxRecDepth 100000 in
theorem k_Ref_maskOf (l : Launch) (D : va_G) (cI cZ cJ cG : ClassId) {h : Nat} {qs : Nat → Nat} {cd dv ex lb lm : Int32} {ma mn ca cn na nn pk : Nat} {wt : Nat → Nat → Nat} {eb : Nat → Option Nat} (heb : ∀ r b, eb r = some b → b < 32) (hdg : ∀ x, wt x x = 0) (hw9 : ∀ x y, wt x y ≤ 1023) (r n : Nat) (hr9 : r < 12) (hn9 : n < 12) : ct_I l D kls (ty4 cI cZ cJ cG) y_Ref_maskOf ws_Ref_maskOf (rm_ 1 23 0 0) [.ref h, .int (nI r), .int (nI n)] (List.flatten [[rf_o h qs cd ma mn ca cn na nn pk dv ex lb lm], [(qs 0, .inl (cI, 12, .inl (lI eb)))], [(qs 18, .inl (cI, 144, .inl (fl (gN wt))))], [(qs 19, .inl (cI, 144, .inl (fl (gN (bn_far wt)))))]]) (fun z u => z = bm_mask wt eb r n 12 ∧ u = List.flatten [[rf_o h qs cd ma mn ca cn na nn pk dv ex lb lm], [(qs 0, .inl (cI, 12, .inl (lI eb)))], [(qs 18, .inl (cI, 144, .inl (fl (gN wt))))], [(qs 19, .inl (cI, 144, .inl (fl (gN (bn_far wt)))))]]) 0 0 := by
  refine ct_enterI (cc := b_Ref_maskOf) (maxL := 5) (ret := (some .int)) (by decide +kernel) (Nat.le_of_ble_eq_true rfl) ?_
  intro p e s m args below meth c hx hb hml hr ht hown hlk hnm A Q hA hK hP hD hQ ls hl
  have hown : s.vm.findClass R_Ref = some m.cls := hown
  have hS : va_S A s.heap s.heap [] := va_S.rf
  have hl : lv_has ls 5 [(0, .ref h), (1, .int (nI r)), (2, .int (nI n))] := hl
  have loop : ∀ (k j : Nat)  (H : Heap) (locs : List Loc) (ls : Array Slot), j + k = 12 → va_P D kls (List.flatten [[rf_o h qs cd ma mn ca cn na nn pk dv ex lb lm], [(qs 0, .inl (cI, 12, .inl (lI eb)))], [(qs 18, .inl (cI, 144, .inl (fl (gN wt))))], [(qs 19, .inl (cI, 144, .inl (fl (gN (bn_far wt)))))]]) H → va_D A (List.flatten [[rf_o h qs cd ma mn ca cn na nn pk dv ex lb lm], [(qs 0, .inl (cI, 12, .inl (lI eb)))], [(qs 18, .inl (cI, 144, .inl (fl (gN wt))))], [(qs 19, .inl (cI, 144, .inl (fl (gN (bn_far wt)))))]]) → va_S A s.heap H locs → lv_has ls 5 [(4, .int (nI j)), (3, .int (bm_mask wt eb r n j)), (0, .ref h), (1, .int (nI r)), (2, .int (nI n))] → W p l e (rm_ 1 23 0 0) s m args below meth c H locs 0 0 Q (F0 m 5 ls []) := by
    intro k
    induction k with
    | zero =>
      intro j H locs ls hk hP hD hS hl
      refine lv_iload hx hb d_Ref_maskOf_5 (lv_at hl 0 rfl) ?_
      refine lv_bipush (v := nI 12) hx hb d_Ref_maskOf_7 (by decide) ?_
      refine ri_icmp_ge hx hb (by omega) (by omega) d_Ref_maskOf_9 (tgt := 57) (by decide) (fun hc9 => ?_) (fun hc9 => ?_)
      · have hj : j = 12 := by omega
        subst hj
        refine lv_iload_n hx hb d_Ref_maskOf_57 rfl (lv_at hl 1 rfl) ?_
        exact ct_iret hQ hx hb hr hlk hP hD hS hK (by omega) (by omega) d_Ref_maskOf_58 (⟨rfl, rfl⟩)
      · exact absurd hc9 (by omega)
    | succ k ih =>
      intro j H locs ls hk hP hD hS hl
      refine lv_iload hx hb d_Ref_maskOf_5 (lv_at hl 0 rfl) ?_
      refine lv_bipush (v := nI 12) hx hb d_Ref_maskOf_7 (by decide) ?_
      refine ri_icmp_ge hx hb (by omega) (by omega) d_Ref_maskOf_9 (tgt := 57) (by decide) (fun hc9 => ?_) (fun hc9 => ?_)
      · exact absurd hc9 (by omega)
      · refine lv_iload hx hb d_Ref_maskOf_12 (lv_at hl 0 rfl) ?_
        refine lv_iload_n hx hb d_Ref_maskOf_14 rfl (lv_at hl 3 rfl) ?_
        refine ri_icmp_eq hx hb (by omega) (by omega) d_Ref_maskOf_15 (tgt := 51) (by decide) (fun h15 => ?_) (fun h15 => ?_)
        · refine ri_iinc hx hb d_Ref_maskOf_51 hl (k := 0) rfl (by decide) rfl (fun ls hl => ?_)
          have hl : lv_has ls 5 [(4, .int (nI (j + 1))), (3, .int (bm_mask wt eb r n j)), (0, .ref h), (1, .int (nI r)), (2, .int (nI n))] := hl
          refine lv_goto hx hb d_Ref_maskOf_54 (tgt := 5) (by decide) ?_
          have hst : bm_mask wt eb r n (j + 1) = bm_mask wt eb r n j := by
            show (if j ≠ r ∧ bn_nh wt r j = some n then _ else _) = _
            split
            · rename_i hz
              first | exact absurd h15 hz.1 | (rw [(oI_lt (fun b z => Nat.lt_trans (heb _ b z) (by decide))).mp h25]; exact or_0 _) | exact absurd ((oI_ne hn9 (fun e z => nh_lt z)).mpr hz.2) h36
            · rfl
          rw [← hst] at hl
          exact ih (j + 1) H locs ls (by omega) hP hD hS (lv_sub hl [0, 1, 2, 3, 4] rfl)
        · refine lv_aload_n hx hb d_Ref_maskOf_18 rfl (lv_at hl 2 rfl) ?_
          refine va_get (D := D) (ci := 9) (v := .ref (qs 0)) (C := R_Ref) (T := T_Ref) (N := 32) hx hb ht in_Ref hown hK hP 0 rfl rfl 1 (by decide) (ht _ kl_Ref_7) (fun _ h9 => h9) rfl d_Ref_maskOf_19 ?_
          refine lv_iload hx hb d_Ref_maskOf_22 (lv_at hl 0 rfl) ?_
          refine ri_iald hx hb hK hP 1 0 rfl rfl (j := j) (by omega) (by omega) d_Ref_maskOf_24 ?_
          refine W.eq (g2 := F0 m 25 ls [.int (bm_oI (eb j))]) rfl ?_
          refine lv_if_lt hx hb d_Ref_maskOf_25 (tgt := 51) (by decide) (fun h25 => ?_) (fun h25 => ?_)
          · refine ri_iinc hx hb d_Ref_maskOf_51 hl (k := 0) rfl (by decide) rfl (fun ls hl => ?_)
            have hl : lv_has ls 5 [(4, .int (nI (j + 1))), (3, .int (bm_mask wt eb r n j)), (0, .ref h), (1, .int (nI r)), (2, .int (nI n))] := hl
            refine lv_goto hx hb d_Ref_maskOf_54 (tgt := 5) (by decide) ?_
            have hst : bm_mask wt eb r n (j + 1) = bm_mask wt eb r n j := by
              show (if j ≠ r ∧ bn_nh wt r j = some n then _ else _) = _
              split
              · rename_i hz
                first | exact absurd h15 hz.1 | (rw [(oI_lt (fun b z => Nat.lt_trans (heb _ b z) (by decide))).mp h25]; exact or_0 _) | exact absurd ((oI_ne hn9 (fun e z => nh_lt z)).mpr hz.2) h36
              · rfl
            rw [← hst] at hl
            exact ih (j + 1) H locs ls (by omega) hP hD hS (lv_sub hl [0, 1, 2, 3, 4] rfl)
          · refine lv_aload_n hx hb d_Ref_maskOf_28 rfl (lv_at hl 2 rfl) ?_
            refine lv_iload_n hx hb d_Ref_maskOf_29 rfl (lv_at hl 3 rfl) ?_
            refine lv_iload hx hb d_Ref_maskOf_30 (lv_at hl 0 rfl) ?_
            refine ct_rdV (C := R_Ref) (ci := 9) (As := [.int (nI r), .int (nI j)]) (rest := []) ⟨hx, hb, hml, hown, ht⟩ (k_Ref_nextHop l D cI cZ cJ cG hdg hw9 r j hr9 (by omega)) (cb_V ht kc_Ref_nextHop kl_Ref_136 kn_Ref ki_Ref_nextHop ks_Ref_nextHop hd_Ref_nextHop ⟨Nat.le_of_ble_eq_true rfl, Nat.le_of_ble_eq_true rfl⟩) (List.mem_of_getElem? (i := 0) rfl) rfl rfl (wd_ct (Bs := [[rf_o h qs cd ma mn ca cn na nn pk dv ex lb lm], [(qs 0, .inl (cI, 12, .inl (lI eb)))], [(qs 18, .inl (cI, 144, .inl (fl (gN wt))))], [(qs 19, .inl (cI, 144, .inl (fl (gN (bn_far wt)))))]]) 4 rfl [0, 2, 3] [1] (by decide) rfl) hK hP hD hS hA rfl hl.1 rfl (Nat.le_of_ble_eq_true rfl) ⟨(show 0 + 0 ≤ 0 by omega), (show 0 + 0 ≤ 0 by omega)⟩ d_Ref_maskOf_32 (fun rhr106 H locs hr106 hP hD hS => ?_)
            have hz105 := hr106
            rw [hz105]
            refine lv_iload_n hx hb d_Ref_maskOf_35 rfl (lv_at hl 4 rfl) ?_
            refine lv_icmp_ne hx hb d_Ref_maskOf_36 (tgt := 51) (by decide) (fun h36 => ?_) (fun h36 => ?_)
            · refine ri_iinc hx hb d_Ref_maskOf_51 hl (k := 0) rfl (by decide) rfl (fun ls hl => ?_)
              have hl : lv_has ls 5 [(4, .int (nI (j + 1))), (3, .int (bm_mask wt eb r n j)), (0, .ref h), (1, .int (nI r)), (2, .int (nI n))] := hl
              refine lv_goto hx hb d_Ref_maskOf_54 (tgt := 5) (by decide) ?_
              have hst : bm_mask wt eb r n (j + 1) = bm_mask wt eb r n j := by
                show (if j ≠ r ∧ bn_nh wt r j = some n then _ else _) = _
                split
                · rename_i hz
                  first | exact absurd h15 hz.1 | (rw [(oI_lt (fun b z => Nat.lt_trans (heb _ b z) (by decide))).mp h25]; exact or_0 _) | exact absurd ((oI_ne hn9 (fun e z => nh_lt z)).mpr hz.2) h36
                · rfl
              rw [← hst] at hl
              exact ih (j + 1) H locs ls (by omega) hP hD hS (lv_sub hl [0, 1, 2, 3, 4] rfl)
            · refine lv_iload_n hx hb d_Ref_maskOf_39 rfl (lv_at hl 1 rfl) ?_
              refine lv_iconst (v := nI 1) hx hb d_Ref_maskOf_40 (by decide) ?_
              refine lv_aload_n hx hb d_Ref_maskOf_41 rfl (lv_at hl 2 rfl) ?_
              refine va_get (D := D) (ci := 9) (v := .ref (qs 0)) (C := R_Ref) (T := T_Ref) (N := 32) hx hb ht in_Ref hown hK hP 0 rfl rfl 1 (by decide) (ht _ kl_Ref_7) (fun _ h9 => h9) rfl d_Ref_maskOf_42 ?_
              refine lv_iload hx hb d_Ref_maskOf_45 (lv_at hl 0 rfl) ?_
              refine ri_iald hx hb hK hP 1 0 rfl rfl (j := j) (by omega) (by omega) d_Ref_maskOf_47 ?_
              refine W.eq (g2 := F0 m 48 ls [.int (bm_oI (eb j)), .int (nI 1), .int (bm_mask wt eb r n j)]) rfl ?_
              refine lv_ishl hx hb d_Ref_maskOf_48 ?_
              refine W.eq (g2 := F0 m 49 ls [.int (bm_em (eb j)), .int (bm_mask wt eb r n j)]) (congrArg (fun z => F0 m 49 ls (.int z :: [.int (bm_mask wt eb r n j)])) (em_of h25)) ?_
              refine lv_ior hx hb d_Ref_maskOf_49 ?_
              refine W.eq (g2 := F0 m 50 ls [.int (bm_mask wt eb r n (j + 1))]) (congrArg (fun z => F0 m 50 ls (.int z :: [])) ((if_pos (show j ≠ r ∧ bn_nh wt r j = some n from ⟨h15, (oI_ne hn9 (fun e z => nh_lt z)).mp h36⟩)).symm)) ?_
              refine lv_istore_n hx hb d_Ref_maskOf_50 rfl hl (by decide) rfl (fun ls hl => ?_)
              have hl : lv_has ls 5 [(3, .int (bm_mask wt eb r n (j + 1))), (4, .int (nI j)), (0, .ref h), (1, .int (nI r)), (2, .int (nI n))] := hl
              refine ri_iinc hx hb d_Ref_maskOf_51 hl (k := 1) rfl (by decide) rfl (fun ls hl => ?_)
              have hl : lv_has ls 5 [(4, .int (nI (j + 1))), (3, .int (bm_mask wt eb r n (j + 1))), (0, .ref h), (1, .int (nI r)), (2, .int (nI n))] := hl
              refine lv_goto hx hb d_Ref_maskOf_54 (tgt := 5) (by decide) ?_
              exact ih (j + 1) H locs ls (by omega) hP hD hS (lv_sub hl [0, 1, 2, 3, 4] rfl)
  refine lv_iconst (v := nI 0) hx hb d_Ref_maskOf_0 (by decide) ?_
  refine lv_istore_n hx hb d_Ref_maskOf_1 rfl hl (by decide) rfl (fun ls hl => ?_)
  have hl : lv_has ls 5 [(3, .int (nI 0)), (0, .ref h), (1, .int (nI r)), (2, .int (nI n))] := hl
  refine lv_iconst (v := nI 0) hx hb d_Ref_maskOf_2 (by decide) ?_
  refine lv_istore hx hb d_Ref_maskOf_3 hl (by decide) rfl (fun ls hl => ?_)
  have hl : lv_has ls 5 [(4, .int (nI 0)), (3, .int (nI 0)), (0, .ref h), (1, .int (nI r)), (2, .int (nI n))] := hl
  exact loop 12 0 s.heap [] ls (by omega) hP hD hS hl
set_option maxHeartbeats 800000 in
set_option maxRecDepth 100000 in
theorem k_Ref_ones (l : Launch) (D : va_G) (cI cZ cJ cG : ClassId)  (v : Int32) : ct_I l D kls (ty4 cI cZ cJ cG) y_Ref_ones ws_Ref_ones (rm_ 0 0 0 0) [.int v] ([]) (fun z u => z = bm_pop v 32 ∧ u = []) 0 0 := by
  refine ct_enterI (cc := b_Ref_ones) (maxL := 3) (ret := (some .int)) (by decide +kernel) (Nat.le_of_ble_eq_true rfl) ?_
  intro p e s m args below meth c hx hb hml hr ht hown hlk hnm A Q hA hK hP hD hQ ls hl
  have hown : s.vm.findClass R_Ref = some m.cls := hown
  have hS : va_S A s.heap s.heap [] := va_S.rf
  have hl : lv_has ls 3 [(0, .int v)] := hl
  have loop : ∀ (k j : Nat)  (H : Heap) (locs : List Loc) (ls : Array Slot), j + k = 32 → va_P D kls ([]) H → va_D A ([]) → va_S A s.heap H locs → lv_has ls 3 [(2, .int (nI j)), (1, .int (bm_pop v j)), (0, .int v)] → W p l e (rm_ 0 0 0 0) s m args below meth c H locs 0 0 Q (F0 m 4 ls []) := by
    intro k
    induction k with
    | zero =>
      intro j H locs ls hk hP hD hS hl
      refine lv_iload_n hx hb d_Ref_ones_4 rfl (lv_at hl 0 rfl) ?_
      refine lv_bipush (v := nI 32) hx hb d_Ref_ones_5 (by decide) ?_
      refine ri_icmp_ge hx hb (by omega) (by omega) d_Ref_ones_7 (tgt := 24) (by decide) (fun hc9 => ?_) (fun hc9 => ?_)
      · have hj : j = 32 := by omega
        subst hj
        refine lv_iload_n hx hb d_Ref_ones_24 rfl (lv_at hl 1 rfl) ?_
        exact ct_iret hQ hx hb hr hlk hP hD hS hK (by omega) (by omega) d_Ref_ones_25 (⟨rfl, rfl⟩)
      · exact absurd hc9 (by omega)
    | succ k ih =>
      intro j H locs ls hk hP hD hS hl
      refine lv_iload_n hx hb d_Ref_ones_4 rfl (lv_at hl 0 rfl) ?_
      refine lv_bipush (v := nI 32) hx hb d_Ref_ones_5 (by decide) ?_
      refine ri_icmp_ge hx hb (by omega) (by omega) d_Ref_ones_7 (tgt := 24) (by decide) (fun hc9 => ?_) (fun hc9 => ?_)
      · exact absurd hc9 (by omega)
      · refine lv_iload_n hx hb d_Ref_ones_10 rfl (lv_at hl 1 rfl) ?_
        refine lv_iload_n hx hb d_Ref_ones_11 rfl (lv_at hl 2 rfl) ?_
        refine lv_iload_n hx hb d_Ref_ones_12 rfl (lv_at hl 0 rfl) ?_
        refine lv_ishr hx hb d_Ref_ones_13 ?_
        refine lv_iconst (v := nI 1) hx hb d_Ref_ones_14 (by decide) ?_
        refine lv_iand hx hb d_Ref_ones_15 ?_
        refine lv_iadd hx hb d_Ref_ones_16 ?_
        refine W.eq (g2 := F0 m 17 ls [.int (bm_pop v (j + 1))]) (congrArg (fun z => F0 m 17 ls (.int z :: [])) (rfl)) ?_
        refine lv_istore_n hx hb d_Ref_ones_17 rfl hl (by decide) rfl (fun ls hl => ?_)
        have hl : lv_has ls 3 [(1, .int (bm_pop v (j + 1))), (2, .int (nI j)), (0, .int v)] := hl
        refine ri_iinc hx hb d_Ref_ones_18 hl (k := 1) rfl (by decide) rfl (fun ls hl => ?_)
        have hl : lv_has ls 3 [(2, .int (nI (j + 1))), (1, .int (bm_pop v (j + 1))), (0, .int v)] := hl
        refine lv_goto hx hb d_Ref_ones_21 (tgt := 4) (by decide) ?_
        exact ih (j + 1) H locs ls (by omega) hP hD hS (lv_sub hl [0, 1, 2] rfl)
  refine lv_iconst (v := nI 0) hx hb d_Ref_ones_0 (by decide) ?_
  refine lv_istore_n hx hb d_Ref_ones_1 rfl hl (by decide) rfl (fun ls hl => ?_)
  have hl : lv_has ls 3 [(1, .int (nI 0)), (0, .int v)] := hl
  refine lv_iconst (v := nI 0) hx hb d_Ref_ones_2 (by decide) ?_
  refine lv_istore_n hx hb d_Ref_ones_3 rfl hl (by decide) rfl (fun ls hl => ?_)
  have hl : lv_has ls 3 [(2, .int (nI 0)), (1, .int (nI 0)), (0, .int v)] := hl
  exact loop 32 0 s.heap [] ls (by omega) hP hD hS hl
theorem clr_of {o : Option Nat} (set : Int32) (h : ¬ bm_oI o < 0) : set &&& ((nI 1 <<< (bm_oI o &&& 31)) ^^^ (-1)) = set &&& ((bm_em o) ^^^ (-1)) := by rw [em_of h]
theorem clr_no {o : Option Nat} (set : Int32) (h : o = none) : set = set &&& ((bm_em o) ^^^ (-1)) := by
  rw [h]
  show set = set &&& ((0 : Int32) ^^^ (-1))
  rw [show ((0 : Int32) ^^^ (-1)) = -1 from rfl, Int32.and_neg_one]
theorem would_le (mk : Nat → Int32) (left : Int32) : ∀ n, bm_would mk left n ≤ n
  | 0 => Nat.le_refl _
  | n + 1 => by
    have := would_le mk left n
    unfold bm_would
    split <;> omega
set_option maxHeartbeats 800000 in
set_option maxRecDepth 100000 in
theorem k_Ref_wouldSend (l : Launch) (D : va_G) (cI cZ cJ cG : ClassId) {h : Nat} {qs : Nat → Nat} {cd dv ex lb lm : Int32} {ma mn ca cn na nn pk : Nat} {T1 : bm_M Nat} {hd : Nat → Nat → Nat} {fL fH : Nat → Int64} {MK MF : Nat → Nat → Int32} {eb : Nat → Option Nat} (heb : ∀ r b, eb r = some b → b < 32) (hAd : ∀ k, k + 1 < T1.2.1 → fL k = lN (pkn (fun j => T1.2.2 (k + 1) (2 + j)) 6) ∧ fH k = lN (pkn (fun j => T1.2.2 (k + 1) (2 + (6 + j))) 6)) (h00 : ∀ j, T1.2.2 0 j = 0) (hA9 : T1.2.1 ≤ 1600) (hA1 : ∀ i j, i < T1.2.1 → j < 12 → T1.2.2 i (2 + j) ≤ 1000) (r : Nat) (hr9 : r < 12) (hh : ∀ x, x < 12 → hd r x < T1.2.1) (hdg : ∀ x, vw0 T1.2.2 hd r x x = 0) (hw9 : ∀ x y, vw0 T1.2.2 hd r x y ≤ 1023) (set : Int32) : ct_I l D kls (ty4 cI cZ cJ cG) y_Ref_wouldSend ws_Ref_wouldSend (rm_ 2 50 0 0) [.ref h, .int (nI r), .int set] (List.flatten [[rf_o h qs cd ma mn ca cn na nn pk dv ex lb lm], [(qs 0, .inl (cI, 12, .inl (lI eb)))], [(qs 6, .inl (cJ, 1600, .inr (.inl fL)))], [(qs 7, .inl (cJ, 1600, .inr (.inl fH)))], [(qs 9, .inl (cI, 144, .inl (fl (sI hd))))], [(qs 18, .inl (cI, 144, .inl (fl MK)))], [(qs 19, .inl (cI, 144, .inl (fl MF)))]]) (fun z u => z = nI (bm_would (bm_mkr T1.2.2 hd eb r) (set &&& ((bm_em (eb r)) ^^^ (-1))) 12) ∧ u = List.flatten [[rf_o h qs cd ma mn ca cn na nn pk dv ex lb lm], [(qs 0, .inl (cI, 12, .inl (lI eb)))], [(qs 6, .inl (cJ, 1600, .inr (.inl fL)))], [(qs 7, .inl (cJ, 1600, .inr (.inl fH)))], [(qs 9, .inl (cI, 144, .inl (fl (sI hd))))], [(qs 18, .inl (cI, 144, .inl (fl (gN (vw0 T1.2.2 hd r)))))], [(qs 19, .inl (cI, 144, .inl (fl (gN (bn_far (vw0 T1.2.2 hd r))))))]]) 0 0 := by
  refine ct_enterI (cc := b_Ref_wouldSend) (maxL := 6) (ret := (some .int)) (by decide +kernel) (Nat.le_of_ble_eq_true rfl) ?_
  intro p e s m args below meth c hx hb hml hr ht hown hlk hnm A Q hA hK hP hD hQ ls hl
  have hown : s.vm.findClass R_Ref = some m.cls := hown
  have hS : va_S A s.heap s.heap [] := va_S.rf
  have hl : lv_has ls 6 [(0, .ref h), (1, .int (nI r)), (2, .int set)] := hl
  have loop : ∀ (k j : Nat)  (H : Heap) (locs : List Loc) (ls : Array Slot), j + k = 12 → va_P D kls (List.flatten [[rf_o h qs cd ma mn ca cn na nn pk dv ex lb lm], [(qs 0, .inl (cI, 12, .inl (lI eb)))], [(qs 6, .inl (cJ, 1600, .inr (.inl fL)))], [(qs 7, .inl (cJ, 1600, .inr (.inl fH)))], [(qs 9, .inl (cI, 144, .inl (fl (sI hd))))], [(qs 18, .inl (cI, 144, .inl (fl (gN (vw0 T1.2.2 hd r)))))], [(qs 19, .inl (cI, 144, .inl (fl (gN (bn_far (vw0 T1.2.2 hd r))))))]]) H → va_D A (List.flatten [[rf_o h qs cd ma mn ca cn na nn pk dv ex lb lm], [(qs 0, .inl (cI, 12, .inl (lI eb)))], [(qs 6, .inl (cJ, 1600, .inr (.inl fL)))], [(qs 7, .inl (cJ, 1600, .inr (.inl fH)))], [(qs 9, .inl (cI, 144, .inl (fl (sI hd))))], [(qs 18, .inl (cI, 144, .inl (fl (gN (vw0 T1.2.2 hd r)))))], [(qs 19, .inl (cI, 144, .inl (fl (gN (bn_far (vw0 T1.2.2 hd r))))))]]) → va_S A s.heap H locs → lv_has ls 6 [(5, .int (nI j)), (4, .int (nI (bm_would (bm_mkr T1.2.2 hd eb r) (set &&& ((bm_em (eb r)) ^^^ (-1))) j))), (3, .int (set &&& ((bm_em (eb r)) ^^^ (-1)))), (0, .ref h), (1, .int (nI r))] → W p l e (rm_ 2 50 0 0) s m args below meth c H locs 0 0 Q (F0 m 37 ls []) := by
    intro k
    induction k with
    | zero =>
      intro j H locs ls hk hP hD hS hl
      refine lv_iload hx hb d_Ref_wouldSend_37 (lv_at hl 0 rfl) ?_
      refine lv_bipush (v := nI 12) hx hb d_Ref_wouldSend_39 (by decide) ?_
      refine ri_icmp_ge hx hb (by omega) (by omega) d_Ref_wouldSend_41 (tgt := 80) (by decide) (fun hc9 => ?_) (fun hc9 => ?_)
      · have hj : j = 12 := by omega
        subst hj
        refine lv_iload hx hb d_Ref_wouldSend_80 (lv_at hl 1 rfl) ?_
        exact ct_iret hQ hx hb hr hlk hP hD hS hK (by omega) (by omega) d_Ref_wouldSend_82 (⟨rfl, rfl⟩)
      · exact absurd hc9 (by omega)
    | succ k ih =>
      intro j H locs ls hk hP hD hS hl
      refine lv_iload hx hb d_Ref_wouldSend_37 (lv_at hl 0 rfl) ?_
      refine lv_bipush (v := nI 12) hx hb d_Ref_wouldSend_39 (by decide) ?_
      refine ri_icmp_ge hx hb (by omega) (by omega) d_Ref_wouldSend_41 (tgt := 80) (by decide) (fun hc9 => ?_) (fun hc9 => ?_)
      · exact absurd hc9 (by omega)
      · have b1 := hw9 r j
        have b2 := would_le (bm_mkr T1.2.2 hd eb r) (set &&& ((bm_em (eb r)) ^^^ (-1))) j
        refine lv_aload_n hx hb d_Ref_wouldSend_44 rfl (lv_at hl 3 rfl) ?_
        refine va_get (D := D) (ci := 9) (v := .ref (qs 18)) (C := R_Ref) (T := T_Ref) (N := 32) hx hb ht in_Ref hown hK hP 0 rfl rfl 30 (by decide) (ht _ kl_Ref_66) (fun _ h9 => h9) rfl d_Ref_wouldSend_45 ?_
        refine lv_bipush (v := nI 12) hx hb d_Ref_wouldSend_48 (by decide) ?_
        refine lv_iload_n hx hb d_Ref_wouldSend_50 rfl (lv_at hl 4 rfl) ?_
        refine ri_imul hx hb d_Ref_wouldSend_51 ?_
        refine lv_iload hx hb d_Ref_wouldSend_52 (lv_at hl 0 rfl) ?_
        refine ri_iadd hx hb d_Ref_wouldSend_54 ?_
        refine ri_iald hx hb hK hP 5 0 rfl rfl (j := (12 * r) + j) (by omega) (by omega) d_Ref_wouldSend_55 ?_
        refine W.eq (g2 := F0 m 56 ls [.int (nI ((vw0 T1.2.2 hd r) r j))]) (congrArg (fun z => F0 m 56 ls (.int z :: [])) (fl_at (a := r) (b := j) (by omega))) ?_
        refine ri_if_le hx hb (by omega) d_Ref_wouldSend_56 (tgt := 74) (by decide) (fun h56 => ?_) (fun h56 => ?_)
        · refine ri_iinc hx hb d_Ref_wouldSend_74 hl (k := 0) rfl (by decide) rfl (fun ls hl => ?_)
          have hl : lv_has ls 6 [(5, .int (nI (j + 1))), (4, .int (nI (bm_would (bm_mkr T1.2.2 hd eb r) (set &&& ((bm_em (eb r)) ^^^ (-1))) j))), (3, .int (set &&& ((bm_em (eb r)) ^^^ (-1)))), (0, .ref h), (1, .int (nI r))] := hl
          refine lv_goto hx hb d_Ref_wouldSend_77 (tgt := 37) (by decide) ?_
          have hst : bm_would (bm_mkr T1.2.2 hd eb r) (set &&& ((bm_em (eb r)) ^^^ (-1))) (j + 1) = bm_would (bm_mkr T1.2.2 hd eb r) (set &&& ((bm_em (eb r)) ^^^ (-1))) j := if_pos (by first | exact h68 | (rw [show (bm_mkr T1.2.2 hd eb r) j = 0 from bm_mask_0 (show vw0 T1.2.2 hd r r j = 0 by omega) 12]; exact Int32.and_zero))
          rw [← hst] at hl
          exact ih (j + 1) H locs ls (by omega) hP hD hS (lv_sub hl [0, 1, 2, 3, 4] rfl)
        · refine lv_iload_n hx hb d_Ref_wouldSend_59 rfl (lv_at hl 2 rfl) ?_
          refine lv_aload_n hx hb d_Ref_wouldSend_60 rfl (lv_at hl 3 rfl) ?_
          refine lv_iload_n hx hb d_Ref_wouldSend_61 rfl (lv_at hl 4 rfl) ?_
          refine lv_iload hx hb d_Ref_wouldSend_62 (lv_at hl 0 rfl) ?_
          refine ct_rdV (C := R_Ref) (ci := 9) (As := [.int (nI r), .int (nI j)]) (rest := [.int (set &&& ((bm_em (eb r)) ^^^ (-1)))]) ⟨hx, hb, hml, hown, ht⟩ (k_Ref_maskOf l D cI cZ cJ cG heb hdg hw9 r j hr9 (by omega)) (cb_V ht kc_Ref_maskOf kl_Ref_142 kn_Ref ki_Ref_maskOf ks_Ref_maskOf hd_Ref_maskOf ⟨Nat.le_of_ble_eq_true rfl, Nat.le_of_ble_eq_true rfl⟩) (List.mem_of_getElem? (i := 0) rfl) rfl rfl (wd_ct (Bs := [[rf_o h qs cd ma mn ca cn na nn pk dv ex lb lm], [(qs 0, .inl (cI, 12, .inl (lI eb)))], [(qs 6, .inl (cJ, 1600, .inr (.inl fL)))], [(qs 7, .inl (cJ, 1600, .inr (.inl fH)))], [(qs 9, .inl (cI, 144, .inl (fl (sI hd))))], [(qs 18, .inl (cI, 144, .inl (fl (gN (vw0 T1.2.2 hd r)))))], [(qs 19, .inl (cI, 144, .inl (fl (gN (bn_far (vw0 T1.2.2 hd r))))))]]) 7 rfl [0, 1, 5, 6] [2, 3, 4] (by decide) rfl) hK hP hD hS hA rfl hl.1 rfl (Nat.le_of_ble_eq_true rfl) ⟨(show 0 + 0 ≤ 0 by omega), (show 0 + 0 ≤ 0 by omega)⟩ d_Ref_wouldSend_64 (fun rhr105 H locs hr105 hP hD hS => ?_)
          have hz104 := hr105
          rw [hz104]
          refine W.eq (g2 := F0 m 67 ls [.int ((bm_mkr T1.2.2 hd eb r) j), .int (set &&& ((bm_em (eb r)) ^^^ (-1)))]) (congrArg (fun z => F0 m 67 ls (.int z :: [.int (set &&& ((bm_em (eb r)) ^^^ (-1)))])) (rfl)) ?_
          refine lv_iand hx hb d_Ref_wouldSend_67 ?_
          refine lv_if_eq hx hb d_Ref_wouldSend_68 (tgt := 74) (by decide) (fun h68 => ?_) (fun h68 => ?_)
          · refine ri_iinc hx hb d_Ref_wouldSend_74 hl (k := 0) rfl (by decide) rfl (fun ls hl => ?_)
            have hl : lv_has ls 6 [(5, .int (nI (j + 1))), (4, .int (nI (bm_would (bm_mkr T1.2.2 hd eb r) (set &&& ((bm_em (eb r)) ^^^ (-1))) j))), (3, .int (set &&& ((bm_em (eb r)) ^^^ (-1)))), (0, .ref h), (1, .int (nI r))] := hl
            refine lv_goto hx hb d_Ref_wouldSend_77 (tgt := 37) (by decide) ?_
            have hst : bm_would (bm_mkr T1.2.2 hd eb r) (set &&& ((bm_em (eb r)) ^^^ (-1))) (j + 1) = bm_would (bm_mkr T1.2.2 hd eb r) (set &&& ((bm_em (eb r)) ^^^ (-1))) j := if_pos (by first | exact h68 | (rw [show (bm_mkr T1.2.2 hd eb r) j = 0 from bm_mask_0 (show vw0 T1.2.2 hd r r j = 0 by omega) 12]; exact Int32.and_zero))
            rw [← hst] at hl
            exact ih (j + 1) H locs ls (by omega) hP hD hS (lv_sub hl [0, 1, 2, 3, 4] rfl)
          · refine ri_iinc hx hb d_Ref_wouldSend_71 hl (k := 1) rfl (by decide) rfl (fun ls hl => ?_)
            have hl : lv_has ls 6 [(4, .int (nI (bm_would (bm_mkr T1.2.2 hd eb r) (set &&& ((bm_em (eb r)) ^^^ (-1))) j + 1))), (5, .int (nI j)), (3, .int (set &&& ((bm_em (eb r)) ^^^ (-1)))), (0, .ref h), (1, .int (nI r))] := hl
            refine ri_iinc hx hb d_Ref_wouldSend_74 hl (k := 1) rfl (by decide) rfl (fun ls hl => ?_)
            have hl : lv_has ls 6 [(5, .int (nI (j + 1))), (4, .int (nI (bm_would (bm_mkr T1.2.2 hd eb r) (set &&& ((bm_em (eb r)) ^^^ (-1))) j + 1))), (3, .int (set &&& ((bm_em (eb r)) ^^^ (-1)))), (0, .ref h), (1, .int (nI r))] := hl
            refine lv_goto hx hb d_Ref_wouldSend_77 (tgt := 37) (by decide) ?_
            have hst : bm_would (bm_mkr T1.2.2 hd eb r) (set &&& ((bm_em (eb r)) ^^^ (-1))) (j + 1) = bm_would (bm_mkr T1.2.2 hd eb r) (set &&& ((bm_em (eb r)) ^^^ (-1))) j + 1 := if_neg h68
            rw [← hst] at hl
            exact ih (j + 1) H locs ls (by omega) hP hD hS (lv_sub hl [0, 1, 2, 3, 4] rfl)
  refine lv_aload_n hx hb d_Ref_wouldSend_0 rfl (lv_at hl 0 rfl) ?_
  refine va_get (D := D) (ci := 9) (v := .ref (qs 0)) (C := R_Ref) (T := T_Ref) (N := 32) hx hb ht in_Ref hown hK hP 0 rfl rfl 1 (by decide) (ht _ kl_Ref_7) (fun _ h9 => h9) rfl d_Ref_wouldSend_1 ?_
  refine lv_iload_n hx hb d_Ref_wouldSend_4 rfl (lv_at hl 1 rfl) ?_
  refine ri_iald hx hb hK hP 1 0 rfl rfl (j := r) (by omega) (by omega) d_Ref_wouldSend_5 ?_
  refine W.eq (g2 := F0 m 6 ls [.int (bm_oI (eb r))]) rfl ?_
  refine lv_if_lt hx hb d_Ref_wouldSend_6 (tgt := 24) (by decide) (fun h6 => ?_) (fun h6 => ?_)
  · refine lv_iload_n hx hb d_Ref_wouldSend_24 rfl (lv_at hl 2 rfl) ?_
    refine W.eq (g2 := F0 m 25 ls [.int (set &&& ((bm_em (eb r)) ^^^ (-1)))]) (congrArg (fun z => F0 m 25 ls (.int z :: [])) ((by first | exact clr_of set h6 | exact clr_no set ((oI_lt (fun b z => Nat.lt_trans (heb _ b z) (by decide))).mp h6)))) ?_
    refine lv_istore_n hx hb d_Ref_wouldSend_25 rfl hl (by decide) rfl (fun ls hl => ?_)
    have hl : lv_has ls 6 [(3, .int (set &&& ((bm_em (eb r)) ^^^ (-1)))), (0, .ref h), (1, .int (nI r)), (2, .int set)] := hl
    refine lv_iconst (v := nI 0) hx hb d_Ref_wouldSend_26 (by decide) ?_
    refine lv_istore hx hb d_Ref_wouldSend_27 hl (by decide) rfl (fun ls hl => ?_)
    have hl : lv_has ls 6 [(4, .int (nI 0)), (3, .int (set &&& ((bm_em (eb r)) ^^^ (-1)))), (0, .ref h), (1, .int (nI r)), (2, .int set)] := hl
    refine lv_aload_n hx hb d_Ref_wouldSend_29 rfl (lv_at hl 2 rfl) ?_
    refine lv_iload_n hx hb d_Ref_wouldSend_30 rfl (lv_at hl 3 rfl) ?_
    refine ct_callVV (C := R_Ref) (ci := 9) (As := [.int (nI r)]) (rest := []) ⟨hx, hb, hml, hown, ht⟩ (k_Ref_view l D cI cZ cJ cG hAd h00 hA9 hA1 r hr9 hh hdg hw9) (cb_V ht kc_Ref_view kl_Ref_139 kn_Ref ki_Ref_view ks_Ref_view hd_Ref_view ⟨Nat.le_of_ble_eq_true rfl, Nat.le_of_ble_eq_true rfl⟩) (List.mem_of_getElem? (i := 0) rfl) rfl rfl (wd_ct (Bs := [[rf_o h qs cd ma mn ca cn na nn pk dv ex lb lm], [(qs 0, .inl (cI, 12, .inl (lI eb)))], [(qs 6, .inl (cJ, 1600, .inr (.inl fL)))], [(qs 7, .inl (cJ, 1600, .inr (.inl fH)))], [(qs 9, .inl (cI, 144, .inl (fl (sI hd))))], [(qs 18, .inl (cI, 144, .inl (fl MK)))], [(qs 19, .inl (cI, 144, .inl (fl MF)))]]) 7 rfl [0, 2, 3, 4, 5, 6] [1] (by decide) rfl) hK hP hD hS hA rfl hl.1 rfl (Nat.le_of_ble_eq_true rfl) ⟨(show 0 + 0 ≤ 0 by omega), (show 0 + 0 ≤ 0 by omega)⟩ d_Ref_wouldSend_31 (fun u108 H locs hu108 hP hD hS => ?_)
    subst hu108
    refine W.widen (k := 0) (n := 0) (Nat.le_refl _) (Nat.le_refl _) ?_
    have hP := wd_nP (N := [[rf_o h qs cd ma mn ca cn na nn pk dv ex lb lm], [(qs 6, .inl (cJ, 1600, .inr (.inl fL)))], [(qs 7, .inl (cJ, 1600, .inr (.inl fH)))], [(qs 9, .inl (cI, 144, .inl (fl (sI hd))))], [(qs 18, .inl (cI, 144, .inl (fl (gN (vw0 T1.2.2 hd r)))))], [(qs 19, .inl (cI, 144, .inl (fl (gN (bn_far (vw0 T1.2.2 hd r))))))]]) rfl 7 rfl [0, 6, 1, 2, 3, 4, 5] (by decide) hP
    have hD := wd_nD (N := [[rf_o h qs cd ma mn ca cn na nn pk dv ex lb lm], [(qs 6, .inl (cJ, 1600, .inr (.inl fL)))], [(qs 7, .inl (cJ, 1600, .inr (.inl fH)))], [(qs 9, .inl (cI, 144, .inl (fl (sI hd))))], [(qs 18, .inl (cI, 144, .inl (fl (gN (vw0 T1.2.2 hd r)))))], [(qs 19, .inl (cI, 144, .inl (fl (gN (bn_far (vw0 T1.2.2 hd r))))))]]) rfl 7 rfl [0, 6, 1, 2, 3, 4, 5] (by decide) hD
    have hP : va_P D kls (List.flatten [[rf_o h qs cd ma mn ca cn na nn pk dv ex lb lm], [(qs 0, .inl (cI, 12, .inl (lI eb)))], [(qs 6, .inl (cJ, 1600, .inr (.inl fL)))], [(qs 7, .inl (cJ, 1600, .inr (.inl fH)))], [(qs 9, .inl (cI, 144, .inl (fl (sI hd))))], [(qs 18, .inl (cI, 144, .inl (fl (gN (vw0 T1.2.2 hd r)))))], [(qs 19, .inl (cI, 144, .inl (fl (gN (bn_far (vw0 T1.2.2 hd r))))))]]) H := hP
    have hD : va_D A (List.flatten [[rf_o h qs cd ma mn ca cn na nn pk dv ex lb lm], [(qs 0, .inl (cI, 12, .inl (lI eb)))], [(qs 6, .inl (cJ, 1600, .inr (.inl fL)))], [(qs 7, .inl (cJ, 1600, .inr (.inl fH)))], [(qs 9, .inl (cI, 144, .inl (fl (sI hd))))], [(qs 18, .inl (cI, 144, .inl (fl (gN (vw0 T1.2.2 hd r)))))], [(qs 19, .inl (cI, 144, .inl (fl (gN (bn_far (vw0 T1.2.2 hd r))))))]]) := hD
    refine W.eq (g2 := F0 m 34 ls []) rfl ?_
    refine lv_iconst (v := nI 0) hx hb d_Ref_wouldSend_34 (by decide) ?_
    refine lv_istore hx hb d_Ref_wouldSend_35 hl (by decide) rfl (fun ls hl => ?_)
    have hl : lv_has ls 6 [(5, .int (nI 0)), (4, .int (nI 0)), (3, .int (set &&& ((bm_em (eb r)) ^^^ (-1)))), (0, .ref h), (1, .int (nI r)), (2, .int set)] := hl
    exact loop 12 0 H locs ls (by omega) hP hD hS (lv_sub hl [0, 1, 2, 3, 4] rfl)
  · refine lv_iload_n hx hb d_Ref_wouldSend_9 rfl (lv_at hl 2 rfl) ?_
    refine lv_iconst (v := nI 1) hx hb d_Ref_wouldSend_10 (by decide) ?_
    refine lv_aload_n hx hb d_Ref_wouldSend_11 rfl (lv_at hl 0 rfl) ?_
    refine va_get (D := D) (ci := 9) (v := .ref (qs 0)) (C := R_Ref) (T := T_Ref) (N := 32) hx hb ht in_Ref hown hK hP 0 rfl rfl 1 (by decide) (ht _ kl_Ref_7) (fun _ h9 => h9) rfl d_Ref_wouldSend_12 ?_
    refine lv_iload_n hx hb d_Ref_wouldSend_15 rfl (lv_at hl 1 rfl) ?_
    refine ri_iald hx hb hK hP 1 0 rfl rfl (j := r) (by omega) (by omega) d_Ref_wouldSend_16 ?_
    refine W.eq (g2 := F0 m 17 ls [.int (bm_oI (eb r)), .int (nI 1), .int set]) rfl ?_
    refine lv_ishl hx hb d_Ref_wouldSend_17 ?_
    refine lv_iconst (v := (-1)) hx hb d_Ref_wouldSend_18 (by decide) ?_
    refine lv_ixor hx hb d_Ref_wouldSend_19 ?_
    refine lv_iand hx hb d_Ref_wouldSend_20 ?_
    refine lv_goto hx hb d_Ref_wouldSend_21 (tgt := 25) (by decide) ?_
    refine W.eq (g2 := F0 m 25 ls [.int (set &&& ((bm_em (eb r)) ^^^ (-1)))]) (congrArg (fun z => F0 m 25 ls (.int z :: [])) ((by first | exact clr_of set h6 | exact clr_no set ((oI_lt (fun b z => Nat.lt_trans (heb _ b z) (by decide))).mp h6)))) ?_
    refine lv_istore_n hx hb d_Ref_wouldSend_25 rfl hl (by decide) rfl (fun ls hl => ?_)
    have hl : lv_has ls 6 [(3, .int (set &&& ((bm_em (eb r)) ^^^ (-1)))), (0, .ref h), (1, .int (nI r)), (2, .int set)] := hl
    refine lv_iconst (v := nI 0) hx hb d_Ref_wouldSend_26 (by decide) ?_
    refine lv_istore hx hb d_Ref_wouldSend_27 hl (by decide) rfl (fun ls hl => ?_)
    have hl : lv_has ls 6 [(4, .int (nI 0)), (3, .int (set &&& ((bm_em (eb r)) ^^^ (-1)))), (0, .ref h), (1, .int (nI r)), (2, .int set)] := hl
    refine lv_aload_n hx hb d_Ref_wouldSend_29 rfl (lv_at hl 2 rfl) ?_
    refine lv_iload_n hx hb d_Ref_wouldSend_30 rfl (lv_at hl 3 rfl) ?_
    refine ct_callVV (C := R_Ref) (ci := 9) (As := [.int (nI r)]) (rest := []) ⟨hx, hb, hml, hown, ht⟩ (k_Ref_view l D cI cZ cJ cG hAd h00 hA9 hA1 r hr9 hh hdg hw9) (cb_V ht kc_Ref_view kl_Ref_139 kn_Ref ki_Ref_view ks_Ref_view hd_Ref_view ⟨Nat.le_of_ble_eq_true rfl, Nat.le_of_ble_eq_true rfl⟩) (List.mem_of_getElem? (i := 0) rfl) rfl rfl (wd_ct (Bs := [[rf_o h qs cd ma mn ca cn na nn pk dv ex lb lm], [(qs 0, .inl (cI, 12, .inl (lI eb)))], [(qs 6, .inl (cJ, 1600, .inr (.inl fL)))], [(qs 7, .inl (cJ, 1600, .inr (.inl fH)))], [(qs 9, .inl (cI, 144, .inl (fl (sI hd))))], [(qs 18, .inl (cI, 144, .inl (fl MK)))], [(qs 19, .inl (cI, 144, .inl (fl MF)))]]) 7 rfl [0, 2, 3, 4, 5, 6] [1] (by decide) rfl) hK hP hD hS hA rfl hl.1 rfl (Nat.le_of_ble_eq_true rfl) ⟨(show 0 + 0 ≤ 0 by omega), (show 0 + 0 ≤ 0 by omega)⟩ d_Ref_wouldSend_31 (fun u109 H locs hu109 hP hD hS => ?_)
    subst hu109
    refine W.widen (k := 0) (n := 0) (Nat.le_refl _) (Nat.le_refl _) ?_
    have hP := wd_nP (N := [[rf_o h qs cd ma mn ca cn na nn pk dv ex lb lm], [(qs 6, .inl (cJ, 1600, .inr (.inl fL)))], [(qs 7, .inl (cJ, 1600, .inr (.inl fH)))], [(qs 9, .inl (cI, 144, .inl (fl (sI hd))))], [(qs 18, .inl (cI, 144, .inl (fl (gN (vw0 T1.2.2 hd r)))))], [(qs 19, .inl (cI, 144, .inl (fl (gN (bn_far (vw0 T1.2.2 hd r))))))]]) rfl 7 rfl [0, 6, 1, 2, 3, 4, 5] (by decide) hP
    have hD := wd_nD (N := [[rf_o h qs cd ma mn ca cn na nn pk dv ex lb lm], [(qs 6, .inl (cJ, 1600, .inr (.inl fL)))], [(qs 7, .inl (cJ, 1600, .inr (.inl fH)))], [(qs 9, .inl (cI, 144, .inl (fl (sI hd))))], [(qs 18, .inl (cI, 144, .inl (fl (gN (vw0 T1.2.2 hd r)))))], [(qs 19, .inl (cI, 144, .inl (fl (gN (bn_far (vw0 T1.2.2 hd r))))))]]) rfl 7 rfl [0, 6, 1, 2, 3, 4, 5] (by decide) hD
    have hP : va_P D kls (List.flatten [[rf_o h qs cd ma mn ca cn na nn pk dv ex lb lm], [(qs 0, .inl (cI, 12, .inl (lI eb)))], [(qs 6, .inl (cJ, 1600, .inr (.inl fL)))], [(qs 7, .inl (cJ, 1600, .inr (.inl fH)))], [(qs 9, .inl (cI, 144, .inl (fl (sI hd))))], [(qs 18, .inl (cI, 144, .inl (fl (gN (vw0 T1.2.2 hd r)))))], [(qs 19, .inl (cI, 144, .inl (fl (gN (bn_far (vw0 T1.2.2 hd r))))))]]) H := hP
    have hD : va_D A (List.flatten [[rf_o h qs cd ma mn ca cn na nn pk dv ex lb lm], [(qs 0, .inl (cI, 12, .inl (lI eb)))], [(qs 6, .inl (cJ, 1600, .inr (.inl fL)))], [(qs 7, .inl (cJ, 1600, .inr (.inl fH)))], [(qs 9, .inl (cI, 144, .inl (fl (sI hd))))], [(qs 18, .inl (cI, 144, .inl (fl (gN (vw0 T1.2.2 hd r)))))], [(qs 19, .inl (cI, 144, .inl (fl (gN (bn_far (vw0 T1.2.2 hd r))))))]]) := hD
    refine W.eq (g2 := F0 m 34 ls []) rfl ?_
    refine lv_iconst (v := nI 0) hx hb d_Ref_wouldSend_34 (by decide) ?_
    refine lv_istore hx hb d_Ref_wouldSend_35 hl (by decide) rfl (fun ls hl => ?_)
    have hl : lv_has ls 6 [(5, .int (nI 0)), (4, .int (nI 0)), (3, .int (set &&& ((bm_em (eb r)) ^^^ (-1)))), (0, .ref h), (1, .int (nI r)), (2, .int set)] := hl
    exact loop 12 0 H locs ls (by omega) hP hD hS (lv_sub hl [0, 1, 2, 3, 4] rfl)
