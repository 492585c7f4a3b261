/-! Groups: contracts of its methods. -/
abbrev gp_w (cI cG : ClassId) (h aE qi qh qn g9 aN : Nat) (rr : Nat → Nat) (ing : Nat → Option Nat) (hd9 : Nat → Int32) (nf : Nat → Nat) (rc : Nat → Nat → Nat) (wN : va_W) : va_W := List.flatten [[(h, .inr (7, [.ref aE, .ref qi, .ref qh, .ref qn, .ref g9, .ref aN]))], [(qi, .inl (cI, 8, .inl (lI ing)))], [(qh, .inl (cI, 8, .inl hd9))], [(qn, .inl (cI, 8, .inl (cN nf)))], [(g9, .inl (cG, 12, .inr (.inr (.inr (.inr (go rr))))))], gd cI 8 rr (gN rc), wN]
/-- a Groups at h -/
def gp_R (cI cG : ClassId) (h aE : Nat) (G : bm_G) (ws : va_W) : Prop := ∃ (qi qh qn g9 aN : Nat) (rr : Nat → Nat) (wN : va_W), ws = gp_w cI cG h aE qi qh qn g9 aN rr G.1 G.2.1 G.2.2.2.2 G.2.2.1 wN ∧ rw_R cI 3 G.2.2.2.1.1 G.2.2.2.1.2.1 G.2.2.2.1.2.2 aN wN
theorem gp_R.mem {cI cG : ClassId} {h aE : Nat} {G : bm_G} {ws : va_W} (hR : gp_R cI cG h aE G ws) : ∃ fs, (h, Sum.inr (7, fs)) ∈ ws := by
  obtain ⟨qi, qh, qn, g9, aN, rr, wN, rfl, -⟩ := hR
  exact ⟨_, List.mem_of_getElem? (i := 0) rfl⟩
set_option maxHeartbeats 4000000 in
set_option maxRecDepth 100000 in
theorem k_Groups_onTheWay (l : Launch) (D : va_G) (cI cZ cJ cG : ClassId) {h aE : Nat} {G : bm_G} {ws : va_W} (hR : gp_R cI cG h aE G ws) : ct_I l D kls (ty4 cI cZ cJ cG) y_Groups_onTheWay ws_Groups_onTheWay (rm_ 1 20 0 0) [.ref h] (ws) (fun z u => z = nI G.2.2.2.1.2.1 ∧ u = ws) 0 0 := by
  obtain ⟨qi, qh, qn, g9, aN, rr, wN, rfl, kN⟩ := hR
  obtain ⟨fsN, mN⟩ := kN.mem
  have bN := kN.n
  refine ct_enterI (cc := b_Groups_onTheWay) (maxL := 1) (ret := (some .int)) (by decide +kernel) (Nat.le_of_ble_eq_true rfl) ?_
  intro p e s m args below meth c hx hb hml hr ht hown hlk hnm A Q hA hK hP hD hQ ls hl
  have hown : s.vm.findClass R_Groups = some m.cls := hown
  have hS : va_S A s.heap s.heap [] := va_S.rf
  have hl : lv_has ls 1 [(0, .ref h)] := hl
  refine lv_aload_n hx hb d_Groups_onTheWay_0 rfl (lv_at hl 0 rfl) ?_
  refine va_get (D := D) (ci := 7) (v := .ref aN) (C := R_Groups) (T := T_Groups) (N := 6) hx hb ht in_Groups hown hK hP 0 rfl rfl 5 (by decide) (ht _ kl_Groups_31) (fun _ h9 => h9) rfl d_Groups_onTheWay_1 ?_
  refine ct_rdV (C := R_Rows) (ci := 0) (As := []) (rest := []) ⟨hx, hb, hml, hown, ht⟩ (k_Rows_size l D cI cZ cJ cG kN) (cb_V ht kc_Rows_size kl_Groups_39 kn_Rows ki_Rows_size ks_Rows_size hd_Rows_size ⟨Nat.le_of_ble_eq_true rfl, Nat.le_of_ble_eq_true rfl⟩) (wd_mem 6 rfl mN) rfl rfl (wd_ct (Bs := [[(h, .inr (7, [.ref aE, .ref qi, .ref qh, .ref qn, .ref g9, .ref aN]))], [(qi, .inl (cI, 8, .inl (lI G.1)))], [(qh, .inl (cI, 8, .inl G.2.1))], [(qn, .inl (cI, 8, .inl (cN G.2.2.2.2)))], [(g9, .inl (cG, 12, .inr (.inr (.inr (.inr (go rr))))))], gd cI 8 rr (gN G.2.2.1), wN]) 7 rfl [6] [0, 1, 2, 3, 4, 5] (by decide) (wd_1 _)) hK hP hD hS hA rfl hl.1 rfl (Nat.le_of_ble_eq_true rfl) ⟨(show 0 + 0 ≤ 0 by omega), (show 0 + 0 ≤ 0 by omega)⟩ d_Groups_onTheWay_4 (fun rhr1 H locs hr1 hP hD hS => ?_)
  subst hr1
  exact ct_iret hQ hx hb hr hlk hP hD hS hK (by omega) (by omega) d_Groups_onTheWay_7 (⟨rfl, rfl⟩)
set_option maxHeartbeats 4000000 in
set_option maxRecDepth 100000 in
theorem k_Groups_ingressOf (l : Launch) (D : va_G) (cI cZ cJ cG : ClassId) {h aE : Nat} {G : bm_G} {ws : va_W} (hR : gp_R cI cG h aE G ws) (g : Nat) (hg : g < 8) : ct_I l D kls (ty4 cI cZ cJ cG) y_Groups_ingressOf ws_Groups_ingressOf (rm_ 0 0 0 0) [.ref h, .int (nI g)] (ws) (fun z u => z = bm_oI (G.1 g) ∧ u = ws) 0 0 := by
  obtain ⟨qi, qh, qn, g9, aN, rr, wN, rfl, kN⟩ := hR
  obtain ⟨fsN, mN⟩ := kN.mem
  have bN := kN.n
  refine ct_enterI (cc := b_Groups_ingressOf) (maxL := 2) (ret := (some .int)) (by decide +kernel) (Nat.le_of_ble_eq_true rfl) ?_
  intro p e s m args below meth c hx hb hml hr ht hown hlk hnm A Q hA hK hP hD hQ ls hl
  have hown : s.vm.findClass R_Groups = some m.cls := hown
  have hS : va_S A s.heap s.heap [] := va_S.rf
  have hl : lv_has ls 2 [(0, .ref h), (1, .int (nI g))] := hl
  refine lv_aload_n hx hb d_Groups_ingressOf_0 rfl (lv_at hl 0 rfl) ?_
  refine va_get (D := D) (ci := 7) (v := .ref qi) (C := R_Groups) (T := T_Groups) (N := 6) hx hb ht in_Groups hown hK hP 0 rfl rfl 1 (by decide) (ht _ kl_Groups_9) (fun _ h9 => h9) rfl d_Groups_ingressOf_1 ?_
  refine lv_iload_n hx hb d_Groups_ingressOf_4 rfl (lv_at hl 1 rfl) ?_
  refine ri_iald hx hb hK hP 1 0 rfl rfl (j := g) (by omega) (by omega) d_Groups_ingressOf_5 ?_
  refine W.eq (g2 := F0 m 6 ls [.int (bm_oI (G.1 g))]) rfl ?_
  exact ct_iret hQ hx hb hr hlk hP hD hS hK (by omega) (by omega) d_Groups_ingressOf_6 (⟨rfl, rfl⟩)
set_option maxHeartbeats 4000000 in
set_option maxRecDepth 100000 in
theorem k_Groups_heardOf (l : Launch) (D : va_G) (cI cZ cJ cG : ClassId) {h aE : Nat} {G : bm_G} {ws : va_W} (hR : gp_R cI cG h aE G ws) (g : Nat) (hg : g < 8) : ct_I l D kls (ty4 cI cZ cJ cG) y_Groups_heardOf ws_Groups_heardOf (rm_ 0 0 0 0) [.ref h, .int (nI g)] (ws) (fun z u => z = G.2.1 g ∧ u = ws) 0 0 := by
  obtain ⟨qi, qh, qn, g9, aN, rr, wN, rfl, kN⟩ := hR
  obtain ⟨fsN, mN⟩ := kN.mem
  have bN := kN.n
  refine ct_enterI (cc := b_Groups_heardOf) (maxL := 2) (ret := (some .int)) (by decide +kernel) (Nat.le_of_ble_eq_true rfl) ?_
  intro p e s m args below meth c hx hb hml hr ht hown hlk hnm A Q hA hK hP hD hQ ls hl
  have hown : s.vm.findClass R_Groups = some m.cls := hown
  have hS : va_S A s.heap s.heap [] := va_S.rf
  have hl : lv_has ls 2 [(0, .ref h), (1, .int (nI g))] := hl
  refine lv_aload_n hx hb d_Groups_heardOf_0 rfl (lv_at hl 0 rfl) ?_
  refine va_get (D := D) (ci := 7) (v := .ref qh) (C := R_Groups) (T := T_Groups) (N := 6) hx hb ht in_Groups hown hK hP 0 rfl rfl 2 (by decide) (ht _ kl_Groups_15) (fun _ h9 => h9) rfl d_Groups_heardOf_1 ?_
  refine lv_iload_n hx hb d_Groups_heardOf_4 rfl (lv_at hl 1 rfl) ?_
  refine ri_iald hx hb hK hP 2 0 rfl rfl (j := g) (by omega) (by omega) d_Groups_heardOf_5 ?_
  exact ct_iret hQ hx hb hr hlk hP hD hS hK (by omega) (by omega) d_Groups_heardOf_6 (⟨rfl, rfl⟩)
set_option maxHeartbeats 4000000 in
set_option maxRecDepth 100000 in
theorem k_Groups_receiversOf (l : Launch) (D : va_G) (cI cZ cJ cG : ClassId) {h aE : Nat} {G : bm_G} {ws : va_W} (hR : gp_R cI cG h aE G ws) (e9 g : Nat) (he : e9 < 12) (hg : g < 8) : ct_I l D kls (ty4 cI cZ cJ cG) y_Groups_receiversOf ws_Groups_receiversOf (rm_ 0 0 0 0) [.ref h, .int (nI e9), .int (nI g)] (ws) (fun z u => z = nI (G.2.2.1 e9 g) ∧ u = ws) 0 0 := by
  obtain ⟨qi, qh, qn, g9, aN, rr, wN, rfl, kN⟩ := hR
  obtain ⟨fsN, mN⟩ := kN.mem
  have bN := kN.n
  refine ct_enterI (cc := b_Groups_receiversOf) (maxL := 3) (ret := (some .int)) (by decide +kernel) (Nat.le_of_ble_eq_true rfl) ?_
  intro p e s m args below meth c hx hb hml hr ht hown hlk hnm A Q hA hK hP hD hQ ls hl
  have hown : s.vm.findClass R_Groups = some m.cls := hown
  have hS : va_S A s.heap s.heap [] := va_S.rf
  have hl : lv_has ls 3 [(0, .ref h), (1, .int (nI e9)), (2, .int (nI g))] := hl
  refine lv_aload_n hx hb d_Groups_receiversOf_0 rfl (lv_at hl 0 rfl) ?_
  refine va_get (D := D) (ci := 7) (v := .ref g9) (C := R_Groups) (T := T_Groups) (N := 6) hx hb ht in_Groups hown hK hP 0 rfl rfl 4 (by decide) (ht _ kl_Groups_23) (fun _ h9 => h9) rfl d_Groups_receiversOf_1 ?_
  refine lv_iload_n hx hb d_Groups_receiversOf_4 rfl (lv_at hl 1 rfl) ?_
  refine ri_aald hx hb hK hP 4 3 rfl rfl (j := e9) (by omega) (by omega) (go_at (by omega)) d_Groups_receiversOf_5 ?_
  refine lv_iload_n hx hb d_Groups_receiversOf_6 rfl (lv_at hl 2 rfl) ?_
  refine ri_gld hx hb hK hP 5 0 rfl rfl (i := e9) (j := g) (by omega) (by omega) (by decide) d_Groups_receiversOf_7 ?_
  refine W.eq (g2 := F0 m 8 ls [.int (nI (G.2.2.1 e9 g))]) rfl ?_
  exact ct_iret hQ hx hb hr hlk hP hD hS hK (by omega) (by omega) d_Groups_receiversOf_8 (⟨rfl, rfl⟩)
set_option maxHeartbeats 4000000 in
set_option maxRecDepth 100000 in
theorem k_Groups_isIdle (l : Launch) (D : va_G) (cI cZ cJ cG : ClassId) {h aE : Nat} {G : bm_G} {ws : va_W} (hR : gp_R cI cG h aE G ws) (g : Nat) (hg : g < 8) (hrc : ∀ a b, G.2.2.1 a b < 2147483648) (hnf : G.2.2.2.2 g < 2147483648) : ct_I l D kls (ty4 cI cZ cJ cG) y_Groups_isIdle ws_Groups_isIdle (rm_ 0 0 0 0) [.ref h, .int (nI g)] (ws) (fun z u => z = bI (bP ((∀ r, r < 12 → G.2.2.1 r g = 0) ∧ G.2.2.2.2 g = 0)) ∧ u = ws) 0 0 := by
  obtain ⟨qi, qh, qn, g9, aN, rr, wN, rfl, kN⟩ := hR
  obtain ⟨fsN, mN⟩ := kN.mem
  have bN := kN.n
  refine ct_enterI (cc := b_Groups_isIdle) (maxL := 3) (ret := (some .boolean)) (by decide +kernel) (Nat.le_of_ble_eq_true rfl) ?_
  intro p e s m args below meth c hx hb hml hr ht hown hlk hnm A Q hA hK hP hD hQ ls hl
  have hown : s.vm.findClass R_Groups = some m.cls := hown
  have hS : va_S A s.heap s.heap [] := va_S.rf
  have hl : lv_has ls 3 [(0, .ref h), (1, .int (nI g))] := hl
  have loop : ∀ (k j : Nat)  (H : Heap) (locs : List Loc) (ls : Array Slot), j + k = 12 → (∀ r, r < j → G.2.2.1 r g = 0) → va_P D kls (List.flatten [[(h, .inr (7, [.ref aE, .ref qi, .ref qh, .ref qn, .ref g9, .ref aN]))], [(qi, .inl (cI, 8, .inl (lI G.1)))], [(qh, .inl (cI, 8, .inl G.2.1))], [(qn, .inl (cI, 8, .inl (cN G.2.2.2.2)))], [(g9, .inl (cG, 12, .inr (.inr (.inr (.inr (go rr))))))], gd cI 8 rr (gN G.2.2.1), wN]) H → va_D A (List.flatten [[(h, .inr (7, [.ref aE, .ref qi, .ref qh, .ref qn, .ref g9, .ref aN]))], [(qi, .inl (cI, 8, .inl (lI G.1)))], [(qh, .inl (cI, 8, .inl G.2.1))], [(qn, .inl (cI, 8, .inl (cN G.2.2.2.2)))], [(g9, .inl (cG, 12, .inr (.inr (.inr (.inr (go rr))))))], gd cI 8 rr (gN G.2.2.1), wN]) → va_S A s.heap H locs → lv_has ls 3 [(2, .int (nI j)), (0, .ref h), (1, .int (nI g))] → W p l e (rm_ 0 0 0 0) s m args below meth c H locs 0 0 Q (F0 m 2 ls []) := by
    intro k
    induction k with
    | zero =>
      intro j H locs ls hk hs hP hD hS hl
      refine lv_iload_n hx hb d_Groups_isIdle_2 rfl (lv_at hl 0 rfl) ?_
      refine lv_bipush (v := nI 12) hx hb d_Groups_isIdle_3 (by decide) ?_
      refine ri_icmp_ge hx hb (by omega) (by omega) d_Groups_isIdle_5 (tgt := 27) (by decide) (fun hc9 => ?_) (fun hc9 => ?_)
      · refine lv_aload_n hx hb d_Groups_isIdle_27 rfl (lv_at hl 1 rfl) ?_
        refine va_get (D := D) (ci := 7) (v := .ref qn) (C := R_Groups) (T := T_Groups) (N := 6) hx hb ht in_Groups hown hK hP 0 rfl rfl 3 (by decide) (ht _ kl_Groups_18) (fun _ h9 => h9) rfl d_Groups_isIdle_28 ?_
        refine lv_iload_n hx hb d_Groups_isIdle_31 rfl (lv_at hl 2 rfl) ?_
        refine ri_iald hx hb hK hP 3 0 rfl rfl (j := g) (by omega) (by omega) d_Groups_isIdle_32 ?_
        refine W.eq (g2 := F0 m 33 ls [.int (nI (G.2.2.2.2 g))]) rfl ?_
        refine ri_if_ne hx hb hnf d_Groups_isIdle_33 (tgt := 40) (by decide) (fun h2 => ?_) (fun h2 => ?_)
        · refine lv_iconst (v := nI 0) hx hb d_Groups_isIdle_40 (by decide) ?_
          exact ct_zret (b := false) hQ hx hb hr hlk hP hD hS hK (by omega) (by omega) d_Groups_isIdle_41 (⟨congrArg bI (bP_f (fun z => by first | exact h1 (z.1 j (by omega)) | exact h2 z.2)).symm, rfl⟩)
        · refine lv_iconst (v := nI 1) hx hb d_Groups_isIdle_36 (by decide) ?_
          refine lv_goto hx hb d_Groups_isIdle_37 (tgt := 41) (by decide) ?_
          exact ct_zret (b := true) hQ hx hb hr hlk hP hD hS hK (by omega) (by omega) d_Groups_isIdle_41 (⟨congrArg bI (bP_t ⟨fun r hr => hs r (by omega), h2⟩).symm, rfl⟩)
      · exact absurd hc9 (by omega)
    | succ k ih =>
      intro j H locs ls hk hs hP hD hS hl
      refine lv_iload_n hx hb d_Groups_isIdle_2 rfl (lv_at hl 0 rfl) ?_
      refine lv_bipush (v := nI 12) hx hb d_Groups_isIdle_3 (by decide) ?_
      refine ri_icmp_ge hx hb (by omega) (by omega) d_Groups_isIdle_5 (tgt := 27) (by decide) (fun hc9 => ?_) (fun hc9 => ?_)
      · exact absurd hc9 (by omega)
      · refine lv_aload_n hx hb d_Groups_isIdle_8 rfl (lv_at hl 1 rfl) ?_
        refine va_get (D := D) (ci := 7) (v := .ref g9) (C := R_Groups) (T := T_Groups) (N := 6) hx hb ht in_Groups hown hK hP 0 rfl rfl 4 (by decide) (ht _ kl_Groups_23) (fun _ h9 => h9) rfl d_Groups_isIdle_9 ?_
        refine lv_iload_n hx hb d_Groups_isIdle_12 rfl (lv_at hl 0 rfl) ?_
        refine ri_aald hx hb hK hP 4 3 rfl rfl (j := j) (by omega) (by omega) (go_at (by omega)) d_Groups_isIdle_13 ?_
        refine lv_iload_n hx hb d_Groups_isIdle_14 rfl (lv_at hl 2 rfl) ?_
        refine ri_gld hx hb hK hP 5 0 rfl rfl (i := j) (j := g) (by omega) hg (by decide) d_Groups_isIdle_15 ?_
        refine W.eq (g2 := F0 m 16 ls [.int (nI (G.2.2.1 j g))]) rfl ?_
        refine ri_if_eq hx hb (hrc _ _) d_Groups_isIdle_16 (tgt := 21) (by decide) (fun h1 => ?_) (fun h1 => ?_)
        · refine ri_iinc hx hb d_Groups_isIdle_21 hl (k := 0) rfl (by decide) rfl (fun ls hl => ?_)
          have hl : lv_has ls 3 [(2, .int (nI (j + 1))), (0, .ref h), (1, .int (nI g))] := hl
          refine lv_goto hx hb d_Groups_isIdle_24 (tgt := 2) (by decide) ?_
          exact ih (j + 1) H locs ls (by omega) (lt_s hs h1) hP hD hS hl
        · refine lv_iconst (v := nI 0) hx hb d_Groups_isIdle_19 (by decide) ?_
          exact ct_zret (b := false) hQ hx hb hr hlk hP hD hS hK (by omega) (by omega) d_Groups_isIdle_20 (⟨congrArg bI (bP_f (fun z => by first | exact h1 (z.1 j (by omega)) | exact h2 z.2)).symm, rfl⟩)
  refine lv_iconst (v := nI 0) hx hb d_Groups_isIdle_0 (by decide) ?_
  refine lv_istore_n hx hb d_Groups_isIdle_1 rfl hl (by decide) rfl (fun ls hl => ?_)
  have hl : lv_has ls 3 [(2, .int (nI 0)), (0, .ref h), (1, .int (nI g))] := hl
  exact loop 12 0 s.heap [] ls (by omega) (fun r hr => absurd hr (by omega)) hP hD hS hl
set_option maxHeartbeats 4000000 in
set_option maxRecDepth 100000 in
theorem k_Groups_appoint (l : Launch) (D : va_G) (cI cZ cJ cG : ClassId) {h aE : Nat} {G : bm_G} {ws : va_W} (hR : gp_R cI cG h aE G ws) (g e9 : Nat) (hg : g < 8) : ct_V l D kls (ty4 cI cZ cJ cG) y_Groups_appoint ws_Groups_appoint (rm_ 0 0 0 0) [.ref h, .int (nI g), .int (nI e9)] (ws) (fun u => gp_R cI cG h aE (bm_appoint g e9 G) u) 0 0 := by
  obtain ⟨qi, qh, qn, g9, aN, rr, wN, rfl, kN⟩ := hR
  obtain ⟨fsN, mN⟩ := kN.mem
  have bN := kN.n
  refine ct_enterV (cc := b_Groups_appoint) (maxL := 3) (ret := none) (by decide +kernel) (Nat.le_of_ble_eq_true rfl) ?_
  intro p e s m args below meth c hx hb hml hr ht hown hlk hnm A Q hA hK hP hD hQ ls hl
  have hown : s.vm.findClass R_Groups = some m.cls := hown
  have hS : va_S A s.heap s.heap [] := va_S.rf
  have hl : lv_has ls 3 [(0, .ref h), (1, .int (nI g)), (2, .int (nI e9))] := hl
  refine lv_aload_n hx hb d_Groups_appoint_0 rfl (lv_at hl 0 rfl) ?_
  refine va_get (D := D) (ci := 7) (v := .ref qi) (C := R_Groups) (T := T_Groups) (N := 6) hx hb ht in_Groups hown hK hP 0 rfl rfl 1 (by decide) (ht _ kl_Groups_9) (fun _ h9 => h9) rfl d_Groups_appoint_1 ?_
  refine lv_iload_n hx hb d_Groups_appoint_4 rfl (lv_at hl 1 rfl) ?_
  refine lv_iload_n hx hb d_Groups_appoint_5 rfl (lv_at hl 2 rfl) ?_
  refine ri_iast hx hb hK hP hD hS 1 0 rfl rfl (j := g) (by omega) (by omega) d_Groups_appoint_6 (fun H locs hP hD hS => ?_)
  rw [lI_up] at hP hD
  have hP : va_P D kls (List.flatten [[(h, .inr (7, [.ref aE, .ref qi, .ref qh, .ref qn, .ref g9, .ref aN]))], [(qi, .inl (cI, 8, .inl (lI (bm_up1 G.1 g (some e9)))))], [(qh, .inl (cI, 8, .inl G.2.1))], [(qn, .inl (cI, 8, .inl (cN G.2.2.2.2)))], [(g9, .inl (cG, 12, .inr (.inr (.inr (.inr (go rr))))))], gd cI 8 rr (gN G.2.2.1), wN]) H := hP
  have hD : va_D A (List.flatten [[(h, .inr (7, [.ref aE, .ref qi, .ref qh, .ref qn, .ref g9, .ref aN]))], [(qi, .inl (cI, 8, .inl (lI (bm_up1 G.1 g (some e9)))))], [(qh, .inl (cI, 8, .inl G.2.1))], [(qn, .inl (cI, 8, .inl (cN G.2.2.2.2)))], [(g9, .inl (cG, 12, .inr (.inr (.inr (.inr (go rr))))))], gd cI 8 rr (gN G.2.2.1), wN]) := hD
  refine lv_aload_n hx hb d_Groups_appoint_7 rfl (lv_at hl 0 rfl) ?_
  refine va_get (D := D) (ci := 7) (v := .ref qh) (C := R_Groups) (T := T_Groups) (N := 6) hx hb ht in_Groups hown hK hP 0 rfl rfl 2 (by decide) (ht _ kl_Groups_15) (fun _ h9 => h9) rfl d_Groups_appoint_8 ?_
  refine lv_iload_n hx hb d_Groups_appoint_11 rfl (lv_at hl 1 rfl) ?_
  refine lv_iconst (v := nI 0) hx hb d_Groups_appoint_12 (by decide) ?_
  refine ri_iast hx hb hK hP hD hS 2 0 rfl rfl (j := g) (by omega) (by omega) d_Groups_appoint_13 (fun H locs hP hD hS => ?_)
  have hP : va_P D kls (List.flatten [[(h, .inr (7, [.ref aE, .ref qi, .ref qh, .ref qn, .ref g9, .ref aN]))], [(qi, .inl (cI, 8, .inl (lI (bm_up1 G.1 g (some e9)))))], [(qh, .inl (cI, 8, .inl (upd G.2.1 g (nI 0))))], [(qn, .inl (cI, 8, .inl (cN G.2.2.2.2)))], [(g9, .inl (cG, 12, .inr (.inr (.inr (.inr (go rr))))))], gd cI 8 rr (gN G.2.2.1), wN]) H := hP
  have hD : va_D A (List.flatten [[(h, .inr (7, [.ref aE, .ref qi, .ref qh, .ref qn, .ref g9, .ref aN]))], [(qi, .inl (cI, 8, .inl (lI (bm_up1 G.1 g (some e9)))))], [(qh, .inl (cI, 8, .inl (upd G.2.1 g (nI 0))))], [(qn, .inl (cI, 8, .inl (cN G.2.2.2.2)))], [(g9, .inl (cG, 12, .inr (.inr (.inr (.inr (go rr))))))], gd cI 8 rr (gN G.2.2.1), wN]) := hD
  exact ct_vret hQ hx hb hr hlk hP hD hS hK (by omega) (by omega) d_Groups_appoint_14 (⟨qi, qh, qn, g9, aN, rr, wN, rfl, kN⟩)
set_option maxHeartbeats 4000000 in
set_option maxRecDepth 100000 in
theorem k_Groups_needsNote (l : Launch) (D : va_G) (cI cZ cJ cG : ClassId) {h aE : Nat} {G : bm_G} {ws : va_W} (hR : gp_R cI cG h aE G ws) (e9 g nx : Nat) (he : e9 < 12) (hg : g < 8) (hrc : ∀ a b, G.2.2.1 a b < 2147483648) (hnx : nx < 2147483648) (hin : ∀ a b, G.1 a = some b → b < 12) : ct_I l D kls (ty4 cI cZ cJ cG) y_Groups_needsNote ws_Groups_needsNote (rm_ 0 0 0 0) [.ref h, .int (nI e9), .int (nI g), .int (nI nx)] (ws) (fun z u => z = bI (bP (bm_news G.1 G.2.2.1 e9 g nx)) ∧ u = ws) 0 0 := by
  obtain ⟨qi, qh, qn, g9, aN, rr, wN, rfl, kN⟩ := hR
  obtain ⟨fsN, mN⟩ := kN.mem
  have bN := kN.n
  refine ct_enterI (cc := b_Groups_needsNote) (maxL := 5) (ret := (some .boolean)) (by decide +kernel) (Nat.le_of_ble_eq_true rfl) ?_
  intro p e s m args below meth c hx hb hml hr ht hown hlk hnm A Q hA hK hP hD hQ ls hl
  have hown : s.vm.findClass R_Groups = some m.cls := hown
  have hS : va_S A s.heap s.heap [] := va_S.rf
  have hl : lv_has ls 5 [(0, .ref h), (1, .int (nI e9)), (2, .int (nI g)), (3, .int (nI nx))] := hl
  refine lv_aload_n hx hb d_Groups_needsNote_0 rfl (lv_at hl 0 rfl) ?_
  refine va_get (D := D) (ci := 7) (v := .ref g9) (C := R_Groups) (T := T_Groups) (N := 6) hx hb ht in_Groups hown hK hP 0 rfl rfl 4 (by decide) (ht _ kl_Groups_23) (fun _ h9 => h9) rfl d_Groups_needsNote_1 ?_
  refine lv_iload_n hx hb d_Groups_needsNote_4 rfl (lv_at hl 1 rfl) ?_
  refine ri_aald hx hb hK hP 4 3 rfl rfl (j := e9) (by omega) (by omega) (go_at (by omega)) d_Groups_needsNote_5 ?_
  refine lv_iload_n hx hb d_Groups_needsNote_6 rfl (lv_at hl 2 rfl) ?_
  refine ri_gld hx hb hK hP 5 0 rfl rfl (i := e9) (j := g) (by omega) (by omega) (by decide) d_Groups_needsNote_7 ?_
  refine W.eq (g2 := F0 m 8 ls [.int (nI (G.2.2.1 e9 g))]) rfl ?_
  refine ri_if_le hx hb (hrc _ _) d_Groups_needsNote_8 (tgt := 15) (by decide) (fun h1 => ?_) (fun h1 => ?_)
  · refine lv_iconst (v := nI 0) hx hb d_Groups_needsNote_15 (by decide) ?_
    refine lv_istore hx hb d_Groups_needsNote_16 hl (by decide) rfl (fun ls hl => ?_)
    have hl : lv_has ls 5 [(4, .int (nI 0)), (0, .ref h), (1, .int (nI e9)), (2, .int (nI g)), (3, .int (nI nx))] := hl
    rcases hig : G.1 g with _ | x
    · refine lv_aload_n hx hb d_Groups_needsNote_18 rfl (lv_at hl 1 rfl) ?_
      refine va_get (D := D) (ci := 7) (v := .ref qi) (C := R_Groups) (T := T_Groups) (N := 6) hx hb ht in_Groups hown hK hP 0 rfl rfl 1 (by decide) (ht _ kl_Groups_9) (fun _ h9 => h9) rfl d_Groups_needsNote_19 ?_
      refine lv_iload_n hx hb d_Groups_needsNote_22 rfl (lv_at hl 3 rfl) ?_
      refine ri_iald hx hb hK hP 1 0 rfl rfl (j := g) (by omega) (by omega) d_Groups_needsNote_23 ?_
      refine W.eq (g2 := F0 m 24 ls [.int (bm_oI (G.1 g))]) rfl ?_
      refine W.eq (g2 := F0 m 24 ls [.int ((-1))]) (congrArg (fun z => F0 m 24 ls (.int z :: [])) (show bm_oI (G.1 g) = -1 by rw [hig]; rfl)) ?_
      refine lv_iconst (v := (-1)) hx hb d_Groups_needsNote_24 (by decide) ?_
      refine lv_icmp_eq hx hb d_Groups_needsNote_25 (tgt := 46) (by decide) (fun h4 => ?_) (fun h4 => ?_)
      · refine lv_iconst (v := nI 0) hx hb d_Groups_needsNote_46 (by decide) ?_
        exact ct_zret (b := false) hQ hx hb hr hlk hP hD hS hK (by omega) (by omega) d_Groups_needsNote_47 (⟨congrArg bI (bP_f (fun z => by first | exact z.1 hig | exact z.2 (by omega))).symm, rfl⟩)
      · exact absurd h4 (fun z => z rfl)
    · have hx12 := hin g x hig
      refine lv_aload_n hx hb d_Groups_needsNote_18 rfl (lv_at hl 1 rfl) ?_
      refine va_get (D := D) (ci := 7) (v := .ref qi) (C := R_Groups) (T := T_Groups) (N := 6) hx hb ht in_Groups hown hK hP 0 rfl rfl 1 (by decide) (ht _ kl_Groups_9) (fun _ h9 => h9) rfl d_Groups_needsNote_19 ?_
      refine lv_iload_n hx hb d_Groups_needsNote_22 rfl (lv_at hl 3 rfl) ?_
      refine ri_iald hx hb hK hP 1 0 rfl rfl (j := g) (by omega) (by omega) d_Groups_needsNote_23 ?_
      refine W.eq (g2 := F0 m 24 ls [.int (bm_oI (G.1 g))]) rfl ?_
      refine W.eq (g2 := F0 m 24 ls [.int (nI x)]) (congrArg (fun z => F0 m 24 ls (.int z :: [])) (show bm_oI (G.1 g) = nI x by rw [hig]; rfl)) ?_
      refine lv_iconst (v := (-1)) hx hb d_Groups_needsNote_24 (by decide) ?_
      refine lv_icmp_eq hx hb d_Groups_needsNote_25 (tgt := 46) (by decide) (fun h4 => ?_) (fun h4 => ?_)
      · exact absurd h4 (nI_m1 (by omega))
      · refine lv_iload hx hb d_Groups_needsNote_28 (lv_at hl 0 rfl) ?_
        refine lv_iload_n hx hb d_Groups_needsNote_30 rfl (lv_at hl 4 rfl) ?_
        refine ri_if_le hx hb hnx d_Groups_needsNote_31 (tgt := 38) (by decide) (fun h2 => ?_) (fun h2 => ?_)
        · refine lv_iconst (v := nI 0) hx hb d_Groups_needsNote_38 (by decide) ?_
          refine ri_icmp_eq hx hb (by omega) (by omega) d_Groups_needsNote_39 (tgt := 46) (by decide) (fun h3 => ?_) (fun h3 => ?_)
          · refine lv_iconst (v := nI 0) hx hb d_Groups_needsNote_46 (by decide) ?_
            exact ct_zret (b := false) hQ hx hb hr hlk hP hD hS hK (by omega) (by omega) d_Groups_needsNote_47 (⟨congrArg bI (bP_f (fun z => by first | exact z.1 hig | exact z.2 (by omega))).symm, rfl⟩)
          · exact absurd h3 (by decide)
        · refine lv_iconst (v := nI 1) hx hb d_Groups_needsNote_34 (by decide) ?_
          refine lv_goto hx hb d_Groups_needsNote_35 (tgt := 39) (by decide) ?_
          refine ri_icmp_eq hx hb (by omega) (by omega) d_Groups_needsNote_39 (tgt := 46) (by decide) (fun h3 => ?_) (fun h3 => ?_)
          · exact absurd h3 (by decide)
          · refine lv_iconst (v := nI 1) hx hb d_Groups_needsNote_42 (by decide) ?_
            refine lv_goto hx hb d_Groups_needsNote_43 (tgt := 47) (by decide) ?_
            exact ct_zret (b := true) hQ hx hb hr hlk hP hD hS hK (by omega) (by omega) d_Groups_needsNote_47 (⟨congrArg bI (bP_t ⟨(by rw [hig]; exact Option.some_ne_none x), (by omega)⟩).symm, rfl⟩)
  · refine lv_iconst (v := nI 1) hx hb d_Groups_needsNote_11 (by decide) ?_
    refine lv_goto hx hb d_Groups_needsNote_12 (tgt := 16) (by decide) ?_
    refine lv_istore hx hb d_Groups_needsNote_16 hl (by decide) rfl (fun ls hl => ?_)
    have hl : lv_has ls 5 [(4, .int (nI 1)), (0, .ref h), (1, .int (nI e9)), (2, .int (nI g)), (3, .int (nI nx))] := hl
    rcases hig : G.1 g with _ | x
    · refine lv_aload_n hx hb d_Groups_needsNote_18 rfl (lv_at hl 1 rfl) ?_
      refine va_get (D := D) (ci := 7) (v := .ref qi) (C := R_Groups) (T := T_Groups) (N := 6) hx hb ht in_Groups hown hK hP 0 rfl rfl 1 (by decide) (ht _ kl_Groups_9) (fun _ h9 => h9) rfl d_Groups_needsNote_19 ?_
      refine lv_iload_n hx hb d_Groups_needsNote_22 rfl (lv_at hl 3 rfl) ?_
      refine ri_iald hx hb hK hP 1 0 rfl rfl (j := g) (by omega) (by omega) d_Groups_needsNote_23 ?_
      refine W.eq (g2 := F0 m 24 ls [.int (bm_oI (G.1 g))]) rfl ?_
      refine W.eq (g2 := F0 m 24 ls [.int ((-1))]) (congrArg (fun z => F0 m 24 ls (.int z :: [])) (show bm_oI (G.1 g) = -1 by rw [hig]; rfl)) ?_
      refine lv_iconst (v := (-1)) hx hb d_Groups_needsNote_24 (by decide) ?_
      refine lv_icmp_eq hx hb d_Groups_needsNote_25 (tgt := 46) (by decide) (fun h4 => ?_) (fun h4 => ?_)
      · refine lv_iconst (v := nI 0) hx hb d_Groups_needsNote_46 (by decide) ?_
        exact ct_zret (b := false) hQ hx hb hr hlk hP hD hS hK (by omega) (by omega) d_Groups_needsNote_47 (⟨congrArg bI (bP_f (fun z => by first | exact z.1 hig | exact z.2 (by omega))).symm, rfl⟩)
      · exact absurd h4 (fun z => z rfl)
    · have hx12 := hin g x hig
      refine lv_aload_n hx hb d_Groups_needsNote_18 rfl (lv_at hl 1 rfl) ?_
      refine va_get (D := D) (ci := 7) (v := .ref qi) (C := R_Groups) (T := T_Groups) (N := 6) hx hb ht in_Groups hown hK hP 0 rfl rfl 1 (by decide) (ht _ kl_Groups_9) (fun _ h9 => h9) rfl d_Groups_needsNote_19 ?_
      refine lv_iload_n hx hb d_Groups_needsNote_22 rfl (lv_at hl 3 rfl) ?_
      refine ri_iald hx hb hK hP 1 0 rfl rfl (j := g) (by omega) (by omega) d_Groups_needsNote_23 ?_
      refine W.eq (g2 := F0 m 24 ls [.int (bm_oI (G.1 g))]) rfl ?_
      refine W.eq (g2 := F0 m 24 ls [.int (nI x)]) (congrArg (fun z => F0 m 24 ls (.int z :: [])) (show bm_oI (G.1 g) = nI x by rw [hig]; rfl)) ?_
      refine lv_iconst (v := (-1)) hx hb d_Groups_needsNote_24 (by decide) ?_
      refine lv_icmp_eq hx hb d_Groups_needsNote_25 (tgt := 46) (by decide) (fun h4 => ?_) (fun h4 => ?_)
      · exact absurd h4 (nI_m1 (by omega))
      · refine lv_iload hx hb d_Groups_needsNote_28 (lv_at hl 0 rfl) ?_
        refine lv_iload_n hx hb d_Groups_needsNote_30 rfl (lv_at hl 4 rfl) ?_
        refine ri_if_le hx hb hnx d_Groups_needsNote_31 (tgt := 38) (by decide) (fun h2 => ?_) (fun h2 => ?_)
        · refine lv_iconst (v := nI 0) hx hb d_Groups_needsNote_38 (by decide) ?_
          refine ri_icmp_eq hx hb (by omega) (by omega) d_Groups_needsNote_39 (tgt := 46) (by decide) (fun h3 => ?_) (fun h3 => ?_)
          · exact absurd h3 (by decide)
          · refine lv_iconst (v := nI 1) hx hb d_Groups_needsNote_42 (by decide) ?_
            refine lv_goto hx hb d_Groups_needsNote_43 (tgt := 47) (by decide) ?_
            exact ct_zret (b := true) hQ hx hb hr hlk hP hD hS hK (by omega) (by omega) d_Groups_needsNote_47 (⟨congrArg bI (bP_t ⟨(by rw [hig]; exact Option.some_ne_none x), (by omega)⟩).symm, rfl⟩)
        · refine lv_iconst (v := nI 1) hx hb d_Groups_needsNote_34 (by decide) ?_
          refine lv_goto hx hb d_Groups_needsNote_35 (tgt := 39) (by decide) ?_
          refine ri_icmp_eq hx hb (by omega) (by omega) d_Groups_needsNote_39 (tgt := 46) (by decide) (fun h3 => ?_) (fun h3 => ?_)
          · refine lv_iconst (v := nI 0) hx hb d_Groups_needsNote_46 (by decide) ?_
            exact ct_zret (b := false) hQ hx hb hr hlk hP hD hS hK (by omega) (by omega) d_Groups_needsNote_47 (⟨congrArg bI (bP_f (fun z => by first | exact z.1 hig | exact z.2 (by omega))).symm, rfl⟩)
          · exact absurd h3 (by decide)
set_option maxHeartbeats 4000000 in
set_option maxRecDepth 100000 in
theorem k_Groups_hasRoomForCount (l : Launch) (D : va_G) (cI cZ cJ cG : ClassId) {h aE : Nat} {G : bm_G} {ws : va_W} (hR : gp_R cI cG h aE G ws) (e9 g nx : Nat) (he : e9 < 12) (hg : g < 8) (hrc : ∀ a b, G.2.2.1 a b < 2147483648) (hnx : nx < 2147483648) (hin : ∀ a b, G.1 a = some b → b < 12) : ct_I l D kls (ty4 cI cZ cJ cG) y_Groups_hasRoomForCount ws_Groups_hasRoomForCount (rm_ 1 24 0 0) [.ref h, .int (nI e9), .int (nI g), .int (nI nx)] (ws) (fun z u => z = bI (bP (G.2.2.2.1.2.1 < 4000 ∨ ¬ bm_news G.1 G.2.2.1 e9 g nx)) ∧ u = ws) 0 0 := by
  have hR9 := hR
  obtain ⟨qi, qh, qn, g9, aN, rr, wN, rfl, kN⟩ := hR
  obtain ⟨fsN, mN⟩ := kN.mem
  have bN := kN.n
  refine ct_enterI (cc := b_Groups_hasRoomForCount) (maxL := 4) (ret := (some .boolean)) (by decide +kernel) (Nat.le_of_ble_eq_true rfl) ?_
  intro p e s m args below meth c hx hb hml hr ht hown hlk hnm A Q hA hK hP hD hQ ls hl
  have hown : s.vm.findClass R_Groups = some m.cls := hown
  have hS : va_S A s.heap s.heap [] := va_S.rf
  have hl : lv_has ls 4 [(0, .ref h), (1, .int (nI e9)), (2, .int (nI g)), (3, .int (nI nx))] := hl
  refine lv_aload_n hx hb d_Groups_hasRoomForCount_0 rfl (lv_at hl 0 rfl) ?_
  refine va_get (D := D) (ci := 7) (v := .ref aN) (C := R_Groups) (T := T_Groups) (N := 6) hx hb ht in_Groups hown hK hP 0 rfl rfl 5 (by decide) (ht _ kl_Groups_31) (fun _ h9 => h9) rfl d_Groups_hasRoomForCount_1 ?_
  refine ct_rdV (C := R_Rows) (ci := 0) (As := []) (rest := []) ⟨hx, hb, hml, hown, ht⟩ (k_Rows_size l D cI cZ cJ cG kN) (cb_V ht kc_Rows_size kl_Groups_39 kn_Rows ki_Rows_size ks_Rows_size hd_Rows_size ⟨Nat.le_of_ble_eq_true rfl, Nat.le_of_ble_eq_true rfl⟩) (wd_mem 6 rfl mN) rfl rfl (wd_ct (Bs := [[(h, .inr (7, [.ref aE, .ref qi, .ref qh, .ref qn, .ref g9, .ref aN]))], [(qi, .inl (cI, 8, .inl (lI G.1)))], [(qh, .inl (cI, 8, .inl G.2.1))], [(qn, .inl (cI, 8, .inl (cN G.2.2.2.2)))], [(g9, .inl (cG, 12, .inr (.inr (.inr (.inr (go rr))))))], gd cI 8 rr (gN G.2.2.1), wN]) 7 rfl [6] [0, 1, 2, 3, 4, 5] (by decide) (wd_1 _)) hK hP hD hS hA rfl hl.1 rfl (Nat.le_of_ble_eq_true rfl) ⟨(show 0 + 0 ≤ 0 by omega), (show 0 + 0 ≤ 0 by omega)⟩ d_Groups_hasRoomForCount_4 (fun rhr1 H locs hr1 hP hD hS => ?_)
  subst hr1
  refine lv_sipush (v := nI 4000) hx hb d_Groups_hasRoomForCount_7 (by decide) ?_
  refine ri_icmp_lt hx hb (by omega) (by omega) d_Groups_hasRoomForCount_10 (tgt := 23) (by decide) (fun h1 => ?_) (fun h1 => ?_)
  · refine lv_iconst (v := nI 1) hx hb d_Groups_hasRoomForCount_23 (by decide) ?_
    refine lv_goto hx hb d_Groups_hasRoomForCount_24 (tgt := 28) (by decide) ?_
    exact ct_zret (b := true) hQ hx hb hr hlk hP hD hS hK (by omega) (by omega) d_Groups_hasRoomForCount_28 (⟨congrArg bI (bP_t (by first | exact Or.inl h1 | exact Or.inr (bP_no h2))).symm, rfl⟩)
  · refine lv_aload_n hx hb d_Groups_hasRoomForCount_13 rfl (lv_at hl 0 rfl) ?_
    refine lv_iload_n hx hb d_Groups_hasRoomForCount_14 rfl (lv_at hl 1 rfl) ?_
    refine lv_iload_n hx hb d_Groups_hasRoomForCount_15 rfl (lv_at hl 2 rfl) ?_
    refine lv_iload_n hx hb d_Groups_hasRoomForCount_16 rfl (lv_at hl 3 rfl) ?_
    refine ct_rdV (C := R_Groups) (ci := 7) (As := [.int (nI e9), .int (nI g), .int (nI nx)]) (rest := []) ⟨hx, hb, hml, hown, ht⟩ (k_Groups_needsNote l D cI cZ cJ cG hR9 e9 g nx he hg hrc hnx hin) (cb_V ht kc_Groups_needsNote kl_Groups_43 kn_Groups ki_Groups_needsNote ks_Groups_needsNote hd_Groups_needsNote ⟨Nat.le_of_ble_eq_true rfl, Nat.le_of_ble_eq_true rfl⟩) (List.mem_of_getElem? (i := 0) rfl) rfl rfl (pm_all _) hK hP hD hS hA rfl hl.1 rfl (Nat.le_of_ble_eq_true rfl) ⟨(show 0 + 0 ≤ 0 by omega), (show 0 + 0 ≤ 0 by omega)⟩ d_Groups_hasRoomForCount_17 (fun rhr3 H locs hr3 hP hD hS => ?_)
    subst hr3
    refine ri_ifneB hx hb d_Groups_hasRoomForCount_20 (tgt := 27) (by decide) (fun h2 => ?_) (fun h2 => ?_)
    · refine lv_iconst (v := nI 0) hx hb d_Groups_hasRoomForCount_27 (by decide) ?_
      exact ct_zret (b := false) hQ hx hb hr hlk hP hD hS hK (by omega) (by omega) d_Groups_hasRoomForCount_28 (⟨congrArg bI (bP_f (fun z => z.elim (by omega) (fun y => y (bP_of h2)))).symm, rfl⟩)
    · refine lv_iconst (v := nI 1) hx hb d_Groups_hasRoomForCount_23 (by decide) ?_
      refine lv_goto hx hb d_Groups_hasRoomForCount_24 (tgt := 28) (by decide) ?_
      exact ct_zret (b := true) hQ hx hb hr hlk hP hD hS hK (by omega) (by omega) d_Groups_hasRoomForCount_28 (⟨congrArg bI (bP_t (by first | exact Or.inl h1 | exact Or.inr (bP_no h2))).symm, rfl⟩)
