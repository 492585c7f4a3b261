/-! BitNet: isEdge, ingress. -/
def bm_isE (S : bm_S) (x : Int32) : Bool := rg 0 12 x && decide (bm_em (S.eb x.toNatClampNeg) ≠ 0)
theorem isE_n {S : bm_S} {r : Nat} (hr : r < 12) : bm_isE S (nI r) = decide (bm_em (S.eb r) ≠ 0) := by
  unfold bm_isE
  rw [rg_t12 hr, nI_clamp (show r < 2 ^ 31 by omega), Bool.true_and]
theorem isE_f {S : bm_S} {x : Int32} (h : rg 0 12 x = false) : bm_isE S x = false := by
  unfold bm_isE
  rw [h, Bool.false_and]
theorem isE_of {S : bm_S} {x : Int32} (h : bm_isE S x = true) : ∃ r, r < 12 ∧ x = nI r ∧ bm_em (S.eb r) ≠ 0 := by
  have h1 : rg 0 12 x = true := by
    cases h2 : rg 0 12 x with
    | true => rfl
    | false => rw [isE_f h2] at h; cases h
  obtain ⟨r, hr, rfl⟩ := rg_n (k := 12) h1
  rw [isE_n hr] at h
  exact ⟨r, hr, rfl, of_decide_eq_true h⟩
/-- what the methods ask of the groups' numbers -/
def bm_gi (S : bm_S) : Prop := (∀ a b, S.G.2.2.1 a b ≤ 100) ∧ (∀ g, S.G.2.2.2.2 g < 2147483648) ∧ (∀ a b, S.G.1 a = some b → b < 12) ∧ S.G.2.2.2.1.1 ≤ 50000
def bm_idle (S : bm_S) (g : Nat) : Prop := (∀ r, r < 12 → S.G.2.2.1 r g = 0) ∧ S.G.2.2.2.2 g = 0
def bm_ingr (g e : Nat) (S : bm_S) : bm_S := (S.eb, S.tk, S.es, S.lk, S.kn, S.T, S.lost, S.D, bm_appoint g e S.G)
set_option maxHeartbeats 800000 in
set_option maxRecDepth 100000 in
theorem k_Net_isEdge (l : Launch) (D : va_G) (cI cZ cJ cG : ClassId) {h : Nat} {S : bm_S} {ws : va_W} (hR : nt_R cI cZ cG h S ws) (x : Int32) : ct_I l D kls (ty4 cI cZ cJ cG) y_Net_isEdge ws_Net_isEdge (rm_ 1 21 0 0) [.ref h, .int x] (ws) (fun z u => z = bI (bm_isE S x) ∧ u = ws) 0 0 := by
  obtain ⟨aE, aL, aS, aK, aR, aD, aG, aM, aP, aC, wE, wL, wS, wM, wR, wD, wG, rfl, kE, kL, kS, kM, kR, kD, kG⟩ := hR
  obtain ⟨fsE, mE⟩ := kE.mem
  obtain ⟨fsL, mL⟩ := kL.mem
  obtain ⟨fsS, mS⟩ := kS.mem
  obtain ⟨fsR, mR⟩ := kR.mem
  obtain ⟨fsD, mD⟩ := kD.mem
  obtain ⟨fsG, mG⟩ := kG.mem
  refine ct_enterI (cc := b_Net_isEdge) (maxL := 2) (ret := (some .boolean)) (by decide +kernel) (Nat.le_of_ble_eq_true rfl) ?_
  intro p e s m args below meth c hx hb hml hr ht hown hlk hnm A Q hA hK hP hD hQ ls hl
  have hown : s.vm.findClass R_Net = some m.cls := hown
  have hS : va_S A s.heap s.heap [] := va_S.rf
  have hl : lv_has ls 2 [(0, .ref h), (1, .int x)] := hl
  refine lv_iload_n hx hb d_Net_isEdge_0 rfl (lv_at hl 1 rfl) ?_
  refine ct_rdS (As := [.int x]) (rest := []) ⟨hx, hb, hml, hown, ht⟩ (k_Net_isRouter l D cI cZ cJ cG x) (cb_S ht kc_Net_isRouter kl_Net_66 kn_Net ki_Net_isRouter hd_Net_isRouter ⟨Nat.le_of_ble_eq_true rfl, Nat.le_of_ble_eq_true rfl⟩) (wd_ct (Bs := [[(h, .inr (8, [.ref aE, .ref aL, .ref aS, .ref aK, .ref aR, .ref aD, .ref aG]))], [(aK, .inr (4, [.ref aL, .ref aS, .ref aM, .int S.lost]))], wE, wL, wS, wM, wR, wD, wG]) 9 rfl [] [0, 1, 2, 3, 4, 5, 6, 7, 8] (by decide) rfl) hK hP hD hS hA rfl hl.1 rfl (Nat.le_of_ble_eq_true rfl) ⟨(show 0 + 0 ≤ 0 by omega), (show 0 + 0 ≤ 0 by omega)⟩ d_Net_isEdge_1 (fun rhr1 H locs hr1 hP hD hS => ?_)
  subst hr1
  refine ri_ifeqB hx hb d_Net_isEdge_4 (tgt := 22) (by decide) (fun h4 => ?_) (fun h4 => ?_)
  · refine lv_iconst (v := nI 0) hx hb d_Net_isEdge_22 (by decide) ?_
    exact ct_zret (b := false) hQ hx hb hr hlk hP hD hS hK (by omega) (by omega) d_Net_isEdge_23 (⟨congrArg bI (by first | exact (isE_f h4).symm | exact ((isE_n hr9).trans h15).symm), rfl⟩)
  · obtain ⟨r, hr9, rfl⟩ := rg_n (k := 12) h4
    have hl : lv_has ls 2 [(0, .ref h), (1, .int (nI r))] := hl
    refine lv_aload_n hx hb d_Net_isEdge_7 rfl (lv_at hl 0 rfl) ?_
    refine va_get (D := D) (ci := 8) (v := .ref aE) (C := R_Net) (T := T_Net) (N := 7) hx hb ht in_Net hown hK hP 0 rfl rfl 0 (by decide) (ht _ kl_Net_10) (fun _ h9 => h9) rfl d_Net_isEdge_8 ?_
    refine lv_iload_n hx hb d_Net_isEdge_11 rfl (lv_at hl 1 rfl) ?_
    refine ct_rdV (C := R_Edges) (ci := 1) (As := [.int (nI r)]) (rest := []) ⟨hx, hb, hml, hown, ht⟩ (k_Edges_isEdge l D cI cZ cJ cG kE r hr9) (cb_V ht kc_Edges_isEdge kl_Net_74 kn_Edges ki_Edges_isEdge ks_Edges_isEdge hd_Edges_isEdge ⟨Nat.le_of_ble_eq_true rfl, Nat.le_of_ble_eq_true rfl⟩) (wd_mem 2 rfl mE) rfl rfl (wd_ct (Bs := [[(h, .inr (8, [.ref aE, .ref aL, .ref aS, .ref aK, .ref aR, .ref aD, .ref aG]))], [(aK, .inr (4, [.ref aL, .ref aS, .ref aM, .int S.lost]))], wE, wL, wS, wM, wR, wD, wG]) 9 rfl [2] [0, 1, 3, 4, 5, 6, 7, 8] (by decide) (wd_1 _)) hK hP hD hS hA rfl hl.1 rfl (Nat.le_of_ble_eq_true rfl) ⟨(show 0 + 0 ≤ 0 by omega), (show 0 + 0 ≤ 0 by omega)⟩ d_Net_isEdge_12 (fun rhr3 H locs hr3 hP hD hS => ?_)
    subst hr3
    refine ri_ifeqB hx hb d_Net_isEdge_15 (tgt := 22) (by decide) (fun h15 => ?_) (fun h15 => ?_)
    · refine lv_iconst (v := nI 0) hx hb d_Net_isEdge_22 (by decide) ?_
      exact ct_zret (b := false) hQ hx hb hr hlk hP hD hS hK (by omega) (by omega) d_Net_isEdge_23 (⟨congrArg bI (by first | exact (isE_f h4).symm | exact ((isE_n hr9).trans h15).symm), rfl⟩)
    · refine lv_iconst (v := nI 1) hx hb d_Net_isEdge_18 (by decide) ?_
      refine lv_goto hx hb d_Net_isEdge_19 (tgt := 23) (by decide) ?_
      exact ct_zret (b := true) hQ hx hb hr hlk hP hD hS hK (by omega) (by omega) d_Net_isEdge_23 (⟨congrArg bI ((isE_n hr9).trans h15).symm, rfl⟩)
set_option maxHeartbeats 800000 in
set_option maxRecDepth 100000 in
theorem k_Net_ingress (l : Launch) (D : va_G) (cI cZ cJ cG : ClassId) {h : Nat} {S : bm_S} {ws : va_W} (hR : nt_R cI cZ cG h S ws) (hg9 : bm_gi S) (g e9 : Nat) (hg : g < 8) (he : e9 < 12) (hee : bm_em (S.eb e9) ≠ 0) (hid : bm_idle S g) : ct_V l D kls (ty4 cI cZ cJ cG) y_Net_ingress ws_Net_ingress (rm_ 2 42 0 0) [.ref h, .int (nI g), .int (nI e9)] (ws) (fun u => nt_R cI cZ cG h (bm_ingr g e9 S) u) 0 0 := by
  have hR9 := hR
  obtain ⟨aE, aL, aS, aK, aR, aD, aG, aM, aP, aC, wE, wL, wS, wM, wR, wD, wG, rfl, kE, kL, kS, kM, kR, kD, kG⟩ := hR
  obtain ⟨fsE, mE⟩ := kE.mem
  obtain ⟨fsL, mL⟩ := kL.mem
  obtain ⟨fsS, mS⟩ := kS.mem
  obtain ⟨fsR, mR⟩ := kR.mem
  obtain ⟨fsD, mD⟩ := kD.mem
  obtain ⟨fsG, mG⟩ := kG.mem
  refine ct_enterV (cc := b_Net_ingress) (maxL := 3) (ret := none) (by decide +kernel) (Nat.le_of_ble_eq_true rfl) ?_
  intro p e s m args below meth c hx hb hml hr ht hown hlk hnm A Q hA hK hP hD hQ ls hl
  have hown : s.vm.findClass R_Net = some m.cls := hown
  have hS : va_S A s.heap s.heap [] := va_S.rf
  have hl : lv_has ls 3 [(0, .ref h), (1, .int (nI g)), (2, .int (nI e9))] := hl
  refine lv_iload_n hx hb d_Net_ingress_0 rfl (lv_at hl 1 rfl) ?_
  refine ct_rdS (As := [.int (nI g)]) (rest := []) ⟨hx, hb, hml, hown, ht⟩ (k_Net_isGroup l D cI cZ cJ cG (nI g)) (cb_S ht kc_Net_isGroup kl_Net_159 kn_Net ki_Net_isGroup hd_Net_isGroup ⟨Nat.le_of_ble_eq_true rfl, Nat.le_of_ble_eq_true rfl⟩) (wd_ct (Bs := [[(h, .inr (8, [.ref aE, .ref aL, .ref aS, .ref aK, .ref aR, .ref aD, .ref aG]))], [(aK, .inr (4, [.ref aL, .ref aS, .ref aM, .int S.lost]))], wE, wL, wS, wM, wR, wD, wG]) 9 rfl [] [0, 1, 2, 3, 4, 5, 6, 7, 8] (by decide) rfl) hK hP hD hS hA rfl hl.1 rfl (Nat.le_of_ble_eq_true rfl) ⟨(show 0 + 0 ≤ 0 by omega), (show 0 + 0 ≤ 0 by omega)⟩ d_Net_ingress_1 (fun rhr1 H locs hr1 hP hD hS => ?_)
  subst hr1
  refine W.eq (g2 := F0 m 4 ls [.int (bI true)]) (congrArg (fun z => F0 m 4 ls (.int z :: [])) (congrArg bI (rg_t8 hg))) ?_
  refine ri_ifeqB hx hb d_Net_ingress_4 (tgt := 30) (by decide) (fun h2 => ?_) (fun h2 => ?_)
  · exact absurd h2 (fun z => by cases z)
  · refine lv_aload_n hx hb d_Net_ingress_7 rfl (lv_at hl 0 rfl) ?_
    refine lv_iload_n hx hb d_Net_ingress_8 rfl (lv_at hl 2 rfl) ?_
    refine ct_rdV (C := R_Net) (ci := 8) (As := [.int (nI e9)]) (rest := []) ⟨hx, hb, hml, hown, ht⟩ (k_Net_isEdge l D cI cZ cJ cG hR9 (nI e9)) (cb_V ht kc_Net_isEdge kl_Net_162 kn_Net ki_Net_isEdge ks_Net_isEdge hd_Net_isEdge ⟨Nat.le_of_ble_eq_true rfl, Nat.le_of_ble_eq_true rfl⟩) (List.mem_of_getElem? (i := 0) rfl) rfl rfl (wd_ct (Bs := [[(h, .inr (8, [.ref aE, .ref aL, .ref aS, .ref aK, .ref aR, .ref aD, .ref aG]))], [(aK, .inr (4, [.ref aL, .ref aS, .ref aM, .int S.lost]))], wE, wL, wS, wM, wR, wD, wG]) 9 rfl [0, 1, 2, 3, 4, 5, 6, 7, 8] [] (by decide) rfl) hK hP hD hS hA rfl hl.1 rfl (Nat.le_of_ble_eq_true rfl) ⟨(show 0 + 0 ≤ 0 by omega), (show 0 + 0 ≤ 0 by omega)⟩ d_Net_ingress_9 (fun rhr3 H locs hr3 hP hD hS => ?_)
    subst hr3
    refine W.eq (g2 := F0 m 12 ls [.int (bI true)]) (congrArg (fun z => F0 m 12 ls (.int z :: [])) (congrArg bI ((isE_n he).trans (decide_eq_true hee)))) ?_
    refine ri_ifeqB hx hb d_Net_ingress_12 (tgt := 30) (by decide) (fun h4 => ?_) (fun h4 => ?_)
    · exact absurd h4 (fun z => by cases z)
    · refine lv_aload_n hx hb d_Net_ingress_15 rfl (lv_at hl 0 rfl) ?_
      refine va_get (D := D) (ci := 8) (v := .ref aG) (C := R_Net) (T := T_Net) (N := 7) hx hb ht in_Net hown hK hP 0 rfl rfl 6 (by decide) (ht _ kl_Net_62) (fun _ h9 => h9) rfl d_Net_ingress_16 ?_
      refine lv_iload_n hx hb d_Net_ingress_19 rfl (lv_at hl 1 rfl) ?_
      refine ct_rdV (C := R_Groups) (ci := 7) (As := [.int (nI g)]) (rest := []) ⟨hx, hb, hml, hown, ht⟩ (k_Groups_isIdle l D cI cZ cJ cG kG g hg (fun a b => Nat.lt_of_le_of_lt (hg9.1 a b) (by decide)) (hg9.2.1 g)) (cb_V ht kc_Groups_isIdle kl_Net_163 kn_Groups ki_Groups_isIdle ks_Groups_isIdle hd_Groups_isIdle ⟨Nat.le_of_ble_eq_true rfl, Nat.le_of_ble_eq_true rfl⟩) (wd_mem 8 rfl mG) rfl rfl (wd_ct (Bs := [[(h, .inr (8, [.ref aE, .ref aL, .ref aS, .ref aK, .ref aR, .ref aD, .ref aG]))], [(aK, .inr (4, [.ref aL, .ref aS, .ref aM, .int S.lost]))], wE, wL, wS, wM, wR, wD, wG]) 9 rfl [8] [0, 1, 2, 3, 4, 5, 6, 7] (by decide) (wd_1 _)) hK hP hD hS hA rfl hl.1 rfl (Nat.le_of_ble_eq_true rfl) ⟨(show 0 + 0 ≤ 0 by omega), (show 0 + 0 ≤ 0 by omega)⟩ d_Net_ingress_20 (fun rhr5 H locs hr5 hP hD hS => ?_)
      subst hr5
      refine W.eq (g2 := F0 m 23 ls [.int (bI true)]) (congrArg (fun z => F0 m 23 ls (.int z :: [])) (congrArg bI (bP_t hid))) ?_
      refine ri_ifeqB hx hb d_Net_ingress_23 (tgt := 30) (by decide) (fun h6 => ?_) (fun h6 => ?_)
      · exact absurd h6 (fun z => by cases z)
      · refine lv_iconst (v := nI 1) hx hb d_Net_ingress_26 (by decide) ?_
        refine lv_goto hx hb d_Net_ingress_27 (tgt := 31) (by decide) ?_
        refine W.eq (g2 := F0 m 31 ls [.int (bI true)]) (congrArg (fun z => F0 m 31 ls (.int z :: [])) (rfl)) ?_
        refine ct_callSV (As := [.int (bI true)]) (rest := []) ⟨hx, hb, hml, hown, ht⟩ (k_Net_demand l D cI cZ cJ cG) (cb_S ht kc_Net_demand kl_Net_70 kn_Net ki_Net_demand hd_Net_demand ⟨Nat.le_of_ble_eq_true rfl, Nat.le_of_ble_eq_true rfl⟩) (wd_ct (Bs := [[(h, .inr (8, [.ref aE, .ref aL, .ref aS, .ref aK, .ref aR, .ref aD, .ref aG]))], [(aK, .inr (4, [.ref aL, .ref aS, .ref aM, .int S.lost]))], wE, wL, wS, wM, wR, wD, wG]) 9 rfl [] [0, 1, 2, 3, 4, 5, 6, 7, 8] (by decide) rfl) hK hP hD hS hA rfl hl.1 rfl (Nat.le_of_ble_eq_true rfl) ⟨(show 0 + 0 ≤ 0 by omega), (show 0 + 0 ≤ 0 by omega)⟩ d_Net_ingress_31 (fun u7 H locs hu7 hP hD hS => ?_)
        subst hu7
        refine W.widen (k := 0) (n := 0) (Nat.le_refl _) (Nat.le_refl _) ?_
        have hP := wd_nP (N := []) rfl 9 rfl [0, 1, 2, 3, 4, 5, 6, 7, 8] (by decide) hP
        have hD := wd_nD (N := []) rfl 9 rfl [0, 1, 2, 3, 4, 5, 6, 7, 8] (by decide) hD
        have hP : va_P D kls (List.flatten [[(h, .inr (8, [.ref aE, .ref aL, .ref aS, .ref aK, .ref aR, .ref aD, .ref aG]))], [(aK, .inr (4, [.ref aL, .ref aS, .ref aM, .int S.lost]))], wE, wL, wS, wM, wR, wD, wG]) H := hP
        have hD : va_D A (List.flatten [[(h, .inr (8, [.ref aE, .ref aL, .ref aS, .ref aK, .ref aR, .ref aD, .ref aG]))], [(aK, .inr (4, [.ref aL, .ref aS, .ref aM, .int S.lost]))], wE, wL, wS, wM, wR, wD, wG]) := hD
        refine W.eq (g2 := F0 m 34 ls []) rfl ?_
        refine lv_aload_n hx hb d_Net_ingress_34 rfl (lv_at hl 0 rfl) ?_
        refine va_get (D := D) (ci := 8) (v := .ref aG) (C := R_Net) (T := T_Net) (N := 7) hx hb ht in_Net hown hK hP 0 rfl rfl 6 (by decide) (ht _ kl_Net_62) (fun _ h9 => h9) rfl d_Net_ingress_35 ?_
        refine lv_iload_n hx hb d_Net_ingress_38 rfl (lv_at hl 1 rfl) ?_
        refine lv_iload_n hx hb d_Net_ingress_39 rfl (lv_at hl 2 rfl) ?_
        refine ct_callVV (C := R_Groups) (ci := 7) (As := [.int (nI g), .int (nI e9)]) (rest := []) ⟨hx, hb, hml, hown, ht⟩ (k_Groups_appoint l D cI cZ cJ cG kG g e9 hg) (cb_V ht kc_Groups_appoint kl_Net_166 kn_Groups ki_Groups_appoint ks_Groups_appoint hd_Groups_appoint ⟨Nat.le_of_ble_eq_true rfl, Nat.le_of_ble_eq_true rfl⟩) (wd_mem 8 rfl mG) rfl rfl (wd_ct (Bs := [[(h, .inr (8, [.ref aE, .ref aL, .ref aS, .ref aK, .ref aR, .ref aD, .ref aG]))], [(aK, .inr (4, [.ref aL, .ref aS, .ref aM, .int S.lost]))], wE, wL, wS, wM, wR, wD, wG]) 9 rfl [8] [0, 1, 2, 3, 4, 5, 6, 7] (by decide) (wd_1 _)) hK hP hD hS hA rfl hl.1 rfl (Nat.le_of_ble_eq_true rfl) ⟨(show 0 + 0 ≤ 0 by omega), (show 0 + 0 ≤ 0 by omega)⟩ d_Net_ingress_40 (fun u8 H locs hu8 hP hD hS => ?_)
        have kG2 := hu8
        refine W.widen (k := 0) (n := 0) (Nat.le_refl _) (Nat.le_refl _) ?_
        have hP := wd_nP (N := [u8]) (wd_1 _) 9 rfl [1, 2, 3, 4, 5, 6, 7, 8, 0] (by decide) hP
        have hD := wd_nD (N := [u8]) (wd_1 _) 9 rfl [1, 2, 3, 4, 5, 6, 7, 8, 0] (by decide) hD
        have hP : va_P D kls (List.flatten [[(h, .inr (8, [.ref aE, .ref aL, .ref aS, .ref aK, .ref aR, .ref aD, .ref aG]))], [(aK, .inr (4, [.ref aL, .ref aS, .ref aM, .int S.lost]))], wE, wL, wS, wM, wR, wD, u8]) H := hP
        have hD : va_D A (List.flatten [[(h, .inr (8, [.ref aE, .ref aL, .ref aS, .ref aK, .ref aR, .ref aD, .ref aG]))], [(aK, .inr (4, [.ref aL, .ref aS, .ref aM, .int S.lost]))], wE, wL, wS, wM, wR, wD, u8]) := hD
        refine W.eq (g2 := F0 m 43 ls []) rfl ?_
        exact ct_vret hQ hx hb hr hlk hP hD hS hK (by omega) (by omega) d_Net_ingress_43 (⟨aE, aL, aS, aK, aR, aD, aG, aM, aP, aC, wE, wL, wS, wM, wR, wD, u8, rfl, kE, kL, kS, kM, kR, kD, kG2⟩)
set_option maxHeartbeats 800000 in
set_option maxRecDepth 100000 in
theorem x_Net_ingress (l : Launch) (s0 : State) (A0 : Array Value) (h0 : fz_0 A0 s0) (hfl : ∀ e : Env, l.admits e → e.platform.stackTraces = false) (D : va_G) (cI cZ cJ cG : ClassId) {h : Nat} {S : bm_S} {ws : va_W} (hR : nt_R cI cZ cG h S ws) (hg9 : bm_gi S) (x y : Int32) (hno : ¬ ∃ g, g < 8 ∧ x = nI g ∧ bm_isE S y = true ∧ bm_idle S g) : ct_X l s0 D kls (ty4 cI cZ cJ cG) y_Net_ingress ws_Net_ingress (rm_ 7 102 1 6) [.ref h, .int x, .int y] (ws) "java/lang/IllegalArgumentException" (fun u => nt_R cI cZ cG h S u) 1 6 := by
  have hR9 := hR
  obtain ⟨aE, aL, aS, aK, aR, aD, aG, aM, aP, aC, wE, wL, wS, wM, wR, wD, wG, rfl, kE, kL, kS, kM, kR, kD, kG⟩ := hR
  obtain ⟨fsE, mE⟩ := kE.mem
  obtain ⟨fsL, mL⟩ := kL.mem
  obtain ⟨fsS, mS⟩ := kS.mem
  obtain ⟨fsR, mR⟩ := kR.mem
  obtain ⟨fsD, mD⟩ := kD.mem
  obtain ⟨fsG, mG⟩ := kG.mem
  refine ct_enterX (cc := b_Net_ingress) (maxL := 3) (ret := none) (by decide +kernel) (Nat.le_of_ble_eq_true rfl) ?_
  intro p e s m args below meth c hx hb hml hr ht hown hlk hnm A Q hA hK hP hD hQ ls hl hz
  have hown : s.vm.findClass R_Net = some m.cls := hown
  have hS : va_S A s.heap s.heap [] := va_S.rf
  have hl : lv_has ls 3 [(0, .ref h), (1, .int x), (2, .int y)] := hl
  refine lv_iload_n hx hb d_Net_ingress_0 rfl (lv_at hl 1 rfl) ?_
  refine ct_rdS (As := [.int x]) (rest := []) ⟨hx, hb, hml, hown, ht⟩ (k_Net_isGroup l D cI cZ cJ cG x) (cb_S ht kc_Net_isGroup kl_Net_159 kn_Net ki_Net_isGroup hd_Net_isGroup ⟨Nat.le_of_ble_eq_true rfl, Nat.le_of_ble_eq_true rfl⟩) (wd_ct (Bs := [[(h, .inr (8, [.ref aE, .ref aL, .ref aS, .ref aK, .ref aR, .ref aD, .ref aG]))], [(aK, .inr (4, [.ref aL, .ref aS, .ref aM, .int S.lost]))], wE, wL, wS, wM, wR, wD, wG]) 9 rfl [] [0, 1, 2, 3, 4, 5, 6, 7, 8] (by decide) rfl) hK hP hD hS hA rfl hl.1 rfl (Nat.le_of_ble_eq_true rfl) ⟨(show 0 + 0 ≤ 1 by omega), (show 0 + 0 ≤ 6 by omega)⟩ d_Net_ingress_1 (fun rhr1 H locs hr1 hP hD hS => ?_)
  subst hr1
  refine ri_ifeqB hx hb d_Net_ingress_4 (tgt := 30) (by decide) (fun h4 => ?_) (fun h4 => ?_)
  · refine lv_iconst (v := nI 0) hx hb d_Net_ingress_30 (by decide) ?_
    refine W.eq (g2 := F0 m 31 ls [.int (bI false)]) (congrArg (fun z => F0 m 31 ls (.int z :: [])) (rfl)) ?_
    exact ct_throwS (As := [.int (bI false)]) (rest := []) hz hQ hlk ⟨hx, hb, hml, hown, ht⟩ (x_Net_demand l s0 A0 h0 hfl D cI cZ cJ cG) (cb_S ht kc_Net_demand kl_Net_70 kn_Net ki_Net_demand hd_Net_demand ⟨Nat.le_of_ble_eq_true rfl, Nat.le_of_ble_eq_true rfl⟩) (wd_ct (Bs := [[(h, .inr (8, [.ref aE, .ref aL, .ref aS, .ref aK, .ref aR, .ref aD, .ref aG]))], [(aK, .inr (4, [.ref aL, .ref aS, .ref aM, .int S.lost]))], wE, wL, wS, wM, wR, wD, wG]) 9 rfl [] [0, 1, 2, 3, 4, 5, 6, 7, 8] (by decide) rfl) hK hP hD hS hA rfl hl.1 rfl (Nat.le_of_ble_eq_true rfl) ⟨by decide, by decide⟩ ⟨by decide, by decide⟩ d_Net_ingress_31 (fun u hu => by subst hu; exact ⟨aE, aL, aS, aK, aR, aD, aG, aM, aP, aC, wE, wL, wS, wM, wR, wD, wG, rfl, kE, kL, kS, kM, kR, kD, kG⟩)
  · refine lv_aload_n hx hb d_Net_ingress_7 rfl (lv_at hl 0 rfl) ?_
    refine lv_iload_n hx hb d_Net_ingress_8 rfl (lv_at hl 2 rfl) ?_
    refine ct_rdV (C := R_Net) (ci := 8) (As := [.int y]) (rest := []) ⟨hx, hb, hml, hown, ht⟩ (k_Net_isEdge l D cI cZ cJ cG hR9 (y)) (cb_V ht kc_Net_isEdge kl_Net_162 kn_Net ki_Net_isEdge ks_Net_isEdge hd_Net_isEdge ⟨Nat.le_of_ble_eq_true rfl, Nat.le_of_ble_eq_true rfl⟩) (List.mem_of_getElem? (i := 0) rfl) rfl rfl (wd_ct (Bs := [[(h, .inr (8, [.ref aE, .ref aL, .ref aS, .ref aK, .ref aR, .ref aD, .ref aG]))], [(aK, .inr (4, [.ref aL, .ref aS, .ref aM, .int S.lost]))], wE, wL, wS, wM, wR, wD, wG]) 9 rfl [0, 1, 2, 3, 4, 5, 6, 7, 8] [] (by decide) rfl) hK hP hD hS hA rfl hl.1 rfl (Nat.le_of_ble_eq_true rfl) ⟨(show 0 + 0 ≤ 1 by omega), (show 0 + 0 ≤ 6 by omega)⟩ d_Net_ingress_9 (fun rhr3 H locs hr3 hP hD hS => ?_)
    subst hr3
    refine ri_ifeqB hx hb d_Net_ingress_12 (tgt := 30) (by decide) (fun h12 => ?_) (fun h12 => ?_)
    · refine lv_iconst (v := nI 0) hx hb d_Net_ingress_30 (by decide) ?_
      refine W.eq (g2 := F0 m 31 ls [.int (bI false)]) (congrArg (fun z => F0 m 31 ls (.int z :: [])) (rfl)) ?_
      exact ct_throwS (As := [.int (bI false)]) (rest := []) hz hQ hlk ⟨hx, hb, hml, hown, ht⟩ (x_Net_demand l s0 A0 h0 hfl D cI cZ cJ cG) (cb_S ht kc_Net_demand kl_Net_70 kn_Net ki_Net_demand hd_Net_demand ⟨Nat.le_of_ble_eq_true rfl, Nat.le_of_ble_eq_true rfl⟩) (wd_ct (Bs := [[(h, .inr (8, [.ref aE, .ref aL, .ref aS, .ref aK, .ref aR, .ref aD, .ref aG]))], [(aK, .inr (4, [.ref aL, .ref aS, .ref aM, .int S.lost]))], wE, wL, wS, wM, wR, wD, wG]) 9 rfl [] [0, 1, 2, 3, 4, 5, 6, 7, 8] (by decide) rfl) hK hP hD hS hA rfl hl.1 rfl (Nat.le_of_ble_eq_true rfl) ⟨by decide, by decide⟩ ⟨by decide, by decide⟩ d_Net_ingress_31 (fun u hu => by subst hu; exact ⟨aE, aL, aS, aK, aR, aD, aG, aM, aP, aC, wE, wL, wS, wM, wR, wD, wG, rfl, kE, kL, kS, kM, kR, kD, kG⟩)
    · obtain ⟨g, hg, rfl⟩ := rg_n (k := 8) h4
      have hl : lv_has ls 3 [(0, .ref h), (1, .int (nI g)), (2, .int y)] := hl
      refine lv_aload_n hx hb d_Net_ingress_15 rfl (lv_at hl 0 rfl) ?_
      refine va_get (D := D) (ci := 8) (v := .ref aG) (C := R_Net) (T := T_Net) (N := 7) hx hb ht in_Net hown hK hP 0 rfl rfl 6 (by decide) (ht _ kl_Net_62) (fun _ h9 => h9) rfl d_Net_ingress_16 ?_
      refine lv_iload_n hx hb d_Net_ingress_19 rfl (lv_at hl 1 rfl) ?_
      refine ct_rdV (C := R_Groups) (ci := 7) (As := [.int (nI g)]) (rest := []) ⟨hx, hb, hml, hown, ht⟩ (k_Groups_isIdle l D cI cZ cJ cG kG g hg (fun a b => Nat.lt_of_le_of_lt (hg9.1 a b) (by decide)) (hg9.2.1 g)) (cb_V ht kc_Groups_isIdle kl_Net_163 kn_Groups ki_Groups_isIdle ks_Groups_isIdle hd_Groups_isIdle ⟨Nat.le_of_ble_eq_true rfl, Nat.le_of_ble_eq_true rfl⟩) (wd_mem 8 rfl mG) rfl rfl (wd_ct (Bs := [[(h, .inr (8, [.ref aE, .ref aL, .ref aS, .ref aK, .ref aR, .ref aD, .ref aG]))], [(aK, .inr (4, [.ref aL, .ref aS, .ref aM, .int S.lost]))], wE, wL, wS, wM, wR, wD, wG]) 9 rfl [8] [0, 1, 2, 3, 4, 5, 6, 7] (by decide) (wd_1 _)) hK hP hD hS hA rfl hl.1 rfl (Nat.le_of_ble_eq_true rfl) ⟨(show 0 + 0 ≤ 1 by omega), (show 0 + 0 ≤ 6 by omega)⟩ d_Net_ingress_20 (fun rhr5 H locs hr5 hP hD hS => ?_)
      subst hr5
      refine ri_ifeqB hx hb d_Net_ingress_23 (tgt := 30) (by decide) (fun h23 => ?_) (fun h23 => ?_)
      · refine lv_iconst (v := nI 0) hx hb d_Net_ingress_30 (by decide) ?_
        refine W.eq (g2 := F0 m 31 ls [.int (bI false)]) (congrArg (fun z => F0 m 31 ls (.int z :: [])) (rfl)) ?_
        exact ct_throwS (As := [.int (bI false)]) (rest := []) hz hQ hlk ⟨hx, hb, hml, hown, ht⟩ (x_Net_demand l s0 A0 h0 hfl D cI cZ cJ cG) (cb_S ht kc_Net_demand kl_Net_70 kn_Net ki_Net_demand hd_Net_demand ⟨Nat.le_of_ble_eq_true rfl, Nat.le_of_ble_eq_true rfl⟩) (wd_ct (Bs := [[(h, .inr (8, [.ref aE, .ref aL, .ref aS, .ref aK, .ref aR, .ref aD, .ref aG]))], [(aK, .inr (4, [.ref aL, .ref aS, .ref aM, .int S.lost]))], wE, wL, wS, wM, wR, wD, wG]) 9 rfl [] [0, 1, 2, 3, 4, 5, 6, 7, 8] (by decide) rfl) hK hP hD hS hA rfl hl.1 rfl (Nat.le_of_ble_eq_true rfl) ⟨by decide, by decide⟩ ⟨by decide, by decide⟩ d_Net_ingress_31 (fun u hu => by subst hu; exact ⟨aE, aL, aS, aK, aR, aD, aG, aM, aP, aC, wE, wL, wS, wM, wR, wD, wG, rfl, kE, kL, kS, kM, kR, kD, kG⟩)
      · exact absurd ⟨g, hg, rfl, h12, bP_of h23⟩ hno
