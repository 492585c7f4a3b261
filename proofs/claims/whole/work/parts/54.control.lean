/-! Control: contracts of its methods. -/
theorem rw_R.n {cI : ClassId} {w c n h : Nat} {g : Nat → Nat → Int32} {ws : va_W} (hR : rw_R cI w c n g h ws) : n ≤ c ∧ c ≤ 100000 := by
  obtain ⟨q, a, f, rfl, h1, h2, h3, h4, h5, h6⟩ := hR
  exact ⟨h2, h5⟩
theorem bm_oI_eq {j : Nat} {ex : Option Nat} (hj : j < 12) (hex : ∀ e, ex = some e → e < 12) : nI j = bm_oI ex ↔ some j = ex := by
  cases ex with
  | none =>
    constructor
    · intro h
      exfalso
      have h2 := congrArg Int32.toInt h
      rw [nI_toInt (show j < 2 ^ 31 by omega)] at h2
      have h3 : (bm_oI none).toInt = -1 := by decide
      omega
    · intro h
      cases h
  | some e =>
    have he := hex e rfl
    constructor
    · intro h
      exact congrArg some ((nI_eq (show j < 2 ^ 31 by omega) (show e < 2 ^ 31 by omega)).mp h)
    · intro h
      cases h
      rfl
/-- a Control at h: the links, the advertisements, stores and messages T, how many messages were lost -/
def co_R (cI cG : ClassId) (h aL aS aM : Nat) (lk kn : Nat → Nat → Nat) (T : bm_T) (lost : Int32) (ws : va_W) : Prop :=
  ∃ (wL wS wM : va_W), ws = List.flatten [[(h, .inr (4, [.ref aL, .ref aS, .ref aM, .int lost]))], wL, wS, wM] ∧ lk_R cI cG aL lk kn wL ∧ so_R cI cG aS T.1 T.2.1 T.2.2.2 wS ∧ rw_R cI 3 T.2.2.1.1 T.2.2.1.2.1 (gN T.2.2.1.2.2) aM wM
theorem co_R.mem {cI cG : ClassId} {h aL aS aM : Nat} {lk kn : Nat → Nat → Nat} {T : bm_T} {lost : Int32} {ws : va_W} (hR : co_R cI cG h aL aS aM lk kn T lost ws) : ∃ fs, (h, Sum.inr (4, fs)) ∈ ws := by
  obtain ⟨wL, wS, wM, rfl, -⟩ := hR
  exact ⟨_, List.mem_of_getElem? (i := 0) rfl⟩
set_option maxHeartbeats 4000000 in
set_option maxRecDepth 100000 in
theorem k_Control_onTheWay (l : Launch) (D : va_G) (cI cZ cJ cG : ClassId) {h aL aS aM : Nat} {lk kn : Nat → Nat → Nat} {T : bm_T} {lost : Int32} {ws : va_W} (hR : co_R cI cG h aL aS aM lk kn T lost ws) : ct_I l D kls (ty4 cI cZ cJ cG) y_Control_onTheWay ws_Control_onTheWay (rm_ 1 20 0 0) [.ref h] (ws) (fun z u => z = nI T.2.2.1.2.1 ∧ u = ws) 0 0 := by
  obtain ⟨wL, wS, wM, rfl, kL, kS, kM⟩ := hR
  obtain ⟨fsL, mL⟩ := kL.mem
  obtain ⟨fsS, mS⟩ := kS.mem
  obtain ⟨fsM, mM⟩ := kM.mem
  have bM := kM.n
  refine ct_enterI (cc := b_Control_onTheWay) (maxL := 1) (ret := (some .int)) (by decide +kernel) (Nat.le_of_ble_eq_true rfl) ?_
  intro p e s m args below meth c hx hb hml hr ht hown hlk hnm A Q hA hK hP hD hQ ls hl
  have hown : s.vm.findClass R_Control = some m.cls := hown
  have hS : va_S A s.heap s.heap [] := va_S.rf
  have hl : lv_has ls 1 [(0, .ref h)] := hl
  refine lv_aload_n hx hb d_Control_onTheWay_0 rfl (lv_at hl 0 rfl) ?_
  refine va_get (D := D) (ci := 4) (v := .ref aM) (C := R_Control) (T := T_Control) (N := 4) hx hb ht in_Control hown hK hP 0 rfl rfl 2 (by decide) (ht _ kl_Control_14) (fun _ h9 => h9) rfl d_Control_onTheWay_1 ?_
  refine ct_rdV (C := R_Rows) (ci := 0) (As := []) (rest := []) ⟨hx, hb, hml, hown, ht⟩ (k_Rows_size l D cI cZ cJ cG kM) (cb_V ht kc_Rows_size kl_Control_28 kn_Rows ki_Rows_size ks_Rows_size hd_Rows_size ⟨Nat.le_of_ble_eq_true rfl, Nat.le_of_ble_eq_true rfl⟩) (wd_mem 3 rfl mM) rfl rfl (wd_ct (Bs := [[(h, .inr (4, [.ref aL, .ref aS, .ref aM, .int lost]))], wL, wS, wM]) 4 rfl [3] [0, 1, 2] (by decide) (wd_1 _)) hK hP hD hS hA rfl hl.1 rfl (Nat.le_of_ble_eq_true rfl) ⟨(show 0 + 0 ≤ 0 by omega), (show 0 + 0 ≤ 0 by omega)⟩ d_Control_onTheWay_4 (fun rhr1 H locs hr1 hP hD hS => ?_)
  subst hr1
  exact ct_iret hQ hx hb hr hlk hP hD hS hK (by omega) (by omega) d_Control_onTheWay_7 (⟨rfl, rfl⟩)
set_option maxHeartbeats 4000000 in
set_option maxRecDepth 100000 in
theorem k_Control_messagesLost (l : Launch) (D : va_G) (cI cZ cJ cG : ClassId) {h aL aS aM : Nat} {lk kn : Nat → Nat → Nat} {T : bm_T} {lost : Int32} {ws : va_W} (hR : co_R cI cG h aL aS aM lk kn T lost ws) : ct_I l D kls (ty4 cI cZ cJ cG) y_Control_messagesLost ws_Control_messagesLost (rm_ 0 0 0 0) [.ref h] (ws) (fun z u => z = lost ∧ u = ws) 0 0 := by
  obtain ⟨wL, wS, wM, rfl, kL, kS, kM⟩ := hR
  obtain ⟨fsL, mL⟩ := kL.mem
  obtain ⟨fsS, mS⟩ := kS.mem
  obtain ⟨fsM, mM⟩ := kM.mem
  have bM := kM.n
  refine ct_enterI (cc := b_Control_messagesLost) (maxL := 1) (ret := (some .int)) (by decide +kernel) (Nat.le_of_ble_eq_true rfl) ?_
  intro p e s m args below meth c hx hb hml hr ht hown hlk hnm A Q hA hK hP hD hQ ls hl
  have hown : s.vm.findClass R_Control = some m.cls := hown
  have hS : va_S A s.heap s.heap [] := va_S.rf
  have hl : lv_has ls 1 [(0, .ref h)] := hl
  refine lv_aload_n hx hb d_Control_messagesLost_0 rfl (lv_at hl 0 rfl) ?_
  refine va_get (D := D) (ci := 4) (v := .int lost) (C := R_Control) (T := T_Control) (N := 4) hx hb ht in_Control hown hK hP 0 rfl rfl 3 (by decide) (ht _ kl_Control_32) (fun _ h9 => h9) rfl d_Control_messagesLost_1 ?_
  exact ct_iret hQ hx hb hr hlk hP hD hS hK (by omega) (by omega) d_Control_messagesLost_4 (⟨rfl, rfl⟩)
set_option maxHeartbeats 4000000 in
set_option maxRecDepth 100000 in
theorem k_Control_hasRoomForLinks (l : Launch) (D : va_G) (cI cZ cJ cG : ClassId) {h aL aS aM : Nat} {lk kn : Nat → Nat → Nat} {T : bm_T} {lost : Int32} {ws : va_W} (hR : co_R cI cG h aL aS aM lk kn T lost ws) (hn : T.1.2.1 < 100000) : ct_I l D kls (ty4 cI cZ cJ cG) y_Control_hasRoomForLinks ws_Control_hasRoomForLinks (rm_ 2 40 0 0) [.ref h] (ws) (fun z u => z = bI (decide (T.2.2.1.2.1 < 2000 ∧ T.1.2.1 + 2 ≤ 1025)) ∧ u = ws) 0 0 := by
  obtain ⟨wL, wS, wM, rfl, kL, kS, kM⟩ := hR
  obtain ⟨fsL, mL⟩ := kL.mem
  obtain ⟨fsS, mS⟩ := kS.mem
  obtain ⟨fsM, mM⟩ := kM.mem
  have bM := kM.n
  refine ct_enterI (cc := b_Control_hasRoomForLinks) (maxL := 1) (ret := (some .boolean)) (by decide +kernel) (Nat.le_of_ble_eq_true rfl) ?_
  intro p e s m args below meth c hx hb hml hr ht hown hlk hnm A Q hA hK hP hD hQ ls hl
  have hown : s.vm.findClass R_Control = some m.cls := hown
  have hS : va_S A s.heap s.heap [] := va_S.rf
  have hl : lv_has ls 1 [(0, .ref h)] := hl
  refine lv_aload_n hx hb d_Control_hasRoomForLinks_0 rfl (lv_at hl 0 rfl) ?_
  refine va_get (D := D) (ci := 4) (v := .ref aM) (C := R_Control) (T := T_Control) (N := 4) hx hb ht in_Control hown hK hP 0 rfl rfl 2 (by decide) (ht _ kl_Control_14) (fun _ h9 => h9) rfl d_Control_hasRoomForLinks_1 ?_
  refine ct_rdV (C := R_Rows) (ci := 0) (As := []) (rest := []) ⟨hx, hb, hml, hown, ht⟩ (k_Rows_size l D cI cZ cJ cG kM) (cb_V ht kc_Rows_size kl_Control_28 kn_Rows ki_Rows_size ks_Rows_size hd_Rows_size ⟨Nat.le_of_ble_eq_true rfl, Nat.le_of_ble_eq_true rfl⟩) (wd_mem 3 rfl mM) rfl rfl (wd_ct (Bs := [[(h, .inr (4, [.ref aL, .ref aS, .ref aM, .int lost]))], wL, wS, wM]) 4 rfl [3] [0, 1, 2] (by decide) (wd_1 _)) hK hP hD hS hA rfl hl.1 rfl (Nat.le_of_ble_eq_true rfl) ⟨(show 0 + 0 ≤ 0 by omega), (show 0 + 0 ≤ 0 by omega)⟩ d_Control_hasRoomForLinks_4 (fun rhr1 H locs hr1 hP hD hS => ?_)
  subst hr1
  refine lv_sipush (v := nI 2000) hx hb d_Control_hasRoomForLinks_7 (by decide) ?_
  refine ri_icmp_ge hx hb (by omega) (by omega) d_Control_hasRoomForLinks_10 (tgt := 27) (by decide) (fun h1 => ?_) (fun h1 => ?_)
  · refine lv_iconst (v := nI 0) hx hb d_Control_hasRoomForLinks_27 (by decide) ?_
    exact ct_zret (b := false) hQ hx hb hr hlk hP hD hS hK (by omega) (by omega) d_Control_hasRoomForLinks_28 (⟨congrArg bI (decide_eq_false (fun z => by first | omega | exact of_decide_eq_false h2 z.2)).symm, rfl⟩)
  · refine lv_aload_n hx hb d_Control_hasRoomForLinks_13 rfl (lv_at hl 0 rfl) ?_
    refine va_get (D := D) (ci := 4) (v := .ref aS) (C := R_Control) (T := T_Control) (N := 4) hx hb ht in_Control hown hK hP 0 rfl rfl 1 (by decide) (ht _ kl_Control_24) (fun _ h9 => h9) rfl d_Control_hasRoomForLinks_14 ?_
    refine ct_rdV (C := R_Stores) (ci := 3) (As := []) (rest := []) ⟨hx, hb, hml, hown, ht⟩ (k_Stores_hasRoomForTwo l D cI cZ cJ cG kS hn) (cb_V ht kc_Stores_hasRoomForTwo kl_Control_36 kn_Stores ki_Stores_hasRoomForTwo ks_Stores_hasRoomForTwo hd_Stores_hasRoomForTwo ⟨Nat.le_of_ble_eq_true rfl, Nat.le_of_ble_eq_true rfl⟩) (wd_mem 2 rfl mS) rfl rfl (wd_ct (Bs := [[(h, .inr (4, [.ref aL, .ref aS, .ref aM, .int lost]))], wL, wS, wM]) 4 rfl [2] [0, 1, 3] (by decide) (wd_1 _)) hK hP hD hS hA rfl hl.1 rfl (Nat.le_of_ble_eq_true rfl) ⟨(show 0 + 0 ≤ 0 by omega), (show 0 + 0 ≤ 0 by omega)⟩ d_Control_hasRoomForLinks_17 (fun rhr3 H locs hr3 hP hD hS => ?_)
    subst hr3
    refine ri_ifeqB hx hb d_Control_hasRoomForLinks_20 (tgt := 27) (by decide) (fun h2 => ?_) (fun h2 => ?_)
    · refine lv_iconst (v := nI 0) hx hb d_Control_hasRoomForLinks_27 (by decide) ?_
      exact ct_zret (b := false) hQ hx hb hr hlk hP hD hS hK (by omega) (by omega) d_Control_hasRoomForLinks_28 (⟨congrArg bI (decide_eq_false (fun z => by first | omega | exact of_decide_eq_false h2 z.2)).symm, rfl⟩)
    · refine lv_iconst (v := nI 1) hx hb d_Control_hasRoomForLinks_23 (by decide) ?_
      refine lv_goto hx hb d_Control_hasRoomForLinks_24 (tgt := 28) (by decide) ?_
      exact ct_zret (b := true) hQ hx hb hr hlk hP hD hS hK (by omega) (by omega) d_Control_hasRoomForLinks_28 (⟨congrArg bI (decide_eq_true ⟨h1, of_decide_eq_true h2⟩).symm, rfl⟩)
set_option maxHeartbeats 4000000 in
set_option maxRecDepth 100000 in
theorem k_Control_post (l : Launch) (D : va_G) (cI cZ cJ cG : ClassId) {h aL aS aM : Nat} {lk kn : Nat → Nat → Nat} {T : bm_T} {lost : Int32} {ws : va_W} (hR : co_R cI cG h aL aS aM lk kn T lost ws) (f t i : Nat) (hc : T.2.2.1.1 ≤ 50000) : ct_V l D kls (ty4 cI cZ cJ cG) y_Control_post ws_Control_post (rm_ 3 73 ((bm_push T.2.2.1 (bm_row3 f t i)).1 - T.2.2.1.1) (2 * 3 * ((bm_push T.2.2.1 (bm_row3 f t i)).1 - T.2.2.1.1))) [.ref h, .int (nI f), .int (nI t), .int (nI i)] (ws) (fun u => co_R cI cG h aL aS aM lk kn (T.1, T.2.1, bm_push T.2.2.1 (bm_row3 f t i), T.2.2.2) lost u) ((bm_push T.2.2.1 (bm_row3 f t i)).1 - T.2.2.1.1) (2 * 3 * ((bm_push T.2.2.1 (bm_row3 f t i)).1 - T.2.2.1.1)) := by
  obtain ⟨wL, wS, wM, rfl, kL, kS, kM⟩ := hR
  obtain ⟨fsL, mL⟩ := kL.mem
  obtain ⟨fsS, mS⟩ := kS.mem
  obtain ⟨fsM, mM⟩ := kM.mem
  have bM := kM.n
  refine ct_enterV (cc := b_Control_post) (maxL := 5) (ret := none) (by decide +kernel) (Nat.le_of_ble_eq_true rfl) ?_
  intro p e s m args below meth c hx hb hml hr ht hown hlk hnm A Q hA hK hP hD hQ ls hl
  have hown : s.vm.findClass R_Control = some m.cls := hown
  have hS : va_S A s.heap s.heap [] := va_S.rf
  have hl : lv_has ls 5 [(0, .ref h), (1, .int (nI f)), (2, .int (nI t)), (3, .int (nI i))] := hl
  refine lv_aload_n hx hb d_Control_post_0 rfl (lv_at hl 0 rfl) ?_
  refine va_get (D := D) (ci := 4) (v := .ref aM) (C := R_Control) (T := T_Control) (N := 4) hx hb ht in_Control hown hK hP 0 rfl rfl 2 (by decide) (ht _ kl_Control_14) (fun _ h9 => h9) rfl d_Control_post_1 ?_
  refine ct_callVI (C := R_Rows) (ci := 0) (As := []) (rest := []) ⟨hx, hb, hml, hown, ht⟩ (k_Rows_add l D cI cZ cJ cG kM hc) (cb_V ht kc_Rows_add kl_Control_98 kn_Rows ki_Rows_add ks_Rows_add hd_Rows_add ⟨Nat.le_of_ble_eq_true rfl, Nat.le_of_ble_eq_true rfl⟩) (wd_mem 3 rfl mM) rfl rfl (wd_ct (Bs := [[(h, .inr (4, [.ref aL, .ref aS, .ref aM, .int lost]))], wL, wS, wM]) 4 rfl [3] [0, 1, 2] (by decide) (wd_1 _)) hK hP hD hS hA rfl hl.1 rfl (Nat.le_of_ble_eq_true rfl) ⟨(by simp only [Nat.add_zero, Nat.zero_add]; exact Nat.le_refl _), (by simp only [Nat.add_zero, Nat.zero_add]; exact Nat.le_refl _)⟩ d_Control_post_4 (fun ru1 u1 H locs hu1 hP hD hS => ?_)
  obtain ⟨rfl, kA⟩ := hu1
  obtain ⟨fsA, mA⟩ := kA.mem
  refine W.widen (k := (bm_push T.2.2.1 (bm_row3 f t i)).1 - T.2.2.1.1) (n := 2 * 3 * ((bm_push T.2.2.1 (bm_row3 f t i)).1 - T.2.2.1.1)) (Nat.le_of_eq (Nat.zero_add _)) (Nat.le_of_eq (Nat.zero_add _)) ?_
  have hP := wd_nP (N := [u1]) (wd_1 _) 4 rfl [1, 2, 3, 0] (by decide) hP
  have hD := wd_nD (N := [u1]) (wd_1 _) 4 rfl [1, 2, 3, 0] (by decide) hD
  have hP : va_P D kls (List.flatten [[(h, .inr (4, [.ref aL, .ref aS, .ref aM, .int lost]))], wL, wS, u1]) H := hP
  have hD : va_D A (List.flatten [[(h, .inr (4, [.ref aL, .ref aS, .ref aM, .int lost]))], wL, wS, u1]) := hD
  refine lv_istore hx hb d_Control_post_7 hl (by decide) rfl (fun ls hl => ?_)
  have hl : lv_has ls 5 [(4, .int (nI T.2.2.1.2.1)), (0, .ref h), (1, .int (nI f)), (2, .int (nI t)), (3, .int (nI i))] := hl
  refine lv_aload_n hx hb d_Control_post_9 rfl (lv_at hl 1 rfl) ?_
  refine va_get (D := D) (ci := 4) (v := .ref aM) (C := R_Control) (T := T_Control) (N := 4) hx hb ht in_Control hown hK hP 0 rfl rfl 2 (by decide) (ht _ kl_Control_14) (fun _ h9 => h9) rfl d_Control_post_10 ?_
  refine lv_iload hx hb d_Control_post_13 (lv_at hl 0 rfl) ?_
  refine lv_iconst (v := nI 0) hx hb d_Control_post_15 (by decide) ?_
  refine lv_iload_n hx hb d_Control_post_16 rfl (lv_at hl 2 rfl) ?_
  refine ct_callVV (C := R_Rows) (ci := 0) (As := [.int (nI T.2.2.1.2.1), .int (nI 0), .int (nI f)]) (rest := []) ⟨hx, hb, hml, hown, ht⟩ (k_Rows_set l D cI cZ cJ cG kA (T.2.2.1.2.1) 0 (nI f) (by omega) (by omega)) (cb_V ht kc_Rows_set kl_Control_101 kn_Rows ki_Rows_set ks_Rows_set hd_Rows_set ⟨Nat.le_of_ble_eq_true rfl, Nat.le_of_ble_eq_true rfl⟩) (wd_mem 3 rfl mA) rfl rfl (wd_ct (Bs := [[(h, .inr (4, [.ref aL, .ref aS, .ref aM, .int lost]))], wL, wS, u1]) 4 rfl [3] [0, 1, 2] (by decide) (wd_1 _)) hK hP hD hS hA rfl hl.1 rfl (Nat.le_of_ble_eq_true rfl) ⟨(by simp only [Nat.add_zero, Nat.zero_add]; exact Nat.le_refl _), (by simp only [Nat.add_zero, Nat.zero_add]; exact Nat.le_refl _)⟩ d_Control_post_17 (fun u2 H locs hu2 hP hD hS => ?_)
  have kB := hu2
  obtain ⟨fskB, mB⟩ := kB.mem
  refine W.widen (k := (bm_push T.2.2.1 (bm_row3 f t i)).1 - T.2.2.1.1) (n := 2 * 3 * ((bm_push T.2.2.1 (bm_row3 f t i)).1 - T.2.2.1.1)) (Nat.le_refl _) (Nat.le_refl _) ?_
  have hP := wd_nP (N := [u2]) (wd_1 _) 4 rfl [1, 2, 3, 0] (by decide) hP
  have hD := wd_nD (N := [u2]) (wd_1 _) 4 rfl [1, 2, 3, 0] (by decide) hD
  have hP : va_P D kls (List.flatten [[(h, .inr (4, [.ref aL, .ref aS, .ref aM, .int lost]))], wL, wS, u2]) H := hP
  have hD : va_D A (List.flatten [[(h, .inr (4, [.ref aL, .ref aS, .ref aM, .int lost]))], wL, wS, u2]) := hD
  refine W.eq (g2 := F0 m 20 ls []) rfl ?_
  refine lv_aload_n hx hb d_Control_post_20 rfl (lv_at hl 1 rfl) ?_
  refine va_get (D := D) (ci := 4) (v := .ref aM) (C := R_Control) (T := T_Control) (N := 4) hx hb ht in_Control hown hK hP 0 rfl rfl 2 (by decide) (ht _ kl_Control_14) (fun _ h9 => h9) rfl d_Control_post_21 ?_
  refine lv_iload hx hb d_Control_post_24 (lv_at hl 0 rfl) ?_
  refine lv_iconst (v := nI 1) hx hb d_Control_post_26 (by decide) ?_
  refine lv_iload_n hx hb d_Control_post_27 rfl (lv_at hl 3 rfl) ?_
  refine ct_callVV (C := R_Rows) (ci := 0) (As := [.int (nI T.2.2.1.2.1), .int (nI 1), .int (nI t)]) (rest := []) ⟨hx, hb, hml, hown, ht⟩ (k_Rows_set l D cI cZ cJ cG kB (T.2.2.1.2.1) 1 (nI t) (by omega) (by omega)) (cb_V ht kc_Rows_set kl_Control_101 kn_Rows ki_Rows_set ks_Rows_set hd_Rows_set ⟨Nat.le_of_ble_eq_true rfl, Nat.le_of_ble_eq_true rfl⟩) (wd_mem 3 rfl mB) rfl rfl (wd_ct (Bs := [[(h, .inr (4, [.ref aL, .ref aS, .ref aM, .int lost]))], wL, wS, u2]) 4 rfl [3] [0, 1, 2] (by decide) (wd_1 _)) hK hP hD hS hA rfl hl.1 rfl (Nat.le_of_ble_eq_true rfl) ⟨(by simp only [Nat.add_zero, Nat.zero_add]; exact Nat.le_refl _), (by simp only [Nat.add_zero, Nat.zero_add]; exact Nat.le_refl _)⟩ d_Control_post_28 (fun u3 H locs hu3 hP hD hS => ?_)
  have kC := hu3
  obtain ⟨fskC, mC⟩ := kC.mem
  refine W.widen (k := (bm_push T.2.2.1 (bm_row3 f t i)).1 - T.2.2.1.1) (n := 2 * 3 * ((bm_push T.2.2.1 (bm_row3 f t i)).1 - T.2.2.1.1)) (Nat.le_refl _) (Nat.le_refl _) ?_
  have hP := wd_nP (N := [u3]) (wd_1 _) 4 rfl [1, 2, 3, 0] (by decide) hP
  have hD := wd_nD (N := [u3]) (wd_1 _) 4 rfl [1, 2, 3, 0] (by decide) hD
  have hP : va_P D kls (List.flatten [[(h, .inr (4, [.ref aL, .ref aS, .ref aM, .int lost]))], wL, wS, u3]) H := hP
  have hD : va_D A (List.flatten [[(h, .inr (4, [.ref aL, .ref aS, .ref aM, .int lost]))], wL, wS, u3]) := hD
  refine W.eq (g2 := F0 m 31 ls []) rfl ?_
  refine lv_aload_n hx hb d_Control_post_31 rfl (lv_at hl 1 rfl) ?_
  refine va_get (D := D) (ci := 4) (v := .ref aM) (C := R_Control) (T := T_Control) (N := 4) hx hb ht in_Control hown hK hP 0 rfl rfl 2 (by decide) (ht _ kl_Control_14) (fun _ h9 => h9) rfl d_Control_post_32 ?_
  refine lv_iload hx hb d_Control_post_35 (lv_at hl 0 rfl) ?_
  refine lv_iconst (v := nI 2) hx hb d_Control_post_37 (by decide) ?_
  refine lv_iload_n hx hb d_Control_post_38 rfl (lv_at hl 4 rfl) ?_
  refine ct_callVV (C := R_Rows) (ci := 0) (As := [.int (nI T.2.2.1.2.1), .int (nI 2), .int (nI i)]) (rest := []) ⟨hx, hb, hml, hown, ht⟩ (k_Rows_set l D cI cZ cJ cG kC (T.2.2.1.2.1) 2 (nI i) (by omega) (by omega)) (cb_V ht kc_Rows_set kl_Control_101 kn_Rows ki_Rows_set ks_Rows_set hd_Rows_set ⟨Nat.le_of_ble_eq_true rfl, Nat.le_of_ble_eq_true rfl⟩) (wd_mem 3 rfl mC) rfl rfl (wd_ct (Bs := [[(h, .inr (4, [.ref aL, .ref aS, .ref aM, .int lost]))], wL, wS, u3]) 4 rfl [3] [0, 1, 2] (by decide) (wd_1 _)) hK hP hD hS hA rfl hl.1 rfl (Nat.le_of_ble_eq_true rfl) ⟨(by simp only [Nat.add_zero, Nat.zero_add]; exact Nat.le_refl _), (by simp only [Nat.add_zero, Nat.zero_add]; exact Nat.le_refl _)⟩ d_Control_post_39 (fun u4 H locs hu4 hP hD hS => ?_)
  have kD := hu4
  obtain ⟨fskD, mD⟩ := kD.mem
  refine W.widen (k := (bm_push T.2.2.1 (bm_row3 f t i)).1 - T.2.2.1.1) (n := 2 * 3 * ((bm_push T.2.2.1 (bm_row3 f t i)).1 - T.2.2.1.1)) (Nat.le_refl _) (Nat.le_refl _) ?_
  have hP := wd_nP (N := [u4]) (wd_1 _) 4 rfl [1, 2, 3, 0] (by decide) hP
  have hD := wd_nD (N := [u4]) (wd_1 _) 4 rfl [1, 2, 3, 0] (by decide) hD
  have hP : va_P D kls (List.flatten [[(h, .inr (4, [.ref aL, .ref aS, .ref aM, .int lost]))], wL, wS, u4]) H := hP
  have hD : va_D A (List.flatten [[(h, .inr (4, [.ref aL, .ref aS, .ref aM, .int lost]))], wL, wS, u4]) := hD
  refine W.eq (g2 := F0 m 42 ls []) rfl ?_
  have hend : rw_R cI 3 (bm_push T.2.2.1 (bm_row3 f t i)).1 (bm_push T.2.2.1 (bm_row3 f t i)).2.1 (gN (bm_push T.2.2.1 (bm_row3 f t i)).2.2) aM u4 := by
    refine rw_R.congr kD (fun a x ha hx => ?_)
    have ha : a < T.2.2.1.2.1 + 1 := ha
    show _ = nI ((if a = T.2.2.1.2.1 then bm_row3 f t i else T.2.2.1.2.2 a) x)
    show (if a = T.2.2.1.2.1 ∧ x = 2 then nI i else if a = T.2.2.1.2.1 ∧ x = 1 then nI t else if a = T.2.2.1.2.1 ∧ x = 0 then nI f else (if a = T.2.2.1.2.1 then (fun _ => (0 : Int32)) else gN T.2.2.1.2.2 a) x) = _
    by_cases e : a = T.2.2.1.2.1
    · rw [if_pos e, if_pos e]
      unfold bm_row3
      by_cases e0 : x = 0
      · rw [if_neg (by omega), if_neg (by omega), if_pos ⟨e, e0⟩, if_pos e0]
      · by_cases e1 : x = 1
        · rw [if_neg (by omega), if_pos ⟨e, e1⟩, if_neg e0, if_pos e1]
        · rw [if_pos ⟨e, by omega⟩, if_neg e0, if_neg e1]
    · rw [if_neg (fun z => e z.1), if_neg (fun z => e z.1), if_neg (fun z => e z.1), if_neg e, if_neg e]
      rfl
  exact ct_vret hQ hx hb hr hlk hP hD hS hK (by omega) (by omega) d_Control_post_42 (⟨wL, wS, u4, rfl, kL, kS, hend⟩)
