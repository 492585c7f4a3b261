/-! Data: contracts of its methods. -/
abbrev da_w (h aL aE aR aP aC : Nat) (Dd : bm_D) (wP wC : va_W) : va_W := List.flatten [[(h, .inr (6, [.ref aL, .ref aE, .ref aR, .ref aP, .ref aC, .int Dd.2.2.1, .int Dd.2.2.2.1, .int Dd.2.2.2.2]))], wP, wC]
/-- a Data at h -/
def da_R (cI : ClassId) (h aL aE aR aP aC : Nat) (Dd : bm_D) (ws : va_W) : Prop := ∃ (wP wC : va_W), ws = da_w h aL aE aR aP aC Dd wP wC ∧ rw_R cI 2 Dd.1.1 Dd.1.2.1 Dd.1.2.2 aP wP ∧ rw_R cI 5 Dd.2.1.1 Dd.2.1.2.1 Dd.2.1.2.2 aC wC
theorem da_R.mem {cI : ClassId} {h aL aE aR aP aC : Nat} {Dd : bm_D} {ws : va_W} (hR : da_R cI h aL aE aR aP aC Dd ws) : ∃ fs, (h, Sum.inr (6, fs)) ∈ ws := by
  obtain ⟨wP, wC, rfl, -, -⟩ := hR
  exact ⟨_, List.mem_of_getElem? (i := 0) rfl⟩
theorem bm_on_le (p r m : Nat) (part : Int32) (h : Nat) (D : bm_D) : D.2.1.1 ≤ (bm_on p r m part h D).2.1.1 := by
  unfold bm_on
  split
  · exact Nat.le_refl _
  · exact bm_push_le _ _
theorem bm_on_1 (p r m : Nat) (part : Int32) (h : Nat) (D : bm_D) : (bm_on p r m part h D).1.1 = D.1.1 ∧ (bm_on p r m part h D).1.2.1 = D.1.2.1 := by
  unfold bm_on
  split
  · exact ⟨rfl, rfl⟩
  · exact ⟨rfl, rfl⟩
theorem bm_parts_1 (mk : Nat → Int32) (p r h : Nat) (S : Int32 × bm_D) : ∀ n, (bm_parts mk p r h S n).2.1.1 = S.2.1.1 ∧ (bm_parts mk p r h S n).2.1.2.1 = S.2.1.2.1
  | 0 => ⟨rfl, rfl⟩
  | n + 1 => by
    unfold bm_parts
    split
    · exact bm_parts_1 mk p r h S n
    · have h1 := bm_parts_1 mk p r h S n
      have h2 := bm_on_1 p r n ((bm_parts mk p r h S n).1 &&& mk n) h (bm_parts mk p r h S n).2
      exact ⟨h2.1.trans h1.1, h2.2.trans h1.2⟩
theorem bm_parts_le (mk : Nat → Int32) (p r h : Nat) (S : Int32 × bm_D) : ∀ (n j : Nat), j ≤ n → (bm_parts mk p r h S j).2.2.1.1 ≤ (bm_parts mk p r h S n).2.2.1.1
  | 0, j, hj => by
    rw [show j = 0 by omega]
    exact Nat.le_refl _
  | n + 1, j, hj => by
    by_cases c : j = n + 1
    · rw [c]
      exact Nat.le_refl _
    · refine Nat.le_trans (bm_parts_le mk p r h S n j (by omega)) ?_
      show _ ≤ (if (bm_parts mk p r h S n).1 &&& mk n = 0 then bm_parts mk p r h S n else ((bm_parts mk p r h S n).1 &&& (((bm_parts mk p r h S n).1 &&& mk n) ^^^ (-1)), bm_on p r n ((bm_parts mk p r h S n).1 &&& mk n) h (bm_parts mk p r h S n).2)).2.2.1.1
      split
      · exact Nat.le_refl _
      · exact bm_on_le _ _ _ _ _ _
set_option maxHeartbeats 4000000 in
set_option maxRecDepth 100000 in
theorem k_Data_onTheWay (l : Launch) (D : va_G) (cI cZ cJ cG : ClassId) {h aL aE aR aP aC : Nat} {Dd : bm_D} {ws : va_W} (hR : da_R cI h aL aE aR aP aC Dd ws) : ct_I l D kls (ty4 cI cZ cJ cG) y_Data_onTheWay ws_Data_onTheWay (rm_ 1 20 0 0) [.ref h] (ws) (fun z u => z = nI Dd.2.1.2.1 ∧ u = ws) 0 0 := by
  obtain ⟨wP, wC, rfl, kP, kC⟩ := hR
  obtain ⟨fsP, mP⟩ := kP.mem
  obtain ⟨fsC, mC⟩ := kC.mem
  have bP9 := kP.n
  have bC9 := kC.n
  refine ct_enterI (cc := b_Data_onTheWay) (maxL := 1) (ret := (some .int)) (by decide +kernel) (Nat.le_of_ble_eq_true rfl) ?_
  intro p e s m args below meth c hx hb hml hr ht hown hlk hnm A Q hA hK hP hD hQ ls hl
  have hown : s.vm.findClass R_Data = some m.cls := hown
  have hS : va_S A s.heap s.heap [] := va_S.rf
  have hl : lv_has ls 1 [(0, .ref h)] := hl
  refine lv_aload_n hx hb d_Data_onTheWay_0 rfl (lv_at hl 0 rfl) ?_
  refine va_get (D := D) (ci := 6) (v := .ref aC) (C := R_Data) (T := T_Data) (N := 8) hx hb ht in_Data hown hK hP 0 rfl rfl 4 (by decide) (ht _ kl_Data_20) (fun _ h9 => h9) rfl d_Data_onTheWay_1 ?_
  refine ct_rdV (C := R_Rows) (ci := 0) (As := []) (rest := []) ⟨hx, hb, hml, hown, ht⟩ (k_Rows_size l D cI cZ cJ cG kC) (cb_V ht kc_Rows_size kl_Data_35 kn_Rows ki_Rows_size ks_Rows_size hd_Rows_size ⟨Nat.le_of_ble_eq_true rfl, Nat.le_of_ble_eq_true rfl⟩) (wd_mem 2 rfl mC) rfl rfl (wd_ct (Bs := [[(h, .inr (6, [.ref aL, .ref aE, .ref aR, .ref aP, .ref aC, .int Dd.2.2.1, .int Dd.2.2.2.1, .int Dd.2.2.2.2]))], wP, wC]) 3 rfl [2] [0, 1] (by decide) (wd_1 _)) hK hP hD hS hA rfl hl.1 rfl (Nat.le_of_ble_eq_true rfl) ⟨(show 0 + 0 ≤ 0 by omega), (show 0 + 0 ≤ 0 by omega)⟩ d_Data_onTheWay_4 (fun rhr1 H locs hr1 hP hD hS => ?_)
  subst hr1
  exact ct_iret hQ hx hb hr hlk hP hD hS hK (by omega) (by omega) d_Data_onTheWay_7 (⟨rfl, rfl⟩)
set_option maxHeartbeats 4000000 in
set_option maxRecDepth 100000 in
theorem k_Data_packetsSoFar (l : Launch) (D : va_G) (cI cZ cJ cG : ClassId) {h aL aE aR aP aC : Nat} {Dd : bm_D} {ws : va_W} (hR : da_R cI h aL aE aR aP aC Dd ws) : ct_I l D kls (ty4 cI cZ cJ cG) y_Data_packetsSoFar ws_Data_packetsSoFar (rm_ 1 20 0 0) [.ref h] (ws) (fun z u => z = nI Dd.1.2.1 ∧ u = ws) 0 0 := by
  obtain ⟨wP, wC, rfl, kP, kC⟩ := hR
  obtain ⟨fsP, mP⟩ := kP.mem
  obtain ⟨fsC, mC⟩ := kC.mem
  have bP9 := kP.n
  have bC9 := kC.n
  refine ct_enterI (cc := b_Data_packetsSoFar) (maxL := 1) (ret := (some .int)) (by decide +kernel) (Nat.le_of_ble_eq_true rfl) ?_
  intro p e s m args below meth c hx hb hml hr ht hown hlk hnm A Q hA hK hP hD hQ ls hl
  have hown : s.vm.findClass R_Data = some m.cls := hown
  have hS : va_S A s.heap s.heap [] := va_S.rf
  have hl : lv_has ls 1 [(0, .ref h)] := hl
  refine lv_aload_n hx hb d_Data_packetsSoFar_0 rfl (lv_at hl 0 rfl) ?_
  refine va_get (D := D) (ci := 6) (v := .ref aP) (C := R_Data) (T := T_Data) (N := 8) hx hb ht in_Data hown hK hP 0 rfl rfl 3 (by decide) (ht _ kl_Data_14) (fun _ h9 => h9) rfl d_Data_packetsSoFar_1 ?_
  refine ct_rdV (C := R_Rows) (ci := 0) (As := []) (rest := []) ⟨hx, hb, hml, hown, ht⟩ (k_Rows_size l D cI cZ cJ cG kP) (cb_V ht kc_Rows_size kl_Data_35 kn_Rows ki_Rows_size ks_Rows_size hd_Rows_size ⟨Nat.le_of_ble_eq_true rfl, Nat.le_of_ble_eq_true rfl⟩) (wd_mem 1 rfl mP) rfl rfl (wd_ct (Bs := [[(h, .inr (6, [.ref aL, .ref aE, .ref aR, .ref aP, .ref aC, .int Dd.2.2.1, .int Dd.2.2.2.1, .int Dd.2.2.2.2]))], wP, wC]) 3 rfl [1] [0, 2] (by decide) (wd_1 _)) hK hP hD hS hA rfl hl.1 rfl (Nat.le_of_ble_eq_true rfl) ⟨(show 0 + 0 ≤ 0 by omega), (show 0 + 0 ≤ 0 by omega)⟩ d_Data_packetsSoFar_4 (fun rhr1 H locs hr1 hP hD hS => ?_)
  subst hr1
  exact ct_iret hQ hx hb hr hlk hP hD hS hK (by omega) (by omega) d_Data_packetsSoFar_7 (⟨rfl, rfl⟩)
set_option maxHeartbeats 4000000 in
set_option maxRecDepth 100000 in
theorem k_Data_copiesDelivered (l : Launch) (D : va_G) (cI cZ cJ cG : ClassId) {h aL aE aR aP aC : Nat} {Dd : bm_D} {ws : va_W} (hR : da_R cI h aL aE aR aP aC Dd ws) : ct_I l D kls (ty4 cI cZ cJ cG) y_Data_copiesDelivered ws_Data_copiesDelivered (rm_ 0 0 0 0) [.ref h] (ws) (fun z u => z = Dd.2.2.1 ∧ u = ws) 0 0 := by
  obtain ⟨wP, wC, rfl, kP, kC⟩ := hR
  obtain ⟨fsP, mP⟩ := kP.mem
  obtain ⟨fsC, mC⟩ := kC.mem
  have bP9 := kP.n
  have bC9 := kC.n
  refine ct_enterI (cc := b_Data_copiesDelivered) (maxL := 1) (ret := (some .int)) (by decide +kernel) (Nat.le_of_ble_eq_true rfl) ?_
  intro p e s m args below meth c hx hb hml hr ht hown hlk hnm A Q hA hK hP hD hQ ls hl
  have hown : s.vm.findClass R_Data = some m.cls := hown
  have hS : va_S A s.heap s.heap [] := va_S.rf
  have hl : lv_has ls 1 [(0, .ref h)] := hl
  refine lv_aload_n hx hb d_Data_copiesDelivered_0 rfl (lv_at hl 0 rfl) ?_
  refine va_get (D := D) (ci := 6) (v := .int Dd.2.2.1) (C := R_Data) (T := T_Data) (N := 8) hx hb ht in_Data hown hK hP 0 rfl rfl 5 (by decide) (ht _ kl_Data_39) (fun _ h9 => h9) rfl d_Data_copiesDelivered_1 ?_
  exact ct_iret hQ hx hb hr hlk hP hD hS hK (by omega) (by omega) d_Data_copiesDelivered_4 (⟨rfl, rfl⟩)
set_option maxHeartbeats 4000000 in
set_option maxRecDepth 100000 in
theorem k_Data_copiesExpired (l : Launch) (D : va_G) (cI cZ cJ cG : ClassId) {h aL aE aR aP aC : Nat} {Dd : bm_D} {ws : va_W} (hR : da_R cI h aL aE aR aP aC Dd ws) : ct_I l D kls (ty4 cI cZ cJ cG) y_Data_copiesExpired ws_Data_copiesExpired (rm_ 0 0 0 0) [.ref h] (ws) (fun z u => z = Dd.2.2.2.1 ∧ u = ws) 0 0 := by
  obtain ⟨wP, wC, rfl, kP, kC⟩ := hR
  obtain ⟨fsP, mP⟩ := kP.mem
  obtain ⟨fsC, mC⟩ := kC.mem
  have bP9 := kP.n
  have bC9 := kC.n
  refine ct_enterI (cc := b_Data_copiesExpired) (maxL := 1) (ret := (some .int)) (by decide +kernel) (Nat.le_of_ble_eq_true rfl) ?_
  intro p e s m args below meth c hx hb hml hr ht hown hlk hnm A Q hA hK hP hD hQ ls hl
  have hown : s.vm.findClass R_Data = some m.cls := hown
  have hS : va_S A s.heap s.heap [] := va_S.rf
  have hl : lv_has ls 1 [(0, .ref h)] := hl
  refine lv_aload_n hx hb d_Data_copiesExpired_0 rfl (lv_at hl 0 rfl) ?_
  refine va_get (D := D) (ci := 6) (v := .int Dd.2.2.2.1) (C := R_Data) (T := T_Data) (N := 8) hx hb ht in_Data hown hK hP 0 rfl rfl 6 (by decide) (ht _ kl_Data_43) (fun _ h9 => h9) rfl d_Data_copiesExpired_1 ?_
  exact ct_iret hQ hx hb hr hlk hP hD hS hK (by omega) (by omega) d_Data_copiesExpired_4 (⟨rfl, rfl⟩)
set_option maxHeartbeats 4000000 in
set_option maxRecDepth 100000 in
theorem k_Data_bitsLost (l : Launch) (D : va_G) (cI cZ cJ cG : ClassId) {h aL aE aR aP aC : Nat} {Dd : bm_D} {ws : va_W} (hR : da_R cI h aL aE aR aP aC Dd ws) : ct_I l D kls (ty4 cI cZ cJ cG) y_Data_bitsLost ws_Data_bitsLost (rm_ 0 0 0 0) [.ref h] (ws) (fun z u => z = Dd.2.2.2.2 ∧ u = ws) 0 0 := by
  obtain ⟨wP, wC, rfl, kP, kC⟩ := hR
  obtain ⟨fsP, mP⟩ := kP.mem
  obtain ⟨fsC, mC⟩ := kC.mem
  have bP9 := kP.n
  have bC9 := kC.n
  refine ct_enterI (cc := b_Data_bitsLost) (maxL := 1) (ret := (some .int)) (by decide +kernel) (Nat.le_of_ble_eq_true rfl) ?_
  intro p e s m args below meth c hx hb hml hr ht hown hlk hnm A Q hA hK hP hD hQ ls hl
  have hown : s.vm.findClass R_Data = some m.cls := hown
  have hS : va_S A s.heap s.heap [] := va_S.rf
  have hl : lv_has ls 1 [(0, .ref h)] := hl
  refine lv_aload_n hx hb d_Data_bitsLost_0 rfl (lv_at hl 0 rfl) ?_
  refine va_get (D := D) (ci := 6) (v := .int Dd.2.2.2.2) (C := R_Data) (T := T_Data) (N := 8) hx hb ht in_Data hown hK hP 0 rfl rfl 7 (by decide) (ht _ kl_Data_46) (fun _ h9 => h9) rfl d_Data_bitsLost_1 ?_
  exact ct_iret hQ hx hb hr hlk hP hD hS hK (by omega) (by omega) d_Data_bitsLost_4 (⟨rfl, rfl⟩)
set_option maxHeartbeats 4000000 in
set_option maxRecDepth 100000 in
theorem k_Data_bitsDelivered (l : Launch) (D : va_G) (cI cZ cJ cG : ClassId) {h aL aE aR aP aC : Nat} {Dd : bm_D} {ws : va_W} (hR : da_R cI h aL aE aR aP aC Dd ws) (pk : Nat) (hp1 : 1 ≤ pk) (hp2 : pk ≤ Dd.1.2.1) : ct_I l D kls (ty4 cI cZ cJ cG) y_Data_bitsDelivered ws_Data_bitsDelivered (rm_ 2 45 0 0) [.ref h, .int (nI pk)] (ws) (fun z u => z = Dd.1.2.2 (pk - 1) 0 ∧ u = ws) 0 0 := by
  obtain ⟨wP, wC, rfl, kP, kC⟩ := hR
  obtain ⟨fsP, mP⟩ := kP.mem
  obtain ⟨fsC, mC⟩ := kC.mem
  have bP9 := kP.n
  have bC9 := kC.n
  refine ct_enterI (cc := b_Data_bitsDelivered) (maxL := 2) (ret := (some .int)) (by decide +kernel) (Nat.le_of_ble_eq_true rfl) ?_
  intro p e s m args below meth c hx hb hml hr ht hown hlk hnm A Q hA hK hP hD hQ ls hl
  have hown : s.vm.findClass R_Data = some m.cls := hown
  have hS : va_S A s.heap s.heap [] := va_S.rf
  have hl : lv_has ls 2 [(0, .ref h), (1, .int (nI pk))] := hl
  refine lv_aload_n hx hb d_Data_bitsDelivered_0 rfl (lv_at hl 0 rfl) ?_
  refine va_get (D := D) (ci := 6) (v := .ref aP) (C := R_Data) (T := T_Data) (N := 8) hx hb ht in_Data hown hK hP 0 rfl rfl 3 (by decide) (ht _ kl_Data_14) (fun _ h9 => h9) rfl d_Data_bitsDelivered_1 ?_
  refine lv_iload_n hx hb d_Data_bitsDelivered_4 rfl (lv_at hl 1 rfl) ?_
  refine lv_iconst (v := nI 1) hx hb d_Data_bitsDelivered_5 (by decide) ?_
  refine ri_isub hx hb (by omega) d_Data_bitsDelivered_6 ?_
  refine lv_iconst (v := nI 0) hx hb d_Data_bitsDelivered_7 (by decide) ?_
  refine ct_rdV (C := R_Rows) (ci := 0) (As := [.int (nI (pk - 1)), .int (nI 0)]) (rest := []) ⟨hx, hb, hml, hown, ht⟩ (k_Rows_get l D cI cZ cJ cG kP (pk - 1) 0 (by omega) (by decide)) (cb_V ht kc_Rows_get kl_Data_49 kn_Rows ki_Rows_get ks_Rows_get hd_Rows_get ⟨Nat.le_of_ble_eq_true rfl, Nat.le_of_ble_eq_true rfl⟩) (wd_mem 1 rfl mP) rfl rfl (wd_ct (Bs := [[(h, .inr (6, [.ref aL, .ref aE, .ref aR, .ref aP, .ref aC, .int Dd.2.2.1, .int Dd.2.2.2.1, .int Dd.2.2.2.2]))], wP, wC]) 3 rfl [1] [0, 2] (by decide) (wd_1 _)) hK hP hD hS hA rfl hl.1 rfl (Nat.le_of_ble_eq_true rfl) ⟨(show 0 + 0 ≤ 0 by omega), (show 0 + 0 ≤ 0 by omega)⟩ d_Data_bitsDelivered_8 (fun rhr1 H locs hr1 hP hD hS => ?_)
  subst hr1
  exact ct_iret hQ hx hb hr hlk hP hD hS hK (by omega) (by omega) d_Data_bitsDelivered_11 (⟨rfl, rfl⟩)
set_option maxHeartbeats 4000000 in
set_option maxRecDepth 100000 in
theorem k_Data_linksCrossed (l : Launch) (D : va_G) (cI cZ cJ cG : ClassId) {h aL aE aR aP aC : Nat} {Dd : bm_D} {ws : va_W} (hR : da_R cI h aL aE aR aP aC Dd ws) (pk : Nat) (hp1 : 1 ≤ pk) (hp2 : pk ≤ Dd.1.2.1) : ct_I l D kls (ty4 cI cZ cJ cG) y_Data_linksCrossed ws_Data_linksCrossed (rm_ 2 45 0 0) [.ref h, .int (nI pk)] (ws) (fun z u => z = Dd.1.2.2 (pk - 1) 1 ∧ u = ws) 0 0 := by
  obtain ⟨wP, wC, rfl, kP, kC⟩ := hR
  obtain ⟨fsP, mP⟩ := kP.mem
  obtain ⟨fsC, mC⟩ := kC.mem
  have bP9 := kP.n
  have bC9 := kC.n
  refine ct_enterI (cc := b_Data_linksCrossed) (maxL := 2) (ret := (some .int)) (by decide +kernel) (Nat.le_of_ble_eq_true rfl) ?_
  intro p e s m args below meth c hx hb hml hr ht hown hlk hnm A Q hA hK hP hD hQ ls hl
  have hown : s.vm.findClass R_Data = some m.cls := hown
  have hS : va_S A s.heap s.heap [] := va_S.rf
  have hl : lv_has ls 2 [(0, .ref h), (1, .int (nI pk))] := hl
  refine lv_aload_n hx hb d_Data_linksCrossed_0 rfl (lv_at hl 0 rfl) ?_
  refine va_get (D := D) (ci := 6) (v := .ref aP) (C := R_Data) (T := T_Data) (N := 8) hx hb ht in_Data hown hK hP 0 rfl rfl 3 (by decide) (ht _ kl_Data_14) (fun _ h9 => h9) rfl d_Data_linksCrossed_1 ?_
  refine lv_iload_n hx hb d_Data_linksCrossed_4 rfl (lv_at hl 1 rfl) ?_
  refine lv_iconst (v := nI 1) hx hb d_Data_linksCrossed_5 (by decide) ?_
  refine ri_isub hx hb (by omega) d_Data_linksCrossed_6 ?_
  refine lv_iconst (v := nI 1) hx hb d_Data_linksCrossed_7 (by decide) ?_
  refine ct_rdV (C := R_Rows) (ci := 0) (As := [.int (nI (pk - 1)), .int (nI 1)]) (rest := []) ⟨hx, hb, hml, hown, ht⟩ (k_Rows_get l D cI cZ cJ cG kP (pk - 1) 1 (by omega) (by decide)) (cb_V ht kc_Rows_get kl_Data_49 kn_Rows ki_Rows_get ks_Rows_get hd_Rows_get ⟨Nat.le_of_ble_eq_true rfl, Nat.le_of_ble_eq_true rfl⟩) (wd_mem 1 rfl mP) rfl rfl (wd_ct (Bs := [[(h, .inr (6, [.ref aL, .ref aE, .ref aR, .ref aP, .ref aC, .int Dd.2.2.1, .int Dd.2.2.2.1, .int Dd.2.2.2.2]))], wP, wC]) 3 rfl [1] [0, 2] (by decide) (wd_1 _)) hK hP hD hS hA rfl hl.1 rfl (Nat.le_of_ble_eq_true rfl) ⟨(show 0 + 0 ≤ 0 by omega), (show 0 + 0 ≤ 0 by omega)⟩ d_Data_linksCrossed_8 (fun rhr1 H locs hr1 hP hD hS => ?_)
  subst hr1
  exact ct_iret hQ hx hb hr hlk hP hD hS hK (by omega) (by omega) d_Data_linksCrossed_11 (⟨rfl, rfl⟩)
set_option maxHeartbeats 4000000 in
set_option maxRecDepth 100000 in
theorem k_Data_sendOn (l : Launch) (D : va_G) (cI cZ cJ cG : ClassId) {h aL aE aR aP aC : Nat} {Dd : bm_D} {ws : va_W} (hR : da_R cI h aL aE aR aP aC Dd ws) (pk r j : Nat) (part : Int32) (hp : Nat) (hp1 : 1 ≤ pk) (hp2 : pk ≤ Dd.1.2.1) (hp3 : hp < 2147483648) (hc : Dd.2.1.1 ≤ 50000) : ct_V l D kls (ty4 cI cZ cJ cG) y_Data_sendOn ws_Data_sendOn (rm_ 3 73 ((bm_on pk r j part hp Dd).2.1.1 - Dd.2.1.1) (2 * 5 * ((bm_on pk r j part hp Dd).2.1.1 - Dd.2.1.1))) [.ref h, .int (nI pk), .int (nI r), .int (nI j), .int part, .int (nI hp)] (ws) (fun u => da_R cI h aL aE aR aP aC (bm_on pk r j part hp Dd) u) ((bm_on pk r j part hp Dd).2.1.1 - Dd.2.1.1) (2 * 5 * ((bm_on pk r j part hp Dd).2.1.1 - Dd.2.1.1)) := by
  obtain ⟨wP, wC, rfl, kP, kC⟩ := hR
  obtain ⟨fsP, mP⟩ := kP.mem
  obtain ⟨fsC, mC⟩ := kC.mem
  have bP9 := kP.n
  have bC9 := kC.n
  refine ct_enterV (cc := b_Data_sendOn) (maxL := 7) (ret := none) (by decide +kernel) (Nat.le_of_ble_eq_true rfl) ?_
  intro p e s m args below meth c hx hb hml hr ht hown hlk hnm A Q hA hK hP hD hQ ls hl
  have hown : s.vm.findClass R_Data = some m.cls := hown
  have hS : va_S A s.heap s.heap [] := va_S.rf
  have hl : lv_has ls 7 [(0, .ref h), (1, .int (nI pk)), (2, .int (nI r)), (3, .int (nI j)), (4, .int part), (5, .int (nI hp))] := hl
  refine lv_iload hx hb d_Data_sendOn_0 (lv_at hl 5 rfl) ?_
  refine lv_sipush (v := nI 255) hx hb d_Data_sendOn_2 (by decide) ?_
  refine ri_icmp_lt hx hb hp3 (by omega) d_Data_sendOn_5 (tgt := 19) (by decide) (fun h1 => ?_) (fun h1 => ?_)
  · have hon : bm_on pk r j part hp Dd = (bm_set Dd.1 (pk - 1) 1 (Dd.1.2.2 (pk - 1) 1 + 1), (bm_push Dd.2.1 (bm_row5 (nI pk) (nI r) (nI j) part (nI (hp + 1)))), Dd.2.2.1, Dd.2.2.2.1, Dd.2.2.2.2) := if_neg (by omega)
    have gc1 : (bm_on pk r j part hp Dd).2.1.1 - Dd.2.1.1 = (bm_push Dd.2.1 (bm_row5 (nI pk) (nI r) (nI j) part (nI (hp + 1)))).1 - Dd.2.1.1 := by rw [hon]
    refine lv_aload_n hx hb d_Data_sendOn_19 rfl (lv_at hl 0 rfl) ?_
    refine va_get (D := D) (ci := 6) (v := .ref aP) (C := R_Data) (T := T_Data) (N := 8) hx hb ht in_Data hown hK hP 0 rfl rfl 3 (by decide) (ht _ kl_Data_14) (fun _ h9 => h9) rfl d_Data_sendOn_20 ?_
    refine lv_iload_n hx hb d_Data_sendOn_23 rfl (lv_at hl 1 rfl) ?_
    refine lv_iconst (v := nI 1) hx hb d_Data_sendOn_24 (by decide) ?_
    refine ri_isub hx hb (by omega) d_Data_sendOn_25 ?_
    refine lv_iconst (v := nI 1) hx hb d_Data_sendOn_26 (by decide) ?_
    refine lv_aload_n hx hb d_Data_sendOn_27 rfl (lv_at hl 0 rfl) ?_
    refine va_get (D := D) (ci := 6) (v := .ref aP) (C := R_Data) (T := T_Data) (N := 8) hx hb ht in_Data hown hK hP 0 rfl rfl 3 (by decide) (ht _ kl_Data_14) (fun _ h9 => h9) rfl d_Data_sendOn_28 ?_
    refine lv_iload_n hx hb d_Data_sendOn_31 rfl (lv_at hl 1 rfl) ?_
    refine lv_iconst (v := nI 1) hx hb d_Data_sendOn_32 (by decide) ?_
    refine ri_isub hx hb (by omega) d_Data_sendOn_33 ?_
    refine lv_iconst (v := nI 1) hx hb d_Data_sendOn_34 (by decide) ?_
    refine ct_rdV (C := R_Rows) (ci := 0) (As := [.int (nI (pk - 1)), .int (nI 1)]) (rest := [.int (nI 1), .int (nI (pk - 1)), .ref aP]) ⟨hx, hb, hml, hown, ht⟩ (k_Rows_get l D cI cZ cJ cG kP (pk - 1) 1 (by omega) (by decide)) (cb_V ht kc_Rows_get kl_Data_49 kn_Rows ki_Rows_get ks_Rows_get hd_Rows_get ⟨Nat.le_of_ble_eq_true rfl, Nat.le_of_ble_eq_true rfl⟩) (wd_mem 1 rfl mP) rfl rfl (wd_ct (Bs := [[(h, .inr (6, [.ref aL, .ref aE, .ref aR, .ref aP, .ref aC, .int Dd.2.2.1, .int Dd.2.2.2.1, .int Dd.2.2.2.2]))], wP, wC]) 3 rfl [1] [0, 2] (by decide) (wd_1 _)) hK hP hD hS hA rfl hl.1 rfl (Nat.le_of_ble_eq_true rfl) ⟨(show 0 + 0 ≤ ((bm_on pk r j part hp Dd).2.1.1 - Dd.2.1.1) by omega), (show 0 + 0 ≤ (2 * 5 * ((bm_on pk r j part hp Dd).2.1.1 - Dd.2.1.1)) by omega)⟩ d_Data_sendOn_35 (fun rhr2 H locs hr2 hP hD hS => ?_)
    subst hr2
    refine lv_iconst (v := nI 1) hx hb d_Data_sendOn_38 (by decide) ?_
    refine lv_iadd hx hb d_Data_sendOn_39 ?_
    refine ct_callVV (C := R_Rows) (ci := 0) (As := [.int (nI (pk - 1)), .int (nI 1), .int ((Dd.1.2.2 (pk - 1) 1) + (nI 1))]) (rest := []) ⟨hx, hb, hml, hown, ht⟩ (k_Rows_set l D cI cZ cJ cG kP (pk - 1) 1 ((Dd.1.2.2 (pk - 1) 1) + (nI 1)) (by omega) (by decide)) (cb_V ht kc_Rows_set kl_Data_89 kn_Rows ki_Rows_set ks_Rows_set hd_Rows_set ⟨Nat.le_of_ble_eq_true rfl, Nat.le_of_ble_eq_true rfl⟩) (wd_mem 1 rfl mP) rfl rfl (wd_ct (Bs := [[(h, .inr (6, [.ref aL, .ref aE, .ref aR, .ref aP, .ref aC, .int Dd.2.2.1, .int Dd.2.2.2.1, .int Dd.2.2.2.2]))], wP, wC]) 3 rfl [1] [0, 2] (by decide) (wd_1 _)) hK hP hD hS hA rfl hl.1 rfl (Nat.le_of_ble_eq_true rfl) ⟨(Nat.zero_le _), (Nat.zero_le _)⟩ d_Data_sendOn_40 (fun u3 H locs hu3 hP hD hS => ?_)
    have kP2 := hu3
    refine W.widen (k := 0) (n := 0) (Nat.le_refl _) (Nat.le_refl _) ?_
    have hP := wd_nP (N := [u3]) (wd_1 _) 3 rfl [1, 0, 2] (by decide) hP
    have hD := wd_nD (N := [u3]) (wd_1 _) 3 rfl [1, 0, 2] (by decide) hD
    have hP : va_P D kls (List.flatten [[(h, .inr (6, [.ref aL, .ref aE, .ref aR, .ref aP, .ref aC, .int Dd.2.2.1, .int Dd.2.2.2.1, .int Dd.2.2.2.2]))], u3, wC]) H := hP
    have hD : va_D A (List.flatten [[(h, .inr (6, [.ref aL, .ref aE, .ref aR, .ref aP, .ref aC, .int Dd.2.2.1, .int Dd.2.2.2.1, .int Dd.2.2.2.2]))], u3, wC]) := hD
    refine W.eq (g2 := F0 m 43 ls []) rfl ?_
    refine lv_aload_n hx hb d_Data_sendOn_43 rfl (lv_at hl 0 rfl) ?_
    refine va_get (D := D) (ci := 6) (v := .ref aC) (C := R_Data) (T := T_Data) (N := 8) hx hb ht in_Data hown hK hP 0 rfl rfl 4 (by decide) (ht _ kl_Data_20) (fun _ h9 => h9) rfl d_Data_sendOn_44 ?_
    refine ct_callVI (C := R_Rows) (ci := 0) (As := []) (rest := []) ⟨hx, hb, hml, hown, ht⟩ (k_Rows_add l D cI cZ cJ cG kC hc) (cb_V ht kc_Rows_add kl_Data_56 kn_Rows ki_Rows_add ks_Rows_add hd_Rows_add ⟨Nat.le_of_ble_eq_true rfl, Nat.le_of_ble_eq_true rfl⟩) (wd_mem 2 rfl mC) rfl rfl (wd_ct (Bs := [[(h, .inr (6, [.ref aL, .ref aE, .ref aR, .ref aP, .ref aC, .int Dd.2.2.1, .int Dd.2.2.2.1, .int Dd.2.2.2.2]))], u3, wC]) 3 rfl [2] [0, 1] (by decide) (wd_1 _)) hK hP hD hS hA rfl hl.1 rfl (Nat.le_of_ble_eq_true rfl) ⟨(show 0 + ((bm_push Dd.2.1 (bm_row5 (nI pk) (nI r) (nI j) part (nI (hp + 1)))).1 - Dd.2.1.1) ≤ (bm_on pk r j part hp Dd).2.1.1 - Dd.2.1.1 by omega), (show 0 + 2 * 5 * ((bm_push Dd.2.1 (bm_row5 (nI pk) (nI r) (nI j) part (nI (hp + 1)))).1 - Dd.2.1.1) ≤ 2 * 5 * ((bm_on pk r j part hp Dd).2.1.1 - Dd.2.1.1) by omega)⟩ d_Data_sendOn_47 (fun ru4 u4 H locs hu4 hP hD hS => ?_)
    obtain ⟨rfl, kA⟩ := hu4
    obtain ⟨fsA, mA⟩ := kA.mem
    refine W.widen (k := (bm_on pk r j part hp Dd).2.1.1 - Dd.2.1.1) (n := 2 * 5 * ((bm_on pk r j part hp Dd).2.1.1 - Dd.2.1.1)) (show 0 + ((bm_push Dd.2.1 (bm_row5 (nI pk) (nI r) (nI j) part (nI (hp + 1)))).1 - Dd.2.1.1) ≤ (bm_on pk r j part hp Dd).2.1.1 - Dd.2.1.1 by omega) (show 0 + 2 * 5 * ((bm_push Dd.2.1 (bm_row5 (nI pk) (nI r) (nI j) part (nI (hp + 1)))).1 - Dd.2.1.1) ≤ 2 * 5 * ((bm_on pk r j part hp Dd).2.1.1 - Dd.2.1.1) by omega) ?_
    have hP := wd_nP (N := [u4]) (wd_1 _) 3 rfl [1, 2, 0] (by decide) hP
    have hD := wd_nD (N := [u4]) (wd_1 _) 3 rfl [1, 2, 0] (by decide) hD
    have hP : va_P D kls (List.flatten [[(h, .inr (6, [.ref aL, .ref aE, .ref aR, .ref aP, .ref aC, .int Dd.2.2.1, .int Dd.2.2.2.1, .int Dd.2.2.2.2]))], u3, u4]) H := hP
    have hD : va_D A (List.flatten [[(h, .inr (6, [.ref aL, .ref aE, .ref aR, .ref aP, .ref aC, .int Dd.2.2.1, .int Dd.2.2.2.1, .int Dd.2.2.2.2]))], u3, u4]) := hD
    refine lv_istore hx hb d_Data_sendOn_50 hl (by decide) rfl (fun ls hl => ?_)
    have hl : lv_has ls 7 [(6, .int (nI Dd.2.1.2.1)), (0, .ref h), (1, .int (nI pk)), (2, .int (nI r)), (3, .int (nI j)), (4, .int part), (5, .int (nI hp))] := hl
    refine lv_aload_n hx hb d_Data_sendOn_52 rfl (lv_at hl 1 rfl) ?_
    refine va_get (D := D) (ci := 6) (v := .ref aC) (C := R_Data) (T := T_Data) (N := 8) hx hb ht in_Data hown hK hP 0 rfl rfl 4 (by decide) (ht _ kl_Data_20) (fun _ h9 => h9) rfl d_Data_sendOn_53 ?_
    refine lv_iload hx hb d_Data_sendOn_56 (lv_at hl 0 rfl) ?_
    refine lv_iconst (v := nI 0) hx hb d_Data_sendOn_58 (by decide) ?_
    refine lv_iload_n hx hb d_Data_sendOn_59 rfl (lv_at hl 2 rfl) ?_
    refine ct_callVV (C := R_Rows) (ci := 0) (As := [.int (nI Dd.2.1.2.1), .int (nI 0), .int (nI pk)]) (rest := []) ⟨hx, hb, hml, hown, ht⟩ (k_Rows_set l D cI cZ cJ cG kA (Dd.2.1.2.1) 0 (nI pk) (by omega) (by decide)) (cb_V ht kc_Rows_set kl_Data_89 kn_Rows ki_Rows_set ks_Rows_set hd_Rows_set ⟨Nat.le_of_ble_eq_true rfl, Nat.le_of_ble_eq_true rfl⟩) (wd_mem 2 rfl mA) rfl rfl (wd_ct (Bs := [[(h, .inr (6, [.ref aL, .ref aE, .ref aR, .ref aP, .ref aC, .int Dd.2.2.1, .int Dd.2.2.2.1, .int Dd.2.2.2.2]))], u3, u4]) 3 rfl [2] [0, 1] (by decide) (wd_1 _)) hK hP hD hS hA rfl hl.1 rfl (Nat.le_of_ble_eq_true rfl) ⟨(by simp only [Nat.add_zero]; exact Nat.le_refl _), (by simp only [Nat.add_zero]; exact Nat.le_refl _)⟩ d_Data_sendOn_60 (fun u5 H locs hu5 hP hD hS => ?_)
    have kS0 := hu5
    obtain ⟨fsS0, mS0⟩ := kS0.mem
    refine W.widen (k := (bm_on pk r j part hp Dd).2.1.1 - Dd.2.1.1) (n := 2 * 5 * ((bm_on pk r j part hp Dd).2.1.1 - Dd.2.1.1)) (Nat.le_refl _) (Nat.le_refl _) ?_
    have hP := wd_nP (N := [u5]) (wd_1 _) 3 rfl [1, 2, 0] (by decide) hP
    have hD := wd_nD (N := [u5]) (wd_1 _) 3 rfl [1, 2, 0] (by decide) hD
    have hP : va_P D kls (List.flatten [[(h, .inr (6, [.ref aL, .ref aE, .ref aR, .ref aP, .ref aC, .int Dd.2.2.1, .int Dd.2.2.2.1, .int Dd.2.2.2.2]))], u3, u5]) H := hP
    have hD : va_D A (List.flatten [[(h, .inr (6, [.ref aL, .ref aE, .ref aR, .ref aP, .ref aC, .int Dd.2.2.1, .int Dd.2.2.2.1, .int Dd.2.2.2.2]))], u3, u5]) := hD
    refine W.eq (g2 := F0 m 63 ls []) rfl ?_
    refine lv_aload_n hx hb d_Data_sendOn_63 rfl (lv_at hl 1 rfl) ?_
    refine va_get (D := D) (ci := 6) (v := .ref aC) (C := R_Data) (T := T_Data) (N := 8) hx hb ht in_Data hown hK hP 0 rfl rfl 4 (by decide) (ht _ kl_Data_20) (fun _ h9 => h9) rfl d_Data_sendOn_64 ?_
    refine lv_iload hx hb d_Data_sendOn_67 (lv_at hl 0 rfl) ?_
    refine lv_iconst (v := nI 1) hx hb d_Data_sendOn_69 (by decide) ?_
    refine lv_iload_n hx hb d_Data_sendOn_70 rfl (lv_at hl 3 rfl) ?_
    refine ct_callVV (C := R_Rows) (ci := 0) (As := [.int (nI Dd.2.1.2.1), .int (nI 1), .int (nI r)]) (rest := []) ⟨hx, hb, hml, hown, ht⟩ (k_Rows_set l D cI cZ cJ cG kS0 (Dd.2.1.2.1) 1 (nI r) (by omega) (by decide)) (cb_V ht kc_Rows_set kl_Data_89 kn_Rows ki_Rows_set ks_Rows_set hd_Rows_set ⟨Nat.le_of_ble_eq_true rfl, Nat.le_of_ble_eq_true rfl⟩) (wd_mem 2 rfl mS0) rfl rfl (wd_ct (Bs := [[(h, .inr (6, [.ref aL, .ref aE, .ref aR, .ref aP, .ref aC, .int Dd.2.2.1, .int Dd.2.2.2.1, .int Dd.2.2.2.2]))], u3, u5]) 3 rfl [2] [0, 1] (by decide) (wd_1 _)) hK hP hD hS hA rfl hl.1 rfl (Nat.le_of_ble_eq_true rfl) ⟨(by simp only [Nat.add_zero]; exact Nat.le_refl _), (by simp only [Nat.add_zero]; exact Nat.le_refl _)⟩ d_Data_sendOn_71 (fun u6 H locs hu6 hP hD hS => ?_)
    have kS1 := hu6
    obtain ⟨fsS1, mS1⟩ := kS1.mem
    refine W.widen (k := (bm_on pk r j part hp Dd).2.1.1 - Dd.2.1.1) (n := 2 * 5 * ((bm_on pk r j part hp Dd).2.1.1 - Dd.2.1.1)) (Nat.le_refl _) (Nat.le_refl _) ?_
    have hP := wd_nP (N := [u6]) (wd_1 _) 3 rfl [1, 2, 0] (by decide) hP
    have hD := wd_nD (N := [u6]) (wd_1 _) 3 rfl [1, 2, 0] (by decide) hD
    have hP : va_P D kls (List.flatten [[(h, .inr (6, [.ref aL, .ref aE, .ref aR, .ref aP, .ref aC, .int Dd.2.2.1, .int Dd.2.2.2.1, .int Dd.2.2.2.2]))], u3, u6]) H := hP
    have hD : va_D A (List.flatten [[(h, .inr (6, [.ref aL, .ref aE, .ref aR, .ref aP, .ref aC, .int Dd.2.2.1, .int Dd.2.2.2.1, .int Dd.2.2.2.2]))], u3, u6]) := hD
    refine W.eq (g2 := F0 m 74 ls []) rfl ?_
    refine lv_aload_n hx hb d_Data_sendOn_74 rfl (lv_at hl 1 rfl) ?_
    refine va_get (D := D) (ci := 6) (v := .ref aC) (C := R_Data) (T := T_Data) (N := 8) hx hb ht in_Data hown hK hP 0 rfl rfl 4 (by decide) (ht _ kl_Data_20) (fun _ h9 => h9) rfl d_Data_sendOn_75 ?_
    refine lv_iload hx hb d_Data_sendOn_78 (lv_at hl 0 rfl) ?_
    refine lv_iconst (v := nI 2) hx hb d_Data_sendOn_80 (by decide) ?_
    refine lv_iload_n hx hb d_Data_sendOn_81 rfl (lv_at hl 4 rfl) ?_
    refine ct_callVV (C := R_Rows) (ci := 0) (As := [.int (nI Dd.2.1.2.1), .int (nI 2), .int (nI j)]) (rest := []) ⟨hx, hb, hml, hown, ht⟩ (k_Rows_set l D cI cZ cJ cG kS1 (Dd.2.1.2.1) 2 (nI j) (by omega) (by decide)) (cb_V ht kc_Rows_set kl_Data_89 kn_Rows ki_Rows_set ks_Rows_set hd_Rows_set ⟨Nat.le_of_ble_eq_true rfl, Nat.le_of_ble_eq_true rfl⟩) (wd_mem 2 rfl mS1) rfl rfl (wd_ct (Bs := [[(h, .inr (6, [.ref aL, .ref aE, .ref aR, .ref aP, .ref aC, .int Dd.2.2.1, .int Dd.2.2.2.1, .int Dd.2.2.2.2]))], u3, u6]) 3 rfl [2] [0, 1] (by decide) (wd_1 _)) hK hP hD hS hA rfl hl.1 rfl (Nat.le_of_ble_eq_true rfl) ⟨(by simp only [Nat.add_zero]; exact Nat.le_refl _), (by simp only [Nat.add_zero]; exact Nat.le_refl _)⟩ d_Data_sendOn_82 (fun u7 H locs hu7 hP hD hS => ?_)
    have kS2 := hu7
    obtain ⟨fsS2, mS2⟩ := kS2.mem
    refine W.widen (k := (bm_on pk r j part hp Dd).2.1.1 - Dd.2.1.1) (n := 2 * 5 * ((bm_on pk r j part hp Dd).2.1.1 - Dd.2.1.1)) (Nat.le_refl _) (Nat.le_refl _) ?_
    have hP := wd_nP (N := [u7]) (wd_1 _) 3 rfl [1, 2, 0] (by decide) hP
    have hD := wd_nD (N := [u7]) (wd_1 _) 3 rfl [1, 2, 0] (by decide) hD
    have hP : va_P D kls (List.flatten [[(h, .inr (6, [.ref aL, .ref aE, .ref aR, .ref aP, .ref aC, .int Dd.2.2.1, .int Dd.2.2.2.1, .int Dd.2.2.2.2]))], u3, u7]) H := hP
    have hD : va_D A (List.flatten [[(h, .inr (6, [.ref aL, .ref aE, .ref aR, .ref aP, .ref aC, .int Dd.2.2.1, .int Dd.2.2.2.1, .int Dd.2.2.2.2]))], u3, u7]) := hD
    refine W.eq (g2 := F0 m 85 ls []) rfl ?_
    refine lv_aload_n hx hb d_Data_sendOn_85 rfl (lv_at hl 1 rfl) ?_
    refine va_get (D := D) (ci := 6) (v := .ref aC) (C := R_Data) (T := T_Data) (N := 8) hx hb ht in_Data hown hK hP 0 rfl rfl 4 (by decide) (ht _ kl_Data_20) (fun _ h9 => h9) rfl d_Data_sendOn_86 ?_
    refine lv_iload hx hb d_Data_sendOn_89 (lv_at hl 0 rfl) ?_
    refine lv_iconst (v := nI 3) hx hb d_Data_sendOn_91 (by decide) ?_
    refine lv_iload hx hb d_Data_sendOn_92 (lv_at hl 5 rfl) ?_
    refine ct_callVV (C := R_Rows) (ci := 0) (As := [.int (nI Dd.2.1.2.1), .int (nI 3), .int part]) (rest := []) ⟨hx, hb, hml, hown, ht⟩ (k_Rows_set l D cI cZ cJ cG kS2 (Dd.2.1.2.1) 3 (part) (by omega) (by decide)) (cb_V ht kc_Rows_set kl_Data_89 kn_Rows ki_Rows_set ks_Rows_set hd_Rows_set ⟨Nat.le_of_ble_eq_true rfl, Nat.le_of_ble_eq_true rfl⟩) (wd_mem 2 rfl mS2) rfl rfl (wd_ct (Bs := [[(h, .inr (6, [.ref aL, .ref aE, .ref aR, .ref aP, .ref aC, .int Dd.2.2.1, .int Dd.2.2.2.1, .int Dd.2.2.2.2]))], u3, u7]) 3 rfl [2] [0, 1] (by decide) (wd_1 _)) hK hP hD hS hA rfl hl.1 rfl (Nat.le_of_ble_eq_true rfl) ⟨(by simp only [Nat.add_zero]; exact Nat.le_refl _), (by simp only [Nat.add_zero]; exact Nat.le_refl _)⟩ d_Data_sendOn_94 (fun u8 H locs hu8 hP hD hS => ?_)
    have kS3 := hu8
    obtain ⟨fsS3, mS3⟩ := kS3.mem
    refine W.widen (k := (bm_on pk r j part hp Dd).2.1.1 - Dd.2.1.1) (n := 2 * 5 * ((bm_on pk r j part hp Dd).2.1.1 - Dd.2.1.1)) (Nat.le_refl _) (Nat.le_refl _) ?_
    have hP := wd_nP (N := [u8]) (wd_1 _) 3 rfl [1, 2, 0] (by decide) hP
    have hD := wd_nD (N := [u8]) (wd_1 _) 3 rfl [1, 2, 0] (by decide) hD
    have hP : va_P D kls (List.flatten [[(h, .inr (6, [.ref aL, .ref aE, .ref aR, .ref aP, .ref aC, .int Dd.2.2.1, .int Dd.2.2.2.1, .int Dd.2.2.2.2]))], u3, u8]) H := hP
    have hD : va_D A (List.flatten [[(h, .inr (6, [.ref aL, .ref aE, .ref aR, .ref aP, .ref aC, .int Dd.2.2.1, .int Dd.2.2.2.1, .int Dd.2.2.2.2]))], u3, u8]) := hD
    refine W.eq (g2 := F0 m 97 ls []) rfl ?_
    refine lv_aload_n hx hb d_Data_sendOn_97 rfl (lv_at hl 1 rfl) ?_
    refine va_get (D := D) (ci := 6) (v := .ref aC) (C := R_Data) (T := T_Data) (N := 8) hx hb ht in_Data hown hK hP 0 rfl rfl 4 (by decide) (ht _ kl_Data_20) (fun _ h9 => h9) rfl d_Data_sendOn_98 ?_
    refine lv_iload hx hb d_Data_sendOn_101 (lv_at hl 0 rfl) ?_
    refine lv_iconst (v := nI 4) hx hb d_Data_sendOn_103 (by decide) ?_
    refine lv_iload hx hb d_Data_sendOn_104 (lv_at hl 6 rfl) ?_
    refine lv_iconst (v := nI 1) hx hb d_Data_sendOn_106 (by decide) ?_
    refine ri_iadd hx hb d_Data_sendOn_107 ?_
    refine ct_callVV (C := R_Rows) (ci := 0) (As := [.int (nI Dd.2.1.2.1), .int (nI 4), .int (nI (hp + 1))]) (rest := []) ⟨hx, hb, hml, hown, ht⟩ (k_Rows_set l D cI cZ cJ cG kS3 (Dd.2.1.2.1) 4 (nI (hp + 1)) (by omega) (by decide)) (cb_V ht kc_Rows_set kl_Data_89 kn_Rows ki_Rows_set ks_Rows_set hd_Rows_set ⟨Nat.le_of_ble_eq_true rfl, Nat.le_of_ble_eq_true rfl⟩) (wd_mem 2 rfl mS3) rfl rfl (wd_ct (Bs := [[(h, .inr (6, [.ref aL, .ref aE, .ref aR, .ref aP, .ref aC, .int Dd.2.2.1, .int Dd.2.2.2.1, .int Dd.2.2.2.2]))], u3, u8]) 3 rfl [2] [0, 1] (by decide) (wd_1 _)) hK hP hD hS hA rfl hl.1 rfl (Nat.le_of_ble_eq_true rfl) ⟨(by simp only [Nat.add_zero]; exact Nat.le_refl _), (by simp only [Nat.add_zero]; exact Nat.le_refl _)⟩ d_Data_sendOn_108 (fun u9 H locs hu9 hP hD hS => ?_)
    have kS4 := hu9
    obtain ⟨fsS4, mS4⟩ := kS4.mem
    refine W.widen (k := (bm_on pk r j part hp Dd).2.1.1 - Dd.2.1.1) (n := 2 * 5 * ((bm_on pk r j part hp Dd).2.1.1 - Dd.2.1.1)) (Nat.le_refl _) (Nat.le_refl _) ?_
    have hP := wd_nP (N := [u9]) (wd_1 _) 3 rfl [1, 2, 0] (by decide) hP
    have hD := wd_nD (N := [u9]) (wd_1 _) 3 rfl [1, 2, 0] (by decide) hD
    have hP : va_P D kls (List.flatten [[(h, .inr (6, [.ref aL, .ref aE, .ref aR, .ref aP, .ref aC, .int Dd.2.2.1, .int Dd.2.2.2.1, .int Dd.2.2.2.2]))], u3, u9]) H := hP
    have hD : va_D A (List.flatten [[(h, .inr (6, [.ref aL, .ref aE, .ref aR, .ref aP, .ref aC, .int Dd.2.2.1, .int Dd.2.2.2.1, .int Dd.2.2.2.2]))], u3, u9]) := hD
    refine W.eq (g2 := F0 m 111 ls []) rfl ?_
    have hend : rw_R cI 5 (bm_push Dd.2.1 (bm_row5 (nI pk) (nI r) (nI j) part (nI (hp + 1)))).1 (bm_push Dd.2.1 (bm_row5 (nI pk) (nI r) (nI j) part (nI (hp + 1)))).2.1 (bm_push Dd.2.1 (bm_row5 (nI pk) (nI r) (nI j) part (nI (hp + 1)))).2.2 aC u9 := by
      refine rw_R.congr kS4 (fun a x ha hx => ?_)
      have ha : a < Dd.2.1.2.1 + 1 := ha
      show _ = (if a = Dd.2.1.2.1 then (bm_row5 (nI pk) (nI r) (nI j) part (nI (hp + 1))) else Dd.2.1.2.2 a) x
      show (if a = Dd.2.1.2.1 ∧ x = 4 then _ else if a = Dd.2.1.2.1 ∧ x = 3 then _ else if a = Dd.2.1.2.1 ∧ x = 2 then _ else if a = Dd.2.1.2.1 ∧ x = 1 then _ else if a = Dd.2.1.2.1 ∧ x = 0 then _ else (if a = Dd.2.1.2.1 then (fun _ => (0 : Int32)) else Dd.2.1.2.2 a) x) = _
      by_cases e : a = Dd.2.1.2.1
      · rw [if_pos e, if_pos e]
        unfold bm_row5
        by_cases e0 : x = 0
        · rw [if_neg (by omega), if_neg (by omega), if_neg (by omega), if_neg (by omega), if_pos ⟨e, e0⟩, if_pos e0]
        · by_cases e1 : x = 1
          · rw [if_neg (by omega), if_neg (by omega), if_neg (by omega), if_pos ⟨e, e1⟩, if_neg e0, if_pos e1]
          · by_cases e2 : x = 2
            · rw [if_neg (by omega), if_neg (by omega), if_pos ⟨e, e2⟩, if_neg e0, if_neg e1, if_pos e2]
            · by_cases e3 : x = 3
              · rw [if_neg (by omega), if_pos ⟨e, e3⟩, if_neg e0, if_neg e1, if_neg e2, if_pos e3]
              · rw [if_pos ⟨e, by omega⟩, if_neg e0, if_neg e1, if_neg e2, if_neg e3]
      · rw [if_neg (fun z => e z.1), if_neg (fun z => e z.1), if_neg (fun z => e z.1), if_neg (fun z => e z.1), if_neg (fun z => e z.1), if_neg e, if_neg e]
    exact ct_vret hQ hx hb hr hlk hP hD hS hK (by omega) (by omega) d_Data_sendOn_111 (by rw [hon]; exact ⟨u3, u9, rfl, kP2, hend⟩)
  · refine lv_aload_n hx hb d_Data_sendOn_8 rfl (lv_at hl 0 rfl) ?_
    refine lv_dup hx hb d_Data_sendOn_9 rfl ?_
    refine va_get (D := D) (ci := 6) (v := .int Dd.2.2.2.1) (C := R_Data) (T := T_Data) (N := 8) hx hb ht in_Data hown hK hP 0 rfl rfl 6 (by decide) (ht _ kl_Data_43) (fun _ h9 => h9) rfl d_Data_sendOn_10 ?_
    refine lv_iconst (v := nI 1) hx hb d_Data_sendOn_13 (by decide) ?_
    refine lv_iadd hx hb d_Data_sendOn_14 ?_
    refine va_put (D := D) (ci := 6) (v := .int (Dd.2.2.2.1 + (nI 1))) (ty := .int) (C := R_Data) (T := T_Data) (N := 8) hx hb ht in_Data t_Data ok_Data nm_Data hown hK hP hD hS 0 rfl rfl 6 (by decide) (ht _ kl_Data_43) (fun _ h9 => h9) rfl (by decide +kernel) rfl rfl (Nat.le_of_ble_eq_true rfl) d_Data_sendOn_15 (fun H locs hP hD hS => ?_)
    have hP : va_P D kls (List.flatten [[(h, .inr (6, [.ref aL, .ref aE, .ref aR, .ref aP, .ref aC, .int Dd.2.2.1, .int (Dd.2.2.2.1 + (nI 1)), .int Dd.2.2.2.2]))], wP, wC]) H := hP
    have hD : va_D A (List.flatten [[(h, .inr (6, [.ref aL, .ref aE, .ref aR, .ref aP, .ref aC, .int Dd.2.2.1, .int (Dd.2.2.2.1 + (nI 1)), .int Dd.2.2.2.2]))], wP, wC]) := hD
    have hon : bm_on pk r j part hp Dd = (Dd.1, Dd.2.1, Dd.2.2.1, Dd.2.2.2.1 + 1, Dd.2.2.2.2) := if_pos (by omega)
    exact ct_vret hQ hx hb hr hlk hP hD hS hK (by omega) (by omega) d_Data_sendOn_18 (by rw [hon]; exact ⟨wP, wC, rfl, kP, kC⟩)
