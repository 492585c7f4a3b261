/-! Control: advertise, greet, receive, deliverOldest, neighboursAgree. -/
set_option maxHeartbeats 4000000 in
set_option maxRecDepth 100000 in
theorem k_Control_advertise (l : Launch) (D : va_G) (cI cZ cJ cG : ClassId) {h aL aS aM : Nat} {lk kn : Nat → Nat → Nat} {T : bm_T} {lost : Int32} {ws : va_W} (hR : co_R cI cG h aL aS aM lk kn T lost ws) (hok : bm_ok T) (hkn : ∀ a b, kn a b ≤ 1000) (hlk9 : ∀ a b, lk a b ≤ 2) (r : Nat) (hr9 : r < 12) (hc : bm_cap (bm_adv kn r T)) : ct_V l D kls (ty4 cI cZ cJ cG) y_Control_advertise ws_Control_advertise (rm_ 5 121 (bm_gc T (bm_adv kn r T)) (bm_gs T (bm_adv kn r T))) [.ref h, .int (nI r)] (ws) (fun u => co_R cI cG h aL aS aM lk kn (bm_adv kn r T) lost u) (bm_gc T (bm_adv kn r T)) (bm_gs T (bm_adv kn r T)) := by
  have hl1 : ∀ a b, lk a b < 2147483648 := fun a b => Nat.lt_of_le_of_lt (hlk9 a b) (by decide)
  have hl2 : ∀ a b, kn a b < 2147483648 := fun a b => Nat.lt_of_le_of_lt (hkn a b) (by decide)
  obtain ⟨wL, wS, wM, rfl, kL, kS, kM⟩ := hR
  obtain ⟨fsL, mL⟩ := kL.mem
  obtain ⟨fsS, mS⟩ := kS.mem
  obtain ⟨fsM, mM⟩ := kM.mem
  have bM := kM.n
  refine ct_enterV (cc := b_Control_advertise) (maxL := 3) (ret := none) (by decide +kernel) (Nat.le_of_ble_eq_true rfl) ?_
  intro p e s m args below meth c hx hb hml hr ht hown hlk hnm A Q hA hK hP hD hQ ls hl
  have hown : s.vm.findClass R_Control = some m.cls := hown
  have hS : va_S A s.heap s.heap [] := va_S.rf
  have hl : lv_has ls 3 [(0, .ref h), (1, .int (nI r))] := hl
  have hcT : bm_cap T := bm_cap.of (bm_adv_le kn r T) hc
  have hna : T.1.2.1 ≤ 50000 := Nat.le_trans hok.2.2.2.2 hcT.1
  have hgc : bm_gc T (bm_adv kn r T) = ((bm_push T.1 (bm_adrow r (T.1.2.2 (T.2.1 r r) 1 + 1) (kn r))).1 - T.1.1) + ((bm_sa kn none r T.1.2.1 T.2.2.1 12).1 - T.2.2.1.1) := rfl
  have hgs : bm_gs T (bm_adv kn r T) = 2 * 14 * ((bm_push T.1 (bm_adrow r (T.1.2.2 (T.2.1 r r) 1 + 1) (kn r))).1 - T.1.1) + 2 * 3 * ((bm_sa kn none r T.1.2.1 T.2.2.1 12).1 - T.2.2.1.1) := rfl
  refine lv_aload_n hx hb d_Control_advertise_0 rfl (lv_at hl 0 rfl) ?_
  refine va_get (D := D) (ci := 4) (v := .ref aS) (C := R_Control) (T := T_Control) (N := 4) hx hb ht in_Control hown hK hP 0 rfl rfl 1 (by decide) (ht _ kl_Control_24) (fun _ h9 => h9) rfl d_Control_advertise_1 ?_
  refine lv_iload_n hx hb d_Control_advertise_4 rfl (lv_at hl 1 rfl) ?_
  refine lv_aload_n hx hb d_Control_advertise_5 rfl (lv_at hl 0 rfl) ?_
  refine va_get (D := D) (ci := 4) (v := .ref aL) (C := R_Control) (T := T_Control) (N := 4) hx hb ht in_Control hown hK hP 0 rfl rfl 0 (by decide) (ht _ kl_Control_20) (fun _ h9 => h9) rfl d_Control_advertise_6 ?_
  refine ct_callVI (C := R_Stores) (ci := 3) (As := [.int (nI r), .ref aL]) (rest := []) ⟨hx, hb, hml, hown, ht⟩ (k_Stores_makeAdvert l D cI cZ cJ cG kS kL r hr9 (hok.1 r r hr9 hr9) hcT.1) (cb_V ht kc_Stores_makeAdvert kl_Control_49 kn_Stores ki_Stores_makeAdvert ks_Stores_makeAdvert hd_Stores_makeAdvert ⟨Nat.le_of_ble_eq_true rfl, Nat.le_of_ble_eq_true rfl⟩) (wd_mem 2 rfl mS) rfl rfl (wd_ct (Bs := [[(h, .inr (4, [.ref aL, .ref aS, .ref aM, .int lost]))], wL, wS, wM]) 4 rfl [2, 1] [0, 3] (by decide) rfl) hK hP hD hS hA rfl hl.1 rfl (Nat.le_of_ble_eq_true rfl) ⟨(show 0 + ((bm_push T.1 (bm_adrow r (T.1.2.2 (T.2.1 r r) 1 + 1) (kn r))).1 - T.1.1) ≤ bm_gc T (bm_adv kn r T) by omega), (show 0 + 2 * 14 * ((bm_push T.1 (bm_adrow r (T.1.2.2 (T.2.1 r r) 1 + 1) (kn r))).1 - T.1.1) ≤ bm_gs T (bm_adv kn r T) by omega)⟩ d_Control_advertise_9 (fun ru1 u1 H locs hu1 hP hD hS => ?_)
  obtain ⟨rfl, wS2, rfl, kS2⟩ := hu1
  obtain ⟨fsS2, mS2⟩ := kS2.mem
  refine W.widen (k := (bm_push T.1 (bm_adrow r (T.1.2.2 (T.2.1 r r) 1 + 1) (kn r))).1 - T.1.1) (n := 2 * 14 * ((bm_push T.1 (bm_adrow r (T.1.2.2 (T.2.1 r r) 1 + 1) (kn r))).1 - T.1.1)) (Nat.le_of_eq (Nat.zero_add _)) (Nat.le_of_eq (Nat.zero_add _)) ?_
  have hP := wd_nP (N := [wS2, wL]) rfl 4 rfl [2, 1, 0, 3] (by decide) hP
  have hD := wd_nD (N := [wS2, wL]) rfl 4 rfl [2, 1, 0, 3] (by decide) hD
  have hP : va_P D kls (List.flatten [[(h, .inr (4, [.ref aL, .ref aS, .ref aM, .int lost]))], wL, wS2, wM]) H := hP
  have hD : va_D A (List.flatten [[(h, .inr (4, [.ref aL, .ref aS, .ref aM, .int lost]))], wL, wS2, wM]) := hD
  refine lv_istore_n hx hb d_Control_advertise_12 rfl hl (by decide) rfl (fun ls hl => ?_)
  have hl : lv_has ls 3 [(2, .int (nI T.1.2.1)), (0, .ref h), (1, .int (nI r))] := hl
  refine lv_aload_n hx hb d_Control_advertise_13 rfl (lv_at hl 1 rfl) ?_
  refine va_get (D := D) (ci := 4) (v := .ref aS) (C := R_Control) (T := T_Control) (N := 4) hx hb ht in_Control hown hK hP 0 rfl rfl 1 (by decide) (ht _ kl_Control_24) (fun _ h9 => h9) rfl d_Control_advertise_14 ?_
  refine lv_iload_n hx hb d_Control_advertise_17 rfl (lv_at hl 2 rfl) ?_
  refine lv_iload_n hx hb d_Control_advertise_18 rfl (lv_at hl 0 rfl) ?_
  have ho : (bm_push T.1 (bm_adrow r (T.1.2.2 (T.2.1 r r) 1 + 1) (kn r))).2.2 T.1.2.1 0 = r := by rw [bm_push_at]; rfl
  refine ct_callVV (C := R_Stores) (ci := 3) (As := [.int (nI r), .int (nI T.1.2.1)]) (rest := []) ⟨hx, hb, hml, hown, ht⟩ (k_Stores_keep l D cI cZ cJ cG kS2 r T.1.2.1 hr9 (Nat.lt_succ_self _) (by rw [ho]; exact hr9)) (cb_V ht kc_Stores_keep kl_Control_53 kn_Stores ki_Stores_keep ks_Stores_keep hd_Stores_keep ⟨Nat.le_of_ble_eq_true rfl, Nat.le_of_ble_eq_true rfl⟩) (wd_mem 2 rfl mS2) rfl rfl (wd_ct (Bs := [[(h, .inr (4, [.ref aL, .ref aS, .ref aM, .int lost]))], wL, wS2, wM]) 4 rfl [2] [0, 1, 3] (by decide) (wd_1 _)) hK hP hD hS hA rfl hl.1 rfl (Nat.le_of_ble_eq_true rfl) ⟨(show ((bm_push T.1 (bm_adrow r (T.1.2.2 (T.2.1 r r) 1 + 1) (kn r))).1 - T.1.1) + 0 ≤ bm_gc T (bm_adv kn r T) by omega), (show 2 * 14 * ((bm_push T.1 (bm_adrow r (T.1.2.2 (T.2.1 r r) 1 + 1) (kn r))).1 - T.1.1) + 0 ≤ bm_gs T (bm_adv kn r T) by omega)⟩ d_Control_advertise_19 (fun u2 H locs hu2 hP hD hS => ?_)
  have kS3 := hu2
  rw [ho] at kS3
  obtain ⟨fsS3, mS3⟩ := kS3.mem
  refine W.widen (k := (bm_push T.1 (bm_adrow r (T.1.2.2 (T.2.1 r r) 1 + 1) (kn r))).1 - T.1.1) (n := 2 * 14 * ((bm_push T.1 (bm_adrow r (T.1.2.2 (T.2.1 r r) 1 + 1) (kn r))).1 - T.1.1)) (Nat.le_refl _) (Nat.le_refl _) ?_
  have hP := wd_nP (N := [u2]) (wd_1 _) 4 rfl [1, 2, 0, 3] (by decide) hP
  have hD := wd_nD (N := [u2]) (wd_1 _) 4 rfl [1, 2, 0, 3] (by decide) hD
  have hP : va_P D kls (List.flatten [[(h, .inr (4, [.ref aL, .ref aS, .ref aM, .int lost]))], wL, u2, wM]) H := hP
  have hD : va_D A (List.flatten [[(h, .inr (4, [.ref aL, .ref aS, .ref aM, .int lost]))], wL, u2, wM]) := hD
  refine W.eq (g2 := F0 m 22 ls []) rfl ?_
  refine lv_aload_n hx hb d_Control_advertise_22 rfl (lv_at hl 1 rfl) ?_
  refine lv_iconst (v := (-1)) hx hb d_Control_advertise_23 (by decide) ?_
  refine lv_iload_n hx hb d_Control_advertise_24 rfl (lv_at hl 2 rfl) ?_
  refine lv_iload_n hx hb d_Control_advertise_25 rfl (lv_at hl 0 rfl) ?_
  have hR3 : co_R cI cG h aL aS aM lk kn ((bm_push T.1 (bm_adrow r (T.1.2.2 (T.2.1 r r) 1 + 1) (kn r))), bm_up2 T.2.1 r r T.1.2.1, T.2.2.1, bm_up1 T.2.2.2 r (T.2.2.2 r + 1)) lost (List.flatten [[(h, .inr (4, [.ref aL, .ref aS, .ref aM, .int lost]))], wL, u2, wM]) := ⟨wL, u2, wM, rfl, kL, kS3, kM⟩
  refine ct_callVV (C := R_Control) (ci := 4) (As := [.int ((-1)), .int (nI r), .int (nI T.1.2.1)]) (rest := []) ⟨hx, hb, hml, hown, ht⟩ (k_Control_sendToAllBut l D cI cZ cJ cG hR3 hl1 hl2 none r T.1.2.1 (fun e z => by cases z) hr9 hc.2) (cb_V ht kc_Control_sendToAllBut kl_Control_56 kn_Control ki_Control_sendToAllBut ks_Control_sendToAllBut hd_Control_sendToAllBut ⟨Nat.le_of_ble_eq_true rfl, Nat.le_of_ble_eq_true rfl⟩) (List.mem_of_getElem? (i := 0) rfl) rfl rfl (pm_all _) hK hP hD hS hA rfl hl.1 rfl (Nat.le_of_ble_eq_true rfl) ⟨(show ((bm_push T.1 (bm_adrow r (T.1.2.2 (T.2.1 r r) 1 + 1) (kn r))).1 - T.1.1) + ((bm_sa kn none r T.1.2.1 T.2.2.1 12).1 - T.2.2.1.1) ≤ bm_gc T (bm_adv kn r T) by omega), (show 2 * 14 * ((bm_push T.1 (bm_adrow r (T.1.2.2 (T.2.1 r r) 1 + 1) (kn r))).1 - T.1.1) + 2 * 3 * ((bm_sa kn none r T.1.2.1 T.2.2.1 12).1 - T.2.2.1.1) ≤ bm_gs T (bm_adv kn r T) by omega)⟩ d_Control_advertise_26 (fun u3 H locs hu3 hP hD hS => ?_)
  have hu9 := hu3
  obtain ⟨wL4, wS4, wM4, rfl, kL4, kS4, kM4⟩ := hu9
  refine W.widen (k := bm_gc T (bm_adv kn r T)) (n := bm_gs T (bm_adv kn r T)) (Nat.le_of_eq hgc.symm) (Nat.le_of_eq hgs.symm) ?_
  rw [List.append_nil] at hP hD
  have hP : va_P D kls (List.flatten [[(h, .inr (4, [.ref aL, .ref aS, .ref aM, .int lost]))], wL4, wS4, wM4]) H := hP
  have hD : va_D A (List.flatten [[(h, .inr (4, [.ref aL, .ref aS, .ref aM, .int lost]))], wL4, wS4, wM4]) := hD
  refine W.eq (g2 := F0 m 29 ls []) rfl ?_
  exact ct_vret hQ hx hb hr hlk hP hD hS hK (by omega) (by omega) d_Control_advertise_29 (⟨wL4, wS4, wM4, rfl, kL4, kS4, kM4⟩)
set_option maxHeartbeats 4000000 in
set_option maxRecDepth 100000 in
theorem k_Control_greet (l : Launch) (D : va_G) (cI cZ cJ cG : ClassId) {h aL aS aM : Nat} {lk kn : Nat → Nat → Nat} {T : bm_T} {lost : Int32} {ws : va_W} (hR : co_R cI cG h aL aS aM lk kn T lost ws) (hok : bm_ok T) (hkn : ∀ a b, kn a b ≤ 1000) (hlk9 : ∀ a b, lk a b ≤ 2) (a b : Nat) (ha : a < 12) (hb9 : b < 12) (hc : bm_cap (bm_greet kn a b T)) : ct_V l D kls (ty4 cI cZ cJ cG) y_Control_greet ws_Control_greet (rm_ 6 143 (bm_gc T (bm_greet kn a b T)) (bm_gs T (bm_greet kn a b T))) [.ref h, .int (nI a), .int (nI b)] (ws) (fun u => co_R cI cG h aL aS aM lk kn (bm_greet kn a b T) lost u) (bm_gc T (bm_greet kn a b T)) (bm_gs T (bm_greet kn a b T)) := by
  have hl1 : ∀ a b, lk a b < 2147483648 := fun a b => Nat.lt_of_le_of_lt (hlk9 a b) (by decide)
  have hl2 : ∀ a b, kn a b < 2147483648 := fun a b => Nat.lt_of_le_of_lt (hkn a b) (by decide)
  obtain ⟨wL, wS, wM, rfl, kL, kS, kM⟩ := hR
  refine ct_enterV (cc := b_Control_greet) (maxL := 3) (ret := none) (by decide +kernel) (Nat.le_of_ble_eq_true rfl) ?_
  intro p e s m args below meth c hx hb hml hr ht hown hlk hnm A Q hA hK hP hD hQ ls hl
  have hown : s.vm.findClass R_Control = some m.cls := hown
  have hS : va_S A s.heap s.heap [] := va_S.rf
  have hl : lv_has ls 3 [(0, .ref h), (1, .int (nI a)), (2, .int (nI b))] := hl
  have e1 := bm_adv_le kn a T
  have e2 := bm_adv_le kn b (bm_adv kn a T)
  have e3 := bm_sst_le a b (bm_adv kn b (bm_adv kn a T))
  have e4 := bm_sst_le b a (bm_sst a b (bm_adv kn b (bm_adv kn a T)))
  have o1 := bm_adv_ok (r := a) hok ha hkn
  have o2 := bm_adv_ok (r := b) o1 hb9 hkn
  have o3 := bm_sst_ok (a := a) (b := b) o2 ha hb9
  have c3 := bm_cap.of e4 hc
  have c2 := bm_cap.of e3 c3
  have c1 := bm_cap.of e2 c2
  have d1 := bm_gc_tr e1 e2
  have d2 := bm_gc_tr (e1.tr e2) e3
  have d3 := bm_gc_tr ((e1.tr e2).tr e3) e4
  have s1 := bm_gs_tr e1 e2
  have s2 := bm_gs_tr (e1.tr e2) e3
  have s3 := bm_gs_tr ((e1.tr e2).tr e3) e4
  have dz : bm_gc T (bm_greet kn a b T) = bm_gc T (bm_sst b a (bm_sst a b (bm_adv kn b (bm_adv kn a T)))) := rfl
  have sz : bm_gs T (bm_greet kn a b T) = bm_gs T (bm_sst b a (bm_sst a b (bm_adv kn b (bm_adv kn a T)))) := rfl
  have kL0 := kL
  have kS0 := kS
  have kM0 := kM
  refine lv_aload_n hx hb d_Control_greet_0 rfl (lv_at hl 0 rfl) ?_
  refine lv_iload_n hx hb d_Control_greet_1 rfl (lv_at hl 1 rfl) ?_
  have hR0 : co_R cI cG h aL aS aM lk kn (T) lost (List.flatten [[(h, .inr (4, [.ref aL, .ref aS, .ref aM, .int lost]))], wL, wS, wM]) := ⟨wL, wS, wM, rfl, kL0, kS0, kM0⟩
  refine ct_callVV (C := R_Control) (ci := 4) (As := [.int (nI a)]) (rest := []) ⟨hx, hb, hml, hown, ht⟩ (k_Control_advertise l D cI cZ cJ cG hR0 hok hkn hlk9 a ha c1) (cb_V ht kc_Control_advertise kl_Control_42 kn_Control ki_Control_advertise ks_Control_advertise hd_Control_advertise ⟨Nat.le_of_ble_eq_true rfl, Nat.le_of_ble_eq_true rfl⟩) (List.mem_of_getElem? (i := 0) rfl) rfl rfl (pm_all _) hK hP hD hS hA rfl hl.1 rfl (Nat.le_of_ble_eq_true rfl) ⟨(show 0 + (bm_gc (T) (bm_adv kn a T)) ≤ bm_gc T (bm_greet kn a b T) by omega), (show 0 + (bm_gs (T) (bm_adv kn a T)) ≤ bm_gs T (bm_greet kn a b T) by omega)⟩ d_Control_greet_2 (fun u1 H locs hu1 hP hD hS => ?_)
  obtain ⟨wL1, wS1, wM1, rfl, kL1, kS1, kM1⟩ := hu1
  refine W.widen (k := bm_gc T (bm_adv kn a T)) (n := bm_gs T (bm_adv kn a T)) (show 0 + (bm_gc (T) (bm_adv kn a T)) ≤ bm_gc T (bm_adv kn a T) by omega) (show 0 + (bm_gs (T) (bm_adv kn a T)) ≤ bm_gs T (bm_adv kn a T) by omega) ?_
  rw [List.append_nil] at hP hD
  have hP : va_P D kls (List.flatten [[(h, .inr (4, [.ref aL, .ref aS, .ref aM, .int lost]))], wL1, wS1, wM1]) H := hP
  have hD : va_D A (List.flatten [[(h, .inr (4, [.ref aL, .ref aS, .ref aM, .int lost]))], wL1, wS1, wM1]) := hD
  refine W.eq (g2 := F0 m 5 ls []) rfl ?_
  refine lv_aload_n hx hb d_Control_greet_5 rfl (lv_at hl 0 rfl) ?_
  refine lv_iload_n hx hb d_Control_greet_6 rfl (lv_at hl 2 rfl) ?_
  have hR1 : co_R cI cG h aL aS aM lk kn (bm_adv kn a T) lost (List.flatten [[(h, .inr (4, [.ref aL, .ref aS, .ref aM, .int lost]))], wL1, wS1, wM1]) := ⟨wL1, wS1, wM1, rfl, kL1, kS1, kM1⟩
  refine ct_callVV (C := R_Control) (ci := 4) (As := [.int (nI b)]) (rest := []) ⟨hx, hb, hml, hown, ht⟩ (k_Control_advertise l D cI cZ cJ cG hR1 o1 hkn hlk9 b hb9 c2) (cb_V ht kc_Control_advertise kl_Control_42 kn_Control ki_Control_advertise ks_Control_advertise hd_Control_advertise ⟨Nat.le_of_ble_eq_true rfl, Nat.le_of_ble_eq_true rfl⟩) (List.mem_of_getElem? (i := 0) rfl) rfl rfl (pm_all _) hK hP hD hS hA rfl hl.1 rfl (Nat.le_of_ble_eq_true rfl) ⟨(show (bm_gc T (bm_adv kn a T)) + (bm_gc (bm_adv kn a T) (bm_adv kn b (bm_adv kn a T))) ≤ bm_gc T (bm_greet kn a b T) by omega), (show (bm_gs T (bm_adv kn a T)) + (bm_gs (bm_adv kn a T) (bm_adv kn b (bm_adv kn a T))) ≤ bm_gs T (bm_greet kn a b T) by omega)⟩ d_Control_greet_7 (fun u2 H locs hu2 hP hD hS => ?_)
  obtain ⟨wL2, wS2, wM2, rfl, kL2, kS2, kM2⟩ := hu2
  refine W.widen (k := bm_gc T (bm_adv kn b (bm_adv kn a T))) (n := bm_gs T (bm_adv kn b (bm_adv kn a T))) (show (bm_gc T (bm_adv kn a T)) + (bm_gc (bm_adv kn a T) (bm_adv kn b (bm_adv kn a T))) ≤ bm_gc T (bm_adv kn b (bm_adv kn a T)) by omega) (show (bm_gs T (bm_adv kn a T)) + (bm_gs (bm_adv kn a T) (bm_adv kn b (bm_adv kn a T))) ≤ bm_gs T (bm_adv kn b (bm_adv kn a T)) by omega) ?_
  rw [List.append_nil] at hP hD
  have hP : va_P D kls (List.flatten [[(h, .inr (4, [.ref aL, .ref aS, .ref aM, .int lost]))], wL2, wS2, wM2]) H := hP
  have hD : va_D A (List.flatten [[(h, .inr (4, [.ref aL, .ref aS, .ref aM, .int lost]))], wL2, wS2, wM2]) := hD
  refine W.eq (g2 := F0 m 10 ls []) rfl ?_
  refine lv_aload_n hx hb d_Control_greet_10 rfl (lv_at hl 0 rfl) ?_
  refine lv_iload_n hx hb d_Control_greet_11 rfl (lv_at hl 1 rfl) ?_
  refine lv_iload_n hx hb d_Control_greet_12 rfl (lv_at hl 2 rfl) ?_
  have hR2 : co_R cI cG h aL aS aM lk kn (bm_adv kn b (bm_adv kn a T)) lost (List.flatten [[(h, .inr (4, [.ref aL, .ref aS, .ref aM, .int lost]))], wL2, wS2, wM2]) := ⟨wL2, wS2, wM2, rfl, kL2, kS2, kM2⟩
  have gg2 : bm_gc (bm_adv kn b (bm_adv kn a T)) (bm_sst a b (bm_adv kn b (bm_adv kn a T))) = (bm_ss (bm_adv kn b (bm_adv kn a T)).2.1 a b (bm_adv kn b (bm_adv kn a T)).2.2.1 12).1 - (bm_adv kn b (bm_adv kn a T)).2.2.1.1 := by show ((bm_adv kn b (bm_adv kn a T)).1.1 - (bm_adv kn b (bm_adv kn a T)).1.1) + ((bm_ss (bm_adv kn b (bm_adv kn a T)).2.1 a b (bm_adv kn b (bm_adv kn a T)).2.2.1 12).1 - (bm_adv kn b (bm_adv kn a T)).2.2.1.1) = _; omega
  have gs2 : bm_gs (bm_adv kn b (bm_adv kn a T)) (bm_sst a b (bm_adv kn b (bm_adv kn a T))) = 2 * 3 * ((bm_ss (bm_adv kn b (bm_adv kn a T)).2.1 a b (bm_adv kn b (bm_adv kn a T)).2.2.1 12).1 - (bm_adv kn b (bm_adv kn a T)).2.2.1.1) := by show 2 * 14 * ((bm_adv kn b (bm_adv kn a T)).1.1 - (bm_adv kn b (bm_adv kn a T)).1.1) + 2 * 3 * ((bm_ss (bm_adv kn b (bm_adv kn a T)).2.1 a b (bm_adv kn b (bm_adv kn a T)).2.2.1 12).1 - (bm_adv kn b (bm_adv kn a T)).2.2.1.1) = _; omega
  refine ct_callVV (C := R_Control) (ci := 4) (As := [.int (nI a), .int (nI b)]) (rest := []) ⟨hx, hb, hml, hown, ht⟩ (k_Control_sendStore l D cI cZ cJ cG hR2 a b ha hb9 (fun x hx => Nat.lt_of_lt_of_le (o2.1 a x ha hx) (Nat.le_trans o2.2.2.2.2 (Nat.le_trans c2.1 (by decide)))) c3.2) (cb_V ht kc_Control_sendStore kl_Control_45 kn_Control ki_Control_sendStore ks_Control_sendStore hd_Control_sendStore ⟨Nat.le_of_ble_eq_true rfl, Nat.le_of_ble_eq_true rfl⟩) (List.mem_of_getElem? (i := 0) rfl) rfl rfl (pm_all _) hK hP hD hS hA rfl hl.1 rfl (Nat.le_of_ble_eq_true rfl) ⟨(show (bm_gc T (bm_adv kn b (bm_adv kn a T))) + ((bm_ss (bm_adv kn b (bm_adv kn a T)).2.1 a b (bm_adv kn b (bm_adv kn a T)).2.2.1 12).1 - (bm_adv kn b (bm_adv kn a T)).2.2.1.1) ≤ bm_gc T (bm_greet kn a b T) by omega), (show (bm_gs T (bm_adv kn b (bm_adv kn a T))) + (2 * 3 * ((bm_ss (bm_adv kn b (bm_adv kn a T)).2.1 a b (bm_adv kn b (bm_adv kn a T)).2.2.1 12).1 - (bm_adv kn b (bm_adv kn a T)).2.2.1.1)) ≤ bm_gs T (bm_greet kn a b T) by omega)⟩ d_Control_greet_13 (fun u3 H locs hu3 hP hD hS => ?_)
  obtain ⟨wL3, wS3, wM3, rfl, kL3, kS3, kM3⟩ := hu3
  refine W.widen (k := bm_gc T (bm_sst a b (bm_adv kn b (bm_adv kn a T)))) (n := bm_gs T (bm_sst a b (bm_adv kn b (bm_adv kn a T)))) (show (bm_gc T (bm_adv kn b (bm_adv kn a T))) + ((bm_ss (bm_adv kn b (bm_adv kn a T)).2.1 a b (bm_adv kn b (bm_adv kn a T)).2.2.1 12).1 - (bm_adv kn b (bm_adv kn a T)).2.2.1.1) ≤ bm_gc T (bm_sst a b (bm_adv kn b (bm_adv kn a T))) by omega) (show (bm_gs T (bm_adv kn b (bm_adv kn a T))) + (2 * 3 * ((bm_ss (bm_adv kn b (bm_adv kn a T)).2.1 a b (bm_adv kn b (bm_adv kn a T)).2.2.1 12).1 - (bm_adv kn b (bm_adv kn a T)).2.2.1.1)) ≤ bm_gs T (bm_sst a b (bm_adv kn b (bm_adv kn a T))) by omega) ?_
  rw [List.append_nil] at hP hD
  have hP : va_P D kls (List.flatten [[(h, .inr (4, [.ref aL, .ref aS, .ref aM, .int lost]))], wL3, wS3, wM3]) H := hP
  have hD : va_D A (List.flatten [[(h, .inr (4, [.ref aL, .ref aS, .ref aM, .int lost]))], wL3, wS3, wM3]) := hD
  refine W.eq (g2 := F0 m 16 ls []) rfl ?_
  refine lv_aload_n hx hb d_Control_greet_16 rfl (lv_at hl 0 rfl) ?_
  refine lv_iload_n hx hb d_Control_greet_17 rfl (lv_at hl 2 rfl) ?_
  refine lv_iload_n hx hb d_Control_greet_18 rfl (lv_at hl 1 rfl) ?_
  have hR3 : co_R cI cG h aL aS aM lk kn (bm_sst a b (bm_adv kn b (bm_adv kn a T))) lost (List.flatten [[(h, .inr (4, [.ref aL, .ref aS, .ref aM, .int lost]))], wL3, wS3, wM3]) := ⟨wL3, wS3, wM3, rfl, kL3, kS3, kM3⟩
  have gg3 : bm_gc (bm_sst a b (bm_adv kn b (bm_adv kn a T))) (bm_sst b a (bm_sst a b (bm_adv kn b (bm_adv kn a T)))) = (bm_ss (bm_sst a b (bm_adv kn b (bm_adv kn a T))).2.1 b a (bm_sst a b (bm_adv kn b (bm_adv kn a T))).2.2.1 12).1 - (bm_sst a b (bm_adv kn b (bm_adv kn a T))).2.2.1.1 := by show ((bm_sst a b (bm_adv kn b (bm_adv kn a T))).1.1 - (bm_sst a b (bm_adv kn b (bm_adv kn a T))).1.1) + ((bm_ss (bm_sst a b (bm_adv kn b (bm_adv kn a T))).2.1 b a (bm_sst a b (bm_adv kn b (bm_adv kn a T))).2.2.1 12).1 - (bm_sst a b (bm_adv kn b (bm_adv kn a T))).2.2.1.1) = _; omega
  have gs3 : bm_gs (bm_sst a b (bm_adv kn b (bm_adv kn a T))) (bm_sst b a (bm_sst a b (bm_adv kn b (bm_adv kn a T)))) = 2 * 3 * ((bm_ss (bm_sst a b (bm_adv kn b (bm_adv kn a T))).2.1 b a (bm_sst a b (bm_adv kn b (bm_adv kn a T))).2.2.1 12).1 - (bm_sst a b (bm_adv kn b (bm_adv kn a T))).2.2.1.1) := by show 2 * 14 * ((bm_sst a b (bm_adv kn b (bm_adv kn a T))).1.1 - (bm_sst a b (bm_adv kn b (bm_adv kn a T))).1.1) + 2 * 3 * ((bm_ss (bm_sst a b (bm_adv kn b (bm_adv kn a T))).2.1 b a (bm_sst a b (bm_adv kn b (bm_adv kn a T))).2.2.1 12).1 - (bm_sst a b (bm_adv kn b (bm_adv kn a T))).2.2.1.1) = _; omega
  refine ct_callVV (C := R_Control) (ci := 4) (As := [.int (nI b), .int (nI a)]) (rest := []) ⟨hx, hb, hml, hown, ht⟩ (k_Control_sendStore l D cI cZ cJ cG hR3 b a hb9 ha (fun x hx => Nat.lt_of_lt_of_le (o3.1 b x hb9 hx) (Nat.le_trans o3.2.2.2.2 (Nat.le_trans c3.1 (by decide)))) hc.2) (cb_V ht kc_Control_sendStore kl_Control_45 kn_Control ki_Control_sendStore ks_Control_sendStore hd_Control_sendStore ⟨Nat.le_of_ble_eq_true rfl, Nat.le_of_ble_eq_true rfl⟩) (List.mem_of_getElem? (i := 0) rfl) rfl rfl (pm_all _) hK hP hD hS hA rfl hl.1 rfl (Nat.le_of_ble_eq_true rfl) ⟨(show (bm_gc T (bm_sst a b (bm_adv kn b (bm_adv kn a T)))) + ((bm_ss (bm_sst a b (bm_adv kn b (bm_adv kn a T))).2.1 b a (bm_sst a b (bm_adv kn b (bm_adv kn a T))).2.2.1 12).1 - (bm_sst a b (bm_adv kn b (bm_adv kn a T))).2.2.1.1) ≤ bm_gc T (bm_greet kn a b T) by omega), (show (bm_gs T (bm_sst a b (bm_adv kn b (bm_adv kn a T)))) + (2 * 3 * ((bm_ss (bm_sst a b (bm_adv kn b (bm_adv kn a T))).2.1 b a (bm_sst a b (bm_adv kn b (bm_adv kn a T))).2.2.1 12).1 - (bm_sst a b (bm_adv kn b (bm_adv kn a T))).2.2.1.1)) ≤ bm_gs T (bm_greet kn a b T) by omega)⟩ d_Control_greet_19 (fun u4 H locs hu4 hP hD hS => ?_)
  obtain ⟨wL4, wS4, wM4, rfl, kL4, kS4, kM4⟩ := hu4
  refine W.widen (k := bm_gc T (bm_sst b a (bm_sst a b (bm_adv kn b (bm_adv kn a T))))) (n := bm_gs T (bm_sst b a (bm_sst a b (bm_adv kn b (bm_adv kn a T))))) (show (bm_gc T (bm_sst a b (bm_adv kn b (bm_adv kn a T)))) + ((bm_ss (bm_sst a b (bm_adv kn b (bm_adv kn a T))).2.1 b a (bm_sst a b (bm_adv kn b (bm_adv kn a T))).2.2.1 12).1 - (bm_sst a b (bm_adv kn b (bm_adv kn a T))).2.2.1.1) ≤ bm_gc T (bm_sst b a (bm_sst a b (bm_adv kn b (bm_adv kn a T)))) by omega) (show (bm_gs T (bm_sst a b (bm_adv kn b (bm_adv kn a T)))) + (2 * 3 * ((bm_ss (bm_sst a b (bm_adv kn b (bm_adv kn a T))).2.1 b a (bm_sst a b (bm_adv kn b (bm_adv kn a T))).2.2.1 12).1 - (bm_sst a b (bm_adv kn b (bm_adv kn a T))).2.2.1.1)) ≤ bm_gs T (bm_sst b a (bm_sst a b (bm_adv kn b (bm_adv kn a T)))) by omega) ?_
  rw [List.append_nil] at hP hD
  have hP : va_P D kls (List.flatten [[(h, .inr (4, [.ref aL, .ref aS, .ref aM, .int lost]))], wL4, wS4, wM4]) H := hP
  have hD : va_D A (List.flatten [[(h, .inr (4, [.ref aL, .ref aS, .ref aM, .int lost]))], wL4, wS4, wM4]) := hD
  refine W.eq (g2 := F0 m 22 ls []) rfl ?_
  exact ct_vret hQ hx hb hr hlk hP hD hS hK (by omega) (by omega) d_Control_greet_22 (⟨wL4, wS4, wM4, rfl, kL4, kS4, kM4⟩)
set_option maxHeartbeats 4000000 in
set_option maxRecDepth 100000 in
theorem k_Control_receive (l : Launch) (D : va_G) (cI cZ cJ cG : ClassId) {h aL aS aM : Nat} {lk kn : Nat → Nat → Nat} {T : bm_T} {lost : Int32} {ws : va_W} (hR : co_R cI cG h aL aS aM lk kn T lost ws) (hok : bm_ok T) (hkn : ∀ a b, kn a b ≤ 1000) (hlk9 : ∀ a b, lk a b ≤ 2) (r f i : Nat) (hr9 : r < 12) (hf9 : f < 12) (hi : i < T.1.2.1) (hc : bm_cap (bm_recv kn r f i T)) : ct_V l D kls (ty4 cI cZ cJ cG) y_Control_receive ws_Control_receive (rm_ 5 121 (bm_gc T (bm_recv kn r f i T)) (bm_gs T (bm_recv kn r f i T))) [.ref h, .int (nI r), .int (nI f), .int (nI i)] (ws) (fun u => co_R cI cG h aL aS aM lk kn (bm_recv kn r f i T) lost u) (bm_gc T (bm_recv kn r f i T)) (bm_gs T (bm_recv kn r f i T)) := by
  have hl1 : ∀ a b, lk a b < 2147483648 := fun a b => Nat.lt_of_le_of_lt (hlk9 a b) (by decide)
  have hl2 : ∀ a b, kn a b < 2147483648 := fun a b => Nat.lt_of_le_of_lt (hkn a b) (by decide)
  obtain ⟨wL, wS, wM, rfl, kL, kS, kM⟩ := hR
  obtain ⟨fsL, mL⟩ := kL.mem
  obtain ⟨fsS, mS⟩ := kS.mem
  obtain ⟨fsM, mM⟩ := kM.mem
  have bM := kM.n
  refine ct_enterV (cc := b_Control_receive) (maxL := 5) (ret := none) (by decide +kernel) (Nat.le_of_ble_eq_true rfl) ?_
  intro p e s m args below meth c hx hb hml hr ht hown hlk hnm A Q hA hK hP hD hQ ls hl
  have hown : s.vm.findClass R_Control = some m.cls := hown
  have hS : va_S A s.heap s.heap [] := va_S.rf
  have hl : lv_has ls 5 [(0, .ref h), (1, .int (nI r)), (2, .int (nI f)), (3, .int (nI i))] := hl
  have hcT : bm_cap T := bm_cap.of (bm_recv_le kn r f i T) hc
  have hna : T.1.2.1 ≤ 50000 := Nat.le_trans hok.2.2.2.2 hcT.1
  have hoi := (hok.2.1 i hi).1
  have hni := (hok.2.1 i hi).2.1
  have hown9 := hok.1 r (T.1.2.2 i 0) hr9 hoi
  have hno := (hok.2.1 _ hown9).2.1
  refine lv_aload_n hx hb d_Control_receive_0 rfl (lv_at hl 0 rfl) ?_
  refine va_get (D := D) (ci := 4) (v := .ref aS) (C := R_Control) (T := T_Control) (N := 4) hx hb ht in_Control hown hK hP 0 rfl rfl 1 (by decide) (ht _ kl_Control_24) (fun _ h9 => h9) rfl d_Control_receive_1 ?_
  refine lv_iload_n hx hb d_Control_receive_4 rfl (lv_at hl 1 rfl) ?_
  refine lv_aload_n hx hb d_Control_receive_5 rfl (lv_at hl 0 rfl) ?_
  refine va_get (D := D) (ci := 4) (v := .ref aS) (C := R_Control) (T := T_Control) (N := 4) hx hb ht in_Control hown hK hP 0 rfl rfl 1 (by decide) (ht _ kl_Control_24) (fun _ h9 => h9) rfl d_Control_receive_6 ?_
  refine lv_iload_n hx hb d_Control_receive_9 rfl (lv_at hl 3 rfl) ?_
  refine ct_rdV (C := R_Stores) (ci := 3) (As := [.int (nI i)]) (rest := [.int (nI r), .ref aS]) ⟨hx, hb, hml, hown, ht⟩ (k_Stores_originOf l D cI cZ cJ cG kS i hi) (cb_V ht kc_Stores_originOf kl_Control_79 kn_Stores ki_Stores_originOf ks_Stores_originOf hd_Stores_originOf ⟨Nat.le_of_ble_eq_true rfl, Nat.le_of_ble_eq_true rfl⟩) (wd_mem 2 rfl mS) rfl rfl (wd_ct (Bs := [[(h, .inr (4, [.ref aL, .ref aS, .ref aM, .int lost]))], wL, wS, wM]) 4 rfl [2] [0, 1, 3] (by decide) (wd_1 _)) hK hP hD hS hA rfl hl.1 rfl (Nat.le_of_ble_eq_true rfl) ⟨(show 0 + 0 ≤ (bm_gc T (bm_recv kn r f i T)) by omega), (show 0 + 0 ≤ (bm_gs T (bm_recv kn r f i T)) by omega)⟩ d_Control_receive_10 (fun rhr1 H locs hr1 hP hD hS => ?_)
  subst hr1
  refine ct_rdV (C := R_Stores) (ci := 3) (As := [.int (nI r), .int (nI (T.1.2.2 i 0))]) (rest := []) ⟨hx, hb, hml, hown, ht⟩ (k_Stores_advertOf l D cI cZ cJ cG kS r (T.1.2.2 i 0) hr9 hoi) (cb_V ht kc_Stores_advertOf kl_Control_83 kn_Stores ki_Stores_advertOf ks_Stores_advertOf hd_Stores_advertOf ⟨Nat.le_of_ble_eq_true rfl, Nat.le_of_ble_eq_true rfl⟩) (wd_mem 2 rfl mS) rfl rfl (wd_ct (Bs := [[(h, .inr (4, [.ref aL, .ref aS, .ref aM, .int lost]))], wL, wS, wM]) 4 rfl [2] [0, 1, 3] (by decide) (wd_1 _)) hK hP hD hS hA rfl hl.1 rfl (Nat.le_of_ble_eq_true rfl) ⟨(show 0 + 0 ≤ (bm_gc T (bm_recv kn r f i T)) by omega), (show 0 + 0 ≤ (bm_gs T (bm_recv kn r f i T)) by omega)⟩ d_Control_receive_13 (fun rhr2 H locs hr2 hP hD hS => ?_)
  subst hr2
  refine lv_istore hx hb d_Control_receive_16 hl (by decide) rfl (fun ls hl => ?_)
  have hl : lv_has ls 5 [(4, .int (nI (T.2.1 r (T.1.2.2 i 0)))), (0, .ref h), (1, .int (nI r)), (2, .int (nI f)), (3, .int (nI i))] := hl
  refine lv_aload_n hx hb d_Control_receive_18 rfl (lv_at hl 1 rfl) ?_
  refine va_get (D := D) (ci := 4) (v := .ref aS) (C := R_Control) (T := T_Control) (N := 4) hx hb ht in_Control hown hK hP 0 rfl rfl 1 (by decide) (ht _ kl_Control_24) (fun _ h9 => h9) rfl d_Control_receive_19 ?_
  refine lv_iload_n hx hb d_Control_receive_22 rfl (lv_at hl 4 rfl) ?_
  refine ct_rdV (C := R_Stores) (ci := 3) (As := [.int (nI i)]) (rest := []) ⟨hx, hb, hml, hown, ht⟩ (k_Stores_numberOf l D cI cZ cJ cG kS i hi) (cb_V ht kc_Stores_numberOf kl_Control_86 kn_Stores ki_Stores_numberOf ks_Stores_numberOf hd_Stores_numberOf ⟨Nat.le_of_ble_eq_true rfl, Nat.le_of_ble_eq_true rfl⟩) (wd_mem 2 rfl mS) rfl rfl (wd_ct (Bs := [[(h, .inr (4, [.ref aL, .ref aS, .ref aM, .int lost]))], wL, wS, wM]) 4 rfl [2] [0, 1, 3] (by decide) (wd_1 _)) hK hP hD hS hA rfl hl.1 rfl (Nat.le_of_ble_eq_true rfl) ⟨(show 0 + 0 ≤ (bm_gc T (bm_recv kn r f i T)) by omega), (show 0 + 0 ≤ (bm_gs T (bm_recv kn r f i T)) by omega)⟩ d_Control_receive_23 (fun rhr3 H locs hr3 hP hD hS => ?_)
  subst hr3
  refine lv_aload_n hx hb d_Control_receive_26 rfl (lv_at hl 1 rfl) ?_
  refine va_get (D := D) (ci := 4) (v := .ref aS) (C := R_Control) (T := T_Control) (N := 4) hx hb ht in_Control hown hK hP 0 rfl rfl 1 (by decide) (ht _ kl_Control_24) (fun _ h9 => h9) rfl d_Control_receive_27 ?_
  refine lv_iload hx hb d_Control_receive_30 (lv_at hl 0 rfl) ?_
  refine ct_rdV (C := R_Stores) (ci := 3) (As := [.int (nI (T.2.1 r (T.1.2.2 i 0)))]) (rest := [.int (nI (T.1.2.2 i 1))]) ⟨hx, hb, hml, hown, ht⟩ (k_Stores_numberOf l D cI cZ cJ cG kS (T.2.1 r (T.1.2.2 i 0)) hown9) (cb_V ht kc_Stores_numberOf kl_Control_86 kn_Stores ki_Stores_numberOf ks_Stores_numberOf hd_Stores_numberOf ⟨Nat.le_of_ble_eq_true rfl, Nat.le_of_ble_eq_true rfl⟩) (wd_mem 2 rfl mS) rfl rfl (wd_ct (Bs := [[(h, .inr (4, [.ref aL, .ref aS, .ref aM, .int lost]))], wL, wS, wM]) 4 rfl [2] [0, 1, 3] (by decide) (wd_1 _)) hK hP hD hS hA rfl hl.1 rfl (Nat.le_of_ble_eq_true rfl) ⟨(show 0 + 0 ≤ (bm_gc T (bm_recv kn r f i T)) by omega), (show 0 + 0 ≤ (bm_gs T (bm_recv kn r f i T)) by omega)⟩ d_Control_receive_32 (fun rhr4 H locs hr4 hP hD hS => ?_)
  subst hr4
  refine ri_icmp_le hx hb (by omega) (by omega) d_Control_receive_35 (tgt := 57) (by decide) (fun h1 => ?_) (fun h1 => ?_)
  · refine lv_aload_n hx hb d_Control_receive_57 rfl (lv_at hl 1 rfl) ?_
    refine va_get (D := D) (ci := 4) (v := .ref aS) (C := R_Control) (T := T_Control) (N := 4) hx hb ht in_Control hown hK hP 0 rfl rfl 1 (by decide) (ht _ kl_Control_24) (fun _ h9 => h9) rfl d_Control_receive_58 ?_
    refine lv_iload_n hx hb d_Control_receive_61 rfl (lv_at hl 4 rfl) ?_
    refine ct_rdV (C := R_Stores) (ci := 3) (As := [.int (nI i)]) (rest := []) ⟨hx, hb, hml, hown, ht⟩ (k_Stores_numberOf l D cI cZ cJ cG kS i hi) (cb_V ht kc_Stores_numberOf kl_Control_86 kn_Stores ki_Stores_numberOf ks_Stores_numberOf hd_Stores_numberOf ⟨Nat.le_of_ble_eq_true rfl, Nat.le_of_ble_eq_true rfl⟩) (wd_mem 2 rfl mS) rfl rfl (wd_ct (Bs := [[(h, .inr (4, [.ref aL, .ref aS, .ref aM, .int lost]))], wL, wS, wM]) 4 rfl [2] [0, 1, 3] (by decide) (wd_1 _)) hK hP hD hS hA rfl hl.1 rfl (Nat.le_of_ble_eq_true rfl) ⟨(show 0 + 0 ≤ (bm_gc T (bm_recv kn r f i T)) by omega), (show 0 + 0 ≤ (bm_gs T (bm_recv kn r f i T)) by omega)⟩ d_Control_receive_62 (fun rhr6 H locs hr6 hP hD hS => ?_)
    subst hr6
    refine lv_aload_n hx hb d_Control_receive_65 rfl (lv_at hl 1 rfl) ?_
    refine va_get (D := D) (ci := 4) (v := .ref aS) (C := R_Control) (T := T_Control) (N := 4) hx hb ht in_Control hown hK hP 0 rfl rfl 1 (by decide) (ht _ kl_Control_24) (fun _ h9 => h9) rfl d_Control_receive_66 ?_
    refine lv_iload hx hb d_Control_receive_69 (lv_at hl 0 rfl) ?_
    refine ct_rdV (C := R_Stores) (ci := 3) (As := [.int (nI (T.2.1 r (T.1.2.2 i 0)))]) (rest := [.int (nI (T.1.2.2 i 1))]) ⟨hx, hb, hml, hown, ht⟩ (k_Stores_numberOf l D cI cZ cJ cG kS (T.2.1 r (T.1.2.2 i 0)) hown9) (cb_V ht kc_Stores_numberOf kl_Control_86 kn_Stores ki_Stores_numberOf ks_Stores_numberOf hd_Stores_numberOf ⟨Nat.le_of_ble_eq_true rfl, Nat.le_of_ble_eq_true rfl⟩) (wd_mem 2 rfl mS) rfl rfl (wd_ct (Bs := [[(h, .inr (4, [.ref aL, .ref aS, .ref aM, .int lost]))], wL, wS, wM]) 4 rfl [2] [0, 1, 3] (by decide) (wd_1 _)) hK hP hD hS hA rfl hl.1 rfl (Nat.le_of_ble_eq_true rfl) ⟨(show 0 + 0 ≤ (bm_gc T (bm_recv kn r f i T)) by omega), (show 0 + 0 ≤ (bm_gs T (bm_recv kn r f i T)) by omega)⟩ d_Control_receive_71 (fun rhr7 H locs hr7 hP hD hS => ?_)
    subst hr7
    refine ri_icmp_ge hx hb (by omega) (by omega) d_Control_receive_74 (tgt := 85) (by decide) (fun h2 => ?_) (fun h2 => ?_)
    · have hTV : bm_recv kn r f i T = T := (if_neg (by omega)).trans (if_neg (by omega))
      exact ct_vret hQ hx hb hr hlk hP hD hS hK (by omega) (by omega) d_Control_receive_85 (by rw [hTV]; exact ⟨wL, wS, wM, rfl, kL, kS, kM⟩)
    · refine lv_aload_n hx hb d_Control_receive_77 rfl (lv_at hl 1 rfl) ?_
      refine lv_iload_n hx hb d_Control_receive_78 rfl (lv_at hl 2 rfl) ?_
      refine lv_iload_n hx hb d_Control_receive_79 rfl (lv_at hl 3 rfl) ?_
      refine lv_iload hx hb d_Control_receive_80 (lv_at hl 0 rfl) ?_
      have hTV : bm_recv kn r f i T = (T.1, T.2.1, bm_push T.2.2.1 (bm_row3 r f (T.2.1 r (T.1.2.2 i 0))), T.2.2.2) := (if_neg (by omega)).trans (if_pos h2)
      rw [hTV] at hc
      have gc1 : bm_gc T (bm_recv kn r f i T) = (bm_push T.2.2.1 (bm_row3 r f (T.2.1 r (T.1.2.2 i 0)))).1 - T.2.2.1.1 := by rw [hTV]; show (T.1.1 - T.1.1) + ((bm_push T.2.2.1 (bm_row3 r f (T.2.1 r (T.1.2.2 i 0)))).1 - T.2.2.1.1) = _; omega
      have gs1 : bm_gs T (bm_recv kn r f i T) = 2 * 3 * ((bm_push T.2.2.1 (bm_row3 r f (T.2.1 r (T.1.2.2 i 0)))).1 - T.2.2.1.1) := by rw [hTV]; show 2 * 14 * (T.1.1 - T.1.1) + 2 * 3 * ((bm_push T.2.2.1 (bm_row3 r f (T.2.1 r (T.1.2.2 i 0)))).1 - T.2.2.1.1) = _; omega
      have hR3 : co_R cI cG h aL aS aM lk kn T lost (List.flatten [[(h, .inr (4, [.ref aL, .ref aS, .ref aM, .int lost]))], wL, wS, wM]) := ⟨wL, wS, wM, rfl, kL, kS, kM⟩
      refine ct_callVV (C := R_Control) (ci := 4) (As := [.int (nI r), .int (nI f), .int (nI (T.2.1 r (T.1.2.2 i 0)))]) (rest := []) ⟨hx, hb, hml, hown, ht⟩ (k_Control_post l D cI cZ cJ cG hR3 r f (T.2.1 r (T.1.2.2 i 0)) hcT.2) (cb_V ht kc_Control_post kl_Control_89 kn_Control ki_Control_post ks_Control_post hd_Control_post ⟨Nat.le_of_ble_eq_true rfl, Nat.le_of_ble_eq_true rfl⟩) (List.mem_of_getElem? (i := 0) rfl) rfl rfl (pm_all _) hK hP hD hS hA rfl hl.1 rfl (Nat.le_of_ble_eq_true rfl) ⟨(show 0 + ((bm_push T.2.2.1 (bm_row3 r f (T.2.1 r (T.1.2.2 i 0)))).1 - T.2.2.1.1) ≤ bm_gc T (bm_recv kn r f i T) by omega), (show 0 + 2 * 3 * ((bm_push T.2.2.1 (bm_row3 r f (T.2.1 r (T.1.2.2 i 0)))).1 - T.2.2.1.1) ≤ bm_gs T (bm_recv kn r f i T) by omega)⟩ d_Control_receive_82 (fun u9 H locs hu9 hP hD hS => ?_)
      obtain ⟨wL4, wS4, wM4, rfl, kL4, kS4, kM4⟩ := hu9
      refine W.widen (k := bm_gc T (bm_recv kn r f i T)) (n := bm_gs T (bm_recv kn r f i T)) (show 0 + ((bm_push T.2.2.1 (bm_row3 r f (T.2.1 r (T.1.2.2 i 0)))).1 - T.2.2.1.1) ≤ bm_gc T (bm_recv kn r f i T) by omega) (show 0 + 2 * 3 * ((bm_push T.2.2.1 (bm_row3 r f (T.2.1 r (T.1.2.2 i 0)))).1 - T.2.2.1.1) ≤ bm_gs T (bm_recv kn r f i T) by omega) ?_
      rw [List.append_nil] at hP hD
      have hP : va_P D kls (List.flatten [[(h, .inr (4, [.ref aL, .ref aS, .ref aM, .int lost]))], wL4, wS4, wM4]) H := hP
      have hD : va_D A (List.flatten [[(h, .inr (4, [.ref aL, .ref aS, .ref aM, .int lost]))], wL4, wS4, wM4]) := hD
      refine W.eq (g2 := F0 m 85 ls []) rfl ?_
      exact ct_vret hQ hx hb hr hlk hP hD hS hK (by omega) (by omega) d_Control_receive_85 (by rw [hTV]; exact ⟨wL4, wS4, wM4, rfl, kL4, kS4, kM4⟩)
  · refine lv_aload_n hx hb d_Control_receive_38 rfl (lv_at hl 1 rfl) ?_
    refine va_get (D := D) (ci := 4) (v := .ref aS) (C := R_Control) (T := T_Control) (N := 4) hx hb ht in_Control hown hK hP 0 rfl rfl 1 (by decide) (ht _ kl_Control_24) (fun _ h9 => h9) rfl d_Control_receive_39 ?_
    refine lv_iload_n hx hb d_Control_receive_42 rfl (lv_at hl 2 rfl) ?_
    refine lv_iload_n hx hb d_Control_receive_43 rfl (lv_at hl 4 rfl) ?_
    have hTV : bm_recv kn r f i T = (T.1, bm_up2 T.2.1 r (T.1.2.2 i 0) i, bm_sa kn (some f) r i T.2.2.1 12, bm_up1 T.2.2.2 r (T.2.2.2 r + 1)) := if_pos h1
    rw [hTV] at hc
    have gc1 : bm_gc T (bm_recv kn r f i T) = (bm_sa kn (some f) r i T.2.2.1 12).1 - T.2.2.1.1 := by rw [hTV]; show (T.1.1 - T.1.1) + ((bm_sa kn (some f) r i T.2.2.1 12).1 - T.2.2.1.1) = _; omega
    have gs1 : bm_gs T (bm_recv kn r f i T) = 2 * 3 * ((bm_sa kn (some f) r i T.2.2.1 12).1 - T.2.2.1.1) := by rw [hTV]; show 2 * 14 * (T.1.1 - T.1.1) + 2 * 3 * ((bm_sa kn (some f) r i T.2.2.1 12).1 - T.2.2.1.1) = _; omega
    refine ct_callVV (C := R_Stores) (ci := 3) (As := [.int (nI r), .int (nI i)]) (rest := []) ⟨hx, hb, hml, hown, ht⟩ (k_Stores_keep l D cI cZ cJ cG kS r i hr9 hi hoi) (cb_V ht kc_Stores_keep kl_Control_53 kn_Stores ki_Stores_keep ks_Stores_keep hd_Stores_keep ⟨Nat.le_of_ble_eq_true rfl, Nat.le_of_ble_eq_true rfl⟩) (wd_mem 2 rfl mS) rfl rfl (wd_ct (Bs := [[(h, .inr (4, [.ref aL, .ref aS, .ref aM, .int lost]))], wL, wS, wM]) 4 rfl [2] [0, 1, 3] (by decide) (wd_1 _)) hK hP hD hS hA rfl hl.1 rfl (Nat.le_of_ble_eq_true rfl) ⟨(Nat.zero_le _), (Nat.zero_le _)⟩ d_Control_receive_44 (fun u10 H locs hu10 hP hD hS => ?_)
    have kS3 := hu10
    obtain ⟨fsS3, mS3⟩ := kS3.mem
    refine W.widen (k := 0) (n := 0) (Nat.le_refl _) (Nat.le_refl _) ?_
    have hP := wd_nP (N := [u10]) (wd_1 _) 4 rfl [1, 2, 0, 3] (by decide) hP
    have hD := wd_nD (N := [u10]) (wd_1 _) 4 rfl [1, 2, 0, 3] (by decide) hD
    have hP : va_P D kls (List.flatten [[(h, .inr (4, [.ref aL, .ref aS, .ref aM, .int lost]))], wL, u10, wM]) H := hP
    have hD : va_D A (List.flatten [[(h, .inr (4, [.ref aL, .ref aS, .ref aM, .int lost]))], wL, u10, wM]) := hD
    refine W.eq (g2 := F0 m 47 ls []) rfl ?_
    refine lv_aload_n hx hb d_Control_receive_47 rfl (lv_at hl 1 rfl) ?_
    refine lv_iload_n hx hb d_Control_receive_48 rfl (lv_at hl 3 rfl) ?_
    refine lv_iload_n hx hb d_Control_receive_49 rfl (lv_at hl 2 rfl) ?_
    refine lv_iload_n hx hb d_Control_receive_50 rfl (lv_at hl 4 rfl) ?_
    have hR3 : co_R cI cG h aL aS aM lk kn (T.1, bm_up2 T.2.1 r (T.1.2.2 i 0) i, T.2.2.1, bm_up1 T.2.2.2 r (T.2.2.2 r + 1)) lost (List.flatten [[(h, .inr (4, [.ref aL, .ref aS, .ref aM, .int lost]))], wL, u10, wM]) := ⟨wL, u10, wM, rfl, kL, kS3, kM⟩
    refine ct_callVV (C := R_Control) (ci := 4) (As := [.int (nI f), .int (nI r), .int (nI i)]) (rest := []) ⟨hx, hb, hml, hown, ht⟩ (k_Control_sendToAllBut l D cI cZ cJ cG hR3 hl1 hl2 (some f) r i (fun e z => by cases z; exact hf9) hr9 hc.2) (cb_V ht kc_Control_sendToAllBut kl_Control_56 kn_Control ki_Control_sendToAllBut ks_Control_sendToAllBut hd_Control_sendToAllBut ⟨Nat.le_of_ble_eq_true rfl, Nat.le_of_ble_eq_true rfl⟩) (List.mem_of_getElem? (i := 0) rfl) rfl rfl (pm_all _) hK hP hD hS hA rfl hl.1 rfl (Nat.le_of_ble_eq_true rfl) ⟨(show 0 + ((bm_sa kn (some f) r i T.2.2.1 12).1 - T.2.2.1.1) ≤ bm_gc T (bm_recv kn r f i T) by omega), (show 0 + 2 * 3 * ((bm_sa kn (some f) r i T.2.2.1 12).1 - T.2.2.1.1) ≤ bm_gs T (bm_recv kn r f i T) by omega)⟩ d_Control_receive_51 (fun u11 H locs hu11 hP hD hS => ?_)
    obtain ⟨wL4, wS4, wM4, rfl, kL4, kS4, kM4⟩ := hu11
    refine W.widen (k := bm_gc T (bm_recv kn r f i T)) (n := bm_gs T (bm_recv kn r f i T)) (show 0 + ((bm_sa kn (some f) r i T.2.2.1 12).1 - T.2.2.1.1) ≤ bm_gc T (bm_recv kn r f i T) by omega) (show 0 + 2 * 3 * ((bm_sa kn (some f) r i T.2.2.1 12).1 - T.2.2.1.1) ≤ bm_gs T (bm_recv kn r f i T) by omega) ?_
    rw [List.append_nil] at hP hD
    have hP : va_P D kls (List.flatten [[(h, .inr (4, [.ref aL, .ref aS, .ref aM, .int lost]))], wL4, wS4, wM4]) H := hP
    have hD : va_D A (List.flatten [[(h, .inr (4, [.ref aL, .ref aS, .ref aM, .int lost]))], wL4, wS4, wM4]) := hD
    refine W.eq (g2 := F0 m 54 ls []) rfl ?_
    refine lv_goto hx hb d_Control_receive_54 (tgt := 85) (by decide) ?_
    exact ct_vret hQ hx hb hr hlk hP hD hS hK (by omega) (by omega) d_Control_receive_85 (by rw [hTV]; exact ⟨wL4, wS4, wM4, rfl, kL4, kS4, kM4⟩)
set_option maxHeartbeats 4000000 in
set_option maxRecDepth 100000 in
theorem k_Control_deliverOldest (l : Launch) (D : va_G) (cI cZ cJ cG : ClassId) {h aL aS aM : Nat} {lk kn : Nat → Nat → Nat} {T : bm_T} {lost : Int32} {ws : va_W} (hR : co_R cI cG h aL aS aM lk kn T lost ws) (hok : bm_ok T) (hkn : ∀ a b, kn a b ≤ 1000) (hlk9 : ∀ a b, lk a b ≤ 2) (hn : 0 < T.2.2.1.2.1) (hc : bm_cap (bm_del lk kn (T, lost)).1) : ct_V l D kls (ty4 cI cZ cJ cG) y_Control_deliverOldest ws_Control_deliverOldest (rm_ 6 145 (bm_gc T (bm_del lk kn (T, lost)).1) (bm_gs T (bm_del lk kn (T, lost)).1)) [.ref h] (ws) (fun u => co_R cI cG h aL aS aM lk kn (bm_del lk kn (T, lost)).1 (bm_del lk kn (T, lost)).2 u) (bm_gc T (bm_del lk kn (T, lost)).1) (bm_gs T (bm_del lk kn (T, lost)).1) := by
  have hl1 : ∀ a b, lk a b < 2147483648 := fun a b => Nat.lt_of_le_of_lt (hlk9 a b) (by decide)
  have hl2 : ∀ a b, kn a b < 2147483648 := fun a b => Nat.lt_of_le_of_lt (hkn a b) (by decide)
  obtain ⟨wL, wS, wM, rfl, kL, kS, kM⟩ := hR
  obtain ⟨fsL, mL⟩ := kL.mem
  obtain ⟨fsS, mS⟩ := kS.mem
  obtain ⟨fsM, mM⟩ := kM.mem
  have bM := kM.n
  refine ct_enterV (cc := b_Control_deliverOldest) (maxL := 4) (ret := none) (by decide +kernel) (Nat.le_of_ble_eq_true rfl) ?_
  intro p e s m args below meth c hx hb hml hr ht hown hlk hnm A Q hA hK hP hD hQ ls hl
  have hown : s.vm.findClass R_Control = some m.cls := hown
  have hS : va_S A s.heap s.heap [] := va_S.rf
  have hl : lv_has ls 4 [(0, .ref h)] := hl
  obtain ⟨m1, m2, m3⟩ := hok.2.2.1 0 hn
  refine lv_aload_n hx hb d_Control_deliverOldest_0 rfl (lv_at hl 0 rfl) ?_
  refine va_get (D := D) (ci := 4) (v := .ref aM) (C := R_Control) (T := T_Control) (N := 4) hx hb ht in_Control hown hK hP 0 rfl rfl 2 (by decide) (ht _ kl_Control_14) (fun _ h9 => h9) rfl d_Control_deliverOldest_1 ?_
  refine lv_iconst (v := nI 0) hx hb d_Control_deliverOldest_4 (by decide) ?_
  refine lv_iconst (v := nI 0) hx hb d_Control_deliverOldest_5 (by decide) ?_
  refine ct_rdV (C := R_Rows) (ci := 0) (As := [.int (nI 0), .int (nI 0)]) (rest := []) ⟨hx, hb, hml, hown, ht⟩ (k_Rows_get l D cI cZ cJ cG kM 0 0 hn (by decide)) (cb_V ht kc_Rows_get kl_Control_60 kn_Rows ki_Rows_get ks_Rows_get hd_Rows_get ⟨Nat.le_of_ble_eq_true rfl, Nat.le_of_ble_eq_true rfl⟩) (wd_mem 3 rfl mM) rfl rfl (wd_ct (Bs := [[(h, .inr (4, [.ref aL, .ref aS, .ref aM, .int lost]))], wL, wS, wM]) 4 rfl [3] [0, 1, 2] (by decide) (wd_1 _)) hK hP hD hS hA rfl hl.1 rfl (Nat.le_of_ble_eq_true rfl) ⟨(show 0 + 0 ≤ (bm_gc T (bm_del lk kn (T, lost)).1) by omega), (show 0 + 0 ≤ (bm_gs T (bm_del lk kn (T, lost)).1) by omega)⟩ d_Control_deliverOldest_6 (fun rhr1 H locs hr1 hP hD hS => ?_)
  subst hr1
  refine W.eq (g2 := F0 m 9 ls [.int (nI (T.2.2.1.2.2 0 0))]) rfl ?_
  refine lv_istore_n hx hb d_Control_deliverOldest_9 rfl hl (by decide) rfl (fun ls hl => ?_)
  have hl : lv_has ls 4 [(1, .int (nI (T.2.2.1.2.2 0 0))), (0, .ref h)] := hl
  refine lv_aload_n hx hb d_Control_deliverOldest_10 rfl (lv_at hl 1 rfl) ?_
  refine va_get (D := D) (ci := 4) (v := .ref aM) (C := R_Control) (T := T_Control) (N := 4) hx hb ht in_Control hown hK hP 0 rfl rfl 2 (by decide) (ht _ kl_Control_14) (fun _ h9 => h9) rfl d_Control_deliverOldest_11 ?_
  refine lv_iconst (v := nI 0) hx hb d_Control_deliverOldest_14 (by decide) ?_
  refine lv_iconst (v := nI 1) hx hb d_Control_deliverOldest_15 (by decide) ?_
  refine ct_rdV (C := R_Rows) (ci := 0) (As := [.int (nI 0), .int (nI 1)]) (rest := []) ⟨hx, hb, hml, hown, ht⟩ (k_Rows_get l D cI cZ cJ cG kM 0 1 hn (by decide)) (cb_V ht kc_Rows_get kl_Control_60 kn_Rows ki_Rows_get ks_Rows_get hd_Rows_get ⟨Nat.le_of_ble_eq_true rfl, Nat.le_of_ble_eq_true rfl⟩) (wd_mem 3 rfl mM) rfl rfl (wd_ct (Bs := [[(h, .inr (4, [.ref aL, .ref aS, .ref aM, .int lost]))], wL, wS, wM]) 4 rfl [3] [0, 1, 2] (by decide) (wd_1 _)) hK hP hD hS hA rfl hl.1 rfl (Nat.le_of_ble_eq_true rfl) ⟨(show 0 + 0 ≤ (bm_gc T (bm_del lk kn (T, lost)).1) by omega), (show 0 + 0 ≤ (bm_gs T (bm_del lk kn (T, lost)).1) by omega)⟩ d_Control_deliverOldest_16 (fun rhr2 H locs hr2 hP hD hS => ?_)
  subst hr2
  refine W.eq (g2 := F0 m 19 ls [.int (nI (T.2.2.1.2.2 0 1))]) rfl ?_
  refine lv_istore_n hx hb d_Control_deliverOldest_19 rfl hl (by decide) rfl (fun ls hl => ?_)
  have hl : lv_has ls 4 [(2, .int (nI (T.2.2.1.2.2 0 1))), (1, .int (nI (T.2.2.1.2.2 0 0))), (0, .ref h)] := hl
  refine lv_aload_n hx hb d_Control_deliverOldest_20 rfl (lv_at hl 2 rfl) ?_
  refine va_get (D := D) (ci := 4) (v := .ref aM) (C := R_Control) (T := T_Control) (N := 4) hx hb ht in_Control hown hK hP 0 rfl rfl 2 (by decide) (ht _ kl_Control_14) (fun _ h9 => h9) rfl d_Control_deliverOldest_21 ?_
  refine lv_iconst (v := nI 0) hx hb d_Control_deliverOldest_24 (by decide) ?_
  refine lv_iconst (v := nI 2) hx hb d_Control_deliverOldest_25 (by decide) ?_
  refine ct_rdV (C := R_Rows) (ci := 0) (As := [.int (nI 0), .int (nI 2)]) (rest := []) ⟨hx, hb, hml, hown, ht⟩ (k_Rows_get l D cI cZ cJ cG kM 0 2 hn (by decide)) (cb_V ht kc_Rows_get kl_Control_60 kn_Rows ki_Rows_get ks_Rows_get hd_Rows_get ⟨Nat.le_of_ble_eq_true rfl, Nat.le_of_ble_eq_true rfl⟩) (wd_mem 3 rfl mM) rfl rfl (wd_ct (Bs := [[(h, .inr (4, [.ref aL, .ref aS, .ref aM, .int lost]))], wL, wS, wM]) 4 rfl [3] [0, 1, 2] (by decide) (wd_1 _)) hK hP hD hS hA rfl hl.1 rfl (Nat.le_of_ble_eq_true rfl) ⟨(show 0 + 0 ≤ (bm_gc T (bm_del lk kn (T, lost)).1) by omega), (show 0 + 0 ≤ (bm_gs T (bm_del lk kn (T, lost)).1) by omega)⟩ d_Control_deliverOldest_26 (fun rhr3 H locs hr3 hP hD hS => ?_)
  subst hr3
  refine W.eq (g2 := F0 m 29 ls [.int (nI (T.2.2.1.2.2 0 2))]) rfl ?_
  refine lv_istore_n hx hb d_Control_deliverOldest_29 rfl hl (by decide) rfl (fun ls hl => ?_)
  have hl : lv_has ls 4 [(3, .int (nI (T.2.2.1.2.2 0 2))), (2, .int (nI (T.2.2.1.2.2 0 1))), (1, .int (nI (T.2.2.1.2.2 0 0))), (0, .ref h)] := hl
  refine lv_aload_n hx hb d_Control_deliverOldest_30 rfl (lv_at hl 3 rfl) ?_
  refine va_get (D := D) (ci := 4) (v := .ref aM) (C := R_Control) (T := T_Control) (N := 4) hx hb ht in_Control hown hK hP 0 rfl rfl 2 (by decide) (ht _ kl_Control_14) (fun _ h9 => h9) rfl d_Control_deliverOldest_31 ?_
  refine ct_callVV (C := R_Rows) (ci := 0) (As := []) (rest := []) ⟨hx, hb, hml, hown, ht⟩ (k_Rows_dropOldest l D cI cZ cJ cG kM hn) (cb_V ht kc_Rows_dropOldest kl_Control_64 kn_Rows ki_Rows_dropOldest ks_Rows_dropOldest hd_Rows_dropOldest ⟨Nat.le_of_ble_eq_true rfl, Nat.le_of_ble_eq_true rfl⟩) (wd_mem 3 rfl mM) rfl rfl (wd_ct (Bs := [[(h, .inr (4, [.ref aL, .ref aS, .ref aM, .int lost]))], wL, wS, wM]) 4 rfl [3] [0, 1, 2] (by decide) (wd_1 _)) hK hP hD hS hA rfl hl.1 rfl (Nat.le_of_ble_eq_true rfl) ⟨(Nat.zero_le _), (Nat.zero_le _)⟩ d_Control_deliverOldest_34 (fun u4 H locs hu4 hP hD hS => ?_)
  have kM2 := hu4
  obtain ⟨fsM2, mM2⟩ := kM2.mem
  refine W.widen (k := 0) (n := 0) (Nat.le_refl _) (Nat.le_refl _) ?_
  have hP := wd_nP (N := [u4]) (wd_1 _) 4 rfl [1, 2, 3, 0] (by decide) hP
  have hD := wd_nD (N := [u4]) (wd_1 _) 4 rfl [1, 2, 3, 0] (by decide) hD
  have hP : va_P D kls (List.flatten [[(h, .inr (4, [.ref aL, .ref aS, .ref aM, .int lost]))], wL, wS, u4]) H := hP
  have hD : va_D A (List.flatten [[(h, .inr (4, [.ref aL, .ref aS, .ref aM, .int lost]))], wL, wS, u4]) := hD
  refine W.eq (g2 := F0 m 37 ls []) rfl ?_
  refine lv_aload_n hx hb d_Control_deliverOldest_37 rfl (lv_at hl 3 rfl) ?_
  refine va_get (D := D) (ci := 4) (v := .ref aL) (C := R_Control) (T := T_Control) (N := 4) hx hb ht in_Control hown hK hP 0 rfl rfl 0 (by decide) (ht _ kl_Control_20) (fun _ h9 => h9) rfl d_Control_deliverOldest_38 ?_
  refine lv_iload_n hx hb d_Control_deliverOldest_41 rfl (lv_at hl 2 rfl) ?_
  refine lv_iload_n hx hb d_Control_deliverOldest_42 rfl (lv_at hl 1 rfl) ?_
  refine ct_rdV (C := R_Links) (ci := 2) (As := [.int (nI (T.2.2.1.2.2 0 0)), .int (nI (T.2.2.1.2.2 0 1))]) (rest := []) ⟨hx, hb, hml, hown, ht⟩ (k_Links_isWhole l D cI cZ cJ cG kL (T.2.2.1.2.2 0 0) (T.2.2.1.2.2 0 1) hl1 hl2 m1 m2) (cb_V ht kc_Links_isWhole kl_Control_67 kn_Links ki_Links_isWhole ks_Links_isWhole hd_Links_isWhole ⟨Nat.le_of_ble_eq_true rfl, Nat.le_of_ble_eq_true rfl⟩) (wd_mem 1 rfl mL) rfl rfl (wd_ct (Bs := [[(h, .inr (4, [.ref aL, .ref aS, .ref aM, .int lost]))], wL, wS, u4]) 4 rfl [1] [0, 2, 3] (by decide) (wd_1 _)) hK hP hD hS hA rfl hl.1 rfl (Nat.le_of_ble_eq_true rfl) ⟨(show 0 + 0 ≤ (bm_gc T (bm_del lk kn (T, lost)).1) by omega), (show 0 + 0 ≤ (bm_gs T (bm_del lk kn (T, lost)).1) by omega)⟩ d_Control_deliverOldest_43 (fun rhr5 H locs hr5 hP hD hS => ?_)
  subst hr5
  refine ri_ifeqB hx hb d_Control_deliverOldest_46 (tgt := 59) (by decide) (fun h1 => ?_) (fun h1 => ?_)
  · refine lv_aload_n hx hb d_Control_deliverOldest_59 rfl (lv_at hl 3 rfl) ?_
    refine lv_dup hx hb d_Control_deliverOldest_60 rfl ?_
    refine va_get (D := D) (ci := 4) (v := .int lost) (C := R_Control) (T := T_Control) (N := 4) hx hb ht in_Control hown hK hP 0 rfl rfl 3 (by decide) (ht _ kl_Control_32) (fun _ h9 => h9) rfl d_Control_deliverOldest_61 ?_
    refine lv_iconst (v := nI 1) hx hb d_Control_deliverOldest_64 (by decide) ?_
    refine lv_iadd hx hb d_Control_deliverOldest_65 ?_
    refine va_put (D := D) (ci := 4) (v := .int (lost + (nI 1))) (ty := .int) (C := R_Control) (T := T_Control) (N := 4) hx hb ht in_Control t_Control ok_Control nm_Control hown hK hP hD hS 0 rfl rfl 3 (by decide) (ht _ kl_Control_32) (fun _ h9 => h9) rfl (by decide +kernel) rfl rfl (Nat.le_of_ble_eq_true rfl) d_Control_deliverOldest_66 (fun H locs hP hD hS => ?_)
    have hP : va_P D kls (List.flatten [[(h, .inr (4, [.ref aL, .ref aS, .ref aM, .int (lost + (nI 1))]))], wL, wS, u4]) H := hP
    have hD : va_D A (List.flatten [[(h, .inr (4, [.ref aL, .ref aS, .ref aM, .int (lost + (nI 1))]))], wL, wS, u4]) := hD
    have hTD : bm_del lk kn (T, lost) = (bm_dropT T, lost + nI 1) := if_neg (of_decide_eq_false h1)
    exact ct_vret hQ hx hb hr hlk hP hD hS hK (by omega) (by omega) d_Control_deliverOldest_69 (by rw [hTD]; exact ⟨wL, wS, u4, rfl, kL, kS, kM2⟩)
  · refine lv_aload_n hx hb d_Control_deliverOldest_49 rfl (lv_at hl 3 rfl) ?_
    refine lv_iload_n hx hb d_Control_deliverOldest_50 rfl (lv_at hl 1 rfl) ?_
    refine lv_iload_n hx hb d_Control_deliverOldest_51 rfl (lv_at hl 2 rfl) ?_
    refine lv_iload_n hx hb d_Control_deliverOldest_52 rfl (lv_at hl 0 rfl) ?_
    have hTD : bm_del lk kn (T, lost) = (bm_recv kn (T.2.2.1.2.2 0 1) (T.2.2.1.2.2 0 0) (T.2.2.1.2.2 0 2) (bm_dropT T), lost) := if_pos (of_decide_eq_true h1)
    rw [hTD] at hc
    have hgc : bm_gc T (bm_del lk kn (T, lost)).1 = bm_gc (bm_dropT T) (bm_recv kn (T.2.2.1.2.2 0 1) (T.2.2.1.2.2 0 0) (T.2.2.1.2.2 0 2) (bm_dropT T)) := by rw [hTD]; rfl
    have hgs : bm_gs T (bm_del lk kn (T, lost)).1 = bm_gs (bm_dropT T) (bm_recv kn (T.2.2.1.2.2 0 1) (T.2.2.1.2.2 0 0) (T.2.2.1.2.2 0 2) (bm_dropT T)) := by rw [hTD]; rfl
    have hR3 : co_R cI cG h aL aS aM lk kn (bm_dropT T) lost (List.flatten [[(h, .inr (4, [.ref aL, .ref aS, .ref aM, .int lost]))], wL, wS, u4]) := ⟨wL, wS, u4, rfl, kL, kS, kM2⟩
    refine ct_callVV (C := R_Control) (ci := 4) (As := [.int (nI (T.2.2.1.2.2 0 1)), .int (nI (T.2.2.1.2.2 0 0)), .int (nI (T.2.2.1.2.2 0 2))]) (rest := []) ⟨hx, hb, hml, hown, ht⟩ (k_Control_receive l D cI cZ cJ cG hR3 (bm_dropT_ok hok) hkn hlk9 (T.2.2.1.2.2 0 1) (T.2.2.1.2.2 0 0) (T.2.2.1.2.2 0 2) m2 m1 m3 hc) (cb_V ht kc_Control_receive kl_Control_73 kn_Control ki_Control_receive ks_Control_receive hd_Control_receive ⟨Nat.le_of_ble_eq_true rfl, Nat.le_of_ble_eq_true rfl⟩) (List.mem_of_getElem? (i := 0) rfl) rfl rfl (pm_all _) hK hP hD hS hA rfl hl.1 rfl (Nat.le_of_ble_eq_true rfl) ⟨(show 0 + bm_gc (bm_dropT T) (bm_recv kn (T.2.2.1.2.2 0 1) (T.2.2.1.2.2 0 0) (T.2.2.1.2.2 0 2) (bm_dropT T)) ≤ bm_gc T (bm_del lk kn (T, lost)).1 by omega), (show 0 + bm_gs (bm_dropT T) (bm_recv kn (T.2.2.1.2.2 0 1) (T.2.2.1.2.2 0 0) (T.2.2.1.2.2 0 2) (bm_dropT T)) ≤ bm_gs T (bm_del lk kn (T, lost)).1 by omega)⟩ d_Control_deliverOldest_53 (fun u7 H locs hu7 hP hD hS => ?_)
    obtain ⟨wL4, wS4, wM4, rfl, kL4, kS4, kM4⟩ := hu7
    refine W.widen (k := bm_gc T (bm_del lk kn (T, lost)).1) (n := bm_gs T (bm_del lk kn (T, lost)).1) (show 0 + bm_gc (bm_dropT T) (bm_recv kn (T.2.2.1.2.2 0 1) (T.2.2.1.2.2 0 0) (T.2.2.1.2.2 0 2) (bm_dropT T)) ≤ bm_gc T (bm_del lk kn (T, lost)).1 by omega) (show 0 + bm_gs (bm_dropT T) (bm_recv kn (T.2.2.1.2.2 0 1) (T.2.2.1.2.2 0 0) (T.2.2.1.2.2 0 2) (bm_dropT T)) ≤ bm_gs T (bm_del lk kn (T, lost)).1 by omega) ?_
    rw [List.append_nil] at hP hD
    have hP : va_P D kls (List.flatten [[(h, .inr (4, [.ref aL, .ref aS, .ref aM, .int lost]))], wL4, wS4, wM4]) H := hP
    have hD : va_D A (List.flatten [[(h, .inr (4, [.ref aL, .ref aS, .ref aM, .int lost]))], wL4, wS4, wM4]) := hD
    refine W.eq (g2 := F0 m 56 ls []) rfl ?_
    refine lv_goto hx hb d_Control_deliverOldest_56 (tgt := 69) (by decide) ?_
    exact ct_vret hQ hx hb hr hlk hP hD hS hK (by omega) (by omega) d_Control_deliverOldest_69 (by rw [hTD]; exact ⟨wL4, wS4, wM4, rfl, kL4, kS4, kM4⟩)
