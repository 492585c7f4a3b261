/-! Routes: what it answers. -/
abbrev ro_w (cI cZ cG : ClassId) (h aS aE gm qr gw ql qf qd : Nat) (rm rw : Nat → Nat) (mk : Nat → Nat → Int32) (ra : Nat → Nat) (M : Nat → Nat → Int32) (L : Nat → Option Nat) (Hh : Nat → Nat) (Nn : Nat → Bool) : va_W := List.flatten [[(h, .inr (5, [.ref aS, .ref aE, .ref gm, .ref qr, .ref gw, .ref ql, .ref qf, .ref qd]))], [(gm, .inl (cG, 12, .inr (.inr (.inr (.inr (go rm))))))], [(qr, .inl (cI, 12, .inl (cN ra)))], [(gw, .inl (cG, 12, .inr (.inr (.inr (.inr (go rw))))))], [(ql, .inl (cI, 12, .inl (lI L)))], [(qf, .inl (cI, 12, .inl (cN Hh)))], [(qd, .inl (cZ, 12, .inl (dB Nn)))], gd cI 12 rm mk, gd cI 12 rw M]
/-- a Routes at h: mk the masks, ra when each router's were reckoned -/
def ro_R (cI cZ cG : ClassId) (h aS aE : Nat) (mk : Nat → Nat → Int32) (ra : Nat → Nat) (ws : va_W) : Prop := ∃ (gm qr gw ql qf qd : Nat) (rm rw : Nat → Nat) (M : Nat → Nat → Int32) (L : Nat → Option Nat) (Hh : Nat → Nat) (Nn : Nat → Bool), ws = ro_w cI cZ cG h aS aE gm qr gw ql qf qd rm rw mk ra M L Hh Nn
theorem ro_R.mem {cI cZ cG : ClassId} {h aS aE : Nat} {mk : Nat → Nat → Int32} {ra : Nat → Nat} {ws : va_W} (hR : ro_R cI cZ cG h aS aE mk ra ws) : ∃ fs, (h, Sum.inr (5, fs)) ∈ ws := by
  obtain ⟨gm, qr, gw, ql, qf, qd, rm, rw, M, L, Hh, Nn, rfl⟩ := hR
  exact ⟨_, List.mem_of_getElem? (i := 0) rfl⟩
/-- an Edges at h -/
def ed_R (cI : ClassId) (h : Nat) (eb : Nat → Option Nat) (t n : Int32) (ws : va_W) : Prop := ∃ q, ws = ed_w cI h q eb t n
theorem ed_R.mem {cI : ClassId} {h : Nat} {eb : Nat → Option Nat} {t n : Int32} {ws : va_W} (hR : ed_R cI h eb t n ws) : ∃ fs, (h, Sum.inr (1, fs)) ∈ ws := by
  obtain ⟨q, rfl⟩ := hR
  exact ⟨_, List.mem_cons_self⟩
theorem k_Edges_isEdge (l : Launch) (D : va_G) (cI cZ cJ cG : ClassId) {h : Nat} {eb : Nat → Option Nat} {t n : Int32} {ws : va_W} (hR : ed_R cI h eb t n ws) (r : Nat) (hr9 : r < 12) : ct_I l D kls (ty4 cI cZ cJ cG) y_Edges_isEdge ws_Edges_isEdge (rm_ 0 0 0 0) [.ref h, .int (nI r)] ws (fun z u => z = bI (decide (bm_em (eb r) ≠ 0)) ∧ u = ws) 0 0 := by
  obtain ⟨q, rfl⟩ := hR
  exact c_Edges_isEdge l D cI cZ cJ cG h q eb t n r hr9
theorem k_Edges_isTaken (l : Launch) (D : va_G) (cI cZ cJ cG : ClassId) {h : Nat} {eb : Nat → Option Nat} {t n : Int32} {ws : va_W} (hR : ed_R cI h eb t n ws) (x : Int32) : ct_I l D kls (ty4 cI cZ cJ cG) y_Edges_isTaken ws_Edges_isTaken (rm_ 0 0 0 0) [.ref h, .int x] ws (fun z u => z = bI (decide (t &&& x ≠ 0)) ∧ u = ws) 0 0 := by
  obtain ⟨q, rfl⟩ := hR
  exact c_Edges_isTaken l D cI cZ cJ cG h q eb t n x
theorem k_Edges_bitOf (l : Launch) (D : va_G) (cI cZ cJ cG : ClassId) {h : Nat} {eb : Nat → Option Nat} {t n : Int32} {ws : va_W} (hR : ed_R cI h eb t n ws) (r : Nat) (hr9 : r < 12) : ct_I l D kls (ty4 cI cZ cJ cG) y_Edges_bitOf ws_Edges_bitOf (rm_ 0 0 0 0) [.ref h, .int (nI r)] ws (fun z u => z = bm_em (eb r) ∧ u = ws) 0 0 := by
  obtain ⟨q, rfl⟩ := hR
  exact c_Edges_bitOf l D cI cZ cJ cG h q eb t n r hr9
theorem k_Edges_edgesSoFar (l : Launch) (D : va_G) (cI cZ cJ cG : ClassId) {h : Nat} {eb : Nat → Option Nat} {t n : Int32} {ws : va_W} (hR : ed_R cI h eb t n ws)  : ct_I l D kls (ty4 cI cZ cJ cG) y_Edges_edgesSoFar ws_Edges_edgesSoFar (rm_ 0 0 0 0) [.ref h] ws (fun z u => z = n ∧ u = ws) 0 0 := by
  obtain ⟨q, rfl⟩ := hR
  exact c_Edges_edgesSoFar l D cI cZ cJ cG h q eb t n 
theorem k_Edges_make (l : Launch) (D : va_G) (cI cZ cJ cG : ClassId) {h : Nat} {eb : Nat → Option Nat} {t n : Int32} {ws : va_W} (hR : ed_R cI h eb t n ws) (r : Nat) (x : Option Nat) (hr9 : r < 12) : ct_V l D kls (ty4 cI cZ cJ cG) y_Edges_make ws_Edges_make (rm_ 0 0 0 0) [.ref h, .int (nI r), .int (bm_em x)] ws (fun u => ed_R cI h (bm_up1 eb r x) (t ||| bm_em x) (n + nI 1) u) 0 0 := by
  obtain ⟨q, rfl⟩ := hR
  exact (c_Edges_make l D cI cZ cJ cG h q eb t n r x hr9).to (fun u hu => ⟨q, hu⟩)
set_option maxHeartbeats 4000000 in
set_option maxRecDepth 100000 in
theorem k_Routes_lengthOfWay (l : Launch) (D : va_G) (cI cZ cJ cG : ClassId) {h aS aE : Nat} {mk : Nat → Nat → Int32} {ra : Nat → Nat} {wR : va_W} {T1 : bm_M Nat} {hd : Nat → Nat → Nat} {ch : Nat → Nat} {wS : va_W} {eb : Nat → Option Nat} {t9 n9 : Int32} {wE : va_W} (hR : ro_R cI cZ cG h aS aE mk ra wR) (kS : so_R cI cG aS T1 hd ch wS) (kE : ed_R cI aE eb t9 n9 wE) (r o : Nat) (hr9 : r < 12) (ho9 : o < 12) (hh : ∀ x, x < 12 → hd r x < T1.2.1) (hA1 : ∀ i j, i < T1.2.1 → j < 12 → T1.2.2 i (2 + j) ≤ 1000) (hw0 : ∀ x, vw0 T1.2.2 hd r x x = 0) (hwb : ∀ a b, vw0 T1.2.2 hd r a b ≤ 1023) : ct_I l D kls (ty4 cI cZ cJ cG) y_Routes_lengthOfWay ws_Routes_lengthOfWay (rm_ 3 71 0 0) [.ref h, .int (nI r), .int (nI o)] (List.flatten [wR, wS, wE]) (fun z u => z = bm_oI (bn_len (vw0 T1.2.2 hd r) r o) ∧ ∃ wR2, u = List.flatten [wR2, wS, wE] ∧ ro_R cI cZ cG h aS aE mk ra wR2) 0 0 := by
  obtain ⟨gm, qr, gw, ql, qf, qd, rm, rw, M, L, Hh, Nn, rfl⟩ := hR
  obtain ⟨fsS, mS⟩ := kS.mem
  obtain ⟨fsE, mE⟩ := kE.mem
  refine ct_enterI (cc := b_Routes_lengthOfWay) (maxL := 3) (ret := (some .int)) (by decide +kernel) (Nat.le_of_ble_eq_true rfl) ?_
  intro p e s m args below meth c hx hb hml hr ht hown hlk hnm A Q hA hK hP hD hQ ls hl
  have hown : s.vm.findClass R_Routes = some m.cls := hown
  have hS : va_S A s.heap s.heap [] := va_S.rf
  have hl : lv_has ls 3 [(0, .ref h), (1, .int (nI r)), (2, .int (nI o))] := hl
  rw [fl_exp] at hP hD
  have hP : va_P D kls (List.flatten [[(h, .inr (5, [.ref aS, .ref aE, .ref gm, .ref qr, .ref gw, .ref ql, .ref qf, .ref qd]))], [(gm, .inl (cG, 12, .inr (.inr (.inr (.inr (go rm))))))], [(qr, .inl (cI, 12, .inl (cN ra)))], [(gw, .inl (cG, 12, .inr (.inr (.inr (.inr (go rw))))))], [(ql, .inl (cI, 12, .inl (lI L)))], [(qf, .inl (cI, 12, .inl (cN Hh)))], [(qd, .inl (cZ, 12, .inl (dB Nn)))], gd cI 12 rm mk, gd cI 12 rw M, wS, wE]) s.heap := hP
  have hD : va_D A (List.flatten [[(h, .inr (5, [.ref aS, .ref aE, .ref gm, .ref qr, .ref gw, .ref ql, .ref qf, .ref qd]))], [(gm, .inl (cG, 12, .inr (.inr (.inr (.inr (go rm))))))], [(qr, .inl (cI, 12, .inl (cN ra)))], [(gw, .inl (cG, 12, .inr (.inr (.inr (.inr (go rw))))))], [(ql, .inl (cI, 12, .inl (lI L)))], [(qf, .inl (cI, 12, .inl (cN Hh)))], [(qd, .inl (cZ, 12, .inl (dB Nn)))], gd cI 12 rm mk, gd cI 12 rw M, wS, wE]) := hD
  refine lv_aload_n hx hb d_Routes_lengthOfWay_0 rfl (lv_at hl 0 rfl) ?_
  refine va_get (D := D) (ci := 5) (v := .ref aS) (C := R_Routes) (T := T_Routes) (N := 8) hx hb ht in_Routes hown hK hP 0 rfl rfl 0 (by decide) (ht _ kl_Routes_33) (fun _ h9 => h9) rfl d_Routes_lengthOfWay_1 ?_
  refine lv_iload_n hx hb d_Routes_lengthOfWay_4 rfl (lv_at hl 1 rfl) ?_
  refine lv_aload_n hx hb d_Routes_lengthOfWay_5 rfl (lv_at hl 0 rfl) ?_
  refine va_get (D := D) (ci := 5) (v := .ref gw) (C := R_Routes) (T := T_Routes) (N := 8) hx hb ht in_Routes hown hK hP 0 rfl rfl 4 (by decide) (ht _ kl_Routes_20) (fun _ h9 => h9) rfl d_Routes_lengthOfWay_6 ?_
  refine ct_callVV (C := R_Stores) (ci := 3) (As := [.int (nI r), .ref gw]) (rest := []) ⟨hx, hb, hml, hown, ht⟩ (k_Stores_writeView l D cI cZ cJ cG kS gw rw M r hr9 hh hA1) (cb_V ht kc_Stores_writeView kl_Routes_57 kn_Stores ki_Stores_writeView ks_Stores_writeView hd_Stores_writeView ⟨Nat.le_of_ble_eq_true rfl, Nat.le_of_ble_eq_true rfl⟩) (wd_mem 9 rfl mS) rfl rfl (wd_ct (Bs := [[(h, .inr (5, [.ref aS, .ref aE, .ref gm, .ref qr, .ref gw, .ref ql, .ref qf, .ref qd]))], [(gm, .inl (cG, 12, .inr (.inr (.inr (.inr (go rm))))))], [(qr, .inl (cI, 12, .inl (cN ra)))], [(gw, .inl (cG, 12, .inr (.inr (.inr (.inr (go rw))))))], [(ql, .inl (cI, 12, .inl (lI L)))], [(qf, .inl (cI, 12, .inl (cN Hh)))], [(qd, .inl (cZ, 12, .inl (dB Nn)))], gd cI 12 rm mk, gd cI 12 rw M, wS, wE]) 11 rfl [9, 3, 8] [0, 1, 2, 4, 5, 6, 7, 10] (by decide) rfl) hK hP hD hS hA rfl hl.1 rfl (Nat.le_of_ble_eq_true rfl) ⟨(show 0 + 0 ≤ 0 by omega), (show 0 + 0 ≤ 0 by omega)⟩ d_Routes_lengthOfWay_9 (fun u1 H locs hu1 hP hD hS => ?_)
  subst hu1
  refine W.widen (k := 0) (n := 0) (Nat.le_refl _) (Nat.le_refl _) ?_
  have hP := wd_nP (N := [wS, [(gw, .inl (cG, 12, .inr (.inr (.inr (.inr (go rw))))))], gd cI 12 rw (gN (vw0 T1.2.2 hd r))]) rfl 11 rfl [3, 4, 5, 1, 6, 7, 8, 9, 2, 0, 10] (by decide) hP
  have hD := wd_nD (N := [wS, [(gw, .inl (cG, 12, .inr (.inr (.inr (.inr (go rw))))))], gd cI 12 rw (gN (vw0 T1.2.2 hd r))]) rfl 11 rfl [3, 4, 5, 1, 6, 7, 8, 9, 2, 0, 10] (by decide) hD
  have hP : va_P D kls (List.flatten [[(h, .inr (5, [.ref aS, .ref aE, .ref gm, .ref qr, .ref gw, .ref ql, .ref qf, .ref qd]))], [(gm, .inl (cG, 12, .inr (.inr (.inr (.inr (go rm))))))], [(qr, .inl (cI, 12, .inl (cN ra)))], [(gw, .inl (cG, 12, .inr (.inr (.inr (.inr (go rw))))))], [(ql, .inl (cI, 12, .inl (lI L)))], [(qf, .inl (cI, 12, .inl (cN Hh)))], [(qd, .inl (cZ, 12, .inl (dB Nn)))], gd cI 12 rm mk, gd cI 12 rw (gN (vw0 T1.2.2 hd r)), wS, wE]) H := hP
  have hD : va_D A (List.flatten [[(h, .inr (5, [.ref aS, .ref aE, .ref gm, .ref qr, .ref gw, .ref ql, .ref qf, .ref qd]))], [(gm, .inl (cG, 12, .inr (.inr (.inr (.inr (go rm))))))], [(qr, .inl (cI, 12, .inl (cN ra)))], [(gw, .inl (cG, 12, .inr (.inr (.inr (.inr (go rw))))))], [(ql, .inl (cI, 12, .inl (lI L)))], [(qf, .inl (cI, 12, .inl (cN Hh)))], [(qd, .inl (cZ, 12, .inl (dB Nn)))], gd cI 12 rm mk, gd cI 12 rw (gN (vw0 T1.2.2 hd r)), wS, wE]) := hD
  refine W.eq (g2 := F0 m 12 ls []) rfl ?_
  refine lv_aload_n hx hb d_Routes_lengthOfWay_12 rfl (lv_at hl 0 rfl) ?_
  refine lv_iload_n hx hb d_Routes_lengthOfWay_13 rfl (lv_at hl 1 rfl) ?_
  refine ct_callVV (C := R_Routes) (ci := 5) (As := [.int (nI r)]) (rest := []) ⟨hx, hb, hml, hown, ht⟩ (c_Routes_reckonWaysFrom l D cI cZ cJ cG h aS aE gm qr gw ql qf qd rw (vw0 T1.2.2 hd r) L Hh Nn r hr9 hw0 hwb) (cb_V ht kc_Routes_reckonWaysFrom kl_Routes_61 kn_Routes ki_Routes_reckonWaysFrom ks_Routes_reckonWaysFrom hd_Routes_reckonWaysFrom ⟨Nat.le_of_ble_eq_true rfl, Nat.le_of_ble_eq_true rfl⟩) (List.mem_of_getElem? (i := 0) rfl) rfl rfl (wd_ct (Bs := [[(h, .inr (5, [.ref aS, .ref aE, .ref gm, .ref qr, .ref gw, .ref ql, .ref qf, .ref qd]))], [(gm, .inl (cG, 12, .inr (.inr (.inr (.inr (go rm))))))], [(qr, .inl (cI, 12, .inl (cN ra)))], [(gw, .inl (cG, 12, .inr (.inr (.inr (.inr (go rw))))))], [(ql, .inl (cI, 12, .inl (lI L)))], [(qf, .inl (cI, 12, .inl (cN Hh)))], [(qd, .inl (cZ, 12, .inl (dB Nn)))], gd cI 12 rm mk, gd cI 12 rw (gN (vw0 T1.2.2 hd r)), wS, wE]) 11 rfl [0, 3, 4, 5, 6, 8] [1, 2, 7, 9, 10] (by decide) rfl) hK hP hD hS hA rfl hl.1 rfl (Nat.le_of_ble_eq_true rfl) ⟨(show 0 + 0 ≤ 0 by omega), (show 0 + 0 ≤ 0 by omega)⟩ d_Routes_lengthOfWay_14 (fun u2 H locs hu2 hP hD hS => ?_)
  obtain ⟨L2, H2, N2, rfl, eL2, eH2, bH2, bL2⟩ := hu2
  refine W.widen (k := 0) (n := 0) (Nat.le_refl _) (Nat.le_refl _) ?_
  have hP := wd_nP (N := [[(h, .inr (5, [.ref aS, .ref aE, .ref gm, .ref qr, .ref gw, .ref ql, .ref qf, .ref qd]))], [(gw, .inl (cG, 12, .inr (.inr (.inr (.inr (go rw))))))], [(ql, .inl (cI, 12, .inl (lI L2)))], [(qf, .inl (cI, 12, .inl (cN H2)))], [(qd, .inl (cZ, 12, .inl (dB N2)))], gd cI 12 rw (gN (vw0 T1.2.2 hd r))]) rfl 11 rfl [0, 6, 7, 1, 2, 3, 4, 8, 5, 9, 10] (by decide) hP
  have hD := wd_nD (N := [[(h, .inr (5, [.ref aS, .ref aE, .ref gm, .ref qr, .ref gw, .ref ql, .ref qf, .ref qd]))], [(gw, .inl (cG, 12, .inr (.inr (.inr (.inr (go rw))))))], [(ql, .inl (cI, 12, .inl (lI L2)))], [(qf, .inl (cI, 12, .inl (cN H2)))], [(qd, .inl (cZ, 12, .inl (dB N2)))], gd cI 12 rw (gN (vw0 T1.2.2 hd r))]) rfl 11 rfl [0, 6, 7, 1, 2, 3, 4, 8, 5, 9, 10] (by decide) hD
  have hP : va_P D kls (List.flatten [[(h, .inr (5, [.ref aS, .ref aE, .ref gm, .ref qr, .ref gw, .ref ql, .ref qf, .ref qd]))], [(gm, .inl (cG, 12, .inr (.inr (.inr (.inr (go rm))))))], [(qr, .inl (cI, 12, .inl (cN ra)))], [(gw, .inl (cG, 12, .inr (.inr (.inr (.inr (go rw))))))], [(ql, .inl (cI, 12, .inl (lI L2)))], [(qf, .inl (cI, 12, .inl (cN H2)))], [(qd, .inl (cZ, 12, .inl (dB N2)))], gd cI 12 rm mk, gd cI 12 rw (gN (vw0 T1.2.2 hd r)), wS, wE]) H := hP
  have hD : va_D A (List.flatten [[(h, .inr (5, [.ref aS, .ref aE, .ref gm, .ref qr, .ref gw, .ref ql, .ref qf, .ref qd]))], [(gm, .inl (cG, 12, .inr (.inr (.inr (.inr (go rm))))))], [(qr, .inl (cI, 12, .inl (cN ra)))], [(gw, .inl (cG, 12, .inr (.inr (.inr (.inr (go rw))))))], [(ql, .inl (cI, 12, .inl (lI L2)))], [(qf, .inl (cI, 12, .inl (cN H2)))], [(qd, .inl (cZ, 12, .inl (dB N2)))], gd cI 12 rm mk, gd cI 12 rw (gN (vw0 T1.2.2 hd r)), wS, wE]) := hD
  refine W.eq (g2 := F0 m 17 ls []) rfl ?_
  refine lv_aload_n hx hb d_Routes_lengthOfWay_17 rfl (lv_at hl 0 rfl) ?_
  refine va_get (D := D) (ci := 5) (v := .ref ql) (C := R_Routes) (T := T_Routes) (N := 8) hx hb ht in_Routes hown hK hP 0 rfl rfl 5 (by decide) (ht _ kl_Routes_23) (fun _ h9 => h9) rfl d_Routes_lengthOfWay_18 ?_
  refine lv_iload_n hx hb d_Routes_lengthOfWay_21 rfl (lv_at hl 2 rfl) ?_
  refine ri_iald hx hb hK hP 4 0 rfl rfl (j := o) (by omega) (by omega) d_Routes_lengthOfWay_22 ?_
  refine W.eq (g2 := F0 m 23 ls [.int (bm_oI (L2 o))]) rfl ?_
  exact ct_iret hQ hx hb hr hlk hP hD hS hK (by omega) (by omega) d_Routes_lengthOfWay_23 (⟨congrArg bm_oI (eL2 o ho9), ro_w cI cZ cG h aS aE gm qr gw ql qf qd rm rw mk ra (gN (vw0 T1.2.2 hd r)) L2 H2 N2, by rw [fl_exp]; rfl, gm, qr, gw, ql, qf, qd, rm, rw, _, L2, H2, N2, rfl⟩)
