/-! Data: starts, deliveries. -/
def bm_start (eb : Nat → Option Nat) (mk : Nat → Int32) (r : Nat) (set : Int32) (D : bm_D) : bm_D := bm_handle eb mk (D.1.2.1 + 1) r set 0 (bm_push D.1 (fun _ => 0), D.2)
def bm_dropD (D : bm_D) : bm_D := (D.1, bm_drop D.2.1, D.2.2)
def bm_ddel (lk : Nat → Nat → Nat) (eb : Nat → Option Nat) (mkr : Nat → Nat → Int32) (pk f t hp : Nat) (D : bm_D) : bm_D := if lk f t = 1 then bm_handle eb (mkr t) pk t (D.2.1.2.2 0 3) hp (bm_dropD D) else bm_loses (D.2.1.2.2 0 3) (bm_dropD D)
def bm_dlose (D : bm_D) : bm_D := if D.2.1.2.1 = 0 then D else bm_loses (D.2.1.2.2 0 3) (bm_dropD D)
theorem bm_own_1 (own : Int32) (p : Nat) (D : bm_D) : (bm_own own p D).1.1 = D.1.1 ∧ (bm_own own p D).1.2.1 = D.1.2.1 ∧ (bm_own own p D).2.1 = D.2.1 := by
  unfold bm_own
  split
  · exact ⟨rfl, rfl, rfl⟩
  · exact ⟨rfl, rfl, rfl⟩
theorem bm_handle_1 (eb : Nat → Option Nat) (mk : Nat → Int32) (p r : Nat) (set : Int32) (h : Nat) (D : bm_D) : (bm_handle eb mk p r set h D).1.1 = D.1.1 ∧ (bm_handle eb mk p r set h D).1.2.1 = D.1.2.1 := by
  have h1 := bm_parts_1 mk p r h (set &&& ((set &&& bm_em (eb r)) ^^^ (-1)), bm_own (set &&& bm_em (eb r)) p D) 12
  have h2 := bm_own_1 (set &&& bm_em (eb r)) p D
  exact ⟨h1.1.trans h2.1, h1.2.trans h2.2.1⟩
theorem bm_handle_le (eb : Nat → Option Nat) (mk : Nat → Int32) (p r : Nat) (set : Int32) (h : Nat) (D : bm_D) : D.2.1.1 ≤ (bm_handle eb mk p r set h D).2.1.1 := by
  have h1 := bm_parts_le mk p r h (set &&& ((set &&& bm_em (eb r)) ^^^ (-1)), bm_own (set &&& bm_em (eb r)) p D) 12 0 (by omega)
  have h2 := bm_own_1 (set &&& bm_em (eb r)) p D
  have h3 : (bm_parts mk p r h (set &&& ((set &&& bm_em (eb r)) ^^^ (-1)), bm_own (set &&& bm_em (eb r)) p D) 0).2.2.1.1 = D.2.1.1 := congrArg (fun z => z.1) h2.2.2
  rw [h3] at h1
  exact h1
set_option maxHeartbeats 1000000 in
set_option maxRecDepth 100000 in
theorem k_Data_start (l : Launch) (D : va_G) (cI cZ cJ cG : ClassId) {h aL aE aR aP aC : Nat} {Dd : bm_D} {ws : va_W} {aS : Nat} {wR : va_W} {T1 : bm_M Nat} {hd : Nat → Nat → Nat} {ch : Nat → Nat} {wS : va_W} {eb : Nat → Option Nat} {t9 : Int32} {es : Nat} {wE : va_W} (hR : da_R cI h aL aE aR aP aC Dd ws) (kR : rt_R cI cZ cG aR aS aE T1.2.2 hd ch eb es wR) (kS : so_R cI cG aS T1 hd ch wS) (kE : ed_R cI aE eb t9 (nI es) wE) (hok : rt_ok T1 hd ch es) (r : Nat) (set : Int32) (hr9 : r < 12) (hcP : Dd.1.1 ≤ 50000) (hc : (bm_start eb (bm_mkr T1.2.2 hd eb r) r set Dd).2.1.1 ≤ 50000) : ct_I l D kls (ty4 cI cZ cJ cG) y_Data_start ws_Data_start (rm_ 6 144 (((bm_start eb (bm_mkr T1.2.2 hd eb r) r set Dd).1.1 - Dd.1.1) + ((bm_start eb (bm_mkr T1.2.2 hd eb r) r set Dd).2.1.1 - Dd.2.1.1)) (2 * 2 * ((bm_start eb (bm_mkr T1.2.2 hd eb r) r set Dd).1.1 - Dd.1.1) + 2 * 5 * ((bm_start eb (bm_mkr T1.2.2 hd eb r) r set Dd).2.1.1 - Dd.2.1.1))) [.ref h, .int (nI r), .int set] (List.flatten [ws, wR, wS, wE]) (fun z u => z = nI (Dd.1.2.1 + 1) ∧ ∃ wD2 wR2, u = List.flatten [wD2, wR2, wS, wE] ∧ da_R cI h aL aE aR aP aC (bm_start eb (bm_mkr T1.2.2 hd eb r) r set Dd) wD2 ∧ rt_R cI cZ cG aR aS aE T1.2.2 hd ch eb es wR2) (((bm_start eb (bm_mkr T1.2.2 hd eb r) r set Dd).1.1 - Dd.1.1) + ((bm_start eb (bm_mkr T1.2.2 hd eb r) r set Dd).2.1.1 - Dd.2.1.1)) (2 * 2 * ((bm_start eb (bm_mkr T1.2.2 hd eb r) r set Dd).1.1 - Dd.1.1) + 2 * 5 * ((bm_start eb (bm_mkr T1.2.2 hd eb r) r set Dd).2.1.1 - Dd.2.1.1)) := by
  obtain ⟨wP, wC, rfl, kP, kC⟩ := hR
  obtain ⟨fsP, mP⟩ := kP.mem
  obtain ⟨fsC, mC⟩ := kC.mem
  have bP9 := kP.n
  have bC9 := kC.n
  obtain ⟨fsR, mR⟩ := kR.mem
  obtain ⟨fsE, mE⟩ := kE.mem
  refine ct_enterI (cc := b_Data_start) (maxL := 4) (ret := (some .int)) (by decide +kernel) (Nat.le_of_ble_eq_true rfl) ?_
  intro p e s m args below meth c hx hb hml hr ht hown hlk hnm A Q hA hK hP hD hQ ls hl
  have hown : s.vm.findClass R_Data = some m.cls := hown
  have hS : va_S A s.heap s.heap [] := va_S.rf
  have hl : lv_has ls 4 [(0, .ref h), (1, .int (nI r)), (2, .int set)] := hl
  rw [fl_exp] at hP hD
  have hP : va_P D kls (List.flatten [[(h, .inr (6, [.ref aL, .ref aE, .ref aR, .ref aP, .ref aC, .int Dd.2.2.1, .int Dd.2.2.2.1, .int Dd.2.2.2.2]))], wP, wC, wR, wS, wE]) s.heap := hP
  have hD : va_D A (List.flatten [[(h, .inr (6, [.ref aL, .ref aE, .ref aR, .ref aP, .ref aC, .int Dd.2.2.1, .int Dd.2.2.2.1, .int Dd.2.2.2.2]))], wP, wC, wR, wS, wE]) := hD
  have hSX : bm_start eb (bm_mkr T1.2.2 hd eb r) r set Dd = bm_handle eb (bm_mkr T1.2.2 hd eb r) (Dd.1.2.1 + 1) r set 0 (bm_push Dd.1 (fun _ => (0 : Int32)), Dd.2) := rfl
  have hs1 : (bm_start eb (bm_mkr T1.2.2 hd eb r) r set Dd).1.1 = (bm_push Dd.1 (fun _ => (0 : Int32))).1 := by rw [hSX]; exact (bm_handle_1 eb (bm_mkr T1.2.2 hd eb r) (Dd.1.2.1 + 1) r set 0 (bm_push Dd.1 (fun _ => (0 : Int32)), Dd.2)).1
  have hs2 : Dd.2.1.1 ≤ (bm_start eb (bm_mkr T1.2.2 hd eb r) r set Dd).2.1.1 := by rw [hSX]; exact bm_handle_le eb (bm_mkr T1.2.2 hd eb r) (Dd.1.2.1 + 1) r set 0 (bm_push Dd.1 (fun _ => (0 : Int32)), Dd.2)
  refine lv_aload_n hx hb d_Data_start_0 rfl (lv_at hl 0 rfl) ?_
  refine va_get (D := D) (ci := 6) (v := .ref aP) (C := R_Data) (T := T_Data) (N := 8) hx hb ht in_Data hown hK hP 0 rfl rfl 3 (by decide) (ht _ kl_Data_14) (fun _ h9 => h9) rfl d_Data_start_1 ?_
  refine ct_callVI (C := R_Rows) (ci := 0) (As := []) (rest := []) ⟨hx, hb, hml, hown, ht⟩ (k_Rows_add l D cI cZ cJ cG kP hcP) (cb_V ht kc_Rows_add kl_Data_56 kn_Rows ki_Rows_add ks_Rows_add hd_Rows_add ⟨Nat.le_of_ble_eq_true rfl, Nat.le_of_ble_eq_true rfl⟩) (wd_mem 1 rfl mP) rfl rfl (wd_ct (Bs := [[(h, .inr (6, [.ref aL, .ref aE, .ref aR, .ref aP, .ref aC, .int Dd.2.2.1, .int Dd.2.2.2.1, .int Dd.2.2.2.2]))], wP, wC, wR, wS, wE]) 6 rfl [1] [0, 2, 3, 4, 5] (by decide) (wd_1 _)) hK hP hD hS hA rfl hl.1 rfl (Nat.le_of_ble_eq_true rfl) ⟨(show 0 + ((bm_push Dd.1 (fun _ => (0 : Int32))).1 - Dd.1.1) ≤ ((bm_start eb (bm_mkr T1.2.2 hd eb r) r set Dd).1.1 - Dd.1.1) + ((bm_start eb (bm_mkr T1.2.2 hd eb r) r set Dd).2.1.1 - Dd.2.1.1) by omega), (show 0 + 2 * 2 * ((bm_push Dd.1 (fun _ => (0 : Int32))).1 - Dd.1.1) ≤ 2 * 2 * ((bm_start eb (bm_mkr T1.2.2 hd eb r) r set Dd).1.1 - Dd.1.1) + 2 * 5 * ((bm_start eb (bm_mkr T1.2.2 hd eb r) r set Dd).2.1.1 - Dd.2.1.1) by omega)⟩ d_Data_start_4 (fun ru1 u1 H locs hu1 hP hD hS => ?_)
  obtain ⟨rfl, kA⟩ := hu1
  refine W.widen (k := (bm_push Dd.1 (fun _ => (0 : Int32))).1 - Dd.1.1) (n := 2 * 2 * ((bm_push Dd.1 (fun _ => (0 : Int32))).1 - Dd.1.1)) (Nat.le_of_eq (Nat.zero_add _)) (Nat.le_of_eq (Nat.zero_add _)) ?_
  have hP := wd_nP (N := [u1]) (wd_1 _) 6 rfl [1, 0, 2, 3, 4, 5] (by decide) hP
  have hD := wd_nD (N := [u1]) (wd_1 _) 6 rfl [1, 0, 2, 3, 4, 5] (by decide) hD
  have hP : va_P D kls (List.flatten [[(h, .inr (6, [.ref aL, .ref aE, .ref aR, .ref aP, .ref aC, .int Dd.2.2.1, .int Dd.2.2.2.1, .int Dd.2.2.2.2]))], u1, wC, wR, wS, wE]) H := hP
  have hD : va_D A (List.flatten [[(h, .inr (6, [.ref aL, .ref aE, .ref aR, .ref aP, .ref aC, .int Dd.2.2.1, .int Dd.2.2.2.1, .int Dd.2.2.2.2]))], u1, wC, wR, wS, wE]) := hD
  refine lv_iconst (v := nI 1) hx hb d_Data_start_7 (by decide) ?_
  refine ri_iadd hx hb d_Data_start_8 ?_
  refine lv_istore_n hx hb d_Data_start_9 rfl hl (by decide) rfl (fun ls hl => ?_)
  have hl : lv_has ls 4 [(3, .int (nI (Dd.1.2.1 + 1))), (0, .ref h), (1, .int (nI r)), (2, .int set)] := hl
  refine lv_aload_n hx hb d_Data_start_10 rfl (lv_at hl 1 rfl) ?_
  refine lv_iload_n hx hb d_Data_start_11 rfl (lv_at hl 0 rfl) ?_
  refine lv_iload_n hx hb d_Data_start_12 rfl (lv_at hl 2 rfl) ?_
  refine lv_iload_n hx hb d_Data_start_13 rfl (lv_at hl 3 rfl) ?_
  refine lv_iconst (v := nI 0) hx hb d_Data_start_14 (by decide) ?_
  have e1 : (bm_start eb (bm_mkr T1.2.2 hd eb r) r set Dd).2.1.1 = (bm_handle eb (bm_mkr T1.2.2 hd eb r) (Dd.1.2.1 + 1) r set 0 (bm_push Dd.1 (fun _ => (0 : Int32)), Dd.2)).2.1.1 := congrArg (fun z : bm_D => z.2.1.1) hSX
  have e2 : (bm_push Dd.1 (fun _ => (0 : Int32)), Dd.2).2.1.1 = Dd.2.1.1 := rfl
  have hR9 : da_R cI h aL aE aR aP aC (bm_push Dd.1 (fun _ => (0 : Int32)), Dd.2) (da_w h aL aE aR aP aC (bm_push Dd.1 (fun _ => (0 : Int32)), Dd.2) u1 wC) := ⟨u1, wC, rfl, kA, kC⟩
  have hpk : Dd.1.2.1 + 1 ≤ (bm_push Dd.1 (fun _ => (0 : Int32)), Dd.2).1.2.1 := Nat.le_refl _
  have hcc : (bm_handle eb (bm_mkr T1.2.2 hd eb r) (Dd.1.2.1 + 1) r set 0 (bm_push Dd.1 (fun _ => (0 : Int32)), Dd.2)).2.1.1 ≤ 50000 := by rw [← e1]; exact hc
  refine ct_callVV (C := R_Data) (ci := 6) (As := [.int (nI (Dd.1.2.1 + 1)), .int (nI r), .int set, .int (nI 0)]) (rest := []) ⟨hx, hb, hml, hown, ht⟩ (k_Data_handle l D cI cZ cJ cG hR9 kR kS kE hok (Dd.1.2.1 + 1) r set 0 hr9 (by omega) hpk (by decide) hcc) (cb_V ht kc_Data_handle kl_Data_59 kn_Data ki_Data_handle ks_Data_handle hd_Data_handle ⟨Nat.le_of_ble_eq_true rfl, Nat.le_of_ble_eq_true rfl⟩) (List.mem_of_getElem? (i := 0) rfl) rfl rfl (wd_ct (Bs := [[(h, .inr (6, [.ref aL, .ref aE, .ref aR, .ref aP, .ref aC, .int Dd.2.2.1, .int Dd.2.2.2.1, .int Dd.2.2.2.2]))], u1, wC, wR, wS, wE]) 6 rfl [0, 1, 2, 3, 4, 5] [] (by decide) (by show List.flatten _ = _; rw [fl_exp]; rfl)) hK hP hD hS hA rfl hl.1 rfl (Nat.le_of_ble_eq_true rfl) ⟨(show ((bm_push Dd.1 (fun _ => (0 : Int32))).1 - Dd.1.1) + ((bm_handle eb (bm_mkr T1.2.2 hd eb r) (Dd.1.2.1 + 1) r set 0 (bm_push Dd.1 (fun _ => (0 : Int32)), Dd.2)).2.1.1 - (bm_push Dd.1 (fun _ => (0 : Int32)), Dd.2).2.1.1) ≤ ((bm_start eb (bm_mkr T1.2.2 hd eb r) r set Dd).1.1 - Dd.1.1) + ((bm_start eb (bm_mkr T1.2.2 hd eb r) r set Dd).2.1.1 - Dd.2.1.1) by omega), (show 2 * 2 * ((bm_push Dd.1 (fun _ => (0 : Int32))).1 - Dd.1.1) + 2 * 5 * ((bm_handle eb (bm_mkr T1.2.2 hd eb r) (Dd.1.2.1 + 1) r set 0 (bm_push Dd.1 (fun _ => (0 : Int32)), Dd.2)).2.1.1 - (bm_push Dd.1 (fun _ => (0 : Int32)), Dd.2).2.1.1) ≤ 2 * 2 * ((bm_start eb (bm_mkr T1.2.2 hd eb r) r set Dd).1.1 - Dd.1.1) + 2 * 5 * ((bm_start eb (bm_mkr T1.2.2 hd eb r) r set Dd).2.1.1 - Dd.2.1.1) by omega)⟩ d_Data_start_15 (fun u2 H locs hu2 hP hD hS => ?_)
  obtain ⟨wD2, wR2, rfl, kD2, kR2⟩ := hu2
  refine W.widen (k := ((bm_start eb (bm_mkr T1.2.2 hd eb r) r set Dd).1.1 - Dd.1.1) + ((bm_start eb (bm_mkr T1.2.2 hd eb r) r set Dd).2.1.1 - Dd.2.1.1)) (n := 2 * 2 * ((bm_start eb (bm_mkr T1.2.2 hd eb r) r set Dd).1.1 - Dd.1.1) + 2 * 5 * ((bm_start eb (bm_mkr T1.2.2 hd eb r) r set Dd).2.1.1 - Dd.2.1.1)) (show ((bm_push Dd.1 (fun _ => (0 : Int32))).1 - Dd.1.1) + ((bm_handle eb (bm_mkr T1.2.2 hd eb r) (Dd.1.2.1 + 1) r set 0 (bm_push Dd.1 (fun _ => (0 : Int32)), Dd.2)).2.1.1 - (bm_push Dd.1 (fun _ => (0 : Int32)), Dd.2).2.1.1) ≤ ((bm_start eb (bm_mkr T1.2.2 hd eb r) r set Dd).1.1 - Dd.1.1) + ((bm_start eb (bm_mkr T1.2.2 hd eb r) r set Dd).2.1.1 - Dd.2.1.1) by omega) (show 2 * 2 * ((bm_push Dd.1 (fun _ => (0 : Int32))).1 - Dd.1.1) + 2 * 5 * ((bm_handle eb (bm_mkr T1.2.2 hd eb r) (Dd.1.2.1 + 1) r set 0 (bm_push Dd.1 (fun _ => (0 : Int32)), Dd.2)).2.1.1 - (bm_push Dd.1 (fun _ => (0 : Int32)), Dd.2).2.1.1) ≤ 2 * 2 * ((bm_start eb (bm_mkr T1.2.2 hd eb r) r set Dd).1.1 - Dd.1.1) + 2 * 5 * ((bm_start eb (bm_mkr T1.2.2 hd eb r) r set Dd).2.1.1 - Dd.2.1.1) by omega) ?_
  have hP := wd_nP (N := [wD2, wR2, wS, wE]) rfl 4 rfl [0, 1, 2, 3] (by decide) hP
  have hD := wd_nD (N := [wD2, wR2, wS, wE]) rfl 4 rfl [0, 1, 2, 3] (by decide) hD
  have hP : va_P D kls (List.flatten [wD2, wR2, wS, wE]) H := hP
  have hD : va_D A (List.flatten [wD2, wR2, wS, wE]) := hD
  refine W.eq (g2 := F0 m 18 ls []) rfl ?_
  refine lv_iload_n hx hb d_Data_start_18 rfl (lv_at hl 0 rfl) ?_
  exact ct_iret hQ hx hb hr hlk hP hD hS hK (by omega) (by omega) d_Data_start_19 (⟨rfl, wD2, wR2, rfl, by rw [hSX]; exact kD2, kR2⟩)
set_option maxHeartbeats 1000000 in
set_option maxRecDepth 100000 in
theorem k_Data_loseOldest (l : Launch) (D : va_G) (cI cZ cJ cG : ClassId) {h aL aE aR aP aC : Nat} {Dd : bm_D} {ws : va_W} (hR : da_R cI h aL aE aR aP aC Dd ws) : ct_I l D kls (ty4 cI cZ cJ cG) y_Data_loseOldest ws_Data_loseOldest (rm_ 2 45 0 0) [.ref h] (ws) (fun z u => z = nI (if Dd.2.1.2.1 = 0 then 0 else 1) ∧ da_R cI h aL aE aR aP aC (bm_dlose Dd) u) 0 0 := by
  have hR9 := hR
  obtain ⟨wP, wC, rfl, kP, kC⟩ := hR
  obtain ⟨fsP, mP⟩ := kP.mem
  obtain ⟨fsC, mC⟩ := kC.mem
  have bP9 := kP.n
  have bC9 := kC.n
  refine ct_enterI (cc := b_Data_loseOldest) (maxL := 1) (ret := (some .int)) (by decide +kernel) (Nat.le_of_ble_eq_true rfl) ?_
  intro p e s m args below meth c hx hb hml hr ht hown hlk hnm A Q hA hK hP hD hQ ls hl
  have hown : s.vm.findClass R_Data = some m.cls := hown
  have hS : va_S A s.heap s.heap [] := va_S.rf
  have hl : lv_has ls 1 [(0, .ref h)] := hl
  refine lv_aload_n hx hb d_Data_loseOldest_0 rfl (lv_at hl 0 rfl) ?_
  refine va_get (D := D) (ci := 6) (v := .ref aC) (C := R_Data) (T := T_Data) (N := 8) hx hb ht in_Data hown hK hP 0 rfl rfl 4 (by decide) (ht _ kl_Data_20) (fun _ h9 => h9) rfl d_Data_loseOldest_1 ?_
  refine ct_rdV (C := R_Rows) (ci := 0) (As := []) (rest := []) ⟨hx, hb, hml, hown, ht⟩ (k_Rows_size l D cI cZ cJ cG kC) (cb_V ht kc_Rows_size kl_Data_35 kn_Rows ki_Rows_size ks_Rows_size hd_Rows_size ⟨Nat.le_of_ble_eq_true rfl, Nat.le_of_ble_eq_true rfl⟩) (wd_mem 2 rfl mC) rfl rfl (wd_ct (Bs := [[(h, .inr (6, [.ref aL, .ref aE, .ref aR, .ref aP, .ref aC, .int Dd.2.2.1, .int Dd.2.2.2.1, .int Dd.2.2.2.2]))], wP, wC]) 3 rfl [2] [0, 1] (by decide) (wd_1 _)) hK hP hD hS hA rfl hl.1 rfl (Nat.le_of_ble_eq_true rfl) ⟨(show 0 + 0 ≤ 0 by omega), (show 0 + 0 ≤ 0 by omega)⟩ d_Data_loseOldest_4 (fun rhr1 H locs hr1 hP hD hS => ?_)
  subst hr1
  refine ri_if_ne hx hb (by omega) d_Data_loseOldest_7 (tgt := 12) (by decide) (fun h1 => ?_) (fun h1 => ?_)
  · have hn : 0 < Dd.2.1.2.1 := by omega
    refine lv_aload_n hx hb d_Data_loseOldest_12 rfl (lv_at hl 0 rfl) ?_
    refine lv_dup hx hb d_Data_loseOldest_13 rfl ?_
    refine va_get (D := D) (ci := 6) (v := .int Dd.2.2.2.2) (C := R_Data) (T := T_Data) (N := 8) hx hb ht in_Data hown hK hP 0 rfl rfl 7 (by decide) (ht _ kl_Data_46) (fun _ h9 => h9) rfl d_Data_loseOldest_14 ?_
    refine lv_aload_n hx hb d_Data_loseOldest_17 rfl (lv_at hl 0 rfl) ?_
    refine va_get (D := D) (ci := 6) (v := .ref aC) (C := R_Data) (T := T_Data) (N := 8) hx hb ht in_Data hown hK hP 0 rfl rfl 4 (by decide) (ht _ kl_Data_20) (fun _ h9 => h9) rfl d_Data_loseOldest_18 ?_
    refine lv_iconst (v := nI 0) hx hb d_Data_loseOldest_21 (by decide) ?_
    refine lv_iconst (v := nI 3) hx hb d_Data_loseOldest_22 (by decide) ?_
    refine ct_rdV (C := R_Rows) (ci := 0) (As := [.int (nI 0), .int (nI 3)]) (rest := [.int Dd.2.2.2.2, .ref h]) ⟨hx, hb, hml, hown, ht⟩ (k_Rows_get l D cI cZ cJ cG kC 0 3 hn (by decide)) (cb_V ht kc_Rows_get kl_Data_49 kn_Rows ki_Rows_get ks_Rows_get hd_Rows_get ⟨Nat.le_of_ble_eq_true rfl, Nat.le_of_ble_eq_true rfl⟩) (wd_mem 2 rfl mC) rfl rfl (wd_ct (Bs := [[(h, .inr (6, [.ref aL, .ref aE, .ref aR, .ref aP, .ref aC, .int Dd.2.2.1, .int Dd.2.2.2.1, .int Dd.2.2.2.2]))], wP, wC]) 3 rfl [2] [0, 1] (by decide) (wd_1 _)) hK hP hD hS hA rfl hl.1 rfl (Nat.le_of_ble_eq_true rfl) ⟨(show 0 + 0 ≤ 0 by omega), (show 0 + 0 ≤ 0 by omega)⟩ d_Data_loseOldest_23 (fun rhr3 H locs hr3 hP hD hS => ?_)
    subst hr3
    refine ct_rdS (As := [.int (Dd.2.1.2.2 0 3)]) (rest := [.int Dd.2.2.2.2, .ref h]) ⟨hx, hb, hml, hown, ht⟩ (k_Integer_bitCount l D cI cZ cJ cG (Dd.2.1.2.2 0 3)) (cb_S ht kc_Integer_bitCount kl_Data_72 kn_Integer ki_Integer_bitCount hd_Integer_bitCount ⟨Nat.le_of_ble_eq_true rfl, Nat.le_of_ble_eq_true rfl⟩) (wd_ct (Bs := [[(h, .inr (6, [.ref aL, .ref aE, .ref aR, .ref aP, .ref aC, .int Dd.2.2.1, .int Dd.2.2.2.1, .int Dd.2.2.2.2]))], wP, wC]) 3 rfl [] [0, 1, 2] (by decide) rfl) hK hP hD hS hA rfl hl.1 rfl (Nat.le_of_ble_eq_true rfl) ⟨(show 0 + 0 ≤ 0 by omega), (show 0 + 0 ≤ 0 by omega)⟩ d_Data_loseOldest_26 (fun rhr4 H locs hr4 hP hD hS => ?_)
    subst hr4
    refine lv_iadd hx hb d_Data_loseOldest_29 ?_
    refine va_put (D := D) (ci := 6) (v := .int (Dd.2.2.2.2 + (bm_pop (Dd.2.1.2.2 0 3) 32))) (ty := .int) (C := R_Data) (T := T_Data) (N := 8) hx hb ht in_Data t_Data ok_Data nm_Data hown hK hP hD hS 0 rfl rfl 7 (by decide) (ht _ kl_Data_46) (fun _ h9 => h9) rfl (by decide +kernel) rfl rfl (Nat.le_of_ble_eq_true rfl) d_Data_loseOldest_30 (fun H locs hP hD hS => ?_)
    have hP : va_P D kls (List.flatten [[(h, .inr (6, [.ref aL, .ref aE, .ref aR, .ref aP, .ref aC, .int Dd.2.2.1, .int Dd.2.2.2.1, .int (Dd.2.2.2.2 + (bm_pop (Dd.2.1.2.2 0 3) 32))]))], wP, wC]) H := hP
    have hD : va_D A (List.flatten [[(h, .inr (6, [.ref aL, .ref aE, .ref aR, .ref aP, .ref aC, .int Dd.2.2.1, .int Dd.2.2.2.1, .int (Dd.2.2.2.2 + (bm_pop (Dd.2.1.2.2 0 3) 32))]))], wP, wC]) := hD
    refine lv_aload_n hx hb d_Data_loseOldest_33 rfl (lv_at hl 0 rfl) ?_
    refine va_get (D := D) (ci := 6) (v := .ref aC) (C := R_Data) (T := T_Data) (N := 8) hx hb ht in_Data hown hK hP 0 rfl rfl 4 (by decide) (ht _ kl_Data_20) (fun _ h9 => h9) rfl d_Data_loseOldest_34 ?_
    refine ct_callVV (C := R_Rows) (ci := 0) (As := []) (rest := []) ⟨hx, hb, hml, hown, ht⟩ (k_Rows_dropOldest l D cI cZ cJ cG kC hn) (cb_V ht kc_Rows_dropOldest kl_Data_63 kn_Rows ki_Rows_dropOldest ks_Rows_dropOldest hd_Rows_dropOldest ⟨Nat.le_of_ble_eq_true rfl, Nat.le_of_ble_eq_true rfl⟩) (wd_mem 2 rfl mC) rfl rfl (wd_ct (Bs := [[(h, .inr (6, [.ref aL, .ref aE, .ref aR, .ref aP, .ref aC, .int Dd.2.2.1, .int Dd.2.2.2.1, .int (Dd.2.2.2.2 + (bm_pop (Dd.2.1.2.2 0 3) 32))]))], wP, wC]) 3 rfl [2] [0, 1] (by decide) (wd_1 _)) hK hP hD hS hA rfl hl.1 rfl (Nat.le_of_ble_eq_true rfl) ⟨(Nat.zero_le _), (Nat.zero_le _)⟩ d_Data_loseOldest_37 (fun u5 H locs hu5 hP hD hS => ?_)
    have kC2 := hu5
    refine W.widen (k := 0) (n := 0) (Nat.le_refl _) (Nat.le_refl _) ?_
    have hP := wd_nP (N := [u5]) (wd_1 _) 3 rfl [1, 2, 0] (by decide) hP
    have hD := wd_nD (N := [u5]) (wd_1 _) 3 rfl [1, 2, 0] (by decide) hD
    have hP : va_P D kls (List.flatten [[(h, .inr (6, [.ref aL, .ref aE, .ref aR, .ref aP, .ref aC, .int Dd.2.2.1, .int Dd.2.2.2.1, .int (Dd.2.2.2.2 + (bm_pop (Dd.2.1.2.2 0 3) 32))]))], wP, u5]) H := hP
    have hD : va_D A (List.flatten [[(h, .inr (6, [.ref aL, .ref aE, .ref aR, .ref aP, .ref aC, .int Dd.2.2.1, .int Dd.2.2.2.1, .int (Dd.2.2.2.2 + (bm_pop (Dd.2.1.2.2 0 3) 32))]))], wP, u5]) := hD
    refine W.eq (g2 := F0 m 40 ls []) rfl ?_
    refine lv_iconst (v := nI 1) hx hb d_Data_loseOldest_40 (by decide) ?_
    exact ct_iret hQ hx hb hr hlk hP hD hS hK (by omega) (by omega) d_Data_loseOldest_41 (⟨by rw [if_neg h1], by unfold bm_dlose; rw [if_neg h1]; exact ⟨wP, u5, rfl, kP, kC2⟩⟩)
  · refine lv_iconst (v := nI 0) hx hb d_Data_loseOldest_10 (by decide) ?_
    exact ct_iret hQ hx hb hr hlk hP hD hS hK (by omega) (by omega) d_Data_loseOldest_11 (⟨by rw [if_pos h1], by unfold bm_dlose; rw [if_pos h1]; exact hR9⟩)
set_option maxHeartbeats 1000000 in
set_option maxRecDepth 100000 in
theorem k_Data_deliverOldest (l : Launch) (D : va_G) (cI cZ cJ cG : ClassId) {h aL aE aR aP aC : Nat} {Dd : bm_D} {ws : va_W} {aS : Nat} {wR : va_W} {T1 : bm_M Nat} {hd : Nat → Nat → Nat} {ch : Nat → Nat} {wS : va_W} {eb : Nat → Option Nat} {t9 : Int32} {es : Nat} {wE : va_W} {lk kn : Nat → Nat → Nat} {wL : va_W} (hR : da_R cI h aL aE aR aP aC Dd ws) (kR : rt_R cI cZ cG aR aS aE T1.2.2 hd ch eb es wR) (kS : so_R cI cG aS T1 hd ch wS) (kE : ed_R cI aE eb t9 (nI es) wE) (hok : rt_ok T1 hd ch es) (kL : lk_R cI cG aL lk kn wL) (hl1 : ∀ a b, lk a b < 2147483648) (hl2 : ∀ a b, kn a b < 2147483648) (hn : 0 < Dd.2.1.2.1) (pk f t hp : Nat) (hrow : Dd.2.1.2.2 0 0 = nI pk ∧ Dd.2.1.2.2 0 1 = nI f ∧ Dd.2.1.2.2 0 2 = nI t ∧ Dd.2.1.2.2 0 4 = nI hp) (hf9 : f < 12) (ht9 : t < 12) (hp1 : 1 ≤ pk) (hp2 : pk ≤ Dd.1.2.1) (hp3 : hp < 2147483648) (hc : (bm_ddel lk eb (bm_mkr T1.2.2 hd eb) pk f t hp Dd).2.1.1 ≤ 50000) : ct_V l D kls (ty4 cI cZ cJ cG) y_Data_deliverOldest ws_Data_deliverOldest (rm_ 6 144 ((bm_ddel lk eb (bm_mkr T1.2.2 hd eb) pk f t hp Dd).2.1.1 - Dd.2.1.1) (2 * 5 * ((bm_ddel lk eb (bm_mkr T1.2.2 hd eb) pk f t hp Dd).2.1.1 - Dd.2.1.1))) [.ref h] (List.flatten [ws, wR, wS, wE, wL]) (fun u => ∃ wD2 wR2, u = List.flatten [wD2, wR2, wS, wE, wL] ∧ da_R cI h aL aE aR aP aC (bm_ddel lk eb (bm_mkr T1.2.2 hd eb) pk f t hp Dd) wD2 ∧ rt_R cI cZ cG aR aS aE T1.2.2 hd ch eb es wR2) ((bm_ddel lk eb (bm_mkr T1.2.2 hd eb) pk f t hp Dd).2.1.1 - Dd.2.1.1) (2 * 5 * ((bm_ddel lk eb (bm_mkr T1.2.2 hd eb) pk f t hp Dd).2.1.1 - Dd.2.1.1)) := by
  obtain ⟨wP, wC, rfl, kP, kC⟩ := hR
  obtain ⟨fsP, mP⟩ := kP.mem
  obtain ⟨fsC, mC⟩ := kC.mem
  have bP9 := kP.n
  have bC9 := kC.n
  obtain ⟨fsR, mR⟩ := kR.mem
  obtain ⟨fsE, mE⟩ := kE.mem
  obtain ⟨fsL, mL⟩ := kL.mem
  refine ct_enterV (cc := b_Data_deliverOldest) (maxL := 6) (ret := none) (by decide +kernel) (Nat.le_of_ble_eq_true rfl) ?_
  intro p e s m args below meth c hx hb hml hr ht hown hlk hnm A Q hA hK hP hD hQ ls hl
  have hown : s.vm.findClass R_Data = some m.cls := hown
  have hS : va_S A s.heap s.heap [] := va_S.rf
  have hl : lv_has ls 6 [(0, .ref h)] := hl
  rw [fl_exp] at hP hD
  have hP : va_P D kls (List.flatten [[(h, .inr (6, [.ref aL, .ref aE, .ref aR, .ref aP, .ref aC, .int Dd.2.2.1, .int Dd.2.2.2.1, .int Dd.2.2.2.2]))], wP, wC, wR, wS, wE, wL]) s.heap := hP
  have hD : va_D A (List.flatten [[(h, .inr (6, [.ref aL, .ref aE, .ref aR, .ref aP, .ref aC, .int Dd.2.2.1, .int Dd.2.2.2.1, .int Dd.2.2.2.2]))], wP, wC, wR, wS, wE, wL]) := hD
  refine lv_aload_n hx hb d_Data_deliverOldest_0 rfl (lv_at hl 0 rfl) ?_
  refine va_get (D := D) (ci := 6) (v := .ref aC) (C := R_Data) (T := T_Data) (N := 8) hx hb ht in_Data hown hK hP 0 rfl rfl 4 (by decide) (ht _ kl_Data_20) (fun _ h9 => h9) rfl d_Data_deliverOldest_1 ?_
  refine lv_iconst (v := nI 0) hx hb d_Data_deliverOldest_4 (by decide) ?_
  refine lv_iconst (v := nI 0) hx hb d_Data_deliverOldest_5 (by decide) ?_
  refine ct_rdV (C := R_Rows) (ci := 0) (As := [.int (nI 0), .int (nI 0)]) (rest := []) ⟨hx, hb, hml, hown, ht⟩ (k_Rows_get l D cI cZ cJ cG kC 0 0 hn (by decide)) (cb_V ht kc_Rows_get kl_Data_49 kn_Rows ki_Rows_get ks_Rows_get hd_Rows_get ⟨Nat.le_of_ble_eq_true rfl, Nat.le_of_ble_eq_true rfl⟩) (wd_mem 2 rfl mC) rfl rfl (wd_ct (Bs := [[(h, .inr (6, [.ref aL, .ref aE, .ref aR, .ref aP, .ref aC, .int Dd.2.2.1, .int Dd.2.2.2.1, .int Dd.2.2.2.2]))], wP, wC, wR, wS, wE, wL]) 7 rfl [2] [0, 1, 3, 4, 5, 6] (by decide) (wd_1 _)) hK hP hD hS hA rfl hl.1 rfl (Nat.le_of_ble_eq_true rfl) ⟨(show 0 + 0 ≤ ((bm_ddel lk eb (bm_mkr T1.2.2 hd eb) pk f t hp Dd).2.1.1 - Dd.2.1.1) by omega), (show 0 + 0 ≤ (2 * 5 * ((bm_ddel lk eb (bm_mkr T1.2.2 hd eb) pk f t hp Dd).2.1.1 - Dd.2.1.1)) by omega)⟩ d_Data_deliverOldest_6 (fun rhr1 H locs hr1 hP hD hS => ?_)
  subst hr1
  refine W.eq (g2 := F0 m 9 ls [.int (nI pk)]) (congrArg (fun z => F0 m 9 ls (.int z :: [])) (hrow.1)) ?_
  refine lv_istore_n hx hb d_Data_deliverOldest_9 rfl hl (by decide) rfl (fun ls hl => ?_)
  have hl : lv_has ls 6 [(1, .int (nI pk)), (0, .ref h)] := hl
  refine lv_aload_n hx hb d_Data_deliverOldest_10 rfl (lv_at hl 1 rfl) ?_
  refine va_get (D := D) (ci := 6) (v := .ref aC) (C := R_Data) (T := T_Data) (N := 8) hx hb ht in_Data hown hK hP 0 rfl rfl 4 (by decide) (ht _ kl_Data_20) (fun _ h9 => h9) rfl d_Data_deliverOldest_11 ?_
  refine lv_iconst (v := nI 0) hx hb d_Data_deliverOldest_14 (by decide) ?_
  refine lv_iconst (v := nI 1) hx hb d_Data_deliverOldest_15 (by decide) ?_
  refine ct_rdV (C := R_Rows) (ci := 0) (As := [.int (nI 0), .int (nI 1)]) (rest := []) ⟨hx, hb, hml, hown, ht⟩ (k_Rows_get l D cI cZ cJ cG kC 0 1 hn (by decide)) (cb_V ht kc_Rows_get kl_Data_49 kn_Rows ki_Rows_get ks_Rows_get hd_Rows_get ⟨Nat.le_of_ble_eq_true rfl, Nat.le_of_ble_eq_true rfl⟩) (wd_mem 2 rfl mC) rfl rfl (wd_ct (Bs := [[(h, .inr (6, [.ref aL, .ref aE, .ref aR, .ref aP, .ref aC, .int Dd.2.2.1, .int Dd.2.2.2.1, .int Dd.2.2.2.2]))], wP, wC, wR, wS, wE, wL]) 7 rfl [2] [0, 1, 3, 4, 5, 6] (by decide) (wd_1 _)) hK hP hD hS hA rfl hl.1 rfl (Nat.le_of_ble_eq_true rfl) ⟨(show 0 + 0 ≤ ((bm_ddel lk eb (bm_mkr T1.2.2 hd eb) pk f t hp Dd).2.1.1 - Dd.2.1.1) by omega), (show 0 + 0 ≤ (2 * 5 * ((bm_ddel lk eb (bm_mkr T1.2.2 hd eb) pk f t hp Dd).2.1.1 - Dd.2.1.1)) by omega)⟩ d_Data_deliverOldest_16 (fun rhr2 H locs hr2 hP hD hS => ?_)
  subst hr2
  refine W.eq (g2 := F0 m 19 ls [.int (nI f)]) (congrArg (fun z => F0 m 19 ls (.int z :: [])) (hrow.2.1)) ?_
  refine lv_istore_n hx hb d_Data_deliverOldest_19 rfl hl (by decide) rfl (fun ls hl => ?_)
  have hl : lv_has ls 6 [(2, .int (nI f)), (1, .int (nI pk)), (0, .ref h)] := hl
  refine lv_aload_n hx hb d_Data_deliverOldest_20 rfl (lv_at hl 2 rfl) ?_
  refine va_get (D := D) (ci := 6) (v := .ref aC) (C := R_Data) (T := T_Data) (N := 8) hx hb ht in_Data hown hK hP 0 rfl rfl 4 (by decide) (ht _ kl_Data_20) (fun _ h9 => h9) rfl d_Data_deliverOldest_21 ?_
  refine lv_iconst (v := nI 0) hx hb d_Data_deliverOldest_24 (by decide) ?_
  refine lv_iconst (v := nI 2) hx hb d_Data_deliverOldest_25 (by decide) ?_
  refine ct_rdV (C := R_Rows) (ci := 0) (As := [.int (nI 0), .int (nI 2)]) (rest := []) ⟨hx, hb, hml, hown, ht⟩ (k_Rows_get l D cI cZ cJ cG kC 0 2 hn (by decide)) (cb_V ht kc_Rows_get kl_Data_49 kn_Rows ki_Rows_get ks_Rows_get hd_Rows_get ⟨Nat.le_of_ble_eq_true rfl, Nat.le_of_ble_eq_true rfl⟩) (wd_mem 2 rfl mC) rfl rfl (wd_ct (Bs := [[(h, .inr (6, [.ref aL, .ref aE, .ref aR, .ref aP, .ref aC, .int Dd.2.2.1, .int Dd.2.2.2.1, .int Dd.2.2.2.2]))], wP, wC, wR, wS, wE, wL]) 7 rfl [2] [0, 1, 3, 4, 5, 6] (by decide) (wd_1 _)) hK hP hD hS hA rfl hl.1 rfl (Nat.le_of_ble_eq_true rfl) ⟨(show 0 + 0 ≤ ((bm_ddel lk eb (bm_mkr T1.2.2 hd eb) pk f t hp Dd).2.1.1 - Dd.2.1.1) by omega), (show 0 + 0 ≤ (2 * 5 * ((bm_ddel lk eb (bm_mkr T1.2.2 hd eb) pk f t hp Dd).2.1.1 - Dd.2.1.1)) by omega)⟩ d_Data_deliverOldest_26 (fun rhr3 H locs hr3 hP hD hS => ?_)
  subst hr3
  refine W.eq (g2 := F0 m 29 ls [.int (nI t)]) (congrArg (fun z => F0 m 29 ls (.int z :: [])) (hrow.2.2.1)) ?_
  refine lv_istore_n hx hb d_Data_deliverOldest_29 rfl hl (by decide) rfl (fun ls hl => ?_)
  have hl : lv_has ls 6 [(3, .int (nI t)), (2, .int (nI f)), (1, .int (nI pk)), (0, .ref h)] := hl
  refine lv_aload_n hx hb d_Data_deliverOldest_30 rfl (lv_at hl 3 rfl) ?_
  refine va_get (D := D) (ci := 6) (v := .ref aC) (C := R_Data) (T := T_Data) (N := 8) hx hb ht in_Data hown hK hP 0 rfl rfl 4 (by decide) (ht _ kl_Data_20) (fun _ h9 => h9) rfl d_Data_deliverOldest_31 ?_
  refine lv_iconst (v := nI 0) hx hb d_Data_deliverOldest_34 (by decide) ?_
  refine lv_iconst (v := nI 3) hx hb d_Data_deliverOldest_35 (by decide) ?_
  refine ct_rdV (C := R_Rows) (ci := 0) (As := [.int (nI 0), .int (nI 3)]) (rest := []) ⟨hx, hb, hml, hown, ht⟩ (k_Rows_get l D cI cZ cJ cG kC 0 3 hn (by decide)) (cb_V ht kc_Rows_get kl_Data_49 kn_Rows ki_Rows_get ks_Rows_get hd_Rows_get ⟨Nat.le_of_ble_eq_true rfl, Nat.le_of_ble_eq_true rfl⟩) (wd_mem 2 rfl mC) rfl rfl (wd_ct (Bs := [[(h, .inr (6, [.ref aL, .ref aE, .ref aR, .ref aP, .ref aC, .int Dd.2.2.1, .int Dd.2.2.2.1, .int Dd.2.2.2.2]))], wP, wC, wR, wS, wE, wL]) 7 rfl [2] [0, 1, 3, 4, 5, 6] (by decide) (wd_1 _)) hK hP hD hS hA rfl hl.1 rfl (Nat.le_of_ble_eq_true rfl) ⟨(show 0 + 0 ≤ ((bm_ddel lk eb (bm_mkr T1.2.2 hd eb) pk f t hp Dd).2.1.1 - Dd.2.1.1) by omega), (show 0 + 0 ≤ (2 * 5 * ((bm_ddel lk eb (bm_mkr T1.2.2 hd eb) pk f t hp Dd).2.1.1 - Dd.2.1.1)) by omega)⟩ d_Data_deliverOldest_36 (fun rhr4 H locs hr4 hP hD hS => ?_)
  subst hr4
  refine lv_istore hx hb d_Data_deliverOldest_39 hl (by decide) rfl (fun ls hl => ?_)
  have hl : lv_has ls 6 [(4, .int (Dd.2.1.2.2 0 3)), (3, .int (nI t)), (2, .int (nI f)), (1, .int (nI pk)), (0, .ref h)] := hl
  refine lv_aload_n hx hb d_Data_deliverOldest_41 rfl (lv_at hl 4 rfl) ?_
  refine va_get (D := D) (ci := 6) (v := .ref aC) (C := R_Data) (T := T_Data) (N := 8) hx hb ht in_Data hown hK hP 0 rfl rfl 4 (by decide) (ht _ kl_Data_20) (fun _ h9 => h9) rfl d_Data_deliverOldest_42 ?_
  refine lv_iconst (v := nI 0) hx hb d_Data_deliverOldest_45 (by decide) ?_
  refine lv_iconst (v := nI 4) hx hb d_Data_deliverOldest_46 (by decide) ?_
  refine ct_rdV (C := R_Rows) (ci := 0) (As := [.int (nI 0), .int (nI 4)]) (rest := []) ⟨hx, hb, hml, hown, ht⟩ (k_Rows_get l D cI cZ cJ cG kC 0 4 hn (by decide)) (cb_V ht kc_Rows_get kl_Data_49 kn_Rows ki_Rows_get ks_Rows_get hd_Rows_get ⟨Nat.le_of_ble_eq_true rfl, Nat.le_of_ble_eq_true rfl⟩) (wd_mem 2 rfl mC) rfl rfl (wd_ct (Bs := [[(h, .inr (6, [.ref aL, .ref aE, .ref aR, .ref aP, .ref aC, .int Dd.2.2.1, .int Dd.2.2.2.1, .int Dd.2.2.2.2]))], wP, wC, wR, wS, wE, wL]) 7 rfl [2] [0, 1, 3, 4, 5, 6] (by decide) (wd_1 _)) hK hP hD hS hA rfl hl.1 rfl (Nat.le_of_ble_eq_true rfl) ⟨(show 0 + 0 ≤ ((bm_ddel lk eb (bm_mkr T1.2.2 hd eb) pk f t hp Dd).2.1.1 - Dd.2.1.1) by omega), (show 0 + 0 ≤ (2 * 5 * ((bm_ddel lk eb (bm_mkr T1.2.2 hd eb) pk f t hp Dd).2.1.1 - Dd.2.1.1)) by omega)⟩ d_Data_deliverOldest_47 (fun rhr5 H locs hr5 hP hD hS => ?_)
  subst hr5
  refine W.eq (g2 := F0 m 50 ls [.int (nI hp)]) (congrArg (fun z => F0 m 50 ls (.int z :: [])) (hrow.2.2.2)) ?_
  refine lv_istore hx hb d_Data_deliverOldest_50 hl (by decide) rfl (fun ls hl => ?_)
  have hl : lv_has ls 6 [(5, .int (nI hp)), (4, .int (Dd.2.1.2.2 0 3)), (3, .int (nI t)), (2, .int (nI f)), (1, .int (nI pk)), (0, .ref h)] := hl
  refine lv_aload_n hx hb d_Data_deliverOldest_52 rfl (lv_at hl 5 rfl) ?_
  refine va_get (D := D) (ci := 6) (v := .ref aC) (C := R_Data) (T := T_Data) (N := 8) hx hb ht in_Data hown hK hP 0 rfl rfl 4 (by decide) (ht _ kl_Data_20) (fun _ h9 => h9) rfl d_Data_deliverOldest_53 ?_
  refine ct_callVV (C := R_Rows) (ci := 0) (As := []) (rest := []) ⟨hx, hb, hml, hown, ht⟩ (k_Rows_dropOldest l D cI cZ cJ cG kC hn) (cb_V ht kc_Rows_dropOldest kl_Data_63 kn_Rows ki_Rows_dropOldest ks_Rows_dropOldest hd_Rows_dropOldest ⟨Nat.le_of_ble_eq_true rfl, Nat.le_of_ble_eq_true rfl⟩) (wd_mem 2 rfl mC) rfl rfl (wd_ct (Bs := [[(h, .inr (6, [.ref aL, .ref aE, .ref aR, .ref aP, .ref aC, .int Dd.2.2.1, .int Dd.2.2.2.1, .int Dd.2.2.2.2]))], wP, wC, wR, wS, wE, wL]) 7 rfl [2] [0, 1, 3, 4, 5, 6] (by decide) (wd_1 _)) hK hP hD hS hA rfl hl.1 rfl (Nat.le_of_ble_eq_true rfl) ⟨(Nat.zero_le _), (Nat.zero_le _)⟩ d_Data_deliverOldest_56 (fun u6 H locs hu6 hP hD hS => ?_)
  have kC2 := hu6
  refine W.widen (k := 0) (n := 0) (Nat.le_refl _) (Nat.le_refl _) ?_
  have hP := wd_nP (N := [u6]) (wd_1 _) 7 rfl [1, 2, 0, 3, 4, 5, 6] (by decide) hP
  have hD := wd_nD (N := [u6]) (wd_1 _) 7 rfl [1, 2, 0, 3, 4, 5, 6] (by decide) hD
  have hP : va_P D kls (List.flatten [[(h, .inr (6, [.ref aL, .ref aE, .ref aR, .ref aP, .ref aC, .int Dd.2.2.1, .int Dd.2.2.2.1, .int Dd.2.2.2.2]))], wP, u6, wR, wS, wE, wL]) H := hP
  have hD : va_D A (List.flatten [[(h, .inr (6, [.ref aL, .ref aE, .ref aR, .ref aP, .ref aC, .int Dd.2.2.1, .int Dd.2.2.2.1, .int Dd.2.2.2.2]))], wP, u6, wR, wS, wE, wL]) := hD
  refine W.eq (g2 := F0 m 59 ls []) rfl ?_
  refine lv_aload_n hx hb d_Data_deliverOldest_59 rfl (lv_at hl 5 rfl) ?_
  refine va_get (D := D) (ci := 6) (v := .ref aL) (C := R_Data) (T := T_Data) (N := 8) hx hb ht in_Data hown hK hP 0 rfl rfl 0 (by decide) (ht _ kl_Data_23) (fun _ h9 => h9) rfl d_Data_deliverOldest_60 ?_
  refine lv_iload_n hx hb d_Data_deliverOldest_63 rfl (lv_at hl 3 rfl) ?_
  refine lv_iload_n hx hb d_Data_deliverOldest_64 rfl (lv_at hl 2 rfl) ?_
  refine ct_rdV (C := R_Links) (ci := 2) (As := [.int (nI f), .int (nI t)]) (rest := []) ⟨hx, hb, hml, hown, ht⟩ (k_Links_isWhole l D cI cZ cJ cG kL f t hl1 hl2 hf9 ht9) (cb_V ht kc_Links_isWhole kl_Data_66 kn_Links ki_Links_isWhole ks_Links_isWhole hd_Links_isWhole ⟨Nat.le_of_ble_eq_true rfl, Nat.le_of_ble_eq_true rfl⟩) (wd_mem 6 rfl mL) rfl rfl (wd_ct (Bs := [[(h, .inr (6, [.ref aL, .ref aE, .ref aR, .ref aP, .ref aC, .int Dd.2.2.1, .int Dd.2.2.2.1, .int Dd.2.2.2.2]))], wP, u6, wR, wS, wE, wL]) 7 rfl [6] [0, 1, 2, 3, 4, 5] (by decide) (wd_1 _)) hK hP hD hS hA rfl hl.1 rfl (Nat.le_of_ble_eq_true rfl) ⟨(show 0 + 0 ≤ ((bm_ddel lk eb (bm_mkr T1.2.2 hd eb) pk f t hp Dd).2.1.1 - Dd.2.1.1) by omega), (show 0 + 0 ≤ (2 * 5 * ((bm_ddel lk eb (bm_mkr T1.2.2 hd eb) pk f t hp Dd).2.1.1 - Dd.2.1.1)) by omega)⟩ d_Data_deliverOldest_65 (fun rhr7 H locs hr7 hP hD hS => ?_)
  subst hr7
  refine ri_ifeqB hx hb d_Data_deliverOldest_68 (tgt := 84) (by decide) (fun h1 => ?_) (fun h1 => ?_)
  · refine lv_aload_n hx hb d_Data_deliverOldest_84 rfl (lv_at hl 5 rfl) ?_
    refine lv_dup hx hb d_Data_deliverOldest_85 rfl ?_
    refine va_get (D := D) (ci := 6) (v := .int Dd.2.2.2.2) (C := R_Data) (T := T_Data) (N := 8) hx hb ht in_Data hown hK hP 0 rfl rfl 7 (by decide) (ht _ kl_Data_46) (fun _ h9 => h9) rfl d_Data_deliverOldest_86 ?_
    refine lv_iload hx hb d_Data_deliverOldest_89 (lv_at hl 1 rfl) ?_
    refine ct_rdS (As := [.int (Dd.2.1.2.2 0 3)]) (rest := [.int Dd.2.2.2.2, .ref h]) ⟨hx, hb, hml, hown, ht⟩ (k_Integer_bitCount l D cI cZ cJ cG (Dd.2.1.2.2 0 3)) (cb_S ht kc_Integer_bitCount kl_Data_72 kn_Integer ki_Integer_bitCount hd_Integer_bitCount ⟨Nat.le_of_ble_eq_true rfl, Nat.le_of_ble_eq_true rfl⟩) (wd_ct (Bs := [[(h, .inr (6, [.ref aL, .ref aE, .ref aR, .ref aP, .ref aC, .int Dd.2.2.1, .int Dd.2.2.2.1, .int Dd.2.2.2.2]))], wP, u6, wR, wS, wE, wL]) 7 rfl [] [0, 1, 2, 3, 4, 5, 6] (by decide) rfl) hK hP hD hS hA rfl hl.1 rfl (Nat.le_of_ble_eq_true rfl) ⟨(show 0 + 0 ≤ ((bm_ddel lk eb (bm_mkr T1.2.2 hd eb) pk f t hp Dd).2.1.1 - Dd.2.1.1) by omega), (show 0 + 0 ≤ (2 * 5 * ((bm_ddel lk eb (bm_mkr T1.2.2 hd eb) pk f t hp Dd).2.1.1 - Dd.2.1.1)) by omega)⟩ d_Data_deliverOldest_91 (fun rhr9 H locs hr9 hP hD hS => ?_)
    subst hr9
    refine lv_iadd hx hb d_Data_deliverOldest_94 ?_
    refine va_put (D := D) (ci := 6) (v := .int (Dd.2.2.2.2 + (bm_pop (Dd.2.1.2.2 0 3) 32))) (ty := .int) (C := R_Data) (T := T_Data) (N := 8) hx hb ht in_Data t_Data ok_Data nm_Data hown hK hP hD hS 0 rfl rfl 7 (by decide) (ht _ kl_Data_46) (fun _ h9 => h9) rfl (by decide +kernel) rfl rfl (Nat.le_of_ble_eq_true rfl) d_Data_deliverOldest_95 (fun H locs hP hD hS => ?_)
    have hP : va_P D kls (List.flatten [[(h, .inr (6, [.ref aL, .ref aE, .ref aR, .ref aP, .ref aC, .int Dd.2.2.1, .int Dd.2.2.2.1, .int (Dd.2.2.2.2 + (bm_pop (Dd.2.1.2.2 0 3) 32))]))], wP, u6, wR, wS, wE, wL]) H := hP
    have hD : va_D A (List.flatten [[(h, .inr (6, [.ref aL, .ref aE, .ref aR, .ref aP, .ref aC, .int Dd.2.2.1, .int Dd.2.2.2.1, .int (Dd.2.2.2.2 + (bm_pop (Dd.2.1.2.2 0 3) 32))]))], wP, u6, wR, wS, wE, wL]) := hD
    have hTD : bm_ddel lk eb (bm_mkr T1.2.2 hd eb) pk f t hp Dd = bm_loses (Dd.2.1.2.2 0 3) (bm_dropD Dd) := if_neg (of_decide_eq_false h1)
    exact ct_vret hQ hx hb hr hlk hP hD hS hK (by omega) (by omega) d_Data_deliverOldest_98 (⟨da_w h aL aE aR aP aC (bm_loses (Dd.2.1.2.2 0 3) (bm_dropD Dd)) wP u6, wR, by rw [fl_exp]; rfl, by rw [hTD]; exact ⟨wP, u6, rfl, kP, kC2⟩, kR⟩)
  · refine lv_aload_n hx hb d_Data_deliverOldest_71 rfl (lv_at hl 5 rfl) ?_
    refine lv_iload_n hx hb d_Data_deliverOldest_72 rfl (lv_at hl 4 rfl) ?_
    refine lv_iload_n hx hb d_Data_deliverOldest_73 rfl (lv_at hl 2 rfl) ?_
    refine lv_iload hx hb d_Data_deliverOldest_74 (lv_at hl 1 rfl) ?_
    refine lv_iload hx hb d_Data_deliverOldest_76 (lv_at hl 0 rfl) ?_
    have hTD : bm_ddel lk eb (bm_mkr T1.2.2 hd eb) pk f t hp Dd = bm_handle eb (bm_mkr T1.2.2 hd eb t) pk t (Dd.2.1.2.2 0 3) hp (bm_dropD Dd) := if_pos (of_decide_eq_true h1)
    have gc1 : (bm_ddel lk eb (bm_mkr T1.2.2 hd eb) pk f t hp Dd).2.1.1 - Dd.2.1.1 = (bm_handle eb (bm_mkr T1.2.2 hd eb t) pk t (Dd.2.1.2.2 0 3) hp (bm_dropD Dd)).2.1.1 - (bm_dropD Dd).2.1.1 := by rw [hTD]; rfl
    have hR9 : da_R cI h aL aE aR aP aC (bm_dropD Dd) (da_w h aL aE aR aP aC (bm_dropD Dd) wP u6) := ⟨wP, u6, rfl, kP, kC2⟩
    refine ct_callVV (C := R_Data) (ci := 6) (As := [.int (nI pk), .int (nI t), .int (Dd.2.1.2.2 0 3), .int (nI hp)]) (rest := []) ⟨hx, hb, hml, hown, ht⟩ (k_Data_handle l D cI cZ cJ cG hR9 kR kS kE hok pk t (Dd.2.1.2.2 0 3) hp ht9 hp1 hp2 hp3 (hTD ▸ hc)) (cb_V ht kc_Data_handle kl_Data_59 kn_Data ki_Data_handle ks_Data_handle hd_Data_handle ⟨Nat.le_of_ble_eq_true rfl, Nat.le_of_ble_eq_true rfl⟩) (List.mem_of_getElem? (i := 0) rfl) rfl rfl (wd_ct (Bs := [[(h, .inr (6, [.ref aL, .ref aE, .ref aR, .ref aP, .ref aC, .int Dd.2.2.1, .int Dd.2.2.2.1, .int Dd.2.2.2.2]))], wP, u6, wR, wS, wE, wL]) 7 rfl [0, 1, 2, 3, 4, 5] [6] (by decide) (by show List.flatten _ = _; rw [fl_exp]; rfl)) hK hP hD hS hA rfl hl.1 rfl (Nat.le_of_ble_eq_true rfl) ⟨(show 0 + ((bm_handle eb (bm_mkr T1.2.2 hd eb t) pk t (Dd.2.1.2.2 0 3) hp (bm_dropD Dd)).2.1.1 - (bm_dropD Dd).2.1.1) ≤ (bm_ddel lk eb (bm_mkr T1.2.2 hd eb) pk f t hp Dd).2.1.1 - Dd.2.1.1 by omega), (show 0 + 2 * 5 * ((bm_handle eb (bm_mkr T1.2.2 hd eb t) pk t (Dd.2.1.2.2 0 3) hp (bm_dropD Dd)).2.1.1 - (bm_dropD Dd).2.1.1) ≤ 2 * 5 * ((bm_ddel lk eb (bm_mkr T1.2.2 hd eb) pk f t hp Dd).2.1.1 - Dd.2.1.1) by omega)⟩ d_Data_deliverOldest_78 (fun u10 H locs hu10 hP hD hS => ?_)
    obtain ⟨wD2, wR2, rfl, kD2, kR2⟩ := hu10
    refine W.widen (k := (bm_ddel lk eb (bm_mkr T1.2.2 hd eb) pk f t hp Dd).2.1.1 - Dd.2.1.1) (n := 2 * 5 * ((bm_ddel lk eb (bm_mkr T1.2.2 hd eb) pk f t hp Dd).2.1.1 - Dd.2.1.1)) (show 0 + ((bm_handle eb (bm_mkr T1.2.2 hd eb t) pk t (Dd.2.1.2.2 0 3) hp (bm_dropD Dd)).2.1.1 - (bm_dropD Dd).2.1.1) ≤ (bm_ddel lk eb (bm_mkr T1.2.2 hd eb) pk f t hp Dd).2.1.1 - Dd.2.1.1 by omega) (show 0 + 2 * 5 * ((bm_handle eb (bm_mkr T1.2.2 hd eb t) pk t (Dd.2.1.2.2 0 3) hp (bm_dropD Dd)).2.1.1 - (bm_dropD Dd).2.1.1) ≤ 2 * 5 * ((bm_ddel lk eb (bm_mkr T1.2.2 hd eb) pk f t hp Dd).2.1.1 - Dd.2.1.1) by omega) ?_
    have hP := wd_nP (N := [wD2, wR2, wS, wE]) rfl 5 rfl [0, 1, 2, 3, 4] (by decide) hP
    have hD := wd_nD (N := [wD2, wR2, wS, wE]) rfl 5 rfl [0, 1, 2, 3, 4] (by decide) hD
    have hP : va_P D kls (List.flatten [wD2, wR2, wS, wE, wL]) H := hP
    have hD : va_D A (List.flatten [wD2, wR2, wS, wE, wL]) := hD
    refine W.eq (g2 := F0 m 81 ls []) rfl ?_
    refine lv_goto hx hb d_Data_deliverOldest_81 (tgt := 98) (by decide) ?_
    exact ct_vret hQ hx hb hr hlk hP hD hS hK (by omega) (by omega) d_Data_deliverOldest_98 (⟨wD2, wR2, rfl, by rw [hTD]; exact kD2, kR2⟩)
