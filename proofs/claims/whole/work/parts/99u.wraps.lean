/-! The law's own methods: each calls one of BitNet's, and tells by a number whether it threw. -/
theorem nt_mem {cI cZ cG : ClassId} {h : Nat} {S : bm_S} {ws : va_W} (hR : nt_R cI cZ cG h S ws) : ∃ fs, (h, Sum.inr (8, fs)) ∈ ws := by
  obtain ⟨aE, aL, aS, aK, aR, aD, aG, aM, aP, aC, wE, wL, wS, wM, wR, wD, wG, rfl, -⟩ := hR
  exact ⟨_, List.mem_cons_self⟩
theorem rf_mem {cI cZ cJ : ClassId} {h : Nat} {cd : Int32} {S : bm_S} {ws : va_W} (hR : rf_R cI cZ cJ h cd S ws) : ∃ fs, (h, Sum.inr (9, fs)) ∈ ws := by
  obtain ⟨qs, ma, ca, na, wt, fR, fN, fL, fH, uf, fM, fC, fT, fD, fX, MK, MF, rfl, -⟩ := hR
  exact ⟨_, List.mem_cons_self⟩
theorem passed_of {pl : Platform} (hpl : pl.magicAccessors = ({} : Platform).magicAccessors) {s0 s : State} {A0 args : Array Value} {d : ClassId} {pc : Nat} {thrown : ClassId} {y : ExceptionTableEntry} {own name tn : String} (hz : s0.WarmedH s.vm) (hnc : (Cond.not (.castable tn name)).before A0 s0 = true)
    (hown : s.vm.findClass own = some d) (h0 : y.catchType ≠ 0) (hlink : (Cond.classLink own y.catchType name).before args s = true) (ht : s.vm.findClass tn = some thrown) : RowPassed pl s d pc thrown y := by
  obtain ⟨c', hc', hcl⟩ := Cond.classLink_spec hown hlink pl hpl
  have ht0 : s0.vm.findClass tn = some thrown := by rw [← hz.alike.findClass]; exact ht
  have hc0 : s0.vm.findClass name = some c' := by rw [← hz.alike.findClass]; exact hc'
  have hv := Cond.holds_not_iff.mp hnc
  simp only [Cond.value, ht0, hc0] at hv
  exact Or.inr ⟨h0, c', hcl, by rw [hz.alike.assignable]; exact Option.some.inj hv⟩
/-- what the law asks of its first state of the two exceptions -/
def nc_0 (A0 : Array Value) (s0 : State) : Prop := (Cond.not (.castable "java/lang/IllegalArgumentException" "java/lang/IllegalStateException")).before A0 s0 = true
abbrev wh_edge : List Cond := Cond.codeWith y_Law_edge b_Law_edge 4 (some .int) [(0, 6, 9, 13)] :: tb
theorem kh_edge : Cond.codeWith y_Law_edge b_Law_edge 4 (some .int) [(0, 6, 9, 13)] ∈ tb := tb_of 350 (by decide +kernel) (by decide +kernel)
abbrev wh_link : List Cond := Cond.codeWith y_Law_link b_Law_link 5 (some .int) [(0, 7, 10, 19), (0, 7, 14, 13)] :: tb
theorem kh_link : Cond.codeWith y_Law_link b_Law_link 5 (some .int) [(0, 7, 10, 19), (0, 7, 14, 13)] ∈ tb := tb_of 443 (by decide +kernel) (by decide +kernel)
abbrev wh_cut : List Cond := Cond.codeWith y_Law_cut b_Law_cut 4 (some .int) [(0, 6, 9, 13)] :: tb
theorem kh_cut : Cond.codeWith y_Law_cut b_Law_cut 4 (some .int) [(0, 6, 9, 13)] ∈ tb := tb_of 556 (by decide +kernel) (by decide +kernel)
abbrev wh_notice : List Cond := Cond.codeWith y_Law_notice b_Law_notice 4 (some .int) [(0, 6, 9, 19), (0, 6, 12, 13)] :: tb
theorem kh_notice : Cond.codeWith y_Law_notice b_Law_notice 4 (some .int) [(0, 6, 9, 19), (0, 6, 12, 13)] ∈ tb := tb_of 568 (by decide +kernel) (by decide +kernel)
abbrev wh_step : List Cond := Cond.codeWith y_Law_step b_Law_step 4 (some .int) [(0, 9, 12, 19), (0, 9, 15, 13)] :: tb
theorem kh_step : Cond.codeWith y_Law_step b_Law_step 4 (some .int) [(0, 9, 12, 19), (0, 9, 15, 13)] ∈ tb := tb_of 586 (by decide +kernel) (by decide +kernel)
abbrev wh_mask : List Cond := Cond.codeWith y_Law_mask b_Law_mask 5 (some .int) [(0, 10, 13, 13)] :: tb
theorem kh_mask : Cond.codeWith y_Law_mask b_Law_mask 5 (some .int) [(0, 10, 13, 13)] ∈ tb := tb_of 611 (by decide +kernel) (by decide +kernel)
abbrev wh_distance : List Cond := Cond.codeWith y_Law_distance b_Law_distance 5 (some .int) [(0, 10, 13, 13)] :: tb
theorem kh_distance : Cond.codeWith y_Law_distance b_Law_distance 5 (some .int) [(0, 10, 13, 13)] ∈ tb := tb_of 654 (by decide +kernel) (by decide +kernel)
abbrev wh_alternate : List Cond := Cond.codeWith y_Law_alternate b_Law_alternate 5 (some .int) [(0, 10, 13, 13)] :: tb
theorem kh_alternate : Cond.codeWith y_Law_alternate b_Law_alternate 5 (some .int) [(0, 10, 13, 13)] ∈ tb := tb_of 665 (by decide +kernel) (by decide +kernel)
abbrev wh_stored : List Cond := Cond.codeWith y_Law_stored b_Law_stored 5 (some .int) [(0, 10, 13, 13)] :: tb
theorem kh_stored : Cond.codeWith y_Law_stored b_Law_stored 5 (some .int) [(0, 10, 13, 13)] ∈ tb := tb_of 676 (by decide +kernel) (by decide +kernel)
abbrev wh_ingress : List Cond := Cond.codeWith y_Law_ingress b_Law_ingress 4 (some .int) [(0, 6, 9, 13)] :: tb
theorem kh_ingress : Cond.codeWith y_Law_ingress b_Law_ingress 4 (some .int) [(0, 6, 9, 13)] ∈ tb := tb_of 685 (by decide +kernel) (by decide +kernel)
abbrev wh_join : List Cond := Cond.codeWith y_Law_join b_Law_join 6 (some .int) [(0, 12, 15, 19), (0, 12, 19, 13)] :: tb
theorem kh_join : Cond.codeWith y_Law_join b_Law_join 6 (some .int) [(0, 12, 15, 19), (0, 12, 19, 13)] ∈ tb := tb_of 707 (by decide +kernel) (by decide +kernel)
abbrev wh_report : List Cond := Cond.codeWith y_Law_report b_Law_report 3 (some .int) [(0, 5, 8, 19), (0, 5, 11, 13)] :: tb
theorem kh_report : Cond.codeWith y_Law_report b_Law_report 3 (some .int) [(0, 5, 8, 19), (0, 5, 11, 13)] ∈ tb := tb_of 737 (by decide +kernel) (by decide +kernel)
abbrev wh_carry : List Cond := Cond.codeWith y_Law_carry b_Law_carry 4 (some .int) [(0, 9, 12, 13)] :: tb
theorem kh_carry : Cond.codeWith y_Law_carry b_Law_carry 4 (some .int) [(0, 9, 12, 13)] ∈ tb := tb_of 748 (by decide +kernel) (by decide +kernel)
abbrev wh_bits : List Cond := Cond.codeWith y_Law_bits b_Law_bits 4 (some .int) [(0, 9, 12, 13)] :: tb
theorem kh_bits : Cond.codeWith y_Law_bits b_Law_bits 4 (some .int) [(0, 9, 12, 13)] ∈ tb := tb_of 769 (by decide +kernel) (by decide +kernel)
abbrev wh_send : List Cond := Cond.codeWith y_Law_send b_Law_send 5 (some .int) [(0, 10, 13, 19), (0, 10, 17, 13)] :: tb
theorem kh_send : Cond.codeWith y_Law_send b_Law_send 5 (some .int) [(0, 10, 13, 19), (0, 10, 17, 13)] ∈ tb := tb_of 780 (by decide +kernel) (by decide +kernel)
abbrev wh_sendBits : List Cond := Cond.codeWith y_Law_sendBits b_Law_sendBits 5 (some .int) [(0, 10, 13, 19), (0, 10, 17, 13)] :: tb
theorem kh_sendBits : Cond.codeWith y_Law_sendBits b_Law_sendBits 5 (some .int) [(0, 10, 13, 19), (0, 10, 17, 13)] ∈ tb := tb_of 822 (by decide +kernel) (by decide +kernel)
abbrev wh_move : List Cond := Cond.codeWith y_Law_move b_Law_move 4 (some .int) [(0, 9, 12, 19), (0, 9, 15, 13)] :: tb
theorem kh_move : Cond.codeWith y_Law_move b_Law_move 4 (some .int) [(0, 9, 12, 19), (0, 9, 15, 13)] ∈ tb := tb_of 829 (by decide +kernel) (by decide +kernel)
abbrev wh_delivered : List Cond := Cond.codeWith y_Law_delivered b_Law_delivered 4 (some .int) [(0, 9, 12, 13)] :: tb
theorem kh_delivered : Cond.codeWith y_Law_delivered b_Law_delivered 4 (some .int) [(0, 9, 12, 13)] ∈ tb := tb_of 846 (by decide +kernel) (by decide +kernel)
abbrev wh_crossings : List Cond := Cond.codeWith y_Law_crossings b_Law_crossings 4 (some .int) [(0, 9, 12, 13)] :: tb
theorem kh_crossings : Cond.codeWith y_Law_crossings b_Law_crossings 4 (some .int) [(0, 9, 12, 13)] ∈ tb := tb_of 861 (by decide +kernel) (by decide +kernel)
set_option maxHeartbeats 800000 in
set_option maxRecDepth 100000 in
theorem k_Law_edge (l : Launch) (s0 : State) (D : va_G) (cI cZ cJ cG : ClassId) {h : Nat} {ws : va_W} (hm : ∃ fs, (h, Sum.inr (8, fs)) ∈ ws) (x y : Int32) {post : va_W → Prop} {mc ms : Nat} (hM : ct_V l D kls (ty4 cI cZ cJ cG) y_Net_edge ws_Net_edge (rm_ 1 22 mc ms) [.ref h, .int x, .int y] ws post mc ms) : ct_H l s0 D kls (ty4 cI cZ cJ cG) y_Law_edge wh_edge (rm_ 2 44 mc ms) [.ref h, .int x, .int y] (List.flatten [ws]) (fun z u => z = nI 0 ∧ ∃ u2, post u2 ∧ u = List.flatten [u2]) mc ms := by
  obtain ⟨fs8, mN⟩ := hm
  refine ct_enterH (cc := b_Law_edge) (maxL := 4) (ret := (some .int)) (hs := [(0, 6, 9, 13)]) (by decide +kernel) (Nat.le_of_ble_eq_true rfl) ?_
  intro p e s m args below meth c hx hb hml hr ht hown hlk hnm A Q hA hK hP hD hQ ls hl hz htab
  have hown : s.vm.findClass R_Law = some m.cls := hown
  have hS : va_S A s.heap s.heap [] := va_S.rf
  have hl : lv_has ls 4 [(0, .ref h), (1, .int x), (2, .int y)] := hl
  refine lv_aload_n hx hb d_Law_edge_0 rfl (lv_at hl 0 rfl) ?_
  refine lv_iload_n hx hb d_Law_edge_1 rfl (lv_at hl 1 rfl) ?_
  refine lv_iload_n hx hb d_Law_edge_2 rfl (lv_at hl 2 rfl) ?_
  refine ct_callVV (C := R_Net) (ci := 8) (As := [.int x, .int y]) (rest := []) ⟨hx, hb, hml, hown, ht⟩ (hM) (cb_V ht kc_Net_edge kl_Law_7 kn_Net ki_Net_edge ks_Net_edge hd_Net_edge ⟨Nat.le_of_ble_eq_true rfl, Nat.le_of_ble_eq_true rfl⟩) (wd_mem 0 rfl mN) rfl rfl (wd_ct (Bs := [ws]) 1 rfl [0] [] (by decide) (wd_1 _)) hK hP hD hS hA rfl hl.1 rfl (Nat.le_of_ble_eq_true rfl) ⟨(Nat.le_of_eq (Nat.zero_add _)), (Nat.le_of_eq (Nat.zero_add _))⟩ d_Law_edge_3 (fun u101 H locs hu101 hP hD hS => ?_)
  have hpo := hu101
  refine W.widen (k := mc) (n := ms) (Nat.le_of_eq (Nat.zero_add _)) (Nat.le_of_eq (Nat.zero_add _)) ?_
  have hP := wd_nP (N := [u101]) (wd_1 _) 1 rfl [0] (by decide) hP
  have hD := wd_nD (N := [u101]) (wd_1 _) 1 rfl [0] (by decide) hD
  have hP : va_P D kls (List.flatten [u101]) H := hP
  have hD : va_D A (List.flatten [u101]) := hD
  refine W.eq (g2 := F0 m 6 ls []) rfl ?_
  refine lv_goto hx hb d_Law_edge_6 (tgt := 12) (by decide) ?_
  refine lv_iconst (v := nI 0) hx hb d_Law_edge_12 (by decide) ?_
  exact ct_iret hQ hx hb hr hlk hP hD hS hK (Nat.le_refl _) (Nat.le_refl _) d_Law_edge_13 ⟨rfl, u101, hpo, rfl⟩
set_option maxHeartbeats 800000 in
set_option maxRecDepth 100000 in
theorem x_Law_edge (l : Launch) (s0 : State) (D : va_G) (cI cZ cJ cG : ClassId) {h : Nat} {ws : va_W} (hm : ∃ fs, (h, Sum.inr (8, fs)) ∈ ws) (x y : Int32) (A0 : Array Value) (hnc : nc_0 A0 s0) {post : va_W → Prop} (hM : ct_X l s0 D kls (ty4 cI cZ cJ cG) y_Net_edge ws_Net_edge (rm_ 7 102 1 6) [.ref h, .int x, .int y] ws "java/lang/IllegalArgumentException" post 1 6) : ct_H l s0 D kls (ty4 cI cZ cJ cG) y_Law_edge wh_edge (rm_ 8 124 1 6) [.ref h, .int x, .int y] (List.flatten [ws]) (fun z u => z = nI 1 ∧ ∃ u2, post u2 ∧ u = List.flatten [u2]) 1 6 := by
  obtain ⟨fs8, mN⟩ := hm
  refine ct_enterH (cc := b_Law_edge) (maxL := 4) (ret := (some .int)) (hs := [(0, 6, 9, 13)]) (by decide +kernel) (Nat.le_of_ble_eq_true rfl) ?_
  intro p e s m args below meth c hx hb hml hr ht hown hlk hnm A Q hA hK hP hD hQ ls hl hz htab
  have hown : s.vm.findClass R_Law = some m.cls := hown
  have hS : va_S A s.heap s.heap [] := va_S.rf
  have hl : lv_has ls 4 [(0, .ref h), (1, .int x), (2, .int y)] := hl
  refine lv_aload_n hx hb d_Law_edge_0 rfl (lv_at hl 0 rfl) ?_
  refine lv_iload_n hx hb d_Law_edge_1 rfl (lv_at hl 1 rfl) ?_
  refine lv_iload_n hx hb d_Law_edge_2 rfl (lv_at hl 2 rfl) ?_
  refine ct_catchV (C := "java/lang/IllegalArgumentException") (Cr := R_Net) (ci := 8) (As := [.int x, .int y]) (rest := []) hz ⟨hx, hb, hml, hown, ht⟩ hM (cb_V ht kc_Net_edge kl_Law_7 kn_Net ki_Net_edge ks_Net_edge hd_Net_edge ⟨Nat.le_of_ble_eq_true rfl, Nat.le_of_ble_eq_true rfl⟩) (wd_mem 0 rfl mN) rfl rfl (wd_ct (Bs := [ws]) 1 rfl [0] [] (by decide) (wd_1 _)) hK hP hD hS hA rfl hl.1 rfl (Nat.le_of_ble_eq_true rfl) ⟨Nat.le_refl _, Nat.le_refl _⟩ d_Law_edge_3 [] ⟨0, 6, 9, 13⟩ [] htab (by decide) (by decide) (ht _ kl_Law_13) (fun thrown hpl ho hcl z hz9 => by cases hz9) (fun a9 u9 H locs hpo hP hD hS => ?_)
  refine W.widen (k := 1) (n := 6) (Nat.le_refl _) (Nat.le_refl _) ?_
  have hP := wd_nP (N := [u9]) (wd_1 _) 1 rfl [0] (by decide) hP
  have hD := wd_nD (N := [u9]) (wd_1 _) 1 rfl [0] (by decide) hD
  have hP : va_P D kls (List.flatten [u9]) H := hP
  have hD : va_D A (List.flatten [u9]) := hD
  refine W.eq (g2 := F0 m 9 ls [.ref a9]) rfl ?_
  refine lv_astore_n hx hb d_Law_edge_9 rfl hl (by decide) rfl (fun ls hl => ?_)
  have hl : lv_has ls 4 [(3, .ref a9), (0, .ref h), (1, .int x), (2, .int y)] := hl
  refine lv_iconst (v := nI 1) hx hb d_Law_edge_10 (by decide) ?_
  exact ct_iret hQ hx hb hr hlk hP hD hS hK (Nat.le_refl _) (Nat.le_refl _) d_Law_edge_11 ⟨rfl, u9, hpo, rfl⟩
set_option maxHeartbeats 800000 in
set_option maxRecDepth 100000 in
theorem k_Law_stored (l : Launch) (s0 : State) (D : va_G) (cI cZ cJ cG : ClassId) {h qo : Nat} {fo : Nat → Int64} {ws : va_W} (hm : ∃ fs, (h, Sum.inr (8, fs)) ∈ ws) (x y : Int32) {post : Int32 → va_W → Prop} {mc ms : Nat} (hM : ct_I l D kls (ty4 cI cZ cJ cG) y_Net_stored ws_Net_stored (rm_ 3 66 mc ms) [.ref h, .int x, .int y] ws post mc ms) : ct_H l s0 D kls (ty4 cI cZ cJ cG) y_Law_stored wh_stored (rm_ 4 88 mc ms) [.ref h, .int x, .int y, .ref qo] (List.flatten [[(qo, .inl (cJ, 1, .inr (.inl fo)))], ws]) (fun z u => z = nI 0 ∧ ∃ r u2, post r u2 ∧ u = List.flatten [[(qo, .inl (cJ, 1, .inr (.inl (vp_updL fo 0 r.toInt64))))], u2]) mc ms := by
  obtain ⟨fs8, mN⟩ := hm
  refine ct_enterH (cc := b_Law_stored) (maxL := 5) (ret := (some .int)) (hs := [(0, 10, 13, 13)]) (by decide +kernel) (Nat.le_of_ble_eq_true rfl) ?_
  intro p e s m args below meth c hx hb hml hr ht hown hlk hnm A Q hA hK hP hD hQ ls hl hz htab
  have hown : s.vm.findClass R_Law = some m.cls := hown
  have hS : va_S A s.heap s.heap [] := va_S.rf
  have hl : lv_has ls 5 [(0, .ref h), (1, .int x), (2, .int y), (3, .ref qo)] := hl
  refine lv_aload_n hx hb d_Law_stored_0 rfl (lv_at hl 3 rfl) ?_
  refine lv_iconst (v := nI 0) hx hb d_Law_stored_1 (by decide) ?_
  refine lv_aload_n hx hb d_Law_stored_2 rfl (lv_at hl 0 rfl) ?_
  refine lv_iload_n hx hb d_Law_stored_3 rfl (lv_at hl 1 rfl) ?_
  refine lv_iload_n hx hb d_Law_stored_4 rfl (lv_at hl 2 rfl) ?_
  refine ct_callVI (C := R_Net) (ci := 8) (As := [.int x, .int y]) (rest := [.int (nI 0), .ref qo]) ⟨hx, hb, hml, hown, ht⟩ (hM) (cb_V ht kc_Net_stored kl_Law_41 kn_Net ki_Net_stored ks_Net_stored hd_Net_stored ⟨Nat.le_of_ble_eq_true rfl, Nat.le_of_ble_eq_true rfl⟩) (wd_mem 1 rfl mN) rfl rfl (wd_ct (Bs := [[(qo, .inl (cJ, 1, .inr (.inl fo)))], ws]) 2 rfl [1] [0] (by decide) (wd_1 _)) hK hP hD hS hA rfl hl.1 rfl (Nat.le_of_ble_eq_true rfl) ⟨(Nat.le_of_eq (Nat.zero_add _)), (Nat.le_of_eq (Nat.zero_add _))⟩ d_Law_stored_5 (fun ru101 u101 H locs hu101 hP hD hS => ?_)
  have hpo := hu101
  refine W.widen (k := mc) (n := ms) (Nat.le_of_eq (Nat.zero_add _)) (Nat.le_of_eq (Nat.zero_add _)) ?_
  have hP := wd_nP (N := [u101]) (wd_1 _) 2 rfl [1, 0] (by decide) hP
  have hD := wd_nD (N := [u101]) (wd_1 _) 2 rfl [1, 0] (by decide) hD
  have hP : va_P D kls (List.flatten [[(qo, .inl (cJ, 1, .inr (.inl fo)))], u101]) H := hP
  have hD : va_D A (List.flatten [[(qo, .inl (cJ, 1, .inr (.inl fo)))], u101]) := hD
  refine W.eq (g2 := F0 m 8 ls [.int ru101, .int (nI 0), .ref qo]) rfl ?_
  refine lv_i2l (v := ru101.toInt64) hx hb d_Law_stored_8 rfl ?_
  refine ri_last hx hb hK hP hD hS 0 2 rfl rfl (j := 0) (by omega) (by omega) d_Law_stored_9 (fun H locs hP hD hS => ?_)
  have hP : va_P D kls (List.flatten [[(qo, .inl (cJ, 1, .inr (.inl (vp_updL fo 0 ru101.toInt64))))], u101]) H := hP
  have hD : va_D A (List.flatten [[(qo, .inl (cJ, 1, .inr (.inl (vp_updL fo 0 ru101.toInt64))))], u101]) := hD
  refine lv_goto hx hb d_Law_stored_10 (tgt := 17) (by decide) ?_
  refine lv_iconst (v := nI 0) hx hb d_Law_stored_17 (by decide) ?_
  exact ct_iret hQ hx hb hr hlk hP hD hS hK (Nat.le_refl _) (Nat.le_refl _) d_Law_stored_18 ⟨rfl, ru101, u101, hpo, rfl⟩
set_option maxHeartbeats 800000 in
set_option maxRecDepth 100000 in
theorem k_Law_distance (l : Launch) (s0 : State) (D : va_G) (cI cZ cJ cG : ClassId) {h qo : Nat} {fo : Nat → Int64} {ws : va_W} (hm : ∃ fs, (h, Sum.inr (8, fs)) ∈ ws) (x y : Int32) {post : Int32 → va_W → Prop} {mc ms : Nat} (hM : ct_I l D kls (ty4 cI cZ cJ cG) y_Net_distance ws_Net_distance (rm_ 4 93 mc ms) [.ref h, .int x, .int y] ws post mc ms) : ct_H l s0 D kls (ty4 cI cZ cJ cG) y_Law_distance wh_distance (rm_ 5 115 mc ms) [.ref h, .int x, .int y, .ref qo] (List.flatten [[(qo, .inl (cJ, 1, .inr (.inl fo)))], ws]) (fun z u => z = nI 0 ∧ ∃ r u2, post r u2 ∧ u = List.flatten [[(qo, .inl (cJ, 1, .inr (.inl (vp_updL fo 0 r.toInt64))))], u2]) mc ms := by
  obtain ⟨fs8, mN⟩ := hm
  refine ct_enterH (cc := b_Law_distance) (maxL := 5) (ret := (some .int)) (hs := [(0, 10, 13, 13)]) (by decide +kernel) (Nat.le_of_ble_eq_true rfl) ?_
  intro p e s m args below meth c hx hb hml hr ht hown hlk hnm A Q hA hK hP hD hQ ls hl hz htab
  have hown : s.vm.findClass R_Law = some m.cls := hown
  have hS : va_S A s.heap s.heap [] := va_S.rf
  have hl : lv_has ls 5 [(0, .ref h), (1, .int x), (2, .int y), (3, .ref qo)] := hl
  refine lv_aload_n hx hb d_Law_distance_0 rfl (lv_at hl 3 rfl) ?_
  refine lv_iconst (v := nI 0) hx hb d_Law_distance_1 (by decide) ?_
  refine lv_aload_n hx hb d_Law_distance_2 rfl (lv_at hl 0 rfl) ?_
  refine lv_iload_n hx hb d_Law_distance_3 rfl (lv_at hl 1 rfl) ?_
  refine lv_iload_n hx hb d_Law_distance_4 rfl (lv_at hl 2 rfl) ?_
  refine ct_callVI (C := R_Net) (ci := 8) (As := [.int x, .int y]) (rest := [.int (nI 0), .ref qo]) ⟨hx, hb, hml, hown, ht⟩ (hM) (cb_V ht kc_Net_distance kl_Law_35 kn_Net ki_Net_distance ks_Net_distance hd_Net_distance ⟨Nat.le_of_ble_eq_true rfl, Nat.le_of_ble_eq_true rfl⟩) (wd_mem 1 rfl mN) rfl rfl (wd_ct (Bs := [[(qo, .inl (cJ, 1, .inr (.inl fo)))], ws]) 2 rfl [1] [0] (by decide) (wd_1 _)) hK hP hD hS hA rfl hl.1 rfl (Nat.le_of_ble_eq_true rfl) ⟨(Nat.le_of_eq (Nat.zero_add _)), (Nat.le_of_eq (Nat.zero_add _))⟩ d_Law_distance_5 (fun ru101 u101 H locs hu101 hP hD hS => ?_)
  have hpo := hu101
  refine W.widen (k := mc) (n := ms) (Nat.le_of_eq (Nat.zero_add _)) (Nat.le_of_eq (Nat.zero_add _)) ?_
  have hP := wd_nP (N := [u101]) (wd_1 _) 2 rfl [1, 0] (by decide) hP
  have hD := wd_nD (N := [u101]) (wd_1 _) 2 rfl [1, 0] (by decide) hD
  have hP : va_P D kls (List.flatten [[(qo, .inl (cJ, 1, .inr (.inl fo)))], u101]) H := hP
  have hD : va_D A (List.flatten [[(qo, .inl (cJ, 1, .inr (.inl fo)))], u101]) := hD
  refine W.eq (g2 := F0 m 8 ls [.int ru101, .int (nI 0), .ref qo]) rfl ?_
  refine lv_i2l (v := ru101.toInt64) hx hb d_Law_distance_8 rfl ?_
  refine ri_last hx hb hK hP hD hS 0 2 rfl rfl (j := 0) (by omega) (by omega) d_Law_distance_9 (fun H locs hP hD hS => ?_)
  have hP : va_P D kls (List.flatten [[(qo, .inl (cJ, 1, .inr (.inl (vp_updL fo 0 ru101.toInt64))))], u101]) H := hP
  have hD : va_D A (List.flatten [[(qo, .inl (cJ, 1, .inr (.inl (vp_updL fo 0 ru101.toInt64))))], u101]) := hD
  refine lv_goto hx hb d_Law_distance_10 (tgt := 17) (by decide) ?_
  refine lv_iconst (v := nI 0) hx hb d_Law_distance_17 (by decide) ?_
  exact ct_iret hQ hx hb hr hlk hP hD hS hK (Nat.le_refl _) (Nat.le_refl _) d_Law_distance_18 ⟨rfl, ru101, u101, hpo, rfl⟩
set_option maxHeartbeats 800000 in
set_option maxRecDepth 100000 in
theorem k_Law_alternate (l : Launch) (s0 : State) (D : va_G) (cI cZ cJ cG : ClassId) {h qo : Nat} {fo : Nat → Int64} {ws : va_W} (hm : ∃ fs, (h, Sum.inr (8, fs)) ∈ ws) (x y : Int32) {post : Int32 → va_W → Prop} {mc ms : Nat} (hM : ct_I l D kls (ty4 cI cZ cJ cG) y_Net_alternate ws_Net_alternate (rm_ 4 96 mc ms) [.ref h, .int x, .int y] ws post mc ms) : ct_H l s0 D kls (ty4 cI cZ cJ cG) y_Law_alternate wh_alternate (rm_ 5 118 mc ms) [.ref h, .int x, .int y, .ref qo] (List.flatten [[(qo, .inl (cJ, 1, .inr (.inl fo)))], ws]) (fun z u => z = nI 0 ∧ ∃ r u2, post r u2 ∧ u = List.flatten [[(qo, .inl (cJ, 1, .inr (.inl (vp_updL fo 0 r.toInt64))))], u2]) mc ms := by
  obtain ⟨fs8, mN⟩ := hm
  refine ct_enterH (cc := b_Law_alternate) (maxL := 5) (ret := (some .int)) (hs := [(0, 10, 13, 13)]) (by decide +kernel) (Nat.le_of_ble_eq_true rfl) ?_
  intro p e s m args below meth c hx hb hml hr ht hown hlk hnm A Q hA hK hP hD hQ ls hl hz htab
  have hown : s.vm.findClass R_Law = some m.cls := hown
  have hS : va_S A s.heap s.heap [] := va_S.rf
  have hl : lv_has ls 5 [(0, .ref h), (1, .int x), (2, .int y), (3, .ref qo)] := hl
  refine lv_aload_n hx hb d_Law_alternate_0 rfl (lv_at hl 3 rfl) ?_
  refine lv_iconst (v := nI 0) hx hb d_Law_alternate_1 (by decide) ?_
  refine lv_aload_n hx hb d_Law_alternate_2 rfl (lv_at hl 0 rfl) ?_
  refine lv_iload_n hx hb d_Law_alternate_3 rfl (lv_at hl 1 rfl) ?_
  refine lv_iload_n hx hb d_Law_alternate_4 rfl (lv_at hl 2 rfl) ?_
  refine ct_callVI (C := R_Net) (ci := 8) (As := [.int x, .int y]) (rest := [.int (nI 0), .ref qo]) ⟨hx, hb, hml, hown, ht⟩ (hM) (cb_V ht kc_Net_alternate kl_Law_38 kn_Net ki_Net_alternate ks_Net_alternate hd_Net_alternate ⟨Nat.le_of_ble_eq_true rfl, Nat.le_of_ble_eq_true rfl⟩) (wd_mem 1 rfl mN) rfl rfl (wd_ct (Bs := [[(qo, .inl (cJ, 1, .inr (.inl fo)))], ws]) 2 rfl [1] [0] (by decide) (wd_1 _)) hK hP hD hS hA rfl hl.1 rfl (Nat.le_of_ble_eq_true rfl) ⟨(Nat.le_of_eq (Nat.zero_add _)), (Nat.le_of_eq (Nat.zero_add _))⟩ d_Law_alternate_5 (fun ru101 u101 H locs hu101 hP hD hS => ?_)
  have hpo := hu101
  refine W.widen (k := mc) (n := ms) (Nat.le_of_eq (Nat.zero_add _)) (Nat.le_of_eq (Nat.zero_add _)) ?_
  have hP := wd_nP (N := [u101]) (wd_1 _) 2 rfl [1, 0] (by decide) hP
  have hD := wd_nD (N := [u101]) (wd_1 _) 2 rfl [1, 0] (by decide) hD
  have hP : va_P D kls (List.flatten [[(qo, .inl (cJ, 1, .inr (.inl fo)))], u101]) H := hP
  have hD : va_D A (List.flatten [[(qo, .inl (cJ, 1, .inr (.inl fo)))], u101]) := hD
  refine W.eq (g2 := F0 m 8 ls [.int ru101, .int (nI 0), .ref qo]) rfl ?_
  refine lv_i2l (v := ru101.toInt64) hx hb d_Law_alternate_8 rfl ?_
  refine ri_last hx hb hK hP hD hS 0 2 rfl rfl (j := 0) (by omega) (by omega) d_Law_alternate_9 (fun H locs hP hD hS => ?_)
  have hP : va_P D kls (List.flatten [[(qo, .inl (cJ, 1, .inr (.inl (vp_updL fo 0 ru101.toInt64))))], u101]) H := hP
  have hD : va_D A (List.flatten [[(qo, .inl (cJ, 1, .inr (.inl (vp_updL fo 0 ru101.toInt64))))], u101]) := hD
  refine lv_goto hx hb d_Law_alternate_10 (tgt := 17) (by decide) ?_
  refine lv_iconst (v := nI 0) hx hb d_Law_alternate_17 (by decide) ?_
  exact ct_iret hQ hx hb hr hlk hP hD hS hK (Nat.le_refl _) (Nat.le_refl _) d_Law_alternate_18 ⟨rfl, ru101, u101, hpo, rfl⟩
set_option maxHeartbeats 800000 in
set_option maxRecDepth 100000 in
theorem x_Law_mask (l : Launch) (s0 : State) (D : va_G) (cI cZ cJ cG : ClassId) {h qo : Nat} {fo : Nat → Int64} {ws : va_W} (hm : ∃ fs, (h, Sum.inr (8, fs)) ∈ ws) (x y : Int32) (A0 : Array Value) (hnc : nc_0 A0 s0) {post : va_W → Prop} (hM : ct_X l s0 D kls (ty4 cI cZ cJ cG) y_Net_mask ws_Net_mask (rm_ 7 102 1 6) [.ref h, .int x, .int y] ws "java/lang/IllegalArgumentException" post 1 6) : ct_H l s0 D kls (ty4 cI cZ cJ cG) y_Law_mask wh_mask (rm_ 8 124 1 6) [.ref h, .int x, .int y, .ref qo] (List.flatten [[(qo, .inl (cJ, 1, .inr (.inl fo)))], ws]) (fun z u => z = nI 1 ∧ ∃ u2, post u2 ∧ u = List.flatten [[(qo, .inl (cJ, 1, .inr (.inl fo)))], u2]) 1 6 := by
  obtain ⟨fs8, mN⟩ := hm
  refine ct_enterH (cc := b_Law_mask) (maxL := 5) (ret := (some .int)) (hs := [(0, 10, 13, 13)]) (by decide +kernel) (Nat.le_of_ble_eq_true rfl) ?_
  intro p e s m args below meth c hx hb hml hr ht hown hlk hnm A Q hA hK hP hD hQ ls hl hz htab
  have hown : s.vm.findClass R_Law = some m.cls := hown
  have hS : va_S A s.heap s.heap [] := va_S.rf
  have hl : lv_has ls 5 [(0, .ref h), (1, .int x), (2, .int y), (3, .ref qo)] := hl
  refine lv_aload_n hx hb d_Law_mask_0 rfl (lv_at hl 3 rfl) ?_
  refine lv_iconst (v := nI 0) hx hb d_Law_mask_1 (by decide) ?_
  refine lv_aload_n hx hb d_Law_mask_2 rfl (lv_at hl 0 rfl) ?_
  refine lv_iload_n hx hb d_Law_mask_3 rfl (lv_at hl 1 rfl) ?_
  refine lv_iload_n hx hb d_Law_mask_4 rfl (lv_at hl 2 rfl) ?_
  refine ct_catchV (C := "java/lang/IllegalArgumentException") (Cr := R_Net) (ci := 8) (As := [.int x, .int y]) (rest := [.int (nI 0), .ref qo]) hz ⟨hx, hb, hml, hown, ht⟩ hM (cb_V ht kc_Net_mask kl_Law_31 kn_Net ki_Net_mask ks_Net_mask hd_Net_mask ⟨Nat.le_of_ble_eq_true rfl, Nat.le_of_ble_eq_true rfl⟩) (wd_mem 1 rfl mN) rfl rfl (wd_ct (Bs := [[(qo, .inl (cJ, 1, .inr (.inl fo)))], ws]) 2 rfl [1] [0] (by decide) (wd_1 _)) hK hP hD hS hA rfl hl.1 rfl (Nat.le_of_ble_eq_true rfl) ⟨Nat.le_refl _, Nat.le_refl _⟩ d_Law_mask_5 [] ⟨0, 10, 13, 13⟩ [] htab (by decide) (by decide) (ht _ kl_Law_13) (fun thrown hpl ho hcl z hz9 => by cases hz9) (fun a9 u9 H locs hpo hP hD hS => ?_)
  refine W.widen (k := 1) (n := 6) (Nat.le_refl _) (Nat.le_refl _) ?_
  have hP := wd_nP (N := [u9]) (wd_1 _) 2 rfl [1, 0] (by decide) hP
  have hD := wd_nD (N := [u9]) (wd_1 _) 2 rfl [1, 0] (by decide) hD
  have hP : va_P D kls (List.flatten [[(qo, .inl (cJ, 1, .inr (.inl fo)))], u9]) H := hP
  have hD : va_D A (List.flatten [[(qo, .inl (cJ, 1, .inr (.inl fo)))], u9]) := hD
  refine W.eq (g2 := F0 m 13 ls [.ref a9]) rfl ?_
  refine lv_astore hx hb d_Law_mask_13 hl (by decide) rfl (fun ls hl => ?_)
  have hl : lv_has ls 5 [(4, .ref a9), (0, .ref h), (1, .int x), (2, .int y), (3, .ref qo)] := hl
  refine lv_iconst (v := nI 1) hx hb d_Law_mask_15 (by decide) ?_
  exact ct_iret hQ hx hb hr hlk hP hD hS hK (Nat.le_refl _) (Nat.le_refl _) d_Law_mask_16 ⟨rfl, u9, hpo, rfl⟩
set_option maxHeartbeats 800000 in
set_option maxRecDepth 100000 in
theorem x_Law_distance (l : Launch) (s0 : State) (D : va_G) (cI cZ cJ cG : ClassId) {h qo : Nat} {fo : Nat → Int64} {ws : va_W} (hm : ∃ fs, (h, Sum.inr (8, fs)) ∈ ws) (x y : Int32) (A0 : Array Value) (hnc : nc_0 A0 s0) {post : va_W → Prop} (hM : ct_X l s0 D kls (ty4 cI cZ cJ cG) y_Net_distance ws_Net_distance (rm_ 7 102 1 6) [.ref h, .int x, .int y] ws "java/lang/IllegalArgumentException" post 1 6) : ct_H l s0 D kls (ty4 cI cZ cJ cG) y_Law_distance wh_distance (rm_ 8 124 1 6) [.ref h, .int x, .int y, .ref qo] (List.flatten [[(qo, .inl (cJ, 1, .inr (.inl fo)))], ws]) (fun z u => z = nI 1 ∧ ∃ u2, post u2 ∧ u = List.flatten [[(qo, .inl (cJ, 1, .inr (.inl fo)))], u2]) 1 6 := by
  obtain ⟨fs8, mN⟩ := hm
  refine ct_enterH (cc := b_Law_distance) (maxL := 5) (ret := (some .int)) (hs := [(0, 10, 13, 13)]) (by decide +kernel) (Nat.le_of_ble_eq_true rfl) ?_
  intro p e s m args below meth c hx hb hml hr ht hown hlk hnm A Q hA hK hP hD hQ ls hl hz htab
  have hown : s.vm.findClass R_Law = some m.cls := hown
  have hS : va_S A s.heap s.heap [] := va_S.rf
  have hl : lv_has ls 5 [(0, .ref h), (1, .int x), (2, .int y), (3, .ref qo)] := hl
  refine lv_aload_n hx hb d_Law_distance_0 rfl (lv_at hl 3 rfl) ?_
  refine lv_iconst (v := nI 0) hx hb d_Law_distance_1 (by decide) ?_
  refine lv_aload_n hx hb d_Law_distance_2 rfl (lv_at hl 0 rfl) ?_
  refine lv_iload_n hx hb d_Law_distance_3 rfl (lv_at hl 1 rfl) ?_
  refine lv_iload_n hx hb d_Law_distance_4 rfl (lv_at hl 2 rfl) ?_
  refine ct_catchV (C := "java/lang/IllegalArgumentException") (Cr := R_Net) (ci := 8) (As := [.int x, .int y]) (rest := [.int (nI 0), .ref qo]) hz ⟨hx, hb, hml, hown, ht⟩ hM (cb_V ht kc_Net_distance kl_Law_35 kn_Net ki_Net_distance ks_Net_distance hd_Net_distance ⟨Nat.le_of_ble_eq_true rfl, Nat.le_of_ble_eq_true rfl⟩) (wd_mem 1 rfl mN) rfl rfl (wd_ct (Bs := [[(qo, .inl (cJ, 1, .inr (.inl fo)))], ws]) 2 rfl [1] [0] (by decide) (wd_1 _)) hK hP hD hS hA rfl hl.1 rfl (Nat.le_of_ble_eq_true rfl) ⟨Nat.le_refl _, Nat.le_refl _⟩ d_Law_distance_5 [] ⟨0, 10, 13, 13⟩ [] htab (by decide) (by decide) (ht _ kl_Law_13) (fun thrown hpl ho hcl z hz9 => by cases hz9) (fun a9 u9 H locs hpo hP hD hS => ?_)
  refine W.widen (k := 1) (n := 6) (Nat.le_refl _) (Nat.le_refl _) ?_
  have hP := wd_nP (N := [u9]) (wd_1 _) 2 rfl [1, 0] (by decide) hP
  have hD := wd_nD (N := [u9]) (wd_1 _) 2 rfl [1, 0] (by decide) hD
  have hP : va_P D kls (List.flatten [[(qo, .inl (cJ, 1, .inr (.inl fo)))], u9]) H := hP
  have hD : va_D A (List.flatten [[(qo, .inl (cJ, 1, .inr (.inl fo)))], u9]) := hD
  refine W.eq (g2 := F0 m 13 ls [.ref a9]) rfl ?_
  refine lv_astore hx hb d_Law_distance_13 hl (by decide) rfl (fun ls hl => ?_)
  have hl : lv_has ls 5 [(4, .ref a9), (0, .ref h), (1, .int x), (2, .int y), (3, .ref qo)] := hl
  refine lv_iconst (v := nI 1) hx hb d_Law_distance_15 (by decide) ?_
  exact ct_iret hQ hx hb hr hlk hP hD hS hK (Nat.le_refl _) (Nat.le_refl _) d_Law_distance_16 ⟨rfl, u9, hpo, rfl⟩
set_option maxHeartbeats 800000 in
set_option maxRecDepth 100000 in
theorem x_Law_alternate (l : Launch) (s0 : State) (D : va_G) (cI cZ cJ cG : ClassId) {h qo : Nat} {fo : Nat → Int64} {ws : va_W} (hm : ∃ fs, (h, Sum.inr (8, fs)) ∈ ws) (x y : Int32) (A0 : Array Value) (hnc : nc_0 A0 s0) {post : va_W → Prop} (hM : ct_X l s0 D kls (ty4 cI cZ cJ cG) y_Net_alternate ws_Net_alternate (rm_ 7 102 1 6) [.ref h, .int x, .int y] ws "java/lang/IllegalArgumentException" post 1 6) : ct_H l s0 D kls (ty4 cI cZ cJ cG) y_Law_alternate wh_alternate (rm_ 8 124 1 6) [.ref h, .int x, .int y, .ref qo] (List.flatten [[(qo, .inl (cJ, 1, .inr (.inl fo)))], ws]) (fun z u => z = nI 1 ∧ ∃ u2, post u2 ∧ u = List.flatten [[(qo, .inl (cJ, 1, .inr (.inl fo)))], u2]) 1 6 := by
  obtain ⟨fs8, mN⟩ := hm
  refine ct_enterH (cc := b_Law_alternate) (maxL := 5) (ret := (some .int)) (hs := [(0, 10, 13, 13)]) (by decide +kernel) (Nat.le_of_ble_eq_true rfl) ?_
  intro p e s m args below meth c hx hb hml hr ht hown hlk hnm A Q hA hK hP hD hQ ls hl hz htab
  have hown : s.vm.findClass R_Law = some m.cls := hown
  have hS : va_S A s.heap s.heap [] := va_S.rf
  have hl : lv_has ls 5 [(0, .ref h), (1, .int x), (2, .int y), (3, .ref qo)] := hl
  refine lv_aload_n hx hb d_Law_alternate_0 rfl (lv_at hl 3 rfl) ?_
  refine lv_iconst (v := nI 0) hx hb d_Law_alternate_1 (by decide) ?_
  refine lv_aload_n hx hb d_Law_alternate_2 rfl (lv_at hl 0 rfl) ?_
  refine lv_iload_n hx hb d_Law_alternate_3 rfl (lv_at hl 1 rfl) ?_
  refine lv_iload_n hx hb d_Law_alternate_4 rfl (lv_at hl 2 rfl) ?_
  refine ct_catchV (C := "java/lang/IllegalArgumentException") (Cr := R_Net) (ci := 8) (As := [.int x, .int y]) (rest := [.int (nI 0), .ref qo]) hz ⟨hx, hb, hml, hown, ht⟩ hM (cb_V ht kc_Net_alternate kl_Law_38 kn_Net ki_Net_alternate ks_Net_alternate hd_Net_alternate ⟨Nat.le_of_ble_eq_true rfl, Nat.le_of_ble_eq_true rfl⟩) (wd_mem 1 rfl mN) rfl rfl (wd_ct (Bs := [[(qo, .inl (cJ, 1, .inr (.inl fo)))], ws]) 2 rfl [1] [0] (by decide) (wd_1 _)) hK hP hD hS hA rfl hl.1 rfl (Nat.le_of_ble_eq_true rfl) ⟨Nat.le_refl _, Nat.le_refl _⟩ d_Law_alternate_5 [] ⟨0, 10, 13, 13⟩ [] htab (by decide) (by decide) (ht _ kl_Law_13) (fun thrown hpl ho hcl z hz9 => by cases hz9) (fun a9 u9 H locs hpo hP hD hS => ?_)
  refine W.widen (k := 1) (n := 6) (Nat.le_refl _) (Nat.le_refl _) ?_
  have hP := wd_nP (N := [u9]) (wd_1 _) 2 rfl [1, 0] (by decide) hP
  have hD := wd_nD (N := [u9]) (wd_1 _) 2 rfl [1, 0] (by decide) hD
  have hP : va_P D kls (List.flatten [[(qo, .inl (cJ, 1, .inr (.inl fo)))], u9]) H := hP
  have hD : va_D A (List.flatten [[(qo, .inl (cJ, 1, .inr (.inl fo)))], u9]) := hD
  refine W.eq (g2 := F0 m 13 ls [.ref a9]) rfl ?_
  refine lv_astore hx hb d_Law_alternate_13 hl (by decide) rfl (fun ls hl => ?_)
  have hl : lv_has ls 5 [(4, .ref a9), (0, .ref h), (1, .int x), (2, .int y), (3, .ref qo)] := hl
  refine lv_iconst (v := nI 1) hx hb d_Law_alternate_15 (by decide) ?_
  exact ct_iret hQ hx hb hr hlk hP hD hS hK (Nat.le_refl _) (Nat.le_refl _) d_Law_alternate_16 ⟨rfl, u9, hpo, rfl⟩
set_option maxHeartbeats 800000 in
set_option maxRecDepth 100000 in
theorem x_Law_stored (l : Launch) (s0 : State) (D : va_G) (cI cZ cJ cG : ClassId) {h qo : Nat} {fo : Nat → Int64} {ws : va_W} (hm : ∃ fs, (h, Sum.inr (8, fs)) ∈ ws) (x y : Int32) (A0 : Array Value) (hnc : nc_0 A0 s0) {post : va_W → Prop} (hM : ct_X l s0 D kls (ty4 cI cZ cJ cG) y_Net_stored ws_Net_stored (rm_ 7 102 1 6) [.ref h, .int x, .int y] ws "java/lang/IllegalArgumentException" post 1 6) : ct_H l s0 D kls (ty4 cI cZ cJ cG) y_Law_stored wh_stored (rm_ 8 124 1 6) [.ref h, .int x, .int y, .ref qo] (List.flatten [[(qo, .inl (cJ, 1, .inr (.inl fo)))], ws]) (fun z u => z = nI 1 ∧ ∃ u2, post u2 ∧ u = List.flatten [[(qo, .inl (cJ, 1, .inr (.inl fo)))], u2]) 1 6 := by
  obtain ⟨fs8, mN⟩ := hm
  refine ct_enterH (cc := b_Law_stored) (maxL := 5) (ret := (some .int)) (hs := [(0, 10, 13, 13)]) (by decide +kernel) (Nat.le_of_ble_eq_true rfl) ?_
  intro p e s m args below meth c hx hb hml hr ht hown hlk hnm A Q hA hK hP hD hQ ls hl hz htab
  have hown : s.vm.findClass R_Law = some m.cls := hown
  have hS : va_S A s.heap s.heap [] := va_S.rf
  have hl : lv_has ls 5 [(0, .ref h), (1, .int x), (2, .int y), (3, .ref qo)] := hl
  refine lv_aload_n hx hb d_Law_stored_0 rfl (lv_at hl 3 rfl) ?_
  refine lv_iconst (v := nI 0) hx hb d_Law_stored_1 (by decide) ?_
  refine lv_aload_n hx hb d_Law_stored_2 rfl (lv_at hl 0 rfl) ?_
  refine lv_iload_n hx hb d_Law_stored_3 rfl (lv_at hl 1 rfl) ?_
  refine lv_iload_n hx hb d_Law_stored_4 rfl (lv_at hl 2 rfl) ?_
  refine ct_catchV (C := "java/lang/IllegalArgumentException") (Cr := R_Net) (ci := 8) (As := [.int x, .int y]) (rest := [.int (nI 0), .ref qo]) hz ⟨hx, hb, hml, hown, ht⟩ hM (cb_V ht kc_Net_stored kl_Law_41 kn_Net ki_Net_stored ks_Net_stored hd_Net_stored ⟨Nat.le_of_ble_eq_true rfl, Nat.le_of_ble_eq_true rfl⟩) (wd_mem 1 rfl mN) rfl rfl (wd_ct (Bs := [[(qo, .inl (cJ, 1, .inr (.inl fo)))], ws]) 2 rfl [1] [0] (by decide) (wd_1 _)) hK hP hD hS hA rfl hl.1 rfl (Nat.le_of_ble_eq_true rfl) ⟨Nat.le_refl _, Nat.le_refl _⟩ d_Law_stored_5 [] ⟨0, 10, 13, 13⟩ [] htab (by decide) (by decide) (ht _ kl_Law_13) (fun thrown hpl ho hcl z hz9 => by cases hz9) (fun a9 u9 H locs hpo hP hD hS => ?_)
  refine W.widen (k := 1) (n := 6) (Nat.le_refl _) (Nat.le_refl _) ?_
  have hP := wd_nP (N := [u9]) (wd_1 _) 2 rfl [1, 0] (by decide) hP
  have hD := wd_nD (N := [u9]) (wd_1 _) 2 rfl [1, 0] (by decide) hD
  have hP : va_P D kls (List.flatten [[(qo, .inl (cJ, 1, .inr (.inl fo)))], u9]) H := hP
  have hD : va_D A (List.flatten [[(qo, .inl (cJ, 1, .inr (.inl fo)))], u9]) := hD
  refine W.eq (g2 := F0 m 13 ls [.ref a9]) rfl ?_
  refine lv_astore hx hb d_Law_stored_13 hl (by decide) rfl (fun ls hl => ?_)
  have hl : lv_has ls 5 [(4, .ref a9), (0, .ref h), (1, .int x), (2, .int y), (3, .ref qo)] := hl
  refine lv_iconst (v := nI 1) hx hb d_Law_stored_15 (by decide) ?_
  exact ct_iret hQ hx hb hr hlk hP hD hS hK (Nat.le_refl _) (Nat.le_refl _) d_Law_stored_16 ⟨rfl, u9, hpo, rfl⟩
set_option maxHeartbeats 800000 in
set_option maxRecDepth 100000 in
theorem k_Law_cut (l : Launch) (s0 : State) (D : va_G) (cI cZ cJ cG : ClassId) {h : Nat} {ws : va_W} (hm : ∃ fs, (h, Sum.inr (8, fs)) ∈ ws) (x y : Int32) {post : va_W → Prop} {mc ms : Nat} (hM : ct_V l D kls (ty4 cI cZ cJ cG) y_Net_cut ws_Net_cut (rm_ 2 45 mc ms) [.ref h, .int x, .int y] ws post mc ms) : ct_H l s0 D kls (ty4 cI cZ cJ cG) y_Law_cut wh_cut (rm_ 3 67 mc ms) [.ref h, .int x, .int y] (List.flatten [ws]) (fun z u => z = nI 0 ∧ ∃ u2, post u2 ∧ u = List.flatten [u2]) mc ms := by
  obtain ⟨fs8, mN⟩ := hm
  refine ct_enterH (cc := b_Law_cut) (maxL := 4) (ret := (some .int)) (hs := [(0, 6, 9, 13)]) (by decide +kernel) (Nat.le_of_ble_eq_true rfl) ?_
  intro p e s m args below meth c hx hb hml hr ht hown hlk hnm A Q hA hK hP hD hQ ls hl hz htab
  have hown : s.vm.findClass R_Law = some m.cls := hown
  have hS : va_S A s.heap s.heap [] := va_S.rf
  have hl : lv_has ls 4 [(0, .ref h), (1, .int x), (2, .int y)] := hl
  refine lv_aload_n hx hb d_Law_cut_0 rfl (lv_at hl 0 rfl) ?_
  refine lv_iload_n hx hb d_Law_cut_1 rfl (lv_at hl 1 rfl) ?_
  refine lv_iload_n hx hb d_Law_cut_2 rfl (lv_at hl 2 rfl) ?_
  refine ct_callVV (C := R_Net) (ci := 8) (As := [.int x, .int y]) (rest := []) ⟨hx, hb, hml, hown, ht⟩ (hM) (cb_V ht kc_Net_cut kl_Law_21 kn_Net ki_Net_cut ks_Net_cut hd_Net_cut ⟨Nat.le_of_ble_eq_true rfl, Nat.le_of_ble_eq_true rfl⟩) (wd_mem 0 rfl mN) rfl rfl (wd_ct (Bs := [ws]) 1 rfl [0] [] (by decide) (wd_1 _)) hK hP hD hS hA rfl hl.1 rfl (Nat.le_of_ble_eq_true rfl) ⟨(Nat.le_of_eq (Nat.zero_add _)), (Nat.le_of_eq (Nat.zero_add _))⟩ d_Law_cut_3 (fun u101 H locs hu101 hP hD hS => ?_)
  have hpo := hu101
  refine W.widen (k := mc) (n := ms) (Nat.le_of_eq (Nat.zero_add _)) (Nat.le_of_eq (Nat.zero_add _)) ?_
  have hP := wd_nP (N := [u101]) (wd_1 _) 1 rfl [0] (by decide) hP
  have hD := wd_nD (N := [u101]) (wd_1 _) 1 rfl [0] (by decide) hD
  have hP : va_P D kls (List.flatten [u101]) H := hP
  have hD : va_D A (List.flatten [u101]) := hD
  refine W.eq (g2 := F0 m 6 ls []) rfl ?_
  refine lv_goto hx hb d_Law_cut_6 (tgt := 12) (by decide) ?_
  refine lv_iconst (v := nI 0) hx hb d_Law_cut_12 (by decide) ?_
  exact ct_iret hQ hx hb hr hlk hP hD hS hK (Nat.le_refl _) (Nat.le_refl _) d_Law_cut_13 ⟨rfl, u101, hpo, rfl⟩
set_option maxHeartbeats 800000 in
set_option maxRecDepth 100000 in
theorem x_Law_cut (l : Launch) (s0 : State) (D : va_G) (cI cZ cJ cG : ClassId) {h : Nat} {ws : va_W} (hm : ∃ fs, (h, Sum.inr (8, fs)) ∈ ws) (x y : Int32) (A0 : Array Value) (hnc : nc_0 A0 s0) {post : va_W → Prop} (hM : ct_X l s0 D kls (ty4 cI cZ cJ cG) y_Net_cut ws_Net_cut (rm_ 7 102 1 6) [.ref h, .int x, .int y] ws "java/lang/IllegalArgumentException" post 1 6) : ct_H l s0 D kls (ty4 cI cZ cJ cG) y_Law_cut wh_cut (rm_ 8 124 1 6) [.ref h, .int x, .int y] (List.flatten [ws]) (fun z u => z = nI 1 ∧ ∃ u2, post u2 ∧ u = List.flatten [u2]) 1 6 := by
  obtain ⟨fs8, mN⟩ := hm
  refine ct_enterH (cc := b_Law_cut) (maxL := 4) (ret := (some .int)) (hs := [(0, 6, 9, 13)]) (by decide +kernel) (Nat.le_of_ble_eq_true rfl) ?_
  intro p e s m args below meth c hx hb hml hr ht hown hlk hnm A Q hA hK hP hD hQ ls hl hz htab
  have hown : s.vm.findClass R_Law = some m.cls := hown
  have hS : va_S A s.heap s.heap [] := va_S.rf
  have hl : lv_has ls 4 [(0, .ref h), (1, .int x), (2, .int y)] := hl
  refine lv_aload_n hx hb d_Law_cut_0 rfl (lv_at hl 0 rfl) ?_
  refine lv_iload_n hx hb d_Law_cut_1 rfl (lv_at hl 1 rfl) ?_
  refine lv_iload_n hx hb d_Law_cut_2 rfl (lv_at hl 2 rfl) ?_
  refine ct_catchV (C := "java/lang/IllegalArgumentException") (Cr := R_Net) (ci := 8) (As := [.int x, .int y]) (rest := []) hz ⟨hx, hb, hml, hown, ht⟩ hM (cb_V ht kc_Net_cut kl_Law_21 kn_Net ki_Net_cut ks_Net_cut hd_Net_cut ⟨Nat.le_of_ble_eq_true rfl, Nat.le_of_ble_eq_true rfl⟩) (wd_mem 0 rfl mN) rfl rfl (wd_ct (Bs := [ws]) 1 rfl [0] [] (by decide) (wd_1 _)) hK hP hD hS hA rfl hl.1 rfl (Nat.le_of_ble_eq_true rfl) ⟨Nat.le_refl _, Nat.le_refl _⟩ d_Law_cut_3 [] ⟨0, 6, 9, 13⟩ [] htab (by decide) (by decide) (ht _ kl_Law_13) (fun thrown hpl ho hcl z hz9 => by cases hz9) (fun a9 u9 H locs hpo hP hD hS => ?_)
  refine W.widen (k := 1) (n := 6) (Nat.le_refl _) (Nat.le_refl _) ?_
  have hP := wd_nP (N := [u9]) (wd_1 _) 1 rfl [0] (by decide) hP
  have hD := wd_nD (N := [u9]) (wd_1 _) 1 rfl [0] (by decide) hD
  have hP : va_P D kls (List.flatten [u9]) H := hP
  have hD : va_D A (List.flatten [u9]) := hD
  refine W.eq (g2 := F0 m 9 ls [.ref a9]) rfl ?_
  refine lv_astore_n hx hb d_Law_cut_9 rfl hl (by decide) rfl (fun ls hl => ?_)
  have hl : lv_has ls 4 [(3, .ref a9), (0, .ref h), (1, .int x), (2, .int y)] := hl
  refine lv_iconst (v := nI 1) hx hb d_Law_cut_10 (by decide) ?_
  exact ct_iret hQ hx hb hr hlk hP hD hS hK (Nat.le_refl _) (Nat.le_refl _) d_Law_cut_11 ⟨rfl, u9, hpo, rfl⟩
set_option maxHeartbeats 800000 in
set_option maxRecDepth 100000 in
theorem k_Law_bits (l : Launch) (s0 : State) (D : va_G) (cI cZ cJ cG : ClassId) {h qo : Nat} {fo : Nat → Int64} {ws : va_W} (hm : ∃ fs, (h, Sum.inr (8, fs)) ∈ ws) (x : Int32) {post : Int32 → va_W → Prop} {mc ms : Nat} (hM : ct_I l D kls (ty4 cI cZ cJ cG) y_Net_bits ws_Net_bits (rm_ 1 21 mc ms) [.ref h, .int x] ws post mc ms) : ct_H l s0 D kls (ty4 cI cZ cJ cG) y_Law_bits wh_bits (rm_ 2 42 mc ms) [.ref h, .int x, .ref qo] (List.flatten [[(qo, .inl (cJ, 1, .inr (.inl fo)))], ws]) (fun z u => z = nI 0 ∧ ∃ r u2, post r u2 ∧ u = List.flatten [[(qo, .inl (cJ, 1, .inr (.inl (vp_updL fo 0 r.toInt64))))], u2]) mc ms := by
  obtain ⟨fs8, mN⟩ := hm
  refine ct_enterH (cc := b_Law_bits) (maxL := 4) (ret := (some .int)) (hs := [(0, 9, 12, 13)]) (by decide +kernel) (Nat.le_of_ble_eq_true rfl) ?_
  intro p e s m args below meth c hx hb hml hr ht hown hlk hnm A Q hA hK hP hD hQ ls hl hz htab
  have hown : s.vm.findClass R_Law = some m.cls := hown
  have hS : va_S A s.heap s.heap [] := va_S.rf
  have hl : lv_has ls 4 [(0, .ref h), (1, .int x), (2, .ref qo)] := hl
  refine lv_aload_n hx hb d_Law_bits_0 rfl (lv_at hl 2 rfl) ?_
  refine lv_iconst (v := nI 0) hx hb d_Law_bits_1 (by decide) ?_
  refine lv_aload_n hx hb d_Law_bits_2 rfl (lv_at hl 0 rfl) ?_
  refine lv_iload_n hx hb d_Law_bits_3 rfl (lv_at hl 1 rfl) ?_
  refine ct_callVI (C := R_Net) (ci := 8) (As := [.int x]) (rest := [.int (nI 0), .ref qo]) ⟨hx, hb, hml, hown, ht⟩ (hM) (cb_V ht kc_Net_bits kl_Law_58 kn_Net ki_Net_bits ks_Net_bits hd_Net_bits ⟨Nat.le_of_ble_eq_true rfl, Nat.le_of_ble_eq_true rfl⟩) (wd_mem 1 rfl mN) rfl rfl (wd_ct (Bs := [[(qo, .inl (cJ, 1, .inr (.inl fo)))], ws]) 2 rfl [1] [0] (by decide) (wd_1 _)) hK hP hD hS hA rfl hl.1 rfl (Nat.le_of_ble_eq_true rfl) ⟨(Nat.le_of_eq (Nat.zero_add _)), (Nat.le_of_eq (Nat.zero_add _))⟩ d_Law_bits_4 (fun ru101 u101 H locs hu101 hP hD hS => ?_)
  have hpo := hu101
  refine W.widen (k := mc) (n := ms) (Nat.le_of_eq (Nat.zero_add _)) (Nat.le_of_eq (Nat.zero_add _)) ?_
  have hP := wd_nP (N := [u101]) (wd_1 _) 2 rfl [1, 0] (by decide) hP
  have hD := wd_nD (N := [u101]) (wd_1 _) 2 rfl [1, 0] (by decide) hD
  have hP : va_P D kls (List.flatten [[(qo, .inl (cJ, 1, .inr (.inl fo)))], u101]) H := hP
  have hD : va_D A (List.flatten [[(qo, .inl (cJ, 1, .inr (.inl fo)))], u101]) := hD
  refine W.eq (g2 := F0 m 7 ls [.int ru101, .int (nI 0), .ref qo]) rfl ?_
  refine lv_i2l (v := ru101.toInt64) hx hb d_Law_bits_7 rfl ?_
  refine ri_last hx hb hK hP hD hS 0 2 rfl rfl (j := 0) (by omega) (by omega) d_Law_bits_8 (fun H locs hP hD hS => ?_)
  have hP : va_P D kls (List.flatten [[(qo, .inl (cJ, 1, .inr (.inl (vp_updL fo 0 ru101.toInt64))))], u101]) H := hP
  have hD : va_D A (List.flatten [[(qo, .inl (cJ, 1, .inr (.inl (vp_updL fo 0 ru101.toInt64))))], u101]) := hD
  refine lv_goto hx hb d_Law_bits_9 (tgt := 15) (by decide) ?_
  refine lv_iconst (v := nI 0) hx hb d_Law_bits_15 (by decide) ?_
  exact ct_iret hQ hx hb hr hlk hP hD hS hK (Nat.le_refl _) (Nat.le_refl _) d_Law_bits_16 ⟨rfl, ru101, u101, hpo, rfl⟩
set_option maxHeartbeats 800000 in
set_option maxRecDepth 100000 in
theorem x_Law_bits (l : Launch) (s0 : State) (D : va_G) (cI cZ cJ cG : ClassId) {h qo : Nat} {fo : Nat → Int64} {ws : va_W} (hm : ∃ fs, (h, Sum.inr (8, fs)) ∈ ws) (x : Int32) (A0 : Array Value) (hnc : nc_0 A0 s0) {post : va_W → Prop} (hM : ct_X l s0 D kls (ty4 cI cZ cJ cG) y_Net_bits ws_Net_bits (rm_ 7 102 1 6) [.ref h, .int x] ws "java/lang/IllegalArgumentException" post 1 6) : ct_H l s0 D kls (ty4 cI cZ cJ cG) y_Law_bits wh_bits (rm_ 8 123 1 6) [.ref h, .int x, .ref qo] (List.flatten [[(qo, .inl (cJ, 1, .inr (.inl fo)))], ws]) (fun z u => z = nI 1 ∧ ∃ u2, post u2 ∧ u = List.flatten [[(qo, .inl (cJ, 1, .inr (.inl fo)))], u2]) 1 6 := by
  obtain ⟨fs8, mN⟩ := hm
  refine ct_enterH (cc := b_Law_bits) (maxL := 4) (ret := (some .int)) (hs := [(0, 9, 12, 13)]) (by decide +kernel) (Nat.le_of_ble_eq_true rfl) ?_
  intro p e s m args below meth c hx hb hml hr ht hown hlk hnm A Q hA hK hP hD hQ ls hl hz htab
  have hown : s.vm.findClass R_Law = some m.cls := hown
  have hS : va_S A s.heap s.heap [] := va_S.rf
  have hl : lv_has ls 4 [(0, .ref h), (1, .int x), (2, .ref qo)] := hl
  refine lv_aload_n hx hb d_Law_bits_0 rfl (lv_at hl 2 rfl) ?_
  refine lv_iconst (v := nI 0) hx hb d_Law_bits_1 (by decide) ?_
  refine lv_aload_n hx hb d_Law_bits_2 rfl (lv_at hl 0 rfl) ?_
  refine lv_iload_n hx hb d_Law_bits_3 rfl (lv_at hl 1 rfl) ?_
  refine ct_catchV (C := "java/lang/IllegalArgumentException") (Cr := R_Net) (ci := 8) (As := [.int x]) (rest := [.int (nI 0), .ref qo]) hz ⟨hx, hb, hml, hown, ht⟩ hM (cb_V ht kc_Net_bits kl_Law_58 kn_Net ki_Net_bits ks_Net_bits hd_Net_bits ⟨Nat.le_of_ble_eq_true rfl, Nat.le_of_ble_eq_true rfl⟩) (wd_mem 1 rfl mN) rfl rfl (wd_ct (Bs := [[(qo, .inl (cJ, 1, .inr (.inl fo)))], ws]) 2 rfl [1] [0] (by decide) (wd_1 _)) hK hP hD hS hA rfl hl.1 rfl (Nat.le_of_ble_eq_true rfl) ⟨Nat.le_refl _, Nat.le_refl _⟩ d_Law_bits_4 [] ⟨0, 9, 12, 13⟩ [] htab (by decide) (by decide) (ht _ kl_Law_13) (fun thrown hpl ho hcl z hz9 => by cases hz9) (fun a9 u9 H locs hpo hP hD hS => ?_)
  refine W.widen (k := 1) (n := 6) (Nat.le_refl _) (Nat.le_refl _) ?_
  have hP := wd_nP (N := [u9]) (wd_1 _) 2 rfl [1, 0] (by decide) hP
  have hD := wd_nD (N := [u9]) (wd_1 _) 2 rfl [1, 0] (by decide) hD
  have hP : va_P D kls (List.flatten [[(qo, .inl (cJ, 1, .inr (.inl fo)))], u9]) H := hP
  have hD : va_D A (List.flatten [[(qo, .inl (cJ, 1, .inr (.inl fo)))], u9]) := hD
  refine W.eq (g2 := F0 m 12 ls [.ref a9]) rfl ?_
  refine lv_astore_n hx hb d_Law_bits_12 rfl hl (by decide) rfl (fun ls hl => ?_)
  have hl : lv_has ls 4 [(3, .ref a9), (0, .ref h), (1, .int x), (2, .ref qo)] := hl
  refine lv_iconst (v := nI 1) hx hb d_Law_bits_13 (by decide) ?_
  exact ct_iret hQ hx hb hr hlk hP hD hS hK (Nat.le_refl _) (Nat.le_refl _) d_Law_bits_14 ⟨rfl, u9, hpo, rfl⟩
set_option maxHeartbeats 800000 in
set_option maxRecDepth 100000 in
theorem k_Law_delivered (l : Launch) (s0 : State) (D : va_G) (cI cZ cJ cG : ClassId) {h qo : Nat} {fo : Nat → Int64} {ws : va_W} (hm : ∃ fs, (h, Sum.inr (8, fs)) ∈ ws) (x : Int32) {post : Int32 → va_W → Prop} {mc ms : Nat} (hM : ct_I l D kls (ty4 cI cZ cJ cG) y_Net_delivered ws_Net_delivered (rm_ 3 66 mc ms) [.ref h, .int x] ws post mc ms) : ct_H l s0 D kls (ty4 cI cZ cJ cG) y_Law_delivered wh_delivered (rm_ 4 87 mc ms) [.ref h, .int x, .ref qo] (List.flatten [[(qo, .inl (cJ, 1, .inr (.inl fo)))], ws]) (fun z u => z = nI 0 ∧ ∃ r u2, post r u2 ∧ u = List.flatten [[(qo, .inl (cJ, 1, .inr (.inl (vp_updL fo 0 r.toInt64))))], u2]) mc ms := by
  obtain ⟨fs8, mN⟩ := hm
  refine ct_enterH (cc := b_Law_delivered) (maxL := 4) (ret := (some .int)) (hs := [(0, 9, 12, 13)]) (by decide +kernel) (Nat.le_of_ble_eq_true rfl) ?_
  intro p e s m args below meth c hx hb hml hr ht hown hlk hnm A Q hA hK hP hD hQ ls hl hz htab
  have hown : s.vm.findClass R_Law = some m.cls := hown
  have hS : va_S A s.heap s.heap [] := va_S.rf
  have hl : lv_has ls 4 [(0, .ref h), (1, .int x), (2, .ref qo)] := hl
  refine lv_aload_n hx hb d_Law_delivered_0 rfl (lv_at hl 2 rfl) ?_
  refine lv_iconst (v := nI 0) hx hb d_Law_delivered_1 (by decide) ?_
  refine lv_aload_n hx hb d_Law_delivered_2 rfl (lv_at hl 0 rfl) ?_
  refine lv_iload_n hx hb d_Law_delivered_3 rfl (lv_at hl 1 rfl) ?_
  refine ct_callVI (C := R_Net) (ci := 8) (As := [.int x]) (rest := [.int (nI 0), .ref qo]) ⟨hx, hb, hml, hown, ht⟩ (hM) (cb_V ht kc_Net_delivered kl_Law_70 kn_Net ki_Net_delivered ks_Net_delivered hd_Net_delivered ⟨Nat.le_of_ble_eq_true rfl, Nat.le_of_ble_eq_true rfl⟩) (wd_mem 1 rfl mN) rfl rfl (wd_ct (Bs := [[(qo, .inl (cJ, 1, .inr (.inl fo)))], ws]) 2 rfl [1] [0] (by decide) (wd_1 _)) hK hP hD hS hA rfl hl.1 rfl (Nat.le_of_ble_eq_true rfl) ⟨(Nat.le_of_eq (Nat.zero_add _)), (Nat.le_of_eq (Nat.zero_add _))⟩ d_Law_delivered_4 (fun ru101 u101 H locs hu101 hP hD hS => ?_)
  have hpo := hu101
  refine W.widen (k := mc) (n := ms) (Nat.le_of_eq (Nat.zero_add _)) (Nat.le_of_eq (Nat.zero_add _)) ?_
  have hP := wd_nP (N := [u101]) (wd_1 _) 2 rfl [1, 0] (by decide) hP
  have hD := wd_nD (N := [u101]) (wd_1 _) 2 rfl [1, 0] (by decide) hD
  have hP : va_P D kls (List.flatten [[(qo, .inl (cJ, 1, .inr (.inl fo)))], u101]) H := hP
  have hD : va_D A (List.flatten [[(qo, .inl (cJ, 1, .inr (.inl fo)))], u101]) := hD
  refine W.eq (g2 := F0 m 7 ls [.int ru101, .int (nI 0), .ref qo]) rfl ?_
  refine lv_i2l (v := ru101.toInt64) hx hb d_Law_delivered_7 rfl ?_
  refine ri_last hx hb hK hP hD hS 0 2 rfl rfl (j := 0) (by omega) (by omega) d_Law_delivered_8 (fun H locs hP hD hS => ?_)
  have hP : va_P D kls (List.flatten [[(qo, .inl (cJ, 1, .inr (.inl (vp_updL fo 0 ru101.toInt64))))], u101]) H := hP
  have hD : va_D A (List.flatten [[(qo, .inl (cJ, 1, .inr (.inl (vp_updL fo 0 ru101.toInt64))))], u101]) := hD
  refine lv_goto hx hb d_Law_delivered_9 (tgt := 15) (by decide) ?_
  refine lv_iconst (v := nI 0) hx hb d_Law_delivered_15 (by decide) ?_
  exact ct_iret hQ hx hb hr hlk hP hD hS hK (Nat.le_refl _) (Nat.le_refl _) d_Law_delivered_16 ⟨rfl, ru101, u101, hpo, rfl⟩
set_option maxHeartbeats 800000 in
set_option maxRecDepth 100000 in
theorem x_Law_delivered (l : Launch) (s0 : State) (D : va_G) (cI cZ cJ cG : ClassId) {h qo : Nat} {fo : Nat → Int64} {ws : va_W} (hm : ∃ fs, (h, Sum.inr (8, fs)) ∈ ws) (x : Int32) (A0 : Array Value) (hnc : nc_0 A0 s0) {post : va_W → Prop} (hM : ct_X l s0 D kls (ty4 cI cZ cJ cG) y_Net_delivered ws_Net_delivered (rm_ 7 102 1 6) [.ref h, .int x] ws "java/lang/IllegalArgumentException" post 1 6) : ct_H l s0 D kls (ty4 cI cZ cJ cG) y_Law_delivered wh_delivered (rm_ 8 123 1 6) [.ref h, .int x, .ref qo] (List.flatten [[(qo, .inl (cJ, 1, .inr (.inl fo)))], ws]) (fun z u => z = nI 1 ∧ ∃ u2, post u2 ∧ u = List.flatten [[(qo, .inl (cJ, 1, .inr (.inl fo)))], u2]) 1 6 := by
  obtain ⟨fs8, mN⟩ := hm
  refine ct_enterH (cc := b_Law_delivered) (maxL := 4) (ret := (some .int)) (hs := [(0, 9, 12, 13)]) (by decide +kernel) (Nat.le_of_ble_eq_true rfl) ?_
  intro p e s m args below meth c hx hb hml hr ht hown hlk hnm A Q hA hK hP hD hQ ls hl hz htab
  have hown : s.vm.findClass R_Law = some m.cls := hown
  have hS : va_S A s.heap s.heap [] := va_S.rf
  have hl : lv_has ls 4 [(0, .ref h), (1, .int x), (2, .ref qo)] := hl
  refine lv_aload_n hx hb d_Law_delivered_0 rfl (lv_at hl 2 rfl) ?_
  refine lv_iconst (v := nI 0) hx hb d_Law_delivered_1 (by decide) ?_
  refine lv_aload_n hx hb d_Law_delivered_2 rfl (lv_at hl 0 rfl) ?_
  refine lv_iload_n hx hb d_Law_delivered_3 rfl (lv_at hl 1 rfl) ?_
  refine ct_catchV (C := "java/lang/IllegalArgumentException") (Cr := R_Net) (ci := 8) (As := [.int x]) (rest := [.int (nI 0), .ref qo]) hz ⟨hx, hb, hml, hown, ht⟩ hM (cb_V ht kc_Net_delivered kl_Law_70 kn_Net ki_Net_delivered ks_Net_delivered hd_Net_delivered ⟨Nat.le_of_ble_eq_true rfl, Nat.le_of_ble_eq_true rfl⟩) (wd_mem 1 rfl mN) rfl rfl (wd_ct (Bs := [[(qo, .inl (cJ, 1, .inr (.inl fo)))], ws]) 2 rfl [1] [0] (by decide) (wd_1 _)) hK hP hD hS hA rfl hl.1 rfl (Nat.le_of_ble_eq_true rfl) ⟨Nat.le_refl _, Nat.le_refl _⟩ d_Law_delivered_4 [] ⟨0, 9, 12, 13⟩ [] htab (by decide) (by decide) (ht _ kl_Law_13) (fun thrown hpl ho hcl z hz9 => by cases hz9) (fun a9 u9 H locs hpo hP hD hS => ?_)
  refine W.widen (k := 1) (n := 6) (Nat.le_refl _) (Nat.le_refl _) ?_
  have hP := wd_nP (N := [u9]) (wd_1 _) 2 rfl [1, 0] (by decide) hP
  have hD := wd_nD (N := [u9]) (wd_1 _) 2 rfl [1, 0] (by decide) hD
  have hP : va_P D kls (List.flatten [[(qo, .inl (cJ, 1, .inr (.inl fo)))], u9]) H := hP
  have hD : va_D A (List.flatten [[(qo, .inl (cJ, 1, .inr (.inl fo)))], u9]) := hD
  refine W.eq (g2 := F0 m 12 ls [.ref a9]) rfl ?_
  refine lv_astore_n hx hb d_Law_delivered_12 rfl hl (by decide) rfl (fun ls hl => ?_)
  have hl : lv_has ls 4 [(3, .ref a9), (0, .ref h), (1, .int x), (2, .ref qo)] := hl
  refine lv_iconst (v := nI 1) hx hb d_Law_delivered_13 (by decide) ?_
  exact ct_iret hQ hx hb hr hlk hP hD hS hK (Nat.le_refl _) (Nat.le_refl _) d_Law_delivered_14 ⟨rfl, u9, hpo, rfl⟩
set_option maxHeartbeats 800000 in
set_option maxRecDepth 100000 in
theorem k_Law_crossings (l : Launch) (s0 : State) (D : va_G) (cI cZ cJ cG : ClassId) {h qo : Nat} {fo : Nat → Int64} {ws : va_W} (hm : ∃ fs, (h, Sum.inr (8, fs)) ∈ ws) (x : Int32) {post : Int32 → va_W → Prop} {mc ms : Nat} (hM : ct_I l D kls (ty4 cI cZ cJ cG) y_Net_crossings ws_Net_crossings (rm_ 3 66 mc ms) [.ref h, .int x] ws post mc ms) : ct_H l s0 D kls (ty4 cI cZ cJ cG) y_Law_crossings wh_crossings (rm_ 4 87 mc ms) [.ref h, .int x, .ref qo] (List.flatten [[(qo, .inl (cJ, 1, .inr (.inl fo)))], ws]) (fun z u => z = nI 0 ∧ ∃ r u2, post r u2 ∧ u = List.flatten [[(qo, .inl (cJ, 1, .inr (.inl (vp_updL fo 0 r.toInt64))))], u2]) mc ms := by
  obtain ⟨fs8, mN⟩ := hm
  refine ct_enterH (cc := b_Law_crossings) (maxL := 4) (ret := (some .int)) (hs := [(0, 9, 12, 13)]) (by decide +kernel) (Nat.le_of_ble_eq_true rfl) ?_
  intro p e s m args below meth c hx hb hml hr ht hown hlk hnm A Q hA hK hP hD hQ ls hl hz htab
  have hown : s.vm.findClass R_Law = some m.cls := hown
  have hS : va_S A s.heap s.heap [] := va_S.rf
  have hl : lv_has ls 4 [(0, .ref h), (1, .int x), (2, .ref qo)] := hl
  refine lv_aload_n hx hb d_Law_crossings_0 rfl (lv_at hl 2 rfl) ?_
  refine lv_iconst (v := nI 0) hx hb d_Law_crossings_1 (by decide) ?_
  refine lv_aload_n hx hb d_Law_crossings_2 rfl (lv_at hl 0 rfl) ?_
  refine lv_iload_n hx hb d_Law_crossings_3 rfl (lv_at hl 1 rfl) ?_
  refine ct_callVI (C := R_Net) (ci := 8) (As := [.int x]) (rest := [.int (nI 0), .ref qo]) ⟨hx, hb, hml, hown, ht⟩ (hM) (cb_V ht kc_Net_crossings kl_Law_73 kn_Net ki_Net_crossings ks_Net_crossings hd_Net_crossings ⟨Nat.le_of_ble_eq_true rfl, Nat.le_of_ble_eq_true rfl⟩) (wd_mem 1 rfl mN) rfl rfl (wd_ct (Bs := [[(qo, .inl (cJ, 1, .inr (.inl fo)))], ws]) 2 rfl [1] [0] (by decide) (wd_1 _)) hK hP hD hS hA rfl hl.1 rfl (Nat.le_of_ble_eq_true rfl) ⟨(Nat.le_of_eq (Nat.zero_add _)), (Nat.le_of_eq (Nat.zero_add _))⟩ d_Law_crossings_4 (fun ru101 u101 H locs hu101 hP hD hS => ?_)
  have hpo := hu101
  refine W.widen (k := mc) (n := ms) (Nat.le_of_eq (Nat.zero_add _)) (Nat.le_of_eq (Nat.zero_add _)) ?_
  have hP := wd_nP (N := [u101]) (wd_1 _) 2 rfl [1, 0] (by decide) hP
  have hD := wd_nD (N := [u101]) (wd_1 _) 2 rfl [1, 0] (by decide) hD
  have hP : va_P D kls (List.flatten [[(qo, .inl (cJ, 1, .inr (.inl fo)))], u101]) H := hP
  have hD : va_D A (List.flatten [[(qo, .inl (cJ, 1, .inr (.inl fo)))], u101]) := hD
  refine W.eq (g2 := F0 m 7 ls [.int ru101, .int (nI 0), .ref qo]) rfl ?_
  refine lv_i2l (v := ru101.toInt64) hx hb d_Law_crossings_7 rfl ?_
  refine ri_last hx hb hK hP hD hS 0 2 rfl rfl (j := 0) (by omega) (by omega) d_Law_crossings_8 (fun H locs hP hD hS => ?_)
  have hP : va_P D kls (List.flatten [[(qo, .inl (cJ, 1, .inr (.inl (vp_updL fo 0 ru101.toInt64))))], u101]) H := hP
  have hD : va_D A (List.flatten [[(qo, .inl (cJ, 1, .inr (.inl (vp_updL fo 0 ru101.toInt64))))], u101]) := hD
  refine lv_goto hx hb d_Law_crossings_9 (tgt := 15) (by decide) ?_
  refine lv_iconst (v := nI 0) hx hb d_Law_crossings_15 (by decide) ?_
  exact ct_iret hQ hx hb hr hlk hP hD hS hK (Nat.le_refl _) (Nat.le_refl _) d_Law_crossings_16 ⟨rfl, ru101, u101, hpo, rfl⟩
set_option maxHeartbeats 800000 in
set_option maxRecDepth 100000 in
theorem x_Law_crossings (l : Launch) (s0 : State) (D : va_G) (cI cZ cJ cG : ClassId) {h qo : Nat} {fo : Nat → Int64} {ws : va_W} (hm : ∃ fs, (h, Sum.inr (8, fs)) ∈ ws) (x : Int32) (A0 : Array Value) (hnc : nc_0 A0 s0) {post : va_W → Prop} (hM : ct_X l s0 D kls (ty4 cI cZ cJ cG) y_Net_crossings ws_Net_crossings (rm_ 7 102 1 6) [.ref h, .int x] ws "java/lang/IllegalArgumentException" post 1 6) : ct_H l s0 D kls (ty4 cI cZ cJ cG) y_Law_crossings wh_crossings (rm_ 8 123 1 6) [.ref h, .int x, .ref qo] (List.flatten [[(qo, .inl (cJ, 1, .inr (.inl fo)))], ws]) (fun z u => z = nI 1 ∧ ∃ u2, post u2 ∧ u = List.flatten [[(qo, .inl (cJ, 1, .inr (.inl fo)))], u2]) 1 6 := by
  obtain ⟨fs8, mN⟩ := hm
  refine ct_enterH (cc := b_Law_crossings) (maxL := 4) (ret := (some .int)) (hs := [(0, 9, 12, 13)]) (by decide +kernel) (Nat.le_of_ble_eq_true rfl) ?_
  intro p e s m args below meth c hx hb hml hr ht hown hlk hnm A Q hA hK hP hD hQ ls hl hz htab
  have hown : s.vm.findClass R_Law = some m.cls := hown
  have hS : va_S A s.heap s.heap [] := va_S.rf
  have hl : lv_has ls 4 [(0, .ref h), (1, .int x), (2, .ref qo)] := hl
  refine lv_aload_n hx hb d_Law_crossings_0 rfl (lv_at hl 2 rfl) ?_
  refine lv_iconst (v := nI 0) hx hb d_Law_crossings_1 (by decide) ?_
  refine lv_aload_n hx hb d_Law_crossings_2 rfl (lv_at hl 0 rfl) ?_
  refine lv_iload_n hx hb d_Law_crossings_3 rfl (lv_at hl 1 rfl) ?_
  refine ct_catchV (C := "java/lang/IllegalArgumentException") (Cr := R_Net) (ci := 8) (As := [.int x]) (rest := [.int (nI 0), .ref qo]) hz ⟨hx, hb, hml, hown, ht⟩ hM (cb_V ht kc_Net_crossings kl_Law_73 kn_Net ki_Net_crossings ks_Net_crossings hd_Net_crossings ⟨Nat.le_of_ble_eq_true rfl, Nat.le_of_ble_eq_true rfl⟩) (wd_mem 1 rfl mN) rfl rfl (wd_ct (Bs := [[(qo, .inl (cJ, 1, .inr (.inl fo)))], ws]) 2 rfl [1] [0] (by decide) (wd_1 _)) hK hP hD hS hA rfl hl.1 rfl (Nat.le_of_ble_eq_true rfl) ⟨Nat.le_refl _, Nat.le_refl _⟩ d_Law_crossings_4 [] ⟨0, 9, 12, 13⟩ [] htab (by decide) (by decide) (ht _ kl_Law_13) (fun thrown hpl ho hcl z hz9 => by cases hz9) (fun a9 u9 H locs hpo hP hD hS => ?_)
  refine W.widen (k := 1) (n := 6) (Nat.le_refl _) (Nat.le_refl _) ?_
  have hP := wd_nP (N := [u9]) (wd_1 _) 2 rfl [1, 0] (by decide) hP
  have hD := wd_nD (N := [u9]) (wd_1 _) 2 rfl [1, 0] (by decide) hD
  have hP : va_P D kls (List.flatten [[(qo, .inl (cJ, 1, .inr (.inl fo)))], u9]) H := hP
  have hD : va_D A (List.flatten [[(qo, .inl (cJ, 1, .inr (.inl fo)))], u9]) := hD
  refine W.eq (g2 := F0 m 12 ls [.ref a9]) rfl ?_
  refine lv_astore_n hx hb d_Law_crossings_12 rfl hl (by decide) rfl (fun ls hl => ?_)
  have hl : lv_has ls 4 [(3, .ref a9), (0, .ref h), (1, .int x), (2, .ref qo)] := hl
  refine lv_iconst (v := nI 1) hx hb d_Law_crossings_13 (by decide) ?_
  exact ct_iret hQ hx hb hr hlk hP hD hS hK (Nat.le_refl _) (Nat.le_refl _) d_Law_crossings_14 ⟨rfl, u9, hpo, rfl⟩
set_option maxHeartbeats 800000 in
set_option maxRecDepth 100000 in
theorem k_Law_ingress (l : Launch) (s0 : State) (D : va_G) (cI cZ cJ cG : ClassId) {h : Nat} {ws : va_W} (hm : ∃ fs, (h, Sum.inr (8, fs)) ∈ ws) (x y : Int32) {post : va_W → Prop} {mc ms : Nat} (hM : ct_V l D kls (ty4 cI cZ cJ cG) y_Net_ingress ws_Net_ingress (rm_ 2 42 mc ms) [.ref h, .int x, .int y] ws post mc ms) : ct_H l s0 D kls (ty4 cI cZ cJ cG) y_Law_ingress wh_ingress (rm_ 3 64 mc ms) [.ref h, .int x, .int y] (List.flatten [ws]) (fun z u => z = nI 0 ∧ ∃ u2, post u2 ∧ u = List.flatten [u2]) mc ms := by
  obtain ⟨fs8, mN⟩ := hm
  refine ct_enterH (cc := b_Law_ingress) (maxL := 4) (ret := (some .int)) (hs := [(0, 6, 9, 13)]) (by decide +kernel) (Nat.le_of_ble_eq_true rfl) ?_
  intro p e s m args below meth c hx hb hml hr ht hown hlk hnm A Q hA hK hP hD hQ ls hl hz htab
  have hown : s.vm.findClass R_Law = some m.cls := hown
  have hS : va_S A s.heap s.heap [] := va_S.rf
  have hl : lv_has ls 4 [(0, .ref h), (1, .int x), (2, .int y)] := hl
  refine lv_aload_n hx hb d_Law_ingress_0 rfl (lv_at hl 0 rfl) ?_
  refine lv_iload_n hx hb d_Law_ingress_1 rfl (lv_at hl 1 rfl) ?_
  refine lv_iload_n hx hb d_Law_ingress_2 rfl (lv_at hl 2 rfl) ?_
  refine ct_callVV (C := R_Net) (ci := 8) (As := [.int x, .int y]) (rest := []) ⟨hx, hb, hml, hown, ht⟩ (hM) (cb_V ht kc_Net_ingress kl_Law_44 kn_Net ki_Net_ingress ks_Net_ingress hd_Net_ingress ⟨Nat.le_of_ble_eq_true rfl, Nat.le_of_ble_eq_true rfl⟩) (wd_mem 0 rfl mN) rfl rfl (wd_ct (Bs := [ws]) 1 rfl [0] [] (by decide) (wd_1 _)) hK hP hD hS hA rfl hl.1 rfl (Nat.le_of_ble_eq_true rfl) ⟨(Nat.le_of_eq (Nat.zero_add _)), (Nat.le_of_eq (Nat.zero_add _))⟩ d_Law_ingress_3 (fun u101 H locs hu101 hP hD hS => ?_)
  have hpo := hu101
  refine W.widen (k := mc) (n := ms) (Nat.le_of_eq (Nat.zero_add _)) (Nat.le_of_eq (Nat.zero_add _)) ?_
  have hP := wd_nP (N := [u101]) (wd_1 _) 1 rfl [0] (by decide) hP
  have hD := wd_nD (N := [u101]) (wd_1 _) 1 rfl [0] (by decide) hD
  have hP : va_P D kls (List.flatten [u101]) H := hP
  have hD : va_D A (List.flatten [u101]) := hD
  refine W.eq (g2 := F0 m 6 ls []) rfl ?_
  refine lv_goto hx hb d_Law_ingress_6 (tgt := 12) (by decide) ?_
  refine lv_iconst (v := nI 0) hx hb d_Law_ingress_12 (by decide) ?_
  exact ct_iret hQ hx hb hr hlk hP hD hS hK (Nat.le_refl _) (Nat.le_refl _) d_Law_ingress_13 ⟨rfl, u101, hpo, rfl⟩
set_option maxHeartbeats 800000 in
set_option maxRecDepth 100000 in
theorem x_Law_ingress (l : Launch) (s0 : State) (D : va_G) (cI cZ cJ cG : ClassId) {h : Nat} {ws : va_W} (hm : ∃ fs, (h, Sum.inr (8, fs)) ∈ ws) (x y : Int32) (A0 : Array Value) (hnc : nc_0 A0 s0) {post : va_W → Prop} (hM : ct_X l s0 D kls (ty4 cI cZ cJ cG) y_Net_ingress ws_Net_ingress (rm_ 7 102 1 6) [.ref h, .int x, .int y] ws "java/lang/IllegalArgumentException" post 1 6) : ct_H l s0 D kls (ty4 cI cZ cJ cG) y_Law_ingress wh_ingress (rm_ 8 124 1 6) [.ref h, .int x, .int y] (List.flatten [ws]) (fun z u => z = nI 1 ∧ ∃ u2, post u2 ∧ u = List.flatten [u2]) 1 6 := by
  obtain ⟨fs8, mN⟩ := hm
  refine ct_enterH (cc := b_Law_ingress) (maxL := 4) (ret := (some .int)) (hs := [(0, 6, 9, 13)]) (by decide +kernel) (Nat.le_of_ble_eq_true rfl) ?_
  intro p e s m args below meth c hx hb hml hr ht hown hlk hnm A Q hA hK hP hD hQ ls hl hz htab
  have hown : s.vm.findClass R_Law = some m.cls := hown
  have hS : va_S A s.heap s.heap [] := va_S.rf
  have hl : lv_has ls 4 [(0, .ref h), (1, .int x), (2, .int y)] := hl
  refine lv_aload_n hx hb d_Law_ingress_0 rfl (lv_at hl 0 rfl) ?_
  refine lv_iload_n hx hb d_Law_ingress_1 rfl (lv_at hl 1 rfl) ?_
  refine lv_iload_n hx hb d_Law_ingress_2 rfl (lv_at hl 2 rfl) ?_
  refine ct_catchV (C := "java/lang/IllegalArgumentException") (Cr := R_Net) (ci := 8) (As := [.int x, .int y]) (rest := []) hz ⟨hx, hb, hml, hown, ht⟩ hM (cb_V ht kc_Net_ingress kl_Law_44 kn_Net ki_Net_ingress ks_Net_ingress hd_Net_ingress ⟨Nat.le_of_ble_eq_true rfl, Nat.le_of_ble_eq_true rfl⟩) (wd_mem 0 rfl mN) rfl rfl (wd_ct (Bs := [ws]) 1 rfl [0] [] (by decide) (wd_1 _)) hK hP hD hS hA rfl hl.1 rfl (Nat.le_of_ble_eq_true rfl) ⟨Nat.le_refl _, Nat.le_refl _⟩ d_Law_ingress_3 [] ⟨0, 6, 9, 13⟩ [] htab (by decide) (by decide) (ht _ kl_Law_13) (fun thrown hpl ho hcl z hz9 => by cases hz9) (fun a9 u9 H locs hpo hP hD hS => ?_)
  refine W.widen (k := 1) (n := 6) (Nat.le_refl _) (Nat.le_refl _) ?_
  have hP := wd_nP (N := [u9]) (wd_1 _) 1 rfl [0] (by decide) hP
  have hD := wd_nD (N := [u9]) (wd_1 _) 1 rfl [0] (by decide) hD
  have hP : va_P D kls (List.flatten [u9]) H := hP
  have hD : va_D A (List.flatten [u9]) := hD
  refine W.eq (g2 := F0 m 9 ls [.ref a9]) rfl ?_
  refine lv_astore_n hx hb d_Law_ingress_9 rfl hl (by decide) rfl (fun ls hl => ?_)
  have hl : lv_has ls 4 [(3, .ref a9), (0, .ref h), (1, .int x), (2, .int y)] := hl
  refine lv_iconst (v := nI 1) hx hb d_Law_ingress_10 (by decide) ?_
  exact ct_iret hQ hx hb hr hlk hP hD hS hK (Nat.le_refl _) (Nat.le_refl _) d_Law_ingress_11 ⟨rfl, u9, hpo, rfl⟩
set_option maxHeartbeats 800000 in
set_option maxRecDepth 100000 in
theorem k_Law_report (l : Launch) (s0 : State) (D : va_G) (cI cZ cJ cG : ClassId) {h : Nat} {ws : va_W} (hm : ∃ fs, (h, Sum.inr (8, fs)) ∈ ws) (x : Int32) {post : va_W → Prop} {mc ms : Nat} (hM : ct_V l D kls (ty4 cI cZ cJ cG) y_Net_report ws_Net_report (rm_ 5 118 mc ms) [.ref h, .int x] ws post mc ms) : ct_H l s0 D kls (ty4 cI cZ cJ cG) y_Law_report wh_report (rm_ 6 139 mc ms) [.ref h, .int x] (List.flatten [ws]) (fun z u => z = nI 0 ∧ ∃ u2, post u2 ∧ u = List.flatten [u2]) mc ms := by
  obtain ⟨fs8, mN⟩ := hm
  refine ct_enterH (cc := b_Law_report) (maxL := 3) (ret := (some .int)) (hs := [(0, 5, 8, 19), (0, 5, 11, 13)]) (by decide +kernel) (Nat.le_of_ble_eq_true rfl) ?_
  intro p e s m args below meth c hx hb hml hr ht hown hlk hnm A Q hA hK hP hD hQ ls hl hz htab
  have hown : s.vm.findClass R_Law = some m.cls := hown
  have hS : va_S A s.heap s.heap [] := va_S.rf
  have hl : lv_has ls 3 [(0, .ref h), (1, .int x)] := hl
  refine lv_aload_n hx hb d_Law_report_0 rfl (lv_at hl 0 rfl) ?_
  refine lv_iload_n hx hb d_Law_report_1 rfl (lv_at hl 1 rfl) ?_
  refine ct_callVV (C := R_Net) (ci := 8) (As := [.int x]) (rest := []) ⟨hx, hb, hml, hown, ht⟩ (hM) (cb_V ht kc_Net_report kl_Law_51 kn_Net ki_Net_report ks_Net_report hd_Net_report ⟨Nat.le_of_ble_eq_true rfl, Nat.le_of_ble_eq_true rfl⟩) (wd_mem 0 rfl mN) rfl rfl (wd_ct (Bs := [ws]) 1 rfl [0] [] (by decide) (wd_1 _)) hK hP hD hS hA rfl hl.1 rfl (Nat.le_of_ble_eq_true rfl) ⟨(Nat.le_of_eq (Nat.zero_add _)), (Nat.le_of_eq (Nat.zero_add _))⟩ d_Law_report_2 (fun u101 H locs hu101 hP hD hS => ?_)
  have hpo := hu101
  refine W.widen (k := mc) (n := ms) (Nat.le_of_eq (Nat.zero_add _)) (Nat.le_of_eq (Nat.zero_add _)) ?_
  have hP := wd_nP (N := [u101]) (wd_1 _) 1 rfl [0] (by decide) hP
  have hD := wd_nD (N := [u101]) (wd_1 _) 1 rfl [0] (by decide) hD
  have hP : va_P D kls (List.flatten [u101]) H := hP
  have hD : va_D A (List.flatten [u101]) := hD
  refine W.eq (g2 := F0 m 5 ls []) rfl ?_
  refine lv_goto hx hb d_Law_report_5 (tgt := 14) (by decide) ?_
  refine lv_iconst (v := nI 0) hx hb d_Law_report_14 (by decide) ?_
  exact ct_iret hQ hx hb hr hlk hP hD hS hK (Nat.le_refl _) (Nat.le_refl _) d_Law_report_15 ⟨rfl, u101, hpo, rfl⟩
set_option maxHeartbeats 800000 in
set_option maxRecDepth 100000 in
theorem x_Law_report_room (l : Launch) (s0 : State) (D : va_G) (cI cZ cJ cG : ClassId) {h : Nat} {ws : va_W} (hm : ∃ fs, (h, Sum.inr (8, fs)) ∈ ws) (x : Int32) (A0 : Array Value) (hnc : nc_0 A0 s0) {post : va_W → Prop} (hM : ct_X l s0 D kls (ty4 cI cZ cJ cG) y_Net_report ws_Net_report (rm_ 7 102 1 6) [.ref h, .int x] ws "java/lang/IllegalStateException" post 1 6) : ct_H l s0 D kls (ty4 cI cZ cJ cG) y_Law_report wh_report (rm_ 8 123 1 6) [.ref h, .int x] (List.flatten [ws]) (fun z u => z = nI 1 ∧ ∃ u2, post u2 ∧ u = List.flatten [u2]) 1 6 := by
  obtain ⟨fs8, mN⟩ := hm
  refine ct_enterH (cc := b_Law_report) (maxL := 3) (ret := (some .int)) (hs := [(0, 5, 8, 19), (0, 5, 11, 13)]) (by decide +kernel) (Nat.le_of_ble_eq_true rfl) ?_
  intro p e s m args below meth c hx hb hml hr ht hown hlk hnm A Q hA hK hP hD hQ ls hl hz htab
  have hown : s.vm.findClass R_Law = some m.cls := hown
  have hS : va_S A s.heap s.heap [] := va_S.rf
  have hl : lv_has ls 3 [(0, .ref h), (1, .int x)] := hl
  refine lv_aload_n hx hb d_Law_report_0 rfl (lv_at hl 0 rfl) ?_
  refine lv_iload_n hx hb d_Law_report_1 rfl (lv_at hl 1 rfl) ?_
  refine ct_catchV (C := "java/lang/IllegalStateException") (Cr := R_Net) (ci := 8) (As := [.int x]) (rest := []) hz ⟨hx, hb, hml, hown, ht⟩ hM (cb_V ht kc_Net_report kl_Law_51 kn_Net ki_Net_report ks_Net_report hd_Net_report ⟨Nat.le_of_ble_eq_true rfl, Nat.le_of_ble_eq_true rfl⟩) (wd_mem 0 rfl mN) rfl rfl (wd_ct (Bs := [ws]) 1 rfl [0] [] (by decide) (wd_1 _)) hK hP hD hS hA rfl hl.1 rfl (Nat.le_of_ble_eq_true rfl) ⟨Nat.le_refl _, Nat.le_refl _⟩ d_Law_report_2 [] ⟨0, 5, 8, 19⟩ [⟨0, 5, 11, 13⟩] htab (by decide) (by decide) (ht _ kl_Law_19) (fun thrown hpl ho hcl z hz9 => by cases hz9) (fun a9 u9 H locs hpo hP hD hS => ?_)
  refine W.widen (k := 1) (n := 6) (Nat.le_refl _) (Nat.le_refl _) ?_
  have hP := wd_nP (N := [u9]) (wd_1 _) 1 rfl [0] (by decide) hP
  have hD := wd_nD (N := [u9]) (wd_1 _) 1 rfl [0] (by decide) hD
  have hP : va_P D kls (List.flatten [u9]) H := hP
  have hD : va_D A (List.flatten [u9]) := hD
  refine W.eq (g2 := F0 m 8 ls [.ref a9]) rfl ?_
  refine lv_astore_n hx hb d_Law_report_8 rfl hl (by decide) rfl (fun ls hl => ?_)
  have hl : lv_has ls 3 [(2, .ref a9), (0, .ref h), (1, .int x)] := hl
  refine lv_iconst (v := nI 1) hx hb d_Law_report_9 (by decide) ?_
  exact ct_iret hQ hx hb hr hlk hP hD hS hK (Nat.le_refl _) (Nat.le_refl _) d_Law_report_10 ⟨rfl, u9, hpo, rfl⟩
set_option maxHeartbeats 800000 in
set_option maxRecDepth 100000 in
theorem x_Law_report (l : Launch) (s0 : State) (D : va_G) (cI cZ cJ cG : ClassId) {h : Nat} {ws : va_W} (hm : ∃ fs, (h, Sum.inr (8, fs)) ∈ ws) (x : Int32) (A0 : Array Value) (hnc : nc_0 A0 s0) {post : va_W → Prop} (hM : ct_X l s0 D kls (ty4 cI cZ cJ cG) y_Net_report ws_Net_report (rm_ 7 102 1 6) [.ref h, .int x] ws "java/lang/IllegalArgumentException" post 1 6) : ct_H l s0 D kls (ty4 cI cZ cJ cG) y_Law_report wh_report (rm_ 8 123 1 6) [.ref h, .int x] (List.flatten [ws]) (fun z u => z = nI 2 ∧ ∃ u2, post u2 ∧ u = List.flatten [u2]) 1 6 := by
  obtain ⟨fs8, mN⟩ := hm
  refine ct_enterH (cc := b_Law_report) (maxL := 3) (ret := (some .int)) (hs := [(0, 5, 8, 19), (0, 5, 11, 13)]) (by decide +kernel) (Nat.le_of_ble_eq_true rfl) ?_
  intro p e s m args below meth c hx hb hml hr ht hown hlk hnm A Q hA hK hP hD hQ ls hl hz htab
  have hown : s.vm.findClass R_Law = some m.cls := hown
  have hS : va_S A s.heap s.heap [] := va_S.rf
  have hl : lv_has ls 3 [(0, .ref h), (1, .int x)] := hl
  refine lv_aload_n hx hb d_Law_report_0 rfl (lv_at hl 0 rfl) ?_
  refine lv_iload_n hx hb d_Law_report_1 rfl (lv_at hl 1 rfl) ?_
  refine ct_catchV (C := "java/lang/IllegalArgumentException") (Cr := R_Net) (ci := 8) (As := [.int x]) (rest := []) hz ⟨hx, hb, hml, hown, ht⟩ hM (cb_V ht kc_Net_report kl_Law_51 kn_Net ki_Net_report ks_Net_report hd_Net_report ⟨Nat.le_of_ble_eq_true rfl, Nat.le_of_ble_eq_true rfl⟩) (wd_mem 0 rfl mN) rfl rfl (wd_ct (Bs := [ws]) 1 rfl [0] [] (by decide) (wd_1 _)) hK hP hD hS hA rfl hl.1 rfl (Nat.le_of_ble_eq_true rfl) ⟨Nat.le_refl _, Nat.le_refl _⟩ d_Law_report_2 [⟨0, 5, 8, 19⟩] ⟨0, 5, 11, 13⟩ [] htab (by decide) (by decide) (ht _ kl_Law_13) (fun thrown hpl ho hcl z hz9 => by rw [List.mem_singleton.mp hz9]; exact passed_of hpl hz.1.1 hnc ho (by decide) (ht _ kl_Law_19) hcl) (fun a9 u9 H locs hpo hP hD hS => ?_)
  refine W.widen (k := 1) (n := 6) (Nat.le_refl _) (Nat.le_refl _) ?_
  have hP := wd_nP (N := [u9]) (wd_1 _) 1 rfl [0] (by decide) hP
  have hD := wd_nD (N := [u9]) (wd_1 _) 1 rfl [0] (by decide) hD
  have hP : va_P D kls (List.flatten [u9]) H := hP
  have hD : va_D A (List.flatten [u9]) := hD
  refine W.eq (g2 := F0 m 11 ls [.ref a9]) rfl ?_
  refine lv_astore_n hx hb d_Law_report_11 rfl hl (by decide) rfl (fun ls hl => ?_)
  have hl : lv_has ls 3 [(2, .ref a9), (0, .ref h), (1, .int x)] := hl
  refine lv_iconst (v := nI 2) hx hb d_Law_report_12 (by decide) ?_
  exact ct_iret hQ hx hb hr hlk hP hD hS hK (Nat.le_refl _) (Nat.le_refl _) d_Law_report_13 ⟨rfl, u9, hpo, rfl⟩
set_option maxHeartbeats 800000 in
set_option maxRecDepth 100000 in
theorem k_Law_sendBits (l : Launch) (s0 : State) (D : va_G) (cI cZ cJ cG : ClassId) {h qo : Nat} {fo : Nat → Int64} {ws : va_W} (hm : ∃ fs, (h, Sum.inr (8, fs)) ∈ ws) (x y : Int32) {post : Int32 → va_W → Prop} {mc ms : Nat} (hM : ct_I l D kls (ty4 cI cZ cJ cG) y_Net_sendBits ws_Net_sendBits (rm_ 7 167 mc ms) [.ref h, .int x, .int y] ws post mc ms) : ct_H l s0 D kls (ty4 cI cZ cJ cG) y_Law_sendBits wh_sendBits (rm_ 8 189 mc ms) [.ref h, .int x, .int y, .ref qo] (List.flatten [[(qo, .inl (cJ, 1, .inr (.inl fo)))], ws]) (fun z u => z = nI 0 ∧ ∃ r u2, post r u2 ∧ u = List.flatten [[(qo, .inl (cJ, 1, .inr (.inl (vp_updL fo 0 r.toInt64))))], u2]) mc ms := by
  obtain ⟨fs8, mN⟩ := hm
  refine ct_enterH (cc := b_Law_sendBits) (maxL := 5) (ret := (some .int)) (hs := [(0, 10, 13, 19), (0, 10, 17, 13)]) (by decide +kernel) (Nat.le_of_ble_eq_true rfl) ?_
  intro p e s m args below meth c hx hb hml hr ht hown hlk hnm A Q hA hK hP hD hQ ls hl hz htab
  have hown : s.vm.findClass R_Law = some m.cls := hown
  have hS : va_S A s.heap s.heap [] := va_S.rf
  have hl : lv_has ls 5 [(0, .ref h), (1, .int x), (2, .int y), (3, .ref qo)] := hl
  refine lv_aload_n hx hb d_Law_sendBits_0 rfl (lv_at hl 3 rfl) ?_
  refine lv_iconst (v := nI 0) hx hb d_Law_sendBits_1 (by decide) ?_
  refine lv_aload_n hx hb d_Law_sendBits_2 rfl (lv_at hl 0 rfl) ?_
  refine lv_iload_n hx hb d_Law_sendBits_3 rfl (lv_at hl 1 rfl) ?_
  refine lv_iload_n hx hb d_Law_sendBits_4 rfl (lv_at hl 2 rfl) ?_
  refine ct_callVI (C := R_Net) (ci := 8) (As := [.int x, .int y]) (rest := [.int (nI 0), .ref qo]) ⟨hx, hb, hml, hown, ht⟩ (hM) (cb_V ht kc_Net_sendBits kl_Law_64 kn_Net ki_Net_sendBits ks_Net_sendBits hd_Net_sendBits ⟨Nat.le_of_ble_eq_true rfl, Nat.le_of_ble_eq_true rfl⟩) (wd_mem 1 rfl mN) rfl rfl (wd_ct (Bs := [[(qo, .inl (cJ, 1, .inr (.inl fo)))], ws]) 2 rfl [1] [0] (by decide) (wd_1 _)) hK hP hD hS hA rfl hl.1 rfl (Nat.le_of_ble_eq_true rfl) ⟨(Nat.le_of_eq (Nat.zero_add _)), (Nat.le_of_eq (Nat.zero_add _))⟩ d_Law_sendBits_5 (fun ru101 u101 H locs hu101 hP hD hS => ?_)
  have hpo := hu101
  refine W.widen (k := mc) (n := ms) (Nat.le_of_eq (Nat.zero_add _)) (Nat.le_of_eq (Nat.zero_add _)) ?_
  have hP := wd_nP (N := [u101]) (wd_1 _) 2 rfl [1, 0] (by decide) hP
  have hD := wd_nD (N := [u101]) (wd_1 _) 2 rfl [1, 0] (by decide) hD
  have hP : va_P D kls (List.flatten [[(qo, .inl (cJ, 1, .inr (.inl fo)))], u101]) H := hP
  have hD : va_D A (List.flatten [[(qo, .inl (cJ, 1, .inr (.inl fo)))], u101]) := hD
  refine W.eq (g2 := F0 m 8 ls [.int ru101, .int (nI 0), .ref qo]) rfl ?_
  refine lv_i2l (v := ru101.toInt64) hx hb d_Law_sendBits_8 rfl ?_
  refine ri_last hx hb hK hP hD hS 0 2 rfl rfl (j := 0) (by omega) (by omega) d_Law_sendBits_9 (fun H locs hP hD hS => ?_)
  have hP : va_P D kls (List.flatten [[(qo, .inl (cJ, 1, .inr (.inl (vp_updL fo 0 ru101.toInt64))))], u101]) H := hP
  have hD : va_D A (List.flatten [[(qo, .inl (cJ, 1, .inr (.inl (vp_updL fo 0 ru101.toInt64))))], u101]) := hD
  refine lv_goto hx hb d_Law_sendBits_10 (tgt := 21) (by decide) ?_
  refine lv_iconst (v := nI 0) hx hb d_Law_sendBits_21 (by decide) ?_
  exact ct_iret hQ hx hb hr hlk hP hD hS hK (Nat.le_refl _) (Nat.le_refl _) d_Law_sendBits_22 ⟨rfl, ru101, u101, hpo, rfl⟩
set_option maxHeartbeats 800000 in
set_option maxRecDepth 100000 in
theorem x_Law_sendBits (l : Launch) (s0 : State) (D : va_G) (cI cZ cJ cG : ClassId) {h qo : Nat} {fo : Nat → Int64} {ws : va_W} (hm : ∃ fs, (h, Sum.inr (8, fs)) ∈ ws) (x y : Int32) (A0 : Array Value) (hnc : nc_0 A0 s0) {post : va_W → Prop} (hM : ct_X l s0 D kls (ty4 cI cZ cJ cG) y_Net_sendBits ws_Net_sendBits (rm_ 7 102 1 6) [.ref h, .int x, .int y] ws "java/lang/IllegalArgumentException" post 1 6) : ct_H l s0 D kls (ty4 cI cZ cJ cG) y_Law_sendBits wh_sendBits (rm_ 8 124 1 6) [.ref h, .int x, .int y, .ref qo] (List.flatten [[(qo, .inl (cJ, 1, .inr (.inl fo)))], ws]) (fun z u => z = nI 2 ∧ ∃ u2, post u2 ∧ u = List.flatten [[(qo, .inl (cJ, 1, .inr (.inl fo)))], u2]) 1 6 := by
  obtain ⟨fs8, mN⟩ := hm
  refine ct_enterH (cc := b_Law_sendBits) (maxL := 5) (ret := (some .int)) (hs := [(0, 10, 13, 19), (0, 10, 17, 13)]) (by decide +kernel) (Nat.le_of_ble_eq_true rfl) ?_
  intro p e s m args below meth c hx hb hml hr ht hown hlk hnm A Q hA hK hP hD hQ ls hl hz htab
  have hown : s.vm.findClass R_Law = some m.cls := hown
  have hS : va_S A s.heap s.heap [] := va_S.rf
  have hl : lv_has ls 5 [(0, .ref h), (1, .int x), (2, .int y), (3, .ref qo)] := hl
  refine lv_aload_n hx hb d_Law_sendBits_0 rfl (lv_at hl 3 rfl) ?_
  refine lv_iconst (v := nI 0) hx hb d_Law_sendBits_1 (by decide) ?_
  refine lv_aload_n hx hb d_Law_sendBits_2 rfl (lv_at hl 0 rfl) ?_
  refine lv_iload_n hx hb d_Law_sendBits_3 rfl (lv_at hl 1 rfl) ?_
  refine lv_iload_n hx hb d_Law_sendBits_4 rfl (lv_at hl 2 rfl) ?_
  refine ct_catchV (C := "java/lang/IllegalArgumentException") (Cr := R_Net) (ci := 8) (As := [.int x, .int y]) (rest := [.int (nI 0), .ref qo]) hz ⟨hx, hb, hml, hown, ht⟩ hM (cb_V ht kc_Net_sendBits kl_Law_64 kn_Net ki_Net_sendBits ks_Net_sendBits hd_Net_sendBits ⟨Nat.le_of_ble_eq_true rfl, Nat.le_of_ble_eq_true rfl⟩) (wd_mem 1 rfl mN) rfl rfl (wd_ct (Bs := [[(qo, .inl (cJ, 1, .inr (.inl fo)))], ws]) 2 rfl [1] [0] (by decide) (wd_1 _)) hK hP hD hS hA rfl hl.1 rfl (Nat.le_of_ble_eq_true rfl) ⟨Nat.le_refl _, Nat.le_refl _⟩ d_Law_sendBits_5 [⟨0, 10, 13, 19⟩] ⟨0, 10, 17, 13⟩ [] htab (by decide) (by decide) (ht _ kl_Law_13) (fun thrown hpl ho hcl z hz9 => by rw [List.mem_singleton.mp hz9]; exact passed_of hpl hz.1.1 hnc ho (by decide) (ht _ kl_Law_19) hcl) (fun a9 u9 H locs hpo hP hD hS => ?_)
  refine W.widen (k := 1) (n := 6) (Nat.le_refl _) (Nat.le_refl _) ?_
  have hP := wd_nP (N := [u9]) (wd_1 _) 2 rfl [1, 0] (by decide) hP
  have hD := wd_nD (N := [u9]) (wd_1 _) 2 rfl [1, 0] (by decide) hD
  have hP : va_P D kls (List.flatten [[(qo, .inl (cJ, 1, .inr (.inl fo)))], u9]) H := hP
  have hD : va_D A (List.flatten [[(qo, .inl (cJ, 1, .inr (.inl fo)))], u9]) := hD
  refine W.eq (g2 := F0 m 17 ls [.ref a9]) rfl ?_
  refine lv_astore hx hb d_Law_sendBits_17 hl (by decide) rfl (fun ls hl => ?_)
  have hl : lv_has ls 5 [(4, .ref a9), (0, .ref h), (1, .int x), (2, .int y), (3, .ref qo)] := hl
  refine lv_iconst (v := nI 2) hx hb d_Law_sendBits_19 (by decide) ?_
  exact ct_iret hQ hx hb hr hlk hP hD hS hK (Nat.le_refl _) (Nat.le_refl _) d_Law_sendBits_20 ⟨rfl, u9, hpo, rfl⟩
set_option maxHeartbeats 800000 in
set_option maxRecDepth 100000 in
theorem x_Law_sendBits_room (l : Launch) (s0 : State) (D : va_G) (cI cZ cJ cG : ClassId) {h qo : Nat} {fo : Nat → Int64} {ws : va_W} (hm : ∃ fs, (h, Sum.inr (8, fs)) ∈ ws) (x y : Int32) (A0 : Array Value) (hnc : nc_0 A0 s0) {post : va_W → Prop} (hM : ct_X l s0 D kls (ty4 cI cZ cJ cG) y_Net_sendBits ws_Net_sendBits (rm_ 7 167 1 6) [.ref h, .int x, .int y] ws "java/lang/IllegalStateException" post 1 6) : ct_H l s0 D kls (ty4 cI cZ cJ cG) y_Law_sendBits wh_sendBits (rm_ 8 189 1 6) [.ref h, .int x, .int y, .ref qo] (List.flatten [[(qo, .inl (cJ, 1, .inr (.inl fo)))], ws]) (fun z u => z = nI 1 ∧ ∃ u2, post u2 ∧ u = List.flatten [[(qo, .inl (cJ, 1, .inr (.inl fo)))], u2]) 1 6 := by
  obtain ⟨fs8, mN⟩ := hm
  refine ct_enterH (cc := b_Law_sendBits) (maxL := 5) (ret := (some .int)) (hs := [(0, 10, 13, 19), (0, 10, 17, 13)]) (by decide +kernel) (Nat.le_of_ble_eq_true rfl) ?_
  intro p e s m args below meth c hx hb hml hr ht hown hlk hnm A Q hA hK hP hD hQ ls hl hz htab
  have hown : s.vm.findClass R_Law = some m.cls := hown
  have hS : va_S A s.heap s.heap [] := va_S.rf
  have hl : lv_has ls 5 [(0, .ref h), (1, .int x), (2, .int y), (3, .ref qo)] := hl
  refine lv_aload_n hx hb d_Law_sendBits_0 rfl (lv_at hl 3 rfl) ?_
  refine lv_iconst (v := nI 0) hx hb d_Law_sendBits_1 (by decide) ?_
  refine lv_aload_n hx hb d_Law_sendBits_2 rfl (lv_at hl 0 rfl) ?_
  refine lv_iload_n hx hb d_Law_sendBits_3 rfl (lv_at hl 1 rfl) ?_
  refine lv_iload_n hx hb d_Law_sendBits_4 rfl (lv_at hl 2 rfl) ?_
  refine ct_catchV (C := "java/lang/IllegalStateException") (Cr := R_Net) (ci := 8) (As := [.int x, .int y]) (rest := [.int (nI 0), .ref qo]) hz ⟨hx, hb, hml, hown, ht⟩ hM (cb_V ht kc_Net_sendBits kl_Law_64 kn_Net ki_Net_sendBits ks_Net_sendBits hd_Net_sendBits ⟨Nat.le_of_ble_eq_true rfl, Nat.le_of_ble_eq_true rfl⟩) (wd_mem 1 rfl mN) rfl rfl (wd_ct (Bs := [[(qo, .inl (cJ, 1, .inr (.inl fo)))], ws]) 2 rfl [1] [0] (by decide) (wd_1 _)) hK hP hD hS hA rfl hl.1 rfl (Nat.le_of_ble_eq_true rfl) ⟨Nat.le_refl _, Nat.le_refl _⟩ d_Law_sendBits_5 [] ⟨0, 10, 13, 19⟩ [⟨0, 10, 17, 13⟩] htab (by decide) (by decide) (ht _ kl_Law_19) (fun thrown hpl ho hcl z hz9 => by cases hz9) (fun a9 u9 H locs hpo hP hD hS => ?_)
  refine W.widen (k := 1) (n := 6) (Nat.le_refl _) (Nat.le_refl _) ?_
  have hP := wd_nP (N := [u9]) (wd_1 _) 2 rfl [1, 0] (by decide) hP
  have hD := wd_nD (N := [u9]) (wd_1 _) 2 rfl [1, 0] (by decide) hD
  have hP : va_P D kls (List.flatten [[(qo, .inl (cJ, 1, .inr (.inl fo)))], u9]) H := hP
  have hD : va_D A (List.flatten [[(qo, .inl (cJ, 1, .inr (.inl fo)))], u9]) := hD
  refine W.eq (g2 := F0 m 13 ls [.ref a9]) rfl ?_
  refine lv_astore hx hb d_Law_sendBits_13 hl (by decide) rfl (fun ls hl => ?_)
  have hl : lv_has ls 5 [(4, .ref a9), (0, .ref h), (1, .int x), (2, .int y), (3, .ref qo)] := hl
  refine lv_iconst (v := nI 1) hx hb d_Law_sendBits_15 (by decide) ?_
  exact ct_iret hQ hx hb hr hlk hP hD hS hK (Nat.le_refl _) (Nat.le_refl _) d_Law_sendBits_16 ⟨rfl, u9, hpo, rfl⟩
set_option maxHeartbeats 800000 in
set_option maxRecDepth 100000 in
theorem k_Law_send (l : Launch) (s0 : State) (D : va_G) (cI cZ cJ cG : ClassId) {h qo : Nat} {fo : Nat → Int64} {ws : va_W} (hm : ∃ fs, (h, Sum.inr (8, fs)) ∈ ws) (x y : Int32) {post : Int32 → va_W → Prop} {mc ms : Nat} (hM : ct_I l D kls (ty4 cI cZ cJ cG) y_Net_send ws_Net_send (rm_ 7 167 mc ms) [.ref h, .int x, .int y] ws post mc ms) : ct_H l s0 D kls (ty4 cI cZ cJ cG) y_Law_send wh_send (rm_ 8 190 mc ms) [.ref h, .int x, .int y, .ref qo] (List.flatten [[(qo, .inl (cJ, 1, .inr (.inl fo)))], ws]) (fun z u => z = nI 0 ∧ ∃ r u2, post r u2 ∧ u = List.flatten [[(qo, .inl (cJ, 1, .inr (.inl (vp_updL fo 0 r.toInt64))))], u2]) mc ms := by
  obtain ⟨fs8, mN⟩ := hm
  refine ct_enterH (cc := b_Law_send) (maxL := 5) (ret := (some .int)) (hs := [(0, 10, 13, 19), (0, 10, 17, 13)]) (by decide +kernel) (Nat.le_of_ble_eq_true rfl) ?_
  intro p e s m args below meth c hx hb hml hr ht hown hlk hnm A Q hA hK hP hD hQ ls hl hz htab
  have hown : s.vm.findClass R_Law = some m.cls := hown
  have hS : va_S A s.heap s.heap [] := va_S.rf
  have hl : lv_has ls 5 [(0, .ref h), (1, .int x), (2, .int y), (3, .ref qo)] := hl
  refine lv_aload_n hx hb d_Law_send_0 rfl (lv_at hl 3 rfl) ?_
  refine lv_iconst (v := nI 0) hx hb d_Law_send_1 (by decide) ?_
  refine lv_aload_n hx hb d_Law_send_2 rfl (lv_at hl 0 rfl) ?_
  refine lv_iload_n hx hb d_Law_send_3 rfl (lv_at hl 1 rfl) ?_
  refine lv_iload_n hx hb d_Law_send_4 rfl (lv_at hl 2 rfl) ?_
  refine ct_callVI (C := R_Net) (ci := 8) (As := [.int x, .int y]) (rest := [.int (nI 0), .ref qo]) ⟨hx, hb, hml, hown, ht⟩ (hM) (cb_V ht kc_Net_send kl_Law_61 kn_Net ki_Net_send ks_Net_send hd_Net_send ⟨Nat.le_of_ble_eq_true rfl, Nat.le_of_ble_eq_true rfl⟩) (wd_mem 1 rfl mN) rfl rfl (wd_ct (Bs := [[(qo, .inl (cJ, 1, .inr (.inl fo)))], ws]) 2 rfl [1] [0] (by decide) (wd_1 _)) hK hP hD hS hA rfl hl.1 rfl (Nat.le_of_ble_eq_true rfl) ⟨(Nat.le_of_eq (Nat.zero_add _)), (Nat.le_of_eq (Nat.zero_add _))⟩ d_Law_send_5 (fun ru101 u101 H locs hu101 hP hD hS => ?_)
  have hpo := hu101
  refine W.widen (k := mc) (n := ms) (Nat.le_of_eq (Nat.zero_add _)) (Nat.le_of_eq (Nat.zero_add _)) ?_
  have hP := wd_nP (N := [u101]) (wd_1 _) 2 rfl [1, 0] (by decide) hP
  have hD := wd_nD (N := [u101]) (wd_1 _) 2 rfl [1, 0] (by decide) hD
  have hP : va_P D kls (List.flatten [[(qo, .inl (cJ, 1, .inr (.inl fo)))], u101]) H := hP
  have hD : va_D A (List.flatten [[(qo, .inl (cJ, 1, .inr (.inl fo)))], u101]) := hD
  refine W.eq (g2 := F0 m 8 ls [.int ru101, .int (nI 0), .ref qo]) rfl ?_
  refine lv_i2l (v := ru101.toInt64) hx hb d_Law_send_8 rfl ?_
  refine ri_last hx hb hK hP hD hS 0 2 rfl rfl (j := 0) (by omega) (by omega) d_Law_send_9 (fun H locs hP hD hS => ?_)
  have hP : va_P D kls (List.flatten [[(qo, .inl (cJ, 1, .inr (.inl (vp_updL fo 0 ru101.toInt64))))], u101]) H := hP
  have hD : va_D A (List.flatten [[(qo, .inl (cJ, 1, .inr (.inl (vp_updL fo 0 ru101.toInt64))))], u101]) := hD
  refine lv_goto hx hb d_Law_send_10 (tgt := 21) (by decide) ?_
  refine lv_iconst (v := nI 0) hx hb d_Law_send_21 (by decide) ?_
  exact ct_iret hQ hx hb hr hlk hP hD hS hK (Nat.le_refl _) (Nat.le_refl _) d_Law_send_22 ⟨rfl, ru101, u101, hpo, rfl⟩
set_option maxHeartbeats 800000 in
set_option maxRecDepth 100000 in
theorem x_Law_send_room (l : Launch) (s0 : State) (D : va_G) (cI cZ cJ cG : ClassId) {h qo : Nat} {fo : Nat → Int64} {ws : va_W} (hm : ∃ fs, (h, Sum.inr (8, fs)) ∈ ws) (x y : Int32) (A0 : Array Value) (hnc : nc_0 A0 s0) {post : va_W → Prop} (hM : ct_X l s0 D kls (ty4 cI cZ cJ cG) y_Net_send ws_Net_send (rm_ 7 167 1 6) [.ref h, .int x, .int y] ws "java/lang/IllegalStateException" post 1 6) : ct_H l s0 D kls (ty4 cI cZ cJ cG) y_Law_send wh_send (rm_ 8 190 1 6) [.ref h, .int x, .int y, .ref qo] (List.flatten [[(qo, .inl (cJ, 1, .inr (.inl fo)))], ws]) (fun z u => z = nI 1 ∧ ∃ u2, post u2 ∧ u = List.flatten [[(qo, .inl (cJ, 1, .inr (.inl fo)))], u2]) 1 6 := by
  obtain ⟨fs8, mN⟩ := hm
  refine ct_enterH (cc := b_Law_send) (maxL := 5) (ret := (some .int)) (hs := [(0, 10, 13, 19), (0, 10, 17, 13)]) (by decide +kernel) (Nat.le_of_ble_eq_true rfl) ?_
  intro p e s m args below meth c hx hb hml hr ht hown hlk hnm A Q hA hK hP hD hQ ls hl hz htab
  have hown : s.vm.findClass R_Law = some m.cls := hown
  have hS : va_S A s.heap s.heap [] := va_S.rf
  have hl : lv_has ls 5 [(0, .ref h), (1, .int x), (2, .int y), (3, .ref qo)] := hl
  refine lv_aload_n hx hb d_Law_send_0 rfl (lv_at hl 3 rfl) ?_
  refine lv_iconst (v := nI 0) hx hb d_Law_send_1 (by decide) ?_
  refine lv_aload_n hx hb d_Law_send_2 rfl (lv_at hl 0 rfl) ?_
  refine lv_iload_n hx hb d_Law_send_3 rfl (lv_at hl 1 rfl) ?_
  refine lv_iload_n hx hb d_Law_send_4 rfl (lv_at hl 2 rfl) ?_
  refine ct_catchV (C := "java/lang/IllegalStateException") (Cr := R_Net) (ci := 8) (As := [.int x, .int y]) (rest := [.int (nI 0), .ref qo]) hz ⟨hx, hb, hml, hown, ht⟩ hM (cb_V ht kc_Net_send kl_Law_61 kn_Net ki_Net_send ks_Net_send hd_Net_send ⟨Nat.le_of_ble_eq_true rfl, Nat.le_of_ble_eq_true rfl⟩) (wd_mem 1 rfl mN) rfl rfl (wd_ct (Bs := [[(qo, .inl (cJ, 1, .inr (.inl fo)))], ws]) 2 rfl [1] [0] (by decide) (wd_1 _)) hK hP hD hS hA rfl hl.1 rfl (Nat.le_of_ble_eq_true rfl) ⟨Nat.le_refl _, Nat.le_refl _⟩ d_Law_send_5 [] ⟨0, 10, 13, 19⟩ [⟨0, 10, 17, 13⟩] htab (by decide) (by decide) (ht _ kl_Law_19) (fun thrown hpl ho hcl z hz9 => by cases hz9) (fun a9 u9 H locs hpo hP hD hS => ?_)
  refine W.widen (k := 1) (n := 6) (Nat.le_refl _) (Nat.le_refl _) ?_
  have hP := wd_nP (N := [u9]) (wd_1 _) 2 rfl [1, 0] (by decide) hP
  have hD := wd_nD (N := [u9]) (wd_1 _) 2 rfl [1, 0] (by decide) hD
  have hP : va_P D kls (List.flatten [[(qo, .inl (cJ, 1, .inr (.inl fo)))], u9]) H := hP
  have hD : va_D A (List.flatten [[(qo, .inl (cJ, 1, .inr (.inl fo)))], u9]) := hD
  refine W.eq (g2 := F0 m 13 ls [.ref a9]) rfl ?_
  refine lv_astore hx hb d_Law_send_13 hl (by decide) rfl (fun ls hl => ?_)
  have hl : lv_has ls 5 [(4, .ref a9), (0, .ref h), (1, .int x), (2, .int y), (3, .ref qo)] := hl
  refine lv_iconst (v := nI 1) hx hb d_Law_send_15 (by decide) ?_
  exact ct_iret hQ hx hb hr hlk hP hD hS hK (Nat.le_refl _) (Nat.le_refl _) d_Law_send_16 ⟨rfl, u9, hpo, rfl⟩
set_option maxHeartbeats 800000 in
set_option maxRecDepth 100000 in
theorem x_Law_send (l : Launch) (s0 : State) (D : va_G) (cI cZ cJ cG : ClassId) {h qo : Nat} {fo : Nat → Int64} {ws : va_W} (hm : ∃ fs, (h, Sum.inr (8, fs)) ∈ ws) (x y : Int32) (A0 : Array Value) (hnc : nc_0 A0 s0) {post : va_W → Prop} (hM : ct_X l s0 D kls (ty4 cI cZ cJ cG) y_Net_send ws_Net_send (rm_ 7 102 1 6) [.ref h, .int x, .int y] ws "java/lang/IllegalArgumentException" post 1 6) : ct_H l s0 D kls (ty4 cI cZ cJ cG) y_Law_send wh_send (rm_ 8 125 1 6) [.ref h, .int x, .int y, .ref qo] (List.flatten [[(qo, .inl (cJ, 1, .inr (.inl fo)))], ws]) (fun z u => z = nI 2 ∧ ∃ u2, post u2 ∧ u = List.flatten [[(qo, .inl (cJ, 1, .inr (.inl fo)))], u2]) 1 6 := by
  obtain ⟨fs8, mN⟩ := hm
  refine ct_enterH (cc := b_Law_send) (maxL := 5) (ret := (some .int)) (hs := [(0, 10, 13, 19), (0, 10, 17, 13)]) (by decide +kernel) (Nat.le_of_ble_eq_true rfl) ?_
  intro p e s m args below meth c hx hb hml hr ht hown hlk hnm A Q hA hK hP hD hQ ls hl hz htab
  have hown : s.vm.findClass R_Law = some m.cls := hown
  have hS : va_S A s.heap s.heap [] := va_S.rf
  have hl : lv_has ls 5 [(0, .ref h), (1, .int x), (2, .int y), (3, .ref qo)] := hl
  refine lv_aload_n hx hb d_Law_send_0 rfl (lv_at hl 3 rfl) ?_
  refine lv_iconst (v := nI 0) hx hb d_Law_send_1 (by decide) ?_
  refine lv_aload_n hx hb d_Law_send_2 rfl (lv_at hl 0 rfl) ?_
  refine lv_iload_n hx hb d_Law_send_3 rfl (lv_at hl 1 rfl) ?_
  refine lv_iload_n hx hb d_Law_send_4 rfl (lv_at hl 2 rfl) ?_
  refine ct_catchV (C := "java/lang/IllegalArgumentException") (Cr := R_Net) (ci := 8) (As := [.int x, .int y]) (rest := [.int (nI 0), .ref qo]) hz ⟨hx, hb, hml, hown, ht⟩ hM (cb_V ht kc_Net_send kl_Law_61 kn_Net ki_Net_send ks_Net_send hd_Net_send ⟨Nat.le_of_ble_eq_true rfl, Nat.le_of_ble_eq_true rfl⟩) (wd_mem 1 rfl mN) rfl rfl (wd_ct (Bs := [[(qo, .inl (cJ, 1, .inr (.inl fo)))], ws]) 2 rfl [1] [0] (by decide) (wd_1 _)) hK hP hD hS hA rfl hl.1 rfl (Nat.le_of_ble_eq_true rfl) ⟨Nat.le_refl _, Nat.le_refl _⟩ d_Law_send_5 [⟨0, 10, 13, 19⟩] ⟨0, 10, 17, 13⟩ [] htab (by decide) (by decide) (ht _ kl_Law_13) (fun thrown hpl ho hcl z hz9 => by rw [List.mem_singleton.mp hz9]; exact passed_of hpl hz.1.1 hnc ho (by decide) (ht _ kl_Law_19) hcl) (fun a9 u9 H locs hpo hP hD hS => ?_)
  refine W.widen (k := 1) (n := 6) (Nat.le_refl _) (Nat.le_refl _) ?_
  have hP := wd_nP (N := [u9]) (wd_1 _) 2 rfl [1, 0] (by decide) hP
  have hD := wd_nD (N := [u9]) (wd_1 _) 2 rfl [1, 0] (by decide) hD
  have hP : va_P D kls (List.flatten [[(qo, .inl (cJ, 1, .inr (.inl fo)))], u9]) H := hP
  have hD : va_D A (List.flatten [[(qo, .inl (cJ, 1, .inr (.inl fo)))], u9]) := hD
  refine W.eq (g2 := F0 m 17 ls [.ref a9]) rfl ?_
  refine lv_astore hx hb d_Law_send_17 hl (by decide) rfl (fun ls hl => ?_)
  have hl : lv_has ls 5 [(4, .ref a9), (0, .ref h), (1, .int x), (2, .int y), (3, .ref qo)] := hl
  refine lv_iconst (v := nI 2) hx hb d_Law_send_19 (by decide) ?_
  exact ct_iret hQ hx hb hr hlk hP hD hS hK (Nat.le_refl _) (Nat.le_refl _) d_Law_send_20 ⟨rfl, u9, hpo, rfl⟩
set_option maxHeartbeats 800000 in
set_option maxRecDepth 100000 in
theorem k_Law_notice (l : Launch) (s0 : State) (D : va_G) (cI cZ cJ cG : ClassId) {h : Nat} {ws : va_W} (hm : ∃ fs, (h, Sum.inr (8, fs)) ∈ ws) (x y : Int32) {post : va_W → Prop} {mc ms : Nat} (hM : ct_V l D kls (ty4 cI cZ cJ cG) y_Net_notice ws_Net_notice (rm_ 6 143 mc ms) [.ref h, .int x, .int y] ws post mc ms) : ct_H l s0 D kls (ty4 cI cZ cJ cG) y_Law_notice wh_notice (rm_ 7 165 mc ms) [.ref h, .int x, .int y] (List.flatten [ws]) (fun z u => z = nI 0 ∧ ∃ u2, post u2 ∧ u = List.flatten [u2]) mc ms := by
  obtain ⟨fs8, mN⟩ := hm
  refine ct_enterH (cc := b_Law_notice) (maxL := 4) (ret := (some .int)) (hs := [(0, 6, 9, 19), (0, 6, 12, 13)]) (by decide +kernel) (Nat.le_of_ble_eq_true rfl) ?_
  intro p e s m args below meth c hx hb hml hr ht hown hlk hnm A Q hA hK hP hD hQ ls hl hz htab
  have hown : s.vm.findClass R_Law = some m.cls := hown
  have hS : va_S A s.heap s.heap [] := va_S.rf
  have hl : lv_has ls 4 [(0, .ref h), (1, .int x), (2, .int y)] := hl
  refine lv_aload_n hx hb d_Law_notice_0 rfl (lv_at hl 0 rfl) ?_
  refine lv_iload_n hx hb d_Law_notice_1 rfl (lv_at hl 1 rfl) ?_
  refine lv_iload_n hx hb d_Law_notice_2 rfl (lv_at hl 2 rfl) ?_
  refine ct_callVV (C := R_Net) (ci := 8) (As := [.int x, .int y]) (rest := []) ⟨hx, hb, hml, hown, ht⟩ (hM) (cb_V ht kc_Net_notice kl_Law_24 kn_Net ki_Net_notice ks_Net_notice hd_Net_notice ⟨Nat.le_of_ble_eq_true rfl, Nat.le_of_ble_eq_true rfl⟩) (wd_mem 0 rfl mN) rfl rfl (wd_ct (Bs := [ws]) 1 rfl [0] [] (by decide) (wd_1 _)) hK hP hD hS hA rfl hl.1 rfl (Nat.le_of_ble_eq_true rfl) ⟨(Nat.le_of_eq (Nat.zero_add _)), (Nat.le_of_eq (Nat.zero_add _))⟩ d_Law_notice_3 (fun u101 H locs hu101 hP hD hS => ?_)
  have hpo := hu101
  refine W.widen (k := mc) (n := ms) (Nat.le_of_eq (Nat.zero_add _)) (Nat.le_of_eq (Nat.zero_add _)) ?_
  have hP := wd_nP (N := [u101]) (wd_1 _) 1 rfl [0] (by decide) hP
  have hD := wd_nD (N := [u101]) (wd_1 _) 1 rfl [0] (by decide) hD
  have hP : va_P D kls (List.flatten [u101]) H := hP
  have hD : va_D A (List.flatten [u101]) := hD
  refine W.eq (g2 := F0 m 6 ls []) rfl ?_
  refine lv_goto hx hb d_Law_notice_6 (tgt := 15) (by decide) ?_
  refine lv_iconst (v := nI 0) hx hb d_Law_notice_15 (by decide) ?_
  exact ct_iret hQ hx hb hr hlk hP hD hS hK (Nat.le_refl _) (Nat.le_refl _) d_Law_notice_16 ⟨rfl, u101, hpo, rfl⟩
set_option maxHeartbeats 800000 in
set_option maxRecDepth 100000 in
theorem x_Law_notice_room (l : Launch) (s0 : State) (D : va_G) (cI cZ cJ cG : ClassId) {h : Nat} {ws : va_W} (hm : ∃ fs, (h, Sum.inr (8, fs)) ∈ ws) (x y : Int32) (A0 : Array Value) (hnc : nc_0 A0 s0) {post : va_W → Prop} (hM : ct_X l s0 D kls (ty4 cI cZ cJ cG) y_Net_notice ws_Net_notice (rm_ 7 102 1 6) [.ref h, .int x, .int y] ws "java/lang/IllegalStateException" post 1 6) : ct_H l s0 D kls (ty4 cI cZ cJ cG) y_Law_notice wh_notice (rm_ 8 124 1 6) [.ref h, .int x, .int y] (List.flatten [ws]) (fun z u => z = nI 1 ∧ ∃ u2, post u2 ∧ u = List.flatten [u2]) 1 6 := by
  obtain ⟨fs8, mN⟩ := hm
  refine ct_enterH (cc := b_Law_notice) (maxL := 4) (ret := (some .int)) (hs := [(0, 6, 9, 19), (0, 6, 12, 13)]) (by decide +kernel) (Nat.le_of_ble_eq_true rfl) ?_
  intro p e s m args below meth c hx hb hml hr ht hown hlk hnm A Q hA hK hP hD hQ ls hl hz htab
  have hown : s.vm.findClass R_Law = some m.cls := hown
  have hS : va_S A s.heap s.heap [] := va_S.rf
  have hl : lv_has ls 4 [(0, .ref h), (1, .int x), (2, .int y)] := hl
  refine lv_aload_n hx hb d_Law_notice_0 rfl (lv_at hl 0 rfl) ?_
  refine lv_iload_n hx hb d_Law_notice_1 rfl (lv_at hl 1 rfl) ?_
  refine lv_iload_n hx hb d_Law_notice_2 rfl (lv_at hl 2 rfl) ?_
  refine ct_catchV (C := "java/lang/IllegalStateException") (Cr := R_Net) (ci := 8) (As := [.int x, .int y]) (rest := []) hz ⟨hx, hb, hml, hown, ht⟩ hM (cb_V ht kc_Net_notice kl_Law_24 kn_Net ki_Net_notice ks_Net_notice hd_Net_notice ⟨Nat.le_of_ble_eq_true rfl, Nat.le_of_ble_eq_true rfl⟩) (wd_mem 0 rfl mN) rfl rfl (wd_ct (Bs := [ws]) 1 rfl [0] [] (by decide) (wd_1 _)) hK hP hD hS hA rfl hl.1 rfl (Nat.le_of_ble_eq_true rfl) ⟨Nat.le_refl _, Nat.le_refl _⟩ d_Law_notice_3 [] ⟨0, 6, 9, 19⟩ [⟨0, 6, 12, 13⟩] htab (by decide) (by decide) (ht _ kl_Law_19) (fun thrown hpl ho hcl z hz9 => by cases hz9) (fun a9 u9 H locs hpo hP hD hS => ?_)
  refine W.widen (k := 1) (n := 6) (Nat.le_refl _) (Nat.le_refl _) ?_
  have hP := wd_nP (N := [u9]) (wd_1 _) 1 rfl [0] (by decide) hP
  have hD := wd_nD (N := [u9]) (wd_1 _) 1 rfl [0] (by decide) hD
  have hP : va_P D kls (List.flatten [u9]) H := hP
  have hD : va_D A (List.flatten [u9]) := hD
  refine W.eq (g2 := F0 m 9 ls [.ref a9]) rfl ?_
  refine lv_astore_n hx hb d_Law_notice_9 rfl hl (by decide) rfl (fun ls hl => ?_)
  have hl : lv_has ls 4 [(3, .ref a9), (0, .ref h), (1, .int x), (2, .int y)] := hl
  refine lv_iconst (v := nI 1) hx hb d_Law_notice_10 (by decide) ?_
  exact ct_iret hQ hx hb hr hlk hP hD hS hK (Nat.le_refl _) (Nat.le_refl _) d_Law_notice_11 ⟨rfl, u9, hpo, rfl⟩
set_option maxHeartbeats 800000 in
set_option maxRecDepth 100000 in
theorem x_Law_notice (l : Launch) (s0 : State) (D : va_G) (cI cZ cJ cG : ClassId) {h : Nat} {ws : va_W} (hm : ∃ fs, (h, Sum.inr (8, fs)) ∈ ws) (x y : Int32) (A0 : Array Value) (hnc : nc_0 A0 s0) {post : va_W → Prop} (hM : ct_X l s0 D kls (ty4 cI cZ cJ cG) y_Net_notice ws_Net_notice (rm_ 7 102 1 6) [.ref h, .int x, .int y] ws "java/lang/IllegalArgumentException" post 1 6) : ct_H l s0 D kls (ty4 cI cZ cJ cG) y_Law_notice wh_notice (rm_ 8 124 1 6) [.ref h, .int x, .int y] (List.flatten [ws]) (fun z u => z = nI 2 ∧ ∃ u2, post u2 ∧ u = List.flatten [u2]) 1 6 := by
  obtain ⟨fs8, mN⟩ := hm
  refine ct_enterH (cc := b_Law_notice) (maxL := 4) (ret := (some .int)) (hs := [(0, 6, 9, 19), (0, 6, 12, 13)]) (by decide +kernel) (Nat.le_of_ble_eq_true rfl) ?_
  intro p e s m args below meth c hx hb hml hr ht hown hlk hnm A Q hA hK hP hD hQ ls hl hz htab
  have hown : s.vm.findClass R_Law = some m.cls := hown
  have hS : va_S A s.heap s.heap [] := va_S.rf
  have hl : lv_has ls 4 [(0, .ref h), (1, .int x), (2, .int y)] := hl
  refine lv_aload_n hx hb d_Law_notice_0 rfl (lv_at hl 0 rfl) ?_
  refine lv_iload_n hx hb d_Law_notice_1 rfl (lv_at hl 1 rfl) ?_
  refine lv_iload_n hx hb d_Law_notice_2 rfl (lv_at hl 2 rfl) ?_
  refine ct_catchV (C := "java/lang/IllegalArgumentException") (Cr := R_Net) (ci := 8) (As := [.int x, .int y]) (rest := []) hz ⟨hx, hb, hml, hown, ht⟩ hM (cb_V ht kc_Net_notice kl_Law_24 kn_Net ki_Net_notice ks_Net_notice hd_Net_notice ⟨Nat.le_of_ble_eq_true rfl, Nat.le_of_ble_eq_true rfl⟩) (wd_mem 0 rfl mN) rfl rfl (wd_ct (Bs := [ws]) 1 rfl [0] [] (by decide) (wd_1 _)) hK hP hD hS hA rfl hl.1 rfl (Nat.le_of_ble_eq_true rfl) ⟨Nat.le_refl _, Nat.le_refl _⟩ d_Law_notice_3 [⟨0, 6, 9, 19⟩] ⟨0, 6, 12, 13⟩ [] htab (by decide) (by decide) (ht _ kl_Law_13) (fun thrown hpl ho hcl z hz9 => by rw [List.mem_singleton.mp hz9]; exact passed_of hpl hz.1.1 hnc ho (by decide) (ht _ kl_Law_19) hcl) (fun a9 u9 H locs hpo hP hD hS => ?_)
  refine W.widen (k := 1) (n := 6) (Nat.le_refl _) (Nat.le_refl _) ?_
  have hP := wd_nP (N := [u9]) (wd_1 _) 1 rfl [0] (by decide) hP
  have hD := wd_nD (N := [u9]) (wd_1 _) 1 rfl [0] (by decide) hD
  have hP : va_P D kls (List.flatten [u9]) H := hP
  have hD : va_D A (List.flatten [u9]) := hD
  refine W.eq (g2 := F0 m 12 ls [.ref a9]) rfl ?_
  refine lv_astore_n hx hb d_Law_notice_12 rfl hl (by decide) rfl (fun ls hl => ?_)
  have hl : lv_has ls 4 [(3, .ref a9), (0, .ref h), (1, .int x), (2, .int y)] := hl
  refine lv_iconst (v := nI 2) hx hb d_Law_notice_13 (by decide) ?_
  exact ct_iret hQ hx hb hr hlk hP hD hS hK (Nat.le_refl _) (Nat.le_refl _) d_Law_notice_14 ⟨rfl, u9, hpo, rfl⟩
set_option maxHeartbeats 800000 in
set_option maxRecDepth 100000 in
theorem k_Law_mask (l : Launch) (s0 : State) (D : va_G) (cI cZ cJ cG : ClassId) {h qo : Nat} {fo : Nat → Int64} {ws : va_W} (hm : ∃ fs, (h, Sum.inr (8, fs)) ∈ ws) (x y : Int32) {post : Int32 → va_W → Prop} {mc ms : Nat} (hM : ct_I l D kls (ty4 cI cZ cJ cG) y_Net_mask ws_Net_mask (rm_ 5 115 mc ms) [.ref h, .int x, .int y] ws post mc ms) : ct_H l s0 D kls (ty4 cI cZ cJ cG) y_Law_mask wh_mask (rm_ 6 137 mc ms) [.ref h, .int x, .int y, .ref qo] (List.flatten [[(qo, .inl (cJ, 1, .inr (.inl fo)))], ws]) (fun z u => z = nI 0 ∧ ∃ r u2, post r u2 ∧ u = List.flatten [[(qo, .inl (cJ, 1, .inr (.inl (vp_updL fo 0 r.toInt64))))], u2]) mc ms := by
  obtain ⟨fs8, mN⟩ := hm
  refine ct_enterH (cc := b_Law_mask) (maxL := 5) (ret := (some .int)) (hs := [(0, 10, 13, 13)]) (by decide +kernel) (Nat.le_of_ble_eq_true rfl) ?_
  intro p e s m args below meth c hx hb hml hr ht hown hlk hnm A Q hA hK hP hD hQ ls hl hz htab
  have hown : s.vm.findClass R_Law = some m.cls := hown
  have hS : va_S A s.heap s.heap [] := va_S.rf
  have hl : lv_has ls 5 [(0, .ref h), (1, .int x), (2, .int y), (3, .ref qo)] := hl
  refine lv_aload_n hx hb d_Law_mask_0 rfl (lv_at hl 3 rfl) ?_
  refine lv_iconst (v := nI 0) hx hb d_Law_mask_1 (by decide) ?_
  refine lv_aload_n hx hb d_Law_mask_2 rfl (lv_at hl 0 rfl) ?_
  refine lv_iload_n hx hb d_Law_mask_3 rfl (lv_at hl 1 rfl) ?_
  refine lv_iload_n hx hb d_Law_mask_4 rfl (lv_at hl 2 rfl) ?_
  refine ct_callVI (C := R_Net) (ci := 8) (As := [.int x, .int y]) (rest := [.int (nI 0), .ref qo]) ⟨hx, hb, hml, hown, ht⟩ (hM) (cb_V ht kc_Net_mask kl_Law_31 kn_Net ki_Net_mask ks_Net_mask hd_Net_mask ⟨Nat.le_of_ble_eq_true rfl, Nat.le_of_ble_eq_true rfl⟩) (wd_mem 1 rfl mN) rfl rfl (wd_ct (Bs := [[(qo, .inl (cJ, 1, .inr (.inl fo)))], ws]) 2 rfl [1] [0] (by decide) (wd_1 _)) hK hP hD hS hA rfl hl.1 rfl (Nat.le_of_ble_eq_true rfl) ⟨(Nat.le_of_eq (Nat.zero_add _)), (Nat.le_of_eq (Nat.zero_add _))⟩ d_Law_mask_5 (fun ru101 u101 H locs hu101 hP hD hS => ?_)
  have hpo := hu101
  refine W.widen (k := mc) (n := ms) (Nat.le_of_eq (Nat.zero_add _)) (Nat.le_of_eq (Nat.zero_add _)) ?_
  have hP := wd_nP (N := [u101]) (wd_1 _) 2 rfl [1, 0] (by decide) hP
  have hD := wd_nD (N := [u101]) (wd_1 _) 2 rfl [1, 0] (by decide) hD
  have hP : va_P D kls (List.flatten [[(qo, .inl (cJ, 1, .inr (.inl fo)))], u101]) H := hP
  have hD : va_D A (List.flatten [[(qo, .inl (cJ, 1, .inr (.inl fo)))], u101]) := hD
  refine W.eq (g2 := F0 m 8 ls [.int ru101, .int (nI 0), .ref qo]) rfl ?_
  refine lv_i2l (v := ru101.toInt64) hx hb d_Law_mask_8 rfl ?_
  refine ri_last hx hb hK hP hD hS 0 2 rfl rfl (j := 0) (by omega) (by omega) d_Law_mask_9 (fun H locs hP hD hS => ?_)
  have hP : va_P D kls (List.flatten [[(qo, .inl (cJ, 1, .inr (.inl (vp_updL fo 0 ru101.toInt64))))], u101]) H := hP
  have hD : va_D A (List.flatten [[(qo, .inl (cJ, 1, .inr (.inl (vp_updL fo 0 ru101.toInt64))))], u101]) := hD
  refine lv_goto hx hb d_Law_mask_10 (tgt := 17) (by decide) ?_
  refine lv_iconst (v := nI 0) hx hb d_Law_mask_17 (by decide) ?_
  exact ct_iret hQ hx hb hr hlk hP hD hS hK (Nat.le_refl _) (Nat.le_refl _) d_Law_mask_18 ⟨rfl, ru101, u101, hpo, rfl⟩
set_option maxHeartbeats 800000 in
set_option maxRecDepth 100000 in
theorem x_Law_carry (l : Launch) (s0 : State) (D : va_G) (cI cZ cJ cG : ClassId) {h qo : Nat} {fo : Nat → Int64} {ws : va_W} (hm : ∃ fs, (h, Sum.inr (8, fs)) ∈ ws) (x : Int32) (A0 : Array Value) (hnc : nc_0 A0 s0) {post : va_W → Prop} (hM : ct_X l s0 D kls (ty4 cI cZ cJ cG) y_Net_carry ws_Net_carry (rm_ 7 102 1 6) [.ref h, .int x] ws "java/lang/IllegalArgumentException" post 1 6) : ct_H l s0 D kls (ty4 cI cZ cJ cG) y_Law_carry wh_carry (rm_ 8 124 1 6) [.ref h, .int x, .ref qo] (List.flatten [[(qo, .inl (cJ, 1, .inr (.inl fo)))], ws]) (fun z u => z = nI 1 ∧ ∃ u2, post u2 ∧ u = List.flatten [[(qo, .inl (cJ, 1, .inr (.inl fo)))], u2]) 1 6 := by
  obtain ⟨fs8, mN⟩ := hm
  refine ct_enterH (cc := b_Law_carry) (maxL := 4) (ret := (some .int)) (hs := [(0, 9, 12, 13)]) (by decide +kernel) (Nat.le_of_ble_eq_true rfl) ?_
  intro p e s m args below meth c hx hb hml hr ht hown hlk hnm A Q hA hK hP hD hQ ls hl hz htab
  have hown : s.vm.findClass R_Law = some m.cls := hown
  have hS : va_S A s.heap s.heap [] := va_S.rf
  have hl : lv_has ls 4 [(0, .ref h), (1, .int x), (2, .ref qo)] := hl
  refine lv_aload_n hx hb d_Law_carry_0 rfl (lv_at hl 2 rfl) ?_
  refine lv_iconst (v := nI 0) hx hb d_Law_carry_1 (by decide) ?_
  refine lv_aload_n hx hb d_Law_carry_2 rfl (lv_at hl 0 rfl) ?_
  refine lv_iload_n hx hb d_Law_carry_3 rfl (lv_at hl 1 rfl) ?_
  refine ct_catchV (C := "java/lang/IllegalArgumentException") (Cr := R_Net) (ci := 8) (As := [.int x]) (rest := [.int (nI 0), .ref qo]) hz ⟨hx, hb, hml, hown, ht⟩ hM (cb_V ht kc_Net_carry kl_Law_55 kn_Net ki_Net_carry ks_Net_carry hd_Net_carry ⟨Nat.le_of_ble_eq_true rfl, Nat.le_of_ble_eq_true rfl⟩) (wd_mem 1 rfl mN) rfl rfl (wd_ct (Bs := [[(qo, .inl (cJ, 1, .inr (.inl fo)))], ws]) 2 rfl [1] [0] (by decide) (wd_1 _)) hK hP hD hS hA rfl hl.1 rfl (Nat.le_of_ble_eq_true rfl) ⟨Nat.le_refl _, Nat.le_refl _⟩ d_Law_carry_4 [] ⟨0, 9, 12, 13⟩ [] htab (by decide) (by decide) (ht _ kl_Law_13) (fun thrown hpl ho hcl z hz9 => by cases hz9) (fun a9 u9 H locs hpo hP hD hS => ?_)
  refine W.widen (k := 1) (n := 6) (Nat.le_refl _) (Nat.le_refl _) ?_
  have hP := wd_nP (N := [u9]) (wd_1 _) 2 rfl [1, 0] (by decide) hP
  have hD := wd_nD (N := [u9]) (wd_1 _) 2 rfl [1, 0] (by decide) hD
  have hP : va_P D kls (List.flatten [[(qo, .inl (cJ, 1, .inr (.inl fo)))], u9]) H := hP
  have hD : va_D A (List.flatten [[(qo, .inl (cJ, 1, .inr (.inl fo)))], u9]) := hD
  refine W.eq (g2 := F0 m 12 ls [.ref a9]) rfl ?_
  refine lv_astore_n hx hb d_Law_carry_12 rfl hl (by decide) rfl (fun ls hl => ?_)
  have hl : lv_has ls 4 [(3, .ref a9), (0, .ref h), (1, .int x), (2, .ref qo)] := hl
  refine lv_iconst (v := nI 1) hx hb d_Law_carry_13 (by decide) ?_
  exact ct_iret hQ hx hb hr hlk hP hD hS hK (Nat.le_refl _) (Nat.le_refl _) d_Law_carry_14 ⟨rfl, u9, hpo, rfl⟩
set_option maxHeartbeats 800000 in
set_option maxRecDepth 100000 in
theorem k_Law_carry_lose (l : Launch) (s0 : State) (D : va_G) (cI cZ cJ cG : ClassId) {h qo : Nat} {fo : Nat → Int64} {ws : va_W} (hm : ∃ fs, (h, Sum.inr (8, fs)) ∈ ws) (x : Int32) {post : Int32 → va_W → Prop} {mc ms : Nat} (hM : ct_I l D kls (ty4 cI cZ cJ cG) y_Net_carry ws_Net_carry (rm_ 3 65 mc ms) [.ref h, .int x] ws post mc ms) : ct_H l s0 D kls (ty4 cI cZ cJ cG) y_Law_carry wh_carry (rm_ 4 87 mc ms) [.ref h, .int x, .ref qo] (List.flatten [[(qo, .inl (cJ, 1, .inr (.inl fo)))], ws]) (fun z u => z = nI 0 ∧ ∃ r u2, post r u2 ∧ u = List.flatten [[(qo, .inl (cJ, 1, .inr (.inl (vp_updL fo 0 r.toInt64))))], u2]) mc ms := by
  obtain ⟨fs8, mN⟩ := hm
  refine ct_enterH (cc := b_Law_carry) (maxL := 4) (ret := (some .int)) (hs := [(0, 9, 12, 13)]) (by decide +kernel) (Nat.le_of_ble_eq_true rfl) ?_
  intro p e s m args below meth c hx hb hml hr ht hown hlk hnm A Q hA hK hP hD hQ ls hl hz htab
  have hown : s.vm.findClass R_Law = some m.cls := hown
  have hS : va_S A s.heap s.heap [] := va_S.rf
  have hl : lv_has ls 4 [(0, .ref h), (1, .int x), (2, .ref qo)] := hl
  refine lv_aload_n hx hb d_Law_carry_0 rfl (lv_at hl 2 rfl) ?_
  refine lv_iconst (v := nI 0) hx hb d_Law_carry_1 (by decide) ?_
  refine lv_aload_n hx hb d_Law_carry_2 rfl (lv_at hl 0 rfl) ?_
  refine lv_iload_n hx hb d_Law_carry_3 rfl (lv_at hl 1 rfl) ?_
  refine ct_callVI (C := R_Net) (ci := 8) (As := [.int x]) (rest := [.int (nI 0), .ref qo]) ⟨hx, hb, hml, hown, ht⟩ (hM) (cb_V ht kc_Net_carry kl_Law_55 kn_Net ki_Net_carry ks_Net_carry hd_Net_carry ⟨Nat.le_of_ble_eq_true rfl, Nat.le_of_ble_eq_true rfl⟩) (wd_mem 1 rfl mN) rfl rfl (wd_ct (Bs := [[(qo, .inl (cJ, 1, .inr (.inl fo)))], ws]) 2 rfl [1] [0] (by decide) (wd_1 _)) hK hP hD hS hA rfl hl.1 rfl (Nat.le_of_ble_eq_true rfl) ⟨(Nat.le_of_eq (Nat.zero_add _)), (Nat.le_of_eq (Nat.zero_add _))⟩ d_Law_carry_4 (fun ru101 u101 H locs hu101 hP hD hS => ?_)
  have hpo := hu101
  refine W.widen (k := mc) (n := ms) (Nat.le_of_eq (Nat.zero_add _)) (Nat.le_of_eq (Nat.zero_add _)) ?_
  have hP := wd_nP (N := [u101]) (wd_1 _) 2 rfl [1, 0] (by decide) hP
  have hD := wd_nD (N := [u101]) (wd_1 _) 2 rfl [1, 0] (by decide) hD
  have hP : va_P D kls (List.flatten [[(qo, .inl (cJ, 1, .inr (.inl fo)))], u101]) H := hP
  have hD : va_D A (List.flatten [[(qo, .inl (cJ, 1, .inr (.inl fo)))], u101]) := hD
  refine W.eq (g2 := F0 m 7 ls [.int ru101, .int (nI 0), .ref qo]) rfl ?_
  refine lv_i2l (v := ru101.toInt64) hx hb d_Law_carry_7 rfl ?_
  refine ri_last hx hb hK hP hD hS 0 2 rfl rfl (j := 0) (by omega) (by omega) d_Law_carry_8 (fun H locs hP hD hS => ?_)
  have hP : va_P D kls (List.flatten [[(qo, .inl (cJ, 1, .inr (.inl (vp_updL fo 0 ru101.toInt64))))], u101]) H := hP
  have hD : va_D A (List.flatten [[(qo, .inl (cJ, 1, .inr (.inl (vp_updL fo 0 ru101.toInt64))))], u101]) := hD
  refine lv_goto hx hb d_Law_carry_9 (tgt := 15) (by decide) ?_
  refine lv_iconst (v := nI 0) hx hb d_Law_carry_15 (by decide) ?_
  exact ct_iret hQ hx hb hr hlk hP hD hS hK (Nat.le_refl _) (Nat.le_refl _) d_Law_carry_16 ⟨rfl, ru101, u101, hpo, rfl⟩
set_option maxHeartbeats 800000 in
set_option maxRecDepth 100000 in
theorem x_Law_step_room (l : Launch) (s0 : State) (D : va_G) (cI cZ cJ cG : ClassId) {h qo : Nat} {fo : Nat → Int64} {ws : va_W} (hm : ∃ fs, (h, Sum.inr (8, fs)) ∈ ws) (x : Int32) (A0 : Array Value) (hnc : nc_0 A0 s0) {post : va_W → Prop} (hM : ct_X l s0 D kls (ty4 cI cZ cJ cG) y_Net_step ws_Net_step (rm_ 7 102 1 6) [.ref h, .int x] ws "java/lang/IllegalStateException" post 1 6) : ct_H l s0 D kls (ty4 cI cZ cJ cG) y_Law_step wh_step (rm_ 8 124 1 6) [.ref h, .int x, .ref qo] (List.flatten [[(qo, .inl (cJ, 1, .inr (.inl fo)))], ws]) (fun z u => z = nI 1 ∧ ∃ u2, post u2 ∧ u = List.flatten [[(qo, .inl (cJ, 1, .inr (.inl fo)))], u2]) 1 6 := by
  obtain ⟨fs8, mN⟩ := hm
  refine ct_enterH (cc := b_Law_step) (maxL := 4) (ret := (some .int)) (hs := [(0, 9, 12, 19), (0, 9, 15, 13)]) (by decide +kernel) (Nat.le_of_ble_eq_true rfl) ?_
  intro p e s m args below meth c hx hb hml hr ht hown hlk hnm A Q hA hK hP hD hQ ls hl hz htab
  have hown : s.vm.findClass R_Law = some m.cls := hown
  have hS : va_S A s.heap s.heap [] := va_S.rf
  have hl : lv_has ls 4 [(0, .ref h), (1, .int x), (2, .ref qo)] := hl
  refine lv_aload_n hx hb d_Law_step_0 rfl (lv_at hl 2 rfl) ?_
  refine lv_iconst (v := nI 0) hx hb d_Law_step_1 (by decide) ?_
  refine lv_aload_n hx hb d_Law_step_2 rfl (lv_at hl 0 rfl) ?_
  refine lv_iload_n hx hb d_Law_step_3 rfl (lv_at hl 1 rfl) ?_
  refine ct_catchV (C := "java/lang/IllegalStateException") (Cr := R_Net) (ci := 8) (As := [.int x]) (rest := [.int (nI 0), .ref qo]) hz ⟨hx, hb, hml, hown, ht⟩ hM (cb_V ht kc_Net_step kl_Law_27 kn_Net ki_Net_step ks_Net_step hd_Net_step ⟨Nat.le_of_ble_eq_true rfl, Nat.le_of_ble_eq_true rfl⟩) (wd_mem 1 rfl mN) rfl rfl (wd_ct (Bs := [[(qo, .inl (cJ, 1, .inr (.inl fo)))], ws]) 2 rfl [1] [0] (by decide) (wd_1 _)) hK hP hD hS hA rfl hl.1 rfl (Nat.le_of_ble_eq_true rfl) ⟨Nat.le_refl _, Nat.le_refl _⟩ d_Law_step_4 [] ⟨0, 9, 12, 19⟩ [⟨0, 9, 15, 13⟩] htab (by decide) (by decide) (ht _ kl_Law_19) (fun thrown hpl ho hcl z hz9 => by cases hz9) (fun a9 u9 H locs hpo hP hD hS => ?_)
  refine W.widen (k := 1) (n := 6) (Nat.le_refl _) (Nat.le_refl _) ?_
  have hP := wd_nP (N := [u9]) (wd_1 _) 2 rfl [1, 0] (by decide) hP
  have hD := wd_nD (N := [u9]) (wd_1 _) 2 rfl [1, 0] (by decide) hD
  have hP : va_P D kls (List.flatten [[(qo, .inl (cJ, 1, .inr (.inl fo)))], u9]) H := hP
  have hD : va_D A (List.flatten [[(qo, .inl (cJ, 1, .inr (.inl fo)))], u9]) := hD
  refine W.eq (g2 := F0 m 12 ls [.ref a9]) rfl ?_
  refine lv_astore_n hx hb d_Law_step_12 rfl hl (by decide) rfl (fun ls hl => ?_)
  have hl : lv_has ls 4 [(3, .ref a9), (0, .ref h), (1, .int x), (2, .ref qo)] := hl
  refine lv_iconst (v := nI 1) hx hb d_Law_step_13 (by decide) ?_
  exact ct_iret hQ hx hb hr hlk hP hD hS hK (Nat.le_refl _) (Nat.le_refl _) d_Law_step_14 ⟨rfl, u9, hpo, rfl⟩
set_option maxHeartbeats 800000 in
set_option maxRecDepth 100000 in
theorem x_Law_step (l : Launch) (s0 : State) (D : va_G) (cI cZ cJ cG : ClassId) {h qo : Nat} {fo : Nat → Int64} {ws : va_W} (hm : ∃ fs, (h, Sum.inr (8, fs)) ∈ ws) (x : Int32) (A0 : Array Value) (hnc : nc_0 A0 s0) {post : va_W → Prop} (hM : ct_X l s0 D kls (ty4 cI cZ cJ cG) y_Net_step ws_Net_step (rm_ 7 102 1 6) [.ref h, .int x] ws "java/lang/IllegalArgumentException" post 1 6) : ct_H l s0 D kls (ty4 cI cZ cJ cG) y_Law_step wh_step (rm_ 8 124 1 6) [.ref h, .int x, .ref qo] (List.flatten [[(qo, .inl (cJ, 1, .inr (.inl fo)))], ws]) (fun z u => z = nI 2 ∧ ∃ u2, post u2 ∧ u = List.flatten [[(qo, .inl (cJ, 1, .inr (.inl fo)))], u2]) 1 6 := by
  obtain ⟨fs8, mN⟩ := hm
  refine ct_enterH (cc := b_Law_step) (maxL := 4) (ret := (some .int)) (hs := [(0, 9, 12, 19), (0, 9, 15, 13)]) (by decide +kernel) (Nat.le_of_ble_eq_true rfl) ?_
  intro p e s m args below meth c hx hb hml hr ht hown hlk hnm A Q hA hK hP hD hQ ls hl hz htab
  have hown : s.vm.findClass R_Law = some m.cls := hown
  have hS : va_S A s.heap s.heap [] := va_S.rf
  have hl : lv_has ls 4 [(0, .ref h), (1, .int x), (2, .ref qo)] := hl
  refine lv_aload_n hx hb d_Law_step_0 rfl (lv_at hl 2 rfl) ?_
  refine lv_iconst (v := nI 0) hx hb d_Law_step_1 (by decide) ?_
  refine lv_aload_n hx hb d_Law_step_2 rfl (lv_at hl 0 rfl) ?_
  refine lv_iload_n hx hb d_Law_step_3 rfl (lv_at hl 1 rfl) ?_
  refine ct_catchV (C := "java/lang/IllegalArgumentException") (Cr := R_Net) (ci := 8) (As := [.int x]) (rest := [.int (nI 0), .ref qo]) hz ⟨hx, hb, hml, hown, ht⟩ hM (cb_V ht kc_Net_step kl_Law_27 kn_Net ki_Net_step ks_Net_step hd_Net_step ⟨Nat.le_of_ble_eq_true rfl, Nat.le_of_ble_eq_true rfl⟩) (wd_mem 1 rfl mN) rfl rfl (wd_ct (Bs := [[(qo, .inl (cJ, 1, .inr (.inl fo)))], ws]) 2 rfl [1] [0] (by decide) (wd_1 _)) hK hP hD hS hA rfl hl.1 rfl (Nat.le_of_ble_eq_true rfl) ⟨Nat.le_refl _, Nat.le_refl _⟩ d_Law_step_4 [⟨0, 9, 12, 19⟩] ⟨0, 9, 15, 13⟩ [] htab (by decide) (by decide) (ht _ kl_Law_13) (fun thrown hpl ho hcl z hz9 => by rw [List.mem_singleton.mp hz9]; exact passed_of hpl hz.1.1 hnc ho (by decide) (ht _ kl_Law_19) hcl) (fun a9 u9 H locs hpo hP hD hS => ?_)
  refine W.widen (k := 1) (n := 6) (Nat.le_refl _) (Nat.le_refl _) ?_
  have hP := wd_nP (N := [u9]) (wd_1 _) 2 rfl [1, 0] (by decide) hP
  have hD := wd_nD (N := [u9]) (wd_1 _) 2 rfl [1, 0] (by decide) hD
  have hP : va_P D kls (List.flatten [[(qo, .inl (cJ, 1, .inr (.inl fo)))], u9]) H := hP
  have hD : va_D A (List.flatten [[(qo, .inl (cJ, 1, .inr (.inl fo)))], u9]) := hD
  refine W.eq (g2 := F0 m 15 ls [.ref a9]) rfl ?_
  refine lv_astore_n hx hb d_Law_step_15 rfl hl (by decide) rfl (fun ls hl => ?_)
  have hl : lv_has ls 4 [(3, .ref a9), (0, .ref h), (1, .int x), (2, .ref qo)] := hl
  refine lv_iconst (v := nI 2) hx hb d_Law_step_16 (by decide) ?_
  exact ct_iret hQ hx hb hr hlk hP hD hS hK (Nat.le_refl _) (Nat.le_refl _) d_Law_step_17 ⟨rfl, u9, hpo, rfl⟩
set_option maxHeartbeats 800000 in
set_option maxRecDepth 100000 in
theorem k_Law_carry (l : Launch) (s0 : State) (D : va_G) (cI cZ cJ cG : ClassId) {h qo : Nat} {fo : Nat → Int64} {ws : va_W} (hm : ∃ fs, (h, Sum.inr (8, fs)) ∈ ws) (x : Int32) {post : Int32 → va_W → Prop} {mc ms : Nat} (hM : ct_I l D kls (ty4 cI cZ cJ cG) y_Net_carry ws_Net_carry (rm_ 3 68 mc ms) [.ref h, .int x] ws post mc ms) : ct_H l s0 D kls (ty4 cI cZ cJ cG) y_Law_carry wh_carry (rm_ 4 90 mc ms) [.ref h, .int x, .ref qo] (List.flatten [[(qo, .inl (cJ, 1, .inr (.inl fo)))], ws]) (fun z u => z = nI 0 ∧ ∃ r u2, post r u2 ∧ u = List.flatten [[(qo, .inl (cJ, 1, .inr (.inl (vp_updL fo 0 r.toInt64))))], u2]) mc ms := by
  obtain ⟨fs8, mN⟩ := hm
  refine ct_enterH (cc := b_Law_carry) (maxL := 4) (ret := (some .int)) (hs := [(0, 9, 12, 13)]) (by decide +kernel) (Nat.le_of_ble_eq_true rfl) ?_
  intro p e s m args below meth c hx hb hml hr ht hown hlk hnm A Q hA hK hP hD hQ ls hl hz htab
  have hown : s.vm.findClass R_Law = some m.cls := hown
  have hS : va_S A s.heap s.heap [] := va_S.rf
  have hl : lv_has ls 4 [(0, .ref h), (1, .int x), (2, .ref qo)] := hl
  refine lv_aload_n hx hb d_Law_carry_0 rfl (lv_at hl 2 rfl) ?_
  refine lv_iconst (v := nI 0) hx hb d_Law_carry_1 (by decide) ?_
  refine lv_aload_n hx hb d_Law_carry_2 rfl (lv_at hl 0 rfl) ?_
  refine lv_iload_n hx hb d_Law_carry_3 rfl (lv_at hl 1 rfl) ?_
  refine ct_callVI (C := R_Net) (ci := 8) (As := [.int x]) (rest := [.int (nI 0), .ref qo]) ⟨hx, hb, hml, hown, ht⟩ (hM) (cb_V ht kc_Net_carry kl_Law_55 kn_Net ki_Net_carry ks_Net_carry hd_Net_carry ⟨Nat.le_of_ble_eq_true rfl, Nat.le_of_ble_eq_true rfl⟩) (wd_mem 1 rfl mN) rfl rfl (wd_ct (Bs := [[(qo, .inl (cJ, 1, .inr (.inl fo)))], ws]) 2 rfl [1] [0] (by decide) (wd_1 _)) hK hP hD hS hA rfl hl.1 rfl (Nat.le_of_ble_eq_true rfl) ⟨(Nat.le_of_eq (Nat.zero_add _)), (Nat.le_of_eq (Nat.zero_add _))⟩ d_Law_carry_4 (fun ru101 u101 H locs hu101 hP hD hS => ?_)
  have hpo := hu101
  refine W.widen (k := mc) (n := ms) (Nat.le_of_eq (Nat.zero_add _)) (Nat.le_of_eq (Nat.zero_add _)) ?_
  have hP := wd_nP (N := [u101]) (wd_1 _) 2 rfl [1, 0] (by decide) hP
  have hD := wd_nD (N := [u101]) (wd_1 _) 2 rfl [1, 0] (by decide) hD
  have hP : va_P D kls (List.flatten [[(qo, .inl (cJ, 1, .inr (.inl fo)))], u101]) H := hP
  have hD : va_D A (List.flatten [[(qo, .inl (cJ, 1, .inr (.inl fo)))], u101]) := hD
  refine W.eq (g2 := F0 m 7 ls [.int ru101, .int (nI 0), .ref qo]) rfl ?_
  refine lv_i2l (v := ru101.toInt64) hx hb d_Law_carry_7 rfl ?_
  refine ri_last hx hb hK hP hD hS 0 2 rfl rfl (j := 0) (by omega) (by omega) d_Law_carry_8 (fun H locs hP hD hS => ?_)
  have hP : va_P D kls (List.flatten [[(qo, .inl (cJ, 1, .inr (.inl (vp_updL fo 0 ru101.toInt64))))], u101]) H := hP
  have hD : va_D A (List.flatten [[(qo, .inl (cJ, 1, .inr (.inl (vp_updL fo 0 ru101.toInt64))))], u101]) := hD
  refine lv_goto hx hb d_Law_carry_9 (tgt := 15) (by decide) ?_
  refine lv_iconst (v := nI 0) hx hb d_Law_carry_15 (by decide) ?_
  exact ct_iret hQ hx hb hr hlk hP hD hS hK (Nat.le_refl _) (Nat.le_refl _) d_Law_carry_16 ⟨rfl, ru101, u101, hpo, rfl⟩
set_option maxHeartbeats 800000 in
set_option maxRecDepth 100000 in
theorem x_Law_move_room (l : Launch) (s0 : State) (D : va_G) (cI cZ cJ cG : ClassId) {h qo : Nat} {fo : Nat → Int64} {ws : va_W} (hm : ∃ fs, (h, Sum.inr (8, fs)) ∈ ws) (x : Int32) (A0 : Array Value) (hnc : nc_0 A0 s0) {post : va_W → Prop} (hM : ct_X l s0 D kls (ty4 cI cZ cJ cG) y_Net_move ws_Net_move (rm_ 7 102 1 6) [.ref h, .int x] ws "java/lang/IllegalStateException" post 1 6) : ct_H l s0 D kls (ty4 cI cZ cJ cG) y_Law_move wh_move (rm_ 8 124 1 6) [.ref h, .int x, .ref qo] (List.flatten [[(qo, .inl (cJ, 1, .inr (.inl fo)))], ws]) (fun z u => z = nI 1 ∧ ∃ u2, post u2 ∧ u = List.flatten [[(qo, .inl (cJ, 1, .inr (.inl fo)))], u2]) 1 6 := by
  obtain ⟨fs8, mN⟩ := hm
  refine ct_enterH (cc := b_Law_move) (maxL := 4) (ret := (some .int)) (hs := [(0, 9, 12, 19), (0, 9, 15, 13)]) (by decide +kernel) (Nat.le_of_ble_eq_true rfl) ?_
  intro p e s m args below meth c hx hb hml hr ht hown hlk hnm A Q hA hK hP hD hQ ls hl hz htab
  have hown : s.vm.findClass R_Law = some m.cls := hown
  have hS : va_S A s.heap s.heap [] := va_S.rf
  have hl : lv_has ls 4 [(0, .ref h), (1, .int x), (2, .ref qo)] := hl
  refine lv_aload_n hx hb d_Law_move_0 rfl (lv_at hl 2 rfl) ?_
  refine lv_iconst (v := nI 0) hx hb d_Law_move_1 (by decide) ?_
  refine lv_aload_n hx hb d_Law_move_2 rfl (lv_at hl 0 rfl) ?_
  refine lv_iload_n hx hb d_Law_move_3 rfl (lv_at hl 1 rfl) ?_
  refine ct_catchV (C := "java/lang/IllegalStateException") (Cr := R_Net) (ci := 8) (As := [.int x]) (rest := [.int (nI 0), .ref qo]) hz ⟨hx, hb, hml, hown, ht⟩ hM (cb_V ht kc_Net_move kl_Law_67 kn_Net ki_Net_move ks_Net_move hd_Net_move ⟨Nat.le_of_ble_eq_true rfl, Nat.le_of_ble_eq_true rfl⟩) (wd_mem 1 rfl mN) rfl rfl (wd_ct (Bs := [[(qo, .inl (cJ, 1, .inr (.inl fo)))], ws]) 2 rfl [1] [0] (by decide) (wd_1 _)) hK hP hD hS hA rfl hl.1 rfl (Nat.le_of_ble_eq_true rfl) ⟨Nat.le_refl _, Nat.le_refl _⟩ d_Law_move_4 [] ⟨0, 9, 12, 19⟩ [⟨0, 9, 15, 13⟩] htab (by decide) (by decide) (ht _ kl_Law_19) (fun thrown hpl ho hcl z hz9 => by cases hz9) (fun a9 u9 H locs hpo hP hD hS => ?_)
  refine W.widen (k := 1) (n := 6) (Nat.le_refl _) (Nat.le_refl _) ?_
  have hP := wd_nP (N := [u9]) (wd_1 _) 2 rfl [1, 0] (by decide) hP
  have hD := wd_nD (N := [u9]) (wd_1 _) 2 rfl [1, 0] (by decide) hD
  have hP : va_P D kls (List.flatten [[(qo, .inl (cJ, 1, .inr (.inl fo)))], u9]) H := hP
  have hD : va_D A (List.flatten [[(qo, .inl (cJ, 1, .inr (.inl fo)))], u9]) := hD
  refine W.eq (g2 := F0 m 12 ls [.ref a9]) rfl ?_
  refine lv_astore_n hx hb d_Law_move_12 rfl hl (by decide) rfl (fun ls hl => ?_)
  have hl : lv_has ls 4 [(3, .ref a9), (0, .ref h), (1, .int x), (2, .ref qo)] := hl
  refine lv_iconst (v := nI 1) hx hb d_Law_move_13 (by decide) ?_
  exact ct_iret hQ hx hb hr hlk hP hD hS hK (Nat.le_refl _) (Nat.le_refl _) d_Law_move_14 ⟨rfl, u9, hpo, rfl⟩
set_option maxHeartbeats 800000 in
set_option maxRecDepth 100000 in
theorem x_Law_move (l : Launch) (s0 : State) (D : va_G) (cI cZ cJ cG : ClassId) {h qo : Nat} {fo : Nat → Int64} {ws : va_W} (hm : ∃ fs, (h, Sum.inr (8, fs)) ∈ ws) (x : Int32) (A0 : Array Value) (hnc : nc_0 A0 s0) {post : va_W → Prop} (hM : ct_X l s0 D kls (ty4 cI cZ cJ cG) y_Net_move ws_Net_move (rm_ 7 102 1 6) [.ref h, .int x] ws "java/lang/IllegalArgumentException" post 1 6) : ct_H l s0 D kls (ty4 cI cZ cJ cG) y_Law_move wh_move (rm_ 8 124 1 6) [.ref h, .int x, .ref qo] (List.flatten [[(qo, .inl (cJ, 1, .inr (.inl fo)))], ws]) (fun z u => z = nI 2 ∧ ∃ u2, post u2 ∧ u = List.flatten [[(qo, .inl (cJ, 1, .inr (.inl fo)))], u2]) 1 6 := by
  obtain ⟨fs8, mN⟩ := hm
  refine ct_enterH (cc := b_Law_move) (maxL := 4) (ret := (some .int)) (hs := [(0, 9, 12, 19), (0, 9, 15, 13)]) (by decide +kernel) (Nat.le_of_ble_eq_true rfl) ?_
  intro p e s m args below meth c hx hb hml hr ht hown hlk hnm A Q hA hK hP hD hQ ls hl hz htab
  have hown : s.vm.findClass R_Law = some m.cls := hown
  have hS : va_S A s.heap s.heap [] := va_S.rf
  have hl : lv_has ls 4 [(0, .ref h), (1, .int x), (2, .ref qo)] := hl
  refine lv_aload_n hx hb d_Law_move_0 rfl (lv_at hl 2 rfl) ?_
  refine lv_iconst (v := nI 0) hx hb d_Law_move_1 (by decide) ?_
  refine lv_aload_n hx hb d_Law_move_2 rfl (lv_at hl 0 rfl) ?_
  refine lv_iload_n hx hb d_Law_move_3 rfl (lv_at hl 1 rfl) ?_
  refine ct_catchV (C := "java/lang/IllegalArgumentException") (Cr := R_Net) (ci := 8) (As := [.int x]) (rest := [.int (nI 0), .ref qo]) hz ⟨hx, hb, hml, hown, ht⟩ hM (cb_V ht kc_Net_move kl_Law_67 kn_Net ki_Net_move ks_Net_move hd_Net_move ⟨Nat.le_of_ble_eq_true rfl, Nat.le_of_ble_eq_true rfl⟩) (wd_mem 1 rfl mN) rfl rfl (wd_ct (Bs := [[(qo, .inl (cJ, 1, .inr (.inl fo)))], ws]) 2 rfl [1] [0] (by decide) (wd_1 _)) hK hP hD hS hA rfl hl.1 rfl (Nat.le_of_ble_eq_true rfl) ⟨Nat.le_refl _, Nat.le_refl _⟩ d_Law_move_4 [⟨0, 9, 12, 19⟩] ⟨0, 9, 15, 13⟩ [] htab (by decide) (by decide) (ht _ kl_Law_13) (fun thrown hpl ho hcl z hz9 => by rw [List.mem_singleton.mp hz9]; exact passed_of hpl hz.1.1 hnc ho (by decide) (ht _ kl_Law_19) hcl) (fun a9 u9 H locs hpo hP hD hS => ?_)
  refine W.widen (k := 1) (n := 6) (Nat.le_refl _) (Nat.le_refl _) ?_
  have hP := wd_nP (N := [u9]) (wd_1 _) 2 rfl [1, 0] (by decide) hP
  have hD := wd_nD (N := [u9]) (wd_1 _) 2 rfl [1, 0] (by decide) hD
  have hP : va_P D kls (List.flatten [[(qo, .inl (cJ, 1, .inr (.inl fo)))], u9]) H := hP
  have hD : va_D A (List.flatten [[(qo, .inl (cJ, 1, .inr (.inl fo)))], u9]) := hD
  refine W.eq (g2 := F0 m 15 ls [.ref a9]) rfl ?_
  refine lv_astore_n hx hb d_Law_move_15 rfl hl (by decide) rfl (fun ls hl => ?_)
  have hl : lv_has ls 4 [(3, .ref a9), (0, .ref h), (1, .int x), (2, .ref qo)] := hl
  refine lv_iconst (v := nI 2) hx hb d_Law_move_16 (by decide) ?_
  exact ct_iret hQ hx hb hr hlk hP hD hS hK (Nat.le_refl _) (Nat.le_refl _) d_Law_move_17 ⟨rfl, u9, hpo, rfl⟩
set_option maxHeartbeats 800000 in
set_option maxRecDepth 100000 in
theorem k_Law_move_lose (l : Launch) (s0 : State) (D : va_G) (cI cZ cJ cG : ClassId) {h qo : Nat} {fo : Nat → Int64} {ws : va_W} (hm : ∃ fs, (h, Sum.inr (8, fs)) ∈ ws) (x : Int32) {post : Int32 → va_W → Prop} {mc ms : Nat} (hM : ct_I l D kls (ty4 cI cZ cJ cG) y_Net_move ws_Net_move (rm_ 3 65 mc ms) [.ref h, .int x] ws post mc ms) : ct_H l s0 D kls (ty4 cI cZ cJ cG) y_Law_move wh_move (rm_ 4 87 mc ms) [.ref h, .int x, .ref qo] (List.flatten [[(qo, .inl (cJ, 1, .inr (.inl fo)))], ws]) (fun z u => z = nI 0 ∧ ∃ r u2, post r u2 ∧ u = List.flatten [[(qo, .inl (cJ, 1, .inr (.inl (vp_updL fo 0 r.toInt64))))], u2]) mc ms := by
  obtain ⟨fs8, mN⟩ := hm
  refine ct_enterH (cc := b_Law_move) (maxL := 4) (ret := (some .int)) (hs := [(0, 9, 12, 19), (0, 9, 15, 13)]) (by decide +kernel) (Nat.le_of_ble_eq_true rfl) ?_
  intro p e s m args below meth c hx hb hml hr ht hown hlk hnm A Q hA hK hP hD hQ ls hl hz htab
  have hown : s.vm.findClass R_Law = some m.cls := hown
  have hS : va_S A s.heap s.heap [] := va_S.rf
  have hl : lv_has ls 4 [(0, .ref h), (1, .int x), (2, .ref qo)] := hl
  refine lv_aload_n hx hb d_Law_move_0 rfl (lv_at hl 2 rfl) ?_
  refine lv_iconst (v := nI 0) hx hb d_Law_move_1 (by decide) ?_
  refine lv_aload_n hx hb d_Law_move_2 rfl (lv_at hl 0 rfl) ?_
  refine lv_iload_n hx hb d_Law_move_3 rfl (lv_at hl 1 rfl) ?_
  refine ct_callVI (C := R_Net) (ci := 8) (As := [.int x]) (rest := [.int (nI 0), .ref qo]) ⟨hx, hb, hml, hown, ht⟩ (hM) (cb_V ht kc_Net_move kl_Law_67 kn_Net ki_Net_move ks_Net_move hd_Net_move ⟨Nat.le_of_ble_eq_true rfl, Nat.le_of_ble_eq_true rfl⟩) (wd_mem 1 rfl mN) rfl rfl (wd_ct (Bs := [[(qo, .inl (cJ, 1, .inr (.inl fo)))], ws]) 2 rfl [1] [0] (by decide) (wd_1 _)) hK hP hD hS hA rfl hl.1 rfl (Nat.le_of_ble_eq_true rfl) ⟨(Nat.le_of_eq (Nat.zero_add _)), (Nat.le_of_eq (Nat.zero_add _))⟩ d_Law_move_4 (fun ru101 u101 H locs hu101 hP hD hS => ?_)
  have hpo := hu101
  refine W.widen (k := mc) (n := ms) (Nat.le_of_eq (Nat.zero_add _)) (Nat.le_of_eq (Nat.zero_add _)) ?_
  have hP := wd_nP (N := [u101]) (wd_1 _) 2 rfl [1, 0] (by decide) hP
  have hD := wd_nD (N := [u101]) (wd_1 _) 2 rfl [1, 0] (by decide) hD
  have hP : va_P D kls (List.flatten [[(qo, .inl (cJ, 1, .inr (.inl fo)))], u101]) H := hP
  have hD : va_D A (List.flatten [[(qo, .inl (cJ, 1, .inr (.inl fo)))], u101]) := hD
  refine W.eq (g2 := F0 m 7 ls [.int ru101, .int (nI 0), .ref qo]) rfl ?_
  refine lv_i2l (v := ru101.toInt64) hx hb d_Law_move_7 rfl ?_
  refine ri_last hx hb hK hP hD hS 0 2 rfl rfl (j := 0) (by omega) (by omega) d_Law_move_8 (fun H locs hP hD hS => ?_)
  have hP : va_P D kls (List.flatten [[(qo, .inl (cJ, 1, .inr (.inl (vp_updL fo 0 ru101.toInt64))))], u101]) H := hP
  have hD : va_D A (List.flatten [[(qo, .inl (cJ, 1, .inr (.inl (vp_updL fo 0 ru101.toInt64))))], u101]) := hD
  refine lv_goto hx hb d_Law_move_9 (tgt := 18) (by decide) ?_
  refine lv_iconst (v := nI 0) hx hb d_Law_move_18 (by decide) ?_
  exact ct_iret hQ hx hb hr hlk hP hD hS hK (Nat.le_refl _) (Nat.le_refl _) d_Law_move_19 ⟨rfl, ru101, u101, hpo, rfl⟩
set_option maxHeartbeats 800000 in
set_option maxRecDepth 100000 in
theorem k_Law_step (l : Launch) (s0 : State) (D : va_G) (cI cZ cJ cG : ClassId) {h qo : Nat} {fo : Nat → Int64} {ws : va_W} (hm : ∃ fs, (h, Sum.inr (8, fs)) ∈ ws) (x : Int32) {post : Int32 → va_W → Prop} {mc ms : Nat} (hM : ct_I l D kls (ty4 cI cZ cJ cG) y_Net_step ws_Net_step (rm_ 7 168 mc ms) [.ref h, .int x] ws post mc ms) : ct_H l s0 D kls (ty4 cI cZ cJ cG) y_Law_step wh_step (rm_ 8 190 mc ms) [.ref h, .int x, .ref qo] (List.flatten [[(qo, .inl (cJ, 1, .inr (.inl fo)))], ws]) (fun z u => z = nI 0 ∧ ∃ r u2, post r u2 ∧ u = List.flatten [[(qo, .inl (cJ, 1, .inr (.inl (vp_updL fo 0 r.toInt64))))], u2]) mc ms := by
  obtain ⟨fs8, mN⟩ := hm
  refine ct_enterH (cc := b_Law_step) (maxL := 4) (ret := (some .int)) (hs := [(0, 9, 12, 19), (0, 9, 15, 13)]) (by decide +kernel) (Nat.le_of_ble_eq_true rfl) ?_
  intro p e s m args below meth c hx hb hml hr ht hown hlk hnm A Q hA hK hP hD hQ ls hl hz htab
  have hown : s.vm.findClass R_Law = some m.cls := hown
  have hS : va_S A s.heap s.heap [] := va_S.rf
  have hl : lv_has ls 4 [(0, .ref h), (1, .int x), (2, .ref qo)] := hl
  refine lv_aload_n hx hb d_Law_step_0 rfl (lv_at hl 2 rfl) ?_
  refine lv_iconst (v := nI 0) hx hb d_Law_step_1 (by decide) ?_
  refine lv_aload_n hx hb d_Law_step_2 rfl (lv_at hl 0 rfl) ?_
  refine lv_iload_n hx hb d_Law_step_3 rfl (lv_at hl 1 rfl) ?_
  refine ct_callVI (C := R_Net) (ci := 8) (As := [.int x]) (rest := [.int (nI 0), .ref qo]) ⟨hx, hb, hml, hown, ht⟩ (hM) (cb_V ht kc_Net_step kl_Law_27 kn_Net ki_Net_step ks_Net_step hd_Net_step ⟨Nat.le_of_ble_eq_true rfl, Nat.le_of_ble_eq_true rfl⟩) (wd_mem 1 rfl mN) rfl rfl (wd_ct (Bs := [[(qo, .inl (cJ, 1, .inr (.inl fo)))], ws]) 2 rfl [1] [0] (by decide) (wd_1 _)) hK hP hD hS hA rfl hl.1 rfl (Nat.le_of_ble_eq_true rfl) ⟨(Nat.le_of_eq (Nat.zero_add _)), (Nat.le_of_eq (Nat.zero_add _))⟩ d_Law_step_4 (fun ru101 u101 H locs hu101 hP hD hS => ?_)
  have hpo := hu101
  refine W.widen (k := mc) (n := ms) (Nat.le_of_eq (Nat.zero_add _)) (Nat.le_of_eq (Nat.zero_add _)) ?_
  have hP := wd_nP (N := [u101]) (wd_1 _) 2 rfl [1, 0] (by decide) hP
  have hD := wd_nD (N := [u101]) (wd_1 _) 2 rfl [1, 0] (by decide) hD
  have hP : va_P D kls (List.flatten [[(qo, .inl (cJ, 1, .inr (.inl fo)))], u101]) H := hP
  have hD : va_D A (List.flatten [[(qo, .inl (cJ, 1, .inr (.inl fo)))], u101]) := hD
  refine W.eq (g2 := F0 m 7 ls [.int ru101, .int (nI 0), .ref qo]) rfl ?_
  refine lv_i2l (v := ru101.toInt64) hx hb d_Law_step_7 rfl ?_
  refine ri_last hx hb hK hP hD hS 0 2 rfl rfl (j := 0) (by omega) (by omega) d_Law_step_8 (fun H locs hP hD hS => ?_)
  have hP : va_P D kls (List.flatten [[(qo, .inl (cJ, 1, .inr (.inl (vp_updL fo 0 ru101.toInt64))))], u101]) H := hP
  have hD : va_D A (List.flatten [[(qo, .inl (cJ, 1, .inr (.inl (vp_updL fo 0 ru101.toInt64))))], u101]) := hD
  refine lv_goto hx hb d_Law_step_9 (tgt := 18) (by decide) ?_
  refine lv_iconst (v := nI 0) hx hb d_Law_step_18 (by decide) ?_
  exact ct_iret hQ hx hb hr hlk hP hD hS hK (Nat.le_refl _) (Nat.le_refl _) d_Law_step_19 ⟨rfl, ru101, u101, hpo, rfl⟩
set_option maxHeartbeats 800000 in
set_option maxRecDepth 100000 in
theorem k_Law_move (l : Launch) (s0 : State) (D : va_G) (cI cZ cJ cG : ClassId) {h qo : Nat} {fo : Nat → Int64} {ws : va_W} (hm : ∃ fs, (h, Sum.inr (8, fs)) ∈ ws) (x : Int32) {post : Int32 → va_W → Prop} {mc ms : Nat} (hM : ct_I l D kls (ty4 cI cZ cJ cG) y_Net_move ws_Net_move (rm_ 7 169 mc ms) [.ref h, .int x] ws post mc ms) : ct_H l s0 D kls (ty4 cI cZ cJ cG) y_Law_move wh_move (rm_ 8 191 mc ms) [.ref h, .int x, .ref qo] (List.flatten [[(qo, .inl (cJ, 1, .inr (.inl fo)))], ws]) (fun z u => z = nI 0 ∧ ∃ r u2, post r u2 ∧ u = List.flatten [[(qo, .inl (cJ, 1, .inr (.inl (vp_updL fo 0 r.toInt64))))], u2]) mc ms := by
  obtain ⟨fs8, mN⟩ := hm
  refine ct_enterH (cc := b_Law_move) (maxL := 4) (ret := (some .int)) (hs := [(0, 9, 12, 19), (0, 9, 15, 13)]) (by decide +kernel) (Nat.le_of_ble_eq_true rfl) ?_
  intro p e s m args below meth c hx hb hml hr ht hown hlk hnm A Q hA hK hP hD hQ ls hl hz htab
  have hown : s.vm.findClass R_Law = some m.cls := hown
  have hS : va_S A s.heap s.heap [] := va_S.rf
  have hl : lv_has ls 4 [(0, .ref h), (1, .int x), (2, .ref qo)] := hl
  refine lv_aload_n hx hb d_Law_move_0 rfl (lv_at hl 2 rfl) ?_
  refine lv_iconst (v := nI 0) hx hb d_Law_move_1 (by decide) ?_
  refine lv_aload_n hx hb d_Law_move_2 rfl (lv_at hl 0 rfl) ?_
  refine lv_iload_n hx hb d_Law_move_3 rfl (lv_at hl 1 rfl) ?_
  refine ct_callVI (C := R_Net) (ci := 8) (As := [.int x]) (rest := [.int (nI 0), .ref qo]) ⟨hx, hb, hml, hown, ht⟩ (hM) (cb_V ht kc_Net_move kl_Law_67 kn_Net ki_Net_move ks_Net_move hd_Net_move ⟨Nat.le_of_ble_eq_true rfl, Nat.le_of_ble_eq_true rfl⟩) (wd_mem 1 rfl mN) rfl rfl (wd_ct (Bs := [[(qo, .inl (cJ, 1, .inr (.inl fo)))], ws]) 2 rfl [1] [0] (by decide) (wd_1 _)) hK hP hD hS hA rfl hl.1 rfl (Nat.le_of_ble_eq_true rfl) ⟨(Nat.le_of_eq (Nat.zero_add _)), (Nat.le_of_eq (Nat.zero_add _))⟩ d_Law_move_4 (fun ru101 u101 H locs hu101 hP hD hS => ?_)
  have hpo := hu101
  refine W.widen (k := mc) (n := ms) (Nat.le_of_eq (Nat.zero_add _)) (Nat.le_of_eq (Nat.zero_add _)) ?_
  have hP := wd_nP (N := [u101]) (wd_1 _) 2 rfl [1, 0] (by decide) hP
  have hD := wd_nD (N := [u101]) (wd_1 _) 2 rfl [1, 0] (by decide) hD
  have hP : va_P D kls (List.flatten [[(qo, .inl (cJ, 1, .inr (.inl fo)))], u101]) H := hP
  have hD : va_D A (List.flatten [[(qo, .inl (cJ, 1, .inr (.inl fo)))], u101]) := hD
  refine W.eq (g2 := F0 m 7 ls [.int ru101, .int (nI 0), .ref qo]) rfl ?_
  refine lv_i2l (v := ru101.toInt64) hx hb d_Law_move_7 rfl ?_
  refine ri_last hx hb hK hP hD hS 0 2 rfl rfl (j := 0) (by omega) (by omega) d_Law_move_8 (fun H locs hP hD hS => ?_)
  have hP : va_P D kls (List.flatten [[(qo, .inl (cJ, 1, .inr (.inl (vp_updL fo 0 ru101.toInt64))))], u101]) H := hP
  have hD : va_D A (List.flatten [[(qo, .inl (cJ, 1, .inr (.inl (vp_updL fo 0 ru101.toInt64))))], u101]) := hD
  refine lv_goto hx hb d_Law_move_9 (tgt := 18) (by decide) ?_
  refine lv_iconst (v := nI 0) hx hb d_Law_move_18 (by decide) ?_
  exact ct_iret hQ hx hb hr hlk hP hD hS hK (Nat.le_refl _) (Nat.le_refl _) d_Law_move_19 ⟨rfl, ru101, u101, hpo, rfl⟩
set_option maxHeartbeats 800000 in
set_option maxRecDepth 100000 in
theorem k_Law_link (l : Launch) (s0 : State) (D : va_G) (cI cZ cJ cG : ClassId) {h : Nat} {ws : va_W} (hm : ∃ fs, (h, Sum.inr (8, fs)) ∈ ws) (x y z9 : Int32) {post : va_W → Prop} {mc ms : Nat} (hM : ct_V l D kls (ty4 cI cZ cJ cG) y_Net_link ws_Net_link (rm_ 7 165 mc ms) [.ref h, .int x, .int y, .int z9] ws post mc ms) : ct_H l s0 D kls (ty4 cI cZ cJ cG) y_Law_link wh_link (rm_ 8 188 mc ms) [.ref h, .int x, .int y, .int z9] (List.flatten [ws]) (fun z u => z = nI 0 ∧ ∃ u2, post u2 ∧ u = List.flatten [u2]) mc ms := by
  obtain ⟨fs8, mN⟩ := hm
  refine ct_enterH (cc := b_Law_link) (maxL := 5) (ret := (some .int)) (hs := [(0, 7, 10, 19), (0, 7, 14, 13)]) (by decide +kernel) (Nat.le_of_ble_eq_true rfl) ?_
  intro p e s m args below meth c hx hb hml hr ht hown hlk hnm A Q hA hK hP hD hQ ls hl hz htab
  have hown : s.vm.findClass R_Law = some m.cls := hown
  have hS : va_S A s.heap s.heap [] := va_S.rf
  have hl : lv_has ls 5 [(0, .ref h), (1, .int x), (2, .int y), (3, .int z9)] := hl
  refine lv_aload_n hx hb d_Law_link_0 rfl (lv_at hl 0 rfl) ?_
  refine lv_iload_n hx hb d_Law_link_1 rfl (lv_at hl 1 rfl) ?_
  refine lv_iload_n hx hb d_Law_link_2 rfl (lv_at hl 2 rfl) ?_
  refine lv_iload_n hx hb d_Law_link_3 rfl (lv_at hl 3 rfl) ?_
  refine ct_callVV (C := R_Net) (ci := 8) (As := [.int x, .int y, .int z9]) (rest := []) ⟨hx, hb, hml, hown, ht⟩ (hM) (cb_V ht kc_Net_link kl_Law_15 kn_Net ki_Net_link ks_Net_link hd_Net_link ⟨Nat.le_of_ble_eq_true rfl, Nat.le_of_ble_eq_true rfl⟩) (wd_mem 0 rfl mN) rfl rfl (wd_ct (Bs := [ws]) 1 rfl [0] [] (by decide) (wd_1 _)) hK hP hD hS hA rfl hl.1 rfl (Nat.le_of_ble_eq_true rfl) ⟨(Nat.le_of_eq (Nat.zero_add _)), (Nat.le_of_eq (Nat.zero_add _))⟩ d_Law_link_4 (fun u101 H locs hu101 hP hD hS => ?_)
  have hpo := hu101
  refine W.widen (k := mc) (n := ms) (Nat.le_of_eq (Nat.zero_add _)) (Nat.le_of_eq (Nat.zero_add _)) ?_
  have hP := wd_nP (N := [u101]) (wd_1 _) 1 rfl [0] (by decide) hP
  have hD := wd_nD (N := [u101]) (wd_1 _) 1 rfl [0] (by decide) hD
  have hP : va_P D kls (List.flatten [u101]) H := hP
  have hD : va_D A (List.flatten [u101]) := hD
  refine W.eq (g2 := F0 m 7 ls []) rfl ?_
  refine lv_goto hx hb d_Law_link_7 (tgt := 18) (by decide) ?_
  refine lv_iconst (v := nI 0) hx hb d_Law_link_18 (by decide) ?_
  exact ct_iret hQ hx hb hr hlk hP hD hS hK (Nat.le_refl _) (Nat.le_refl _) d_Law_link_19 ⟨rfl, u101, hpo, rfl⟩
set_option maxHeartbeats 800000 in
set_option maxRecDepth 100000 in
theorem x_Law_link_room (l : Launch) (s0 : State) (D : va_G) (cI cZ cJ cG : ClassId) {h : Nat} {ws : va_W} (hm : ∃ fs, (h, Sum.inr (8, fs)) ∈ ws) (x y z9 : Int32) (A0 : Array Value) (hnc : nc_0 A0 s0) {post : va_W → Prop} (hM : ct_X l s0 D kls (ty4 cI cZ cJ cG) y_Net_link ws_Net_link (rm_ 7 102 1 6) [.ref h, .int x, .int y, .int z9] ws "java/lang/IllegalStateException" post 1 6) : ct_H l s0 D kls (ty4 cI cZ cJ cG) y_Law_link wh_link (rm_ 8 125 1 6) [.ref h, .int x, .int y, .int z9] (List.flatten [ws]) (fun z u => z = nI 1 ∧ ∃ u2, post u2 ∧ u = List.flatten [u2]) 1 6 := by
  obtain ⟨fs8, mN⟩ := hm
  refine ct_enterH (cc := b_Law_link) (maxL := 5) (ret := (some .int)) (hs := [(0, 7, 10, 19), (0, 7, 14, 13)]) (by decide +kernel) (Nat.le_of_ble_eq_true rfl) ?_
  intro p e s m args below meth c hx hb hml hr ht hown hlk hnm A Q hA hK hP hD hQ ls hl hz htab
  have hown : s.vm.findClass R_Law = some m.cls := hown
  have hS : va_S A s.heap s.heap [] := va_S.rf
  have hl : lv_has ls 5 [(0, .ref h), (1, .int x), (2, .int y), (3, .int z9)] := hl
  refine lv_aload_n hx hb d_Law_link_0 rfl (lv_at hl 0 rfl) ?_
  refine lv_iload_n hx hb d_Law_link_1 rfl (lv_at hl 1 rfl) ?_
  refine lv_iload_n hx hb d_Law_link_2 rfl (lv_at hl 2 rfl) ?_
  refine lv_iload_n hx hb d_Law_link_3 rfl (lv_at hl 3 rfl) ?_
  refine ct_catchV (C := "java/lang/IllegalStateException") (Cr := R_Net) (ci := 8) (As := [.int x, .int y, .int z9]) (rest := []) hz ⟨hx, hb, hml, hown, ht⟩ hM (cb_V ht kc_Net_link kl_Law_15 kn_Net ki_Net_link ks_Net_link hd_Net_link ⟨Nat.le_of_ble_eq_true rfl, Nat.le_of_ble_eq_true rfl⟩) (wd_mem 0 rfl mN) rfl rfl (wd_ct (Bs := [ws]) 1 rfl [0] [] (by decide) (wd_1 _)) hK hP hD hS hA rfl hl.1 rfl (Nat.le_of_ble_eq_true rfl) ⟨Nat.le_refl _, Nat.le_refl _⟩ d_Law_link_4 [] ⟨0, 7, 10, 19⟩ [⟨0, 7, 14, 13⟩] htab (by decide) (by decide) (ht _ kl_Law_19) (fun thrown hpl ho hcl z hz9 => by cases hz9) (fun a9 u9 H locs hpo hP hD hS => ?_)
  refine W.widen (k := 1) (n := 6) (Nat.le_refl _) (Nat.le_refl _) ?_
  have hP := wd_nP (N := [u9]) (wd_1 _) 1 rfl [0] (by decide) hP
  have hD := wd_nD (N := [u9]) (wd_1 _) 1 rfl [0] (by decide) hD
  have hP : va_P D kls (List.flatten [u9]) H := hP
  have hD : va_D A (List.flatten [u9]) := hD
  refine W.eq (g2 := F0 m 10 ls [.ref a9]) rfl ?_
  refine lv_astore hx hb d_Law_link_10 hl (by decide) rfl (fun ls hl => ?_)
  have hl : lv_has ls 5 [(4, .ref a9), (0, .ref h), (1, .int x), (2, .int y), (3, .int z9)] := hl
  refine lv_iconst (v := nI 1) hx hb d_Law_link_12 (by decide) ?_
  exact ct_iret hQ hx hb hr hlk hP hD hS hK (Nat.le_refl _) (Nat.le_refl _) d_Law_link_13 ⟨rfl, u9, hpo, rfl⟩
set_option maxHeartbeats 800000 in
set_option maxRecDepth 100000 in
theorem x_Law_link (l : Launch) (s0 : State) (D : va_G) (cI cZ cJ cG : ClassId) {h : Nat} {ws : va_W} (hm : ∃ fs, (h, Sum.inr (8, fs)) ∈ ws) (x y z9 : Int32) (A0 : Array Value) (hnc : nc_0 A0 s0) {post : va_W → Prop} (hM : ct_X l s0 D kls (ty4 cI cZ cJ cG) y_Net_link ws_Net_link (rm_ 7 102 1 6) [.ref h, .int x, .int y, .int z9] ws "java/lang/IllegalArgumentException" post 1 6) : ct_H l s0 D kls (ty4 cI cZ cJ cG) y_Law_link wh_link (rm_ 8 125 1 6) [.ref h, .int x, .int y, .int z9] (List.flatten [ws]) (fun z u => z = nI 2 ∧ ∃ u2, post u2 ∧ u = List.flatten [u2]) 1 6 := by
  obtain ⟨fs8, mN⟩ := hm
  refine ct_enterH (cc := b_Law_link) (maxL := 5) (ret := (some .int)) (hs := [(0, 7, 10, 19), (0, 7, 14, 13)]) (by decide +kernel) (Nat.le_of_ble_eq_true rfl) ?_
  intro p e s m args below meth c hx hb hml hr ht hown hlk hnm A Q hA hK hP hD hQ ls hl hz htab
  have hown : s.vm.findClass R_Law = some m.cls := hown
  have hS : va_S A s.heap s.heap [] := va_S.rf
  have hl : lv_has ls 5 [(0, .ref h), (1, .int x), (2, .int y), (3, .int z9)] := hl
  refine lv_aload_n hx hb d_Law_link_0 rfl (lv_at hl 0 rfl) ?_
  refine lv_iload_n hx hb d_Law_link_1 rfl (lv_at hl 1 rfl) ?_
  refine lv_iload_n hx hb d_Law_link_2 rfl (lv_at hl 2 rfl) ?_
  refine lv_iload_n hx hb d_Law_link_3 rfl (lv_at hl 3 rfl) ?_
  refine ct_catchV (C := "java/lang/IllegalArgumentException") (Cr := R_Net) (ci := 8) (As := [.int x, .int y, .int z9]) (rest := []) hz ⟨hx, hb, hml, hown, ht⟩ hM (cb_V ht kc_Net_link kl_Law_15 kn_Net ki_Net_link ks_Net_link hd_Net_link ⟨Nat.le_of_ble_eq_true rfl, Nat.le_of_ble_eq_true rfl⟩) (wd_mem 0 rfl mN) rfl rfl (wd_ct (Bs := [ws]) 1 rfl [0] [] (by decide) (wd_1 _)) hK hP hD hS hA rfl hl.1 rfl (Nat.le_of_ble_eq_true rfl) ⟨Nat.le_refl _, Nat.le_refl _⟩ d_Law_link_4 [⟨0, 7, 10, 19⟩] ⟨0, 7, 14, 13⟩ [] htab (by decide) (by decide) (ht _ kl_Law_13) (fun thrown hpl ho hcl z hz9 => by rw [List.mem_singleton.mp hz9]; exact passed_of hpl hz.1.1 hnc ho (by decide) (ht _ kl_Law_19) hcl) (fun a9 u9 H locs hpo hP hD hS => ?_)
  refine W.widen (k := 1) (n := 6) (Nat.le_refl _) (Nat.le_refl _) ?_
  have hP := wd_nP (N := [u9]) (wd_1 _) 1 rfl [0] (by decide) hP
  have hD := wd_nD (N := [u9]) (wd_1 _) 1 rfl [0] (by decide) hD
  have hP : va_P D kls (List.flatten [u9]) H := hP
  have hD : va_D A (List.flatten [u9]) := hD
  refine W.eq (g2 := F0 m 14 ls [.ref a9]) rfl ?_
  refine lv_astore hx hb d_Law_link_14 hl (by decide) rfl (fun ls hl => ?_)
  have hl : lv_has ls 5 [(4, .ref a9), (0, .ref h), (1, .int x), (2, .int y), (3, .int z9)] := hl
  refine lv_iconst (v := nI 2) hx hb d_Law_link_16 (by decide) ?_
  exact ct_iret hQ hx hb hr hlk hP hD hS hK (Nat.le_refl _) (Nat.le_refl _) d_Law_link_17 ⟨rfl, u9, hpo, rfl⟩
set_option maxHeartbeats 800000 in
set_option maxRecDepth 100000 in
theorem k_Law_join (l : Launch) (s0 : State) (D : va_G) (cI cZ cJ cG : ClassId) {h qo : Nat} {fo : Nat → Int64} {ws : va_W} (hm : ∃ fs, (h, Sum.inr (8, fs)) ∈ ws) (x y z9 : Int32) {post : Int32 → va_W → Prop} {mc ms : Nat} (hM : ct_I l D kls (ty4 cI cZ cJ cG) y_Net_join ws_Net_join (rm_ 5 120 mc ms) [.ref h, .int x, .int y, .int z9] ws post mc ms) : ct_H l s0 D kls (ty4 cI cZ cJ cG) y_Law_join wh_join (rm_ 6 144 mc ms) [.ref h, .int x, .int y, .int z9, .ref qo] (List.flatten [[(qo, .inl (cJ, 1, .inr (.inl fo)))], ws]) (fun z u => z = nI 0 ∧ ∃ r u2, post r u2 ∧ u = List.flatten [[(qo, .inl (cJ, 1, .inr (.inl (vp_updL fo 0 r.toInt64))))], u2]) mc ms := by
  obtain ⟨fs8, mN⟩ := hm
  refine ct_enterH (cc := b_Law_join) (maxL := 6) (ret := (some .int)) (hs := [(0, 12, 15, 19), (0, 12, 19, 13)]) (by decide +kernel) (Nat.le_of_ble_eq_true rfl) ?_
  intro p e s m args below meth c hx hb hml hr ht hown hlk hnm A Q hA hK hP hD hQ ls hl hz htab
  have hown : s.vm.findClass R_Law = some m.cls := hown
  have hS : va_S A s.heap s.heap [] := va_S.rf
  have hl : lv_has ls 6 [(0, .ref h), (1, .int x), (2, .int y), (3, .int z9), (4, .ref qo)] := hl
  refine lv_aload hx hb d_Law_join_0 (lv_at hl 4 rfl) ?_
  refine lv_iconst (v := nI 0) hx hb d_Law_join_2 (by decide) ?_
  refine lv_aload_n hx hb d_Law_join_3 rfl (lv_at hl 0 rfl) ?_
  refine lv_iload_n hx hb d_Law_join_4 rfl (lv_at hl 1 rfl) ?_
  refine lv_iload_n hx hb d_Law_join_5 rfl (lv_at hl 2 rfl) ?_
  refine lv_iload_n hx hb d_Law_join_6 rfl (lv_at hl 3 rfl) ?_
  refine ct_callVI (C := R_Net) (ci := 8) (As := [.int x, .int y, .int z9]) (rest := [.int (nI 0), .ref qo]) ⟨hx, hb, hml, hown, ht⟩ (hM) (cb_V ht kc_Net_join kl_Law_47 kn_Net ki_Net_join ks_Net_join hd_Net_join ⟨Nat.le_of_ble_eq_true rfl, Nat.le_of_ble_eq_true rfl⟩) (wd_mem 1 rfl mN) rfl rfl (wd_ct (Bs := [[(qo, .inl (cJ, 1, .inr (.inl fo)))], ws]) 2 rfl [1] [0] (by decide) (wd_1 _)) hK hP hD hS hA rfl hl.1 rfl (Nat.le_of_ble_eq_true rfl) ⟨(Nat.le_of_eq (Nat.zero_add _)), (Nat.le_of_eq (Nat.zero_add _))⟩ d_Law_join_7 (fun ru101 u101 H locs hu101 hP hD hS => ?_)
  have hpo := hu101
  refine W.widen (k := mc) (n := ms) (Nat.le_of_eq (Nat.zero_add _)) (Nat.le_of_eq (Nat.zero_add _)) ?_
  have hP := wd_nP (N := [u101]) (wd_1 _) 2 rfl [1, 0] (by decide) hP
  have hD := wd_nD (N := [u101]) (wd_1 _) 2 rfl [1, 0] (by decide) hD
  have hP : va_P D kls (List.flatten [[(qo, .inl (cJ, 1, .inr (.inl fo)))], u101]) H := hP
  have hD : va_D A (List.flatten [[(qo, .inl (cJ, 1, .inr (.inl fo)))], u101]) := hD
  refine W.eq (g2 := F0 m 10 ls [.int ru101, .int (nI 0), .ref qo]) rfl ?_
  refine lv_i2l (v := ru101.toInt64) hx hb d_Law_join_10 rfl ?_
  refine ri_last hx hb hK hP hD hS 0 2 rfl rfl (j := 0) (by omega) (by omega) d_Law_join_11 (fun H locs hP hD hS => ?_)
  have hP : va_P D kls (List.flatten [[(qo, .inl (cJ, 1, .inr (.inl (vp_updL fo 0 ru101.toInt64))))], u101]) H := hP
  have hD : va_D A (List.flatten [[(qo, .inl (cJ, 1, .inr (.inl (vp_updL fo 0 ru101.toInt64))))], u101]) := hD
  refine lv_goto hx hb d_Law_join_12 (tgt := 23) (by decide) ?_
  refine lv_iconst (v := nI 0) hx hb d_Law_join_23 (by decide) ?_
  exact ct_iret hQ hx hb hr hlk hP hD hS hK (Nat.le_refl _) (Nat.le_refl _) d_Law_join_24 ⟨rfl, ru101, u101, hpo, rfl⟩
set_option maxHeartbeats 800000 in
set_option maxRecDepth 100000 in
theorem x_Law_join (l : Launch) (s0 : State) (D : va_G) (cI cZ cJ cG : ClassId) {h qo : Nat} {fo : Nat → Int64} {ws : va_W} (hm : ∃ fs, (h, Sum.inr (8, fs)) ∈ ws) (x y z9 : Int32) (A0 : Array Value) (hnc : nc_0 A0 s0) {post : va_W → Prop} (hM : ct_X l s0 D kls (ty4 cI cZ cJ cG) y_Net_join ws_Net_join (rm_ 7 102 1 6) [.ref h, .int x, .int y, .int z9] ws "java/lang/IllegalArgumentException" post 1 6) : ct_H l s0 D kls (ty4 cI cZ cJ cG) y_Law_join wh_join (rm_ 8 126 1 6) [.ref h, .int x, .int y, .int z9, .ref qo] (List.flatten [[(qo, .inl (cJ, 1, .inr (.inl fo)))], ws]) (fun z u => z = nI 2 ∧ ∃ u2, post u2 ∧ u = List.flatten [[(qo, .inl (cJ, 1, .inr (.inl fo)))], u2]) 1 6 := by
  obtain ⟨fs8, mN⟩ := hm
  refine ct_enterH (cc := b_Law_join) (maxL := 6) (ret := (some .int)) (hs := [(0, 12, 15, 19), (0, 12, 19, 13)]) (by decide +kernel) (Nat.le_of_ble_eq_true rfl) ?_
  intro p e s m args below meth c hx hb hml hr ht hown hlk hnm A Q hA hK hP hD hQ ls hl hz htab
  have hown : s.vm.findClass R_Law = some m.cls := hown
  have hS : va_S A s.heap s.heap [] := va_S.rf
  have hl : lv_has ls 6 [(0, .ref h), (1, .int x), (2, .int y), (3, .int z9), (4, .ref qo)] := hl
  refine lv_aload hx hb d_Law_join_0 (lv_at hl 4 rfl) ?_
  refine lv_iconst (v := nI 0) hx hb d_Law_join_2 (by decide) ?_
  refine lv_aload_n hx hb d_Law_join_3 rfl (lv_at hl 0 rfl) ?_
  refine lv_iload_n hx hb d_Law_join_4 rfl (lv_at hl 1 rfl) ?_
  refine lv_iload_n hx hb d_Law_join_5 rfl (lv_at hl 2 rfl) ?_
  refine lv_iload_n hx hb d_Law_join_6 rfl (lv_at hl 3 rfl) ?_
  refine ct_catchV (C := "java/lang/IllegalArgumentException") (Cr := R_Net) (ci := 8) (As := [.int x, .int y, .int z9]) (rest := [.int (nI 0), .ref qo]) hz ⟨hx, hb, hml, hown, ht⟩ hM (cb_V ht kc_Net_join kl_Law_47 kn_Net ki_Net_join ks_Net_join hd_Net_join ⟨Nat.le_of_ble_eq_true rfl, Nat.le_of_ble_eq_true rfl⟩) (wd_mem 1 rfl mN) rfl rfl (wd_ct (Bs := [[(qo, .inl (cJ, 1, .inr (.inl fo)))], ws]) 2 rfl [1] [0] (by decide) (wd_1 _)) hK hP hD hS hA rfl hl.1 rfl (Nat.le_of_ble_eq_true rfl) ⟨Nat.le_refl _, Nat.le_refl _⟩ d_Law_join_7 [⟨0, 12, 15, 19⟩] ⟨0, 12, 19, 13⟩ [] htab (by decide) (by decide) (ht _ kl_Law_13) (fun thrown hpl ho hcl z hz9 => by rw [List.mem_singleton.mp hz9]; exact passed_of hpl hz.1.1 hnc ho (by decide) (ht _ kl_Law_19) hcl) (fun a9 u9 H locs hpo hP hD hS => ?_)
  refine W.widen (k := 1) (n := 6) (Nat.le_refl _) (Nat.le_refl _) ?_
  have hP := wd_nP (N := [u9]) (wd_1 _) 2 rfl [1, 0] (by decide) hP
  have hD := wd_nD (N := [u9]) (wd_1 _) 2 rfl [1, 0] (by decide) hD
  have hP : va_P D kls (List.flatten [[(qo, .inl (cJ, 1, .inr (.inl fo)))], u9]) H := hP
  have hD : va_D A (List.flatten [[(qo, .inl (cJ, 1, .inr (.inl fo)))], u9]) := hD
  refine W.eq (g2 := F0 m 19 ls [.ref a9]) rfl ?_
  refine lv_astore hx hb d_Law_join_19 hl (by decide) rfl (fun ls hl => ?_)
  have hl : lv_has ls 6 [(5, .ref a9), (0, .ref h), (1, .int x), (2, .int y), (3, .int z9), (4, .ref qo)] := hl
  refine lv_iconst (v := nI 2) hx hb d_Law_join_21 (by decide) ?_
  exact ct_iret hQ hx hb hr hlk hP hD hS hK (Nat.le_refl _) (Nat.le_refl _) d_Law_join_22 ⟨rfl, u9, hpo, rfl⟩
set_option maxHeartbeats 800000 in
set_option maxRecDepth 100000 in
theorem x_Law_join_room (l : Launch) (s0 : State) (D : va_G) (cI cZ cJ cG : ClassId) {h qo : Nat} {fo : Nat → Int64} {ws : va_W} (hm : ∃ fs, (h, Sum.inr (8, fs)) ∈ ws) (x y z9 : Int32) (A0 : Array Value) (hnc : nc_0 A0 s0) {post : va_W → Prop} (hM : ct_X l s0 D kls (ty4 cI cZ cJ cG) y_Net_join ws_Net_join (rm_ 7 102 1 6) [.ref h, .int x, .int y, .int z9] ws "java/lang/IllegalStateException" post 1 6) : ct_H l s0 D kls (ty4 cI cZ cJ cG) y_Law_join wh_join (rm_ 8 126 1 6) [.ref h, .int x, .int y, .int z9, .ref qo] (List.flatten [[(qo, .inl (cJ, 1, .inr (.inl fo)))], ws]) (fun z u => z = nI 1 ∧ ∃ u2, post u2 ∧ u = List.flatten [[(qo, .inl (cJ, 1, .inr (.inl fo)))], u2]) 1 6 := by
  obtain ⟨fs8, mN⟩ := hm
  refine ct_enterH (cc := b_Law_join) (maxL := 6) (ret := (some .int)) (hs := [(0, 12, 15, 19), (0, 12, 19, 13)]) (by decide +kernel) (Nat.le_of_ble_eq_true rfl) ?_
  intro p e s m args below meth c hx hb hml hr ht hown hlk hnm A Q hA hK hP hD hQ ls hl hz htab
  have hown : s.vm.findClass R_Law = some m.cls := hown
  have hS : va_S A s.heap s.heap [] := va_S.rf
  have hl : lv_has ls 6 [(0, .ref h), (1, .int x), (2, .int y), (3, .int z9), (4, .ref qo)] := hl
  refine lv_aload hx hb d_Law_join_0 (lv_at hl 4 rfl) ?_
  refine lv_iconst (v := nI 0) hx hb d_Law_join_2 (by decide) ?_
  refine lv_aload_n hx hb d_Law_join_3 rfl (lv_at hl 0 rfl) ?_
  refine lv_iload_n hx hb d_Law_join_4 rfl (lv_at hl 1 rfl) ?_
  refine lv_iload_n hx hb d_Law_join_5 rfl (lv_at hl 2 rfl) ?_
  refine lv_iload_n hx hb d_Law_join_6 rfl (lv_at hl 3 rfl) ?_
  refine ct_catchV (C := "java/lang/IllegalStateException") (Cr := R_Net) (ci := 8) (As := [.int x, .int y, .int z9]) (rest := [.int (nI 0), .ref qo]) hz ⟨hx, hb, hml, hown, ht⟩ hM (cb_V ht kc_Net_join kl_Law_47 kn_Net ki_Net_join ks_Net_join hd_Net_join ⟨Nat.le_of_ble_eq_true rfl, Nat.le_of_ble_eq_true rfl⟩) (wd_mem 1 rfl mN) rfl rfl (wd_ct (Bs := [[(qo, .inl (cJ, 1, .inr (.inl fo)))], ws]) 2 rfl [1] [0] (by decide) (wd_1 _)) hK hP hD hS hA rfl hl.1 rfl (Nat.le_of_ble_eq_true rfl) ⟨Nat.le_refl _, Nat.le_refl _⟩ d_Law_join_7 [] ⟨0, 12, 15, 19⟩ [⟨0, 12, 19, 13⟩] htab (by decide) (by decide) (ht _ kl_Law_19) (fun thrown hpl ho hcl z hz9 => by cases hz9) (fun a9 u9 H locs hpo hP hD hS => ?_)
  refine W.widen (k := 1) (n := 6) (Nat.le_refl _) (Nat.le_refl _) ?_
  have hP := wd_nP (N := [u9]) (wd_1 _) 2 rfl [1, 0] (by decide) hP
  have hD := wd_nD (N := [u9]) (wd_1 _) 2 rfl [1, 0] (by decide) hD
  have hP : va_P D kls (List.flatten [[(qo, .inl (cJ, 1, .inr (.inl fo)))], u9]) H := hP
  have hD : va_D A (List.flatten [[(qo, .inl (cJ, 1, .inr (.inl fo)))], u9]) := hD
  refine W.eq (g2 := F0 m 15 ls [.ref a9]) rfl ?_
  refine lv_astore hx hb d_Law_join_15 hl (by decide) rfl (fun ls hl => ?_)
  have hl : lv_has ls 6 [(5, .ref a9), (0, .ref h), (1, .int x), (2, .int y), (3, .int z9), (4, .ref qo)] := hl
  refine lv_iconst (v := nI 1) hx hb d_Law_join_17 (by decide) ?_
  exact ct_iret hQ hx hb hr hlk hP hD hS hK (Nat.le_refl _) (Nat.le_refl _) d_Law_join_18 ⟨rfl, u9, hpo, rfl⟩
