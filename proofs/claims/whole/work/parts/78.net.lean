/-! BitNet: its cells, its constructor. -/
/-- what a BitNet is: edges (bits, those taken, how many), links (state, known), control (advertisements, stores, messages, changes; messages lost), data, groups -/
abbrev bm_S : Type := (Nat → Option Nat) × Int32 × Nat × (Nat → Nat → Nat) × (Nat → Nat → Nat) × bm_T × Int32 × bm_D × bm_G
abbrev bm_S.eb (S : bm_S) : Nat → Option Nat := S.1
abbrev bm_S.tk (S : bm_S) : Int32 := S.2.1
abbrev bm_S.es (S : bm_S) : Nat := S.2.2.1
abbrev bm_S.lk (S : bm_S) : Nat → Nat → Nat := S.2.2.2.1
abbrev bm_S.kn (S : bm_S) : Nat → Nat → Nat := S.2.2.2.2.1
abbrev bm_S.T (S : bm_S) : bm_T := S.2.2.2.2.2.1
abbrev bm_S.lost (S : bm_S) : Int32 := S.2.2.2.2.2.2.1
abbrev bm_S.D (S : bm_S) : bm_D := S.2.2.2.2.2.2.2.1
abbrev bm_S.G (S : bm_S) : bm_G := S.2.2.2.2.2.2.2.2
abbrev nt_w (h aE aL aS aK aR aD aG aM aP aC : Nat) (lost : Int32) (wE wL wS wM wR wD wG : va_W) : va_W := List.flatten [[(h, .inr (8, [.ref aE, .ref aL, .ref aS, .ref aK, .ref aR, .ref aD, .ref aG]))], [(aK, .inr (4, [.ref aL, .ref aS, .ref aM, .int lost]))], wE, wL, wS, wM, wR, wD, wG]
/-- a BitNet at h -/
def nt_R (cI cZ cG : ClassId) (h : Nat) (S : bm_S) (ws : va_W) : Prop := ∃ (aE aL aS aK aR aD aG aM aP aC : Nat) (wE wL wS wM wR wD wG : va_W), ws = nt_w h aE aL aS aK aR aD aG aM aP aC S.lost wE wL wS wM wR wD wG ∧ ed_R cI aE S.eb S.tk (nI S.es) wE ∧ lk_R cI cG aL S.lk S.kn wL ∧ so_R cI cG aS S.T.1 S.T.2.1 S.T.2.2.2 wS ∧ rw_R cI 3 S.T.2.2.1.1 S.T.2.2.1.2.1 (gN S.T.2.2.1.2.2) aM wM ∧ rt_R cI cZ cG aR aS aE S.T.1.2.2 S.T.2.1 S.T.2.2.2 S.eb S.es wR ∧ da_R cI aD aL aE aR aP aC S.D wD ∧ gp_R cI cG aG aE S.G wG
def bm_S0 : bm_S := ⟨fun _ => none, 0, 0, fun _ _ => 0, fun _ _ => 0, ((16, 1, fun _ _ => 0), fun _ _ => 0, (16, 0, fun _ _ => 0), fun _ => 0), 0, ((16, 0, fun _ _ => 0), (16, 0, fun _ _ => 0), 0, 0, 0), bm_G0 (fun _ _ => 0)⟩
theorem bm_mask_none (w : Nat → Nat → Nat) (r n : Nat) : ∀ k, bm_mask w (fun _ => none) r n k = 0
  | 0 => rfl
  | k + 1 => by
    unfold bm_mask
    rw [bm_mask_none w r n k]
    split
    · decide
    · rfl
set_option maxHeartbeats 4000000 in
set_option maxRecDepth 100000 in
theorem k_Net_init (l : Launch) (D : va_G) (cI cZ cJ cG : ClassId) (h : Nat)  : ct_N l D kls (ty4 cI cZ cJ cG) y_Net_init ws_Net_init (rm_ 4 93 104 1470) [.ref h] ([(h, .inr (8, [.null, .null, .null, .null, .null, .null, .null]))]) (fun u => nt_R cI cZ cG h bm_S0 u) 104 1470 := by
  refine ct_enterN (cc := b_Net_init) (maxL := 1) (ret := none) (by decide +kernel) (Nat.le_of_ble_eq_true rfl) ?_
  intro p e s m args below meth c hx hb hml hr ht hown hlk hnm A Q hA hK hP hD hQ ls hl hZ
  have hown : s.vm.findClass R_Net = some m.cls := hown
  have hS : va_S A s.heap s.heap [] := va_S.rf
  have hl : lv_has ls 1 [(0, .ref h)] := hl
  have hP : va_P D kls (List.flatten [[(h, .inr (8, [.null, .null, .null, .null, .null, .null, .null]))]]) s.heap := hP
  have hD : va_D A (List.flatten [[(h, .inr (8, [.null, .null, .null, .null, .null, .null, .null]))]]) := hD
  refine lv_aload_n hx hb d_Net_init_0 rfl (lv_at hl 0 rfl) ?_
  refine W.objInit hx hb hown (ht _ kl_Net_1) (ht _ ki_objectInit) (ht _ kc_objectInit) rfl (by rw [hml]; exact hl.1) rfl d_Net_init_1 (Nat.le_of_ble_eq_true rfl) (Nat.le_of_ble_eq_true rfl) ?_
  refine W.eq (g2 := F0 m 4 ls []) rfl ?_
  refine lv_aload_n hx hb d_Net_init_4 rfl (lv_at hl 0 rfl) ?_
  refine va_new (D := D) (ci := 1) (C := R_Edges) (T := T_Edges) (N := 3) (fs := [.null, .int (nI 0), .int (nI 0)]) hx hb ht in_Edges t_Edges ok_Edges hown (ht _ kl_Net_7) (ht _ kt_Edges) (ht _ kn_Edges) hK hP hD hS hA rfl (fun j hj => by rcases nt_lt3 hj with rfl | rfl | rfl <;> rfl) (show 0 + 1 ≤ 104 by omega) (show 0 + 3 ≤ 1470 by omega) d_Net_init_5 (fun o5 H hP hD hS => ?_)
  rw [fl_add] at hP hD
  have hP : va_P D kls (List.flatten [[(h, .inr (8, [.null, .null, .null, .null, .null, .null, .null]))], [(o5, .inr (1, [.null, .int (nI 0), .int (nI 0)]))]]) H := hP
  have hD : va_D A (List.flatten [[(h, .inr (8, [.null, .null, .null, .null, .null, .null, .null]))], [(o5, .inr (1, [.null, .int (nI 0), .int (nI 0)]))]]) := hD
  refine lv_dup hx hb d_Net_init_8 rfl ?_
  refine ct_callIN (As := []) (rest := [.ref o5, .ref h]) ⟨hx, hb, hml, hown, ht⟩ (c_Edges_init l D cI cZ cJ cG o5) ⟨va_cnB 0 ht (tb_good kc_Edges_init) rfl rfl rfl hZ.2.1 (ht _ kn_Edges) hd_Edges_init ⟨Nat.le_of_ble_eq_true rfl, Nat.le_of_ble_eq_true rfl⟩, rfl, ht _ ki_Edges_init⟩ (wd_ct (Bs := [[(h, .inr (8, [.null, .null, .null, .null, .null, .null, .null]))], [(o5, .inr (1, [.null, .int (nI 0), .int (nI 0)]))]]) 2 rfl [1] [0] (by decide) (wd_1 _)) hK hP hD hS hA rfl hl.1 rfl (Nat.le_of_ble_eq_true rfl) ⟨(show (0 + 1) + 1 ≤ 104 by omega), (show (0 + 3) + 12 ≤ 1470 by omega)⟩ d_Net_init_9 (fun u1 H locs hu1 hP hD hS => ?_)
  have kE : ed_R cI o5 (fun _ => none) (nI 0) (nI 0) u1 := hu1
  have hP := wd_nP (N := [u1]) (wd_1 _) 2 rfl [1, 0] (by decide) hP
  have hD := wd_nD (N := [u1]) (wd_1 _) 2 rfl [1, 0] (by decide) hD
  have hP : va_P D kls (List.flatten [[(h, .inr (8, [.null, .null, .null, .null, .null, .null, .null]))], u1]) H := hP
  have hD : va_D A (List.flatten [[(h, .inr (8, [.null, .null, .null, .null, .null, .null, .null]))], u1]) := hD
  refine W.eq (g2 := F0 m 12 ls [.ref o5, .ref h]) rfl ?_
  refine va_putF (D := D) (ci := 8) (v := .ref o5) (ty := (.object "BitNet$Edges")) (C := R_Net) (T := T_Net) (N := 7) hx hb ht in_Net t_Net ok_Net nm_Net hown hK hP hD hS 0 rfl rfl 0 (by decide) (ht _ kl_Net_10) (fun _ h9 => h9) rfl hnm rfl (by decide +kernel) rfl rfl (Nat.le_of_ble_eq_true rfl) d_Net_init_12 (fun H locs hP hD hS => ?_)
  have hP : va_P D kls (List.flatten [[(h, .inr (8, [.ref o5, .null, .null, .null, .null, .null, .null]))], u1]) H := hP
  have hD : va_D A (List.flatten [[(h, .inr (8, [.ref o5, .null, .null, .null, .null, .null, .null]))], u1]) := hD
  refine lv_aload_n hx hb d_Net_init_15 rfl (lv_at hl 0 rfl) ?_
  refine va_new (D := D) (ci := 2) (C := R_Links) (T := T_Links) (N := 2) (fs := [.null, .null]) hx hb ht in_Links t_Links ok_Links hown (ht _ kl_Net_16) (ht _ kt_Links) (ht _ kn_Links) hK hP hD hS hA rfl (fun j hj => by rcases nt_lt2 hj with rfl | rfl <;> rfl) (show ((0 + 1) + 1) + 1 ≤ 104 by omega) (show ((0 + 3) + 12) + 2 ≤ 1470 by omega) d_Net_init_16 (fun o16 H hP hD hS => ?_)
  rw [fl_add] at hP hD
  have hP := wd_rP 3 rfl [0, 2, 1] (by decide) hP
  have hD := wd_rD 3 rfl [0, 2, 1] (by decide) hD
  have hP : va_P D kls (List.flatten [[(h, .inr (8, [.ref o5, .null, .null, .null, .null, .null, .null]))], [(o16, .inr (2, [.null, .null]))], u1]) H := hP
  have hD : va_D A (List.flatten [[(h, .inr (8, [.ref o5, .null, .null, .null, .null, .null, .null]))], [(o16, .inr (2, [.null, .null]))], u1]) := hD
  refine lv_dup hx hb d_Net_init_19 rfl ?_
  refine ct_callNN hZ (As := []) (rest := [.ref o16, .ref h]) ⟨hx, hb, hml, hown, ht⟩ (k_Links_init l D cI cZ cJ cG o16) ⟨va_cnB 0 ht (tb_good kc_Links_init) rfl rfl rfl hZ.2.2 (ht _ kn_Links) hd_Links_init ⟨Nat.le_of_ble_eq_true rfl, Nat.le_of_ble_eq_true rfl⟩, rfl, ht _ ki_Links_init⟩ (wd_ct (Bs := [[(h, .inr (8, [.ref o5, .null, .null, .null, .null, .null, .null]))], [(o16, .inr (2, [.null, .null]))], u1]) 3 rfl [1] [0, 2] (by decide) (wd_1 _)) hK hP hD hS hA rfl hl.1 rfl (Nat.le_of_ble_eq_true rfl) ⟨(show (((0 + 1) + 1) + 1) + 26 ≤ 104 by omega), (show (((0 + 3) + 12) + 2) + 312 ≤ 1470 by omega)⟩ d_Net_init_20 (fun u2 H locs hu2 hP hD hS => ?_)
  have kL := hu2
  have hP := wd_nP (N := [u2]) (wd_1 _) 3 rfl [1, 0, 2] (by decide) hP
  have hD := wd_nD (N := [u2]) (wd_1 _) 3 rfl [1, 0, 2] (by decide) hD
  have hP : va_P D kls (List.flatten [[(h, .inr (8, [.ref o5, .null, .null, .null, .null, .null, .null]))], u2, u1]) H := hP
  have hD : va_D A (List.flatten [[(h, .inr (8, [.ref o5, .null, .null, .null, .null, .null, .null]))], u2, u1]) := hD
  refine W.eq (g2 := F0 m 23 ls [.ref o16, .ref h]) rfl ?_
  refine va_putF (D := D) (ci := 8) (v := .ref o16) (ty := (.object "BitNet$Links")) (C := R_Net) (T := T_Net) (N := 7) hx hb ht in_Net t_Net ok_Net nm_Net hown hK hP hD hS 0 rfl rfl 1 (by decide) (ht _ kl_Net_19) (fun _ h9 => h9) rfl hnm rfl (by decide +kernel) rfl rfl (Nat.le_of_ble_eq_true rfl) d_Net_init_23 (fun H locs hP hD hS => ?_)
  have hP : va_P D kls (List.flatten [[(h, .inr (8, [.ref o5, .ref o16, .null, .null, .null, .null, .null]))], u2, u1]) H := hP
  have hD : va_D A (List.flatten [[(h, .inr (8, [.ref o5, .ref o16, .null, .null, .null, .null, .null]))], u2, u1]) := hD
  refine lv_aload_n hx hb d_Net_init_26 rfl (lv_at hl 0 rfl) ?_
  refine va_new (D := D) (ci := 3) (C := R_Stores) (T := T_Stores) (N := 3) (fs := [.null, .null, .null]) hx hb ht in_Stores t_Stores ok_Stores hown (ht _ kl_Net_23) (ht _ kt_Stores) (ht _ kn_Stores) hK hP hD hS hA rfl (fun j hj => by rcases nt_lt3 hj with rfl | rfl | rfl <;> rfl) (show ((((0 + 1) + 1) + 1) + 26) + 1 ≤ 104 by omega) (show ((((0 + 3) + 12) + 2) + 312) + 3 ≤ 1470 by omega) d_Net_init_27 (fun o27 H hP hD hS => ?_)
  rw [fl_add] at hP hD
  have hP := wd_rP 4 rfl [0, 3, 1, 2] (by decide) hP
  have hD := wd_rD 4 rfl [0, 3, 1, 2] (by decide) hD
  have hP : va_P D kls (List.flatten [[(h, .inr (8, [.ref o5, .ref o16, .null, .null, .null, .null, .null]))], [(o27, .inr (3, [.null, .null, .null]))], u2, u1]) H := hP
  have hD : va_D A (List.flatten [[(h, .inr (8, [.ref o5, .ref o16, .null, .null, .null, .null, .null]))], [(o27, .inr (3, [.null, .null, .null]))], u2, u1]) := hD
  refine lv_dup hx hb d_Net_init_30 rfl ?_
  refine ct_callN hZ (As := []) (rest := [.ref o27, .ref h]) ⟨hx, hb, hml, hown, ht⟩ (k_Stores_init l D cI cZ cJ cG o27) (cb_I ht kc_Stores_init kl_Net_25 kn_Stores ki_Stores_init hd_Stores_init rfl ⟨Nat.le_of_ble_eq_true rfl, Nat.le_of_ble_eq_true rfl⟩) (wd_ct (Bs := [[(h, .inr (8, [.ref o5, .ref o16, .null, .null, .null, .null, .null]))], [(o27, .inr (3, [.null, .null, .null]))], u2, u1]) 4 rfl [1] [0, 2, 3] (by decide) (wd_1 _)) hK hP hD hS hA rfl hl.1 rfl (Nat.le_of_ble_eq_true rfl) ⟨(show (((((0 + 1) + 1) + 1) + 26) + 1) + 16 ≤ 104 by omega), (show (((((0 + 3) + 12) + 2) + 312) + 3) + 396 ≤ 1470 by omega)⟩ d_Net_init_31 (fun u3 H locs hu3 hP hD hS => ?_)
  have kS := hu3
  have hP := wd_nP (N := [u3]) (wd_1 _) 4 rfl [1, 0, 2, 3] (by decide) hP
  have hD := wd_nD (N := [u3]) (wd_1 _) 4 rfl [1, 0, 2, 3] (by decide) hD
  have hP : va_P D kls (List.flatten [[(h, .inr (8, [.ref o5, .ref o16, .null, .null, .null, .null, .null]))], u3, u2, u1]) H := hP
  have hD : va_D A (List.flatten [[(h, .inr (8, [.ref o5, .ref o16, .null, .null, .null, .null, .null]))], u3, u2, u1]) := hD
  refine W.eq (g2 := F0 m 34 ls [.ref o27, .ref h]) rfl ?_
  refine va_putF (D := D) (ci := 8) (v := .ref o27) (ty := (.object "BitNet$Stores")) (C := R_Net) (T := T_Net) (N := 7) hx hb ht in_Net t_Net ok_Net nm_Net hown hK hP hD hS 0 rfl rfl 2 (by decide) (ht _ kl_Net_26) (fun _ h9 => h9) rfl hnm rfl (by decide +kernel) rfl rfl (Nat.le_of_ble_eq_true rfl) d_Net_init_34 (fun H locs hP hD hS => ?_)
  have hP : va_P D kls (List.flatten [[(h, .inr (8, [.ref o5, .ref o16, .ref o27, .null, .null, .null, .null]))], u3, u2, u1]) H := hP
  have hD : va_D A (List.flatten [[(h, .inr (8, [.ref o5, .ref o16, .ref o27, .null, .null, .null, .null]))], u3, u2, u1]) := hD
  refine lv_aload_n hx hb d_Net_init_37 rfl (lv_at hl 0 rfl) ?_
  refine va_new (D := D) (ci := 4) (C := R_Control) (T := T_Control) (N := 4) (fs := [.null, .null, .null, .int (nI 0)]) hx hb ht in_Control t_Control ok_Control hown (ht _ kl_Net_30) (ht _ kt_Control) (ht _ kn_Control) hK hP hD hS hA rfl (fun j hj => by rcases nt_lt4 hj with rfl | rfl | rfl | rfl <;> rfl) (show ((((((0 + 1) + 1) + 1) + 26) + 1) + 16) + 1 ≤ 104 by omega) (show ((((((0 + 3) + 12) + 2) + 312) + 3) + 396) + 4 ≤ 1470 by omega) d_Net_init_38 (fun o38 H hP hD hS => ?_)
  rw [fl_add] at hP hD
  have hP := wd_rP 5 rfl [0, 4, 1, 2, 3] (by decide) hP
  have hD := wd_rD 5 rfl [0, 4, 1, 2, 3] (by decide) hD
  have hP : va_P D kls (List.flatten [[(h, .inr (8, [.ref o5, .ref o16, .ref o27, .null, .null, .null, .null]))], [(o38, .inr (4, [.null, .null, .null, .int (nI 0)]))], u3, u2, u1]) H := hP
  have hD : va_D A (List.flatten [[(h, .inr (8, [.ref o5, .ref o16, .ref o27, .null, .null, .null, .null]))], [(o38, .inr (4, [.null, .null, .null, .int (nI 0)]))], u3, u2, u1]) := hD
  refine lv_dup hx hb d_Net_init_41 rfl ?_
  refine lv_aload_n hx hb d_Net_init_42 rfl (lv_at hl 0 rfl) ?_
  refine va_get (D := D) (ci := 8) (v := .ref o16) (C := R_Net) (T := T_Net) (N := 7) hx hb ht in_Net hown hK hP 0 rfl rfl 1 (by decide) (ht _ kl_Net_19) (fun _ h9 => h9) rfl d_Net_init_43 ?_
  refine lv_aload_n hx hb d_Net_init_46 rfl (lv_at hl 0 rfl) ?_
  refine va_get (D := D) (ci := 8) (v := .ref o27) (C := R_Net) (T := T_Net) (N := 7) hx hb ht in_Net hown hK hP 0 rfl rfl 2 (by decide) (ht _ kl_Net_26) (fun _ h9 => h9) rfl d_Net_init_47 ?_
  refine ct_callI (As := [.ref o16, .ref o27]) (rest := [.ref o38, .ref h]) ⟨hx, hb, hml, hown, ht⟩ (k_Control_init l D cI cZ cJ cG o38 o16 o27) (cb_I ht kc_Control_init kl_Net_32 kn_Control ki_Control_init hd_Control_init rfl ⟨Nat.le_of_ble_eq_true rfl, Nat.le_of_ble_eq_true rfl⟩) (wd_ct (Bs := [[(h, .inr (8, [.ref o5, .ref o16, .ref o27, .null, .null, .null, .null]))], [(o38, .inr (4, [.null, .null, .null, .int (nI 0)]))], u3, u2, u1]) 5 rfl [1] [0, 2, 3, 4] (by decide) (wd_1 _)) hK hP hD hS hA rfl hl.1 rfl (Nat.le_of_ble_eq_true rfl) ⟨(show (((((((0 + 1) + 1) + 1) + 26) + 1) + 16) + 1) + 2 ≤ 104 by omega), (show (((((((0 + 3) + 12) + 2) + 312) + 3) + 396) + 4) + 52 ≤ 1470 by omega)⟩ d_Net_init_50 (fun u4 H locs hu4 hP hD hS => ?_)
  obtain ⟨aM, wM, rfl, kM⟩ := hu4
  have hP := wd_nP (N := [[(o38, .inr (4, [.ref o16, .ref o27, .ref aM, .int (nI 0)]))], wM]) rfl 6 rfl [0, 2, 1, 3, 4, 5] (by decide) hP
  have hD := wd_nD (N := [[(o38, .inr (4, [.ref o16, .ref o27, .ref aM, .int (nI 0)]))], wM]) rfl 6 rfl [0, 2, 1, 3, 4, 5] (by decide) hD
  have hP : va_P D kls (List.flatten [[(o38, .inr (4, [.ref o16, .ref o27, .ref aM, .int (nI 0)]))], [(h, .inr (8, [.ref o5, .ref o16, .ref o27, .null, .null, .null, .null]))], wM, u3, u2, u1]) H := hP
  have hD : va_D A (List.flatten [[(o38, .inr (4, [.ref o16, .ref o27, .ref aM, .int (nI 0)]))], [(h, .inr (8, [.ref o5, .ref o16, .ref o27, .null, .null, .null, .null]))], wM, u3, u2, u1]) := hD
  refine W.eq (g2 := F0 m 53 ls [.ref o38, .ref h]) rfl ?_
  refine va_putF (D := D) (ci := 8) (v := .ref o38) (ty := (.object "BitNet$Control")) (C := R_Net) (T := T_Net) (N := 7) hx hb ht in_Net t_Net ok_Net nm_Net hown hK hP hD hS 1 rfl rfl 3 (by decide) (ht _ kl_Net_35) (fun _ h9 => h9) rfl hnm rfl (by decide +kernel) rfl rfl (Nat.le_of_ble_eq_true rfl) d_Net_init_53 (fun H locs hP hD hS => ?_)
  have hP : va_P D kls (List.flatten [[(o38, .inr (4, [.ref o16, .ref o27, .ref aM, .int (nI 0)]))], [(h, .inr (8, [.ref o5, .ref o16, .ref o27, .ref o38, .null, .null, .null]))], wM, u3, u2, u1]) H := hP
  have hD : va_D A (List.flatten [[(o38, .inr (4, [.ref o16, .ref o27, .ref aM, .int (nI 0)]))], [(h, .inr (8, [.ref o5, .ref o16, .ref o27, .ref o38, .null, .null, .null]))], wM, u3, u2, u1]) := hD
  refine lv_aload_n hx hb d_Net_init_56 rfl (lv_at hl 0 rfl) ?_
  refine va_new (D := D) (ci := 5) (C := R_Routes) (T := T_Routes) (N := 8) (fs := [.null, .null, .null, .null, .null, .null, .null, .null]) hx hb ht in_Routes t_Routes ok_Routes hown (ht _ kl_Net_39) (ht _ kt_Routes) (ht _ kn_Routes) hK hP hD hS hA rfl (fun j hj => by rcases nt_lt8 hj with rfl | rfl | rfl | rfl | rfl | rfl | rfl | rfl <;> rfl) (show ((((((((0 + 1) + 1) + 1) + 26) + 1) + 16) + 1) + 2) + 1 ≤ 104 by omega) (show ((((((((0 + 3) + 12) + 2) + 312) + 3) + 396) + 4) + 52) + 8 ≤ 1470 by omega) d_Net_init_57 (fun o57 H hP hD hS => ?_)
  rw [fl_add] at hP hD
  have hP := wd_rP 7 rfl [0, 1, 6, 2, 3, 4, 5] (by decide) hP
  have hD := wd_rD 7 rfl [0, 1, 6, 2, 3, 4, 5] (by decide) hD
  have hP : va_P D kls (List.flatten [[(o38, .inr (4, [.ref o16, .ref o27, .ref aM, .int (nI 0)]))], [(h, .inr (8, [.ref o5, .ref o16, .ref o27, .ref o38, .null, .null, .null]))], [(o57, .inr (5, [.null, .null, .null, .null, .null, .null, .null, .null]))], wM, u3, u2, u1]) H := hP
  have hD : va_D A (List.flatten [[(o38, .inr (4, [.ref o16, .ref o27, .ref aM, .int (nI 0)]))], [(h, .inr (8, [.ref o5, .ref o16, .ref o27, .ref o38, .null, .null, .null]))], [(o57, .inr (5, [.null, .null, .null, .null, .null, .null, .null, .null]))], wM, u3, u2, u1]) := hD
  refine lv_dup hx hb d_Net_init_60 rfl ?_
  refine lv_aload_n hx hb d_Net_init_61 rfl (lv_at hl 0 rfl) ?_
  refine va_get (D := D) (ci := 8) (v := .ref o27) (C := R_Net) (T := T_Net) (N := 7) hx hb ht in_Net hown hK hP 1 rfl rfl 2 (by decide) (ht _ kl_Net_26) (fun _ h9 => h9) rfl d_Net_init_62 ?_
  refine lv_aload_n hx hb d_Net_init_65 rfl (lv_at hl 0 rfl) ?_
  refine va_get (D := D) (ci := 8) (v := .ref o5) (C := R_Net) (T := T_Net) (N := 7) hx hb ht in_Net hown hK hP 1 rfl rfl 0 (by decide) (ht _ kl_Net_10) (fun _ h9 => h9) rfl d_Net_init_66 ?_
  refine ct_callN hZ (As := [.ref o27, .ref o5]) (rest := [.ref o57, .ref h]) ⟨hx, hb, hml, hown, ht⟩ (k_Routes_init l D cI cZ cJ cG o57 o27 o5) (cb_I ht kc_Routes_init kl_Net_41 kn_Routes ki_Routes_init hd_Routes_init rfl ⟨Nat.le_of_ble_eq_true rfl, Nat.le_of_ble_eq_true rfl⟩) (wd_ct (Bs := [[(o38, .inr (4, [.ref o16, .ref o27, .ref aM, .int (nI 0)]))], [(h, .inr (8, [.ref o5, .ref o16, .ref o27, .ref o38, .null, .null, .null]))], [(o57, .inr (5, [.null, .null, .null, .null, .null, .null, .null, .null]))], wM, u3, u2, u1]) 7 rfl [2] [0, 1, 3, 4, 5, 6] (by decide) (wd_1 _)) hK hP hD hS hA rfl hl.1 rfl (Nat.le_of_ble_eq_true rfl) ⟨(show (((((((((0 + 1) + 1) + 1) + 26) + 1) + 16) + 1) + 2) + 1) + 30 ≤ 104 by omega), (show (((((((((0 + 3) + 12) + 2) + 312) + 3) + 396) + 4) + 52) + 8) + 360 ≤ 1470 by omega)⟩ d_Net_init_69 (fun u5 H locs hu5 hP hD hS => ?_)
  have kR := hu5
  have hP := wd_nP (N := [u5]) (wd_1 _) 7 rfl [1, 2, 0, 3, 4, 5, 6] (by decide) hP
  have hD := wd_nD (N := [u5]) (wd_1 _) 7 rfl [1, 2, 0, 3, 4, 5, 6] (by decide) hD
  have hP : va_P D kls (List.flatten [[(o38, .inr (4, [.ref o16, .ref o27, .ref aM, .int (nI 0)]))], [(h, .inr (8, [.ref o5, .ref o16, .ref o27, .ref o38, .null, .null, .null]))], u5, wM, u3, u2, u1]) H := hP
  have hD : va_D A (List.flatten [[(o38, .inr (4, [.ref o16, .ref o27, .ref aM, .int (nI 0)]))], [(h, .inr (8, [.ref o5, .ref o16, .ref o27, .ref o38, .null, .null, .null]))], u5, wM, u3, u2, u1]) := hD
  refine W.eq (g2 := F0 m 72 ls [.ref o57, .ref h]) rfl ?_
  refine va_putF (D := D) (ci := 8) (v := .ref o57) (ty := (.object "BitNet$Routes")) (C := R_Net) (T := T_Net) (N := 7) hx hb ht in_Net t_Net ok_Net nm_Net hown hK hP hD hS 1 rfl rfl 4 (by decide) (ht _ kl_Net_44) (fun _ h9 => h9) rfl hnm rfl (by decide +kernel) rfl rfl (Nat.le_of_ble_eq_true rfl) d_Net_init_72 (fun H locs hP hD hS => ?_)
  have hP : va_P D kls (List.flatten [[(o38, .inr (4, [.ref o16, .ref o27, .ref aM, .int (nI 0)]))], [(h, .inr (8, [.ref o5, .ref o16, .ref o27, .ref o38, .ref o57, .null, .null]))], u5, wM, u3, u2, u1]) H := hP
  have hD : va_D A (List.flatten [[(o38, .inr (4, [.ref o16, .ref o27, .ref aM, .int (nI 0)]))], [(h, .inr (8, [.ref o5, .ref o16, .ref o27, .ref o38, .ref o57, .null, .null]))], u5, wM, u3, u2, u1]) := hD
  refine lv_aload_n hx hb d_Net_init_75 rfl (lv_at hl 0 rfl) ?_
  refine va_new (D := D) (ci := 6) (C := R_Data) (T := T_Data) (N := 8) (fs := [.null, .null, .null, .null, .null, .int (nI 0), .int (nI 0), .int (nI 0)]) hx hb ht in_Data t_Data ok_Data hown (ht _ kl_Net_48) (ht _ kt_Data) (ht _ kn_Data) hK hP hD hS hA rfl (fun j hj => by rcases nt_lt8 hj with rfl | rfl | rfl | rfl | rfl | rfl | rfl | rfl <;> rfl) (show ((((((((((0 + 1) + 1) + 1) + 26) + 1) + 16) + 1) + 2) + 1) + 30) + 1 ≤ 104 by omega) (show ((((((((((0 + 3) + 12) + 2) + 312) + 3) + 396) + 4) + 52) + 8) + 360) + 8 ≤ 1470 by omega) d_Net_init_76 (fun o76 H hP hD hS => ?_)
  rw [fl_add] at hP hD
  have hP := wd_rP 8 rfl [0, 1, 7, 2, 3, 4, 5, 6] (by decide) hP
  have hD := wd_rD 8 rfl [0, 1, 7, 2, 3, 4, 5, 6] (by decide) hD
  have hP : va_P D kls (List.flatten [[(o38, .inr (4, [.ref o16, .ref o27, .ref aM, .int (nI 0)]))], [(h, .inr (8, [.ref o5, .ref o16, .ref o27, .ref o38, .ref o57, .null, .null]))], [(o76, .inr (6, [.null, .null, .null, .null, .null, .int (nI 0), .int (nI 0), .int (nI 0)]))], u5, wM, u3, u2, u1]) H := hP
  have hD : va_D A (List.flatten [[(o38, .inr (4, [.ref o16, .ref o27, .ref aM, .int (nI 0)]))], [(h, .inr (8, [.ref o5, .ref o16, .ref o27, .ref o38, .ref o57, .null, .null]))], [(o76, .inr (6, [.null, .null, .null, .null, .null, .int (nI 0), .int (nI 0), .int (nI 0)]))], u5, wM, u3, u2, u1]) := hD
  refine lv_dup hx hb d_Net_init_79 rfl ?_
  refine lv_aload_n hx hb d_Net_init_80 rfl (lv_at hl 0 rfl) ?_
  refine va_get (D := D) (ci := 8) (v := .ref o16) (C := R_Net) (T := T_Net) (N := 7) hx hb ht in_Net hown hK hP 1 rfl rfl 1 (by decide) (ht _ kl_Net_19) (fun _ h9 => h9) rfl d_Net_init_81 ?_
  refine lv_aload_n hx hb d_Net_init_84 rfl (lv_at hl 0 rfl) ?_
  refine va_get (D := D) (ci := 8) (v := .ref o5) (C := R_Net) (T := T_Net) (N := 7) hx hb ht in_Net hown hK hP 1 rfl rfl 0 (by decide) (ht _ kl_Net_10) (fun _ h9 => h9) rfl d_Net_init_85 ?_
  refine lv_aload_n hx hb d_Net_init_88 rfl (lv_at hl 0 rfl) ?_
  refine va_get (D := D) (ci := 8) (v := .ref o57) (C := R_Net) (T := T_Net) (N := 7) hx hb ht in_Net hown hK hP 1 rfl rfl 4 (by decide) (ht _ kl_Net_44) (fun _ h9 => h9) rfl d_Net_init_89 ?_
  refine ct_callI (As := [.ref o16, .ref o5, .ref o57]) (rest := [.ref o76, .ref h]) ⟨hx, hb, hml, hown, ht⟩ (k_Data_init l D cI cZ cJ cG o76 o16 o5 o57) (cb_I ht kc_Data_init kl_Net_50 kn_Data ki_Data_init hd_Data_init rfl ⟨Nat.le_of_ble_eq_true rfl, Nat.le_of_ble_eq_true rfl⟩) (wd_ct (Bs := [[(o38, .inr (4, [.ref o16, .ref o27, .ref aM, .int (nI 0)]))], [(h, .inr (8, [.ref o5, .ref o16, .ref o27, .ref o38, .ref o57, .null, .null]))], [(o76, .inr (6, [.null, .null, .null, .null, .null, .int (nI 0), .int (nI 0), .int (nI 0)]))], u5, wM, u3, u2, u1]) 8 rfl [2] [0, 1, 3, 4, 5, 6, 7] (by decide) (wd_1 _)) hK hP hD hS hA rfl hl.1 rfl (Nat.le_of_ble_eq_true rfl) ⟨(show (((((((((((0 + 1) + 1) + 1) + 26) + 1) + 16) + 1) + 2) + 1) + 30) + 1) + 4 ≤ 104 by omega), (show (((((((((((0 + 3) + 12) + 2) + 312) + 3) + 396) + 4) + 52) + 8) + 360) + 8) + 120 ≤ 1470 by omega)⟩ d_Net_init_92 (fun u6 H locs hu6 hP hD hS => ?_)
  obtain ⟨aP, aC, kD⟩ := hu6
  have hP := wd_nP (N := [u6]) (wd_1 _) 8 rfl [1, 2, 0, 3, 4, 5, 6, 7] (by decide) hP
  have hD := wd_nD (N := [u6]) (wd_1 _) 8 rfl [1, 2, 0, 3, 4, 5, 6, 7] (by decide) hD
  have hP : va_P D kls (List.flatten [[(o38, .inr (4, [.ref o16, .ref o27, .ref aM, .int (nI 0)]))], [(h, .inr (8, [.ref o5, .ref o16, .ref o27, .ref o38, .ref o57, .null, .null]))], u6, u5, wM, u3, u2, u1]) H := hP
  have hD : va_D A (List.flatten [[(o38, .inr (4, [.ref o16, .ref o27, .ref aM, .int (nI 0)]))], [(h, .inr (8, [.ref o5, .ref o16, .ref o27, .ref o38, .ref o57, .null, .null]))], u6, u5, wM, u3, u2, u1]) := hD
  refine W.eq (g2 := F0 m 95 ls [.ref o76, .ref h]) rfl ?_
  refine va_putF (D := D) (ci := 8) (v := .ref o76) (ty := (.object "BitNet$Data")) (C := R_Net) (T := T_Net) (N := 7) hx hb ht in_Net t_Net ok_Net nm_Net hown hK hP hD hS 1 rfl rfl 5 (by decide) (ht _ kl_Net_53) (fun _ h9 => h9) rfl hnm rfl (by decide +kernel) rfl rfl (Nat.le_of_ble_eq_true rfl) d_Net_init_95 (fun H locs hP hD hS => ?_)
  have hP : va_P D kls (List.flatten [[(o38, .inr (4, [.ref o16, .ref o27, .ref aM, .int (nI 0)]))], [(h, .inr (8, [.ref o5, .ref o16, .ref o27, .ref o38, .ref o57, .ref o76, .null]))], u6, u5, wM, u3, u2, u1]) H := hP
  have hD : va_D A (List.flatten [[(o38, .inr (4, [.ref o16, .ref o27, .ref aM, .int (nI 0)]))], [(h, .inr (8, [.ref o5, .ref o16, .ref o27, .ref o38, .ref o57, .ref o76, .null]))], u6, u5, wM, u3, u2, u1]) := hD
  refine lv_aload_n hx hb d_Net_init_98 rfl (lv_at hl 0 rfl) ?_
  refine va_new (D := D) (ci := 7) (C := R_Groups) (T := T_Groups) (N := 6) (fs := [.null, .null, .null, .null, .null, .null]) hx hb ht in_Groups t_Groups ok_Groups hown (ht _ kl_Net_57) (ht _ kt_Groups) (ht _ kn_Groups) hK hP hD hS hA rfl (fun j hj => by rcases nt_lt6 hj with rfl | rfl | rfl | rfl | rfl | rfl <;> rfl) (show ((((((((((((0 + 1) + 1) + 1) + 26) + 1) + 16) + 1) + 2) + 1) + 30) + 1) + 4) + 1 ≤ 104 by omega) (show ((((((((((((0 + 3) + 12) + 2) + 312) + 3) + 396) + 4) + 52) + 8) + 360) + 8) + 120) + 6 ≤ 1470 by omega) d_Net_init_99 (fun o99 H hP hD hS => ?_)
  rw [fl_add] at hP hD
  have hP := wd_rP 9 rfl [0, 1, 8, 2, 3, 4, 5, 6, 7] (by decide) hP
  have hD := wd_rD 9 rfl [0, 1, 8, 2, 3, 4, 5, 6, 7] (by decide) hD
  have hP : va_P D kls (List.flatten [[(o38, .inr (4, [.ref o16, .ref o27, .ref aM, .int (nI 0)]))], [(h, .inr (8, [.ref o5, .ref o16, .ref o27, .ref o38, .ref o57, .ref o76, .null]))], [(o99, .inr (7, [.null, .null, .null, .null, .null, .null]))], u6, u5, wM, u3, u2, u1]) H := hP
  have hD : va_D A (List.flatten [[(o38, .inr (4, [.ref o16, .ref o27, .ref aM, .int (nI 0)]))], [(h, .inr (8, [.ref o5, .ref o16, .ref o27, .ref o38, .ref o57, .ref o76, .null]))], [(o99, .inr (7, [.null, .null, .null, .null, .null, .null]))], u6, u5, wM, u3, u2, u1]) := hD
  refine lv_dup hx hb d_Net_init_102 rfl ?_
  refine lv_aload_n hx hb d_Net_init_103 rfl (lv_at hl 0 rfl) ?_
  refine va_get (D := D) (ci := 8) (v := .ref o5) (C := R_Net) (T := T_Net) (N := 7) hx hb ht in_Net hown hK hP 1 rfl rfl 0 (by decide) (ht _ kl_Net_10) (fun _ h9 => h9) rfl d_Net_init_104 ?_
  refine ct_callN hZ (As := [.ref o5]) (rest := [.ref o99, .ref h]) ⟨hx, hb, hml, hown, ht⟩ (k_Groups_init l D cI cZ cJ cG o99 o5) (cb_I ht kc_Groups_init kl_Net_59 kn_Groups ki_Groups_init hd_Groups_init rfl ⟨Nat.le_of_ble_eq_true rfl, Nat.le_of_ble_eq_true rfl⟩) (wd_ct (Bs := [[(o38, .inr (4, [.ref o16, .ref o27, .ref aM, .int (nI 0)]))], [(h, .inr (8, [.ref o5, .ref o16, .ref o27, .ref o38, .ref o57, .ref o76, .null]))], [(o99, .inr (7, [.null, .null, .null, .null, .null, .null]))], u6, u5, wM, u3, u2, u1]) 9 rfl [2] [0, 1, 3, 4, 5, 6, 7, 8] (by decide) (wd_1 _)) hK hP hD hS hA rfl hl.1 rfl (Nat.le_of_ble_eq_true rfl) ⟨(show (((((((((((((0 + 1) + 1) + 1) + 26) + 1) + 16) + 1) + 2) + 1) + 30) + 1) + 4) + 1) + 18 ≤ 104 by omega), (show (((((((((((((0 + 3) + 12) + 2) + 312) + 3) + 396) + 4) + 52) + 8) + 360) + 8) + 120) + 6) + 184 ≤ 1470 by omega)⟩ d_Net_init_107 (fun u7 H locs hu7 hP hD hS => ?_)
  have kG := hu7
  have hP := wd_nP (N := [u7]) (wd_1 _) 9 rfl [1, 2, 0, 3, 4, 5, 6, 7, 8] (by decide) hP
  have hD := wd_nD (N := [u7]) (wd_1 _) 9 rfl [1, 2, 0, 3, 4, 5, 6, 7, 8] (by decide) hD
  have hP : va_P D kls (List.flatten [[(o38, .inr (4, [.ref o16, .ref o27, .ref aM, .int (nI 0)]))], [(h, .inr (8, [.ref o5, .ref o16, .ref o27, .ref o38, .ref o57, .ref o76, .null]))], u7, u6, u5, wM, u3, u2, u1]) H := hP
  have hD : va_D A (List.flatten [[(o38, .inr (4, [.ref o16, .ref o27, .ref aM, .int (nI 0)]))], [(h, .inr (8, [.ref o5, .ref o16, .ref o27, .ref o38, .ref o57, .ref o76, .null]))], u7, u6, u5, wM, u3, u2, u1]) := hD
  refine W.eq (g2 := F0 m 110 ls [.ref o99, .ref h]) rfl ?_
  refine va_putF (D := D) (ci := 8) (v := .ref o99) (ty := (.object "BitNet$Groups")) (C := R_Net) (T := T_Net) (N := 7) hx hb ht in_Net t_Net ok_Net nm_Net hown hK hP hD hS 1 rfl rfl 6 (by decide) (ht _ kl_Net_62) (fun _ h9 => h9) rfl hnm rfl (by decide +kernel) rfl rfl (Nat.le_of_ble_eq_true rfl) d_Net_init_110 (fun H locs hP hD hS => ?_)
  have hP : va_P D kls (List.flatten [[(o38, .inr (4, [.ref o16, .ref o27, .ref aM, .int (nI 0)]))], [(h, .inr (8, [.ref o5, .ref o16, .ref o27, .ref o38, .ref o57, .ref o76, .ref o99]))], u7, u6, u5, wM, u3, u2, u1]) H := hP
  have hD : va_D A (List.flatten [[(o38, .inr (4, [.ref o16, .ref o27, .ref aM, .int (nI 0)]))], [(h, .inr (8, [.ref o5, .ref o16, .ref o27, .ref o38, .ref o57, .ref o76, .ref o99]))], u7, u6, u5, wM, u3, u2, u1]) := hD
  have hP := wd_rP 9 rfl [1, 0, 8, 7, 6, 5, 4, 3, 2] (by decide) hP
  have hD := wd_rD 9 rfl [1, 0, 8, 7, 6, 5, 4, 3, 2] (by decide) hD
  have hP : va_P D kls (List.flatten [[(h, .inr (8, [.ref o5, .ref o16, .ref o27, .ref o38, .ref o57, .ref o76, .ref o99]))], [(o38, .inr (4, [.ref o16, .ref o27, .ref aM, .int (nI 0)]))], u1, u2, u3, wM, u5, u6, u7]) H := hP
  have hD : va_D A (List.flatten [[(h, .inr (8, [.ref o5, .ref o16, .ref o27, .ref o38, .ref o57, .ref o76, .ref o99]))], [(o38, .inr (4, [.ref o16, .ref o27, .ref aM, .int (nI 0)]))], u1, u2, u3, wM, u5, u6, u7]) := hD
  have kR2 : rt_R cI cZ cG o57 o27 o5 bm_S0.T.1.2.2 bm_S0.T.2.1 bm_S0.T.2.2.2 bm_S0.eb bm_S0.es u5 := ⟨_, _, kR, fun r hr => ⟨Nat.le_refl _, fun _ n hn => (bm_mask_none _ r n 12).symm⟩⟩
  exact ct_vret hQ hx hb hr hlk hP hD hS hK (by omega) (by omega) d_Net_init_113 (⟨o5, o16, o27, o38, o57, o76, o99, aM, aP, aC, u1, u2, u3, wM, u5, u6, u7, rfl, kE, kL, kS, kM _, kR2, kD _ _, kG _⟩)
