/-! Control: what goes out. -/
set_option maxHeartbeats 4000000 in
set_option maxRecDepth 100000 in
theorem k_Control_sendToAllBut (l : Launch) (D : va_G) (cI cZ cJ cG : ClassId) {h aL aS aM : Nat} {lk kn : Nat → Nat → Nat} {T : bm_T} {lost : Int32} {ws : va_W} (hR : co_R cI cG h aL aS aM lk kn T lost ws) (hl1 : ∀ a b, lk a b < 2147483648) (hl2 : ∀ a b, kn a b < 2147483648) (ex : Option Nat) (r i : Nat) (hex : ∀ e, ex = some e → e < 12) (hr9 : r < 12) (hc : (bm_sa kn ex r i T.2.2.1 12).1 ≤ 50000) : ct_V l D kls (ty4 cI cZ cJ cG) y_Control_sendToAllBut ws_Control_sendToAllBut (rm_ 4 97 ((bm_sa kn ex r i T.2.2.1 12).1 - T.2.2.1.1) (2 * 3 * ((bm_sa kn ex r i T.2.2.1 12).1 - T.2.2.1.1))) [.ref h, .int (bm_oI ex), .int (nI r), .int (nI i)] (ws) (fun u => co_R cI cG h aL aS aM lk kn (T.1, T.2.1, bm_sa kn ex r i T.2.2.1 12, T.2.2.2) lost u) ((bm_sa kn ex r i T.2.2.1 12).1 - T.2.2.1.1) (2 * 3 * ((bm_sa kn ex r i T.2.2.1 12).1 - T.2.2.1.1)) := by
  obtain ⟨wL, wS, wM, rfl, kL, kS, kM⟩ := hR
  obtain ⟨fsL, mL⟩ := kL.mem
  obtain ⟨fsS, mS⟩ := kS.mem
  refine ct_enterV (cc := b_Control_sendToAllBut) (maxL := 5) (ret := none) (by decide +kernel) (Nat.le_of_ble_eq_true rfl) ?_
  intro p e s m args below meth c hx hb hml hr ht hown hlk hnm A Q hA hK hP hD hQ ls hl
  have hown : s.vm.findClass R_Control = some m.cls := hown
  have hS : va_S A s.heap s.heap [] := va_S.rf
  have hl : lv_has ls 5 [(0, .ref h), (1, .int (bm_oI ex)), (2, .int (nI r)), (3, .int (nI i))] := hl
  have hmo : ∀ a b, a ≤ b → (bm_sa kn ex r i T.2.2.1 a).1 ≤ (bm_sa kn ex r i T.2.2.1 b).1 := fun a b hab => bm_sa_le kn ex r i T.2.2.1 b a hab
  have hm0 : (bm_sa kn ex r i T.2.2.1 0).1 = T.2.2.1.1 := rfl
  have loop : ∀ (k j : Nat) (wL : va_W) (wS : va_W) (wM : va_W) (H : Heap) (locs : List Loc) (ls : Array Slot), j + k = 12 → (lk_R cI cG aL lk kn wL) → (so_R cI cG aS T.1 T.2.1 T.2.2.2 wS) → (rw_R cI 3 (bm_sa kn ex r i T.2.2.1 j).1 (bm_sa kn ex r i T.2.2.1 j).2.1 (gN (bm_sa kn ex r i T.2.2.1 j).2.2) aM wM) → va_P D kls (List.flatten [[(h, .inr (4, [.ref aL, .ref aS, .ref aM, .int lost]))], wL, wS, wM]) H → va_D A (List.flatten [[(h, .inr (4, [.ref aL, .ref aS, .ref aM, .int lost]))], wL, wS, wM]) → va_S A s.heap H locs → lv_has ls 5 [(4, .int (nI j)), (0, .ref h), (1, .int (bm_oI ex)), (2, .int (nI r)), (3, .int (nI i))] → W p l e (rm_ 4 97 ((bm_sa kn ex r i T.2.2.1 12).1 - T.2.2.1.1) (2 * 3 * ((bm_sa kn ex r i T.2.2.1 12).1 - T.2.2.1.1))) s m args below meth c H locs ((bm_sa kn ex r i T.2.2.1 j).1 - T.2.2.1.1) (2 * 3 * ((bm_sa kn ex r i T.2.2.1 j).1 - T.2.2.1.1)) Q (F0 m 3 ls []) := by
    intro k
    induction k with
    | zero =>
      intro j wL wS wM H locs ls hk kL kS kM hP hD hS hl
      refine lv_iload hx hb d_Control_sendToAllBut_3 (lv_at hl 0 rfl) ?_
      refine lv_bipush (v := nI 12) hx hb d_Control_sendToAllBut_5 (by decide) ?_
      refine ri_icmp_ge hx hb (by omega) (by omega) d_Control_sendToAllBut_7 (tgt := 43) (by decide) (fun hc9 => ?_) (fun hc9 => ?_)
      · have hj : j = 12 := by omega
        subst hj
        exact ct_vret hQ hx hb hr hlk hP hD hS hK (by omega) (by omega) d_Control_sendToAllBut_43 (⟨wL, wS, wM, rfl, kL, kS, kM⟩)
      · exact absurd hc9 (by omega)
    | succ k ih =>
      intro j wL wS wM H locs ls hk kL kS kM hP hD hS hl
      refine lv_iload hx hb d_Control_sendToAllBut_3 (lv_at hl 0 rfl) ?_
      refine lv_bipush (v := nI 12) hx hb d_Control_sendToAllBut_5 (by decide) ?_
      refine ri_icmp_ge hx hb (by omega) (by omega) d_Control_sendToAllBut_7 (tgt := 43) (by decide) (fun hc9 => ?_) (fun hc9 => ?_)
      · exact absurd hc9 (by omega)
      · obtain ⟨fsL, mL⟩ := kL.mem
        have g12 := hmo j 12 (by omega)
        refine lv_iload hx hb d_Control_sendToAllBut_10 (lv_at hl 0 rfl) ?_
        refine lv_iload_n hx hb d_Control_sendToAllBut_12 rfl (lv_at hl 2 rfl) ?_
        refine lv_icmp_eq hx hb d_Control_sendToAllBut_13 (tgt := 37) (by decide) (fun he => ?_) (fun he => ?_)
        · refine ri_iinc hx hb d_Control_sendToAllBut_37 hl (k := 0) rfl (by decide) rfl (fun ls hl => ?_)
          have hl : lv_has ls 5 [(4, .int (nI (j + 1))), (0, .ref h), (1, .int (bm_oI ex)), (2, .int (nI r)), (3, .int (nI i))] := hl
          refine lv_goto hx hb d_Control_sendToAllBut_40 (tgt := 3) (by decide) ?_
          have hst : bm_sa kn ex r i T.2.2.1 (j + 1) = bm_sa kn ex r i T.2.2.1 j := if_neg (fun z => by first | exact z.1 ((bm_oI_eq (by omega) hex).mp he) | exact of_decide_eq_false hk1 z.2)
          have kM3 : rw_R cI 3 (bm_sa kn ex r i T.2.2.1 (j + 1)).1 (bm_sa kn ex r i T.2.2.1 (j + 1)).2.1 (gN (bm_sa kn ex r i T.2.2.1 (j + 1)).2.2) aM wM := by rw [hst]; exact kM
          refine W.widen (k := (bm_sa kn ex r i T.2.2.1 (j + 1)).1 - T.2.2.1.1) (n := 2 * 3 * ((bm_sa kn ex r i T.2.2.1 (j + 1)).1 - T.2.2.1.1)) (by rw [hst]; exact Nat.le_refl _) (by rw [hst]; exact Nat.le_refl _) ?_
          exact ih (j + 1) wL wS wM H locs ls (by omega) kL kS kM3 hP hD hS hl
        · refine lv_aload_n hx hb d_Control_sendToAllBut_16 rfl (lv_at hl 1 rfl) ?_
          refine va_get (D := D) (ci := 4) (v := .ref aL) (C := R_Control) (T := T_Control) (N := 4) hx hb ht in_Control hown hK hP 0 rfl rfl 0 (by decide) (ht _ kl_Control_20) (fun _ h9 => h9) rfl d_Control_sendToAllBut_17 ?_
          refine lv_iload_n hx hb d_Control_sendToAllBut_20 rfl (lv_at hl 3 rfl) ?_
          refine lv_iload hx hb d_Control_sendToAllBut_21 (lv_at hl 0 rfl) ?_
          refine ct_rdV (C := R_Links) (ci := 2) (As := [.int (nI r), .int (nI j)]) (rest := []) ⟨hx, hb, hml, hown, ht⟩ (k_Links_isKnown l D cI cZ cJ cG kL r j hl1 hl2 hr9 (by omega)) (cb_V ht kc_Links_isKnown kl_Control_92 kn_Links ki_Links_isKnown ks_Links_isKnown hd_Links_isKnown ⟨Nat.le_of_ble_eq_true rfl, Nat.le_of_ble_eq_true rfl⟩) (wd_mem 1 rfl mL) rfl rfl (wd_ct (Bs := [[(h, .inr (4, [.ref aL, .ref aS, .ref aM, .int lost]))], wL, wS, wM]) 4 rfl [1] [0, 2, 3] (by decide) (wd_1 _)) hK hP hD hS hA rfl hl.1 rfl (Nat.le_of_ble_eq_true rfl) ⟨(show ((bm_sa kn ex r i T.2.2.1 j).1 - T.2.2.1.1) + 0 ≤ ((bm_sa kn ex r i T.2.2.1 12).1 - T.2.2.1.1) by omega), (show (2 * 3 * ((bm_sa kn ex r i T.2.2.1 j).1 - T.2.2.1.1)) + 0 ≤ (2 * 3 * ((bm_sa kn ex r i T.2.2.1 12).1 - T.2.2.1.1)) by omega)⟩ d_Control_sendToAllBut_23 (fun rhr4 H locs hr4 hP hD hS => ?_)
          subst hr4
          refine ri_ifeqB hx hb d_Control_sendToAllBut_26 (tgt := 37) (by decide) (fun hk1 => ?_) (fun hk1 => ?_)
          · refine ri_iinc hx hb d_Control_sendToAllBut_37 hl (k := 0) rfl (by decide) rfl (fun ls hl => ?_)
            have hl : lv_has ls 5 [(4, .int (nI (j + 1))), (0, .ref h), (1, .int (bm_oI ex)), (2, .int (nI r)), (3, .int (nI i))] := hl
            refine lv_goto hx hb d_Control_sendToAllBut_40 (tgt := 3) (by decide) ?_
            have hst : bm_sa kn ex r i T.2.2.1 (j + 1) = bm_sa kn ex r i T.2.2.1 j := if_neg (fun z => by first | exact z.1 ((bm_oI_eq (by omega) hex).mp he) | exact of_decide_eq_false hk1 z.2)
            have kM3 : rw_R cI 3 (bm_sa kn ex r i T.2.2.1 (j + 1)).1 (bm_sa kn ex r i T.2.2.1 (j + 1)).2.1 (gN (bm_sa kn ex r i T.2.2.1 (j + 1)).2.2) aM wM := by rw [hst]; exact kM
            refine W.widen (k := (bm_sa kn ex r i T.2.2.1 (j + 1)).1 - T.2.2.1.1) (n := 2 * 3 * ((bm_sa kn ex r i T.2.2.1 (j + 1)).1 - T.2.2.1.1)) (by rw [hst]; exact Nat.le_refl _) (by rw [hst]; exact Nat.le_refl _) ?_
            exact ih (j + 1) wL wS wM H locs ls (by omega) kL kS kM3 hP hD hS hl
          · refine lv_aload_n hx hb d_Control_sendToAllBut_29 rfl (lv_at hl 1 rfl) ?_
            refine lv_iload_n hx hb d_Control_sendToAllBut_30 rfl (lv_at hl 3 rfl) ?_
            refine lv_iload hx hb d_Control_sendToAllBut_31 (lv_at hl 0 rfl) ?_
            refine lv_iload_n hx hb d_Control_sendToAllBut_33 rfl (lv_at hl 4 rfl) ?_
            have hst : bm_sa kn ex r i T.2.2.1 (j + 1) = bm_push (bm_sa kn ex r i T.2.2.1 j) (bm_row3 r j i) := if_pos ⟨fun z => he ((bm_oI_eq (by omega) hex).mpr z), of_decide_eq_true hk1⟩
            have hst1 := congrArg Prod.fst hst
            have g1 := hmo 0 j (by omega)
            have g2 := hmo j (j + 1) (by omega)
            have g3 := hmo (j + 1) 12 (by omega)
            have hR2 : co_R cI cG h aL aS aM lk kn (T.1, T.2.1, bm_sa kn ex r i T.2.2.1 j, T.2.2.2) lost (List.flatten [[(h, .inr (4, [.ref aL, .ref aS, .ref aM, .int lost]))], wL, wS, wM]) := ⟨wL, wS, wM, rfl, kL, kS, kM⟩
            refine ct_callVV (C := R_Control) (ci := 4) (As := [.int (nI r), .int (nI j), .int (nI i)]) (rest := []) ⟨hx, hb, hml, hown, ht⟩ (k_Control_post l D cI cZ cJ cG hR2 r j i (Nat.le_trans (hmo j 12 (by omega)) hc)) (cb_V ht kc_Control_post kl_Control_89 kn_Control ki_Control_post ks_Control_post hd_Control_post ⟨Nat.le_of_ble_eq_true rfl, Nat.le_of_ble_eq_true rfl⟩) (List.mem_of_getElem? (i := 0) rfl) rfl rfl (pm_all _) hK hP hD hS hA rfl hl.1 rfl (Nat.le_of_ble_eq_true rfl) ⟨(show ((bm_sa kn ex r i T.2.2.1 j).1 - T.2.2.1.1) + ((bm_push (bm_sa kn ex r i T.2.2.1 j) (bm_row3 r j i)).1 - (bm_sa kn ex r i T.2.2.1 j).1) ≤ (bm_sa kn ex r i T.2.2.1 12).1 - T.2.2.1.1 by omega), (show 2 * 3 * ((bm_sa kn ex r i T.2.2.1 j).1 - T.2.2.1.1) + 2 * 3 * ((bm_push (bm_sa kn ex r i T.2.2.1 j) (bm_row3 r j i)).1 - (bm_sa kn ex r i T.2.2.1 j).1) ≤ 2 * 3 * ((bm_sa kn ex r i T.2.2.1 12).1 - T.2.2.1.1) by omega)⟩ d_Control_sendToAllBut_34 (fun u6 H locs hu6 hP hD hS => ?_)
            obtain ⟨wL2, wS2, wM2, rfl, kL2, kS2, kM2⟩ := hu6
            refine W.widen (k := (bm_sa kn ex r i T.2.2.1 (j + 1)).1 - T.2.2.1.1) (n := 2 * 3 * ((bm_sa kn ex r i T.2.2.1 (j + 1)).1 - T.2.2.1.1)) (show ((bm_sa kn ex r i T.2.2.1 j).1 - T.2.2.1.1) + ((bm_push (bm_sa kn ex r i T.2.2.1 j) (bm_row3 r j i)).1 - (bm_sa kn ex r i T.2.2.1 j).1) ≤ (bm_sa kn ex r i T.2.2.1 (j + 1)).1 - T.2.2.1.1 by omega) (show 2 * 3 * ((bm_sa kn ex r i T.2.2.1 j).1 - T.2.2.1.1) + 2 * 3 * ((bm_push (bm_sa kn ex r i T.2.2.1 j) (bm_row3 r j i)).1 - (bm_sa kn ex r i T.2.2.1 j).1) ≤ 2 * 3 * ((bm_sa kn ex r i T.2.2.1 (j + 1)).1 - T.2.2.1.1) by omega) ?_
            rw [List.append_nil] at hP hD
            have hP : va_P D kls (List.flatten [[(h, .inr (4, [.ref aL, .ref aS, .ref aM, .int lost]))], wL2, wS2, wM2]) H := hP
            have hD : va_D A (List.flatten [[(h, .inr (4, [.ref aL, .ref aS, .ref aM, .int lost]))], wL2, wS2, wM2]) := hD
            refine W.eq (g2 := F0 m 37 ls []) rfl ?_
            refine ri_iinc hx hb d_Control_sendToAllBut_37 hl (k := 0) rfl (by decide) rfl (fun ls hl => ?_)
            have hl : lv_has ls 5 [(4, .int (nI (j + 1))), (0, .ref h), (1, .int (bm_oI ex)), (2, .int (nI r)), (3, .int (nI i))] := hl
            refine lv_goto hx hb d_Control_sendToAllBut_40 (tgt := 3) (by decide) ?_
            have kM3 : rw_R cI 3 (bm_sa kn ex r i T.2.2.1 (j + 1)).1 (bm_sa kn ex r i T.2.2.1 (j + 1)).2.1 (gN (bm_sa kn ex r i T.2.2.1 (j + 1)).2.2) aM wM2 := by rw [hst]; exact kM2
            exact ih (j + 1) wL2 wS2 wM2 H locs ls (by omega) kL2 kS2 kM3 hP hD hS hl
  refine lv_iconst (v := nI 0) hx hb d_Control_sendToAllBut_0 (by decide) ?_
  refine lv_istore hx hb d_Control_sendToAllBut_1 hl (by decide) rfl (fun ls hl => ?_)
  have hl : lv_has ls 5 [(4, .int (nI 0)), (0, .ref h), (1, .int (bm_oI ex)), (2, .int (nI r)), (3, .int (nI i))] := hl
  refine W.widen (k := (bm_sa kn ex r i T.2.2.1 0).1 - T.2.2.1.1) (n := 2 * 3 * ((bm_sa kn ex r i T.2.2.1 0).1 - T.2.2.1.1)) (by omega) (by omega) ?_
  exact loop 12 0 wL wS wM s.heap [] ls (by omega) kL kS kM hP hD hS hl
set_option maxHeartbeats 4000000 in
set_option maxRecDepth 100000 in
theorem k_Control_sendStore (l : Launch) (D : va_G) (cI cZ cJ cG : ClassId) {h aL aS aM : Nat} {lk kn : Nat → Nat → Nat} {T : bm_T} {lost : Int32} {ws : va_W} (hR : co_R cI cG h aL aS aM lk kn T lost ws) (a b : Nat) (ha : a < 12) (hb9 : b < 12) (hh : ∀ x, x < 12 → T.2.1 a x < 2147483648) (hc : (bm_ss T.2.1 a b T.2.2.1 12).1 ≤ 50000) : ct_V l D kls (ty4 cI cZ cJ cG) y_Control_sendStore ws_Control_sendStore (rm_ 4 97 ((bm_ss T.2.1 a b T.2.2.1 12).1 - T.2.2.1.1) (2 * 3 * ((bm_ss T.2.1 a b T.2.2.1 12).1 - T.2.2.1.1))) [.ref h, .int (nI a), .int (nI b)] (ws) (fun u => co_R cI cG h aL aS aM lk kn (T.1, T.2.1, bm_ss T.2.1 a b T.2.2.1 12, T.2.2.2) lost u) ((bm_ss T.2.1 a b T.2.2.1 12).1 - T.2.2.1.1) (2 * 3 * ((bm_ss T.2.1 a b T.2.2.1 12).1 - T.2.2.1.1)) := by
  obtain ⟨wL, wS, wM, rfl, kL, kS, kM⟩ := hR
  obtain ⟨fsL, mL⟩ := kL.mem
  obtain ⟨fsS, mS⟩ := kS.mem
  refine ct_enterV (cc := b_Control_sendStore) (maxL := 4) (ret := none) (by decide +kernel) (Nat.le_of_ble_eq_true rfl) ?_
  intro p e s m args below meth c hx hb hml hr ht hown hlk hnm A Q hA hK hP hD hQ ls hl
  have hown : s.vm.findClass R_Control = some m.cls := hown
  have hS : va_S A s.heap s.heap [] := va_S.rf
  have hl : lv_has ls 4 [(0, .ref h), (1, .int (nI a)), (2, .int (nI b))] := hl
  have hmo : ∀ x y, x ≤ y → (bm_ss T.2.1 a b T.2.2.1 x).1 ≤ (bm_ss T.2.1 a b T.2.2.1 y).1 := fun x y hxy => bm_ss_le T.2.1 a b T.2.2.1 y x hxy
  have hm0 : (bm_ss T.2.1 a b T.2.2.1 0).1 = T.2.2.1.1 := rfl
  have loop : ∀ (k j : Nat) (wL : va_W) (wS : va_W) (wM : va_W) (H : Heap) (locs : List Loc) (ls : Array Slot), j + k = 12 → (lk_R cI cG aL lk kn wL) → (so_R cI cG aS T.1 T.2.1 T.2.2.2 wS) → (rw_R cI 3 (bm_ss T.2.1 a b T.2.2.1 j).1 (bm_ss T.2.1 a b T.2.2.1 j).2.1 (gN (bm_ss T.2.1 a b T.2.2.1 j).2.2) aM wM) → va_P D kls (List.flatten [[(h, .inr (4, [.ref aL, .ref aS, .ref aM, .int lost]))], wL, wS, wM]) H → va_D A (List.flatten [[(h, .inr (4, [.ref aL, .ref aS, .ref aM, .int lost]))], wL, wS, wM]) → va_S A s.heap H locs → lv_has ls 4 [(3, .int (nI j)), (0, .ref h), (1, .int (nI a)), (2, .int (nI b))] → W p l e (rm_ 4 97 ((bm_ss T.2.1 a b T.2.2.1 12).1 - T.2.2.1.1) (2 * 3 * ((bm_ss T.2.1 a b T.2.2.1 12).1 - T.2.2.1.1))) s m args below meth c H locs ((bm_ss T.2.1 a b T.2.2.1 j).1 - T.2.2.1.1) (2 * 3 * ((bm_ss T.2.1 a b T.2.2.1 j).1 - T.2.2.1.1)) Q (F0 m 2 ls []) := by
    intro k
    induction k with
    | zero =>
      intro j wL wS wM H locs ls hk kL kS kM hP hD hS hl
      refine lv_iload_n hx hb d_Control_sendStore_2 rfl (lv_at hl 0 rfl) ?_
      refine lv_bipush (v := nI 12) hx hb d_Control_sendStore_3 (by decide) ?_
      refine ri_icmp_ge hx hb (by omega) (by omega) d_Control_sendStore_5 (tgt := 46) (by decide) (fun hc9 => ?_) (fun hc9 => ?_)
      · have hj : j = 12 := by omega
        subst hj
        exact ct_vret hQ hx hb hr hlk hP hD hS hK (by omega) (by omega) d_Control_sendStore_46 (⟨wL, wS, wM, rfl, kL, kS, kM⟩)
      · exact absurd hc9 (by omega)
    | succ k ih =>
      intro j wL wS wM H locs ls hk kL kS kM hP hD hS hl
      refine lv_iload_n hx hb d_Control_sendStore_2 rfl (lv_at hl 0 rfl) ?_
      refine lv_bipush (v := nI 12) hx hb d_Control_sendStore_3 (by decide) ?_
      refine ri_icmp_ge hx hb (by omega) (by omega) d_Control_sendStore_5 (tgt := 46) (by decide) (fun hc9 => ?_) (fun hc9 => ?_)
      · exact absurd hc9 (by omega)
      · obtain ⟨fsS, mS⟩ := kS.mem
        have g12 := hmo j 12 (by omega)
        refine lv_iload_n hx hb d_Control_sendStore_8 rfl (lv_at hl 0 rfl) ?_
        refine lv_iload_n hx hb d_Control_sendStore_9 rfl (lv_at hl 2 rfl) ?_
        refine ri_icmp_eq hx hb (by omega) (by omega) d_Control_sendStore_10 (tgt := 40) (by decide) (fun he => ?_) (fun he => ?_)
        · refine ri_iinc hx hb d_Control_sendStore_40 hl (k := 0) rfl (by decide) rfl (fun ls hl => ?_)
          have hl : lv_has ls 4 [(3, .int (nI (j + 1))), (0, .ref h), (1, .int (nI a)), (2, .int (nI b))] := hl
          refine lv_goto hx hb d_Control_sendStore_43 (tgt := 2) (by decide) ?_
          have hst : bm_ss T.2.1 a b T.2.2.1 (j + 1) = bm_ss T.2.1 a b T.2.2.1 j := if_neg (fun z => by first | exact z.1 he | exact of_decide_eq_false hk1 z.2)
          have kM3 : rw_R cI 3 (bm_ss T.2.1 a b T.2.2.1 (j + 1)).1 (bm_ss T.2.1 a b T.2.2.1 (j + 1)).2.1 (gN (bm_ss T.2.1 a b T.2.2.1 (j + 1)).2.2) aM wM := by rw [hst]; exact kM
          refine W.widen (k := (bm_ss T.2.1 a b T.2.2.1 (j + 1)).1 - T.2.2.1.1) (n := 2 * 3 * ((bm_ss T.2.1 a b T.2.2.1 (j + 1)).1 - T.2.2.1.1)) (by rw [hst]; exact Nat.le_refl _) (by rw [hst]; exact Nat.le_refl _) ?_
          exact ih (j + 1) wL wS wM H locs ls (by omega) kL kS kM3 hP hD hS hl
        · refine lv_aload_n hx hb d_Control_sendStore_13 rfl (lv_at hl 1 rfl) ?_
          refine va_get (D := D) (ci := 4) (v := .ref aS) (C := R_Control) (T := T_Control) (N := 4) hx hb ht in_Control hown hK hP 0 rfl rfl 1 (by decide) (ht _ kl_Control_24) (fun _ h9 => h9) rfl d_Control_sendStore_14 ?_
          refine lv_iload_n hx hb d_Control_sendStore_17 rfl (lv_at hl 2 rfl) ?_
          refine lv_iload_n hx hb d_Control_sendStore_18 rfl (lv_at hl 0 rfl) ?_
          refine ct_rdV (C := R_Stores) (ci := 3) (As := [.int (nI a), .int (nI j)]) (rest := []) ⟨hx, hb, hml, hown, ht⟩ (k_Stores_hasAdvertOf l D cI cZ cJ cG kS a j ha (by omega) (hh j (by omega))) (cb_V ht kc_Stores_hasAdvertOf kl_Control_95 kn_Stores ki_Stores_hasAdvertOf ks_Stores_hasAdvertOf hd_Stores_hasAdvertOf ⟨Nat.le_of_ble_eq_true rfl, Nat.le_of_ble_eq_true rfl⟩) (wd_mem 2 rfl mS) rfl rfl (wd_ct (Bs := [[(h, .inr (4, [.ref aL, .ref aS, .ref aM, .int lost]))], wL, wS, wM]) 4 rfl [2] [0, 1, 3] (by decide) (wd_1 _)) hK hP hD hS hA rfl hl.1 rfl (Nat.le_of_ble_eq_true rfl) ⟨(show ((bm_ss T.2.1 a b T.2.2.1 j).1 - T.2.2.1.1) + 0 ≤ ((bm_ss T.2.1 a b T.2.2.1 12).1 - T.2.2.1.1) by omega), (show (2 * 3 * ((bm_ss T.2.1 a b T.2.2.1 j).1 - T.2.2.1.1)) + 0 ≤ (2 * 3 * ((bm_ss T.2.1 a b T.2.2.1 12).1 - T.2.2.1.1)) by omega)⟩ d_Control_sendStore_19 (fun rhr4 H locs hr4 hP hD hS => ?_)
          subst hr4
          refine ri_ifeqB hx hb d_Control_sendStore_22 (tgt := 40) (by decide) (fun hk1 => ?_) (fun hk1 => ?_)
          · refine ri_iinc hx hb d_Control_sendStore_40 hl (k := 0) rfl (by decide) rfl (fun ls hl => ?_)
            have hl : lv_has ls 4 [(3, .int (nI (j + 1))), (0, .ref h), (1, .int (nI a)), (2, .int (nI b))] := hl
            refine lv_goto hx hb d_Control_sendStore_43 (tgt := 2) (by decide) ?_
            have hst : bm_ss T.2.1 a b T.2.2.1 (j + 1) = bm_ss T.2.1 a b T.2.2.1 j := if_neg (fun z => by first | exact z.1 he | exact of_decide_eq_false hk1 z.2)
            have kM3 : rw_R cI 3 (bm_ss T.2.1 a b T.2.2.1 (j + 1)).1 (bm_ss T.2.1 a b T.2.2.1 (j + 1)).2.1 (gN (bm_ss T.2.1 a b T.2.2.1 (j + 1)).2.2) aM wM := by rw [hst]; exact kM
            refine W.widen (k := (bm_ss T.2.1 a b T.2.2.1 (j + 1)).1 - T.2.2.1.1) (n := 2 * 3 * ((bm_ss T.2.1 a b T.2.2.1 (j + 1)).1 - T.2.2.1.1)) (by rw [hst]; exact Nat.le_refl _) (by rw [hst]; exact Nat.le_refl _) ?_
            exact ih (j + 1) wL wS wM H locs ls (by omega) kL kS kM3 hP hD hS hl
          · refine lv_aload_n hx hb d_Control_sendStore_25 rfl (lv_at hl 1 rfl) ?_
            refine lv_iload_n hx hb d_Control_sendStore_26 rfl (lv_at hl 2 rfl) ?_
            refine lv_iload_n hx hb d_Control_sendStore_27 rfl (lv_at hl 3 rfl) ?_
            refine lv_aload_n hx hb d_Control_sendStore_28 rfl (lv_at hl 1 rfl) ?_
            refine va_get (D := D) (ci := 4) (v := .ref aS) (C := R_Control) (T := T_Control) (N := 4) hx hb ht in_Control hown hK hP 0 rfl rfl 1 (by decide) (ht _ kl_Control_24) (fun _ h9 => h9) rfl d_Control_sendStore_29 ?_
            refine lv_iload_n hx hb d_Control_sendStore_32 rfl (lv_at hl 2 rfl) ?_
            refine lv_iload_n hx hb d_Control_sendStore_33 rfl (lv_at hl 0 rfl) ?_
            refine ct_rdV (C := R_Stores) (ci := 3) (As := [.int (nI a), .int (nI j)]) (rest := [.int (nI b), .int (nI a), .ref h]) ⟨hx, hb, hml, hown, ht⟩ (k_Stores_advertOf l D cI cZ cJ cG kS a j ha (by omega)) (cb_V ht kc_Stores_advertOf kl_Control_83 kn_Stores ki_Stores_advertOf ks_Stores_advertOf hd_Stores_advertOf ⟨Nat.le_of_ble_eq_true rfl, Nat.le_of_ble_eq_true rfl⟩) (wd_mem 2 rfl mS) rfl rfl (wd_ct (Bs := [[(h, .inr (4, [.ref aL, .ref aS, .ref aM, .int lost]))], wL, wS, wM]) 4 rfl [2] [0, 1, 3] (by decide) (wd_1 _)) hK hP hD hS hA rfl hl.1 rfl (Nat.le_of_ble_eq_true rfl) ⟨(show ((bm_ss T.2.1 a b T.2.2.1 j).1 - T.2.2.1.1) + 0 ≤ ((bm_ss T.2.1 a b T.2.2.1 12).1 - T.2.2.1.1) by omega), (show (2 * 3 * ((bm_ss T.2.1 a b T.2.2.1 j).1 - T.2.2.1.1)) + 0 ≤ (2 * 3 * ((bm_ss T.2.1 a b T.2.2.1 12).1 - T.2.2.1.1)) by omega)⟩ d_Control_sendStore_34 (fun rhr6 H locs hr6 hP hD hS => ?_)
            subst hr6
            have hst : bm_ss T.2.1 a b T.2.2.1 (j + 1) = bm_push (bm_ss T.2.1 a b T.2.2.1 j) (bm_row3 a b (T.2.1 a j)) := if_pos ⟨he, of_decide_eq_true hk1⟩
            have hst1 := congrArg Prod.fst hst
            have g1 := hmo 0 j (by omega)
            have g2 := hmo j (j + 1) (by omega)
            have g3 := hmo (j + 1) 12 (by omega)
            have hR2 : co_R cI cG h aL aS aM lk kn (T.1, T.2.1, bm_ss T.2.1 a b T.2.2.1 j, T.2.2.2) lost (List.flatten [[(h, .inr (4, [.ref aL, .ref aS, .ref aM, .int lost]))], wL, wS, wM]) := ⟨wL, wS, wM, rfl, kL, kS, kM⟩
            refine ct_callVV (C := R_Control) (ci := 4) (As := [.int (nI a), .int (nI b), .int (nI (T.2.1 a j))]) (rest := []) ⟨hx, hb, hml, hown, ht⟩ (k_Control_post l D cI cZ cJ cG hR2 a b (T.2.1 a j) (Nat.le_trans (hmo j 12 (by omega)) hc)) (cb_V ht kc_Control_post kl_Control_89 kn_Control ki_Control_post ks_Control_post hd_Control_post ⟨Nat.le_of_ble_eq_true rfl, Nat.le_of_ble_eq_true rfl⟩) (List.mem_of_getElem? (i := 0) rfl) rfl rfl (pm_all _) hK hP hD hS hA rfl hl.1 rfl (Nat.le_of_ble_eq_true rfl) ⟨(show ((bm_ss T.2.1 a b T.2.2.1 j).1 - T.2.2.1.1) + ((bm_push (bm_ss T.2.1 a b T.2.2.1 j) (bm_row3 a b (T.2.1 a j))).1 - (bm_ss T.2.1 a b T.2.2.1 j).1) ≤ (bm_ss T.2.1 a b T.2.2.1 12).1 - T.2.2.1.1 by omega), (show 2 * 3 * ((bm_ss T.2.1 a b T.2.2.1 j).1 - T.2.2.1.1) + 2 * 3 * ((bm_push (bm_ss T.2.1 a b T.2.2.1 j) (bm_row3 a b (T.2.1 a j))).1 - (bm_ss T.2.1 a b T.2.2.1 j).1) ≤ 2 * 3 * ((bm_ss T.2.1 a b T.2.2.1 12).1 - T.2.2.1.1) by omega)⟩ d_Control_sendStore_37 (fun u7 H locs hu7 hP hD hS => ?_)
            obtain ⟨wL2, wS2, wM2, rfl, kL2, kS2, kM2⟩ := hu7
            refine W.widen (k := (bm_ss T.2.1 a b T.2.2.1 (j + 1)).1 - T.2.2.1.1) (n := 2 * 3 * ((bm_ss T.2.1 a b T.2.2.1 (j + 1)).1 - T.2.2.1.1)) (show ((bm_ss T.2.1 a b T.2.2.1 j).1 - T.2.2.1.1) + ((bm_push (bm_ss T.2.1 a b T.2.2.1 j) (bm_row3 a b (T.2.1 a j))).1 - (bm_ss T.2.1 a b T.2.2.1 j).1) ≤ (bm_ss T.2.1 a b T.2.2.1 (j + 1)).1 - T.2.2.1.1 by omega) (show 2 * 3 * ((bm_ss T.2.1 a b T.2.2.1 j).1 - T.2.2.1.1) + 2 * 3 * ((bm_push (bm_ss T.2.1 a b T.2.2.1 j) (bm_row3 a b (T.2.1 a j))).1 - (bm_ss T.2.1 a b T.2.2.1 j).1) ≤ 2 * 3 * ((bm_ss T.2.1 a b T.2.2.1 (j + 1)).1 - T.2.2.1.1) by omega) ?_
            rw [List.append_nil] at hP hD
            have hP : va_P D kls (List.flatten [[(h, .inr (4, [.ref aL, .ref aS, .ref aM, .int lost]))], wL2, wS2, wM2]) H := hP
            have hD : va_D A (List.flatten [[(h, .inr (4, [.ref aL, .ref aS, .ref aM, .int lost]))], wL2, wS2, wM2]) := hD
            refine W.eq (g2 := F0 m 40 ls []) rfl ?_
            refine ri_iinc hx hb d_Control_sendStore_40 hl (k := 0) rfl (by decide) rfl (fun ls hl => ?_)
            have hl : lv_has ls 4 [(3, .int (nI (j + 1))), (0, .ref h), (1, .int (nI a)), (2, .int (nI b))] := hl
            refine lv_goto hx hb d_Control_sendStore_43 (tgt := 2) (by decide) ?_
            have kM3 : rw_R cI 3 (bm_ss T.2.1 a b T.2.2.1 (j + 1)).1 (bm_ss T.2.1 a b T.2.2.1 (j + 1)).2.1 (gN (bm_ss T.2.1 a b T.2.2.1 (j + 1)).2.2) aM wM2 := by rw [hst]; exact kM2
            exact ih (j + 1) wL2 wS2 wM2 H locs ls (by omega) kL2 kS2 kM3 hP hD hS hl
  refine lv_iconst (v := nI 0) hx hb d_Control_sendStore_0 (by decide) ?_
  refine lv_istore_n hx hb d_Control_sendStore_1 rfl hl (by decide) rfl (fun ls hl => ?_)
  have hl : lv_has ls 4 [(3, .int (nI 0)), (0, .ref h), (1, .int (nI a)), (2, .int (nI b))] := hl
  refine W.widen (k := (bm_ss T.2.1 a b T.2.2.1 0).1 - T.2.2.1.1) (n := 2 * 3 * ((bm_ss T.2.1 a b T.2.2.1 0).1 - T.2.2.1.1)) (by omega) (by omega) ?_
  exact loop 12 0 wL wS wM s.heap [] ls (by omega) kL kS kM hP hD hS hl
