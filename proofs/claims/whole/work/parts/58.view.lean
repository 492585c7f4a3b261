/-! Stores.writeView. -/
theorem gd_set {cI : ClassId} {k : Nat} {ra : Nat → Nat} {M M' : Nat → Nat → Int32} {D : va_G} {cl : List vw_C} {A : Nat → Prop} {H : Heap} {Bs : List va_W} (kb : Nat) (hB : Bs[kb]? = some (gd cI k ra M)) (h : ∀ i j, i < 12 → j < k → M i j = M' i j) (hP : va_P D cl Bs.flatten H) (hD : va_D A Bs.flatten) : va_P D cl (Bs.set kb (gd cI k ra M')).flatten H ∧ va_D A (Bs.set kb (gd cI k ra M')).flatten := by
  have hf : (Bs.set kb (gd cI k ra M')).flatten.map (fun q => q.1) = Bs.flatten.map (fun q => q.1) := fl_fst kb hB gd_fst
  obtain ⟨d1, d2⟩ := wd_D.mp hD
  refine ⟨wd_P.mpr fun q hq => ?_, wd_D.mpr ⟨by rw [hf]; exact d1, fun q hq => ?_⟩⟩
  · rcases fl_old hq with h1 | h1
    · obtain ⟨i, hi, rfl⟩ := List.mem_map.mp h1
      have hi : i < 12 := List.mem_range.mp hi
      exact wd_at (wd_eqc.i (fun j hj => h i j hi hj)) (wd_P.mp hP _ (wd_mem kb hB (gd_mem (cI := cI) (k := k) (M := M) hi)))
    · exact wd_P.mp hP q h1
  · have h1 : q.1 ∈ (Bs.set kb (gd cI k ra M')).flatten.map (fun q => q.1) := List.mem_map.mpr ⟨q, hq, rfl⟩
    rw [hf] at h1
    obtain ⟨q2, h2, h3⟩ := List.mem_map.mp h1
    rw [← h3]
    exact d2 q2 h2
/-- the weights that count by r's store -/
def vw0 (Ad hd : Nat → Nat → Nat) (r : Nat) : Nat → Nat → Nat := fun x y => if x < 12 ∧ y < 12 then (if Ad (hd r y) (2 + x) = 0 then 0 else Ad (hd r x) (2 + y)) else 0
theorem vw0_eq (T : bm_T) (r : Nat) : bm_vw T r = vw0 T.1.2.2 T.2.1 r := rfl
set_option maxHeartbeats 4000000 in
set_option maxRecDepth 100000 in
theorem k_Stores_writeView (l : Launch) (D : va_G) (cI cZ cJ cG : ClassId) {h : Nat} {T1 : bm_M Nat} {hd : Nat → Nat → Nat} {ch : Nat → Nat} {ws : va_W} (hR : so_R cI cG h T1 hd ch ws) (gw : Nat) (rw : Nat → Nat) (M : Nat → Nat → Int32) (r : Nat) (hr9 : r < 12) (hh : ∀ x, x < 12 → hd r x < T1.2.1) (hA1 : ∀ i j, i < T1.2.1 → j < 12 → T1.2.2 i (2 + j) ≤ 1000) : ct_V l D kls (ty4 cI cZ cJ cG) y_Stores_writeView ws_Stores_writeView (rm_ 2 45 0 0) [.ref h, .int (nI r), .ref gw] (List.flatten [ws, [(gw, .inl (cG, 12, .inr (.inr (.inr (.inr (go rw))))))], gd cI 12 rw M]) (fun u => u = List.flatten [ws, [(gw, .inl (cG, 12, .inr (.inr (.inr (.inr (go rw))))))], gd cI 12 rw (gN (vw0 T1.2.2 hd r))]) 0 0 := by
  obtain ⟨qA, g, qc, rh, wA, rfl, qA9⟩ := hR
  obtain ⟨fsA, hmA⟩ := qA9.mem
  refine ct_enterV (cc := b_Stores_writeView) (maxL := 7) (ret := none) (by decide +kernel) (Nat.le_of_ble_eq_true rfl) ?_
  intro p e s m args below meth c hx hb hml hr ht hown hlk hnm A Q hA hK hP hD hQ ls hl
  have hown : s.vm.findClass R_Stores = some m.cls := hown
  have hS : va_S A s.heap s.heap [] := va_S.rf
  have hl : lv_has ls 7 [(0, .ref h), (1, .int (nI r)), (2, .ref gw)] := hl
  rw [fl_exp] at hP hD
  have hP := wd_rP 7 rfl [0, 1, 2, 5, 3, 4, 6] (by decide) hP
  have hD := wd_rD 7 rfl [0, 1, 2, 5, 3, 4, 6] (by decide) hD
  have hP : va_P D kls (List.flatten [[(h, .inr (3, [.ref qA, .ref g, .ref qc]))], [(g, .inl (cG, 12, .inr (.inr (.inr (.inr (go rh))))))], [(qc, .inl (cI, 12, .inl (cN ch)))], [(gw, .inl (cG, 12, .inr (.inr (.inr (.inr (go rw))))))], gd cI 12 rh (gN hd), wA, gd cI 12 rw M]) s.heap := hP
  have hD : va_D A (List.flatten [[(h, .inr (3, [.ref qA, .ref g, .ref qc]))], [(g, .inl (cG, 12, .inr (.inr (.inr (.inr (go rh))))))], [(qc, .inl (cI, 12, .inl (cN ch)))], [(gw, .inl (cG, 12, .inr (.inr (.inr (.inr (go rw))))))], gd cI 12 rh (gN hd), wA, gd cI 12 rw M]) := hD
  have inner : ∀ (x : Nat), ∀ (hx9 : x < 12), ∀ (K : ∀ (M : Nat → Nat → Int32) (y : Nat) (H : Heap) (locs : List Loc) (ls : Array Slot), va_P D kls (List.flatten [[(h, .inr (3, [.ref qA, .ref g, .ref qc]))], [(g, .inl (cG, 12, .inr (.inr (.inr (.inr (go rh))))))], [(qc, .inl (cI, 12, .inl (cN ch)))], [(gw, .inl (cG, 12, .inr (.inr (.inr (.inr (go rw))))))], gd cI 12 rh (gN hd), wA, gd cI 12 rw M]) H → va_D A (List.flatten [[(h, .inr (3, [.ref qA, .ref g, .ref qc]))], [(g, .inl (cG, 12, .inr (.inr (.inr (.inr (go rh))))))], [(qc, .inl (cI, 12, .inl (cN ch)))], [(gw, .inl (cG, 12, .inr (.inr (.inr (.inr (go rw))))))], gd cI 12 rh (gN hd), wA, gd cI 12 rw M]) → va_S A s.heap H locs → lv_has ls 7 [(3, .int (nI x)), (0, .ref h), (1, .int (nI r)), (2, .ref gw)] → (∀ a b, a < x + 1 → b < 12 → M a b = nI (vw0 T1.2.2 hd r a b)) → W p l e (rm_ 2 45 0 0) s m args below meth c H locs 0 0 Q (F0 m 83 ls [])), ∀ (k y : Nat) (M : Nat → Nat → Int32) (H : Heap) (locs : List Loc) (ls : Array Slot), y + k = 12 → (∀ a b, a < x → b < 12 → M a b = nI (vw0 T1.2.2 hd r a b)) → (∀ b, b < y → M x b = nI (vw0 T1.2.2 hd r x b)) → va_P D kls (List.flatten [[(h, .inr (3, [.ref qA, .ref g, .ref qc]))], [(g, .inl (cG, 12, .inr (.inr (.inr (.inr (go rh))))))], [(qc, .inl (cI, 12, .inl (cN ch)))], [(gw, .inl (cG, 12, .inr (.inr (.inr (.inr (go rw))))))], gd cI 12 rh (gN hd), wA, gd cI 12 rw M]) H → va_D A (List.flatten [[(h, .inr (3, [.ref qA, .ref g, .ref qc]))], [(g, .inl (cG, 12, .inr (.inr (.inr (.inr (go rh))))))], [(qc, .inl (cI, 12, .inl (cN ch)))], [(gw, .inl (cG, 12, .inr (.inr (.inr (.inr (go rw))))))], gd cI 12 rh (gN hd), wA, gd cI 12 rw M]) → va_S A s.heap H locs → lv_has ls 7 [(4, .int (nI y)), (3, .int (nI x)), (0, .ref h), (1, .int (nI r)), (2, .ref gw)] → W p l e (rm_ 2 45 0 0) s m args below meth c H locs 0 0 Q (F0 m 11 ls []) := by
    intro x hx9 K
    intro k
    induction k with
    | zero =>
      intro y M H locs ls hk hs1 hs2 hP hD hS hl
      refine lv_iload hx hb d_Stores_writeView_11 (lv_at hl 0 rfl) ?_
      refine lv_bipush (v := nI 12) hx hb d_Stores_writeView_13 (by decide) ?_
      refine ri_icmp_ge hx hb (by omega) (by omega) d_Stores_writeView_15 (tgt := 83) (by decide) (fun hc9 => ?_) (fun hc9 => ?_)
      · refine K M y H locs ls hP hD hS (lv_sub hl [1, 2, 3, 4] rfl) (fun a b ha hb9 => ?_)
        by_cases e : a = x
        · subst e; exact hs2 b (by omega)
        · exact hs1 a b (by omega) hb9
      · exact absurd hc9 (by omega)
    | succ k ih =>
      intro y M H locs ls hk hs1 hs2 hP hD hS hl
      refine lv_iload hx hb d_Stores_writeView_11 (lv_at hl 0 rfl) ?_
      refine lv_bipush (v := nI 12) hx hb d_Stores_writeView_13 (by decide) ?_
      refine ri_icmp_ge hx hb (by omega) (by omega) d_Stores_writeView_15 (tgt := 83) (by decide) (fun hc9 => ?_) (fun hc9 => ?_)
      · exact absurd hc9 (by omega)
      · refine lv_aload_n hx hb d_Stores_writeView_18 rfl (lv_at hl 2 rfl) ?_
        refine va_get (D := D) (ci := 3) (v := .ref qA) (C := R_Stores) (T := T_Stores) (N := 3) hx hb ht in_Stores hown hK hP 0 rfl rfl 0 (by decide) (ht _ kl_Stores_16) (fun _ h9 => h9) rfl d_Stores_writeView_19 ?_
        refine lv_aload_n hx hb d_Stores_writeView_22 rfl (lv_at hl 2 rfl) ?_
        refine va_get (D := D) (ci := 3) (v := .ref g) (C := R_Stores) (T := T_Stores) (N := 3) hx hb ht in_Stores hown hK hP 0 rfl rfl 1 (by decide) (ht _ kl_Stores_22) (fun _ h9 => h9) rfl d_Stores_writeView_23 ?_
        refine lv_iload_n hx hb d_Stores_writeView_26 rfl (lv_at hl 3 rfl) ?_
        refine ri_aald hx hb hK hP 1 3 rfl rfl (j := r) (by omega) (by omega) (go_at (by omega)) d_Stores_writeView_27 ?_
        refine lv_iload_n hx hb d_Stores_writeView_28 rfl (lv_at hl 1 rfl) ?_
        refine ri_gld hx hb hK hP 4 0 rfl rfl (i := r) (j := x) (by omega) (by omega) (by decide) d_Stores_writeView_29 ?_
        refine W.eq (g2 := F0 m 30 ls [.int (nI (hd r x)), .ref qA]) rfl ?_
        refine lv_iconst (v := nI 2) hx hb d_Stores_writeView_30 (by decide) ?_
        refine lv_iload hx hb d_Stores_writeView_31 (lv_at hl 0 rfl) ?_
        refine ri_iadd hx hb d_Stores_writeView_33 ?_
        refine ct_rdV (C := R_Rows) (ci := 0) (As := [.int (nI (hd r x)), .int (nI (2 + y))]) (rest := []) ⟨hx, hb, hml, hown, ht⟩ (k_Rows_get l D cI cZ cJ cG qA9 (hd r x) (2 + y) (hh x (by omega)) (by omega)) (cb_V ht kc_Rows_get kl_Stores_36 kn_Rows ki_Rows_get ks_Rows_get hd_Rows_get ⟨Nat.le_of_ble_eq_true rfl, Nat.le_of_ble_eq_true rfl⟩) (wd_mem 5 rfl hmA) rfl rfl (wd_ct (Bs := [[(h, .inr (3, [.ref qA, .ref g, .ref qc]))], [(g, .inl (cG, 12, .inr (.inr (.inr (.inr (go rh))))))], [(qc, .inl (cI, 12, .inl (cN ch)))], [(gw, .inl (cG, 12, .inr (.inr (.inr (.inr (go rw))))))], gd cI 12 rh (gN hd), wA, gd cI 12 rw M]) 7 rfl [5] [0, 1, 2, 3, 4, 6] (by decide) (wd_1 _)) hK hP hD hS hA rfl hl.1 rfl (Nat.le_of_ble_eq_true rfl) ⟨(show 0 + 0 ≤ 0 by omega), (show 0 + 0 ≤ 0 by omega)⟩ d_Stores_writeView_34 (fun rhr3 H locs hr3 hP hD hS => ?_)
        subst hr3
        refine W.eq (g2 := F0 m 37 ls [.int (nI (T1.2.2 (hd r x) (2 + y)))]) rfl ?_
        refine lv_istore hx hb d_Stores_writeView_37 hl (by decide) rfl (fun ls hl => ?_)
        have hl : lv_has ls 7 [(5, .int (nI (T1.2.2 (hd r x) (2 + y)))), (4, .int (nI y)), (3, .int (nI x)), (0, .ref h), (1, .int (nI r)), (2, .ref gw)] := hl
        refine lv_aload_n hx hb d_Stores_writeView_39 rfl (lv_at hl 3 rfl) ?_
        refine va_get (D := D) (ci := 3) (v := .ref qA) (C := R_Stores) (T := T_Stores) (N := 3) hx hb ht in_Stores hown hK hP 0 rfl rfl 0 (by decide) (ht _ kl_Stores_16) (fun _ h9 => h9) rfl d_Stores_writeView_40 ?_
        refine lv_aload_n hx hb d_Stores_writeView_43 rfl (lv_at hl 3 rfl) ?_
        refine va_get (D := D) (ci := 3) (v := .ref g) (C := R_Stores) (T := T_Stores) (N := 3) hx hb ht in_Stores hown hK hP 0 rfl rfl 1 (by decide) (ht _ kl_Stores_22) (fun _ h9 => h9) rfl d_Stores_writeView_44 ?_
        refine lv_iload_n hx hb d_Stores_writeView_47 rfl (lv_at hl 4 rfl) ?_
        refine ri_aald hx hb hK hP 1 3 rfl rfl (j := r) (by omega) (by omega) (go_at (by omega)) d_Stores_writeView_48 ?_
        refine lv_iload hx hb d_Stores_writeView_49 (lv_at hl 1 rfl) ?_
        refine ri_gld hx hb hK hP 4 0 rfl rfl (i := r) (j := y) (by omega) (by omega) (by decide) d_Stores_writeView_51 ?_
        refine W.eq (g2 := F0 m 52 ls [.int (nI (hd r y)), .ref qA]) rfl ?_
        refine lv_iconst (v := nI 2) hx hb d_Stores_writeView_52 (by decide) ?_
        refine lv_iload_n hx hb d_Stores_writeView_53 rfl (lv_at hl 2 rfl) ?_
        refine ri_iadd hx hb d_Stores_writeView_54 ?_
        refine ct_rdV (C := R_Rows) (ci := 0) (As := [.int (nI (hd r y)), .int (nI (2 + x))]) (rest := []) ⟨hx, hb, hml, hown, ht⟩ (k_Rows_get l D cI cZ cJ cG qA9 (hd r y) (2 + x) (hh y (by omega)) (by omega)) (cb_V ht kc_Rows_get kl_Stores_36 kn_Rows ki_Rows_get ks_Rows_get hd_Rows_get ⟨Nat.le_of_ble_eq_true rfl, Nat.le_of_ble_eq_true rfl⟩) (wd_mem 5 rfl hmA) rfl rfl (wd_ct (Bs := [[(h, .inr (3, [.ref qA, .ref g, .ref qc]))], [(g, .inl (cG, 12, .inr (.inr (.inr (.inr (go rh))))))], [(qc, .inl (cI, 12, .inl (cN ch)))], [(gw, .inl (cG, 12, .inr (.inr (.inr (.inr (go rw))))))], gd cI 12 rh (gN hd), wA, gd cI 12 rw M]) 7 rfl [5] [0, 1, 2, 3, 4, 6] (by decide) (wd_1 _)) hK hP hD hS hA rfl hl.1 rfl (Nat.le_of_ble_eq_true rfl) ⟨(show 0 + 0 ≤ 0 by omega), (show 0 + 0 ≤ 0 by omega)⟩ d_Stores_writeView_55 (fun rhr4 H locs hr4 hP hD hS => ?_)
        subst hr4
        refine W.eq (g2 := F0 m 58 ls [.int (nI (T1.2.2 (hd r y) (2 + x)))]) rfl ?_
        refine lv_istore hx hb d_Stores_writeView_58 hl (by decide) rfl (fun ls hl => ?_)
        have hl : lv_has ls 7 [(6, .int (nI (T1.2.2 (hd r y) (2 + x)))), (5, .int (nI (T1.2.2 (hd r x) (2 + y)))), (4, .int (nI y)), (3, .int (nI x)), (0, .ref h), (1, .int (nI r)), (2, .ref gw)] := hl
        refine lv_aload_n hx hb d_Stores_writeView_60 rfl (lv_at hl 6 rfl) ?_
        refine lv_iload_n hx hb d_Stores_writeView_61 rfl (lv_at hl 3 rfl) ?_
        refine ri_aald hx hb hK hP 3 3 rfl rfl (j := x) (by omega) (by omega) (go_at (by omega)) d_Stores_writeView_62 ?_
        refine lv_iload hx hb d_Stores_writeView_63 (lv_at hl 2 rfl) ?_
        refine lv_iload hx hb d_Stores_writeView_65 (lv_at hl 0 rfl) ?_
        refine ri_if_ne hx hb (by have := hA1 (hd r y) x (hh y (by omega)) (by omega); omega) d_Stores_writeView_67 (tgt := 74) (by decide) (fun h1 => ?_) (fun h1 => ?_)
        · refine lv_iload hx hb d_Stores_writeView_74 (lv_at hl 1 rfl) ?_
          refine ri_gst hx hb hK hP hD hS 6 0 rfl rfl (i := x) (j := y) (by omega) (by omega) (by decide) d_Stores_writeView_76 (fun H locs hP hD hS => ?_)
          have hP : va_P D kls (List.flatten [[(h, .inr (3, [.ref qA, .ref g, .ref qc]))], [(g, .inl (cG, 12, .inr (.inr (.inr (.inr (go rh))))))], [(qc, .inl (cI, 12, .inl (cN ch)))], [(gw, .inl (cG, 12, .inr (.inr (.inr (.inr (go rw))))))], gd cI 12 rh (gN hd), wA, gd cI 12 rw (bm_up2 M x y (nI (T1.2.2 (hd r x) (2 + y))))]) H := hP
          have hD : va_D A (List.flatten [[(h, .inr (3, [.ref qA, .ref g, .ref qc]))], [(g, .inl (cG, 12, .inr (.inr (.inr (.inr (go rh))))))], [(qc, .inl (cI, 12, .inl (cN ch)))], [(gw, .inl (cG, 12, .inr (.inr (.inr (.inr (go rw))))))], gd cI 12 rh (gN hd), wA, gd cI 12 rw (bm_up2 M x y (nI (T1.2.2 (hd r x) (2 + y))))]) := hD
          refine ri_iinc hx hb d_Stores_writeView_77 hl (k := 2) rfl (by decide) rfl (fun ls hl => ?_)
          have hl : lv_has ls 7 [(4, .int (nI (y + 1))), (6, .int (nI (T1.2.2 (hd r y) (2 + x)))), (5, .int (nI (T1.2.2 (hd r x) (2 + y)))), (3, .int (nI x)), (0, .ref h), (1, .int (nI r)), (2, .ref gw)] := hl
          refine lv_goto hx hb d_Stores_writeView_80 (tgt := 11) (by decide) ?_
          have hl := lv_sub hl [0, 3, 4, 5, 6] rfl
          refine ih (y + 1) _ H locs ls (by omega) (fun a b ha hb9 => ?_) (fun b hb9 => ?_) hP hD hS hl
          · show (if _ then _ else _) = _
            rw [if_neg (by omega)]
            exact hs1 a b ha hb9
          · show (if _ then _ else _) = _
            by_cases e : b = y
            · subst e
              rw [if_pos ⟨rfl, rfl⟩]
              refine congrArg nI ?_
              unfold vw0
              rw [if_pos ⟨by omega, by omega⟩]
              first | rw [if_pos (by omega)] | rw [if_neg (by omega)]
            · rw [if_neg (fun z => e z.2)]
              exact hs2 b (by omega)
        · refine lv_iconst (v := nI 0) hx hb d_Stores_writeView_70 (by decide) ?_
          refine lv_goto hx hb d_Stores_writeView_71 (tgt := 76) (by decide) ?_
          refine ri_gst hx hb hK hP hD hS 6 0 rfl rfl (i := x) (j := y) (by omega) (by omega) (by decide) d_Stores_writeView_76 (fun H locs hP hD hS => ?_)
          have hP : va_P D kls (List.flatten [[(h, .inr (3, [.ref qA, .ref g, .ref qc]))], [(g, .inl (cG, 12, .inr (.inr (.inr (.inr (go rh))))))], [(qc, .inl (cI, 12, .inl (cN ch)))], [(gw, .inl (cG, 12, .inr (.inr (.inr (.inr (go rw))))))], gd cI 12 rh (gN hd), wA, gd cI 12 rw (bm_up2 M x y (nI 0))]) H := hP
          have hD : va_D A (List.flatten [[(h, .inr (3, [.ref qA, .ref g, .ref qc]))], [(g, .inl (cG, 12, .inr (.inr (.inr (.inr (go rh))))))], [(qc, .inl (cI, 12, .inl (cN ch)))], [(gw, .inl (cG, 12, .inr (.inr (.inr (.inr (go rw))))))], gd cI 12 rh (gN hd), wA, gd cI 12 rw (bm_up2 M x y (nI 0))]) := hD
          refine ri_iinc hx hb d_Stores_writeView_77 hl (k := 2) rfl (by decide) rfl (fun ls hl => ?_)
          have hl : lv_has ls 7 [(4, .int (nI (y + 1))), (6, .int (nI (T1.2.2 (hd r y) (2 + x)))), (5, .int (nI (T1.2.2 (hd r x) (2 + y)))), (3, .int (nI x)), (0, .ref h), (1, .int (nI r)), (2, .ref gw)] := hl
          refine lv_goto hx hb d_Stores_writeView_80 (tgt := 11) (by decide) ?_
          have hl := lv_sub hl [0, 3, 4, 5, 6] rfl
          refine ih (y + 1) _ H locs ls (by omega) (fun a b ha hb9 => ?_) (fun b hb9 => ?_) hP hD hS hl
          · show (if _ then _ else _) = _
            rw [if_neg (by omega)]
            exact hs1 a b ha hb9
          · show (if _ then _ else _) = _
            by_cases e : b = y
            · subst e
              rw [if_pos ⟨rfl, rfl⟩]
              refine congrArg nI ?_
              unfold vw0
              rw [if_pos ⟨by omega, by omega⟩]
              first | rw [if_pos (by omega)] | rw [if_neg (by omega)]
            · rw [if_neg (fun z => e z.2)]
              exact hs2 b (by omega)
  have loop : ∀ (k x : Nat) (M : Nat → Nat → Int32) (H : Heap) (locs : List Loc) (ls : Array Slot), x + k = 12 → (∀ a b, a < x → b < 12 → M a b = nI (vw0 T1.2.2 hd r a b)) → va_P D kls (List.flatten [[(h, .inr (3, [.ref qA, .ref g, .ref qc]))], [(g, .inl (cG, 12, .inr (.inr (.inr (.inr (go rh))))))], [(qc, .inl (cI, 12, .inl (cN ch)))], [(gw, .inl (cG, 12, .inr (.inr (.inr (.inr (go rw))))))], gd cI 12 rh (gN hd), wA, gd cI 12 rw M]) H → va_D A (List.flatten [[(h, .inr (3, [.ref qA, .ref g, .ref qc]))], [(g, .inl (cG, 12, .inr (.inr (.inr (.inr (go rh))))))], [(qc, .inl (cI, 12, .inl (cN ch)))], [(gw, .inl (cG, 12, .inr (.inr (.inr (.inr (go rw))))))], gd cI 12 rh (gN hd), wA, gd cI 12 rw M]) → va_S A s.heap H locs → lv_has ls 7 [(3, .int (nI x)), (0, .ref h), (1, .int (nI r)), (2, .ref gw)] → W p l e (rm_ 2 45 0 0) s m args below meth c H locs 0 0 Q (F0 m 2 ls []) := by
    intro k
    induction k with
    | zero =>
      intro x M H locs ls hk hs hP hD hS hl
      refine lv_iload_n hx hb d_Stores_writeView_2 rfl (lv_at hl 0 rfl) ?_
      refine lv_bipush (v := nI 12) hx hb d_Stores_writeView_3 (by decide) ?_
      refine ri_icmp_ge hx hb (by omega) (by omega) d_Stores_writeView_5 (tgt := 89) (by decide) (fun hc9 => ?_) (fun hc9 => ?_)
      · obtain ⟨hP, hD⟩ := gd_set (M' := gN (vw0 T1.2.2 hd r)) 6 rfl (fun a b ha hb9 => hs a b (by omega) hb9) hP hD
        have hP := wd_rP 7 rfl [0, 1, 2, 4, 5, 3, 6] (by decide) hP
        have hD := wd_rD 7 rfl [0, 1, 2, 4, 5, 3, 6] (by decide) hD
        exact ct_vret hQ hx hb hr hlk hP hD hS hK (by omega) (by omega) d_Stores_writeView_89 (by rw [fl_exp]; rfl)
      · exact absurd hc9 (by omega)
    | succ k ih =>
      intro x M H locs ls hk hs hP hD hS hl
      refine lv_iload_n hx hb d_Stores_writeView_2 rfl (lv_at hl 0 rfl) ?_
      refine lv_bipush (v := nI 12) hx hb d_Stores_writeView_3 (by decide) ?_
      refine ri_icmp_ge hx hb (by omega) (by omega) d_Stores_writeView_5 (tgt := 89) (by decide) (fun hc9 => ?_) (fun hc9 => ?_)
      · exact absurd hc9 (by omega)
      · refine lv_iconst (v := nI 0) hx hb d_Stores_writeView_8 (by decide) ?_
        refine lv_istore hx hb d_Stores_writeView_9 hl (by decide) rfl (fun ls hl => ?_)
        have hl : lv_has ls 7 [(4, .int (nI 0)), (3, .int (nI x)), (0, .ref h), (1, .int (nI r)), (2, .ref gw)] := hl
        refine inner x (by omega) (fun M y H locs ls hP hD hS hl hs9 => ?_) 12 0 M H locs ls (by omega) hs (fun b hb9 => absurd hb9 (by omega)) hP hD hS hl
        refine ri_iinc hx hb d_Stores_writeView_83 hl (k := 0) rfl (by decide) rfl (fun ls hl => ?_)
        have hl : lv_has ls 7 [(3, .int (nI (x + 1))), (0, .ref h), (1, .int (nI r)), (2, .ref gw)] := hl
        refine lv_goto hx hb d_Stores_writeView_86 (tgt := 2) (by decide) ?_
        exact ih (x + 1) M H locs ls (by omega) hs9 hP hD hS hl
  refine lv_iconst (v := nI 0) hx hb d_Stores_writeView_0 (by decide) ?_
  refine lv_istore_n hx hb d_Stores_writeView_1 rfl hl (by decide) rfl (fun ls hl => ?_)
  have hl : lv_has ls 7 [(3, .int (nI 0)), (0, .ref h), (1, .int (nI r)), (2, .ref gw)] := hl
  exact loop 12 0 M s.heap [] ls (by omega) (fun a b ha => absurd ha (by omega)) hP hD hS hl
