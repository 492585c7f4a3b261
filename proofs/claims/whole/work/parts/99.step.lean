/-! BitNet: step's loop. -/
def bm_sj (S : bm_S) : Nat → bm_T × Int32
  | 0 => (S.T, S.lost)
  | j + 1 => bm_del S.lk S.kn (bm_sj S j)
def bm_stp (d : Nat) (S : bm_S) : bm_S := (S.eb, S.tk, S.es, S.lk, S.kn, (bm_sj S d).1, (bm_sj S d).2, S.D, S.G)
abbrev bm_sgo (S : bm_S) (j : Nat) : Prop := 0 < (bm_sj S j).1.2.2.1.2.1 ∧ (bm_sj S j).1.2.2.1.2.1 < 3900
theorem bm_sj_le (S : bm_S) : ∀ j, bm_le S.T (bm_sj S j).1
  | 0 => bm_le.rf _
  | j + 1 => (bm_sj_le S j).tr (bm_del_le S.lk S.kn (bm_sj S j))
theorem bm_sj_up (S : bm_S) : ∀ j, bm_up S.T (bm_sj S j).1
  | 0 => bm_up.rf _
  | j + 1 => (bm_sj_up S j).tr (bm_up_del (lk := S.lk) (kn := S.kn) (S := bm_sj S j))
set_option maxHeartbeats 800000 in
set_option maxRecDepth 100000 in
theorem k_Net_step (l : Launch) (D : va_G) (cI cZ cJ cG : ClassId) {h : Nat} {S : bm_S} {ws : va_W} (hR : nt_R cI cZ cG h S ws) (n : Nat) (hn1 : 1 ≤ n) (hn2 : n ≤ 1000) (hn9 : S.T.2.2.1.2.1 < 3900) (hkn : ∀ a b, S.kn a b ≤ 1000) (hlk9 : ∀ a b, S.lk a b ≤ 2) (mc ms : Nat) (hq : ∀ j, j ≤ n → (∀ i, i < j → bm_sgo S i) → bm_ok (bm_sj S j).1 ∧ bm_cap (bm_sj S j).1 ∧ bm_gc S.T (bm_sj S j).1 ≤ mc ∧ bm_gs S.T (bm_sj S j).1 ≤ ms) : ct_I l D kls (ty4 cI cZ cJ cG) y_Net_step ws_Net_step (rm_ 7 168 mc ms) [.ref h, .int (nI n)] (ws) (fun z u => ∃ d, z = nI d ∧ d ≤ n ∧ (∀ j, j < d → bm_sgo S j) ∧ (d = n ∨ ¬ bm_sgo S d) ∧ nt_R cI cZ cG h (bm_stp d S) u) mc ms := by
  obtain ⟨aE, aL, aS, aK, aR, aD, aG, aM, aP, aC, wE, wL, wS, wM, wR, wD, wG, rfl, kE, kL, kS, kM, kR, kD, kG⟩ := hR
  obtain ⟨fsE, mE⟩ := kE.mem
  obtain ⟨fsL, mL⟩ := kL.mem
  obtain ⟨fsS, mS⟩ := kS.mem
  obtain ⟨fsR, mR⟩ := kR.mem
  obtain ⟨fsD, mD⟩ := kD.mem
  obtain ⟨fsG, mG⟩ := kG.mem
  have kK : co_R cI cG aK aL aS aM S.lk S.kn S.T S.lost (List.flatten [[(aK, .inr (4, [.ref aL, .ref aS, .ref aM, .int S.lost]))], wL, wS, wM]) := ⟨wL, wS, wM, rfl, kL, kS, kM⟩
  obtain ⟨fsK, mK⟩ := kK.mem
  refine ct_enterI (cc := b_Net_step) (maxL := 3) (ret := (some .int)) (by decide +kernel) (Nat.le_of_ble_eq_true rfl) ?_
  intro p e s m args below meth c hx hb hml hr ht hown hlk hnm A Q hA hK hP hD hQ ls hl
  have hown : s.vm.findClass R_Net = some m.cls := hown
  have hS : va_S A s.heap s.heap [] := va_S.rf
  have hl : lv_has ls 3 [(0, .ref h), (1, .int (nI n))] := hl
  have loop : ∀ (k j : Nat) (wL9 : va_W) (wS9 : va_W) (wM9 : va_W) (H : Heap) (locs : List Loc) (ls : Array Slot), j + k = n → (∀ i, i < j → bm_sgo S i) → (lk_R cI cG aL S.lk S.kn wL9) → (so_R cI cG aS (bm_sj S j).1.1 (bm_sj S j).1.2.1 (bm_sj S j).1.2.2.2 wS9) → (rw_R cI 3 (bm_sj S j).1.2.2.1.1 (bm_sj S j).1.2.2.1.2.1 (gN (bm_sj S j).1.2.2.1.2.2) aM wM9) → va_P D kls (List.flatten [[(h, .inr (8, [.ref aE, .ref aL, .ref aS, .ref aK, .ref aR, .ref aD, .ref aG]))], [(aK, .inr (4, [.ref aL, .ref aS, .ref aM, .int ((bm_sj S j).2)]))], wE, wL9, wS9, wM9, wR, wD, wG]) H → va_D A (List.flatten [[(h, .inr (8, [.ref aE, .ref aL, .ref aS, .ref aK, .ref aR, .ref aD, .ref aG]))], [(aK, .inr (4, [.ref aL, .ref aS, .ref aM, .int ((bm_sj S j).2)]))], wE, wL9, wS9, wM9, wR, wD, wG]) → va_S A s.heap H locs → lv_has ls 3 [(2, .int (nI j)), (0, .ref h), (1, .int (nI n))] → W p l e (rm_ 7 168 mc ms) s m args below meth c H locs (bm_gc S.T (bm_sj S j).1) (bm_gs S.T (bm_sj S j).1) Q (F0 m 30 ls []) := by
    intro k
    induction k with
    | zero =>
      intro j wL9 wS9 wM9 H locs ls hk hs kL9 kS9 kM9 hP hD hS hl
      refine lv_iload_n hx hb d_Net_step_30 rfl (lv_at hl 0 rfl) ?_
      refine lv_iload_n hx hb d_Net_step_31 rfl (lv_at hl 2 rfl) ?_
      refine ri_icmp_ge hx hb (by omega) (by omega) d_Net_step_32 (tgt := 71) (by decide) (fun hc9 => ?_) (fun hc9 => ?_)
      · have hqj := hq j (by omega) hs
        have hq1 := hqj.2.2.1
        have hq2 := hqj.2.2.2
        refine lv_iload_n hx hb d_Net_step_71 rfl (lv_at hl 0 rfl) ?_
        exact ct_iret hQ hx hb hr hlk hP hD hS hK (by omega) (by omega) d_Net_step_72 (⟨j, rfl, by omega, hs, (by first | exact Or.inl (by omega) | exact Or.inr (by intro z; omega)), aE, aL, aS, aK, aR, aD, aG, aM, aP, aC, wE, wL9, wS9, wM9, wR, wD, wG, rfl, kE, kL9, kS9, kM9, (bm_sj_up S j).rt kR, kD, kG⟩)
      · exact absurd hc9 (by omega)
    | succ k ih =>
      intro j wL9 wS9 wM9 H locs ls hk hs kL9 kS9 kM9 hP hD hS hl
      refine lv_iload_n hx hb d_Net_step_30 rfl (lv_at hl 0 rfl) ?_
      refine lv_iload_n hx hb d_Net_step_31 rfl (lv_at hl 2 rfl) ?_
      refine ri_icmp_ge hx hb (by omega) (by omega) d_Net_step_32 (tgt := 71) (by decide) (fun hc9 => ?_) (fun hc9 => ?_)
      · have hqj := hq j (by omega) hs
        have hq1 := hqj.2.2.1
        have hq2 := hqj.2.2.2
        refine lv_iload_n hx hb d_Net_step_71 rfl (lv_at hl 0 rfl) ?_
        exact ct_iret hQ hx hb hr hlk hP hD hS hK (by omega) (by omega) d_Net_step_72 (⟨j, rfl, by omega, hs, (by first | exact Or.inl (by omega) | exact Or.inr (by intro z; omega)), aE, aL, aS, aK, aR, aD, aG, aM, aP, aC, wE, wL9, wS9, wM9, wR, wD, wG, rfl, kE, kL9, kS9, kM9, (bm_sj_up S j).rt kR, kD, kG⟩)
      · have kK9 : co_R cI cG aK aL aS aM S.lk S.kn (bm_sj S j).1 (bm_sj S j).2 (List.flatten [[(aK, .inr (4, [.ref aL, .ref aS, .ref aM, .int (bm_sj S j).2]))], wL9, wS9, wM9]) := ⟨wL9, wS9, wM9, rfl, kL9, kS9, kM9⟩
        have bM9 := kM9.n
        have hqj := hq j (by omega) hs
        have hq1 := hqj.2.2.1
        have hq2 := hqj.2.2.2
        refine lv_aload_n hx hb d_Net_step_35 rfl (lv_at hl 1 rfl) ?_
        refine va_get (D := D) (ci := 8) (v := .ref aK) (C := R_Net) (T := T_Net) (N := 7) hx hb ht in_Net hown hK hP 0 rfl rfl 3 (by decide) (ht _ kl_Net_35) (fun _ h9 => h9) rfl d_Net_step_36 ?_
        refine ct_rdV (C := R_Control) (ci := 4) (As := []) (rest := []) ⟨hx, hb, hml, hown, ht⟩ (k_Control_onTheWay l D cI cZ cJ cG kK9) (cb_V ht kc_Control_onTheWay kl_Net_129 kn_Control ki_Control_onTheWay ks_Control_onTheWay hd_Control_onTheWay ⟨Nat.le_of_ble_eq_true rfl, Nat.le_of_ble_eq_true rfl⟩) (List.mem_of_getElem? (i := 1) rfl) rfl rfl (wd_ct (Bs := [[(h, .inr (8, [.ref aE, .ref aL, .ref aS, .ref aK, .ref aR, .ref aD, .ref aG]))], [(aK, .inr (4, [.ref aL, .ref aS, .ref aM, .int ((bm_sj S j).2)]))], wE, wL9, wS9, wM9, wR, wD, wG]) 9 rfl [1, 3, 4, 5] [0, 2, 6, 7, 8] (by decide) rfl) hK hP hD hS hA rfl hl.1 rfl (Nat.le_of_ble_eq_true rfl) ⟨(show (bm_gc S.T (bm_sj S j).1) + 0 ≤ mc by omega), (show (bm_gs S.T (bm_sj S j).1) + 0 ≤ ms by omega)⟩ d_Net_step_39 (fun rhr3 H locs hr3 hP hD hS => ?_)
        subst hr3
        refine ri_if_le hx hb (by omega) d_Net_step_42 (tgt := 71) (by decide) (fun h42 => ?_) (fun h42 => ?_)
        · have hqj := hq j (by omega) hs
          have hq1 := hqj.2.2.1
          have hq2 := hqj.2.2.2
          refine lv_iload_n hx hb d_Net_step_71 rfl (lv_at hl 0 rfl) ?_
          exact ct_iret hQ hx hb hr hlk hP hD hS hK (by omega) (by omega) d_Net_step_72 (⟨j, rfl, by omega, hs, (by first | exact Or.inl (by omega) | exact Or.inr (by intro z; omega)), aE, aL, aS, aK, aR, aD, aG, aM, aP, aC, wE, wL9, wS9, wM9, wR, wD, wG, rfl, kE, kL9, kS9, kM9, (bm_sj_up S j).rt kR, kD, kG⟩)
        · refine lv_aload_n hx hb d_Net_step_45 rfl (lv_at hl 1 rfl) ?_
          refine va_get (D := D) (ci := 8) (v := .ref aK) (C := R_Net) (T := T_Net) (N := 7) hx hb ht in_Net hown hK hP 0 rfl rfl 3 (by decide) (ht _ kl_Net_35) (fun _ h9 => h9) rfl d_Net_step_46 ?_
          refine ct_rdV (C := R_Control) (ci := 4) (As := []) (rest := []) ⟨hx, hb, hml, hown, ht⟩ (k_Control_onTheWay l D cI cZ cJ cG kK9) (cb_V ht kc_Control_onTheWay kl_Net_129 kn_Control ki_Control_onTheWay ks_Control_onTheWay hd_Control_onTheWay ⟨Nat.le_of_ble_eq_true rfl, Nat.le_of_ble_eq_true rfl⟩) (List.mem_of_getElem? (i := 1) rfl) rfl rfl (wd_ct (Bs := [[(h, .inr (8, [.ref aE, .ref aL, .ref aS, .ref aK, .ref aR, .ref aD, .ref aG]))], [(aK, .inr (4, [.ref aL, .ref aS, .ref aM, .int ((bm_sj S j).2)]))], wE, wL9, wS9, wM9, wR, wD, wG]) 9 rfl [1, 3, 4, 5] [0, 2, 6, 7, 8] (by decide) rfl) hK hP hD hS hA rfl hl.1 rfl (Nat.le_of_ble_eq_true rfl) ⟨(show (bm_gc S.T (bm_sj S j).1) + 0 ≤ mc by omega), (show (bm_gs S.T (bm_sj S j).1) + 0 ≤ ms by omega)⟩ d_Net_step_49 (fun rhr5 H locs hr5 hP hD hS => ?_)
          subst hr5
          refine lv_sipush (v := nI 3900) hx hb d_Net_step_52 (by decide) ?_
          refine ri_icmp_ge hx hb (by omega) (by omega) d_Net_step_55 (tgt := 71) (by decide) (fun h55 => ?_) (fun h55 => ?_)
          · have hqj := hq j (by omega) hs
            have hq1 := hqj.2.2.1
            have hq2 := hqj.2.2.2
            refine lv_iload_n hx hb d_Net_step_71 rfl (lv_at hl 0 rfl) ?_
            exact ct_iret hQ hx hb hr hlk hP hD hS hK (by omega) (by omega) d_Net_step_72 (⟨j, rfl, by omega, hs, (by first | exact Or.inl (by omega) | exact Or.inr (by intro z; omega)), aE, aL, aS, aK, aR, aD, aG, aM, aP, aC, wE, wL9, wS9, wM9, wR, wD, wG, rfl, kE, kL9, kS9, kM9, (bm_sj_up S j).rt kR, kD, kG⟩)
          · refine lv_aload_n hx hb d_Net_step_58 rfl (lv_at hl 1 rfl) ?_
            refine va_get (D := D) (ci := 8) (v := .ref aK) (C := R_Net) (T := T_Net) (N := 7) hx hb ht in_Net hown hK hP 0 rfl rfl 3 (by decide) (ht _ kl_Net_35) (fun _ h9 => h9) rfl d_Net_step_59 ?_
            have hs2 : ∀ i, i < j + 1 → bm_sgo S i := fun i hi9 => by by_cases e : i = j; (· rw [e]; exact ⟨by omega, by omega⟩); (· exact hs i (by omega))
            have hqj := hq j (by omega) hs
            have hqk := hq (j + 1) (by omega) hs2
            have hgc : bm_gc S.T (bm_sj S j).1 + bm_gc (bm_sj S j).1 (bm_del S.lk S.kn ((bm_sj S j).1, (bm_sj S j).2)).1 = bm_gc S.T (bm_sj S (j + 1)).1 := bm_gc_tr (bm_sj_le S j) (bm_del_le S.lk S.kn (bm_sj S j))
            have hgs : bm_gs S.T (bm_sj S j).1 + bm_gs (bm_sj S j).1 (bm_del S.lk S.kn ((bm_sj S j).1, (bm_sj S j).2)).1 = bm_gs S.T (bm_sj S (j + 1)).1 := bm_gs_tr (bm_sj_le S j) (bm_del_le S.lk S.kn (bm_sj S j))
            refine ct_callVV (C := R_Control) (ci := 4) (As := []) (rest := []) ⟨hx, hb, hml, hown, ht⟩ (k_Control_deliverOldest l D cI cZ cJ cG kK9 hqj.1 hkn hlk9 (by omega) hqk.2.1) (cb_V ht kc_Control_deliverOldest kl_Net_136 kn_Control ki_Control_deliverOldest ks_Control_deliverOldest hd_Control_deliverOldest ⟨Nat.le_of_ble_eq_true rfl, Nat.le_of_ble_eq_true rfl⟩) (List.mem_of_getElem? (i := 1) rfl) rfl rfl (wd_ct (Bs := [[(h, .inr (8, [.ref aE, .ref aL, .ref aS, .ref aK, .ref aR, .ref aD, .ref aG]))], [(aK, .inr (4, [.ref aL, .ref aS, .ref aM, .int ((bm_sj S j).2)]))], wE, wL9, wS9, wM9, wR, wD, wG]) 9 rfl [1, 3, 4, 5] [0, 2, 6, 7, 8] (by decide) rfl) hK hP hD hS hA rfl hl.1 rfl (Nat.le_of_ble_eq_true rfl) ⟨(Nat.le_trans (Nat.le_of_eq hgc) hqk.2.2.1), (Nat.le_trans (Nat.le_of_eq hgs) hqk.2.2.2)⟩ d_Net_step_62 (fun u7 H locs hu7 hP hD hS => ?_)
            obtain ⟨wL8, wS8, wM8, rfl, kL8, kS8, kM8⟩ := hu7
            refine W.widen (k := bm_gc S.T (bm_sj S (j + 1)).1) (n := bm_gs S.T (bm_sj S (j + 1)).1) (Nat.le_of_eq hgc) (Nat.le_of_eq hgs) ?_
            have hP := wd_nP (N := [[(aK, .inr (4, [.ref aL, .ref aS, .ref aM, .int ((bm_del S.lk S.kn ((bm_sj S j).1, (bm_sj S j).2)).2)]))], wL8, wS8, wM8]) rfl 9 rfl [4, 0, 5, 1, 2, 3, 6, 7, 8] (by decide) hP
            have hD := wd_nD (N := [[(aK, .inr (4, [.ref aL, .ref aS, .ref aM, .int ((bm_del S.lk S.kn ((bm_sj S j).1, (bm_sj S j).2)).2)]))], wL8, wS8, wM8]) rfl 9 rfl [4, 0, 5, 1, 2, 3, 6, 7, 8] (by decide) hD
            have hP : va_P D kls (List.flatten [[(h, .inr (8, [.ref aE, .ref aL, .ref aS, .ref aK, .ref aR, .ref aD, .ref aG]))], [(aK, .inr (4, [.ref aL, .ref aS, .ref aM, .int ((bm_del S.lk S.kn ((bm_sj S j).1, (bm_sj S j).2)).2)]))], wE, wL8, wS8, wM8, wR, wD, wG]) H := hP
            have hD : va_D A (List.flatten [[(h, .inr (8, [.ref aE, .ref aL, .ref aS, .ref aK, .ref aR, .ref aD, .ref aG]))], [(aK, .inr (4, [.ref aL, .ref aS, .ref aM, .int ((bm_del S.lk S.kn ((bm_sj S j).1, (bm_sj S j).2)).2)]))], wE, wL8, wS8, wM8, wR, wD, wG]) := hD
            refine W.eq (g2 := F0 m 65 ls []) rfl ?_
            refine ri_iinc hx hb d_Net_step_65 hl (k := 0) rfl (by decide) rfl (fun ls hl => ?_)
            have hl : lv_has ls 3 [(2, .int (nI (j + 1))), (0, .ref h), (1, .int (nI n))] := hl
            refine lv_goto hx hb d_Net_step_68 (tgt := 30) (by decide) ?_
            exact ih (j + 1) wL8 wS8 wM8 H locs ls (by omega) hs2 kL8 kS8 kM8 hP hD hS hl
  refine lv_aload_n hx hb d_Net_step_0 rfl (lv_at hl 0 rfl) ?_
  refine va_get (D := D) (ci := 8) (v := .ref aK) (C := R_Net) (T := T_Net) (N := 7) hx hb ht in_Net hown hK hP 0 rfl rfl 3 (by decide) (ht _ kl_Net_35) (fun _ h9 => h9) rfl d_Net_step_1 ?_
  refine ct_rdV (C := R_Control) (ci := 4) (As := []) (rest := []) ⟨hx, hb, hml, hown, ht⟩ (k_Control_onTheWay l D cI cZ cJ cG kK) (cb_V ht kc_Control_onTheWay kl_Net_129 kn_Control ki_Control_onTheWay ks_Control_onTheWay hd_Control_onTheWay ⟨Nat.le_of_ble_eq_true rfl, Nat.le_of_ble_eq_true rfl⟩) (List.mem_of_getElem? (i := 1) rfl) rfl rfl (wd_ct (Bs := [[(h, .inr (8, [.ref aE, .ref aL, .ref aS, .ref aK, .ref aR, .ref aD, .ref aG]))], [(aK, .inr (4, [.ref aL, .ref aS, .ref aM, .int S.lost]))], wE, wL, wS, wM, wR, wD, wG]) 9 rfl [1, 3, 4, 5] [0, 2, 6, 7, 8] (by decide) rfl) hK hP hD hS hA rfl hl.1 rfl (Nat.le_of_ble_eq_true rfl) ⟨(show 0 + 0 ≤ mc by omega), (show 0 + 0 ≤ ms by omega)⟩ d_Net_step_4 (fun rhr8 H locs hr8 hP hD hS => ?_)
  subst hr8
  refine lv_sipush (v := nI 3900) hx hb d_Net_step_7 (by decide) ?_
  refine ri_icmp_ge hx hb (by omega) (by omega) d_Net_step_10 (tgt := 17) (by decide) (fun h10 => ?_) (fun h10 => ?_)
  · exact absurd h10 (by omega)
  · refine lv_iconst (v := nI 1) hx hb d_Net_step_13 (by decide) ?_
    refine lv_goto hx hb d_Net_step_14 (tgt := 18) (by decide) ?_
    refine W.eq (g2 := F0 m 18 ls [.int (bI true)]) (congrArg (fun z => F0 m 18 ls (.int z :: [])) (rfl)) ?_
    refine ct_callSV (As := [.int (bI true)]) (rest := []) ⟨hx, hb, hml, hown, ht⟩ (k_Net_demandRoom l D cI cZ cJ cG) (cb_S ht kc_Net_demandRoom kl_Net_88 kn_Net ki_Net_demandRoom hd_Net_demandRoom ⟨Nat.le_of_ble_eq_true rfl, Nat.le_of_ble_eq_true rfl⟩) (wd_ct (Bs := [[(h, .inr (8, [.ref aE, .ref aL, .ref aS, .ref aK, .ref aR, .ref aD, .ref aG]))], [(aK, .inr (4, [.ref aL, .ref aS, .ref aM, .int S.lost]))], wE, wL, wS, wM, wR, wD, wG]) 9 rfl [] [0, 1, 2, 3, 4, 5, 6, 7, 8] (by decide) rfl) hK hP hD hS hA rfl hl.1 rfl (Nat.le_of_ble_eq_true rfl) ⟨(Nat.zero_le _), (Nat.zero_le _)⟩ d_Net_step_18 (fun u10 H locs hu10 hP hD hS => ?_)
    subst hu10
    refine W.widen (k := 0) (n := 0) (Nat.le_refl _) (Nat.le_refl _) ?_
    have hP := wd_nP (N := []) rfl 9 rfl [0, 1, 2, 3, 4, 5, 6, 7, 8] (by decide) hP
    have hD := wd_nD (N := []) rfl 9 rfl [0, 1, 2, 3, 4, 5, 6, 7, 8] (by decide) hD
    have hP : va_P D kls (List.flatten [[(h, .inr (8, [.ref aE, .ref aL, .ref aS, .ref aK, .ref aR, .ref aD, .ref aG]))], [(aK, .inr (4, [.ref aL, .ref aS, .ref aM, .int S.lost]))], wE, wL, wS, wM, wR, wD, wG]) H := hP
    have hD : va_D A (List.flatten [[(h, .inr (8, [.ref aE, .ref aL, .ref aS, .ref aK, .ref aR, .ref aD, .ref aG]))], [(aK, .inr (4, [.ref aL, .ref aS, .ref aM, .int S.lost]))], wE, wL, wS, wM, wR, wD, wG]) := hD
    refine W.eq (g2 := F0 m 21 ls []) rfl ?_
    refine lv_iload_n hx hb d_Net_step_21 rfl (lv_at hl 1 rfl) ?_
    refine ct_rdS (As := [.int (nI n)]) (rest := []) ⟨hx, hb, hml, hown, ht⟩ (k_Net_isNumberOfTurns l D cI cZ cJ cG (nI n)) (cb_S ht kc_Net_isNumberOfTurns kl_Net_133 kn_Net ki_Net_isNumberOfTurns hd_Net_isNumberOfTurns ⟨Nat.le_of_ble_eq_true rfl, Nat.le_of_ble_eq_true rfl⟩) (wd_ct (Bs := [[(h, .inr (8, [.ref aE, .ref aL, .ref aS, .ref aK, .ref aR, .ref aD, .ref aG]))], [(aK, .inr (4, [.ref aL, .ref aS, .ref aM, .int S.lost]))], wE, wL, wS, wM, wR, wD, wG]) 9 rfl [] [0, 1, 2, 3, 4, 5, 6, 7, 8] (by decide) rfl) hK hP hD hS hA rfl hl.1 rfl (Nat.le_of_ble_eq_true rfl) ⟨(show 0 + 0 ≤ mc by omega), (show 0 + 0 ≤ ms by omega)⟩ d_Net_step_22 (fun rhr11 H locs hr11 hP hD hS => ?_)
    subst hr11
    refine W.eq (g2 := F0 m 25 ls [.int (bI true)]) (congrArg (fun z => F0 m 25 ls (.int z :: [])) (congrArg bI (by rw [rg_nI (show n < 2 ^ 31 by omega)]; exact decide_eq_true (by omega)))) ?_
    refine ct_callSV (As := [.int (bI true)]) (rest := []) ⟨hx, hb, hml, hown, ht⟩ (k_Net_demand l D cI cZ cJ cG) (cb_S ht kc_Net_demand kl_Net_70 kn_Net ki_Net_demand hd_Net_demand ⟨Nat.le_of_ble_eq_true rfl, Nat.le_of_ble_eq_true rfl⟩) (wd_ct (Bs := [[(h, .inr (8, [.ref aE, .ref aL, .ref aS, .ref aK, .ref aR, .ref aD, .ref aG]))], [(aK, .inr (4, [.ref aL, .ref aS, .ref aM, .int S.lost]))], wE, wL, wS, wM, wR, wD, wG]) 9 rfl [] [0, 1, 2, 3, 4, 5, 6, 7, 8] (by decide) rfl) hK hP hD hS hA rfl hl.1 rfl (Nat.le_of_ble_eq_true rfl) ⟨(Nat.zero_le _), (Nat.zero_le _)⟩ d_Net_step_25 (fun u12 H locs hu12 hP hD hS => ?_)
    subst hu12
    refine W.widen (k := 0) (n := 0) (Nat.le_refl _) (Nat.le_refl _) ?_
    have hP := wd_nP (N := []) rfl 9 rfl [0, 1, 2, 3, 4, 5, 6, 7, 8] (by decide) hP
    have hD := wd_nD (N := []) rfl 9 rfl [0, 1, 2, 3, 4, 5, 6, 7, 8] (by decide) hD
    have hP : va_P D kls (List.flatten [[(h, .inr (8, [.ref aE, .ref aL, .ref aS, .ref aK, .ref aR, .ref aD, .ref aG]))], [(aK, .inr (4, [.ref aL, .ref aS, .ref aM, .int S.lost]))], wE, wL, wS, wM, wR, wD, wG]) H := hP
    have hD : va_D A (List.flatten [[(h, .inr (8, [.ref aE, .ref aL, .ref aS, .ref aK, .ref aR, .ref aD, .ref aG]))], [(aK, .inr (4, [.ref aL, .ref aS, .ref aM, .int S.lost]))], wE, wL, wS, wM, wR, wD, wG]) := hD
    refine W.eq (g2 := F0 m 28 ls []) rfl ?_
    refine lv_iconst (v := nI 0) hx hb d_Net_step_28 (by decide) ?_
    refine lv_istore_n hx hb d_Net_step_29 rfl hl (by decide) rfl (fun ls hl => ?_)
    have hl : lv_has ls 3 [(2, .int (nI 0)), (0, .ref h), (1, .int (nI n))] := hl
    refine W.widen (k := bm_gc S.T (bm_sj S 0).1) (n := bm_gs S.T (bm_sj S 0).1) (Nat.zero_le _) (Nat.zero_le _) ?_
    exact loop n 0 wL wS wM H locs ls (by omega) (fun i hi9 => absurd hi9 (by omega)) kL kS kM hP hD hS hl
