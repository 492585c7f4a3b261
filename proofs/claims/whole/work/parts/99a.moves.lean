/-! BitNet: move's loop. -/
def bm_dst (S : bm_S) (D : bm_D) : bm_D := bm_ddel S.lk S.eb (bm_mkr S.T.1.2.2 S.T.2.1 S.eb) (D.2.1.2.2 0 0).toNatClampNeg (D.2.1.2.2 0 1).toNatClampNeg (D.2.1.2.2 0 2).toNatClampNeg (D.2.1.2.2 0 4).toNatClampNeg D
def bm_dj (S : bm_S) : Nat → bm_D
  | 0 => S.D
  | j + 1 => bm_dst S (bm_dj S j)
def bm_mv (d : Nat) (S : bm_S) : bm_S := (S.eb, S.tk, S.es, S.lk, S.kn, S.T, S.lost, bm_dj S d, S.G)
abbrev bm_dgo (S : bm_S) (j : Nat) : Prop := 0 < (bm_dj S j).2.1.2.1 ∧ (bm_dj S j).2.1.2.1 < 3900
/-- the oldest copy is one that the class can deliver -/
def bm_cok (D : bm_D) : Prop := ∃ pk f t hp : Nat, (D.2.1.2.2 0 0 = nI pk ∧ D.2.1.2.2 0 1 = nI f ∧ D.2.1.2.2 0 2 = nI t ∧ D.2.1.2.2 0 4 = nI hp) ∧ f < 12 ∧ t < 12 ∧ 1 ≤ pk ∧ pk ≤ D.1.2.1 ∧ pk < 2147483648 ∧ hp < 2147483648
theorem bm_dst_at (S : bm_S) {D : bm_D} {pk f t hp : Nat} (h : D.2.1.2.2 0 0 = nI pk ∧ D.2.1.2.2 0 1 = nI f ∧ D.2.1.2.2 0 2 = nI t ∧ D.2.1.2.2 0 4 = nI hp) (h1 : pk < 2 ^ 31) (h2 : f < 2 ^ 31) (h3 : t < 2 ^ 31) (h4 : hp < 2 ^ 31) : bm_dst S D = bm_ddel S.lk S.eb (bm_mkr S.T.1.2.2 S.T.2.1 S.eb) pk f t hp D := by
  unfold bm_dst
  rw [h.1, h.2.1, h.2.2.1, h.2.2.2, nI_clamp h1, nI_clamp h2, nI_clamp h3, nI_clamp h4]
theorem bm_on_le9 (p r m : Nat) (part : Int32) (h : Nat) (D : bm_D) : D.2.1.1 ≤ (bm_on p r m part h D).2.1.1 := by
  unfold bm_on
  split
  · exact Nat.le_refl _
  · exact bm_push_le _ _
theorem bm_parts_le2 (mk : Nat → Int32) (p r h : Nat) (S : Int32 × bm_D) : ∀ n, S.2.2.1.1 ≤ (bm_parts mk p r h S n).2.2.1.1
  | 0 => Nat.le_refl _
  | n + 1 => by
    unfold bm_parts
    split
    · exact bm_parts_le2 mk p r h S n
    · exact Nat.le_trans (bm_parts_le2 mk p r h S n) (bm_on_le9 _ _ _ _ _ _)
theorem bm_own_at9 (own : Int32) (p : Nat) (D : bm_D) : (bm_own own p D).2.1 = D.2.1 := by
  unfold bm_own
  split <;> rfl
theorem bm_dst_le (S : bm_S) (D : bm_D) : D.2.1.1 ≤ (bm_dst S D).2.1.1 := by
  unfold bm_dst bm_ddel
  split
  · unfold bm_handle bm_loses
    refine Nat.le_trans ?_ (bm_parts_le2 _ _ _ _ _ 12)
    show _ ≤ (bm_own _ _ (bm_dropD D)).2.1.1
    rw [bm_own_at9]
    exact Nat.le_refl _
  · exact Nat.le_refl _
theorem bm_dj_le (S : bm_S) : ∀ j, S.D.2.1.1 ≤ (bm_dj S j).2.1.1
  | 0 => Nat.le_refl _
  | j + 1 => Nat.le_trans (bm_dj_le S j) (bm_dst_le S (bm_dj S j))
set_option maxHeartbeats 800000 in
set_option maxRecDepth 100000 in
theorem k_Net_move (l : Launch) (D : va_G) (cI cZ cJ cG : ClassId) {h : Nat} {S : bm_S} {ws : va_W} (hR : nt_R cI cZ cG h S ws) (n : Nat) (hn1 : 1 ≤ n) (hn2 : n ≤ 1000) (hn9 : S.D.2.1.2.1 < 3900) (hi : bm_si S) (mc ms : Nat) (hq : ∀ j, j ≤ n → (∀ i, i < j → bm_dgo S i) → (0 < (bm_dj S j).2.1.2.1 → bm_cok (bm_dj S j)) ∧ (bm_dj S j).2.1.1 ≤ 50000 ∧ (bm_dj S j).2.1.1 - S.D.2.1.1 ≤ mc ∧ 2 * 5 * ((bm_dj S j).2.1.1 - S.D.2.1.1) ≤ ms) : ct_I l D kls (ty4 cI cZ cJ cG) y_Net_move ws_Net_move (rm_ 7 169 mc ms) [.ref h, .int (nI n)] (ws) (fun z u => ∃ d, z = nI d ∧ d ≤ n ∧ (∀ j, j < d → bm_dgo S j) ∧ (d = n ∨ ¬ bm_dgo S d) ∧ nt_R cI cZ cG h (bm_mv d S) u) mc ms := by
  obtain ⟨aE, aL, aS, aK, aR, aD, aG, aM, aP, aC, wE, wL, wS, wM, wR, wD, wG, rfl, kE, kL, kS, kM, kR, kD, kG⟩ := hR
  obtain ⟨fsE, mE⟩ := kE.mem
  obtain ⟨fsL, mL⟩ := kL.mem
  obtain ⟨fsS, mS⟩ := kS.mem
  obtain ⟨fsR, mR⟩ := kR.mem
  obtain ⟨fsD, mD⟩ := kD.mem
  obtain ⟨fsG, mG⟩ := kG.mem
  refine ct_enterI (cc := b_Net_move) (maxL := 3) (ret := (some .int)) (by decide +kernel) (Nat.le_of_ble_eq_true rfl) ?_
  intro p e s m args below meth c hx hb hml hr ht hown hlk hnm A Q hA hK hP hD hQ ls hl
  have hown : s.vm.findClass R_Net = some m.cls := hown
  have hS : va_S A s.heap s.heap [] := va_S.rf
  have hl : lv_has ls 3 [(0, .ref h), (1, .int (nI n))] := hl
  have bD := kD.n
  have loop : ∀ (k j : Nat) (wR9 : va_W) (wD9 : va_W) (H : Heap) (locs : List Loc) (ls : Array Slot), j + k = n → (∀ i, i < j → bm_dgo S i) → (rt_R cI cZ cG aR aS aE S.T.1.2.2 S.T.2.1 S.T.2.2.2 S.eb S.es wR9) → (da_R cI aD aL aE aR aP aC (bm_dj S j) wD9) → va_P D kls (List.flatten [[(h, .inr (8, [.ref aE, .ref aL, .ref aS, .ref aK, .ref aR, .ref aD, .ref aG]))], [(aK, .inr (4, [.ref aL, .ref aS, .ref aM, .int S.lost]))], wE, wL, wS, wM, wR9, wD9, wG]) H → va_D A (List.flatten [[(h, .inr (8, [.ref aE, .ref aL, .ref aS, .ref aK, .ref aR, .ref aD, .ref aG]))], [(aK, .inr (4, [.ref aL, .ref aS, .ref aM, .int S.lost]))], wE, wL, wS, wM, wR9, wD9, wG]) → va_S A s.heap H locs → lv_has ls 3 [(2, .int (nI j)), (0, .ref h), (1, .int (nI n))] → W p l e (rm_ 7 169 mc ms) s m args below meth c H locs ((bm_dj S j).2.1.1 - S.D.2.1.1) (2 * 5 * ((bm_dj S j).2.1.1 - S.D.2.1.1)) Q (F0 m 61 ls []) := by
    intro k
    induction k with
    | zero =>
      intro j wR9 wD9 H locs ls hk hs kR9 kD9 hP hD hS hl
      refine lv_iload_n hx hb d_Net_move_61 rfl (lv_at hl 0 rfl) ?_
      refine lv_iload_n hx hb d_Net_move_62 rfl (lv_at hl 2 rfl) ?_
      refine ri_icmp_ge hx hb (by omega) (by omega) d_Net_move_63 (tgt := 102) (by decide) (fun hc9 => ?_) (fun hc9 => ?_)
      · have hqj := hq j (by omega) hs
        have hq1 := hqj.2.2.1
        have hq2 := hqj.2.2.2
        refine lv_iload_n hx hb d_Net_move_102 rfl (lv_at hl 0 rfl) ?_
        exact ct_iret hQ hx hb hr hlk hP hD hS hK (by omega) (by omega) d_Net_move_103 (⟨j, rfl, by omega, hs, (by first | exact Or.inl (by omega) | exact Or.inr (by intro z; omega)), aE, aL, aS, aK, aR, aD, aG, aM, aP, aC, wE, wL, wS, wM, wR9, wD9, wG, rfl, kE, kL, kS, kM, kR9, kD9, kG⟩)
      · exact absurd hc9 (by omega)
    | succ k ih =>
      intro j wR9 wD9 H locs ls hk hs kR9 kD9 hP hD hS hl
      refine lv_iload_n hx hb d_Net_move_61 rfl (lv_at hl 0 rfl) ?_
      refine lv_iload_n hx hb d_Net_move_62 rfl (lv_at hl 2 rfl) ?_
      refine ri_icmp_ge hx hb (by omega) (by omega) d_Net_move_63 (tgt := 102) (by decide) (fun hc9 => ?_) (fun hc9 => ?_)
      · have hqj := hq j (by omega) hs
        have hq1 := hqj.2.2.1
        have hq2 := hqj.2.2.2
        refine lv_iload_n hx hb d_Net_move_102 rfl (lv_at hl 0 rfl) ?_
        exact ct_iret hQ hx hb hr hlk hP hD hS hK (by omega) (by omega) d_Net_move_103 (⟨j, rfl, by omega, hs, (by first | exact Or.inl (by omega) | exact Or.inr (by intro z; omega)), aE, aL, aS, aK, aR, aD, aG, aM, aP, aC, wE, wL, wS, wM, wR9, wD9, wG, rfl, kE, kL, kS, kM, kR9, kD9, kG⟩)
      · obtain ⟨fsD9, mD9⟩ := kD9.mem
        have bD9 := kD9.n
        have hqj := hq j (by omega) hs
        have hq1 := hqj.2.2.1
        have hq2 := hqj.2.2.2
        refine lv_aload_n hx hb d_Net_move_66 rfl (lv_at hl 1 rfl) ?_
        refine va_get (D := D) (ci := 8) (v := .ref aD) (C := R_Net) (T := T_Net) (N := 7) hx hb ht in_Net hown hK hP 0 rfl rfl 5 (by decide) (ht _ kl_Net_53) (fun _ h9 => h9) rfl d_Net_move_67 ?_
        refine ct_rdV (C := R_Data) (ci := 6) (As := []) (rest := []) ⟨hx, hb, hml, hown, ht⟩ (k_Data_onTheWay l D cI cZ cJ cG kD9) (cb_V ht kc_Data_onTheWay kl_Net_199 kn_Data ki_Data_onTheWay ks_Data_onTheWay hd_Data_onTheWay ⟨Nat.le_of_ble_eq_true rfl, Nat.le_of_ble_eq_true rfl⟩) (wd_mem 7 rfl mD9) rfl rfl (wd_ct (Bs := [[(h, .inr (8, [.ref aE, .ref aL, .ref aS, .ref aK, .ref aR, .ref aD, .ref aG]))], [(aK, .inr (4, [.ref aL, .ref aS, .ref aM, .int S.lost]))], wE, wL, wS, wM, wR9, wD9, wG]) 9 rfl [7] [0, 1, 2, 3, 4, 5, 6, 8] (by decide) (wd_1 _)) hK hP hD hS hA rfl hl.1 rfl (Nat.le_of_ble_eq_true rfl) ⟨(show ((bm_dj S j).2.1.1 - S.D.2.1.1) + 0 ≤ mc by omega), (show (2 * 5 * ((bm_dj S j).2.1.1 - S.D.2.1.1)) + 0 ≤ ms by omega)⟩ d_Net_move_70 (fun rhr3 H locs hr3 hP hD hS => ?_)
        subst hr3
        refine ri_if_le hx hb (by omega) d_Net_move_73 (tgt := 102) (by decide) (fun h73 => ?_) (fun h73 => ?_)
        · have hqj := hq j (by omega) hs
          have hq1 := hqj.2.2.1
          have hq2 := hqj.2.2.2
          refine lv_iload_n hx hb d_Net_move_102 rfl (lv_at hl 0 rfl) ?_
          exact ct_iret hQ hx hb hr hlk hP hD hS hK (by omega) (by omega) d_Net_move_103 (⟨j, rfl, by omega, hs, (by first | exact Or.inl (by omega) | exact Or.inr (by intro z; omega)), aE, aL, aS, aK, aR, aD, aG, aM, aP, aC, wE, wL, wS, wM, wR9, wD9, wG, rfl, kE, kL, kS, kM, kR9, kD9, kG⟩)
        · refine lv_aload_n hx hb d_Net_move_76 rfl (lv_at hl 1 rfl) ?_
          refine va_get (D := D) (ci := 8) (v := .ref aD) (C := R_Net) (T := T_Net) (N := 7) hx hb ht in_Net hown hK hP 0 rfl rfl 5 (by decide) (ht _ kl_Net_53) (fun _ h9 => h9) rfl d_Net_move_77 ?_
          refine ct_rdV (C := R_Data) (ci := 6) (As := []) (rest := []) ⟨hx, hb, hml, hown, ht⟩ (k_Data_onTheWay l D cI cZ cJ cG kD9) (cb_V ht kc_Data_onTheWay kl_Net_199 kn_Data ki_Data_onTheWay ks_Data_onTheWay hd_Data_onTheWay ⟨Nat.le_of_ble_eq_true rfl, Nat.le_of_ble_eq_true rfl⟩) (wd_mem 7 rfl mD9) rfl rfl (wd_ct (Bs := [[(h, .inr (8, [.ref aE, .ref aL, .ref aS, .ref aK, .ref aR, .ref aD, .ref aG]))], [(aK, .inr (4, [.ref aL, .ref aS, .ref aM, .int S.lost]))], wE, wL, wS, wM, wR9, wD9, wG]) 9 rfl [7] [0, 1, 2, 3, 4, 5, 6, 8] (by decide) (wd_1 _)) hK hP hD hS hA rfl hl.1 rfl (Nat.le_of_ble_eq_true rfl) ⟨(show ((bm_dj S j).2.1.1 - S.D.2.1.1) + 0 ≤ mc by omega), (show (2 * 5 * ((bm_dj S j).2.1.1 - S.D.2.1.1)) + 0 ≤ ms by omega)⟩ d_Net_move_80 (fun rhr5 H locs hr5 hP hD hS => ?_)
          subst hr5
          refine lv_sipush (v := nI 3900) hx hb d_Net_move_83 (by decide) ?_
          refine ri_icmp_ge hx hb (by omega) (by omega) d_Net_move_86 (tgt := 102) (by decide) (fun h86 => ?_) (fun h86 => ?_)
          · have hqj := hq j (by omega) hs
            have hq1 := hqj.2.2.1
            have hq2 := hqj.2.2.2
            refine lv_iload_n hx hb d_Net_move_102 rfl (lv_at hl 0 rfl) ?_
            exact ct_iret hQ hx hb hr hlk hP hD hS hK (by omega) (by omega) d_Net_move_103 (⟨j, rfl, by omega, hs, (by first | exact Or.inl (by omega) | exact Or.inr (by intro z; omega)), aE, aL, aS, aK, aR, aD, aG, aM, aP, aC, wE, wL, wS, wM, wR9, wD9, wG, rfl, kE, kL, kS, kM, kR9, kD9, kG⟩)
          · refine lv_aload_n hx hb d_Net_move_89 rfl (lv_at hl 1 rfl) ?_
            refine va_get (D := D) (ci := 8) (v := .ref aD) (C := R_Net) (T := T_Net) (N := 7) hx hb ht in_Net hown hK hP 0 rfl rfl 5 (by decide) (ht _ kl_Net_53) (fun _ h9 => h9) rfl d_Net_move_90 ?_
            have hs2 : ∀ i, i < j + 1 → bm_dgo S i := fun i hi9 => by by_cases e : i = j; (· rw [e]; exact ⟨by omega, by omega⟩); (· exact hs i (by omega))
            have hqk := hq (j + 1) (by omega) hs2
            obtain ⟨pk, f, t, hp, hrow, hf9, ht9, hp1, hp2, hp4, hp3⟩ := hqj.1 (by omega)
            have hdx : (bm_ddel S.lk S.eb (bm_mkr S.T.1.2.2 S.T.2.1 S.eb) pk f t hp (bm_dj S j)) = (bm_dj S (j + 1)) := (bm_dst_at S hrow hp4 (Nat.lt_of_lt_of_le hf9 (by decide)) (Nat.lt_of_lt_of_le ht9 (by decide)) hp3).symm
            have hd1 := bm_dj_le S j
            have hd2 : (bm_dj S j).2.1.1 ≤ (bm_dj S (j + 1)).2.1.1 := bm_dst_le S (bm_dj S j)
            have hgc : ((bm_dj S j).2.1.1 - S.D.2.1.1) + ((bm_ddel S.lk S.eb (bm_mkr S.T.1.2.2 S.T.2.1 S.eb) pk f t hp (bm_dj S j)).2.1.1 - (bm_dj S j).2.1.1) = (bm_dj S (j + 1)).2.1.1 - S.D.2.1.1 := by rw [hdx]; omega
            have hgs : 2 * 5 * ((bm_dj S j).2.1.1 - S.D.2.1.1) + 2 * 5 * ((bm_ddel S.lk S.eb (bm_mkr S.T.1.2.2 S.T.2.1 S.eb) pk f t hp (bm_dj S j)).2.1.1 - (bm_dj S j).2.1.1) = 2 * 5 * ((bm_dj S (j + 1)).2.1.1 - S.D.2.1.1) := by rw [hdx]; omega
            refine ct_callVV (C := R_Data) (ci := 6) (As := []) (rest := []) ⟨hx, hb, hml, hown, ht⟩ (k_Data_deliverOldest l D cI cZ cJ cG kD9 kR9 kS kE hi.2.2.2.2.1 kL (fun a b => Nat.lt_of_le_of_lt (hi.2.2.1 a b) (by decide)) (fun a b => Nat.lt_of_le_of_lt (hi.2.1 a b) (by decide)) (by omega) pk f t hp hrow hf9 ht9 hp1 hp2 hp3 (by rw [hdx]; exact hqk.2.1)) (cb_V ht kc_Data_deliverOldest kl_Net_201 kn_Data ki_Data_deliverOldest ks_Data_deliverOldest hd_Data_deliverOldest ⟨Nat.le_of_ble_eq_true rfl, Nat.le_of_ble_eq_true rfl⟩) (wd_mem 7 rfl mD9) rfl rfl (wd_ct (Bs := [[(h, .inr (8, [.ref aE, .ref aL, .ref aS, .ref aK, .ref aR, .ref aD, .ref aG]))], [(aK, .inr (4, [.ref aL, .ref aS, .ref aM, .int S.lost]))], wE, wL, wS, wM, wR9, wD9, wG]) 9 rfl [7, 6, 4, 2, 3] [0, 1, 5, 8] (by decide) rfl) hK hP hD hS hA rfl hl.1 rfl (Nat.le_of_ble_eq_true rfl) ⟨(Nat.le_trans (Nat.le_of_eq hgc) hqk.2.2.1), (Nat.le_trans (Nat.le_of_eq hgs) hqk.2.2.2)⟩ d_Net_move_93 (fun u7 H locs hu7 hP hD hS => ?_)
            obtain ⟨wD8, wR8, rfl, kD8, kR8⟩ := hu7
            rw [hdx] at kD8
            refine W.widen (k := (bm_dj S (j + 1)).2.1.1 - S.D.2.1.1) (n := 2 * 5 * ((bm_dj S (j + 1)).2.1.1 - S.D.2.1.1)) (Nat.le_of_eq hgc) (Nat.le_of_eq hgs) ?_
            have hP := wd_nP (N := [wD8, wR8, wS, wE, wL]) rfl 9 rfl [5, 6, 3, 4, 2, 7, 1, 0, 8] (by decide) hP
            have hD := wd_nD (N := [wD8, wR8, wS, wE, wL]) rfl 9 rfl [5, 6, 3, 4, 2, 7, 1, 0, 8] (by decide) hD
            have hP : va_P D kls (List.flatten [[(h, .inr (8, [.ref aE, .ref aL, .ref aS, .ref aK, .ref aR, .ref aD, .ref aG]))], [(aK, .inr (4, [.ref aL, .ref aS, .ref aM, .int S.lost]))], wE, wL, wS, wM, wR8, wD8, wG]) H := hP
            have hD : va_D A (List.flatten [[(h, .inr (8, [.ref aE, .ref aL, .ref aS, .ref aK, .ref aR, .ref aD, .ref aG]))], [(aK, .inr (4, [.ref aL, .ref aS, .ref aM, .int S.lost]))], wE, wL, wS, wM, wR8, wD8, wG]) := hD
            refine W.eq (g2 := F0 m 96 ls []) rfl ?_
            refine ri_iinc hx hb d_Net_move_96 hl (k := 0) rfl (by decide) rfl (fun ls hl => ?_)
            have hl : lv_has ls 3 [(2, .int (nI (j + 1))), (0, .ref h), (1, .int (nI n))] := hl
            refine lv_goto hx hb d_Net_move_99 (tgt := 61) (by decide) ?_
            exact ih (j + 1) wR8 wD8 H locs ls (by omega) hs2 kR8 kD8 hP hD hS hl
  refine lv_iload_n hx hb d_Net_move_0 rfl (lv_at hl 1 rfl) ?_
  refine lv_iconst (v := (-1)) hx hb d_Net_move_1 (by decide) ?_
  refine lv_icmp_eq hx hb d_Net_move_2 (tgt := 18) (by decide) (fun h2 => ?_) (fun h2 => ?_)
  · exact absurd h2 (nI_m1 (by omega))
  · refine lv_aload_n hx hb d_Net_move_5 rfl (lv_at hl 0 rfl) ?_
    refine va_get (D := D) (ci := 8) (v := .ref aD) (C := R_Net) (T := T_Net) (N := 7) hx hb ht in_Net hown hK hP 0 rfl rfl 5 (by decide) (ht _ kl_Net_53) (fun _ h9 => h9) rfl d_Net_move_6 ?_
    refine ct_rdV (C := R_Data) (ci := 6) (As := []) (rest := []) ⟨hx, hb, hml, hown, ht⟩ (k_Data_onTheWay l D cI cZ cJ cG kD) (cb_V ht kc_Data_onTheWay kl_Net_199 kn_Data ki_Data_onTheWay ks_Data_onTheWay hd_Data_onTheWay ⟨Nat.le_of_ble_eq_true rfl, Nat.le_of_ble_eq_true rfl⟩) (wd_mem 7 rfl mD) rfl rfl (wd_ct (Bs := [[(h, .inr (8, [.ref aE, .ref aL, .ref aS, .ref aK, .ref aR, .ref aD, .ref aG]))], [(aK, .inr (4, [.ref aL, .ref aS, .ref aM, .int S.lost]))], wE, wL, wS, wM, wR, wD, wG]) 9 rfl [7] [0, 1, 2, 3, 4, 5, 6, 8] (by decide) (wd_1 _)) hK hP hD hS hA rfl hl.1 rfl (Nat.le_of_ble_eq_true rfl) ⟨(show 0 + 0 ≤ mc by omega), (show 0 + 0 ≤ ms by omega)⟩ d_Net_move_9 (fun rhr9 H locs hr9 hP hD hS => ?_)
    subst hr9
    refine lv_sipush (v := nI 3900) hx hb d_Net_move_12 (by decide) ?_
    refine ri_icmp_ge hx hb (by omega) (by omega) d_Net_move_15 (tgt := 22) (by decide) (fun h10 => ?_) (fun h10 => ?_)
    · exact absurd h10 (by omega)
    · refine lv_iconst (v := nI 1) hx hb d_Net_move_18 (by decide) ?_
      refine lv_goto hx hb d_Net_move_19 (tgt := 23) (by decide) ?_
      refine W.eq (g2 := F0 m 23 ls [.int (bI true)]) (congrArg (fun z => F0 m 23 ls (.int z :: [])) (rfl)) ?_
      refine ct_callSV (As := [.int (bI true)]) (rest := []) ⟨hx, hb, hml, hown, ht⟩ (k_Net_demandRoom l D cI cZ cJ cG) (cb_S ht kc_Net_demandRoom kl_Net_88 kn_Net ki_Net_demandRoom hd_Net_demandRoom ⟨Nat.le_of_ble_eq_true rfl, Nat.le_of_ble_eq_true rfl⟩) (wd_ct (Bs := [[(h, .inr (8, [.ref aE, .ref aL, .ref aS, .ref aK, .ref aR, .ref aD, .ref aG]))], [(aK, .inr (4, [.ref aL, .ref aS, .ref aM, .int S.lost]))], wE, wL, wS, wM, wR, wD, wG]) 9 rfl [] [0, 1, 2, 3, 4, 5, 6, 7, 8] (by decide) rfl) hK hP hD hS hA rfl hl.1 rfl (Nat.le_of_ble_eq_true rfl) ⟨(Nat.zero_le _), (Nat.zero_le _)⟩ d_Net_move_23 (fun u11 H locs hu11 hP hD hS => ?_)
      subst hu11
      refine W.widen (k := 0) (n := 0) (Nat.le_refl _) (Nat.le_refl _) ?_
      have hP := wd_nP (N := []) rfl 9 rfl [0, 1, 2, 3, 4, 5, 6, 7, 8] (by decide) hP
      have hD := wd_nD (N := []) rfl 9 rfl [0, 1, 2, 3, 4, 5, 6, 7, 8] (by decide) hD
      have hP : va_P D kls (List.flatten [[(h, .inr (8, [.ref aE, .ref aL, .ref aS, .ref aK, .ref aR, .ref aD, .ref aG]))], [(aK, .inr (4, [.ref aL, .ref aS, .ref aM, .int S.lost]))], wE, wL, wS, wM, wR, wD, wG]) H := hP
      have hD : va_D A (List.flatten [[(h, .inr (8, [.ref aE, .ref aL, .ref aS, .ref aK, .ref aR, .ref aD, .ref aG]))], [(aK, .inr (4, [.ref aL, .ref aS, .ref aM, .int S.lost]))], wE, wL, wS, wM, wR, wD, wG]) := hD
      refine W.eq (g2 := F0 m 26 ls []) rfl ?_
      refine lv_iload_n hx hb d_Net_move_26 rfl (lv_at hl 1 rfl) ?_
      refine lv_iconst (v := (-1)) hx hb d_Net_move_27 (by decide) ?_
      refine lv_icmp_eq hx hb d_Net_move_28 (tgt := 38) (by decide) (fun h20 => ?_) (fun h20 => ?_)
      · exact absurd h20 (nI_m1 (by omega))
      · refine lv_iload_n hx hb d_Net_move_31 rfl (lv_at hl 1 rfl) ?_
        refine ct_rdS (As := [.int (nI n)]) (rest := []) ⟨hx, hb, hml, hown, ht⟩ (k_Net_isNumberOfTurns l D cI cZ cJ cG (nI n)) (cb_S ht kc_Net_isNumberOfTurns kl_Net_133 kn_Net ki_Net_isNumberOfTurns hd_Net_isNumberOfTurns ⟨Nat.le_of_ble_eq_true rfl, Nat.le_of_ble_eq_true rfl⟩) (wd_ct (Bs := [[(h, .inr (8, [.ref aE, .ref aL, .ref aS, .ref aK, .ref aR, .ref aD, .ref aG]))], [(aK, .inr (4, [.ref aL, .ref aS, .ref aM, .int S.lost]))], wE, wL, wS, wM, wR, wD, wG]) 9 rfl [] [0, 1, 2, 3, 4, 5, 6, 7, 8] (by decide) rfl) hK hP hD hS hA rfl hl.1 rfl (Nat.le_of_ble_eq_true rfl) ⟨(show 0 + 0 ≤ mc by omega), (show 0 + 0 ≤ ms by omega)⟩ d_Net_move_32 (fun rhr13 H locs hr13 hP hD hS => ?_)
        subst hr13
        refine W.eq (g2 := F0 m 35 ls [.int (bI true)]) (congrArg (fun z => F0 m 35 ls (.int z :: [])) (congrArg bI (by rw [rg_nI (show n < 2 ^ 31 by omega)]; exact decide_eq_true (by omega)))) ?_
        refine ri_ifeqB hx hb d_Net_move_35 (tgt := 42) (by decide) (fun h14 => ?_) (fun h14 => ?_)
        · exact absurd h14 (fun z => by cases z)
        · refine lv_iconst (v := nI 1) hx hb d_Net_move_38 (by decide) ?_
          refine lv_goto hx hb d_Net_move_39 (tgt := 43) (by decide) ?_
          refine W.eq (g2 := F0 m 43 ls [.int (bI true)]) (congrArg (fun z => F0 m 43 ls (.int z :: [])) (rfl)) ?_
          refine ct_callSV (As := [.int (bI true)]) (rest := []) ⟨hx, hb, hml, hown, ht⟩ (k_Net_demand l D cI cZ cJ cG) (cb_S ht kc_Net_demand kl_Net_70 kn_Net ki_Net_demand hd_Net_demand ⟨Nat.le_of_ble_eq_true rfl, Nat.le_of_ble_eq_true rfl⟩) (wd_ct (Bs := [[(h, .inr (8, [.ref aE, .ref aL, .ref aS, .ref aK, .ref aR, .ref aD, .ref aG]))], [(aK, .inr (4, [.ref aL, .ref aS, .ref aM, .int S.lost]))], wE, wL, wS, wM, wR, wD, wG]) 9 rfl [] [0, 1, 2, 3, 4, 5, 6, 7, 8] (by decide) rfl) hK hP hD hS hA rfl hl.1 rfl (Nat.le_of_ble_eq_true rfl) ⟨(Nat.zero_le _), (Nat.zero_le _)⟩ d_Net_move_43 (fun u15 H locs hu15 hP hD hS => ?_)
          subst hu15
          refine W.widen (k := 0) (n := 0) (Nat.le_refl _) (Nat.le_refl _) ?_
          have hP := wd_nP (N := []) rfl 9 rfl [0, 1, 2, 3, 4, 5, 6, 7, 8] (by decide) hP
          have hD := wd_nD (N := []) rfl 9 rfl [0, 1, 2, 3, 4, 5, 6, 7, 8] (by decide) hD
          have hP : va_P D kls (List.flatten [[(h, .inr (8, [.ref aE, .ref aL, .ref aS, .ref aK, .ref aR, .ref aD, .ref aG]))], [(aK, .inr (4, [.ref aL, .ref aS, .ref aM, .int S.lost]))], wE, wL, wS, wM, wR, wD, wG]) H := hP
          have hD : va_D A (List.flatten [[(h, .inr (8, [.ref aE, .ref aL, .ref aS, .ref aK, .ref aR, .ref aD, .ref aG]))], [(aK, .inr (4, [.ref aL, .ref aS, .ref aM, .int S.lost]))], wE, wL, wS, wM, wR, wD, wG]) := hD
          refine W.eq (g2 := F0 m 46 ls []) rfl ?_
          refine lv_iload_n hx hb d_Net_move_46 rfl (lv_at hl 1 rfl) ?_
          refine lv_iconst (v := (-1)) hx hb d_Net_move_47 (by decide) ?_
          refine lv_icmp_ne hx hb d_Net_move_48 (tgt := 59) (by decide) (fun h22 => ?_) (fun h22 => ?_)
          · refine lv_iconst (v := nI 0) hx hb d_Net_move_59 (by decide) ?_
            refine lv_istore_n hx hb d_Net_move_60 rfl hl (by decide) rfl (fun ls hl => ?_)
            have hl : lv_has ls 3 [(2, .int (nI 0)), (0, .ref h), (1, .int (nI n))] := hl
            refine W.widen (k := (bm_dj S 0).2.1.1 - S.D.2.1.1) (n := 2 * 5 * ((bm_dj S 0).2.1.1 - S.D.2.1.1)) (Nat.zero_le _) (Nat.zero_le _) ?_
            exact loop n 0 wR wD H locs ls (by omega) (fun i hi9 => absurd hi9 (by omega)) kR kD hP hD hS hl
          · exact absurd h22 (nI_m1 (show n < 2147483648 by omega))
