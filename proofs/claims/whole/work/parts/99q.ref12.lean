/-! The reference: move; its constructor. -/
theorem parts_12 (mk : Nat → Int32) (p r h : Nat) (left : Int32) (D : bm_D) : (bm_parts mk p r h (left, D) 12).2.2.1.2.1 ≤ D.2.1.2.1 + 12 := Nat.le_trans (parts_would mk p r h left D 12).1 (Nat.add_le_add_left (would_le mk left 12) _)
theorem enc63 {pk f t hp L : Nat} (h1 : pk ≤ 900) (h2 : f < 12) (h3 : t < 12) (h4 : hp ≤ 255) (h5 : L < 2 ^ 32) : pk * 2 ^ 48 + f * 2 ^ 44 + t * 2 ^ 40 + hp * 2 ^ 32 + L < 2 ^ 63 := by omega
theorem handle_n (eb : Nat → Option Nat) (mk : Nat → Int32) (p r : Nat) (set : Int32) (h : Nat) (D : bm_D) : (bm_handle eb mk p r set h D).2.1.2.1 ≤ D.2.1.2.1 + 12 := by
  refine Nat.le_trans (parts_12 mk p r h (set &&& ((set &&& bm_em (eb r)) ^^^ (-1))) (bm_own (set &&& bm_em (eb r)) p D)) ?_
  rw [(bm_own_1 _ _ _).2.2]
  exact Nat.le_refl _
set_option maxHeartbeats 1600000 in
set_option maxRecDepth 100000 in
theorem k_Ref_move (l : Launch) (D : va_G) (cI cZ cJ cG : ClassId) {h : Nat} {cd : Int32} {S : bm_S} {ws : va_W} (hR : rf_R cI cZ cJ h cd S ws) (hi : rf_i S) (n : Nat) (hn1 : 1 ≤ n) (hn2 : n ≤ 1000) (hn9 : S.D.2.1.2.1 < 3900) : ct_I l D kls (ty4 cI cZ cJ cG) y_Ref_move ws_Ref_move (rm_ 3 77 0 0) [.ref h, .int (nI n)] (ws) (fun z u => ∃ d, z = nI d ∧ d ≤ n ∧ (∀ j, j < d → bm_dgo S j) ∧ (d = n ∨ ¬ bm_dgo S d) ∧ rf_R cI cZ cJ h (nI 0) (bm_mv d S) u) 0 0 := by
  obtain ⟨qs, ma, ca, na, wt, fR, fN, fL, fH, uf, fM, fC, fT, fD, fX, MK, MF, rfl, hwt, hAd, hM, hC, hN, hPd⟩ := hR
  obtain ⟨hsi, heb, h00, hA9, hm9, hcp9, hnt9, hpk9, hgi⟩ := hi
  have hok := hsi.1
  have hkn9 := hsi.2.1
  have hlk9 := hsi.2.2.1
  have hma := hM.1
  refine ct_enterI (cc := b_Ref_move) (maxL := 8) (ret := (some .int)) (by decide +kernel) (Nat.le_of_ble_eq_true rfl) ?_
  intro p e s m args below meth c hx hb hml hr ht hown hlk hnm A Q hA hK hP hD hQ ls hl
  have hown : s.vm.findClass R_Ref = some m.cls := hown
  have hS : va_S A s.heap s.heap [] := va_S.rf
  have hl : lv_has ls 8 [(0, .ref h), (1, .int (nI n))] := hl
  have hrt := hsi.2.2.2.2.1
  have loop : ∀ (k j : Nat) (fJ : Nat → Int64) (fE : Nat → Int32) (fY : Nat → Int32) (MA : Nat → Nat → Int32) (MB : Nat → Nat → Int32) (cb : Nat) (H : Heap) (locs : List Loc) (ls : Array Slot), j + k = n → (∀ i, i < j → bm_dgo S i) → (cr_R (bm_dj S j).1.2.1 fJ cb (bm_dj S j).2.1) → (pd_R fE fY (bm_dj S j).1) → ((bm_dj S j).1.2.1 ≤ 900) → ((bm_dj S j).2.1.2.1 ≤ 4000) → va_P D kls (List.flatten [[rf_o h qs (nI 0) ma S.T.2.2.1.2.1 cb ((bm_dj S j).2.1.2.1) na S.G.2.2.2.1.2.1 ((bm_dj S j).1.2.1) ((bm_dj S j).2.2.1) ((bm_dj S j).2.2.2.1) ((bm_dj S j).2.2.2.2) S.lost], [(qs 0, .inl (cI, 12, .inl (lI S.eb)))], [(qs 1, .inl (cI, 144, .inl (fl (gN S.lk))))], [(qs 2, .inl (cI, 144, .inl (fl (gN wt))))], [(qs 3, .inl (cZ, 144, .inl (fl (kB S.kn))))], [(qs 4, .inl (cI, 1600, .inl fR))], [(qs 5, .inl (cI, 1600, .inl fN))], [(qs 6, .inl (cJ, 1600, .inr (.inl fL)))], [(qs 7, .inl (cJ, 1600, .inr (.inl fH)))], [(qs 8, .inl (cZ, 1600, .inl (dB uf)))], [(qs 9, .inl (cI, 144, .inl (fl (sI S.T.2.1))))], [(qs 10, .inl (cI, 4000, .inl fM))], [(qs 11, .inl (cJ, 4000, .inr (.inl fJ)))], [(qs 12, .inl (cI, 4000, .inl fT))], [(qs 13, .inl (cI, 8, .inl (lI S.G.1)))], [(qs 14, .inl (cI, 8, .inl S.G.2.1))], [(qs 15, .inl (cI, 96, .inl (fl (gN (rT S.G.2.2.1)))))], [(qs 16, .inl (cI, 901, .inl fE))], [(qs 17, .inl (cI, 901, .inl fY))], [(qs 18, .inl (cI, 144, .inl (fl MA)))], [(qs 19, .inl (cI, 144, .inl (fl MB)))]]) H → va_D A (List.flatten [[rf_o h qs (nI 0) ma S.T.2.2.1.2.1 cb ((bm_dj S j).2.1.2.1) na S.G.2.2.2.1.2.1 ((bm_dj S j).1.2.1) ((bm_dj S j).2.2.1) ((bm_dj S j).2.2.2.1) ((bm_dj S j).2.2.2.2) S.lost], [(qs 0, .inl (cI, 12, .inl (lI S.eb)))], [(qs 1, .inl (cI, 144, .inl (fl (gN S.lk))))], [(qs 2, .inl (cI, 144, .inl (fl (gN wt))))], [(qs 3, .inl (cZ, 144, .inl (fl (kB S.kn))))], [(qs 4, .inl (cI, 1600, .inl fR))], [(qs 5, .inl (cI, 1600, .inl fN))], [(qs 6, .inl (cJ, 1600, .inr (.inl fL)))], [(qs 7, .inl (cJ, 1600, .inr (.inl fH)))], [(qs 8, .inl (cZ, 1600, .inl (dB uf)))], [(qs 9, .inl (cI, 144, .inl (fl (sI S.T.2.1))))], [(qs 10, .inl (cI, 4000, .inl fM))], [(qs 11, .inl (cJ, 4000, .inr (.inl fJ)))], [(qs 12, .inl (cI, 4000, .inl fT))], [(qs 13, .inl (cI, 8, .inl (lI S.G.1)))], [(qs 14, .inl (cI, 8, .inl S.G.2.1))], [(qs 15, .inl (cI, 96, .inl (fl (gN (rT S.G.2.2.1)))))], [(qs 16, .inl (cI, 901, .inl fE))], [(qs 17, .inl (cI, 901, .inl fY))], [(qs 18, .inl (cI, 144, .inl (fl MA)))], [(qs 19, .inl (cI, 144, .inl (fl MB)))]]) → va_S A s.heap H locs → lv_has ls 8 [(3, .int (nI j)), (2, .int (nI n)), (0, .ref h), (1, .int (nI n))] → W p l e (rm_ 3 77 0 0) s m args below meth c H locs 0 0 Q (F0 m 66 ls []) := by
    intro k
    induction k with
    | zero =>
      intro j fJ fE fY MA MB cb H locs ls hk hs hJ hE hnp hz hP hD hS hl
      refine lv_iload_n hx hb d_Ref_move_66 rfl (lv_at hl 0 rfl) ?_
      refine lv_iload_n hx hb d_Ref_move_67 rfl (lv_at hl 1 rfl) ?_
      refine ri_icmp_ge hx hb (by omega) (by omega) d_Ref_move_68 (tgt := 221) (by decide) (fun hc9 => ?_) (fun hc9 => ?_)
      · refine lv_iload_n hx hb d_Ref_move_221 rfl (lv_at hl 0 rfl) ?_
        exact ct_iret hQ hx hb hr hlk hP hD hS hK (by omega) (by omega) d_Ref_move_222 (⟨j, rfl, by omega, hs, (by first | exact Or.inl (by omega) | exact Or.inr (by intro z; omega)), ⟨qs, ma, cb, na, wt, fR, fN, fL, fH, uf, fM, fJ, fT, fE, fY, MA, MB, rfl, hwt, hAd, hM, hJ, hN, hE⟩⟩)
      · exact absurd hc9 (by omega)
    | succ k ih =>
      intro j fJ fE fY MA MB cb H locs ls hk hs hJ hE hnp hz hP hD hS hl
      refine lv_iload_n hx hb d_Ref_move_66 rfl (lv_at hl 0 rfl) ?_
      refine lv_iload_n hx hb d_Ref_move_67 rfl (lv_at hl 1 rfl) ?_
      refine ri_icmp_ge hx hb (by omega) (by omega) d_Ref_move_68 (tgt := 221) (by decide) (fun hc9 => ?_) (fun hc9 => ?_)
      · refine lv_iload_n hx hb d_Ref_move_221 rfl (lv_at hl 0 rfl) ?_
        exact ct_iret hQ hx hb hr hlk hP hD hS hK (by omega) (by omega) d_Ref_move_222 (⟨j, rfl, by omega, hs, (by first | exact Or.inl (by omega) | exact Or.inr (by intro z; omega)), ⟨qs, ma, cb, na, wt, fR, fN, fL, fH, uf, fM, fJ, fT, fE, fY, MA, MB, rfl, hwt, hAd, hM, hJ, hN, hE⟩⟩)
      · refine lv_aload_n hx hb d_Ref_move_71 rfl (lv_at hl 2 rfl) ?_
        refine va_get (D := D) (ci := 9) (v := .int (nI ((bm_dj S j).2.1.2.1))) (C := R_Ref) (T := T_Ref) (N := 32) hx hb ht in_Ref hown hK hP 0 rfl rfl 15 (by decide) (ht _ kl_Ref_175) (fun _ h9 => h9) rfl d_Ref_move_72 ?_
        refine ri_if_le hx hb (by omega) d_Ref_move_75 (tgt := 221) (by decide) (fun h75 => ?_) (fun h75 => ?_)
        · refine lv_iload_n hx hb d_Ref_move_221 rfl (lv_at hl 0 rfl) ?_
          exact ct_iret hQ hx hb hr hlk hP hD hS hK (by omega) (by omega) d_Ref_move_222 (⟨j, rfl, by omega, hs, (by first | exact Or.inl (by omega) | exact Or.inr (by intro z; omega)), ⟨qs, ma, cb, na, wt, fR, fN, fL, fH, uf, fM, fJ, fT, fE, fY, MA, MB, rfl, hwt, hAd, hM, hJ, hN, hE⟩⟩)
        · refine lv_iload_n hx hb d_Ref_move_78 rfl (lv_at hl 3 rfl) ?_
          refine ri_if_lt hx hb (by omega) d_Ref_move_79 (tgt := 92) (by decide) (fun h79 => ?_) (fun h79 => ?_)
          · exact absurd h79 (by omega)
          · refine lv_aload_n hx hb d_Ref_move_82 rfl (lv_at hl 2 rfl) ?_
            refine va_get (D := D) (ci := 9) (v := .int (nI ((bm_dj S j).2.1.2.1))) (C := R_Ref) (T := T_Ref) (N := 32) hx hb ht in_Ref hown hK hP 0 rfl rfl 15 (by decide) (ht _ kl_Ref_175) (fun _ h9 => h9) rfl d_Ref_move_83 ?_
            refine lv_sipush (v := nI 3900) hx hb d_Ref_move_86 (by decide) ?_
            refine ri_icmp_ge hx hb (by omega) (by omega) d_Ref_move_89 (tgt := 221) (by decide) (fun h89 => ?_) (fun h89 => ?_)
            · refine lv_iload_n hx hb d_Ref_move_221 rfl (lv_at hl 0 rfl) ?_
              exact ct_iret hQ hx hb hr hlk hP hD hS hK (by omega) (by omega) d_Ref_move_222 (⟨j, rfl, by omega, hs, (by first | exact Or.inl (by omega) | exact Or.inr (by intro z; omega)), ⟨qs, ma, cb, na, wt, fR, fN, fL, fH, uf, fM, fJ, fT, fE, fY, MA, MB, rfl, hwt, hAd, hM, hJ, hN, hE⟩⟩)
            · have hcb := hJ.1
              obtain ⟨pk, f, t, hp, hrow, hf9, ht9, hp1, hp2, hhp, hv⟩ := hJ.2 0 (by omega)
              rw [Nat.add_zero, Nat.mod_eq_of_lt hcb] at hv
              have hL := tu32 ((bm_dj S j).2.1.2.2 0 3)
              have hpk7 : pk ≤ 900 := by omega
              have he63 := enc63 (L := ((bm_dj S j).2.1.2.2 0 3).toUInt32.toNat) hpk7 hf9 ht9 hhp hL
              have hdx : (bm_dj S (j + 1)) = bm_ddel S.lk S.eb (bm_mkr S.T.1.2.2 S.T.2.1 S.eb) pk f t hp (bm_dj S j) := bm_dst_at S hrow (by omega) (by omega) (by omega) (by omega)
              have hs2 : ∀ i, i < j + 1 → bm_dgo S i := fun i hi9 => by by_cases e : i = j; (· rw [e]; exact ⟨by omega, by omega⟩); (· exact hs i (by omega))
              have hlft := hlk9 f t
              refine lv_aload_n hx hb d_Ref_move_92 rfl (lv_at hl 2 rfl) ?_
              refine va_get (D := D) (ci := 9) (v := .ref (qs 11)) (C := R_Ref) (T := T_Ref) (N := 32) hx hb ht in_Ref hown hK hP 0 rfl rfl 16 (by decide) (ht _ kl_Ref_45) (fun _ h9 => h9) rfl d_Ref_move_93 ?_
              refine lv_aload_n hx hb d_Ref_move_96 rfl (lv_at hl 2 rfl) ?_
              refine va_get (D := D) (ci := 9) (v := .int (nI cb)) (C := R_Ref) (T := T_Ref) (N := 32) hx hb ht in_Ref hown hK hP 0 rfl rfl 14 (by decide) (ht _ kl_Ref_172) (fun _ h9 => h9) rfl d_Ref_move_97 ?_
              refine ri_lald hx hb hK hP 12 2 rfl rfl (j := cb) (by omega) (by omega) d_Ref_move_100 ?_
              refine W.eq (g2 := F0 m 101 ls [.long (lN (pk * 2 ^ 48 + f * 2 ^ 44 + t * 2 ^ 40 + hp * 2 ^ 32 + ((bm_dj S j).2.1.2.2 0 3).toUInt32.toNat))]) (congrArg (fun z => F0 m 101 ls (.long z :: [])) (hv)) ?_
              refine lv_lstore hx hb d_Ref_move_101 hl (by decide) rfl (fun ls hl => ?_)
              have hl : lv_has ls 8 [(4, .long (lN (pk * 2 ^ 48 + f * 2 ^ 44 + t * 2 ^ 40 + hp * 2 ^ 32 + ((bm_dj S j).2.1.2.2 0 3).toUInt32.toNat))), (3, .int (nI j)), (2, .int (nI n)), (0, .ref h), (1, .int (nI n))] := hl
              refine lv_aload_n hx hb d_Ref_move_103 rfl (lv_at hl 3 rfl) ?_
              refine lv_aload_n hx hb d_Ref_move_104 rfl (lv_at hl 3 rfl) ?_
              refine va_get (D := D) (ci := 9) (v := .int (nI cb)) (C := R_Ref) (T := T_Ref) (N := 32) hx hb ht in_Ref hown hK hP 0 rfl rfl 14 (by decide) (ht _ kl_Ref_172) (fun _ h9 => h9) rfl d_Ref_move_105 ?_
              refine lv_iconst (v := nI 1) hx hb d_Ref_move_108 (by decide) ?_
              refine ri_iadd hx hb d_Ref_move_109 ?_
              refine lv_sipush (v := nI 4000) hx hb d_Ref_move_110 (by decide) ?_
              refine ri_irem2 hx hb (by omega) (by omega) (by omega) d_Ref_move_113 ?_
              refine va_put (D := D) (ci := 9) (v := .int (nI ((cb + 1) % 4000))) (ty := .int) (C := R_Ref) (T := T_Ref) (N := 32) hx hb ht in_Ref t_Ref ok_Ref nm_Ref hown hK hP hD hS 0 rfl rfl 14 (by decide) (ht _ kl_Ref_172) (fun _ h9 => h9) rfl (by decide +kernel) rfl rfl (Nat.le_of_ble_eq_true rfl) d_Ref_move_114 (fun H locs hP hD hS => ?_)
              have hP : va_P D kls (List.flatten [[rf_o h qs (nI 0) ma S.T.2.2.1.2.1 ((cb + 1) % 4000) ((bm_dj S j).2.1.2.1) na S.G.2.2.2.1.2.1 ((bm_dj S j).1.2.1) ((bm_dj S j).2.2.1) ((bm_dj S j).2.2.2.1) ((bm_dj S j).2.2.2.2) S.lost], [(qs 0, .inl (cI, 12, .inl (lI S.eb)))], [(qs 1, .inl (cI, 144, .inl (fl (gN S.lk))))], [(qs 2, .inl (cI, 144, .inl (fl (gN wt))))], [(qs 3, .inl (cZ, 144, .inl (fl (kB S.kn))))], [(qs 4, .inl (cI, 1600, .inl fR))], [(qs 5, .inl (cI, 1600, .inl fN))], [(qs 6, .inl (cJ, 1600, .inr (.inl fL)))], [(qs 7, .inl (cJ, 1600, .inr (.inl fH)))], [(qs 8, .inl (cZ, 1600, .inl (dB uf)))], [(qs 9, .inl (cI, 144, .inl (fl (sI S.T.2.1))))], [(qs 10, .inl (cI, 4000, .inl fM))], [(qs 11, .inl (cJ, 4000, .inr (.inl fJ)))], [(qs 12, .inl (cI, 4000, .inl fT))], [(qs 13, .inl (cI, 8, .inl (lI S.G.1)))], [(qs 14, .inl (cI, 8, .inl S.G.2.1))], [(qs 15, .inl (cI, 96, .inl (fl (gN (rT S.G.2.2.1)))))], [(qs 16, .inl (cI, 901, .inl fE))], [(qs 17, .inl (cI, 901, .inl fY))], [(qs 18, .inl (cI, 144, .inl (fl MA)))], [(qs 19, .inl (cI, 144, .inl (fl MB)))]]) H := hP
              have hD : va_D A (List.flatten [[rf_o h qs (nI 0) ma S.T.2.2.1.2.1 ((cb + 1) % 4000) ((bm_dj S j).2.1.2.1) na S.G.2.2.2.1.2.1 ((bm_dj S j).1.2.1) ((bm_dj S j).2.2.1) ((bm_dj S j).2.2.2.1) ((bm_dj S j).2.2.2.2) S.lost], [(qs 0, .inl (cI, 12, .inl (lI S.eb)))], [(qs 1, .inl (cI, 144, .inl (fl (gN S.lk))))], [(qs 2, .inl (cI, 144, .inl (fl (gN wt))))], [(qs 3, .inl (cZ, 144, .inl (fl (kB S.kn))))], [(qs 4, .inl (cI, 1600, .inl fR))], [(qs 5, .inl (cI, 1600, .inl fN))], [(qs 6, .inl (cJ, 1600, .inr (.inl fL)))], [(qs 7, .inl (cJ, 1600, .inr (.inl fH)))], [(qs 8, .inl (cZ, 1600, .inl (dB uf)))], [(qs 9, .inl (cI, 144, .inl (fl (sI S.T.2.1))))], [(qs 10, .inl (cI, 4000, .inl fM))], [(qs 11, .inl (cJ, 4000, .inr (.inl fJ)))], [(qs 12, .inl (cI, 4000, .inl fT))], [(qs 13, .inl (cI, 8, .inl (lI S.G.1)))], [(qs 14, .inl (cI, 8, .inl S.G.2.1))], [(qs 15, .inl (cI, 96, .inl (fl (gN (rT S.G.2.2.1)))))], [(qs 16, .inl (cI, 901, .inl fE))], [(qs 17, .inl (cI, 901, .inl fY))], [(qs 18, .inl (cI, 144, .inl (fl MA)))], [(qs 19, .inl (cI, 144, .inl (fl MB)))]]) := hD
              refine lv_aload_n hx hb d_Ref_move_117 rfl (lv_at hl 3 rfl) ?_
              refine lv_dup hx hb d_Ref_move_118 rfl ?_
              refine va_get (D := D) (ci := 9) (v := .int (nI ((bm_dj S j).2.1.2.1))) (C := R_Ref) (T := T_Ref) (N := 32) hx hb ht in_Ref hown hK hP 0 rfl rfl 15 (by decide) (ht _ kl_Ref_175) (fun _ h9 => h9) rfl d_Ref_move_119 ?_
              refine lv_iconst (v := nI 1) hx hb d_Ref_move_122 (by decide) ?_
              refine ri_isub hx hb (by omega) d_Ref_move_123 ?_
              refine va_put (D := D) (ci := 9) (v := .int (nI (((bm_dj S j).2.1.2.1) - 1))) (ty := .int) (C := R_Ref) (T := T_Ref) (N := 32) hx hb ht in_Ref t_Ref ok_Ref nm_Ref hown hK hP hD hS 0 rfl rfl 15 (by decide) (ht _ kl_Ref_175) (fun _ h9 => h9) rfl (by decide +kernel) rfl rfl (Nat.le_of_ble_eq_true rfl) d_Ref_move_124 (fun H locs hP hD hS => ?_)
              have hP : va_P D kls (List.flatten [[rf_o h qs (nI 0) ma S.T.2.2.1.2.1 ((cb + 1) % 4000) (((bm_dj S j).2.1.2.1) - 1) na S.G.2.2.2.1.2.1 ((bm_dj S j).1.2.1) ((bm_dj S j).2.2.1) ((bm_dj S j).2.2.2.1) ((bm_dj S j).2.2.2.2) S.lost], [(qs 0, .inl (cI, 12, .inl (lI S.eb)))], [(qs 1, .inl (cI, 144, .inl (fl (gN S.lk))))], [(qs 2, .inl (cI, 144, .inl (fl (gN wt))))], [(qs 3, .inl (cZ, 144, .inl (fl (kB S.kn))))], [(qs 4, .inl (cI, 1600, .inl fR))], [(qs 5, .inl (cI, 1600, .inl fN))], [(qs 6, .inl (cJ, 1600, .inr (.inl fL)))], [(qs 7, .inl (cJ, 1600, .inr (.inl fH)))], [(qs 8, .inl (cZ, 1600, .inl (dB uf)))], [(qs 9, .inl (cI, 144, .inl (fl (sI S.T.2.1))))], [(qs 10, .inl (cI, 4000, .inl fM))], [(qs 11, .inl (cJ, 4000, .inr (.inl fJ)))], [(qs 12, .inl (cI, 4000, .inl fT))], [(qs 13, .inl (cI, 8, .inl (lI S.G.1)))], [(qs 14, .inl (cI, 8, .inl S.G.2.1))], [(qs 15, .inl (cI, 96, .inl (fl (gN (rT S.G.2.2.1)))))], [(qs 16, .inl (cI, 901, .inl fE))], [(qs 17, .inl (cI, 901, .inl fY))], [(qs 18, .inl (cI, 144, .inl (fl MA)))], [(qs 19, .inl (cI, 144, .inl (fl MB)))]]) H := hP
              have hD : va_D A (List.flatten [[rf_o h qs (nI 0) ma S.T.2.2.1.2.1 ((cb + 1) % 4000) (((bm_dj S j).2.1.2.1) - 1) na S.G.2.2.2.1.2.1 ((bm_dj S j).1.2.1) ((bm_dj S j).2.2.1) ((bm_dj S j).2.2.2.1) ((bm_dj S j).2.2.2.2) S.lost], [(qs 0, .inl (cI, 12, .inl (lI S.eb)))], [(qs 1, .inl (cI, 144, .inl (fl (gN S.lk))))], [(qs 2, .inl (cI, 144, .inl (fl (gN wt))))], [(qs 3, .inl (cZ, 144, .inl (fl (kB S.kn))))], [(qs 4, .inl (cI, 1600, .inl fR))], [(qs 5, .inl (cI, 1600, .inl fN))], [(qs 6, .inl (cJ, 1600, .inr (.inl fL)))], [(qs 7, .inl (cJ, 1600, .inr (.inl fH)))], [(qs 8, .inl (cZ, 1600, .inl (dB uf)))], [(qs 9, .inl (cI, 144, .inl (fl (sI S.T.2.1))))], [(qs 10, .inl (cI, 4000, .inl fM))], [(qs 11, .inl (cJ, 4000, .inr (.inl fJ)))], [(qs 12, .inl (cI, 4000, .inl fT))], [(qs 13, .inl (cI, 8, .inl (lI S.G.1)))], [(qs 14, .inl (cI, 8, .inl S.G.2.1))], [(qs 15, .inl (cI, 96, .inl (fl (gN (rT S.G.2.2.1)))))], [(qs 16, .inl (cI, 901, .inl fE))], [(qs 17, .inl (cI, 901, .inl fY))], [(qs 18, .inl (cI, 144, .inl (fl MA)))], [(qs 19, .inl (cI, 144, .inl (fl MB)))]]) := hD
              refine ri_iinc hx hb d_Ref_move_127 hl (k := 1) rfl (by decide) rfl (fun ls hl => ?_)
              have hl : lv_has ls 8 [(3, .int (nI (j + 1))), (4, .long (lN (pk * 2 ^ 48 + f * 2 ^ 44 + t * 2 ^ 40 + hp * 2 ^ 32 + ((bm_dj S j).2.1.2.2 0 3).toUInt32.toNat))), (2, .int (nI n)), (0, .ref h), (1, .int (nI n))] := hl
              refine lv_lload hx hb d_Ref_move_130 (lv_at hl 1 rfl) ?_
              refine lv_bipush (v := nI 44) hx hb d_Ref_move_132 (by decide) ?_
              refine ri_lshr2 hx hb he63 (by decide) d_Ref_move_134 ?_
              refine lv_ldc2 (v := lN 15) hx hb hown (ht _ kl_Ref_199) d_Ref_move_135 ?_
              refine ri_land2 hx hb d_Ref_move_138 ?_
              refine lv_l2i (v := nI (((pk * 2 ^ 48 + f * 2 ^ 44 + t * 2 ^ 40 + hp * 2 ^ 32 + ((bm_dj S j).2.1.2.2 0 3).toUInt32.toNat) / 2 ^ 44) &&& 15)) hx hb d_Ref_move_139 (lN_i _) ?_
              refine W.eq (g2 := F0 m 140 ls [.int (nI f)]) (congrArg (fun z => F0 m 140 ls (.int z :: [])) (congrArg nI (cp_f hf9 ht9 hhp hL))) ?_
              refine lv_istore hx hb d_Ref_move_140 hl (by decide) rfl (fun ls hl => ?_)
              have hl : lv_has ls 8 [(6, .int (nI f)), (3, .int (nI (j + 1))), (4, .long (lN (pk * 2 ^ 48 + f * 2 ^ 44 + t * 2 ^ 40 + hp * 2 ^ 32 + ((bm_dj S j).2.1.2.2 0 3).toUInt32.toNat))), (2, .int (nI n)), (0, .ref h), (1, .int (nI n))] := hl
              refine lv_lload hx hb d_Ref_move_142 (lv_at hl 2 rfl) ?_
              refine lv_bipush (v := nI 40) hx hb d_Ref_move_144 (by decide) ?_
              refine ri_lshr2 hx hb he63 (by decide) d_Ref_move_146 ?_
              refine lv_ldc2 (v := lN 15) hx hb hown (ht _ kl_Ref_199) d_Ref_move_147 ?_
              refine ri_land2 hx hb d_Ref_move_150 ?_
              refine lv_l2i (v := nI (((pk * 2 ^ 48 + f * 2 ^ 44 + t * 2 ^ 40 + hp * 2 ^ 32 + ((bm_dj S j).2.1.2.2 0 3).toUInt32.toNat) / 2 ^ 40) &&& 15)) hx hb d_Ref_move_151 (lN_i _) ?_
              refine W.eq (g2 := F0 m 152 ls [.int (nI t)]) (congrArg (fun z => F0 m 152 ls (.int z :: [])) (congrArg nI (cp_t hf9 ht9 hhp hL))) ?_
              refine lv_istore hx hb d_Ref_move_152 hl (by decide) rfl (fun ls hl => ?_)
              have hl : lv_has ls 8 [(7, .int (nI t)), (6, .int (nI f)), (3, .int (nI (j + 1))), (4, .long (lN (pk * 2 ^ 48 + f * 2 ^ 44 + t * 2 ^ 40 + hp * 2 ^ 32 + ((bm_dj S j).2.1.2.2 0 3).toUInt32.toNat))), (2, .int (nI n)), (0, .ref h), (1, .int (nI n))] := hl
              refine lv_iload_n hx hb d_Ref_move_154 rfl (lv_at hl 6 rfl) ?_
              refine ri_if_lt hx hb (by omega) d_Ref_move_155 (tgt := 175) (by decide) (fun h155 => ?_) (fun h155 => ?_)
              · exact absurd h155 (by omega)
              · refine lv_aload_n hx hb d_Ref_move_158 rfl (lv_at hl 5 rfl) ?_
                refine va_get (D := D) (ci := 9) (v := .ref (qs 1)) (C := R_Ref) (T := T_Ref) (N := 32) hx hb ht in_Ref hown hK hP 0 rfl rfl 2 (by decide) (ht _ kl_Ref_13) (fun _ h9 => h9) rfl d_Ref_move_159 ?_
                refine lv_bipush (v := nI 12) hx hb d_Ref_move_162 (by decide) ?_
                refine lv_iload hx hb d_Ref_move_164 (lv_at hl 1 rfl) ?_
                refine ri_imul hx hb d_Ref_move_166 ?_
                refine lv_iload hx hb d_Ref_move_167 (lv_at hl 0 rfl) ?_
                refine ri_iadd hx hb d_Ref_move_169 ?_
                refine ri_iald hx hb hK hP 2 0 rfl rfl (j := (12 * f) + t) (by omega) (by omega) d_Ref_move_170 ?_
                refine W.eq (g2 := F0 m 171 ls [.int (nI (S.lk f t))]) (congrArg (fun z => F0 m 171 ls (.int z :: [])) (fl_at (a := f) (b := t) (by omega))) ?_
                refine lv_iconst (v := nI 1) hx hb d_Ref_move_171 (by decide) ?_
                refine ri_icmp_eq hx hb (by omega) (by omega) d_Ref_move_172 (tgt := 193) (by decide) (fun h172 => ?_) (fun h172 => ?_)
                · refine lv_aload_n hx hb d_Ref_move_193 rfl (lv_at hl 5 rfl) ?_
                  refine lv_iload hx hb d_Ref_move_194 (lv_at hl 0 rfl) ?_
                  refine lv_lload hx hb d_Ref_move_196 (lv_at hl 3 rfl) ?_
                  refine lv_bipush (v := nI 48) hx hb d_Ref_move_198 (by decide) ?_
                  refine ri_lshr2 hx hb he63 (by decide) d_Ref_move_200 ?_
                  refine lv_l2i (v := nI ((pk * 2 ^ 48 + f * 2 ^ 44 + t * 2 ^ 40 + hp * 2 ^ 32 + ((bm_dj S j).2.1.2.2 0 3).toUInt32.toNat) / 2 ^ 48)) hx hb d_Ref_move_201 (lN_i _) ?_
                  refine W.eq (g2 := F0 m 202 ls [.int (nI pk), .int (nI t), .ref h]) (congrArg (fun z => F0 m 202 ls (.int z :: [.int (nI t), .ref h])) (congrArg nI (cp_p hf9 ht9 hhp hL))) ?_
                  refine lv_lload hx hb d_Ref_move_202 (lv_at hl 3 rfl) ?_
                  refine lv_l2i (v := nI (pk * 2 ^ 48 + f * 2 ^ 44 + t * 2 ^ 40 + hp * 2 ^ 32 + ((bm_dj S j).2.1.2.2 0 3).toUInt32.toNat)) hx hb d_Ref_move_204 (lN_i _) ?_
                  refine W.eq (g2 := F0 m 205 ls [.int ((bm_dj S j).2.1.2.2 0 3), .int (nI pk), .int (nI t), .ref h]) (congrArg (fun z => F0 m 205 ls (.int z :: [.int (nI pk), .int (nI t), .ref h])) (cp_s2 _)) ?_
                  refine lv_lload hx hb d_Ref_move_205 (lv_at hl 3 rfl) ?_
                  refine lv_bipush (v := nI 32) hx hb d_Ref_move_207 (by decide) ?_
                  refine ri_lshr2 hx hb he63 (by decide) d_Ref_move_209 ?_
                  refine lv_ldc2 (v := lN 255) hx hb hown (ht _ kl_Ref_201) d_Ref_move_210 ?_
                  refine ri_land2 hx hb d_Ref_move_213 ?_
                  refine lv_l2i (v := nI (((pk * 2 ^ 48 + f * 2 ^ 44 + t * 2 ^ 40 + hp * 2 ^ 32 + ((bm_dj S j).2.1.2.2 0 3).toUInt32.toNat) / 2 ^ 32) &&& 255)) hx hb d_Ref_move_214 (lN_i _) ?_
                  refine W.eq (g2 := F0 m 215 ls [.int (nI hp), .int ((bm_dj S j).2.1.2.2 0 3), .int (nI pk), .int (nI t), .ref h]) (congrArg (fun z => F0 m 215 ls (.int z :: [.int ((bm_dj S j).2.1.2.2 0 3), .int (nI pk), .int (nI t), .ref h])) (congrArg nI (cp_h hf9 ht9 hhp hL))) ?_
                  have hps : (bm_parts (bm_mkr S.T.1.2.2 S.T.2.1 S.eb t) pk t hp ((((bm_dj S j).2.1.2.2 0 3) &&& ((((bm_dj S j).2.1.2.2 0 3) &&& (bm_em (S.eb t))) ^^^ (-1))), (bm_own (((bm_dj S j).2.1.2.2 0 3) &&& (bm_em (S.eb t))) pk (bm_dropD (bm_dj S j)))) 12).2.2.1.2.1 ≤ 4000 := by
                    refine Nat.le_trans (parts_12 _ _ _ _ _ _) ?_
                    rw [(bm_own_1 _ _ _).2.2]
                    show (bm_dj S j).2.1.2.1 - 1 + 12 ≤ 4000
                    omega
                  have hP : va_P D kls (List.flatten [[rf_o h qs (nI 0) ma S.T.2.2.1.2.1 ((cb + 1) % 4000) ((bm_dropD (bm_dj S j)).2.1.2.1) na S.G.2.2.2.1.2.1 ((bm_dropD (bm_dj S j)).1.2.1) ((bm_dropD (bm_dj S j)).2.2.1) ((bm_dropD (bm_dj S j)).2.2.2.1) ((bm_dropD (bm_dj S j)).2.2.2.2) S.lost], [(qs 0, .inl (cI, 12, .inl (lI S.eb)))], [(qs 1, .inl (cI, 144, .inl (fl (gN S.lk))))], [(qs 2, .inl (cI, 144, .inl (fl (gN wt))))], [(qs 3, .inl (cZ, 144, .inl (fl (kB S.kn))))], [(qs 4, .inl (cI, 1600, .inl fR))], [(qs 5, .inl (cI, 1600, .inl fN))], [(qs 6, .inl (cJ, 1600, .inr (.inl fL)))], [(qs 7, .inl (cJ, 1600, .inr (.inl fH)))], [(qs 8, .inl (cZ, 1600, .inl (dB uf)))], [(qs 9, .inl (cI, 144, .inl (fl (sI S.T.2.1))))], [(qs 10, .inl (cI, 4000, .inl fM))], [(qs 11, .inl (cJ, 4000, .inr (.inl fJ)))], [(qs 12, .inl (cI, 4000, .inl fT))], [(qs 13, .inl (cI, 8, .inl (lI S.G.1)))], [(qs 14, .inl (cI, 8, .inl S.G.2.1))], [(qs 15, .inl (cI, 96, .inl (fl (gN (rT S.G.2.2.1)))))], [(qs 16, .inl (cI, 901, .inl fE))], [(qs 17, .inl (cI, 901, .inl fY))], [(qs 18, .inl (cI, 144, .inl (fl MA)))], [(qs 19, .inl (cI, 144, .inl (fl MB)))]]) H := hP
                  have hD : va_D A (List.flatten [[rf_o h qs (nI 0) ma S.T.2.2.1.2.1 ((cb + 1) % 4000) ((bm_dropD (bm_dj S j)).2.1.2.1) na S.G.2.2.2.1.2.1 ((bm_dropD (bm_dj S j)).1.2.1) ((bm_dropD (bm_dj S j)).2.2.1) ((bm_dropD (bm_dj S j)).2.2.2.1) ((bm_dropD (bm_dj S j)).2.2.2.2) S.lost], [(qs 0, .inl (cI, 12, .inl (lI S.eb)))], [(qs 1, .inl (cI, 144, .inl (fl (gN S.lk))))], [(qs 2, .inl (cI, 144, .inl (fl (gN wt))))], [(qs 3, .inl (cZ, 144, .inl (fl (kB S.kn))))], [(qs 4, .inl (cI, 1600, .inl fR))], [(qs 5, .inl (cI, 1600, .inl fN))], [(qs 6, .inl (cJ, 1600, .inr (.inl fL)))], [(qs 7, .inl (cJ, 1600, .inr (.inl fH)))], [(qs 8, .inl (cZ, 1600, .inl (dB uf)))], [(qs 9, .inl (cI, 144, .inl (fl (sI S.T.2.1))))], [(qs 10, .inl (cI, 4000, .inl fM))], [(qs 11, .inl (cJ, 4000, .inr (.inl fJ)))], [(qs 12, .inl (cI, 4000, .inl fT))], [(qs 13, .inl (cI, 8, .inl (lI S.G.1)))], [(qs 14, .inl (cI, 8, .inl S.G.2.1))], [(qs 15, .inl (cI, 96, .inl (fl (gN (rT S.G.2.2.1)))))], [(qs 16, .inl (cI, 901, .inl fE))], [(qs 17, .inl (cI, 901, .inl fY))], [(qs 18, .inl (cI, 144, .inl (fl MA)))], [(qs 19, .inl (cI, 144, .inl (fl MB)))]]) := hD
                  refine ct_callVV (C := R_Ref) (ci := 9) (As := [.int (nI t), .int (nI pk), .int ((bm_dj S j).2.1.2.2 0 3), .int (nI hp)]) (rest := []) ⟨hx, hb, hml, hown, ht⟩ (k_Ref_arrive l D cI cZ cJ cG (Dd := (bm_dropD (bm_dj S j))) heb (fun k hk => ⟨(hAd.1 k hk).2.2.1, (hAd.1 k hk).2.2.2⟩) h00 (Nat.le_trans hA9 (by decide)) hrt.2.2.1 t ht9 (fun x hx9 => hrt.2.1 t x ht9 hx9) (hrt.2.2.2.1 t ht9) (hrt.2.2.2.2 t ht9) pk ((bm_dj S j).2.1.2.2 0 3) hp (cr_drop hJ) hE hp1 hp2 hnp hhp hps) (cb_V ht kc_Ref_arrive kl_Ref_192 kn_Ref ki_Ref_arrive ks_Ref_arrive hd_Ref_arrive ⟨Nat.le_of_ble_eq_true rfl, Nat.le_of_ble_eq_true rfl⟩) (List.mem_of_getElem? (i := 0) rfl) rfl rfl (wd_ct (Bs := [[rf_o h qs (nI 0) ma S.T.2.2.1.2.1 ((cb + 1) % 4000) ((bm_dropD (bm_dj S j)).2.1.2.1) na S.G.2.2.2.1.2.1 ((bm_dropD (bm_dj S j)).1.2.1) ((bm_dropD (bm_dj S j)).2.2.1) ((bm_dropD (bm_dj S j)).2.2.2.1) ((bm_dropD (bm_dj S j)).2.2.2.2) S.lost], [(qs 0, .inl (cI, 12, .inl (lI S.eb)))], [(qs 1, .inl (cI, 144, .inl (fl (gN S.lk))))], [(qs 2, .inl (cI, 144, .inl (fl (gN wt))))], [(qs 3, .inl (cZ, 144, .inl (fl (kB S.kn))))], [(qs 4, .inl (cI, 1600, .inl fR))], [(qs 5, .inl (cI, 1600, .inl fN))], [(qs 6, .inl (cJ, 1600, .inr (.inl fL)))], [(qs 7, .inl (cJ, 1600, .inr (.inl fH)))], [(qs 8, .inl (cZ, 1600, .inl (dB uf)))], [(qs 9, .inl (cI, 144, .inl (fl (sI S.T.2.1))))], [(qs 10, .inl (cI, 4000, .inl fM))], [(qs 11, .inl (cJ, 4000, .inr (.inl fJ)))], [(qs 12, .inl (cI, 4000, .inl fT))], [(qs 13, .inl (cI, 8, .inl (lI S.G.1)))], [(qs 14, .inl (cI, 8, .inl S.G.2.1))], [(qs 15, .inl (cI, 96, .inl (fl (gN (rT S.G.2.2.1)))))], [(qs 16, .inl (cI, 901, .inl fE))], [(qs 17, .inl (cI, 901, .inl fY))], [(qs 18, .inl (cI, 144, .inl (fl MA)))], [(qs 19, .inl (cI, 144, .inl (fl MB)))]]) 21 rfl [0, 1, 7, 8, 10, 12, 17, 18, 19, 20] [2, 3, 4, 5, 6, 9, 11, 13, 14, 15, 16] (by decide) rfl) hK hP hD hS hA rfl hl.1 rfl (Nat.le_of_ble_eq_true rfl) ⟨(show 0 + 0 ≤ 0 by omega), (show 0 + 0 ≤ 0 by omega)⟩ d_Ref_move_215 (fun u108 H locs hu108 hP hD hS => ?_)
                  obtain ⟨fC2, fD2, fX2, MK2, MF2, rfl, hC2, hPd2⟩ := hu108
                  refine W.widen (k := 0) (n := 0) (Nat.le_refl _) (Nat.le_refl _) ?_
                  have hP := wd_nP (N := [[rf_o h qs (nI 0) ma S.T.2.2.1.2.1 ((cb + 1) % 4000) ((bm_handle S.eb (bm_mkr S.T.1.2.2 S.T.2.1 S.eb t) pk t ((bm_dj S j).2.1.2.2 0 3) hp (bm_dropD (bm_dj S j))).2.1.2.1) na S.G.2.2.2.1.2.1 ((bm_handle S.eb (bm_mkr S.T.1.2.2 S.T.2.1 S.eb t) pk t ((bm_dj S j).2.1.2.2 0 3) hp (bm_dropD (bm_dj S j))).1.2.1) ((bm_handle S.eb (bm_mkr S.T.1.2.2 S.T.2.1 S.eb t) pk t ((bm_dj S j).2.1.2.2 0 3) hp (bm_dropD (bm_dj S j))).2.2.1) ((bm_handle S.eb (bm_mkr S.T.1.2.2 S.T.2.1 S.eb t) pk t ((bm_dj S j).2.1.2.2 0 3) hp (bm_dropD (bm_dj S j))).2.2.2.1) ((bm_handle S.eb (bm_mkr S.T.1.2.2 S.T.2.1 S.eb t) pk t ((bm_dj S j).2.1.2.2 0 3) hp (bm_dropD (bm_dj S j))).2.2.2.2) S.lost], [(qs 0, .inl (cI, 12, .inl (lI S.eb)))], [(qs 6, .inl (cJ, 1600, .inr (.inl fL)))], [(qs 7, .inl (cJ, 1600, .inr (.inl fH)))], [(qs 9, .inl (cI, 144, .inl (fl (sI S.T.2.1))))], [(qs 11, .inl (cJ, 4000, .inr (.inl fC2)))], [(qs 16, .inl (cI, 901, .inl fD2))], [(qs 17, .inl (cI, 901, .inl fX2))], [(qs 18, .inl (cI, 144, .inl (fl MK2)))], [(qs 19, .inl (cI, 144, .inl (fl MF2)))]]) rfl 21 rfl [0, 1, 10, 11, 12, 13, 14, 2, 3, 15, 4, 16, 5, 17, 18, 19, 20, 6, 7, 8, 9] (by decide) hP
                  have hD := wd_nD (N := [[rf_o h qs (nI 0) ma S.T.2.2.1.2.1 ((cb + 1) % 4000) ((bm_handle S.eb (bm_mkr S.T.1.2.2 S.T.2.1 S.eb t) pk t ((bm_dj S j).2.1.2.2 0 3) hp (bm_dropD (bm_dj S j))).2.1.2.1) na S.G.2.2.2.1.2.1 ((bm_handle S.eb (bm_mkr S.T.1.2.2 S.T.2.1 S.eb t) pk t ((bm_dj S j).2.1.2.2 0 3) hp (bm_dropD (bm_dj S j))).1.2.1) ((bm_handle S.eb (bm_mkr S.T.1.2.2 S.T.2.1 S.eb t) pk t ((bm_dj S j).2.1.2.2 0 3) hp (bm_dropD (bm_dj S j))).2.2.1) ((bm_handle S.eb (bm_mkr S.T.1.2.2 S.T.2.1 S.eb t) pk t ((bm_dj S j).2.1.2.2 0 3) hp (bm_dropD (bm_dj S j))).2.2.2.1) ((bm_handle S.eb (bm_mkr S.T.1.2.2 S.T.2.1 S.eb t) pk t ((bm_dj S j).2.1.2.2 0 3) hp (bm_dropD (bm_dj S j))).2.2.2.2) S.lost], [(qs 0, .inl (cI, 12, .inl (lI S.eb)))], [(qs 6, .inl (cJ, 1600, .inr (.inl fL)))], [(qs 7, .inl (cJ, 1600, .inr (.inl fH)))], [(qs 9, .inl (cI, 144, .inl (fl (sI S.T.2.1))))], [(qs 11, .inl (cJ, 4000, .inr (.inl fC2)))], [(qs 16, .inl (cI, 901, .inl fD2))], [(qs 17, .inl (cI, 901, .inl fX2))], [(qs 18, .inl (cI, 144, .inl (fl MK2)))], [(qs 19, .inl (cI, 144, .inl (fl MF2)))]]) rfl 21 rfl [0, 1, 10, 11, 12, 13, 14, 2, 3, 15, 4, 16, 5, 17, 18, 19, 20, 6, 7, 8, 9] (by decide) hD
                  have hP : va_P D kls (List.flatten [[rf_o h qs (nI 0) ma S.T.2.2.1.2.1 ((cb + 1) % 4000) ((bm_handle S.eb (bm_mkr S.T.1.2.2 S.T.2.1 S.eb t) pk t ((bm_dj S j).2.1.2.2 0 3) hp (bm_dropD (bm_dj S j))).2.1.2.1) na S.G.2.2.2.1.2.1 ((bm_handle S.eb (bm_mkr S.T.1.2.2 S.T.2.1 S.eb t) pk t ((bm_dj S j).2.1.2.2 0 3) hp (bm_dropD (bm_dj S j))).1.2.1) ((bm_handle S.eb (bm_mkr S.T.1.2.2 S.T.2.1 S.eb t) pk t ((bm_dj S j).2.1.2.2 0 3) hp (bm_dropD (bm_dj S j))).2.2.1) ((bm_handle S.eb (bm_mkr S.T.1.2.2 S.T.2.1 S.eb t) pk t ((bm_dj S j).2.1.2.2 0 3) hp (bm_dropD (bm_dj S j))).2.2.2.1) ((bm_handle S.eb (bm_mkr S.T.1.2.2 S.T.2.1 S.eb t) pk t ((bm_dj S j).2.1.2.2 0 3) hp (bm_dropD (bm_dj S j))).2.2.2.2) S.lost], [(qs 0, .inl (cI, 12, .inl (lI S.eb)))], [(qs 1, .inl (cI, 144, .inl (fl (gN S.lk))))], [(qs 2, .inl (cI, 144, .inl (fl (gN wt))))], [(qs 3, .inl (cZ, 144, .inl (fl (kB S.kn))))], [(qs 4, .inl (cI, 1600, .inl fR))], [(qs 5, .inl (cI, 1600, .inl fN))], [(qs 6, .inl (cJ, 1600, .inr (.inl fL)))], [(qs 7, .inl (cJ, 1600, .inr (.inl fH)))], [(qs 8, .inl (cZ, 1600, .inl (dB uf)))], [(qs 9, .inl (cI, 144, .inl (fl (sI S.T.2.1))))], [(qs 10, .inl (cI, 4000, .inl fM))], [(qs 11, .inl (cJ, 4000, .inr (.inl fC2)))], [(qs 12, .inl (cI, 4000, .inl fT))], [(qs 13, .inl (cI, 8, .inl (lI S.G.1)))], [(qs 14, .inl (cI, 8, .inl S.G.2.1))], [(qs 15, .inl (cI, 96, .inl (fl (gN (rT S.G.2.2.1)))))], [(qs 16, .inl (cI, 901, .inl fD2))], [(qs 17, .inl (cI, 901, .inl fX2))], [(qs 18, .inl (cI, 144, .inl (fl MK2)))], [(qs 19, .inl (cI, 144, .inl (fl MF2)))]]) H := hP
                  have hD : va_D A (List.flatten [[rf_o h qs (nI 0) ma S.T.2.2.1.2.1 ((cb + 1) % 4000) ((bm_handle S.eb (bm_mkr S.T.1.2.2 S.T.2.1 S.eb t) pk t ((bm_dj S j).2.1.2.2 0 3) hp (bm_dropD (bm_dj S j))).2.1.2.1) na S.G.2.2.2.1.2.1 ((bm_handle S.eb (bm_mkr S.T.1.2.2 S.T.2.1 S.eb t) pk t ((bm_dj S j).2.1.2.2 0 3) hp (bm_dropD (bm_dj S j))).1.2.1) ((bm_handle S.eb (bm_mkr S.T.1.2.2 S.T.2.1 S.eb t) pk t ((bm_dj S j).2.1.2.2 0 3) hp (bm_dropD (bm_dj S j))).2.2.1) ((bm_handle S.eb (bm_mkr S.T.1.2.2 S.T.2.1 S.eb t) pk t ((bm_dj S j).2.1.2.2 0 3) hp (bm_dropD (bm_dj S j))).2.2.2.1) ((bm_handle S.eb (bm_mkr S.T.1.2.2 S.T.2.1 S.eb t) pk t ((bm_dj S j).2.1.2.2 0 3) hp (bm_dropD (bm_dj S j))).2.2.2.2) S.lost], [(qs 0, .inl (cI, 12, .inl (lI S.eb)))], [(qs 1, .inl (cI, 144, .inl (fl (gN S.lk))))], [(qs 2, .inl (cI, 144, .inl (fl (gN wt))))], [(qs 3, .inl (cZ, 144, .inl (fl (kB S.kn))))], [(qs 4, .inl (cI, 1600, .inl fR))], [(qs 5, .inl (cI, 1600, .inl fN))], [(qs 6, .inl (cJ, 1600, .inr (.inl fL)))], [(qs 7, .inl (cJ, 1600, .inr (.inl fH)))], [(qs 8, .inl (cZ, 1600, .inl (dB uf)))], [(qs 9, .inl (cI, 144, .inl (fl (sI S.T.2.1))))], [(qs 10, .inl (cI, 4000, .inl fM))], [(qs 11, .inl (cJ, 4000, .inr (.inl fC2)))], [(qs 12, .inl (cI, 4000, .inl fT))], [(qs 13, .inl (cI, 8, .inl (lI S.G.1)))], [(qs 14, .inl (cI, 8, .inl S.G.2.1))], [(qs 15, .inl (cI, 96, .inl (fl (gN (rT S.G.2.2.1)))))], [(qs 16, .inl (cI, 901, .inl fD2))], [(qs 17, .inl (cI, 901, .inl fX2))], [(qs 18, .inl (cI, 144, .inl (fl MK2)))], [(qs 19, .inl (cI, 144, .inl (fl MF2)))]]) := hD
                  refine W.eq (g2 := F0 m 218 ls []) rfl ?_
                  refine lv_goto hx hb d_Ref_move_218 (tgt := 66) (by decide) ?_
                  have hst : (bm_dj S (j + 1)) = (bm_handle S.eb (bm_mkr S.T.1.2.2 S.T.2.1 S.eb t) pk t ((bm_dj S j).2.1.2.2 0 3) hp (bm_dropD (bm_dj S j))) := hdx.trans (if_pos h172)
                  exact ih (j + 1) fC2 fD2 fX2 MK2 MF2 ((cb + 1) % 4000) H locs ls (by omega) hs2 (by rw [hst]; exact hC2) (by rw [hst]; exact hPd2) (by rw [hst, handle_np]; exact hnp) (by rw [hst]; refine Nat.le_trans (handle_n _ _ _ _ _ _ _) ?_; show (bm_dj S j).2.1.2.1 - 1 + 12 ≤ 4000; omega) (by rw [hst]; exact hP) (by rw [hst]; exact hD) hS (lv_sub hl [2, 4, 5, 6] rfl)
                · refine lv_aload_n hx hb d_Ref_move_175 rfl (lv_at hl 5 rfl) ?_
                  refine lv_dup hx hb d_Ref_move_176 rfl ?_
                  refine va_get (D := D) (ci := 9) (v := .int ((bm_dj S j).2.2.2.2)) (C := R_Ref) (T := T_Ref) (N := 32) hx hb ht in_Ref hown hK hP 0 rfl rfl 28 (by decide) (ht _ kl_Ref_180) (fun _ h9 => h9) rfl d_Ref_move_177 ?_
                  refine lv_lload hx hb d_Ref_move_180 (lv_at hl 3 rfl) ?_
                  refine lv_l2i (v := nI (pk * 2 ^ 48 + f * 2 ^ 44 + t * 2 ^ 40 + hp * 2 ^ 32 + ((bm_dj S j).2.1.2.2 0 3).toUInt32.toNat)) hx hb d_Ref_move_182 (lN_i _) ?_
                  refine W.eq (g2 := F0 m 183 ls [.int ((bm_dj S j).2.1.2.2 0 3), .int ((bm_dj S j).2.2.2.2), .ref h]) (congrArg (fun z => F0 m 183 ls (.int z :: [.int ((bm_dj S j).2.2.2.2), .ref h])) (cp_s2 _)) ?_
                  refine ct_rdS (As := [.int ((bm_dj S j).2.1.2.2 0 3)]) (rest := [.int ((bm_dj S j).2.2.2.2), .ref h]) ⟨hx, hb, hml, hown, ht⟩ (k_Ref_ones l D cI cZ cJ cG ((bm_dj S j).2.1.2.2 0 3)) (cb_S ht kc_Ref_ones kl_Ref_183 kn_Ref ki_Ref_ones hd_Ref_ones ⟨Nat.le_of_ble_eq_true rfl, Nat.le_of_ble_eq_true rfl⟩) (wd_ct (Bs := [[rf_o h qs (nI 0) ma S.T.2.2.1.2.1 ((cb + 1) % 4000) (((bm_dj S j).2.1.2.1) - 1) na S.G.2.2.2.1.2.1 ((bm_dj S j).1.2.1) ((bm_dj S j).2.2.1) ((bm_dj S j).2.2.2.1) ((bm_dj S j).2.2.2.2) S.lost], [(qs 0, .inl (cI, 12, .inl (lI S.eb)))], [(qs 1, .inl (cI, 144, .inl (fl (gN S.lk))))], [(qs 2, .inl (cI, 144, .inl (fl (gN wt))))], [(qs 3, .inl (cZ, 144, .inl (fl (kB S.kn))))], [(qs 4, .inl (cI, 1600, .inl fR))], [(qs 5, .inl (cI, 1600, .inl fN))], [(qs 6, .inl (cJ, 1600, .inr (.inl fL)))], [(qs 7, .inl (cJ, 1600, .inr (.inl fH)))], [(qs 8, .inl (cZ, 1600, .inl (dB uf)))], [(qs 9, .inl (cI, 144, .inl (fl (sI S.T.2.1))))], [(qs 10, .inl (cI, 4000, .inl fM))], [(qs 11, .inl (cJ, 4000, .inr (.inl fJ)))], [(qs 12, .inl (cI, 4000, .inl fT))], [(qs 13, .inl (cI, 8, .inl (lI S.G.1)))], [(qs 14, .inl (cI, 8, .inl S.G.2.1))], [(qs 15, .inl (cI, 96, .inl (fl (gN (rT S.G.2.2.1)))))], [(qs 16, .inl (cI, 901, .inl fE))], [(qs 17, .inl (cI, 901, .inl fY))], [(qs 18, .inl (cI, 144, .inl (fl MA)))], [(qs 19, .inl (cI, 144, .inl (fl MB)))]]) 21 rfl [] [0, 1, 2, 3, 4, 5, 6, 7, 8, 9, 10, 11, 12, 13, 14, 15, 16, 17, 18, 19, 20] (by decide) rfl) hK hP hD hS hA rfl hl.1 rfl (Nat.le_of_ble_eq_true rfl) ⟨(show 0 + 0 ≤ 0 by omega), (show 0 + 0 ≤ 0 by omega)⟩ d_Ref_move_183 (fun rhr110 H locs hr110 hP hD hS => ?_)
                  have hz109 := hr110
                  rw [hz109]
                  refine lv_iadd hx hb d_Ref_move_186 ?_
                  refine va_put (D := D) (ci := 9) (v := .int (((bm_dj S j).2.2.2.2) + (bm_pop ((bm_dj S j).2.1.2.2 0 3) 32))) (ty := .int) (C := R_Ref) (T := T_Ref) (N := 32) hx hb ht in_Ref t_Ref ok_Ref nm_Ref hown hK hP hD hS 0 rfl rfl 28 (by decide) (ht _ kl_Ref_180) (fun _ h9 => h9) rfl (by decide +kernel) rfl rfl (Nat.le_of_ble_eq_true rfl) d_Ref_move_187 (fun H locs hP hD hS => ?_)
                  have hP : va_P D kls (List.flatten [[rf_o h qs (nI 0) ma S.T.2.2.1.2.1 ((cb + 1) % 4000) (((bm_dj S j).2.1.2.1) - 1) na S.G.2.2.2.1.2.1 ((bm_dj S j).1.2.1) ((bm_dj S j).2.2.1) ((bm_dj S j).2.2.2.1) (((bm_dj S j).2.2.2.2) + (bm_pop ((bm_dj S j).2.1.2.2 0 3) 32)) S.lost], [(qs 0, .inl (cI, 12, .inl (lI S.eb)))], [(qs 1, .inl (cI, 144, .inl (fl (gN S.lk))))], [(qs 2, .inl (cI, 144, .inl (fl (gN wt))))], [(qs 3, .inl (cZ, 144, .inl (fl (kB S.kn))))], [(qs 4, .inl (cI, 1600, .inl fR))], [(qs 5, .inl (cI, 1600, .inl fN))], [(qs 6, .inl (cJ, 1600, .inr (.inl fL)))], [(qs 7, .inl (cJ, 1600, .inr (.inl fH)))], [(qs 8, .inl (cZ, 1600, .inl (dB uf)))], [(qs 9, .inl (cI, 144, .inl (fl (sI S.T.2.1))))], [(qs 10, .inl (cI, 4000, .inl fM))], [(qs 11, .inl (cJ, 4000, .inr (.inl fJ)))], [(qs 12, .inl (cI, 4000, .inl fT))], [(qs 13, .inl (cI, 8, .inl (lI S.G.1)))], [(qs 14, .inl (cI, 8, .inl S.G.2.1))], [(qs 15, .inl (cI, 96, .inl (fl (gN (rT S.G.2.2.1)))))], [(qs 16, .inl (cI, 901, .inl fE))], [(qs 17, .inl (cI, 901, .inl fY))], [(qs 18, .inl (cI, 144, .inl (fl MA)))], [(qs 19, .inl (cI, 144, .inl (fl MB)))]]) H := hP
                  have hD : va_D A (List.flatten [[rf_o h qs (nI 0) ma S.T.2.2.1.2.1 ((cb + 1) % 4000) (((bm_dj S j).2.1.2.1) - 1) na S.G.2.2.2.1.2.1 ((bm_dj S j).1.2.1) ((bm_dj S j).2.2.1) ((bm_dj S j).2.2.2.1) (((bm_dj S j).2.2.2.2) + (bm_pop ((bm_dj S j).2.1.2.2 0 3) 32)) S.lost], [(qs 0, .inl (cI, 12, .inl (lI S.eb)))], [(qs 1, .inl (cI, 144, .inl (fl (gN S.lk))))], [(qs 2, .inl (cI, 144, .inl (fl (gN wt))))], [(qs 3, .inl (cZ, 144, .inl (fl (kB S.kn))))], [(qs 4, .inl (cI, 1600, .inl fR))], [(qs 5, .inl (cI, 1600, .inl fN))], [(qs 6, .inl (cJ, 1600, .inr (.inl fL)))], [(qs 7, .inl (cJ, 1600, .inr (.inl fH)))], [(qs 8, .inl (cZ, 1600, .inl (dB uf)))], [(qs 9, .inl (cI, 144, .inl (fl (sI S.T.2.1))))], [(qs 10, .inl (cI, 4000, .inl fM))], [(qs 11, .inl (cJ, 4000, .inr (.inl fJ)))], [(qs 12, .inl (cI, 4000, .inl fT))], [(qs 13, .inl (cI, 8, .inl (lI S.G.1)))], [(qs 14, .inl (cI, 8, .inl S.G.2.1))], [(qs 15, .inl (cI, 96, .inl (fl (gN (rT S.G.2.2.1)))))], [(qs 16, .inl (cI, 901, .inl fE))], [(qs 17, .inl (cI, 901, .inl fY))], [(qs 18, .inl (cI, 144, .inl (fl MA)))], [(qs 19, .inl (cI, 144, .inl (fl MB)))]]) := hD
                  refine lv_goto hx hb d_Ref_move_190 (tgt := 218) (by decide) ?_
                  refine lv_goto hx hb d_Ref_move_218 (tgt := 66) (by decide) ?_
                  have hst : (bm_dj S (j + 1)) = bm_loses ((bm_dj S j).2.1.2.2 0 3) (bm_dropD (bm_dj S j)) := hdx.trans (if_neg h172)
                  exact ih (j + 1) fJ fE fY MA MB ((cb + 1) % 4000) H locs ls (by omega) hs2 (by rw [hst]; exact cr_drop hJ) (by rw [hst]; exact hE) (by rw [hst]; exact hnp) (by rw [hst]; show (bm_dj S j).2.1.2.1 - 1 ≤ 4000; omega) (by rw [hst]; exact hP) (by rw [hst]; exact hD) hS (lv_sub hl [2, 4, 5, 6] rfl)
  refine lv_aload_n hx hb d_Ref_move_0 rfl (lv_at hl 0 rfl) ?_
  refine lv_iload_n hx hb d_Ref_move_1 rfl (lv_at hl 1 rfl) ?_
  refine lv_iconst (v := (-1)) hx hb d_Ref_move_2 (by decide) ?_
  refine lv_icmp_eq hx hb d_Ref_move_3 (tgt := 20) (by decide) (fun h3 => ?_) (fun h3 => ?_)
  · exact absurd h3 (nI_m1 (by omega))
  · refine lv_aload_n hx hb d_Ref_move_6 rfl (lv_at hl 0 rfl) ?_
    refine va_get (D := D) (ci := 9) (v := .int (nI S.D.2.1.2.1)) (C := R_Ref) (T := T_Ref) (N := 32) hx hb ht in_Ref hown hK hP 0 rfl rfl 15 (by decide) (ht _ kl_Ref_175) (fun _ h9 => h9) rfl d_Ref_move_7 ?_
    refine lv_sipush (v := nI 3900) hx hb d_Ref_move_10 (by decide) ?_
    refine ri_icmp_lt hx hb (by omega) (by omega) d_Ref_move_13 (tgt := 20) (by decide) (fun h13 => ?_) (fun h13 => ?_)
    · refine lv_iload_n hx hb d_Ref_move_20 rfl (lv_at hl 1 rfl) ?_
      refine lv_iconst (v := (-1)) hx hb d_Ref_move_21 (by decide) ?_
      refine lv_icmp_eq hx hb d_Ref_move_22 (tgt := 37) (by decide) (fun h22 => ?_) (fun h22 => ?_)
      · exact absurd h22 (nI_m1 (by omega))
      · refine lv_iload_n hx hb d_Ref_move_25 rfl (lv_at hl 1 rfl) ?_
        refine lv_i2l (v := lN n) hx hb d_Ref_move_26 (nI_l (by omega)) ?_
        refine lv_lconst (v := lN 1) hx hb d_Ref_move_27 rfl ?_
        refine lv_ldc2 (v := lN 1000) hx hb hown (ht _ kl_Ref_116) d_Ref_move_28 ?_
        refine ct_rdS (As := [.long (lN n), .long (lN 1), .long (lN 1000)]) (rest := [.ref h]) ⟨hx, hb, hml, hown, ht⟩ (k_Ref_in l D cI cZ cJ cG (lN n) (lN 1) (lN 1000)) (cb_S ht kc_Ref_in kl_Ref_78 kn_Ref ki_Ref_in hd_Ref_in ⟨Nat.le_of_ble_eq_true rfl, Nat.le_of_ble_eq_true rfl⟩) (wd_ct (Bs := [[rf_o h qs cd ma S.T.2.2.1.2.1 ca S.D.2.1.2.1 na S.G.2.2.2.1.2.1 S.D.1.2.1 S.D.2.2.1 S.D.2.2.2.1 S.D.2.2.2.2 S.lost], [(qs 0, .inl (cI, 12, .inl (lI S.eb)))], [(qs 1, .inl (cI, 144, .inl (fl (gN S.lk))))], [(qs 2, .inl (cI, 144, .inl (fl (gN wt))))], [(qs 3, .inl (cZ, 144, .inl (fl (kB S.kn))))], [(qs 4, .inl (cI, 1600, .inl fR))], [(qs 5, .inl (cI, 1600, .inl fN))], [(qs 6, .inl (cJ, 1600, .inr (.inl fL)))], [(qs 7, .inl (cJ, 1600, .inr (.inl fH)))], [(qs 8, .inl (cZ, 1600, .inl (dB uf)))], [(qs 9, .inl (cI, 144, .inl (fl (sI S.T.2.1))))], [(qs 10, .inl (cI, 4000, .inl fM))], [(qs 11, .inl (cJ, 4000, .inr (.inl fC)))], [(qs 12, .inl (cI, 4000, .inl fT))], [(qs 13, .inl (cI, 8, .inl (lI S.G.1)))], [(qs 14, .inl (cI, 8, .inl S.G.2.1))], [(qs 15, .inl (cI, 96, .inl (fl (gN (rT S.G.2.2.1)))))], [(qs 16, .inl (cI, 901, .inl fD))], [(qs 17, .inl (cI, 901, .inl fX))], [(qs 18, .inl (cI, 144, .inl (fl MK)))], [(qs 19, .inl (cI, 144, .inl (fl MF)))]]) 21 rfl [] [0, 1, 2, 3, 4, 5, 6, 7, 8, 9, 10, 11, 12, 13, 14, 15, 16, 17, 18, 19, 20] (by decide) rfl) hK hP hD hS hA rfl hl.1 rfl (Nat.le_of_ble_eq_true rfl) ⟨(show 0 + 0 ≤ 0 by omega), (show 0 + 0 ≤ 0 by omega)⟩ d_Ref_move_31 (fun rhr114 H locs hr114 hP hD hS => ?_)
        subst hr114
        refine W.eq (g2 := F0 m 34 ls [.int (bI true), .ref h]) (congrArg (fun z => F0 m 34 ls (.int z :: [.ref h])) (congrArg bI (decide_eq_true ⟨(lN_le (by decide) (show n < 2 ^ 31 by omega)).mpr hn1, (lN_le (show n < 2 ^ 31 by omega) (by decide)).mpr hn2⟩))) ?_
        refine ri_ifeqB hx hb d_Ref_move_34 (tgt := 41) (by decide) (fun h115 => ?_) (fun h115 => ?_)
        · exact absurd h115 (fun z => by cases z)
        · refine lv_iconst (v := nI 0) hx hb d_Ref_move_37 (by decide) ?_
          refine lv_goto hx hb d_Ref_move_38 (tgt := 42) (by decide) ?_
          refine va_put (D := D) (ci := 9) (v := .int (nI 0)) (ty := .int) (C := R_Ref) (T := T_Ref) (N := 32) hx hb ht in_Ref t_Ref ok_Ref nm_Ref hown hK hP hD hS 0 rfl rfl 0 (by decide) (ht _ kl_Ref_72) (fun _ h9 => h9) rfl (by decide +kernel) rfl rfl (Nat.le_of_ble_eq_true rfl) d_Ref_move_42 (fun H locs hP hD hS => ?_)
          have hP : va_P D kls (List.flatten [[rf_o h qs (nI 0) ma S.T.2.2.1.2.1 ca S.D.2.1.2.1 na S.G.2.2.2.1.2.1 S.D.1.2.1 S.D.2.2.1 S.D.2.2.2.1 S.D.2.2.2.2 S.lost], [(qs 0, .inl (cI, 12, .inl (lI S.eb)))], [(qs 1, .inl (cI, 144, .inl (fl (gN S.lk))))], [(qs 2, .inl (cI, 144, .inl (fl (gN wt))))], [(qs 3, .inl (cZ, 144, .inl (fl (kB S.kn))))], [(qs 4, .inl (cI, 1600, .inl fR))], [(qs 5, .inl (cI, 1600, .inl fN))], [(qs 6, .inl (cJ, 1600, .inr (.inl fL)))], [(qs 7, .inl (cJ, 1600, .inr (.inl fH)))], [(qs 8, .inl (cZ, 1600, .inl (dB uf)))], [(qs 9, .inl (cI, 144, .inl (fl (sI S.T.2.1))))], [(qs 10, .inl (cI, 4000, .inl fM))], [(qs 11, .inl (cJ, 4000, .inr (.inl fC)))], [(qs 12, .inl (cI, 4000, .inl fT))], [(qs 13, .inl (cI, 8, .inl (lI S.G.1)))], [(qs 14, .inl (cI, 8, .inl S.G.2.1))], [(qs 15, .inl (cI, 96, .inl (fl (gN (rT S.G.2.2.1)))))], [(qs 16, .inl (cI, 901, .inl fD))], [(qs 17, .inl (cI, 901, .inl fX))], [(qs 18, .inl (cI, 144, .inl (fl MK)))], [(qs 19, .inl (cI, 144, .inl (fl MF)))]]) H := hP
          have hD : va_D A (List.flatten [[rf_o h qs (nI 0) ma S.T.2.2.1.2.1 ca S.D.2.1.2.1 na S.G.2.2.2.1.2.1 S.D.1.2.1 S.D.2.2.1 S.D.2.2.2.1 S.D.2.2.2.2 S.lost], [(qs 0, .inl (cI, 12, .inl (lI S.eb)))], [(qs 1, .inl (cI, 144, .inl (fl (gN S.lk))))], [(qs 2, .inl (cI, 144, .inl (fl (gN wt))))], [(qs 3, .inl (cZ, 144, .inl (fl (kB S.kn))))], [(qs 4, .inl (cI, 1600, .inl fR))], [(qs 5, .inl (cI, 1600, .inl fN))], [(qs 6, .inl (cJ, 1600, .inr (.inl fL)))], [(qs 7, .inl (cJ, 1600, .inr (.inl fH)))], [(qs 8, .inl (cZ, 1600, .inl (dB uf)))], [(qs 9, .inl (cI, 144, .inl (fl (sI S.T.2.1))))], [(qs 10, .inl (cI, 4000, .inl fM))], [(qs 11, .inl (cJ, 4000, .inr (.inl fC)))], [(qs 12, .inl (cI, 4000, .inl fT))], [(qs 13, .inl (cI, 8, .inl (lI S.G.1)))], [(qs 14, .inl (cI, 8, .inl S.G.2.1))], [(qs 15, .inl (cI, 96, .inl (fl (gN (rT S.G.2.2.1)))))], [(qs 16, .inl (cI, 901, .inl fD))], [(qs 17, .inl (cI, 901, .inl fX))], [(qs 18, .inl (cI, 144, .inl (fl MK)))], [(qs 19, .inl (cI, 144, .inl (fl MF)))]]) := hD
          refine lv_aload_n hx hb d_Ref_move_45 rfl (lv_at hl 0 rfl) ?_
          refine va_get (D := D) (ci := 9) (v := .int (nI 0)) (C := R_Ref) (T := T_Ref) (N := 32) hx hb ht in_Ref hown hK hP 0 rfl rfl 0 (by decide) (ht _ kl_Ref_72) (fun _ h9 => h9) rfl d_Ref_move_46 ?_
          refine ri_if_le hx hb (by omega) d_Ref_move_49 (tgt := 54) (by decide) (fun h116 => ?_) (fun h116 => ?_)
          · refine lv_iload_n hx hb d_Ref_move_54 rfl (lv_at hl 1 rfl) ?_
            refine ri_if_ge hx hb (by omega) d_Ref_move_55 (tgt := 62) (by decide) (fun h55 => ?_) (fun h55 => ?_)
            · refine lv_iload_n hx hb d_Ref_move_62 rfl (lv_at hl 1 rfl) ?_
              refine lv_istore_n hx hb d_Ref_move_63 rfl hl (by decide) rfl (fun ls hl => ?_)
              have hl : lv_has ls 8 [(2, .int (nI n)), (0, .ref h), (1, .int (nI n))] := hl
              refine lv_iconst (v := nI 0) hx hb d_Ref_move_64 (by decide) ?_
              refine lv_istore_n hx hb d_Ref_move_65 rfl hl (by decide) rfl (fun ls hl => ?_)
              have hl : lv_has ls 8 [(3, .int (nI 0)), (2, .int (nI n)), (0, .ref h), (1, .int (nI n))] := hl
              exact loop n 0 fC fD fX MK MF ca H locs ls (by omega) (fun i hi9 => absurd hi9 (by omega)) hC hPd hpk9 hcp9 hP hD hS (lv_sub hl [0, 1, 2, 3] rfl)
            · exact absurd h55 (by omega)
          · exact absurd h116 (by decide)
    · exact absurd h13 (by omega)
set_option maxHeartbeats 1600000 in
set_option maxRecDepth 100000 in
theorem k_Ref_move_lose (l : Launch) (D : va_G) (cI cZ cJ cG : ClassId) {h : Nat} {cd : Int32} {S : bm_S} {ws : va_W} (hR : rf_R cI cZ cJ h cd S ws) (hi : rf_i S)  : ct_I l D kls (ty4 cI cZ cJ cG) y_Ref_move ws_Ref_move (rm_ 3 77 0 0) [.ref h, .int ((-1))] (ws) (fun z u => z = nI (if S.D.2.1.2.1 = 0 then 0 else 1) ∧ rf_R cI cZ cJ h (nI 0) (bm_mlose S) u) 0 0 := by
  obtain ⟨qs, ma, ca, na, wt, fR, fN, fL, fH, uf, fM, fC, fT, fD, fX, MK, MF, rfl, hwt, hAd, hM, hC, hN, hPd⟩ := hR
  obtain ⟨hsi, heb, h00, hA9, hm9, hcp9, hnt9, hpk9, hgi⟩ := hi
  have hok := hsi.1
  have hkn9 := hsi.2.1
  have hlk9 := hsi.2.2.1
  have hma := hM.1
  refine ct_enterI (cc := b_Ref_move) (maxL := 8) (ret := (some .int)) (by decide +kernel) (Nat.le_of_ble_eq_true rfl) ?_
  intro p e s m args below meth c hx hb hml hr ht hown hlk hnm A Q hA hK hP hD hQ ls hl
  have hown : s.vm.findClass R_Ref = some m.cls := hown
  have hS : va_S A s.heap s.heap [] := va_S.rf
  have hl : lv_has ls 8 [(0, .ref h), (1, .int ((-1)))] := hl
  have hrt := hsi.2.2.2.2.1
  refine lv_aload_n hx hb d_Ref_move_0 rfl (lv_at hl 0 rfl) ?_
  refine lv_iload_n hx hb d_Ref_move_1 rfl (lv_at hl 1 rfl) ?_
  refine lv_iconst (v := (-1)) hx hb d_Ref_move_2 (by decide) ?_
  refine lv_icmp_eq hx hb d_Ref_move_3 (tgt := 20) (by decide) (fun h3 => ?_) (fun h3 => ?_)
  · refine lv_iload_n hx hb d_Ref_move_20 rfl (lv_at hl 1 rfl) ?_
    refine lv_iconst (v := (-1)) hx hb d_Ref_move_21 (by decide) ?_
    refine lv_icmp_eq hx hb d_Ref_move_22 (tgt := 37) (by decide) (fun h22 => ?_) (fun h22 => ?_)
    · refine lv_iconst (v := nI 0) hx hb d_Ref_move_37 (by decide) ?_
      refine lv_goto hx hb d_Ref_move_38 (tgt := 42) (by decide) ?_
      refine va_put (D := D) (ci := 9) (v := .int (nI 0)) (ty := .int) (C := R_Ref) (T := T_Ref) (N := 32) hx hb ht in_Ref t_Ref ok_Ref nm_Ref hown hK hP hD hS 0 rfl rfl 0 (by decide) (ht _ kl_Ref_72) (fun _ h9 => h9) rfl (by decide +kernel) rfl rfl (Nat.le_of_ble_eq_true rfl) d_Ref_move_42 (fun H locs hP hD hS => ?_)
      have hP : va_P D kls (List.flatten [[rf_o h qs (nI 0) ma S.T.2.2.1.2.1 ca S.D.2.1.2.1 na S.G.2.2.2.1.2.1 S.D.1.2.1 S.D.2.2.1 S.D.2.2.2.1 S.D.2.2.2.2 S.lost], [(qs 0, .inl (cI, 12, .inl (lI S.eb)))], [(qs 1, .inl (cI, 144, .inl (fl (gN S.lk))))], [(qs 2, .inl (cI, 144, .inl (fl (gN wt))))], [(qs 3, .inl (cZ, 144, .inl (fl (kB S.kn))))], [(qs 4, .inl (cI, 1600, .inl fR))], [(qs 5, .inl (cI, 1600, .inl fN))], [(qs 6, .inl (cJ, 1600, .inr (.inl fL)))], [(qs 7, .inl (cJ, 1600, .inr (.inl fH)))], [(qs 8, .inl (cZ, 1600, .inl (dB uf)))], [(qs 9, .inl (cI, 144, .inl (fl (sI S.T.2.1))))], [(qs 10, .inl (cI, 4000, .inl fM))], [(qs 11, .inl (cJ, 4000, .inr (.inl fC)))], [(qs 12, .inl (cI, 4000, .inl fT))], [(qs 13, .inl (cI, 8, .inl (lI S.G.1)))], [(qs 14, .inl (cI, 8, .inl S.G.2.1))], [(qs 15, .inl (cI, 96, .inl (fl (gN (rT S.G.2.2.1)))))], [(qs 16, .inl (cI, 901, .inl fD))], [(qs 17, .inl (cI, 901, .inl fX))], [(qs 18, .inl (cI, 144, .inl (fl MK)))], [(qs 19, .inl (cI, 144, .inl (fl MF)))]]) H := hP
      have hD : va_D A (List.flatten [[rf_o h qs (nI 0) ma S.T.2.2.1.2.1 ca S.D.2.1.2.1 na S.G.2.2.2.1.2.1 S.D.1.2.1 S.D.2.2.1 S.D.2.2.2.1 S.D.2.2.2.2 S.lost], [(qs 0, .inl (cI, 12, .inl (lI S.eb)))], [(qs 1, .inl (cI, 144, .inl (fl (gN S.lk))))], [(qs 2, .inl (cI, 144, .inl (fl (gN wt))))], [(qs 3, .inl (cZ, 144, .inl (fl (kB S.kn))))], [(qs 4, .inl (cI, 1600, .inl fR))], [(qs 5, .inl (cI, 1600, .inl fN))], [(qs 6, .inl (cJ, 1600, .inr (.inl fL)))], [(qs 7, .inl (cJ, 1600, .inr (.inl fH)))], [(qs 8, .inl (cZ, 1600, .inl (dB uf)))], [(qs 9, .inl (cI, 144, .inl (fl (sI S.T.2.1))))], [(qs 10, .inl (cI, 4000, .inl fM))], [(qs 11, .inl (cJ, 4000, .inr (.inl fC)))], [(qs 12, .inl (cI, 4000, .inl fT))], [(qs 13, .inl (cI, 8, .inl (lI S.G.1)))], [(qs 14, .inl (cI, 8, .inl S.G.2.1))], [(qs 15, .inl (cI, 96, .inl (fl (gN (rT S.G.2.2.1)))))], [(qs 16, .inl (cI, 901, .inl fD))], [(qs 17, .inl (cI, 901, .inl fX))], [(qs 18, .inl (cI, 144, .inl (fl MK)))], [(qs 19, .inl (cI, 144, .inl (fl MF)))]]) := hD
      refine lv_aload_n hx hb d_Ref_move_45 rfl (lv_at hl 0 rfl) ?_
      refine va_get (D := D) (ci := 9) (v := .int (nI 0)) (C := R_Ref) (T := T_Ref) (N := 32) hx hb ht in_Ref hown hK hP 0 rfl rfl 0 (by decide) (ht _ kl_Ref_72) (fun _ h9 => h9) rfl d_Ref_move_46 ?_
      refine ri_if_le hx hb (by omega) d_Ref_move_49 (tgt := 54) (by decide) (fun h103 => ?_) (fun h103 => ?_)
      · refine lv_iload_n hx hb d_Ref_move_54 rfl (lv_at hl 1 rfl) ?_
        refine lv_if_ge hx hb d_Ref_move_55 (tgt := 62) (by decide) (fun h55 => ?_) (fun h55 => ?_)
        · exact absurd h55 (by decide)
        · refine lv_iconst (v := nI 1) hx hb d_Ref_move_58 (by decide) ?_
          refine lv_goto hx hb d_Ref_move_59 (tgt := 63) (by decide) ?_
          refine lv_istore_n hx hb d_Ref_move_63 rfl hl (by decide) rfl (fun ls hl => ?_)
          have hl : lv_has ls 8 [(2, .int (nI 1)), (0, .ref h), (1, .int ((-1)))] := hl
          refine lv_iconst (v := nI 0) hx hb d_Ref_move_64 (by decide) ?_
          refine lv_istore_n hx hb d_Ref_move_65 rfl hl (by decide) rfl (fun ls hl => ?_)
          have hl : lv_has ls 8 [(3, .int (nI 0)), (2, .int (nI 1)), (0, .ref h), (1, .int ((-1)))] := hl
          refine lv_iload_n hx hb d_Ref_move_66 rfl (lv_at hl 0 rfl) ?_
          refine lv_iload_n hx hb d_Ref_move_67 rfl (lv_at hl 1 rfl) ?_
          refine ri_icmp_ge hx hb (by omega) (by omega) d_Ref_move_68 (tgt := 221) (by decide) (fun h105 => ?_) (fun h105 => ?_)
          · exact absurd h105 (by decide)
          · refine lv_aload_n hx hb d_Ref_move_71 rfl (lv_at hl 2 rfl) ?_
            refine va_get (D := D) (ci := 9) (v := .int (nI S.D.2.1.2.1)) (C := R_Ref) (T := T_Ref) (N := 32) hx hb ht in_Ref hown hK hP 0 rfl rfl 15 (by decide) (ht _ kl_Ref_175) (fun _ h9 => h9) rfl d_Ref_move_72 ?_
            refine ri_if_le hx hb (by omega) d_Ref_move_75 (tgt := 221) (by decide) (fun h75 => ?_) (fun h75 => ?_)
            · refine lv_iload_n hx hb d_Ref_move_221 rfl (lv_at hl 0 rfl) ?_
              have hgl : bm_dlose S.D = S.D := if_pos (by omega)
              exact ct_iret hQ hx hb hr hlk hP hD hS hK (by omega) (by omega) d_Ref_move_222 ⟨by rw [if_pos (by omega)], ⟨qs, ma, ca, na, wt, fR, fN, fL, fH, uf, fM, fC, fT, fD, fX, MK, MF, (by unfold bm_mlose; rw [hgl]; first | done | rfl), hwt, hAd, hM, (by show cr_R (bm_dlose S.D).1.2.1 _ _ (bm_dlose S.D).2.1; rw [hgl]; exact hC), hN, (by show pd_R _ _ (bm_dlose S.D).1; rw [hgl]; exact hPd)⟩⟩
            · refine lv_iload_n hx hb d_Ref_move_78 rfl (lv_at hl 3 rfl) ?_
              refine lv_if_lt hx hb d_Ref_move_79 (tgt := 92) (by decide) (fun h79 => ?_) (fun h79 => ?_)
              · have hcb := hC.1
                obtain ⟨pk, f, t, hp, hrow, hf9, ht9, hp1, hp2, hhp, hv⟩ := hC.2 0 (by omega)
                rw [Nat.add_zero, Nat.mod_eq_of_lt hcb] at hv
                have hL := tu32 (S.D.2.1.2.2 0 3)
                have hpk7 : pk ≤ 900 := by omega
                have he63 := enc63 (L := (S.D.2.1.2.2 0 3).toUInt32.toNat) hpk7 hf9 ht9 hhp hL
                refine lv_aload_n hx hb d_Ref_move_92 rfl (lv_at hl 2 rfl) ?_
                refine va_get (D := D) (ci := 9) (v := .ref (qs 11)) (C := R_Ref) (T := T_Ref) (N := 32) hx hb ht in_Ref hown hK hP 0 rfl rfl 16 (by decide) (ht _ kl_Ref_45) (fun _ h9 => h9) rfl d_Ref_move_93 ?_
                refine lv_aload_n hx hb d_Ref_move_96 rfl (lv_at hl 2 rfl) ?_
                refine va_get (D := D) (ci := 9) (v := .int (nI ca)) (C := R_Ref) (T := T_Ref) (N := 32) hx hb ht in_Ref hown hK hP 0 rfl rfl 14 (by decide) (ht _ kl_Ref_172) (fun _ h9 => h9) rfl d_Ref_move_97 ?_
                refine ri_lald hx hb hK hP 12 2 rfl rfl (j := ca) (by omega) (by omega) d_Ref_move_100 ?_
                refine W.eq (g2 := F0 m 101 ls [.long (lN (pk * 2 ^ 48 + f * 2 ^ 44 + t * 2 ^ 40 + hp * 2 ^ 32 + (S.D.2.1.2.2 0 3).toUInt32.toNat))]) (congrArg (fun z => F0 m 101 ls (.long z :: [])) (hv)) ?_
                refine lv_lstore hx hb d_Ref_move_101 hl (by decide) rfl (fun ls hl => ?_)
                have hl : lv_has ls 8 [(4, .long (lN (pk * 2 ^ 48 + f * 2 ^ 44 + t * 2 ^ 40 + hp * 2 ^ 32 + (S.D.2.1.2.2 0 3).toUInt32.toNat))), (3, .int (nI 0)), (2, .int (nI 1)), (0, .ref h), (1, .int ((-1)))] := hl
                refine lv_aload_n hx hb d_Ref_move_103 rfl (lv_at hl 3 rfl) ?_
                refine lv_aload_n hx hb d_Ref_move_104 rfl (lv_at hl 3 rfl) ?_
                refine va_get (D := D) (ci := 9) (v := .int (nI ca)) (C := R_Ref) (T := T_Ref) (N := 32) hx hb ht in_Ref hown hK hP 0 rfl rfl 14 (by decide) (ht _ kl_Ref_172) (fun _ h9 => h9) rfl d_Ref_move_105 ?_
                refine lv_iconst (v := nI 1) hx hb d_Ref_move_108 (by decide) ?_
                refine ri_iadd hx hb d_Ref_move_109 ?_
                refine lv_sipush (v := nI 4000) hx hb d_Ref_move_110 (by decide) ?_
                refine ri_irem2 hx hb (by omega) (by omega) (by omega) d_Ref_move_113 ?_
                refine va_put (D := D) (ci := 9) (v := .int (nI ((ca + 1) % 4000))) (ty := .int) (C := R_Ref) (T := T_Ref) (N := 32) hx hb ht in_Ref t_Ref ok_Ref nm_Ref hown hK hP hD hS 0 rfl rfl 14 (by decide) (ht _ kl_Ref_172) (fun _ h9 => h9) rfl (by decide +kernel) rfl rfl (Nat.le_of_ble_eq_true rfl) d_Ref_move_114 (fun H locs hP hD hS => ?_)
                have hP : va_P D kls (List.flatten [[rf_o h qs (nI 0) ma S.T.2.2.1.2.1 ((ca + 1) % 4000) S.D.2.1.2.1 na S.G.2.2.2.1.2.1 S.D.1.2.1 S.D.2.2.1 S.D.2.2.2.1 S.D.2.2.2.2 S.lost], [(qs 0, .inl (cI, 12, .inl (lI S.eb)))], [(qs 1, .inl (cI, 144, .inl (fl (gN S.lk))))], [(qs 2, .inl (cI, 144, .inl (fl (gN wt))))], [(qs 3, .inl (cZ, 144, .inl (fl (kB S.kn))))], [(qs 4, .inl (cI, 1600, .inl fR))], [(qs 5, .inl (cI, 1600, .inl fN))], [(qs 6, .inl (cJ, 1600, .inr (.inl fL)))], [(qs 7, .inl (cJ, 1600, .inr (.inl fH)))], [(qs 8, .inl (cZ, 1600, .inl (dB uf)))], [(qs 9, .inl (cI, 144, .inl (fl (sI S.T.2.1))))], [(qs 10, .inl (cI, 4000, .inl fM))], [(qs 11, .inl (cJ, 4000, .inr (.inl fC)))], [(qs 12, .inl (cI, 4000, .inl fT))], [(qs 13, .inl (cI, 8, .inl (lI S.G.1)))], [(qs 14, .inl (cI, 8, .inl S.G.2.1))], [(qs 15, .inl (cI, 96, .inl (fl (gN (rT S.G.2.2.1)))))], [(qs 16, .inl (cI, 901, .inl fD))], [(qs 17, .inl (cI, 901, .inl fX))], [(qs 18, .inl (cI, 144, .inl (fl MK)))], [(qs 19, .inl (cI, 144, .inl (fl MF)))]]) H := hP
                have hD : va_D A (List.flatten [[rf_o h qs (nI 0) ma S.T.2.2.1.2.1 ((ca + 1) % 4000) S.D.2.1.2.1 na S.G.2.2.2.1.2.1 S.D.1.2.1 S.D.2.2.1 S.D.2.2.2.1 S.D.2.2.2.2 S.lost], [(qs 0, .inl (cI, 12, .inl (lI S.eb)))], [(qs 1, .inl (cI, 144, .inl (fl (gN S.lk))))], [(qs 2, .inl (cI, 144, .inl (fl (gN wt))))], [(qs 3, .inl (cZ, 144, .inl (fl (kB S.kn))))], [(qs 4, .inl (cI, 1600, .inl fR))], [(qs 5, .inl (cI, 1600, .inl fN))], [(qs 6, .inl (cJ, 1600, .inr (.inl fL)))], [(qs 7, .inl (cJ, 1600, .inr (.inl fH)))], [(qs 8, .inl (cZ, 1600, .inl (dB uf)))], [(qs 9, .inl (cI, 144, .inl (fl (sI S.T.2.1))))], [(qs 10, .inl (cI, 4000, .inl fM))], [(qs 11, .inl (cJ, 4000, .inr (.inl fC)))], [(qs 12, .inl (cI, 4000, .inl fT))], [(qs 13, .inl (cI, 8, .inl (lI S.G.1)))], [(qs 14, .inl (cI, 8, .inl S.G.2.1))], [(qs 15, .inl (cI, 96, .inl (fl (gN (rT S.G.2.2.1)))))], [(qs 16, .inl (cI, 901, .inl fD))], [(qs 17, .inl (cI, 901, .inl fX))], [(qs 18, .inl (cI, 144, .inl (fl MK)))], [(qs 19, .inl (cI, 144, .inl (fl MF)))]]) := hD
                refine lv_aload_n hx hb d_Ref_move_117 rfl (lv_at hl 3 rfl) ?_
                refine lv_dup hx hb d_Ref_move_118 rfl ?_
                refine va_get (D := D) (ci := 9) (v := .int (nI S.D.2.1.2.1)) (C := R_Ref) (T := T_Ref) (N := 32) hx hb ht in_Ref hown hK hP 0 rfl rfl 15 (by decide) (ht _ kl_Ref_175) (fun _ h9 => h9) rfl d_Ref_move_119 ?_
                refine lv_iconst (v := nI 1) hx hb d_Ref_move_122 (by decide) ?_
                refine ri_isub hx hb (by omega) d_Ref_move_123 ?_
                refine va_put (D := D) (ci := 9) (v := .int (nI (S.D.2.1.2.1 - 1))) (ty := .int) (C := R_Ref) (T := T_Ref) (N := 32) hx hb ht in_Ref t_Ref ok_Ref nm_Ref hown hK hP hD hS 0 rfl rfl 15 (by decide) (ht _ kl_Ref_175) (fun _ h9 => h9) rfl (by decide +kernel) rfl rfl (Nat.le_of_ble_eq_true rfl) d_Ref_move_124 (fun H locs hP hD hS => ?_)
                have hP : va_P D kls (List.flatten [[rf_o h qs (nI 0) ma S.T.2.2.1.2.1 ((ca + 1) % 4000) (S.D.2.1.2.1 - 1) na S.G.2.2.2.1.2.1 S.D.1.2.1 S.D.2.2.1 S.D.2.2.2.1 S.D.2.2.2.2 S.lost], [(qs 0, .inl (cI, 12, .inl (lI S.eb)))], [(qs 1, .inl (cI, 144, .inl (fl (gN S.lk))))], [(qs 2, .inl (cI, 144, .inl (fl (gN wt))))], [(qs 3, .inl (cZ, 144, .inl (fl (kB S.kn))))], [(qs 4, .inl (cI, 1600, .inl fR))], [(qs 5, .inl (cI, 1600, .inl fN))], [(qs 6, .inl (cJ, 1600, .inr (.inl fL)))], [(qs 7, .inl (cJ, 1600, .inr (.inl fH)))], [(qs 8, .inl (cZ, 1600, .inl (dB uf)))], [(qs 9, .inl (cI, 144, .inl (fl (sI S.T.2.1))))], [(qs 10, .inl (cI, 4000, .inl fM))], [(qs 11, .inl (cJ, 4000, .inr (.inl fC)))], [(qs 12, .inl (cI, 4000, .inl fT))], [(qs 13, .inl (cI, 8, .inl (lI S.G.1)))], [(qs 14, .inl (cI, 8, .inl S.G.2.1))], [(qs 15, .inl (cI, 96, .inl (fl (gN (rT S.G.2.2.1)))))], [(qs 16, .inl (cI, 901, .inl fD))], [(qs 17, .inl (cI, 901, .inl fX))], [(qs 18, .inl (cI, 144, .inl (fl MK)))], [(qs 19, .inl (cI, 144, .inl (fl MF)))]]) H := hP
                have hD : va_D A (List.flatten [[rf_o h qs (nI 0) ma S.T.2.2.1.2.1 ((ca + 1) % 4000) (S.D.2.1.2.1 - 1) na S.G.2.2.2.1.2.1 S.D.1.2.1 S.D.2.2.1 S.D.2.2.2.1 S.D.2.2.2.2 S.lost], [(qs 0, .inl (cI, 12, .inl (lI S.eb)))], [(qs 1, .inl (cI, 144, .inl (fl (gN S.lk))))], [(qs 2, .inl (cI, 144, .inl (fl (gN wt))))], [(qs 3, .inl (cZ, 144, .inl (fl (kB S.kn))))], [(qs 4, .inl (cI, 1600, .inl fR))], [(qs 5, .inl (cI, 1600, .inl fN))], [(qs 6, .inl (cJ, 1600, .inr (.inl fL)))], [(qs 7, .inl (cJ, 1600, .inr (.inl fH)))], [(qs 8, .inl (cZ, 1600, .inl (dB uf)))], [(qs 9, .inl (cI, 144, .inl (fl (sI S.T.2.1))))], [(qs 10, .inl (cI, 4000, .inl fM))], [(qs 11, .inl (cJ, 4000, .inr (.inl fC)))], [(qs 12, .inl (cI, 4000, .inl fT))], [(qs 13, .inl (cI, 8, .inl (lI S.G.1)))], [(qs 14, .inl (cI, 8, .inl S.G.2.1))], [(qs 15, .inl (cI, 96, .inl (fl (gN (rT S.G.2.2.1)))))], [(qs 16, .inl (cI, 901, .inl fD))], [(qs 17, .inl (cI, 901, .inl fX))], [(qs 18, .inl (cI, 144, .inl (fl MK)))], [(qs 19, .inl (cI, 144, .inl (fl MF)))]]) := hD
                refine ri_iinc hx hb d_Ref_move_127 hl (k := 1) rfl (by decide) rfl (fun ls hl => ?_)
                have hl : lv_has ls 8 [(3, .int (nI (0 + 1))), (4, .long (lN (pk * 2 ^ 48 + f * 2 ^ 44 + t * 2 ^ 40 + hp * 2 ^ 32 + (S.D.2.1.2.2 0 3).toUInt32.toNat))), (2, .int (nI 1)), (0, .ref h), (1, .int ((-1)))] := hl
                have hl : lv_has ls 8 [(3, .int (nI 1)), (4, .long (lN (pk * 2 ^ 48 + f * 2 ^ 44 + t * 2 ^ 40 + hp * 2 ^ 32 + (S.D.2.1.2.2 0 3).toUInt32.toNat))), (2, .int (nI 1)), (0, .ref h), (1, .int ((-1)))] := hl
                refine lv_lload hx hb d_Ref_move_130 (lv_at hl 1 rfl) ?_
                refine lv_bipush (v := nI 44) hx hb d_Ref_move_132 (by decide) ?_
                refine ri_lshr2 hx hb he63 (by decide) d_Ref_move_134 ?_
                refine lv_ldc2 (v := lN 15) hx hb hown (ht _ kl_Ref_199) d_Ref_move_135 ?_
                refine ri_land2 hx hb d_Ref_move_138 ?_
                refine lv_l2i (v := nI (((pk * 2 ^ 48 + f * 2 ^ 44 + t * 2 ^ 40 + hp * 2 ^ 32 + (S.D.2.1.2.2 0 3).toUInt32.toNat) / 2 ^ 44) &&& 15)) hx hb d_Ref_move_139 (lN_i _) ?_
                refine W.eq (g2 := F0 m 140 ls [.int (nI f)]) (congrArg (fun z => F0 m 140 ls (.int z :: [])) (congrArg nI (cp_f hf9 ht9 hhp hL))) ?_
                refine lv_istore hx hb d_Ref_move_140 hl (by decide) rfl (fun ls hl => ?_)
                have hl : lv_has ls 8 [(6, .int (nI f)), (3, .int (nI 1)), (4, .long (lN (pk * 2 ^ 48 + f * 2 ^ 44 + t * 2 ^ 40 + hp * 2 ^ 32 + (S.D.2.1.2.2 0 3).toUInt32.toNat))), (2, .int (nI 1)), (0, .ref h), (1, .int ((-1)))] := hl
                refine lv_lload hx hb d_Ref_move_142 (lv_at hl 2 rfl) ?_
                refine lv_bipush (v := nI 40) hx hb d_Ref_move_144 (by decide) ?_
                refine ri_lshr2 hx hb he63 (by decide) d_Ref_move_146 ?_
                refine lv_ldc2 (v := lN 15) hx hb hown (ht _ kl_Ref_199) d_Ref_move_147 ?_
                refine ri_land2 hx hb d_Ref_move_150 ?_
                refine lv_l2i (v := nI (((pk * 2 ^ 48 + f * 2 ^ 44 + t * 2 ^ 40 + hp * 2 ^ 32 + (S.D.2.1.2.2 0 3).toUInt32.toNat) / 2 ^ 40) &&& 15)) hx hb d_Ref_move_151 (lN_i _) ?_
                refine W.eq (g2 := F0 m 152 ls [.int (nI t)]) (congrArg (fun z => F0 m 152 ls (.int z :: [])) (congrArg nI (cp_t hf9 ht9 hhp hL))) ?_
                refine lv_istore hx hb d_Ref_move_152 hl (by decide) rfl (fun ls hl => ?_)
                have hl : lv_has ls 8 [(7, .int (nI t)), (6, .int (nI f)), (3, .int (nI 1)), (4, .long (lN (pk * 2 ^ 48 + f * 2 ^ 44 + t * 2 ^ 40 + hp * 2 ^ 32 + (S.D.2.1.2.2 0 3).toUInt32.toNat))), (2, .int (nI 1)), (0, .ref h), (1, .int ((-1)))] := hl
                refine lv_iload_n hx hb d_Ref_move_154 rfl (lv_at hl 6 rfl) ?_
                refine lv_if_lt hx hb d_Ref_move_155 (tgt := 175) (by decide) (fun h155 => ?_) (fun h155 => ?_)
                · refine lv_aload_n hx hb d_Ref_move_175 rfl (lv_at hl 5 rfl) ?_
                  refine lv_dup hx hb d_Ref_move_176 rfl ?_
                  refine va_get (D := D) (ci := 9) (v := .int S.D.2.2.2.2) (C := R_Ref) (T := T_Ref) (N := 32) hx hb ht in_Ref hown hK hP 0 rfl rfl 28 (by decide) (ht _ kl_Ref_180) (fun _ h9 => h9) rfl d_Ref_move_177 ?_
                  refine lv_lload hx hb d_Ref_move_180 (lv_at hl 3 rfl) ?_
                  refine lv_l2i (v := nI (pk * 2 ^ 48 + f * 2 ^ 44 + t * 2 ^ 40 + hp * 2 ^ 32 + (S.D.2.1.2.2 0 3).toUInt32.toNat)) hx hb d_Ref_move_182 (lN_i _) ?_
                  refine W.eq (g2 := F0 m 183 ls [.int (S.D.2.1.2.2 0 3), .int S.D.2.2.2.2, .ref h]) (congrArg (fun z => F0 m 183 ls (.int z :: [.int S.D.2.2.2.2, .ref h])) (cp_s2 _)) ?_
                  refine ct_rdS (As := [.int (S.D.2.1.2.2 0 3)]) (rest := [.int S.D.2.2.2.2, .ref h]) ⟨hx, hb, hml, hown, ht⟩ (k_Ref_ones l D cI cZ cJ cG (S.D.2.1.2.2 0 3)) (cb_S ht kc_Ref_ones kl_Ref_183 kn_Ref ki_Ref_ones hd_Ref_ones ⟨Nat.le_of_ble_eq_true rfl, Nat.le_of_ble_eq_true rfl⟩) (wd_ct (Bs := [[rf_o h qs (nI 0) ma S.T.2.2.1.2.1 ((ca + 1) % 4000) (S.D.2.1.2.1 - 1) na S.G.2.2.2.1.2.1 S.D.1.2.1 S.D.2.2.1 S.D.2.2.2.1 S.D.2.2.2.2 S.lost], [(qs 0, .inl (cI, 12, .inl (lI S.eb)))], [(qs 1, .inl (cI, 144, .inl (fl (gN S.lk))))], [(qs 2, .inl (cI, 144, .inl (fl (gN wt))))], [(qs 3, .inl (cZ, 144, .inl (fl (kB S.kn))))], [(qs 4, .inl (cI, 1600, .inl fR))], [(qs 5, .inl (cI, 1600, .inl fN))], [(qs 6, .inl (cJ, 1600, .inr (.inl fL)))], [(qs 7, .inl (cJ, 1600, .inr (.inl fH)))], [(qs 8, .inl (cZ, 1600, .inl (dB uf)))], [(qs 9, .inl (cI, 144, .inl (fl (sI S.T.2.1))))], [(qs 10, .inl (cI, 4000, .inl fM))], [(qs 11, .inl (cJ, 4000, .inr (.inl fC)))], [(qs 12, .inl (cI, 4000, .inl fT))], [(qs 13, .inl (cI, 8, .inl (lI S.G.1)))], [(qs 14, .inl (cI, 8, .inl S.G.2.1))], [(qs 15, .inl (cI, 96, .inl (fl (gN (rT S.G.2.2.1)))))], [(qs 16, .inl (cI, 901, .inl fD))], [(qs 17, .inl (cI, 901, .inl fX))], [(qs 18, .inl (cI, 144, .inl (fl MK)))], [(qs 19, .inl (cI, 144, .inl (fl MF)))]]) 21 rfl [] [0, 1, 2, 3, 4, 5, 6, 7, 8, 9, 10, 11, 12, 13, 14, 15, 16, 17, 18, 19, 20] (by decide) rfl) hK hP hD hS hA rfl hl.1 rfl (Nat.le_of_ble_eq_true rfl) ⟨(show 0 + 0 ≤ 0 by omega), (show 0 + 0 ≤ 0 by omega)⟩ d_Ref_move_183 (fun rhr110 H locs hr110 hP hD hS => ?_)
                  have hz109 := hr110
                  rw [hz109]
                  refine lv_iadd hx hb d_Ref_move_186 ?_
                  refine va_put (D := D) (ci := 9) (v := .int (S.D.2.2.2.2 + (bm_pop (S.D.2.1.2.2 0 3) 32))) (ty := .int) (C := R_Ref) (T := T_Ref) (N := 32) hx hb ht in_Ref t_Ref ok_Ref nm_Ref hown hK hP hD hS 0 rfl rfl 28 (by decide) (ht _ kl_Ref_180) (fun _ h9 => h9) rfl (by decide +kernel) rfl rfl (Nat.le_of_ble_eq_true rfl) d_Ref_move_187 (fun H locs hP hD hS => ?_)
                  have hP : va_P D kls (List.flatten [[rf_o h qs (nI 0) ma S.T.2.2.1.2.1 ((ca + 1) % 4000) (S.D.2.1.2.1 - 1) na S.G.2.2.2.1.2.1 S.D.1.2.1 S.D.2.2.1 S.D.2.2.2.1 (S.D.2.2.2.2 + (bm_pop (S.D.2.1.2.2 0 3) 32)) S.lost], [(qs 0, .inl (cI, 12, .inl (lI S.eb)))], [(qs 1, .inl (cI, 144, .inl (fl (gN S.lk))))], [(qs 2, .inl (cI, 144, .inl (fl (gN wt))))], [(qs 3, .inl (cZ, 144, .inl (fl (kB S.kn))))], [(qs 4, .inl (cI, 1600, .inl fR))], [(qs 5, .inl (cI, 1600, .inl fN))], [(qs 6, .inl (cJ, 1600, .inr (.inl fL)))], [(qs 7, .inl (cJ, 1600, .inr (.inl fH)))], [(qs 8, .inl (cZ, 1600, .inl (dB uf)))], [(qs 9, .inl (cI, 144, .inl (fl (sI S.T.2.1))))], [(qs 10, .inl (cI, 4000, .inl fM))], [(qs 11, .inl (cJ, 4000, .inr (.inl fC)))], [(qs 12, .inl (cI, 4000, .inl fT))], [(qs 13, .inl (cI, 8, .inl (lI S.G.1)))], [(qs 14, .inl (cI, 8, .inl S.G.2.1))], [(qs 15, .inl (cI, 96, .inl (fl (gN (rT S.G.2.2.1)))))], [(qs 16, .inl (cI, 901, .inl fD))], [(qs 17, .inl (cI, 901, .inl fX))], [(qs 18, .inl (cI, 144, .inl (fl MK)))], [(qs 19, .inl (cI, 144, .inl (fl MF)))]]) H := hP
                  have hD : va_D A (List.flatten [[rf_o h qs (nI 0) ma S.T.2.2.1.2.1 ((ca + 1) % 4000) (S.D.2.1.2.1 - 1) na S.G.2.2.2.1.2.1 S.D.1.2.1 S.D.2.2.1 S.D.2.2.2.1 (S.D.2.2.2.2 + (bm_pop (S.D.2.1.2.2 0 3) 32)) S.lost], [(qs 0, .inl (cI, 12, .inl (lI S.eb)))], [(qs 1, .inl (cI, 144, .inl (fl (gN S.lk))))], [(qs 2, .inl (cI, 144, .inl (fl (gN wt))))], [(qs 3, .inl (cZ, 144, .inl (fl (kB S.kn))))], [(qs 4, .inl (cI, 1600, .inl fR))], [(qs 5, .inl (cI, 1600, .inl fN))], [(qs 6, .inl (cJ, 1600, .inr (.inl fL)))], [(qs 7, .inl (cJ, 1600, .inr (.inl fH)))], [(qs 8, .inl (cZ, 1600, .inl (dB uf)))], [(qs 9, .inl (cI, 144, .inl (fl (sI S.T.2.1))))], [(qs 10, .inl (cI, 4000, .inl fM))], [(qs 11, .inl (cJ, 4000, .inr (.inl fC)))], [(qs 12, .inl (cI, 4000, .inl fT))], [(qs 13, .inl (cI, 8, .inl (lI S.G.1)))], [(qs 14, .inl (cI, 8, .inl S.G.2.1))], [(qs 15, .inl (cI, 96, .inl (fl (gN (rT S.G.2.2.1)))))], [(qs 16, .inl (cI, 901, .inl fD))], [(qs 17, .inl (cI, 901, .inl fX))], [(qs 18, .inl (cI, 144, .inl (fl MK)))], [(qs 19, .inl (cI, 144, .inl (fl MF)))]]) := hD
                  refine lv_goto hx hb d_Ref_move_190 (tgt := 218) (by decide) ?_
                  refine lv_goto hx hb d_Ref_move_218 (tgt := 66) (by decide) ?_
                  refine lv_iload_n hx hb d_Ref_move_66 rfl (lv_at hl 2 rfl) ?_
                  refine lv_iload_n hx hb d_Ref_move_67 rfl (lv_at hl 4 rfl) ?_
                  refine ri_icmp_ge hx hb (by omega) (by omega) d_Ref_move_68 (tgt := 221) (by decide) (fun h111 => ?_) (fun h111 => ?_)
                  · refine lv_iload_n hx hb d_Ref_move_221 rfl (lv_at hl 2 rfl) ?_
                    have hgl : bm_dlose S.D = bm_loses (S.D.2.1.2.2 0 3) (bm_dropD S.D) := if_neg (by omega)
                    exact ct_iret hQ hx hb hr hlk hP hD hS hK (by omega) (by omega) d_Ref_move_222 ⟨by rw [if_neg (by omega)], ⟨qs, ma, ((ca + 1) % 4000), na, wt, fR, fN, fL, fH, uf, fM, fC, fT, fD, fX, MK, MF, (by unfold bm_mlose; rw [hgl]; first | done | rfl), hwt, hAd, hM, (by show cr_R (bm_dlose S.D).1.2.1 _ _ (bm_dlose S.D).2.1; rw [hgl]; exact cr_drop hC), hN, (by show pd_R _ _ (bm_dlose S.D).1; rw [hgl]; exact hPd)⟩⟩
                  · exact absurd h111 (by decide)
                · exact absurd h155 (by decide)
              · exact absurd h79 (by decide)
      · exact absurd h103 (by decide)
    · exact absurd h22 (fun z => z rfl)
  · exact absurd h3 (fun z => z rfl)
set_option maxHeartbeats 1600000 in
set_option maxRecDepth 100000 in
theorem n_Ref_move_room (l : Launch) (D : va_G) (cI cZ cJ cG : ClassId) {h : Nat} {cd : Int32} {S : bm_S} {ws : va_W} (hR : rf_R cI cZ cJ h cd S ws) (hi : rf_i S) (x : Int32) (hm1 : x ≠ -1) (hm2 : 3900 ≤ S.D.2.1.2.1) : ct_I l D kls (ty4 cI cZ cJ cG) y_Ref_move ws_Ref_move (rm_ 3 77 0 0) [.ref h, .int x] (ws) (fun z u => rf_R cI cZ cJ h (nI 1) S u) 0 0 := by
  obtain ⟨qs, ma, ca, na, wt, fR, fN, fL, fH, uf, fM, fC, fT, fD, fX, MK, MF, rfl, hwt, hAd, hM, hC, hN, hPd⟩ := hR
  obtain ⟨hsi, heb, h00, hA9, hm9, hcp9, hnt9, hpk9, hgi⟩ := hi
  have hok := hsi.1
  have hkn9 := hsi.2.1
  have hlk9 := hsi.2.2.1
  have hma := hM.1
  refine ct_enterI (cc := b_Ref_move) (maxL := 8) (ret := (some .int)) (by decide +kernel) (Nat.le_of_ble_eq_true rfl) ?_
  intro p e s m args below meth c hx hb hml hr ht hown hlk hnm A Q hA hK hP hD hQ ls hl
  have hown : s.vm.findClass R_Ref = some m.cls := hown
  have hS : va_S A s.heap s.heap [] := va_S.rf
  have hl : lv_has ls 8 [(0, .ref h), (1, .int x)] := hl
  have hrt := hsi.2.2.2.2.1
  refine lv_aload_n hx hb d_Ref_move_0 rfl (lv_at hl 0 rfl) ?_
  refine lv_iload_n hx hb d_Ref_move_1 rfl (lv_at hl 1 rfl) ?_
  refine lv_iconst (v := (-1)) hx hb d_Ref_move_2 (by decide) ?_
  refine lv_icmp_eq hx hb d_Ref_move_3 (tgt := 20) (by decide) (fun h3 => ?_) (fun h3 => ?_)
  · exact absurd h3 (hm1)
  · refine lv_aload_n hx hb d_Ref_move_6 rfl (lv_at hl 0 rfl) ?_
    refine va_get (D := D) (ci := 9) (v := .int (nI S.D.2.1.2.1)) (C := R_Ref) (T := T_Ref) (N := 32) hx hb ht in_Ref hown hK hP 0 rfl rfl 15 (by decide) (ht _ kl_Ref_175) (fun _ h9 => h9) rfl d_Ref_move_7 ?_
    refine lv_sipush (v := nI 3900) hx hb d_Ref_move_10 (by decide) ?_
    refine ri_icmp_lt hx hb (by omega) (by omega) d_Ref_move_13 (tgt := 20) (by decide) (fun h13 => ?_) (fun h13 => ?_)
    · exact absurd h13 (by omega)
    · refine lv_iconst (v := nI 1) hx hb d_Ref_move_16 (by decide) ?_
      refine lv_goto hx hb d_Ref_move_17 (tgt := 42) (by decide) ?_
      refine va_put (D := D) (ci := 9) (v := .int (nI 1)) (ty := .int) (C := R_Ref) (T := T_Ref) (N := 32) hx hb ht in_Ref t_Ref ok_Ref nm_Ref hown hK hP hD hS 0 rfl rfl 0 (by decide) (ht _ kl_Ref_72) (fun _ h9 => h9) rfl (by decide +kernel) rfl rfl (Nat.le_of_ble_eq_true rfl) d_Ref_move_42 (fun H locs hP hD hS => ?_)
      have hP : va_P D kls (List.flatten [[rf_o h qs (nI 1) ma S.T.2.2.1.2.1 ca S.D.2.1.2.1 na S.G.2.2.2.1.2.1 S.D.1.2.1 S.D.2.2.1 S.D.2.2.2.1 S.D.2.2.2.2 S.lost], [(qs 0, .inl (cI, 12, .inl (lI S.eb)))], [(qs 1, .inl (cI, 144, .inl (fl (gN S.lk))))], [(qs 2, .inl (cI, 144, .inl (fl (gN wt))))], [(qs 3, .inl (cZ, 144, .inl (fl (kB S.kn))))], [(qs 4, .inl (cI, 1600, .inl fR))], [(qs 5, .inl (cI, 1600, .inl fN))], [(qs 6, .inl (cJ, 1600, .inr (.inl fL)))], [(qs 7, .inl (cJ, 1600, .inr (.inl fH)))], [(qs 8, .inl (cZ, 1600, .inl (dB uf)))], [(qs 9, .inl (cI, 144, .inl (fl (sI S.T.2.1))))], [(qs 10, .inl (cI, 4000, .inl fM))], [(qs 11, .inl (cJ, 4000, .inr (.inl fC)))], [(qs 12, .inl (cI, 4000, .inl fT))], [(qs 13, .inl (cI, 8, .inl (lI S.G.1)))], [(qs 14, .inl (cI, 8, .inl S.G.2.1))], [(qs 15, .inl (cI, 96, .inl (fl (gN (rT S.G.2.2.1)))))], [(qs 16, .inl (cI, 901, .inl fD))], [(qs 17, .inl (cI, 901, .inl fX))], [(qs 18, .inl (cI, 144, .inl (fl MK)))], [(qs 19, .inl (cI, 144, .inl (fl MF)))]]) H := hP
      have hD : va_D A (List.flatten [[rf_o h qs (nI 1) ma S.T.2.2.1.2.1 ca S.D.2.1.2.1 na S.G.2.2.2.1.2.1 S.D.1.2.1 S.D.2.2.1 S.D.2.2.2.1 S.D.2.2.2.2 S.lost], [(qs 0, .inl (cI, 12, .inl (lI S.eb)))], [(qs 1, .inl (cI, 144, .inl (fl (gN S.lk))))], [(qs 2, .inl (cI, 144, .inl (fl (gN wt))))], [(qs 3, .inl (cZ, 144, .inl (fl (kB S.kn))))], [(qs 4, .inl (cI, 1600, .inl fR))], [(qs 5, .inl (cI, 1600, .inl fN))], [(qs 6, .inl (cJ, 1600, .inr (.inl fL)))], [(qs 7, .inl (cJ, 1600, .inr (.inl fH)))], [(qs 8, .inl (cZ, 1600, .inl (dB uf)))], [(qs 9, .inl (cI, 144, .inl (fl (sI S.T.2.1))))], [(qs 10, .inl (cI, 4000, .inl fM))], [(qs 11, .inl (cJ, 4000, .inr (.inl fC)))], [(qs 12, .inl (cI, 4000, .inl fT))], [(qs 13, .inl (cI, 8, .inl (lI S.G.1)))], [(qs 14, .inl (cI, 8, .inl S.G.2.1))], [(qs 15, .inl (cI, 96, .inl (fl (gN (rT S.G.2.2.1)))))], [(qs 16, .inl (cI, 901, .inl fD))], [(qs 17, .inl (cI, 901, .inl fX))], [(qs 18, .inl (cI, 144, .inl (fl MK)))], [(qs 19, .inl (cI, 144, .inl (fl MF)))]]) := hD
      refine lv_aload_n hx hb d_Ref_move_45 rfl (lv_at hl 0 rfl) ?_
      refine va_get (D := D) (ci := 9) (v := .int (nI 1)) (C := R_Ref) (T := T_Ref) (N := 32) hx hb ht in_Ref hown hK hP 0 rfl rfl 0 (by decide) (ht _ kl_Ref_72) (fun _ h9 => h9) rfl d_Ref_move_46 ?_
      refine ri_if_le hx hb (by omega) d_Ref_move_49 (tgt := 54) (by decide) (fun h103 => ?_) (fun h103 => ?_)
      · exact absurd h103 (by decide)
      · refine lv_iconst (v := nI 0) hx hb d_Ref_move_52 (by decide) ?_
        exact ct_iret hQ hx hb hr hlk hP hD hS hK (by omega) (by omega) d_Ref_move_53 (⟨qs, ma, ca, na, wt, fR, fN, fL, fH, uf, fM, fC, fT, fD, fX, MK, MF, rfl, hwt, hAd, hM, hC, hN, hPd⟩)
set_option maxHeartbeats 1600000 in
set_option maxRecDepth 100000 in
theorem n_Ref_move (l : Launch) (D : va_G) (cI cZ cJ cG : ClassId) {h : Nat} {cd : Int32} {S : bm_S} {ws : va_W} (hR : rf_R cI cZ cJ h cd S ws) (hi : rf_i S) (x : Int32) (hm1 : x ≠ -1) (hm2 : S.D.2.1.2.1 < 3900) (hno : rg 1 1001 x = false) : ct_I l D kls (ty4 cI cZ cJ cG) y_Ref_move ws_Ref_move (rm_ 3 77 0 0) [.ref h, .int x] (ws) (fun z u => rf_R cI cZ cJ h (nI 2) S u) 0 0 := by
  obtain ⟨qs, ma, ca, na, wt, fR, fN, fL, fH, uf, fM, fC, fT, fD, fX, MK, MF, rfl, hwt, hAd, hM, hC, hN, hPd⟩ := hR
  obtain ⟨hsi, heb, h00, hA9, hm9, hcp9, hnt9, hpk9, hgi⟩ := hi
  have hok := hsi.1
  have hkn9 := hsi.2.1
  have hlk9 := hsi.2.2.1
  have hma := hM.1
  refine ct_enterI (cc := b_Ref_move) (maxL := 8) (ret := (some .int)) (by decide +kernel) (Nat.le_of_ble_eq_true rfl) ?_
  intro p e s m args below meth c hx hb hml hr ht hown hlk hnm A Q hA hK hP hD hQ ls hl
  have hown : s.vm.findClass R_Ref = some m.cls := hown
  have hS : va_S A s.heap s.heap [] := va_S.rf
  have hl : lv_has ls 8 [(0, .ref h), (1, .int x)] := hl
  have hrt := hsi.2.2.2.2.1
  refine lv_aload_n hx hb d_Ref_move_0 rfl (lv_at hl 0 rfl) ?_
  refine lv_iload_n hx hb d_Ref_move_1 rfl (lv_at hl 1 rfl) ?_
  refine lv_iconst (v := (-1)) hx hb d_Ref_move_2 (by decide) ?_
  refine lv_icmp_eq hx hb d_Ref_move_3 (tgt := 20) (by decide) (fun h3 => ?_) (fun h3 => ?_)
  · exact absurd h3 (hm1)
  · refine lv_aload_n hx hb d_Ref_move_6 rfl (lv_at hl 0 rfl) ?_
    refine va_get (D := D) (ci := 9) (v := .int (nI S.D.2.1.2.1)) (C := R_Ref) (T := T_Ref) (N := 32) hx hb ht in_Ref hown hK hP 0 rfl rfl 15 (by decide) (ht _ kl_Ref_175) (fun _ h9 => h9) rfl d_Ref_move_7 ?_
    refine lv_sipush (v := nI 3900) hx hb d_Ref_move_10 (by decide) ?_
    refine ri_icmp_lt hx hb (by omega) (by omega) d_Ref_move_13 (tgt := 20) (by decide) (fun h13 => ?_) (fun h13 => ?_)
    · refine lv_iload_n hx hb d_Ref_move_20 rfl (lv_at hl 1 rfl) ?_
      refine lv_iconst (v := (-1)) hx hb d_Ref_move_21 (by decide) ?_
      refine lv_icmp_eq hx hb d_Ref_move_22 (tgt := 37) (by decide) (fun h22 => ?_) (fun h22 => ?_)
      · exact absurd h22 (hm1)
      · refine lv_iload_n hx hb d_Ref_move_25 rfl (lv_at hl 1 rfl) ?_
        refine lv_i2l (v := x.toInt64) hx hb d_Ref_move_26 rfl ?_
        refine lv_lconst (v := lN 1) hx hb d_Ref_move_27 rfl ?_
        refine lv_ldc2 (v := lN 1000) hx hb hown (ht _ kl_Ref_116) d_Ref_move_28 ?_
        refine ct_rdS (As := [.long x.toInt64, .long (lN 1), .long (lN 1000)]) (rest := [.ref h]) ⟨hx, hb, hml, hown, ht⟩ (k_Ref_in l D cI cZ cJ cG (x).toInt64 (lN 1) (lN 1000)) (cb_S ht kc_Ref_in kl_Ref_78 kn_Ref ki_Ref_in hd_Ref_in ⟨Nat.le_of_ble_eq_true rfl, Nat.le_of_ble_eq_true rfl⟩) (wd_ct (Bs := [[rf_o h qs cd ma S.T.2.2.1.2.1 ca S.D.2.1.2.1 na S.G.2.2.2.1.2.1 S.D.1.2.1 S.D.2.2.1 S.D.2.2.2.1 S.D.2.2.2.2 S.lost], [(qs 0, .inl (cI, 12, .inl (lI S.eb)))], [(qs 1, .inl (cI, 144, .inl (fl (gN S.lk))))], [(qs 2, .inl (cI, 144, .inl (fl (gN wt))))], [(qs 3, .inl (cZ, 144, .inl (fl (kB S.kn))))], [(qs 4, .inl (cI, 1600, .inl fR))], [(qs 5, .inl (cI, 1600, .inl fN))], [(qs 6, .inl (cJ, 1600, .inr (.inl fL)))], [(qs 7, .inl (cJ, 1600, .inr (.inl fH)))], [(qs 8, .inl (cZ, 1600, .inl (dB uf)))], [(qs 9, .inl (cI, 144, .inl (fl (sI S.T.2.1))))], [(qs 10, .inl (cI, 4000, .inl fM))], [(qs 11, .inl (cJ, 4000, .inr (.inl fC)))], [(qs 12, .inl (cI, 4000, .inl fT))], [(qs 13, .inl (cI, 8, .inl (lI S.G.1)))], [(qs 14, .inl (cI, 8, .inl S.G.2.1))], [(qs 15, .inl (cI, 96, .inl (fl (gN (rT S.G.2.2.1)))))], [(qs 16, .inl (cI, 901, .inl fD))], [(qs 17, .inl (cI, 901, .inl fX))], [(qs 18, .inl (cI, 144, .inl (fl MK)))], [(qs 19, .inl (cI, 144, .inl (fl MF)))]]) 21 rfl [] [0, 1, 2, 3, 4, 5, 6, 7, 8, 9, 10, 11, 12, 13, 14, 15, 16, 17, 18, 19, 20] (by decide) rfl) hK hP hD hS hA rfl hl.1 rfl (Nat.le_of_ble_eq_true rfl) ⟨(show 0 + 0 ≤ 0 by omega), (show 0 + 0 ≤ 0 by omega)⟩ d_Ref_move_31 (fun rhr104 H locs hr104 hP hD hS => ?_)
        subst hr104
        refine W.eq (g2 := F0 m 34 ls [.int (bI (rg 1 1001 (x))), .ref h]) (congrArg (fun z => F0 m 34 ls (.int z :: [.ref h])) (congrArg bI (in_rg (a := 1) (b := 1000) (by decide) (by decide) (x)))) ?_
        refine W.eq (g2 := F0 m 34 ls [.int (bI false), .ref h]) (congrArg (fun z => F0 m 34 ls (.int z :: [.ref h])) (congrArg bI hno)) ?_
        refine ri_ifeqB hx hb d_Ref_move_34 (tgt := 41) (by decide) (fun h105 => ?_) (fun h105 => ?_)
        · refine lv_iconst (v := nI 2) hx hb d_Ref_move_41 (by decide) ?_
          refine va_put (D := D) (ci := 9) (v := .int (nI 2)) (ty := .int) (C := R_Ref) (T := T_Ref) (N := 32) hx hb ht in_Ref t_Ref ok_Ref nm_Ref hown hK hP hD hS 0 rfl rfl 0 (by decide) (ht _ kl_Ref_72) (fun _ h9 => h9) rfl (by decide +kernel) rfl rfl (Nat.le_of_ble_eq_true rfl) d_Ref_move_42 (fun H locs hP hD hS => ?_)
          have hP : va_P D kls (List.flatten [[rf_o h qs (nI 2) ma S.T.2.2.1.2.1 ca S.D.2.1.2.1 na S.G.2.2.2.1.2.1 S.D.1.2.1 S.D.2.2.1 S.D.2.2.2.1 S.D.2.2.2.2 S.lost], [(qs 0, .inl (cI, 12, .inl (lI S.eb)))], [(qs 1, .inl (cI, 144, .inl (fl (gN S.lk))))], [(qs 2, .inl (cI, 144, .inl (fl (gN wt))))], [(qs 3, .inl (cZ, 144, .inl (fl (kB S.kn))))], [(qs 4, .inl (cI, 1600, .inl fR))], [(qs 5, .inl (cI, 1600, .inl fN))], [(qs 6, .inl (cJ, 1600, .inr (.inl fL)))], [(qs 7, .inl (cJ, 1600, .inr (.inl fH)))], [(qs 8, .inl (cZ, 1600, .inl (dB uf)))], [(qs 9, .inl (cI, 144, .inl (fl (sI S.T.2.1))))], [(qs 10, .inl (cI, 4000, .inl fM))], [(qs 11, .inl (cJ, 4000, .inr (.inl fC)))], [(qs 12, .inl (cI, 4000, .inl fT))], [(qs 13, .inl (cI, 8, .inl (lI S.G.1)))], [(qs 14, .inl (cI, 8, .inl S.G.2.1))], [(qs 15, .inl (cI, 96, .inl (fl (gN (rT S.G.2.2.1)))))], [(qs 16, .inl (cI, 901, .inl fD))], [(qs 17, .inl (cI, 901, .inl fX))], [(qs 18, .inl (cI, 144, .inl (fl MK)))], [(qs 19, .inl (cI, 144, .inl (fl MF)))]]) H := hP
          have hD : va_D A (List.flatten [[rf_o h qs (nI 2) ma S.T.2.2.1.2.1 ca S.D.2.1.2.1 na S.G.2.2.2.1.2.1 S.D.1.2.1 S.D.2.2.1 S.D.2.2.2.1 S.D.2.2.2.2 S.lost], [(qs 0, .inl (cI, 12, .inl (lI S.eb)))], [(qs 1, .inl (cI, 144, .inl (fl (gN S.lk))))], [(qs 2, .inl (cI, 144, .inl (fl (gN wt))))], [(qs 3, .inl (cZ, 144, .inl (fl (kB S.kn))))], [(qs 4, .inl (cI, 1600, .inl fR))], [(qs 5, .inl (cI, 1600, .inl fN))], [(qs 6, .inl (cJ, 1600, .inr (.inl fL)))], [(qs 7, .inl (cJ, 1600, .inr (.inl fH)))], [(qs 8, .inl (cZ, 1600, .inl (dB uf)))], [(qs 9, .inl (cI, 144, .inl (fl (sI S.T.2.1))))], [(qs 10, .inl (cI, 4000, .inl fM))], [(qs 11, .inl (cJ, 4000, .inr (.inl fC)))], [(qs 12, .inl (cI, 4000, .inl fT))], [(qs 13, .inl (cI, 8, .inl (lI S.G.1)))], [(qs 14, .inl (cI, 8, .inl S.G.2.1))], [(qs 15, .inl (cI, 96, .inl (fl (gN (rT S.G.2.2.1)))))], [(qs 16, .inl (cI, 901, .inl fD))], [(qs 17, .inl (cI, 901, .inl fX))], [(qs 18, .inl (cI, 144, .inl (fl MK)))], [(qs 19, .inl (cI, 144, .inl (fl MF)))]]) := hD
          refine lv_aload_n hx hb d_Ref_move_45 rfl (lv_at hl 0 rfl) ?_
          refine va_get (D := D) (ci := 9) (v := .int (nI 2)) (C := R_Ref) (T := T_Ref) (N := 32) hx hb ht in_Ref hown hK hP 0 rfl rfl 0 (by decide) (ht _ kl_Ref_72) (fun _ h9 => h9) rfl d_Ref_move_46 ?_
          refine ri_if_le hx hb (by omega) d_Ref_move_49 (tgt := 54) (by decide) (fun h106 => ?_) (fun h106 => ?_)
          · exact absurd h106 (by decide)
          · refine lv_iconst (v := nI 0) hx hb d_Ref_move_52 (by decide) ?_
            exact ct_iret hQ hx hb hr hlk hP hD hS hK (by omega) (by omega) d_Ref_move_53 (⟨qs, ma, ca, na, wt, fR, fN, fL, fH, uf, fM, fC, fT, fD, fX, MK, MF, rfl, hwt, hAd, hM, hC, hN, hPd⟩)
        · exact absurd h105 (fun z => by cases z)
    · exact absurd h13 (by omega)
