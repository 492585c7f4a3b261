/-! The reference: groups. -/
theorem nt_or {g b t : Nat} (hb : b < 32) (ht : t < 2) : ((g * 2 ^ 6) ||| (b * 2 ^ 1)) ||| t = g * 64 + b * 2 + t := by
  have h1 := Nat.shiftLeft_add_eq_or_of_lt (i := 1) (b := t) (show t < 2 ^ 1 by omega) b
  have h2 := Nat.shiftLeft_add_eq_or_of_lt (i := 6) (b := b * 2 ^ 1 + t) (show b * 2 ^ 1 + t < 2 ^ 6 by omega) g
  rw [Nat.shiftLeft_eq] at h1 h2
  rw [Nat.or_assoc, ← h1, ← h2]
  omega
theorem nt_b {g b t : Nat} (hb : b < 32) (ht : t < 2) : ((g * 64 + b * 2 + t) / 2 ^ 1) &&& 31 = b := by
  rw [show 31 = 2 ^ 5 - 1 from rfl, Nat.and_two_pow_sub_one_eq_mod]
  omega
theorem nt_t {g b t : Nat} (ht : t < 2) : (g * 64 + b * 2 + t) &&& 1 = t := by
  rw [show 1 = 2 ^ 1 - 1 from rfl, Nat.and_two_pow_sub_one_eq_mod]
  omega
theorem nt_g {g b t : Nat} (hb : b < 32) (ht : t < 2) : (g * 64 + b * 2 + t) / 2 ^ 6 = g := by omega
theorem nr_push {f : Nat → Int32} {na : Nat} {M : bm_M Int32} (h : nr_R f na M) (hn : M.2.1 < 4000) {row : Nat → Int32} {v : Int32} (hv : nt_ok row v) : nr_R (upd f ((na + M.2.1) % 4000) v) na (bm_push M row) := by
  refine ⟨h.1, fun i hi => ?_⟩
  have hi : i < M.2.1 + 1 := hi
  by_cases e : i = M.2.1
  · rw [e, bm_push_at]
    show nt_ok row (if (na + M.2.1) % 4000 = (na + M.2.1) % 4000 then v else _)
    rw [if_pos rfl]
    exact hv
  · rw [bm_push_old M _ (show i < M.2.1 by omega)]
    show nt_ok _ (if (na + i) % 4000 = (na + M.2.1) % 4000 then _ else f ((na + i) % 4000))
    have h1 := h.1
    rw [if_neg (by omega)]
    exact h.2 i (by omega)
theorem nr_drop {f : Nat → Int32} {na : Nat} {M : bm_M Int32} (h : nr_R f na M) : nr_R f ((na + 1) % 4000) (bm_drop M) := by
  refine ⟨Nat.mod_lt _ (by decide), fun i hi => ?_⟩
  have hi : i < M.2.1 - 1 := hi
  have := h.2 (i + 1) (by omega)
  rw [show ((na + 1) % 4000 + i) % 4000 = (na + (i + 1)) % 4000 by omega]
  exact this
theorem tellA_n (eb : Nat → Option Nat) (e : Nat) (G : bm_G) : ∀ n, (bm_tellA eb e G n).2.2.2.1.2.1 ≤ G.2.2.2.1.2.1 + n
  | 0 => Nat.le_refl _
  | n + 1 => by
    have := tellA_n eb e G n
    unfold bm_tellA
    split
    · show (bm_tellA eb e G n).2.2.2.1.2.1 + 1 ≤ _
      omega
    · omega
/-- no receiver, no note on its way -/
def rf_idle (S : bm_S) (g : Nat) : Prop := (∀ r, r < 12 → S.G.2.2.1 r g = 0) ∧ ∀ i, i < S.G.2.2.2.1.2.1 → S.G.2.2.2.1.2.2 i 0 ≠ nI g
set_option maxHeartbeats 1600000 in
set_option maxRecDepth 100000 in
theorem k_Ref_tell (l : Launch) (D : va_G) (cI cZ cJ cG : ClassId) {h : Nat} {qs : Nat → Nat} {cd dv ex lb lm : Int32} {ma mn ca cn na pk : Nat} {eb : Nat → Option Nat} {rc : Nat → Nat → Nat} {M : bm_M Int32} {fT : Nat → Int32} (hN : nr_R fT na M) (hn : M.2.1 < 4000) (g e9 b : Nat) (hg : g < 8) (he : e9 < 12) (heb9 : eb e9 = some b) (hb9 : b < 32) (hrc : ∀ a b, rc a b ≤ 100) : ct_V l D kls (ty4 cI cZ cJ cG) y_Ref_tell ws_Ref_tell (rm_ 0 0 0 0) [.ref h, .int (nI g), .int (nI e9)] (List.flatten [[rf_o h qs cd ma mn ca cn na M.2.1 pk dv ex lb lm], [(qs 0, .inl (cI, 12, .inl (lI eb)))], [(qs 12, .inl (cI, 4000, .inl fT))], [(qs 15, .inl (cI, 96, .inl (fl (gN (rT rc)))))]]) (fun u => ∃ fT2, u = List.flatten [[rf_o h qs cd ma mn ca cn na ((bm_push M (bm_ntrow eb rc e9 g)).2.1) pk dv ex lb lm], [(qs 0, .inl (cI, 12, .inl (lI eb)))], [(qs 12, .inl (cI, 4000, .inl fT2))], [(qs 15, .inl (cI, 96, .inl (fl (gN (rT rc)))))]] ∧ nr_R fT2 na (bm_push M (bm_ntrow eb rc e9 g))) 0 0 := by
  refine ct_enterV (cc := b_Ref_tell) (maxL := 3) (ret := none) (by decide +kernel) (Nat.le_of_ble_eq_true rfl) ?_
  intro p e s m args below meth c hx hb hml hr ht hown hlk hnm A Q hA hK hP hD hQ ls hl
  have hown : s.vm.findClass R_Ref = some m.cls := hown
  have hS : va_S A s.heap s.heap [] := va_S.rf
  have hl : lv_has ls 3 [(0, .ref h), (1, .int (nI g)), (2, .int (nI e9))] := hl
  have hna := hN.1
  have hrc9 := hrc e9 g
  refine lv_aload_n hx hb d_Ref_tell_0 rfl (lv_at hl 0 rfl) ?_
  refine va_get (D := D) (ci := 9) (v := .ref (qs 12)) (C := R_Ref) (T := T_Ref) (N := 32) hx hb ht in_Ref hown hK hP 0 rfl rfl 19 (by decide) (ht _ kl_Ref_48) (fun _ h9 => h9) rfl d_Ref_tell_1 ?_
  refine lv_aload_n hx hb d_Ref_tell_4 rfl (lv_at hl 0 rfl) ?_
  refine va_get (D := D) (ci := 9) (v := .int (nI na)) (C := R_Ref) (T := T_Ref) (N := 32) hx hb ht in_Ref hown hK hP 0 rfl rfl 17 (by decide) (ht _ kl_Ref_154) (fun _ h9 => h9) rfl d_Ref_tell_5 ?_
  refine lv_aload_n hx hb d_Ref_tell_8 rfl (lv_at hl 0 rfl) ?_
  refine va_get (D := D) (ci := 9) (v := .int (nI M.2.1)) (C := R_Ref) (T := T_Ref) (N := 32) hx hb ht in_Ref hown hK hP 0 rfl rfl 18 (by decide) (ht _ kl_Ref_151) (fun _ h9 => h9) rfl d_Ref_tell_9 ?_
  refine ri_iadd hx hb d_Ref_tell_12 ?_
  refine lv_sipush (v := nI 4000) hx hb d_Ref_tell_13 (by decide) ?_
  refine ri_irem2 hx hb (by omega) (by omega) (by omega) d_Ref_tell_16 ?_
  refine lv_iload_n hx hb d_Ref_tell_17 rfl (lv_at hl 1 rfl) ?_
  refine lv_bipush (v := nI 6) hx hb d_Ref_tell_18 (by decide) ?_
  refine ri_ishl2 hx hb (by omega) d_Ref_tell_20 ?_
  refine lv_aload_n hx hb d_Ref_tell_21 rfl (lv_at hl 0 rfl) ?_
  refine va_get (D := D) (ci := 9) (v := .ref (qs 0)) (C := R_Ref) (T := T_Ref) (N := 32) hx hb ht in_Ref hown hK hP 0 rfl rfl 1 (by decide) (ht _ kl_Ref_7) (fun _ h9 => h9) rfl d_Ref_tell_22 ?_
  refine lv_iload_n hx hb d_Ref_tell_25 rfl (lv_at hl 2 rfl) ?_
  refine ri_iald hx hb hK hP 1 0 rfl rfl (j := e9) (by omega) (by omega) d_Ref_tell_26 ?_
  refine W.eq (g2 := F0 m 27 ls [.int (bm_oI (eb e9)), .int (nI (g * 2 ^ 6)), .int (nI ((na + M.2.1) % 4000)), .ref (qs 12)]) rfl ?_
  refine W.eq (g2 := F0 m 27 ls [.int (nI b), .int (nI (g * 2 ^ 6)), .int (nI ((na + M.2.1) % 4000)), .ref (qs 12)]) (congrArg (fun z => F0 m 27 ls (.int z :: [.int (nI (g * 2 ^ 6)), .int (nI ((na + M.2.1) % 4000)), .ref (qs 12)])) (by rw [heb9]; rfl)) ?_
  refine lv_iconst (v := nI 1) hx hb d_Ref_tell_27 (by decide) ?_
  refine ri_ishl2 hx hb (by omega) d_Ref_tell_28 ?_
  refine ri_ior2 hx hb d_Ref_tell_29 ?_
  refine lv_aload_n hx hb d_Ref_tell_30 rfl (lv_at hl 0 rfl) ?_
  refine va_get (D := D) (ci := 9) (v := .ref (qs 15)) (C := R_Ref) (T := T_Ref) (N := 32) hx hb ht in_Ref hown hK hP 0 rfl rfl 22 (by decide) (ht _ kl_Ref_57) (fun _ h9 => h9) rfl d_Ref_tell_31 ?_
  refine lv_bipush (v := nI 12) hx hb d_Ref_tell_34 (by decide) ?_
  refine lv_iload_n hx hb d_Ref_tell_36 rfl (lv_at hl 1 rfl) ?_
  refine ri_imul hx hb d_Ref_tell_37 ?_
  refine lv_iload_n hx hb d_Ref_tell_38 rfl (lv_at hl 2 rfl) ?_
  refine ri_iadd hx hb d_Ref_tell_39 ?_
  refine ri_iald hx hb hK hP 3 0 rfl rfl (j := (12 * g) + e9) (by omega) (by omega) d_Ref_tell_40 ?_
  refine W.eq (g2 := F0 m 41 ls [.int (nI ((rT rc) g e9)), .int (nI ((g * 2 ^ 6) ||| (b * 2 ^ 1))), .int (nI ((na + M.2.1) % 4000)), .ref (qs 12)]) (congrArg (fun z => F0 m 41 ls (.int z :: [.int (nI ((g * 2 ^ 6) ||| (b * 2 ^ 1))), .int (nI ((na + M.2.1) % 4000)), .ref (qs 12)])) (fl_at (a := g) (b := e9) (by omega))) ?_
  refine W.eq (g2 := F0 m 41 ls [.int (nI (rc e9 g)), .int (nI ((g * 2 ^ 6) ||| (b * 2 ^ 1))), .int (nI ((na + M.2.1) % 4000)), .ref (qs 12)]) (congrArg (fun z => F0 m 41 ls (.int z :: [.int (nI ((g * 2 ^ 6) ||| (b * 2 ^ 1))), .int (nI ((na + M.2.1) % 4000)), .ref (qs 12)])) (rfl)) ?_
  refine ri_if_le hx hb (by omega) d_Ref_tell_41 (tgt := 48) (by decide) (fun h41 => ?_) (fun h41 => ?_)
  · refine lv_iconst (v := nI 0) hx hb d_Ref_tell_48 (by decide) ?_
    refine ri_ior2 hx hb d_Ref_tell_49 ?_
    refine W.eq (g2 := F0 m 50 ls [.int (nI (g * 64 + b * 2 + 0)), .int (nI ((na + M.2.1) % 4000)), .ref (qs 12)]) (congrArg (fun z => F0 m 50 ls (.int z :: [.int (nI ((na + M.2.1) % 4000)), .ref (qs 12)])) (congrArg nI (nt_or hb9 (by decide)))) ?_
    refine ri_iast hx hb hK hP hD hS 2 0 rfl rfl (j := (na + M.2.1) % 4000) (by omega) (by omega) d_Ref_tell_50 (fun H locs hP hD hS => ?_)
    have hP : va_P D kls (List.flatten [[rf_o h qs cd ma mn ca cn na M.2.1 pk dv ex lb lm], [(qs 0, .inl (cI, 12, .inl (lI eb)))], [(qs 12, .inl (cI, 4000, .inl (upd fT ((na + M.2.1) % 4000) (nI (g * 64 + b * 2 + 0)))))], [(qs 15, .inl (cI, 96, .inl (fl (gN (rT rc)))))]]) H := hP
    have hD : va_D A (List.flatten [[rf_o h qs cd ma mn ca cn na M.2.1 pk dv ex lb lm], [(qs 0, .inl (cI, 12, .inl (lI eb)))], [(qs 12, .inl (cI, 4000, .inl (upd fT ((na + M.2.1) % 4000) (nI (g * 64 + b * 2 + 0)))))], [(qs 15, .inl (cI, 96, .inl (fl (gN (rT rc)))))]]) := hD
    refine lv_aload_n hx hb d_Ref_tell_51 rfl (lv_at hl 0 rfl) ?_
    refine lv_dup hx hb d_Ref_tell_52 rfl ?_
    refine va_get (D := D) (ci := 9) (v := .int (nI M.2.1)) (C := R_Ref) (T := T_Ref) (N := 32) hx hb ht in_Ref hown hK hP 0 rfl rfl 18 (by decide) (ht _ kl_Ref_151) (fun _ h9 => h9) rfl d_Ref_tell_53 ?_
    refine lv_iconst (v := nI 1) hx hb d_Ref_tell_56 (by decide) ?_
    refine ri_iadd hx hb d_Ref_tell_57 ?_
    refine va_put (D := D) (ci := 9) (v := .int (nI (M.2.1 + 1))) (ty := .int) (C := R_Ref) (T := T_Ref) (N := 32) hx hb ht in_Ref t_Ref ok_Ref nm_Ref hown hK hP hD hS 0 rfl rfl 18 (by decide) (ht _ kl_Ref_151) (fun _ h9 => h9) rfl (by decide +kernel) rfl rfl (Nat.le_of_ble_eq_true rfl) d_Ref_tell_58 (fun H locs hP hD hS => ?_)
    have hP : va_P D kls (List.flatten [[rf_o h qs cd ma mn ca cn na (M.2.1 + 1) pk dv ex lb lm], [(qs 0, .inl (cI, 12, .inl (lI eb)))], [(qs 12, .inl (cI, 4000, .inl (upd fT ((na + M.2.1) % 4000) (nI (g * 64 + b * 2 + 0)))))], [(qs 15, .inl (cI, 96, .inl (fl (gN (rT rc)))))]]) H := hP
    have hD : va_D A (List.flatten [[rf_o h qs cd ma mn ca cn na (M.2.1 + 1) pk dv ex lb lm], [(qs 0, .inl (cI, 12, .inl (lI eb)))], [(qs 12, .inl (cI, 4000, .inl (upd fT ((na + M.2.1) % 4000) (nI (g * 64 + b * 2 + 0)))))], [(qs 15, .inl (cI, 96, .inl (fl (gN (rT rc)))))]]) := hD
    exact ct_vret hQ hx hb hr hlk hP hD hS hK (by omega) (by omega) d_Ref_tell_61 ⟨_, rfl, nr_push hN hn ⟨g, b, 0, hg, hb9, by decide, rfl, by show bm_em (eb e9) = _; rw [heb9], congrArg bI (decide_eq_false (by omega)), rfl⟩⟩
  · refine lv_iconst (v := nI 1) hx hb d_Ref_tell_44 (by decide) ?_
    refine lv_goto hx hb d_Ref_tell_45 (tgt := 49) (by decide) ?_
    refine ri_ior2 hx hb d_Ref_tell_49 ?_
    refine W.eq (g2 := F0 m 50 ls [.int (nI (g * 64 + b * 2 + 1)), .int (nI ((na + M.2.1) % 4000)), .ref (qs 12)]) (congrArg (fun z => F0 m 50 ls (.int z :: [.int (nI ((na + M.2.1) % 4000)), .ref (qs 12)])) (congrArg nI (nt_or hb9 (by decide)))) ?_
    refine ri_iast hx hb hK hP hD hS 2 0 rfl rfl (j := (na + M.2.1) % 4000) (by omega) (by omega) d_Ref_tell_50 (fun H locs hP hD hS => ?_)
    have hP : va_P D kls (List.flatten [[rf_o h qs cd ma mn ca cn na M.2.1 pk dv ex lb lm], [(qs 0, .inl (cI, 12, .inl (lI eb)))], [(qs 12, .inl (cI, 4000, .inl (upd fT ((na + M.2.1) % 4000) (nI (g * 64 + b * 2 + 1)))))], [(qs 15, .inl (cI, 96, .inl (fl (gN (rT rc)))))]]) H := hP
    have hD : va_D A (List.flatten [[rf_o h qs cd ma mn ca cn na M.2.1 pk dv ex lb lm], [(qs 0, .inl (cI, 12, .inl (lI eb)))], [(qs 12, .inl (cI, 4000, .inl (upd fT ((na + M.2.1) % 4000) (nI (g * 64 + b * 2 + 1)))))], [(qs 15, .inl (cI, 96, .inl (fl (gN (rT rc)))))]]) := hD
    refine lv_aload_n hx hb d_Ref_tell_51 rfl (lv_at hl 0 rfl) ?_
    refine lv_dup hx hb d_Ref_tell_52 rfl ?_
    refine va_get (D := D) (ci := 9) (v := .int (nI M.2.1)) (C := R_Ref) (T := T_Ref) (N := 32) hx hb ht in_Ref hown hK hP 0 rfl rfl 18 (by decide) (ht _ kl_Ref_151) (fun _ h9 => h9) rfl d_Ref_tell_53 ?_
    refine lv_iconst (v := nI 1) hx hb d_Ref_tell_56 (by decide) ?_
    refine ri_iadd hx hb d_Ref_tell_57 ?_
    refine va_put (D := D) (ci := 9) (v := .int (nI (M.2.1 + 1))) (ty := .int) (C := R_Ref) (T := T_Ref) (N := 32) hx hb ht in_Ref t_Ref ok_Ref nm_Ref hown hK hP hD hS 0 rfl rfl 18 (by decide) (ht _ kl_Ref_151) (fun _ h9 => h9) rfl (by decide +kernel) rfl rfl (Nat.le_of_ble_eq_true rfl) d_Ref_tell_58 (fun H locs hP hD hS => ?_)
    have hP : va_P D kls (List.flatten [[rf_o h qs cd ma mn ca cn na (M.2.1 + 1) pk dv ex lb lm], [(qs 0, .inl (cI, 12, .inl (lI eb)))], [(qs 12, .inl (cI, 4000, .inl (upd fT ((na + M.2.1) % 4000) (nI (g * 64 + b * 2 + 1)))))], [(qs 15, .inl (cI, 96, .inl (fl (gN (rT rc)))))]]) H := hP
    have hD : va_D A (List.flatten [[rf_o h qs cd ma mn ca cn na (M.2.1 + 1) pk dv ex lb lm], [(qs 0, .inl (cI, 12, .inl (lI eb)))], [(qs 12, .inl (cI, 4000, .inl (upd fT ((na + M.2.1) % 4000) (nI (g * 64 + b * 2 + 1)))))], [(qs 15, .inl (cI, 96, .inl (fl (gN (rT rc)))))]]) := hD
    exact ct_vret hQ hx hb hr hlk hP hD hS hK (by omega) (by omega) d_Ref_tell_61 ⟨_, rfl, nr_push hN hn ⟨g, b, 1, hg, hb9, by decide, rfl, by show bm_em (eb e9) = _; rw [heb9], congrArg bI (decide_eq_true h41), rfl⟩⟩
set_option maxHeartbeats 1600000 in
set_option maxRecDepth 100000 in
theorem k_Ref_bits (l : Launch) (D : va_G) (cI cZ cJ cG : ClassId) {h : Nat} {cd : Int32} {S : bm_S} {ws : va_W} (hR : rf_R cI cZ cJ h cd S ws) (hi : rf_i S) (g : Nat) (hg : g < 8) (hz : S.G.1 g = none → S.G.2.1 g = 0) : ct_I l D kls (ty4 cI cZ cJ cG) y_Ref_bits ws_Ref_bits (rm_ 2 45 0 0) [.ref h, .int (nI g)] (ws) (fun z u => z = S.G.2.1 g ∧ rf_R cI cZ cJ h (nI 0) S u) 0 0 := by
  obtain ⟨qs, ma, ca, na, wt, fR, fN, fL, fH, uf, fM, fC, fT, fD, fX, MK, MF, rfl, hwt, hAd, hM, hC, hN, hPd⟩ := hR
  obtain ⟨hsi, heb, h00, hA9, hm9, hcp9, hnt9, hpk9, hgi⟩ := hi
  have hok := hsi.1
  have hkn9 := hsi.2.1
  have hlk9 := hsi.2.2.1
  have hma := hM.1
  refine ct_enterI (cc := b_Ref_bits) (maxL := 2) (ret := (some .int)) (by decide +kernel) (Nat.le_of_ble_eq_true rfl) ?_
  intro p e s m args below meth c hx hb hml hr ht hown hlk hnm A Q hA hK hP hD hQ ls hl
  have hown : s.vm.findClass R_Ref = some m.cls := hown
  have hS : va_S A s.heap s.heap [] := va_S.rf
  have hl : lv_has ls 2 [(0, .ref h), (1, .int (nI g))] := hl
  have hrt := hsi.2.2.2.2.1
  refine lv_aload_n hx hb d_Ref_bits_0 rfl (lv_at hl 0 rfl) ?_
  refine lv_iload_n hx hb d_Ref_bits_1 rfl (lv_at hl 1 rfl) ?_
  refine ct_rdS (As := [.int (nI g)]) (rest := [.ref h]) ⟨hx, hb, hml, hown, ht⟩ (k_Ref_isGroup l D cI cZ cJ cG (nI g)) (cb_S ht kc_Ref_isGroup kl_Ref_145 kn_Ref ki_Ref_isGroup hd_Ref_isGroup ⟨Nat.le_of_ble_eq_true rfl, Nat.le_of_ble_eq_true rfl⟩) (wd_ct (Bs := [[rf_o h qs cd ma S.T.2.2.1.2.1 ca S.D.2.1.2.1 na S.G.2.2.2.1.2.1 S.D.1.2.1 S.D.2.2.1 S.D.2.2.2.1 S.D.2.2.2.2 S.lost], [(qs 0, .inl (cI, 12, .inl (lI S.eb)))], [(qs 1, .inl (cI, 144, .inl (fl (gN S.lk))))], [(qs 2, .inl (cI, 144, .inl (fl (gN wt))))], [(qs 3, .inl (cZ, 144, .inl (fl (kB S.kn))))], [(qs 4, .inl (cI, 1600, .inl fR))], [(qs 5, .inl (cI, 1600, .inl fN))], [(qs 6, .inl (cJ, 1600, .inr (.inl fL)))], [(qs 7, .inl (cJ, 1600, .inr (.inl fH)))], [(qs 8, .inl (cZ, 1600, .inl (dB uf)))], [(qs 9, .inl (cI, 144, .inl (fl (sI S.T.2.1))))], [(qs 10, .inl (cI, 4000, .inl fM))], [(qs 11, .inl (cJ, 4000, .inr (.inl fC)))], [(qs 12, .inl (cI, 4000, .inl fT))], [(qs 13, .inl (cI, 8, .inl (lI S.G.1)))], [(qs 14, .inl (cI, 8, .inl S.G.2.1))], [(qs 15, .inl (cI, 96, .inl (fl (gN (rT S.G.2.2.1)))))], [(qs 16, .inl (cI, 901, .inl fD))], [(qs 17, .inl (cI, 901, .inl fX))], [(qs 18, .inl (cI, 144, .inl (fl MK)))], [(qs 19, .inl (cI, 144, .inl (fl MF)))]]) 21 rfl [] [0, 1, 2, 3, 4, 5, 6, 7, 8, 9, 10, 11, 12, 13, 14, 15, 16, 17, 18, 19, 20] (by decide) rfl) hK hP hD hS hA rfl hl.1 rfl (Nat.le_of_ble_eq_true rfl) ⟨(show 0 + 0 ≤ 0 by omega), (show 0 + 0 ≤ 0 by omega)⟩ d_Ref_bits_2 (fun rhr101 H locs hr101 hP hD hS => ?_)
  subst hr101
  refine W.eq (g2 := F0 m 5 ls [.int (bI true), .ref h]) (congrArg (fun z => F0 m 5 ls (.int z :: [.ref h])) (congrArg bI (rg_t8 hg))) ?_
  refine ri_ifeqB hx hb d_Ref_bits_5 (tgt := 12) (by decide) (fun h102 => ?_) (fun h102 => ?_)
  · exact absurd h102 (fun z => by cases z)
  · refine lv_iconst (v := nI 0) hx hb d_Ref_bits_8 (by decide) ?_
    refine lv_goto hx hb d_Ref_bits_9 (tgt := 13) (by decide) ?_
    refine va_put (D := D) (ci := 9) (v := .int (nI 0)) (ty := .int) (C := R_Ref) (T := T_Ref) (N := 32) hx hb ht in_Ref t_Ref ok_Ref nm_Ref hown hK hP hD hS 0 rfl rfl 0 (by decide) (ht _ kl_Ref_72) (fun _ h9 => h9) rfl (by decide +kernel) rfl rfl (Nat.le_of_ble_eq_true rfl) d_Ref_bits_13 (fun H locs hP hD hS => ?_)
    have hP : va_P D kls (List.flatten [[rf_o h qs (nI 0) ma S.T.2.2.1.2.1 ca S.D.2.1.2.1 na S.G.2.2.2.1.2.1 S.D.1.2.1 S.D.2.2.1 S.D.2.2.2.1 S.D.2.2.2.2 S.lost], [(qs 0, .inl (cI, 12, .inl (lI S.eb)))], [(qs 1, .inl (cI, 144, .inl (fl (gN S.lk))))], [(qs 2, .inl (cI, 144, .inl (fl (gN wt))))], [(qs 3, .inl (cZ, 144, .inl (fl (kB S.kn))))], [(qs 4, .inl (cI, 1600, .inl fR))], [(qs 5, .inl (cI, 1600, .inl fN))], [(qs 6, .inl (cJ, 1600, .inr (.inl fL)))], [(qs 7, .inl (cJ, 1600, .inr (.inl fH)))], [(qs 8, .inl (cZ, 1600, .inl (dB uf)))], [(qs 9, .inl (cI, 144, .inl (fl (sI S.T.2.1))))], [(qs 10, .inl (cI, 4000, .inl fM))], [(qs 11, .inl (cJ, 4000, .inr (.inl fC)))], [(qs 12, .inl (cI, 4000, .inl fT))], [(qs 13, .inl (cI, 8, .inl (lI S.G.1)))], [(qs 14, .inl (cI, 8, .inl S.G.2.1))], [(qs 15, .inl (cI, 96, .inl (fl (gN (rT S.G.2.2.1)))))], [(qs 16, .inl (cI, 901, .inl fD))], [(qs 17, .inl (cI, 901, .inl fX))], [(qs 18, .inl (cI, 144, .inl (fl MK)))], [(qs 19, .inl (cI, 144, .inl (fl MF)))]]) H := hP
    have hD : va_D A (List.flatten [[rf_o h qs (nI 0) ma S.T.2.2.1.2.1 ca S.D.2.1.2.1 na S.G.2.2.2.1.2.1 S.D.1.2.1 S.D.2.2.1 S.D.2.2.2.1 S.D.2.2.2.2 S.lost], [(qs 0, .inl (cI, 12, .inl (lI S.eb)))], [(qs 1, .inl (cI, 144, .inl (fl (gN S.lk))))], [(qs 2, .inl (cI, 144, .inl (fl (gN wt))))], [(qs 3, .inl (cZ, 144, .inl (fl (kB S.kn))))], [(qs 4, .inl (cI, 1600, .inl fR))], [(qs 5, .inl (cI, 1600, .inl fN))], [(qs 6, .inl (cJ, 1600, .inr (.inl fL)))], [(qs 7, .inl (cJ, 1600, .inr (.inl fH)))], [(qs 8, .inl (cZ, 1600, .inl (dB uf)))], [(qs 9, .inl (cI, 144, .inl (fl (sI S.T.2.1))))], [(qs 10, .inl (cI, 4000, .inl fM))], [(qs 11, .inl (cJ, 4000, .inr (.inl fC)))], [(qs 12, .inl (cI, 4000, .inl fT))], [(qs 13, .inl (cI, 8, .inl (lI S.G.1)))], [(qs 14, .inl (cI, 8, .inl S.G.2.1))], [(qs 15, .inl (cI, 96, .inl (fl (gN (rT S.G.2.2.1)))))], [(qs 16, .inl (cI, 901, .inl fD))], [(qs 17, .inl (cI, 901, .inl fX))], [(qs 18, .inl (cI, 144, .inl (fl MK)))], [(qs 19, .inl (cI, 144, .inl (fl MF)))]]) := hD
    refine lv_aload_n hx hb d_Ref_bits_16 rfl (lv_at hl 0 rfl) ?_
    refine va_get (D := D) (ci := 9) (v := .int (nI 0)) (C := R_Ref) (T := T_Ref) (N := 32) hx hb ht in_Ref hown hK hP 0 rfl rfl 0 (by decide) (ht _ kl_Ref_72) (fun _ h9 => h9) rfl d_Ref_bits_17 ?_
    refine ri_if_gt hx hb (by omega) d_Ref_bits_20 (tgt := 32) (by decide) (fun h103 => ?_) (fun h103 => ?_)
    · exact absurd h103 (by decide)
    · refine lv_aload_n hx hb d_Ref_bits_23 rfl (lv_at hl 0 rfl) ?_
      refine va_get (D := D) (ci := 9) (v := .ref (qs 13)) (C := R_Ref) (T := T_Ref) (N := 32) hx hb ht in_Ref hown hK hP 0 rfl rfl 20 (by decide) (ht _ kl_Ref_51) (fun _ h9 => h9) rfl d_Ref_bits_24 ?_
      refine lv_iload_n hx hb d_Ref_bits_27 rfl (lv_at hl 1 rfl) ?_
      refine ri_iald hx hb hK hP 14 0 rfl rfl (j := g) (by omega) (by omega) d_Ref_bits_28 ?_
      refine W.eq (g2 := F0 m 29 ls [.int (bm_oI (S.G.1 g))]) rfl ?_
      refine lv_if_ge hx hb d_Ref_bits_29 (tgt := 36) (by decide) (fun h29 => ?_) (fun h29 => ?_)
      · refine lv_aload_n hx hb d_Ref_bits_36 rfl (lv_at hl 0 rfl) ?_
        refine va_get (D := D) (ci := 9) (v := .ref (qs 14)) (C := R_Ref) (T := T_Ref) (N := 32) hx hb ht in_Ref hown hK hP 0 rfl rfl 21 (by decide) (ht _ kl_Ref_54) (fun _ h9 => h9) rfl d_Ref_bits_37 ?_
        refine lv_iload_n hx hb d_Ref_bits_40 rfl (lv_at hl 1 rfl) ?_
        refine ri_iald hx hb hK hP 15 0 rfl rfl (j := g) (by omega) (by omega) d_Ref_bits_41 ?_
        exact ct_iret hQ hx hb hr hlk hP hD hS hK (by omega) (by omega) d_Ref_bits_42 (⟨(by first | rfl | exact (hz ((oI_lt (fun b z => Nat.lt_trans (hgi.2.2.1 _ b z) (by decide))).mp (Int32.not_le.mp h29))).symm), ⟨qs, ma, ca, na, wt, fR, fN, fL, fH, uf, fM, fC, fT, fD, fX, MK, MF, rfl, hwt, hAd, hM, hC, hN, hPd⟩⟩)
      · refine lv_iconst (v := nI 0) hx hb d_Ref_bits_32 (by decide) ?_
        refine lv_goto hx hb d_Ref_bits_33 (tgt := 42) (by decide) ?_
        exact ct_iret hQ hx hb hr hlk hP hD hS hK (by omega) (by omega) d_Ref_bits_42 (⟨(by first | rfl | exact (hz ((oI_lt (fun b z => Nat.lt_trans (hgi.2.2.1 _ b z) (by decide))).mp (Int32.not_le.mp h29))).symm), ⟨qs, ma, ca, na, wt, fR, fN, fL, fH, uf, fM, fC, fT, fD, fX, MK, MF, rfl, hwt, hAd, hM, hC, hN, hPd⟩⟩)
set_option maxHeartbeats 1600000 in
set_option maxRecDepth 100000 in
theorem n_Ref_bits (l : Launch) (D : va_G) (cI cZ cJ cG : ClassId) {h : Nat} {cd : Int32} {S : bm_S} {ws : va_W} (hR : rf_R cI cZ cJ h cd S ws) (hi : rf_i S) (x : Int32) (hno : rg 0 8 x = false) : ct_I l D kls (ty4 cI cZ cJ cG) y_Ref_bits ws_Ref_bits (rm_ 2 45 0 0) [.ref h, .int x] (ws) (fun z u => rf_R cI cZ cJ h (nI 1) S u) 0 0 := by
  obtain ⟨qs, ma, ca, na, wt, fR, fN, fL, fH, uf, fM, fC, fT, fD, fX, MK, MF, rfl, hwt, hAd, hM, hC, hN, hPd⟩ := hR
  obtain ⟨hsi, heb, h00, hA9, hm9, hcp9, hnt9, hpk9, hgi⟩ := hi
  have hok := hsi.1
  have hkn9 := hsi.2.1
  have hlk9 := hsi.2.2.1
  have hma := hM.1
  refine ct_enterI (cc := b_Ref_bits) (maxL := 2) (ret := (some .int)) (by decide +kernel) (Nat.le_of_ble_eq_true rfl) ?_
  intro p e s m args below meth c hx hb hml hr ht hown hlk hnm A Q hA hK hP hD hQ ls hl
  have hown : s.vm.findClass R_Ref = some m.cls := hown
  have hS : va_S A s.heap s.heap [] := va_S.rf
  have hl : lv_has ls 2 [(0, .ref h), (1, .int x)] := hl
  have hrt := hsi.2.2.2.2.1
  refine lv_aload_n hx hb d_Ref_bits_0 rfl (lv_at hl 0 rfl) ?_
  refine lv_iload_n hx hb d_Ref_bits_1 rfl (lv_at hl 1 rfl) ?_
  refine ct_rdS (As := [.int x]) (rest := [.ref h]) ⟨hx, hb, hml, hown, ht⟩ (k_Ref_isGroup l D cI cZ cJ cG (x)) (cb_S ht kc_Ref_isGroup kl_Ref_145 kn_Ref ki_Ref_isGroup hd_Ref_isGroup ⟨Nat.le_of_ble_eq_true rfl, Nat.le_of_ble_eq_true rfl⟩) (wd_ct (Bs := [[rf_o h qs cd ma S.T.2.2.1.2.1 ca S.D.2.1.2.1 na S.G.2.2.2.1.2.1 S.D.1.2.1 S.D.2.2.1 S.D.2.2.2.1 S.D.2.2.2.2 S.lost], [(qs 0, .inl (cI, 12, .inl (lI S.eb)))], [(qs 1, .inl (cI, 144, .inl (fl (gN S.lk))))], [(qs 2, .inl (cI, 144, .inl (fl (gN wt))))], [(qs 3, .inl (cZ, 144, .inl (fl (kB S.kn))))], [(qs 4, .inl (cI, 1600, .inl fR))], [(qs 5, .inl (cI, 1600, .inl fN))], [(qs 6, .inl (cJ, 1600, .inr (.inl fL)))], [(qs 7, .inl (cJ, 1600, .inr (.inl fH)))], [(qs 8, .inl (cZ, 1600, .inl (dB uf)))], [(qs 9, .inl (cI, 144, .inl (fl (sI S.T.2.1))))], [(qs 10, .inl (cI, 4000, .inl fM))], [(qs 11, .inl (cJ, 4000, .inr (.inl fC)))], [(qs 12, .inl (cI, 4000, .inl fT))], [(qs 13, .inl (cI, 8, .inl (lI S.G.1)))], [(qs 14, .inl (cI, 8, .inl S.G.2.1))], [(qs 15, .inl (cI, 96, .inl (fl (gN (rT S.G.2.2.1)))))], [(qs 16, .inl (cI, 901, .inl fD))], [(qs 17, .inl (cI, 901, .inl fX))], [(qs 18, .inl (cI, 144, .inl (fl MK)))], [(qs 19, .inl (cI, 144, .inl (fl MF)))]]) 21 rfl [] [0, 1, 2, 3, 4, 5, 6, 7, 8, 9, 10, 11, 12, 13, 14, 15, 16, 17, 18, 19, 20] (by decide) rfl) hK hP hD hS hA rfl hl.1 rfl (Nat.le_of_ble_eq_true rfl) ⟨(show 0 + 0 ≤ 0 by omega), (show 0 + 0 ≤ 0 by omega)⟩ d_Ref_bits_2 (fun rhr101 H locs hr101 hP hD hS => ?_)
  subst hr101
  refine W.eq (g2 := F0 m 5 ls [.int (bI false), .ref h]) (congrArg (fun z => F0 m 5 ls (.int z :: [.ref h])) (congrArg bI hno)) ?_
  refine ri_ifeqB hx hb d_Ref_bits_5 (tgt := 12) (by decide) (fun h102 => ?_) (fun h102 => ?_)
  · refine lv_iconst (v := nI 1) hx hb d_Ref_bits_12 (by decide) ?_
    refine va_put (D := D) (ci := 9) (v := .int (nI 1)) (ty := .int) (C := R_Ref) (T := T_Ref) (N := 32) hx hb ht in_Ref t_Ref ok_Ref nm_Ref hown hK hP hD hS 0 rfl rfl 0 (by decide) (ht _ kl_Ref_72) (fun _ h9 => h9) rfl (by decide +kernel) rfl rfl (Nat.le_of_ble_eq_true rfl) d_Ref_bits_13 (fun H locs hP hD hS => ?_)
    have hP : va_P D kls (List.flatten [[rf_o h qs (nI 1) ma S.T.2.2.1.2.1 ca S.D.2.1.2.1 na S.G.2.2.2.1.2.1 S.D.1.2.1 S.D.2.2.1 S.D.2.2.2.1 S.D.2.2.2.2 S.lost], [(qs 0, .inl (cI, 12, .inl (lI S.eb)))], [(qs 1, .inl (cI, 144, .inl (fl (gN S.lk))))], [(qs 2, .inl (cI, 144, .inl (fl (gN wt))))], [(qs 3, .inl (cZ, 144, .inl (fl (kB S.kn))))], [(qs 4, .inl (cI, 1600, .inl fR))], [(qs 5, .inl (cI, 1600, .inl fN))], [(qs 6, .inl (cJ, 1600, .inr (.inl fL)))], [(qs 7, .inl (cJ, 1600, .inr (.inl fH)))], [(qs 8, .inl (cZ, 1600, .inl (dB uf)))], [(qs 9, .inl (cI, 144, .inl (fl (sI S.T.2.1))))], [(qs 10, .inl (cI, 4000, .inl fM))], [(qs 11, .inl (cJ, 4000, .inr (.inl fC)))], [(qs 12, .inl (cI, 4000, .inl fT))], [(qs 13, .inl (cI, 8, .inl (lI S.G.1)))], [(qs 14, .inl (cI, 8, .inl S.G.2.1))], [(qs 15, .inl (cI, 96, .inl (fl (gN (rT S.G.2.2.1)))))], [(qs 16, .inl (cI, 901, .inl fD))], [(qs 17, .inl (cI, 901, .inl fX))], [(qs 18, .inl (cI, 144, .inl (fl MK)))], [(qs 19, .inl (cI, 144, .inl (fl MF)))]]) H := hP
    have hD : va_D A (List.flatten [[rf_o h qs (nI 1) ma S.T.2.2.1.2.1 ca S.D.2.1.2.1 na S.G.2.2.2.1.2.1 S.D.1.2.1 S.D.2.2.1 S.D.2.2.2.1 S.D.2.2.2.2 S.lost], [(qs 0, .inl (cI, 12, .inl (lI S.eb)))], [(qs 1, .inl (cI, 144, .inl (fl (gN S.lk))))], [(qs 2, .inl (cI, 144, .inl (fl (gN wt))))], [(qs 3, .inl (cZ, 144, .inl (fl (kB S.kn))))], [(qs 4, .inl (cI, 1600, .inl fR))], [(qs 5, .inl (cI, 1600, .inl fN))], [(qs 6, .inl (cJ, 1600, .inr (.inl fL)))], [(qs 7, .inl (cJ, 1600, .inr (.inl fH)))], [(qs 8, .inl (cZ, 1600, .inl (dB uf)))], [(qs 9, .inl (cI, 144, .inl (fl (sI S.T.2.1))))], [(qs 10, .inl (cI, 4000, .inl fM))], [(qs 11, .inl (cJ, 4000, .inr (.inl fC)))], [(qs 12, .inl (cI, 4000, .inl fT))], [(qs 13, .inl (cI, 8, .inl (lI S.G.1)))], [(qs 14, .inl (cI, 8, .inl S.G.2.1))], [(qs 15, .inl (cI, 96, .inl (fl (gN (rT S.G.2.2.1)))))], [(qs 16, .inl (cI, 901, .inl fD))], [(qs 17, .inl (cI, 901, .inl fX))], [(qs 18, .inl (cI, 144, .inl (fl MK)))], [(qs 19, .inl (cI, 144, .inl (fl MF)))]]) := hD
    refine lv_aload_n hx hb d_Ref_bits_16 rfl (lv_at hl 0 rfl) ?_
    refine va_get (D := D) (ci := 9) (v := .int (nI 1)) (C := R_Ref) (T := T_Ref) (N := 32) hx hb ht in_Ref hown hK hP 0 rfl rfl 0 (by decide) (ht _ kl_Ref_72) (fun _ h9 => h9) rfl d_Ref_bits_17 ?_
    refine ri_if_gt hx hb (by omega) d_Ref_bits_20 (tgt := 32) (by decide) (fun h103 => ?_) (fun h103 => ?_)
    · refine lv_iconst (v := nI 0) hx hb d_Ref_bits_32 (by decide) ?_
      refine lv_goto hx hb d_Ref_bits_33 (tgt := 42) (by decide) ?_
      exact ct_iret hQ hx hb hr hlk hP hD hS hK (by omega) (by omega) d_Ref_bits_42 (⟨qs, ma, ca, na, wt, fR, fN, fL, fH, uf, fM, fC, fT, fD, fX, MK, MF, rfl, hwt, hAd, hM, hC, hN, hPd⟩)
    · exact absurd h103 (by decide)
  · exact absurd h102 (fun z => by cases z)
theorem rf_isE_of {eb : Nat → Option Nat} {x : Int32} (h : rf_isE eb x = true) : ∃ r b, r < 12 ∧ x = nI r ∧ eb r = some b := by
  have h1 : rg 0 12 x = true := by
    cases h2 : rg 0 12 x with
    | true => rfl
    | false => rw [rf_isE_f h2] at h; cases h
  obtain ⟨r, hr, rfl⟩ := rg_n (k := 12) h1
  rw [rf_isE_n hr] at h
  cases hq : eb r with
  | none => rw [hq] at h; cases h
  | some b => exact ⟨r, b, hr, rfl, hq⟩
theorem rf_isE_s {eb : Nat → Option Nat} {r b : Nat} (hr : r < 12) (h : eb r = some b) : rf_isE eb (nI r) = true := by
  rw [rf_isE_n hr, h]
  rfl
set_option maxHeartbeats 1600000 in
set_option maxRecDepth 100000 in
theorem k_Ref_report (l : Launch) (D : va_G) (cI cZ cJ cG : ClassId) {h : Nat} {cd : Int32} {S : bm_S} {ws : va_W} (hR : rf_R cI cZ cJ h cd S ws) (hi : rf_i S) (e9 b : Nat) (he : e9 < 12) (hee : S.eb e9 = some b) (hn9 : S.G.2.2.2.1.2.1 < 3900) : ct_V l D kls (ty4 cI cZ cJ cG) y_Ref_report ws_Ref_report (rm_ 3 66 0 0) [.ref h, .int (nI e9)] (ws) (fun u => rf_R cI cZ cJ h (nI 0) (bm_rep e9 S) u) 0 0 := by
  obtain ⟨qs, ma, ca, na, wt, fR, fN, fL, fH, uf, fM, fC, fT, fD, fX, MK, MF, rfl, hwt, hAd, hM, hC, hN, hPd⟩ := hR
  obtain ⟨hsi, heb, h00, hA9, hm9, hcp9, hnt9, hpk9, hgi⟩ := hi
  have hok := hsi.1
  have hkn9 := hsi.2.1
  have hlk9 := hsi.2.2.1
  have hma := hM.1
  refine ct_enterV (cc := b_Ref_report) (maxL := 3) (ret := none) (by decide +kernel) (Nat.le_of_ble_eq_true rfl) ?_
  intro p e s m args below meth c hx hb hml hr ht hown hlk hnm A Q hA hK hP hD hQ ls hl
  have hown : s.vm.findClass R_Ref = some m.cls := hown
  have hS : va_S A s.heap s.heap [] := va_S.rf
  have hl : lv_has ls 3 [(0, .ref h), (1, .int (nI e9))] := hl
  have hrt := hsi.2.2.2.2.1
  have loop : ∀ (k j : Nat) (fJ : Nat → Int32) (H : Heap) (locs : List Loc) (ls : Array Slot), j + k = 8 → (nr_R fJ na (bm_tellA S.eb e9 S.G j).2.2.2.1) → va_P D kls (List.flatten [[rf_o h qs (nI 0) ma S.T.2.2.1.2.1 ca S.D.2.1.2.1 na ((bm_tellA S.eb e9 S.G j).2.2.2.1.2.1) S.D.1.2.1 S.D.2.2.1 S.D.2.2.2.1 S.D.2.2.2.2 S.lost], [(qs 0, .inl (cI, 12, .inl (lI S.eb)))], [(qs 1, .inl (cI, 144, .inl (fl (gN S.lk))))], [(qs 2, .inl (cI, 144, .inl (fl (gN wt))))], [(qs 3, .inl (cZ, 144, .inl (fl (kB S.kn))))], [(qs 4, .inl (cI, 1600, .inl fR))], [(qs 5, .inl (cI, 1600, .inl fN))], [(qs 6, .inl (cJ, 1600, .inr (.inl fL)))], [(qs 7, .inl (cJ, 1600, .inr (.inl fH)))], [(qs 8, .inl (cZ, 1600, .inl (dB uf)))], [(qs 9, .inl (cI, 144, .inl (fl (sI S.T.2.1))))], [(qs 10, .inl (cI, 4000, .inl fM))], [(qs 11, .inl (cJ, 4000, .inr (.inl fC)))], [(qs 12, .inl (cI, 4000, .inl fJ))], [(qs 13, .inl (cI, 8, .inl (lI S.G.1)))], [(qs 14, .inl (cI, 8, .inl S.G.2.1))], [(qs 15, .inl (cI, 96, .inl (fl (gN (rT (bm_tellA S.eb e9 S.G j).2.2.1)))))], [(qs 16, .inl (cI, 901, .inl fD))], [(qs 17, .inl (cI, 901, .inl fX))], [(qs 18, .inl (cI, 144, .inl (fl MK)))], [(qs 19, .inl (cI, 144, .inl (fl MF)))]]) H → va_D A (List.flatten [[rf_o h qs (nI 0) ma S.T.2.2.1.2.1 ca S.D.2.1.2.1 na ((bm_tellA S.eb e9 S.G j).2.2.2.1.2.1) S.D.1.2.1 S.D.2.2.1 S.D.2.2.2.1 S.D.2.2.2.2 S.lost], [(qs 0, .inl (cI, 12, .inl (lI S.eb)))], [(qs 1, .inl (cI, 144, .inl (fl (gN S.lk))))], [(qs 2, .inl (cI, 144, .inl (fl (gN wt))))], [(qs 3, .inl (cZ, 144, .inl (fl (kB S.kn))))], [(qs 4, .inl (cI, 1600, .inl fR))], [(qs 5, .inl (cI, 1600, .inl fN))], [(qs 6, .inl (cJ, 1600, .inr (.inl fL)))], [(qs 7, .inl (cJ, 1600, .inr (.inl fH)))], [(qs 8, .inl (cZ, 1600, .inl (dB uf)))], [(qs 9, .inl (cI, 144, .inl (fl (sI S.T.2.1))))], [(qs 10, .inl (cI, 4000, .inl fM))], [(qs 11, .inl (cJ, 4000, .inr (.inl fC)))], [(qs 12, .inl (cI, 4000, .inl fJ))], [(qs 13, .inl (cI, 8, .inl (lI S.G.1)))], [(qs 14, .inl (cI, 8, .inl S.G.2.1))], [(qs 15, .inl (cI, 96, .inl (fl (gN (rT (bm_tellA S.eb e9 S.G j).2.2.1)))))], [(qs 16, .inl (cI, 901, .inl fD))], [(qs 17, .inl (cI, 901, .inl fX))], [(qs 18, .inl (cI, 144, .inl (fl MK)))], [(qs 19, .inl (cI, 144, .inl (fl MF)))]]) → va_S A s.heap H locs → lv_has ls 3 [(2, .int (nI j)), (0, .ref h), (1, .int (nI e9))] → W p l e (rm_ 3 66 0 0) s m args below meth c H locs 0 0 Q (F0 m 41 ls []) := by
    intro k
    induction k with
    | zero =>
      intro j fJ H locs ls hk hJ hP hD hS hl
      refine lv_iload_n hx hb d_Ref_report_41 rfl (lv_at hl 0 rfl) ?_
      refine lv_bipush (v := nI 8) hx hb d_Ref_report_42 (by decide) ?_
      refine ri_icmp_ge hx hb (by omega) (by omega) d_Ref_report_44 (tgt := 68) (by decide) (fun hc9 => ?_) (fun hc9 => ?_)
      · have hj : j = 8 := by omega
        subst hj
        have h8a := bm_tellA_1 S.eb e9 S.G 8
        rw [← h8a.1, ← h8a.2.1] at hP hD
        have hP : va_P D kls (List.flatten [[rf_o h qs (nI 0) ma S.T.2.2.1.2.1 ca S.D.2.1.2.1 na ((bm_tellA S.eb e9 S.G 8).2.2.2.1.2.1) S.D.1.2.1 S.D.2.2.1 S.D.2.2.2.1 S.D.2.2.2.2 S.lost], [(qs 0, .inl (cI, 12, .inl (lI S.eb)))], [(qs 1, .inl (cI, 144, .inl (fl (gN S.lk))))], [(qs 2, .inl (cI, 144, .inl (fl (gN wt))))], [(qs 3, .inl (cZ, 144, .inl (fl (kB S.kn))))], [(qs 4, .inl (cI, 1600, .inl fR))], [(qs 5, .inl (cI, 1600, .inl fN))], [(qs 6, .inl (cJ, 1600, .inr (.inl fL)))], [(qs 7, .inl (cJ, 1600, .inr (.inl fH)))], [(qs 8, .inl (cZ, 1600, .inl (dB uf)))], [(qs 9, .inl (cI, 144, .inl (fl (sI S.T.2.1))))], [(qs 10, .inl (cI, 4000, .inl fM))], [(qs 11, .inl (cJ, 4000, .inr (.inl fC)))], [(qs 12, .inl (cI, 4000, .inl fJ))], [(qs 13, .inl (cI, 8, .inl (lI ((bm_tellA S.eb e9 S.G 8).1))))], [(qs 14, .inl (cI, 8, .inl ((bm_tellA S.eb e9 S.G 8).2.1)))], [(qs 15, .inl (cI, 96, .inl (fl (gN (rT (bm_tellA S.eb e9 S.G 8).2.2.1)))))], [(qs 16, .inl (cI, 901, .inl fD))], [(qs 17, .inl (cI, 901, .inl fX))], [(qs 18, .inl (cI, 144, .inl (fl MK)))], [(qs 19, .inl (cI, 144, .inl (fl MF)))]]) H := hP
        have hD : va_D A (List.flatten [[rf_o h qs (nI 0) ma S.T.2.2.1.2.1 ca S.D.2.1.2.1 na ((bm_tellA S.eb e9 S.G 8).2.2.2.1.2.1) S.D.1.2.1 S.D.2.2.1 S.D.2.2.2.1 S.D.2.2.2.2 S.lost], [(qs 0, .inl (cI, 12, .inl (lI S.eb)))], [(qs 1, .inl (cI, 144, .inl (fl (gN S.lk))))], [(qs 2, .inl (cI, 144, .inl (fl (gN wt))))], [(qs 3, .inl (cZ, 144, .inl (fl (kB S.kn))))], [(qs 4, .inl (cI, 1600, .inl fR))], [(qs 5, .inl (cI, 1600, .inl fN))], [(qs 6, .inl (cJ, 1600, .inr (.inl fL)))], [(qs 7, .inl (cJ, 1600, .inr (.inl fH)))], [(qs 8, .inl (cZ, 1600, .inl (dB uf)))], [(qs 9, .inl (cI, 144, .inl (fl (sI S.T.2.1))))], [(qs 10, .inl (cI, 4000, .inl fM))], [(qs 11, .inl (cJ, 4000, .inr (.inl fC)))], [(qs 12, .inl (cI, 4000, .inl fJ))], [(qs 13, .inl (cI, 8, .inl (lI ((bm_tellA S.eb e9 S.G 8).1))))], [(qs 14, .inl (cI, 8, .inl ((bm_tellA S.eb e9 S.G 8).2.1)))], [(qs 15, .inl (cI, 96, .inl (fl (gN (rT (bm_tellA S.eb e9 S.G 8).2.2.1)))))], [(qs 16, .inl (cI, 901, .inl fD))], [(qs 17, .inl (cI, 901, .inl fX))], [(qs 18, .inl (cI, 144, .inl (fl MK)))], [(qs 19, .inl (cI, 144, .inl (fl MF)))]]) := hD
        exact ct_vret hQ hx hb hr hlk hP hD hS hK (by omega) (by omega) d_Ref_report_68 (⟨qs, ma, ca, na, wt, fR, fN, fL, fH, uf, fM, fC, fJ, fD, fX, MK, MF, rfl, hwt, hAd, hM, hC, hJ, hPd⟩)
      · exact absurd hc9 (by omega)
    | succ k ih =>
      intro j fJ H locs ls hk hJ hP hD hS hl
      refine lv_iload_n hx hb d_Ref_report_41 rfl (lv_at hl 0 rfl) ?_
      refine lv_bipush (v := nI 8) hx hb d_Ref_report_42 (by decide) ?_
      refine ri_icmp_ge hx hb (by omega) (by omega) d_Ref_report_44 (tgt := 68) (by decide) (fun hc9 => ?_) (fun hc9 => ?_)
      · exact absurd hc9 (by omega)
      · have hsz := tellA_n S.eb e9 S.G j
        have hrcG : ∀ a b, (bm_tellA S.eb e9 S.G j).2.2.1 a b ≤ 100 := by rw [(bm_tellA_1 S.eb e9 S.G j).2.2]; exact hgi.1
        refine lv_aload_n hx hb d_Ref_report_47 rfl (lv_at hl 1 rfl) ?_
        refine va_get (D := D) (ci := 9) (v := .ref (qs 13)) (C := R_Ref) (T := T_Ref) (N := 32) hx hb ht in_Ref hown hK hP 0 rfl rfl 20 (by decide) (ht _ kl_Ref_51) (fun _ h9 => h9) rfl d_Ref_report_48 ?_
        refine lv_iload_n hx hb d_Ref_report_51 rfl (lv_at hl 0 rfl) ?_
        refine ri_iald hx hb hK hP 14 0 rfl rfl (j := j) (by omega) (by omega) d_Ref_report_52 ?_
        refine W.eq (g2 := F0 m 53 ls [.int (bm_oI (S.G.1 j))]) rfl ?_
        refine lv_if_lt hx hb d_Ref_report_53 (tgt := 62) (by decide) (fun h53 => ?_) (fun h53 => ?_)
        · refine ri_iinc hx hb d_Ref_report_62 hl (k := 0) rfl (by decide) rfl (fun ls hl => ?_)
          have hl : lv_has ls 3 [(2, .int (nI (j + 1))), (0, .ref h), (1, .int (nI e9))] := hl
          refine lv_goto hx hb d_Ref_report_65 (tgt := 41) (by decide) ?_
          have hst : (bm_tellA S.eb e9 S.G (j + 1)) = (bm_tellA S.eb e9 S.G j) := if_neg (fun z => z ((oI_lt (fun b z => Nat.lt_trans (hgi.2.2.1 _ b z) (by decide))).mp h53))
          exact ih (j + 1) fJ H locs ls (by omega) (by rw [hst]; exact hJ) (by rw [hst]; exact hP) (by rw [hst]; exact hD) hS hl
        · refine lv_aload_n hx hb d_Ref_report_56 rfl (lv_at hl 1 rfl) ?_
          refine lv_iload_n hx hb d_Ref_report_57 rfl (lv_at hl 0 rfl) ?_
          refine lv_iload_n hx hb d_Ref_report_58 rfl (lv_at hl 2 rfl) ?_
          refine ct_callVV (C := R_Ref) (ci := 9) (As := [.int (nI j), .int (nI e9)]) (rest := []) ⟨hx, hb, hml, hown, ht⟩ (k_Ref_tell l D cI cZ cJ cG (rc := (bm_tellA S.eb e9 S.G j).2.2.1) (M := (bm_tellA S.eb e9 S.G j).2.2.2.1) hJ (by omega) j e9 b (by omega) he hee (heb _ _ hee) hrcG) (cb_V ht kc_Ref_tell kl_Ref_163 kn_Ref ki_Ref_tell ks_Ref_tell hd_Ref_tell ⟨Nat.le_of_ble_eq_true rfl, Nat.le_of_ble_eq_true rfl⟩) (List.mem_of_getElem? (i := 0) rfl) rfl rfl (wd_ct (Bs := [[rf_o h qs (nI 0) ma S.T.2.2.1.2.1 ca S.D.2.1.2.1 na ((bm_tellA S.eb e9 S.G j).2.2.2.1.2.1) S.D.1.2.1 S.D.2.2.1 S.D.2.2.2.1 S.D.2.2.2.2 S.lost], [(qs 0, .inl (cI, 12, .inl (lI S.eb)))], [(qs 1, .inl (cI, 144, .inl (fl (gN S.lk))))], [(qs 2, .inl (cI, 144, .inl (fl (gN wt))))], [(qs 3, .inl (cZ, 144, .inl (fl (kB S.kn))))], [(qs 4, .inl (cI, 1600, .inl fR))], [(qs 5, .inl (cI, 1600, .inl fN))], [(qs 6, .inl (cJ, 1600, .inr (.inl fL)))], [(qs 7, .inl (cJ, 1600, .inr (.inl fH)))], [(qs 8, .inl (cZ, 1600, .inl (dB uf)))], [(qs 9, .inl (cI, 144, .inl (fl (sI S.T.2.1))))], [(qs 10, .inl (cI, 4000, .inl fM))], [(qs 11, .inl (cJ, 4000, .inr (.inl fC)))], [(qs 12, .inl (cI, 4000, .inl fJ))], [(qs 13, .inl (cI, 8, .inl (lI S.G.1)))], [(qs 14, .inl (cI, 8, .inl S.G.2.1))], [(qs 15, .inl (cI, 96, .inl (fl (gN (rT (bm_tellA S.eb e9 S.G j).2.2.1)))))], [(qs 16, .inl (cI, 901, .inl fD))], [(qs 17, .inl (cI, 901, .inl fX))], [(qs 18, .inl (cI, 144, .inl (fl MK)))], [(qs 19, .inl (cI, 144, .inl (fl MF)))]]) 21 rfl [0, 1, 13, 16] [2, 3, 4, 5, 6, 7, 8, 9, 10, 11, 12, 14, 15, 17, 18, 19, 20] (by decide) rfl) hK hP hD hS hA rfl hl.1 rfl (Nat.le_of_ble_eq_true rfl) ⟨(show 0 + 0 ≤ 0 by omega), (show 0 + 0 ≤ 0 by omega)⟩ d_Ref_report_59 (fun u104 H locs hu104 hP hD hS => ?_)
          obtain ⟨fT2, rfl, hN2⟩ := hu104
          refine W.widen (k := 0) (n := 0) (Nat.le_refl _) (Nat.le_refl _) ?_
          have hP := wd_nP (N := [[rf_o h qs (nI 0) ma S.T.2.2.1.2.1 ca S.D.2.1.2.1 na ((bm_tell S.eb e9 j (bm_tellA S.eb e9 S.G j)).2.2.2.1.2.1) S.D.1.2.1 S.D.2.2.1 S.D.2.2.2.1 S.D.2.2.2.2 S.lost], [(qs 0, .inl (cI, 12, .inl (lI S.eb)))], [(qs 12, .inl (cI, 4000, .inl fT2))], [(qs 15, .inl (cI, 96, .inl (fl (gN (rT (bm_tellA S.eb e9 S.G j).2.2.1)))))]]) rfl 21 rfl [0, 1, 4, 5, 6, 7, 8, 9, 10, 11, 12, 13, 14, 2, 15, 16, 3, 17, 18, 19, 20] (by decide) hP
          have hD := wd_nD (N := [[rf_o h qs (nI 0) ma S.T.2.2.1.2.1 ca S.D.2.1.2.1 na ((bm_tell S.eb e9 j (bm_tellA S.eb e9 S.G j)).2.2.2.1.2.1) S.D.1.2.1 S.D.2.2.1 S.D.2.2.2.1 S.D.2.2.2.2 S.lost], [(qs 0, .inl (cI, 12, .inl (lI S.eb)))], [(qs 12, .inl (cI, 4000, .inl fT2))], [(qs 15, .inl (cI, 96, .inl (fl (gN (rT (bm_tellA S.eb e9 S.G j).2.2.1)))))]]) rfl 21 rfl [0, 1, 4, 5, 6, 7, 8, 9, 10, 11, 12, 13, 14, 2, 15, 16, 3, 17, 18, 19, 20] (by decide) hD
          have hP : va_P D kls (List.flatten [[rf_o h qs (nI 0) ma S.T.2.2.1.2.1 ca S.D.2.1.2.1 na ((bm_tell S.eb e9 j (bm_tellA S.eb e9 S.G j)).2.2.2.1.2.1) S.D.1.2.1 S.D.2.2.1 S.D.2.2.2.1 S.D.2.2.2.2 S.lost], [(qs 0, .inl (cI, 12, .inl (lI S.eb)))], [(qs 1, .inl (cI, 144, .inl (fl (gN S.lk))))], [(qs 2, .inl (cI, 144, .inl (fl (gN wt))))], [(qs 3, .inl (cZ, 144, .inl (fl (kB S.kn))))], [(qs 4, .inl (cI, 1600, .inl fR))], [(qs 5, .inl (cI, 1600, .inl fN))], [(qs 6, .inl (cJ, 1600, .inr (.inl fL)))], [(qs 7, .inl (cJ, 1600, .inr (.inl fH)))], [(qs 8, .inl (cZ, 1600, .inl (dB uf)))], [(qs 9, .inl (cI, 144, .inl (fl (sI S.T.2.1))))], [(qs 10, .inl (cI, 4000, .inl fM))], [(qs 11, .inl (cJ, 4000, .inr (.inl fC)))], [(qs 12, .inl (cI, 4000, .inl fT2))], [(qs 13, .inl (cI, 8, .inl (lI S.G.1)))], [(qs 14, .inl (cI, 8, .inl S.G.2.1))], [(qs 15, .inl (cI, 96, .inl (fl (gN (rT (bm_tellA S.eb e9 S.G j).2.2.1)))))], [(qs 16, .inl (cI, 901, .inl fD))], [(qs 17, .inl (cI, 901, .inl fX))], [(qs 18, .inl (cI, 144, .inl (fl MK)))], [(qs 19, .inl (cI, 144, .inl (fl MF)))]]) H := hP
          have hD : va_D A (List.flatten [[rf_o h qs (nI 0) ma S.T.2.2.1.2.1 ca S.D.2.1.2.1 na ((bm_tell S.eb e9 j (bm_tellA S.eb e9 S.G j)).2.2.2.1.2.1) S.D.1.2.1 S.D.2.2.1 S.D.2.2.2.1 S.D.2.2.2.2 S.lost], [(qs 0, .inl (cI, 12, .inl (lI S.eb)))], [(qs 1, .inl (cI, 144, .inl (fl (gN S.lk))))], [(qs 2, .inl (cI, 144, .inl (fl (gN wt))))], [(qs 3, .inl (cZ, 144, .inl (fl (kB S.kn))))], [(qs 4, .inl (cI, 1600, .inl fR))], [(qs 5, .inl (cI, 1600, .inl fN))], [(qs 6, .inl (cJ, 1600, .inr (.inl fL)))], [(qs 7, .inl (cJ, 1600, .inr (.inl fH)))], [(qs 8, .inl (cZ, 1600, .inl (dB uf)))], [(qs 9, .inl (cI, 144, .inl (fl (sI S.T.2.1))))], [(qs 10, .inl (cI, 4000, .inl fM))], [(qs 11, .inl (cJ, 4000, .inr (.inl fC)))], [(qs 12, .inl (cI, 4000, .inl fT2))], [(qs 13, .inl (cI, 8, .inl (lI S.G.1)))], [(qs 14, .inl (cI, 8, .inl S.G.2.1))], [(qs 15, .inl (cI, 96, .inl (fl (gN (rT (bm_tellA S.eb e9 S.G j).2.2.1)))))], [(qs 16, .inl (cI, 901, .inl fD))], [(qs 17, .inl (cI, 901, .inl fX))], [(qs 18, .inl (cI, 144, .inl (fl MK)))], [(qs 19, .inl (cI, 144, .inl (fl MF)))]]) := hD
          refine W.eq (g2 := F0 m 62 ls []) rfl ?_
          refine ri_iinc hx hb d_Ref_report_62 hl (k := 0) rfl (by decide) rfl (fun ls hl => ?_)
          have hl : lv_has ls 3 [(2, .int (nI (j + 1))), (0, .ref h), (1, .int (nI e9))] := hl
          refine lv_goto hx hb d_Ref_report_65 (tgt := 41) (by decide) ?_
          have hst : (bm_tellA S.eb e9 S.G (j + 1)) = bm_tell S.eb e9 j (bm_tellA S.eb e9 S.G j) := if_pos (fun z => h53 ((oI_lt (fun b z => Nat.lt_trans (hgi.2.2.1 _ b z) (by decide))).mpr z))
          exact ih (j + 1) fT2 H locs ls (by omega) (by rw [hst]; exact hN2) (by rw [hst]; exact hP) (by rw [hst]; exact hD) hS hl
  refine lv_aload_n hx hb d_Ref_report_0 rfl (lv_at hl 0 rfl) ?_
  refine lv_aload_n hx hb d_Ref_report_1 rfl (lv_at hl 0 rfl) ?_
  refine va_get (D := D) (ci := 9) (v := .int (nI S.G.2.2.2.1.2.1)) (C := R_Ref) (T := T_Ref) (N := 32) hx hb ht in_Ref hown hK hP 0 rfl rfl 18 (by decide) (ht _ kl_Ref_151) (fun _ h9 => h9) rfl d_Ref_report_2 ?_
  refine lv_sipush (v := nI 3900) hx hb d_Ref_report_5 (by decide) ?_
  refine ri_icmp_lt hx hb (by omega) (by omega) d_Ref_report_8 (tgt := 15) (by decide) (fun h8 => ?_) (fun h8 => ?_)
  · refine lv_aload_n hx hb d_Ref_report_15 rfl (lv_at hl 0 rfl) ?_
    refine lv_iload_n hx hb d_Ref_report_16 rfl (lv_at hl 1 rfl) ?_
    refine ct_rdV (C := R_Ref) (ci := 9) (As := [.int (nI e9)]) (rest := [.ref h]) ⟨hx, hb, hml, hown, ht⟩ (k_Ref_isEdge l D cI cZ cJ cG heb (nI e9)) (cb_V ht kc_Ref_isEdge kl_Ref_148 kn_Ref ki_Ref_isEdge ks_Ref_isEdge hd_Ref_isEdge ⟨Nat.le_of_ble_eq_true rfl, Nat.le_of_ble_eq_true rfl⟩) (List.mem_of_getElem? (i := 0) rfl) rfl rfl (wd_ct (Bs := [[rf_o h qs cd ma S.T.2.2.1.2.1 ca S.D.2.1.2.1 na S.G.2.2.2.1.2.1 S.D.1.2.1 S.D.2.2.1 S.D.2.2.2.1 S.D.2.2.2.2 S.lost], [(qs 0, .inl (cI, 12, .inl (lI S.eb)))], [(qs 1, .inl (cI, 144, .inl (fl (gN S.lk))))], [(qs 2, .inl (cI, 144, .inl (fl (gN wt))))], [(qs 3, .inl (cZ, 144, .inl (fl (kB S.kn))))], [(qs 4, .inl (cI, 1600, .inl fR))], [(qs 5, .inl (cI, 1600, .inl fN))], [(qs 6, .inl (cJ, 1600, .inr (.inl fL)))], [(qs 7, .inl (cJ, 1600, .inr (.inl fH)))], [(qs 8, .inl (cZ, 1600, .inl (dB uf)))], [(qs 9, .inl (cI, 144, .inl (fl (sI S.T.2.1))))], [(qs 10, .inl (cI, 4000, .inl fM))], [(qs 11, .inl (cJ, 4000, .inr (.inl fC)))], [(qs 12, .inl (cI, 4000, .inl fT))], [(qs 13, .inl (cI, 8, .inl (lI S.G.1)))], [(qs 14, .inl (cI, 8, .inl S.G.2.1))], [(qs 15, .inl (cI, 96, .inl (fl (gN (rT S.G.2.2.1)))))], [(qs 16, .inl (cI, 901, .inl fD))], [(qs 17, .inl (cI, 901, .inl fX))], [(qs 18, .inl (cI, 144, .inl (fl MK)))], [(qs 19, .inl (cI, 144, .inl (fl MF)))]]) 21 rfl [0, 1] [2, 3, 4, 5, 6, 7, 8, 9, 10, 11, 12, 13, 14, 15, 16, 17, 18, 19, 20] (by decide) rfl) hK hP hD hS hA rfl hl.1 rfl (Nat.le_of_ble_eq_true rfl) ⟨(show 0 + 0 ≤ 0 by omega), (show 0 + 0 ≤ 0 by omega)⟩ d_Ref_report_17 (fun rhr106 H locs hr106 hP hD hS => ?_)
    subst hr106
    refine W.eq (g2 := F0 m 20 ls [.int (bI true), .ref h]) (congrArg (fun z => F0 m 20 ls (.int z :: [.ref h])) (congrArg bI (rf_isE_s he hee))) ?_
    refine ri_ifeqB hx hb d_Ref_report_20 (tgt := 27) (by decide) (fun h107 => ?_) (fun h107 => ?_)
    · exact absurd h107 (fun z => by cases z)
    · refine lv_iconst (v := nI 0) hx hb d_Ref_report_23 (by decide) ?_
      refine lv_goto hx hb d_Ref_report_24 (tgt := 28) (by decide) ?_
      refine va_put (D := D) (ci := 9) (v := .int (nI 0)) (ty := .int) (C := R_Ref) (T := T_Ref) (N := 32) hx hb ht in_Ref t_Ref ok_Ref nm_Ref hown hK hP hD hS 0 rfl rfl 0 (by decide) (ht _ kl_Ref_72) (fun _ h9 => h9) rfl (by decide +kernel) rfl rfl (Nat.le_of_ble_eq_true rfl) d_Ref_report_28 (fun H locs hP hD hS => ?_)
      have hP : va_P D kls (List.flatten [[rf_o h qs (nI 0) ma S.T.2.2.1.2.1 ca S.D.2.1.2.1 na S.G.2.2.2.1.2.1 S.D.1.2.1 S.D.2.2.1 S.D.2.2.2.1 S.D.2.2.2.2 S.lost], [(qs 0, .inl (cI, 12, .inl (lI S.eb)))], [(qs 1, .inl (cI, 144, .inl (fl (gN S.lk))))], [(qs 2, .inl (cI, 144, .inl (fl (gN wt))))], [(qs 3, .inl (cZ, 144, .inl (fl (kB S.kn))))], [(qs 4, .inl (cI, 1600, .inl fR))], [(qs 5, .inl (cI, 1600, .inl fN))], [(qs 6, .inl (cJ, 1600, .inr (.inl fL)))], [(qs 7, .inl (cJ, 1600, .inr (.inl fH)))], [(qs 8, .inl (cZ, 1600, .inl (dB uf)))], [(qs 9, .inl (cI, 144, .inl (fl (sI S.T.2.1))))], [(qs 10, .inl (cI, 4000, .inl fM))], [(qs 11, .inl (cJ, 4000, .inr (.inl fC)))], [(qs 12, .inl (cI, 4000, .inl fT))], [(qs 13, .inl (cI, 8, .inl (lI S.G.1)))], [(qs 14, .inl (cI, 8, .inl S.G.2.1))], [(qs 15, .inl (cI, 96, .inl (fl (gN (rT S.G.2.2.1)))))], [(qs 16, .inl (cI, 901, .inl fD))], [(qs 17, .inl (cI, 901, .inl fX))], [(qs 18, .inl (cI, 144, .inl (fl MK)))], [(qs 19, .inl (cI, 144, .inl (fl MF)))]]) H := hP
      have hD : va_D A (List.flatten [[rf_o h qs (nI 0) ma S.T.2.2.1.2.1 ca S.D.2.1.2.1 na S.G.2.2.2.1.2.1 S.D.1.2.1 S.D.2.2.1 S.D.2.2.2.1 S.D.2.2.2.2 S.lost], [(qs 0, .inl (cI, 12, .inl (lI S.eb)))], [(qs 1, .inl (cI, 144, .inl (fl (gN S.lk))))], [(qs 2, .inl (cI, 144, .inl (fl (gN wt))))], [(qs 3, .inl (cZ, 144, .inl (fl (kB S.kn))))], [(qs 4, .inl (cI, 1600, .inl fR))], [(qs 5, .inl (cI, 1600, .inl fN))], [(qs 6, .inl (cJ, 1600, .inr (.inl fL)))], [(qs 7, .inl (cJ, 1600, .inr (.inl fH)))], [(qs 8, .inl (cZ, 1600, .inl (dB uf)))], [(qs 9, .inl (cI, 144, .inl (fl (sI S.T.2.1))))], [(qs 10, .inl (cI, 4000, .inl fM))], [(qs 11, .inl (cJ, 4000, .inr (.inl fC)))], [(qs 12, .inl (cI, 4000, .inl fT))], [(qs 13, .inl (cI, 8, .inl (lI S.G.1)))], [(qs 14, .inl (cI, 8, .inl S.G.2.1))], [(qs 15, .inl (cI, 96, .inl (fl (gN (rT S.G.2.2.1)))))], [(qs 16, .inl (cI, 901, .inl fD))], [(qs 17, .inl (cI, 901, .inl fX))], [(qs 18, .inl (cI, 144, .inl (fl MK)))], [(qs 19, .inl (cI, 144, .inl (fl MF)))]]) := hD
      refine lv_aload_n hx hb d_Ref_report_31 rfl (lv_at hl 0 rfl) ?_
      refine va_get (D := D) (ci := 9) (v := .int (nI 0)) (C := R_Ref) (T := T_Ref) (N := 32) hx hb ht in_Ref hown hK hP 0 rfl rfl 0 (by decide) (ht _ kl_Ref_72) (fun _ h9 => h9) rfl d_Ref_report_32 ?_
      refine ri_if_le hx hb (by omega) d_Ref_report_35 (tgt := 39) (by decide) (fun h108 => ?_) (fun h108 => ?_)
      · refine lv_iconst (v := nI 0) hx hb d_Ref_report_39 (by decide) ?_
        refine lv_istore_n hx hb d_Ref_report_40 rfl hl (by decide) rfl (fun ls hl => ?_)
        have hl : lv_has ls 3 [(2, .int (nI 0)), (0, .ref h), (1, .int (nI e9))] := hl
        exact loop 8 0 fT H locs ls (by omega) hN hP hD hS hl
      · exact absurd h108 (by decide)
  · exact absurd h8 (by omega)
set_option maxHeartbeats 1600000 in
set_option maxRecDepth 100000 in
theorem n_Ref_report_room (l : Launch) (D : va_G) (cI cZ cJ cG : ClassId) {h : Nat} {cd : Int32} {S : bm_S} {ws : va_W} (hR : rf_R cI cZ cJ h cd S ws) (hi : rf_i S) (x : Int32) (hm2 : 3900 ≤ S.G.2.2.2.1.2.1) : ct_V l D kls (ty4 cI cZ cJ cG) y_Ref_report ws_Ref_report (rm_ 3 66 0 0) [.ref h, .int x] (ws) (fun u => rf_R cI cZ cJ h (nI 1) S u) 0 0 := by
  obtain ⟨qs, ma, ca, na, wt, fR, fN, fL, fH, uf, fM, fC, fT, fD, fX, MK, MF, rfl, hwt, hAd, hM, hC, hN, hPd⟩ := hR
  obtain ⟨hsi, heb, h00, hA9, hm9, hcp9, hnt9, hpk9, hgi⟩ := hi
  have hok := hsi.1
  have hkn9 := hsi.2.1
  have hlk9 := hsi.2.2.1
  have hma := hM.1
  refine ct_enterV (cc := b_Ref_report) (maxL := 3) (ret := none) (by decide +kernel) (Nat.le_of_ble_eq_true rfl) ?_
  intro p e s m args below meth c hx hb hml hr ht hown hlk hnm A Q hA hK hP hD hQ ls hl
  have hown : s.vm.findClass R_Ref = some m.cls := hown
  have hS : va_S A s.heap s.heap [] := va_S.rf
  have hl : lv_has ls 3 [(0, .ref h), (1, .int x)] := hl
  have hrt := hsi.2.2.2.2.1
  refine lv_aload_n hx hb d_Ref_report_0 rfl (lv_at hl 0 rfl) ?_
  refine lv_aload_n hx hb d_Ref_report_1 rfl (lv_at hl 0 rfl) ?_
  refine va_get (D := D) (ci := 9) (v := .int (nI S.G.2.2.2.1.2.1)) (C := R_Ref) (T := T_Ref) (N := 32) hx hb ht in_Ref hown hK hP 0 rfl rfl 18 (by decide) (ht _ kl_Ref_151) (fun _ h9 => h9) rfl d_Ref_report_2 ?_
  refine lv_sipush (v := nI 3900) hx hb d_Ref_report_5 (by decide) ?_
  refine ri_icmp_lt hx hb (by omega) (by omega) d_Ref_report_8 (tgt := 15) (by decide) (fun h8 => ?_) (fun h8 => ?_)
  · exact absurd h8 (by omega)
  · refine lv_iconst (v := nI 1) hx hb d_Ref_report_11 (by decide) ?_
    refine lv_goto hx hb d_Ref_report_12 (tgt := 28) (by decide) ?_
    refine va_put (D := D) (ci := 9) (v := .int (nI 1)) (ty := .int) (C := R_Ref) (T := T_Ref) (N := 32) hx hb ht in_Ref t_Ref ok_Ref nm_Ref hown hK hP hD hS 0 rfl rfl 0 (by decide) (ht _ kl_Ref_72) (fun _ h9 => h9) rfl (by decide +kernel) rfl rfl (Nat.le_of_ble_eq_true rfl) d_Ref_report_28 (fun H locs hP hD hS => ?_)
    have hP : va_P D kls (List.flatten [[rf_o h qs (nI 1) ma S.T.2.2.1.2.1 ca S.D.2.1.2.1 na S.G.2.2.2.1.2.1 S.D.1.2.1 S.D.2.2.1 S.D.2.2.2.1 S.D.2.2.2.2 S.lost], [(qs 0, .inl (cI, 12, .inl (lI S.eb)))], [(qs 1, .inl (cI, 144, .inl (fl (gN S.lk))))], [(qs 2, .inl (cI, 144, .inl (fl (gN wt))))], [(qs 3, .inl (cZ, 144, .inl (fl (kB S.kn))))], [(qs 4, .inl (cI, 1600, .inl fR))], [(qs 5, .inl (cI, 1600, .inl fN))], [(qs 6, .inl (cJ, 1600, .inr (.inl fL)))], [(qs 7, .inl (cJ, 1600, .inr (.inl fH)))], [(qs 8, .inl (cZ, 1600, .inl (dB uf)))], [(qs 9, .inl (cI, 144, .inl (fl (sI S.T.2.1))))], [(qs 10, .inl (cI, 4000, .inl fM))], [(qs 11, .inl (cJ, 4000, .inr (.inl fC)))], [(qs 12, .inl (cI, 4000, .inl fT))], [(qs 13, .inl (cI, 8, .inl (lI S.G.1)))], [(qs 14, .inl (cI, 8, .inl S.G.2.1))], [(qs 15, .inl (cI, 96, .inl (fl (gN (rT S.G.2.2.1)))))], [(qs 16, .inl (cI, 901, .inl fD))], [(qs 17, .inl (cI, 901, .inl fX))], [(qs 18, .inl (cI, 144, .inl (fl MK)))], [(qs 19, .inl (cI, 144, .inl (fl MF)))]]) H := hP
    have hD : va_D A (List.flatten [[rf_o h qs (nI 1) ma S.T.2.2.1.2.1 ca S.D.2.1.2.1 na S.G.2.2.2.1.2.1 S.D.1.2.1 S.D.2.2.1 S.D.2.2.2.1 S.D.2.2.2.2 S.lost], [(qs 0, .inl (cI, 12, .inl (lI S.eb)))], [(qs 1, .inl (cI, 144, .inl (fl (gN S.lk))))], [(qs 2, .inl (cI, 144, .inl (fl (gN wt))))], [(qs 3, .inl (cZ, 144, .inl (fl (kB S.kn))))], [(qs 4, .inl (cI, 1600, .inl fR))], [(qs 5, .inl (cI, 1600, .inl fN))], [(qs 6, .inl (cJ, 1600, .inr (.inl fL)))], [(qs 7, .inl (cJ, 1600, .inr (.inl fH)))], [(qs 8, .inl (cZ, 1600, .inl (dB uf)))], [(qs 9, .inl (cI, 144, .inl (fl (sI S.T.2.1))))], [(qs 10, .inl (cI, 4000, .inl fM))], [(qs 11, .inl (cJ, 4000, .inr (.inl fC)))], [(qs 12, .inl (cI, 4000, .inl fT))], [(qs 13, .inl (cI, 8, .inl (lI S.G.1)))], [(qs 14, .inl (cI, 8, .inl S.G.2.1))], [(qs 15, .inl (cI, 96, .inl (fl (gN (rT S.G.2.2.1)))))], [(qs 16, .inl (cI, 901, .inl fD))], [(qs 17, .inl (cI, 901, .inl fX))], [(qs 18, .inl (cI, 144, .inl (fl MK)))], [(qs 19, .inl (cI, 144, .inl (fl MF)))]]) := hD
    refine lv_aload_n hx hb d_Ref_report_31 rfl (lv_at hl 0 rfl) ?_
    refine va_get (D := D) (ci := 9) (v := .int (nI 1)) (C := R_Ref) (T := T_Ref) (N := 32) hx hb ht in_Ref hown hK hP 0 rfl rfl 0 (by decide) (ht _ kl_Ref_72) (fun _ h9 => h9) rfl d_Ref_report_32 ?_
    refine ri_if_le hx hb (by omega) d_Ref_report_35 (tgt := 39) (by decide) (fun h102 => ?_) (fun h102 => ?_)
    · exact absurd h102 (by decide)
    · exact ct_vret hQ hx hb hr hlk hP hD hS hK (by omega) (by omega) d_Ref_report_38 (⟨qs, ma, ca, na, wt, fR, fN, fL, fH, uf, fM, fC, fT, fD, fX, MK, MF, rfl, hwt, hAd, hM, hC, hN, hPd⟩)
set_option maxHeartbeats 1600000 in
set_option maxRecDepth 100000 in
theorem n_Ref_report (l : Launch) (D : va_G) (cI cZ cJ cG : ClassId) {h : Nat} {cd : Int32} {S : bm_S} {ws : va_W} (hR : rf_R cI cZ cJ h cd S ws) (hi : rf_i S) (x : Int32) (hm2 : S.G.2.2.2.1.2.1 < 3900) (hno : rf_isE S.eb x = false) : ct_V l D kls (ty4 cI cZ cJ cG) y_Ref_report ws_Ref_report (rm_ 3 66 0 0) [.ref h, .int x] (ws) (fun u => rf_R cI cZ cJ h (nI 2) S u) 0 0 := by
  obtain ⟨qs, ma, ca, na, wt, fR, fN, fL, fH, uf, fM, fC, fT, fD, fX, MK, MF, rfl, hwt, hAd, hM, hC, hN, hPd⟩ := hR
  obtain ⟨hsi, heb, h00, hA9, hm9, hcp9, hnt9, hpk9, hgi⟩ := hi
  have hok := hsi.1
  have hkn9 := hsi.2.1
  have hlk9 := hsi.2.2.1
  have hma := hM.1
  refine ct_enterV (cc := b_Ref_report) (maxL := 3) (ret := none) (by decide +kernel) (Nat.le_of_ble_eq_true rfl) ?_
  intro p e s m args below meth c hx hb hml hr ht hown hlk hnm A Q hA hK hP hD hQ ls hl
  have hown : s.vm.findClass R_Ref = some m.cls := hown
  have hS : va_S A s.heap s.heap [] := va_S.rf
  have hl : lv_has ls 3 [(0, .ref h), (1, .int x)] := hl
  have hrt := hsi.2.2.2.2.1
  refine lv_aload_n hx hb d_Ref_report_0 rfl (lv_at hl 0 rfl) ?_
  refine lv_aload_n hx hb d_Ref_report_1 rfl (lv_at hl 0 rfl) ?_
  refine va_get (D := D) (ci := 9) (v := .int (nI S.G.2.2.2.1.2.1)) (C := R_Ref) (T := T_Ref) (N := 32) hx hb ht in_Ref hown hK hP 0 rfl rfl 18 (by decide) (ht _ kl_Ref_151) (fun _ h9 => h9) rfl d_Ref_report_2 ?_
  refine lv_sipush (v := nI 3900) hx hb d_Ref_report_5 (by decide) ?_
  refine ri_icmp_lt hx hb (by omega) (by omega) d_Ref_report_8 (tgt := 15) (by decide) (fun h8 => ?_) (fun h8 => ?_)
  · refine lv_aload_n hx hb d_Ref_report_15 rfl (lv_at hl 0 rfl) ?_
    refine lv_iload_n hx hb d_Ref_report_16 rfl (lv_at hl 1 rfl) ?_
    refine ct_rdV (C := R_Ref) (ci := 9) (As := [.int x]) (rest := [.ref h]) ⟨hx, hb, hml, hown, ht⟩ (k_Ref_isEdge l D cI cZ cJ cG heb (x)) (cb_V ht kc_Ref_isEdge kl_Ref_148 kn_Ref ki_Ref_isEdge ks_Ref_isEdge hd_Ref_isEdge ⟨Nat.le_of_ble_eq_true rfl, Nat.le_of_ble_eq_true rfl⟩) (List.mem_of_getElem? (i := 0) rfl) rfl rfl (wd_ct (Bs := [[rf_o h qs cd ma S.T.2.2.1.2.1 ca S.D.2.1.2.1 na S.G.2.2.2.1.2.1 S.D.1.2.1 S.D.2.2.1 S.D.2.2.2.1 S.D.2.2.2.2 S.lost], [(qs 0, .inl (cI, 12, .inl (lI S.eb)))], [(qs 1, .inl (cI, 144, .inl (fl (gN S.lk))))], [(qs 2, .inl (cI, 144, .inl (fl (gN wt))))], [(qs 3, .inl (cZ, 144, .inl (fl (kB S.kn))))], [(qs 4, .inl (cI, 1600, .inl fR))], [(qs 5, .inl (cI, 1600, .inl fN))], [(qs 6, .inl (cJ, 1600, .inr (.inl fL)))], [(qs 7, .inl (cJ, 1600, .inr (.inl fH)))], [(qs 8, .inl (cZ, 1600, .inl (dB uf)))], [(qs 9, .inl (cI, 144, .inl (fl (sI S.T.2.1))))], [(qs 10, .inl (cI, 4000, .inl fM))], [(qs 11, .inl (cJ, 4000, .inr (.inl fC)))], [(qs 12, .inl (cI, 4000, .inl fT))], [(qs 13, .inl (cI, 8, .inl (lI S.G.1)))], [(qs 14, .inl (cI, 8, .inl S.G.2.1))], [(qs 15, .inl (cI, 96, .inl (fl (gN (rT S.G.2.2.1)))))], [(qs 16, .inl (cI, 901, .inl fD))], [(qs 17, .inl (cI, 901, .inl fX))], [(qs 18, .inl (cI, 144, .inl (fl MK)))], [(qs 19, .inl (cI, 144, .inl (fl MF)))]]) 21 rfl [0, 1] [2, 3, 4, 5, 6, 7, 8, 9, 10, 11, 12, 13, 14, 15, 16, 17, 18, 19, 20] (by decide) rfl) hK hP hD hS hA rfl hl.1 rfl (Nat.le_of_ble_eq_true rfl) ⟨(show 0 + 0 ≤ 0 by omega), (show 0 + 0 ≤ 0 by omega)⟩ d_Ref_report_17 (fun rhr102 H locs hr102 hP hD hS => ?_)
    subst hr102
    refine W.eq (g2 := F0 m 20 ls [.int (bI false), .ref h]) (congrArg (fun z => F0 m 20 ls (.int z :: [.ref h])) (congrArg bI (hno))) ?_
    refine ri_ifeqB hx hb d_Ref_report_20 (tgt := 27) (by decide) (fun h103 => ?_) (fun h103 => ?_)
    · refine lv_iconst (v := nI 2) hx hb d_Ref_report_27 (by decide) ?_
      refine va_put (D := D) (ci := 9) (v := .int (nI 2)) (ty := .int) (C := R_Ref) (T := T_Ref) (N := 32) hx hb ht in_Ref t_Ref ok_Ref nm_Ref hown hK hP hD hS 0 rfl rfl 0 (by decide) (ht _ kl_Ref_72) (fun _ h9 => h9) rfl (by decide +kernel) rfl rfl (Nat.le_of_ble_eq_true rfl) d_Ref_report_28 (fun H locs hP hD hS => ?_)
      have hP : va_P D kls (List.flatten [[rf_o h qs (nI 2) ma S.T.2.2.1.2.1 ca S.D.2.1.2.1 na S.G.2.2.2.1.2.1 S.D.1.2.1 S.D.2.2.1 S.D.2.2.2.1 S.D.2.2.2.2 S.lost], [(qs 0, .inl (cI, 12, .inl (lI S.eb)))], [(qs 1, .inl (cI, 144, .inl (fl (gN S.lk))))], [(qs 2, .inl (cI, 144, .inl (fl (gN wt))))], [(qs 3, .inl (cZ, 144, .inl (fl (kB S.kn))))], [(qs 4, .inl (cI, 1600, .inl fR))], [(qs 5, .inl (cI, 1600, .inl fN))], [(qs 6, .inl (cJ, 1600, .inr (.inl fL)))], [(qs 7, .inl (cJ, 1600, .inr (.inl fH)))], [(qs 8, .inl (cZ, 1600, .inl (dB uf)))], [(qs 9, .inl (cI, 144, .inl (fl (sI S.T.2.1))))], [(qs 10, .inl (cI, 4000, .inl fM))], [(qs 11, .inl (cJ, 4000, .inr (.inl fC)))], [(qs 12, .inl (cI, 4000, .inl fT))], [(qs 13, .inl (cI, 8, .inl (lI S.G.1)))], [(qs 14, .inl (cI, 8, .inl S.G.2.1))], [(qs 15, .inl (cI, 96, .inl (fl (gN (rT S.G.2.2.1)))))], [(qs 16, .inl (cI, 901, .inl fD))], [(qs 17, .inl (cI, 901, .inl fX))], [(qs 18, .inl (cI, 144, .inl (fl MK)))], [(qs 19, .inl (cI, 144, .inl (fl MF)))]]) H := hP
      have hD : va_D A (List.flatten [[rf_o h qs (nI 2) ma S.T.2.2.1.2.1 ca S.D.2.1.2.1 na S.G.2.2.2.1.2.1 S.D.1.2.1 S.D.2.2.1 S.D.2.2.2.1 S.D.2.2.2.2 S.lost], [(qs 0, .inl (cI, 12, .inl (lI S.eb)))], [(qs 1, .inl (cI, 144, .inl (fl (gN S.lk))))], [(qs 2, .inl (cI, 144, .inl (fl (gN wt))))], [(qs 3, .inl (cZ, 144, .inl (fl (kB S.kn))))], [(qs 4, .inl (cI, 1600, .inl fR))], [(qs 5, .inl (cI, 1600, .inl fN))], [(qs 6, .inl (cJ, 1600, .inr (.inl fL)))], [(qs 7, .inl (cJ, 1600, .inr (.inl fH)))], [(qs 8, .inl (cZ, 1600, .inl (dB uf)))], [(qs 9, .inl (cI, 144, .inl (fl (sI S.T.2.1))))], [(qs 10, .inl (cI, 4000, .inl fM))], [(qs 11, .inl (cJ, 4000, .inr (.inl fC)))], [(qs 12, .inl (cI, 4000, .inl fT))], [(qs 13, .inl (cI, 8, .inl (lI S.G.1)))], [(qs 14, .inl (cI, 8, .inl S.G.2.1))], [(qs 15, .inl (cI, 96, .inl (fl (gN (rT S.G.2.2.1)))))], [(qs 16, .inl (cI, 901, .inl fD))], [(qs 17, .inl (cI, 901, .inl fX))], [(qs 18, .inl (cI, 144, .inl (fl MK)))], [(qs 19, .inl (cI, 144, .inl (fl MF)))]]) := hD
      refine lv_aload_n hx hb d_Ref_report_31 rfl (lv_at hl 0 rfl) ?_
      refine va_get (D := D) (ci := 9) (v := .int (nI 2)) (C := R_Ref) (T := T_Ref) (N := 32) hx hb ht in_Ref hown hK hP 0 rfl rfl 0 (by decide) (ht _ kl_Ref_72) (fun _ h9 => h9) rfl d_Ref_report_32 ?_
      refine ri_if_le hx hb (by omega) d_Ref_report_35 (tgt := 39) (by decide) (fun h104 => ?_) (fun h104 => ?_)
      · exact absurd h104 (by decide)
      · exact ct_vret hQ hx hb hr hlk hP hD hS hK (by omega) (by omega) d_Ref_report_38 (⟨qs, ma, ca, na, wt, fR, fN, fL, fH, uf, fM, fC, fT, fD, fX, MK, MF, rfl, hwt, hAd, hM, hC, hN, hPd⟩)
    · exact absurd h103 (fun z => by cases z)
  · exact absurd h8 (by omega)
set_option maxHeartbeats 1600000 in
set_option maxRecDepth 100000 in
theorem k_Ref_ingress (l : Launch) (D : va_G) (cI cZ cJ cG : ClassId) {h : Nat} {cd : Int32} {S : bm_S} {ws : va_W} (hR : rf_R cI cZ cJ h cd S ws) (hi : rf_i S) (g : Nat) (hg : g < 8) (e9 b : Nat) (he : e9 < 12) (hee : S.eb e9 = some b) (hid : rf_idle S g) : ct_V l D kls (ty4 cI cZ cJ cG) y_Ref_ingress ws_Ref_ingress (rm_ 3 66 0 0) [.ref h, .int (nI g), .int (nI e9)] (ws) (fun u => rf_R cI cZ cJ h (nI 0) (bm_ingr g e9 S) u) 0 0 := by
  obtain ⟨qs, ma, ca, na, wt, fR, fN, fL, fH, uf, fM, fC, fT, fD, fX, MK, MF, rfl, hwt, hAd, hM, hC, hN, hPd⟩ := hR
  obtain ⟨hsi, heb, h00, hA9, hm9, hcp9, hnt9, hpk9, hgi⟩ := hi
  have hok := hsi.1
  have hkn9 := hsi.2.1
  have hlk9 := hsi.2.2.1
  have hma := hM.1
  refine ct_enterV (cc := b_Ref_ingress) (maxL := 4) (ret := none) (by decide +kernel) (Nat.le_of_ble_eq_true rfl) ?_
  intro p e s m args below meth c hx hb hml hr ht hown hlk hnm A Q hA hK hP hD hQ ls hl
  have hown : s.vm.findClass R_Ref = some m.cls := hown
  have hS : va_S A s.heap s.heap [] := va_S.rf
  have hl : lv_has ls 4 [(0, .ref h), (1, .int (nI g)), (2, .int (nI e9))] := hl
  have hrt := hsi.2.2.2.2.1
  have hna := hN.1
  have loop2 : ∀ (k j : Nat)  (H : Heap) (locs : List Loc) (ls : Array Slot), j + k = S.G.2.2.2.1.2.1 → va_P D kls (List.flatten [[rf_o h qs (nI 0) ma S.T.2.2.1.2.1 ca S.D.2.1.2.1 na S.G.2.2.2.1.2.1 S.D.1.2.1 S.D.2.2.1 S.D.2.2.2.1 S.D.2.2.2.2 S.lost], [(qs 0, .inl (cI, 12, .inl (lI S.eb)))], [(qs 1, .inl (cI, 144, .inl (fl (gN S.lk))))], [(qs 2, .inl (cI, 144, .inl (fl (gN wt))))], [(qs 3, .inl (cZ, 144, .inl (fl (kB S.kn))))], [(qs 4, .inl (cI, 1600, .inl fR))], [(qs 5, .inl (cI, 1600, .inl fN))], [(qs 6, .inl (cJ, 1600, .inr (.inl fL)))], [(qs 7, .inl (cJ, 1600, .inr (.inl fH)))], [(qs 8, .inl (cZ, 1600, .inl (dB uf)))], [(qs 9, .inl (cI, 144, .inl (fl (sI S.T.2.1))))], [(qs 10, .inl (cI, 4000, .inl fM))], [(qs 11, .inl (cJ, 4000, .inr (.inl fC)))], [(qs 12, .inl (cI, 4000, .inl fT))], [(qs 13, .inl (cI, 8, .inl (lI S.G.1)))], [(qs 14, .inl (cI, 8, .inl S.G.2.1))], [(qs 15, .inl (cI, 96, .inl (fl (gN (rT S.G.2.2.1)))))], [(qs 16, .inl (cI, 901, .inl fD))], [(qs 17, .inl (cI, 901, .inl fX))], [(qs 18, .inl (cI, 144, .inl (fl MK)))], [(qs 19, .inl (cI, 144, .inl (fl MF)))]]) H → va_D A (List.flatten [[rf_o h qs (nI 0) ma S.T.2.2.1.2.1 ca S.D.2.1.2.1 na S.G.2.2.2.1.2.1 S.D.1.2.1 S.D.2.2.1 S.D.2.2.2.1 S.D.2.2.2.2 S.lost], [(qs 0, .inl (cI, 12, .inl (lI S.eb)))], [(qs 1, .inl (cI, 144, .inl (fl (gN S.lk))))], [(qs 2, .inl (cI, 144, .inl (fl (gN wt))))], [(qs 3, .inl (cZ, 144, .inl (fl (kB S.kn))))], [(qs 4, .inl (cI, 1600, .inl fR))], [(qs 5, .inl (cI, 1600, .inl fN))], [(qs 6, .inl (cJ, 1600, .inr (.inl fL)))], [(qs 7, .inl (cJ, 1600, .inr (.inl fH)))], [(qs 8, .inl (cZ, 1600, .inl (dB uf)))], [(qs 9, .inl (cI, 144, .inl (fl (sI S.T.2.1))))], [(qs 10, .inl (cI, 4000, .inl fM))], [(qs 11, .inl (cJ, 4000, .inr (.inl fC)))], [(qs 12, .inl (cI, 4000, .inl fT))], [(qs 13, .inl (cI, 8, .inl (lI S.G.1)))], [(qs 14, .inl (cI, 8, .inl S.G.2.1))], [(qs 15, .inl (cI, 96, .inl (fl (gN (rT S.G.2.2.1)))))], [(qs 16, .inl (cI, 901, .inl fD))], [(qs 17, .inl (cI, 901, .inl fX))], [(qs 18, .inl (cI, 144, .inl (fl MK)))], [(qs 19, .inl (cI, 144, .inl (fl MF)))]]) → va_S A s.heap H locs → lv_has ls 4 [(3, .int (nI j)), (0, .ref h), (1, .int (nI g)), (2, .int (nI e9))] → W p l e (rm_ 3 66 0 0) s m args below meth c H locs 0 0 Q (F0 m 66 ls []) := by
    intro k
    induction k with
    | zero =>
      intro j H locs ls hk hP hD hS hl
      refine lv_iload_n hx hb d_Ref_ingress_66 rfl (lv_at hl 0 rfl) ?_
      refine lv_aload_n hx hb d_Ref_ingress_67 rfl (lv_at hl 1 rfl) ?_
      refine va_get (D := D) (ci := 9) (v := .int (nI S.G.2.2.2.1.2.1)) (C := R_Ref) (T := T_Ref) (N := 32) hx hb ht in_Ref hown hK hP 0 rfl rfl 18 (by decide) (ht _ kl_Ref_151) (fun _ h9 => h9) rfl d_Ref_ingress_68 ?_
      refine ri_icmp_ge hx hb (by omega) (by omega) d_Ref_ingress_71 (tgt := 114) (by decide) (fun hc9 => ?_) (fun hc9 => ?_)
      · refine lv_aload_n hx hb d_Ref_ingress_114 rfl (lv_at hl 1 rfl) ?_
        refine va_get (D := D) (ci := 9) (v := .int (nI 0)) (C := R_Ref) (T := T_Ref) (N := 32) hx hb ht in_Ref hown hK hP 0 rfl rfl 0 (by decide) (ht _ kl_Ref_72) (fun _ h9 => h9) rfl d_Ref_ingress_115 ?_
        refine ri_if_le hx hb (by omega) d_Ref_ingress_118 (tgt := 122) (by decide) (fun h102 => ?_) (fun h102 => ?_)
        · refine lv_aload_n hx hb d_Ref_ingress_122 rfl (lv_at hl 1 rfl) ?_
          refine va_get (D := D) (ci := 9) (v := .ref (qs 13)) (C := R_Ref) (T := T_Ref) (N := 32) hx hb ht in_Ref hown hK hP 0 rfl rfl 20 (by decide) (ht _ kl_Ref_51) (fun _ h9 => h9) rfl d_Ref_ingress_123 ?_
          refine lv_iload_n hx hb d_Ref_ingress_126 rfl (lv_at hl 2 rfl) ?_
          refine lv_iload_n hx hb d_Ref_ingress_127 rfl (lv_at hl 3 rfl) ?_
          refine ri_iast hx hb hK hP hD hS 14 0 rfl rfl (j := g) (by omega) (by omega) d_Ref_ingress_128 (fun H locs hP hD hS => ?_)
          have hP : va_P D kls (List.flatten [[rf_o h qs (nI 0) ma S.T.2.2.1.2.1 ca S.D.2.1.2.1 na S.G.2.2.2.1.2.1 S.D.1.2.1 S.D.2.2.1 S.D.2.2.2.1 S.D.2.2.2.2 S.lost], [(qs 0, .inl (cI, 12, .inl (lI S.eb)))], [(qs 1, .inl (cI, 144, .inl (fl (gN S.lk))))], [(qs 2, .inl (cI, 144, .inl (fl (gN wt))))], [(qs 3, .inl (cZ, 144, .inl (fl (kB S.kn))))], [(qs 4, .inl (cI, 1600, .inl fR))], [(qs 5, .inl (cI, 1600, .inl fN))], [(qs 6, .inl (cJ, 1600, .inr (.inl fL)))], [(qs 7, .inl (cJ, 1600, .inr (.inl fH)))], [(qs 8, .inl (cZ, 1600, .inl (dB uf)))], [(qs 9, .inl (cI, 144, .inl (fl (sI S.T.2.1))))], [(qs 10, .inl (cI, 4000, .inl fM))], [(qs 11, .inl (cJ, 4000, .inr (.inl fC)))], [(qs 12, .inl (cI, 4000, .inl fT))], [(qs 13, .inl (cI, 8, .inl (upd (lI S.G.1) g (nI e9))))], [(qs 14, .inl (cI, 8, .inl S.G.2.1))], [(qs 15, .inl (cI, 96, .inl (fl (gN (rT S.G.2.2.1)))))], [(qs 16, .inl (cI, 901, .inl fD))], [(qs 17, .inl (cI, 901, .inl fX))], [(qs 18, .inl (cI, 144, .inl (fl MK)))], [(qs 19, .inl (cI, 144, .inl (fl MF)))]]) H := hP
          have hD : va_D A (List.flatten [[rf_o h qs (nI 0) ma S.T.2.2.1.2.1 ca S.D.2.1.2.1 na S.G.2.2.2.1.2.1 S.D.1.2.1 S.D.2.2.1 S.D.2.2.2.1 S.D.2.2.2.2 S.lost], [(qs 0, .inl (cI, 12, .inl (lI S.eb)))], [(qs 1, .inl (cI, 144, .inl (fl (gN S.lk))))], [(qs 2, .inl (cI, 144, .inl (fl (gN wt))))], [(qs 3, .inl (cZ, 144, .inl (fl (kB S.kn))))], [(qs 4, .inl (cI, 1600, .inl fR))], [(qs 5, .inl (cI, 1600, .inl fN))], [(qs 6, .inl (cJ, 1600, .inr (.inl fL)))], [(qs 7, .inl (cJ, 1600, .inr (.inl fH)))], [(qs 8, .inl (cZ, 1600, .inl (dB uf)))], [(qs 9, .inl (cI, 144, .inl (fl (sI S.T.2.1))))], [(qs 10, .inl (cI, 4000, .inl fM))], [(qs 11, .inl (cJ, 4000, .inr (.inl fC)))], [(qs 12, .inl (cI, 4000, .inl fT))], [(qs 13, .inl (cI, 8, .inl (upd (lI S.G.1) g (nI e9))))], [(qs 14, .inl (cI, 8, .inl S.G.2.1))], [(qs 15, .inl (cI, 96, .inl (fl (gN (rT S.G.2.2.1)))))], [(qs 16, .inl (cI, 901, .inl fD))], [(qs 17, .inl (cI, 901, .inl fX))], [(qs 18, .inl (cI, 144, .inl (fl MK)))], [(qs 19, .inl (cI, 144, .inl (fl MF)))]]) := hD
          rw [lI_up] at hP hD
          have hP : va_P D kls (List.flatten [[rf_o h qs (nI 0) ma S.T.2.2.1.2.1 ca S.D.2.1.2.1 na S.G.2.2.2.1.2.1 S.D.1.2.1 S.D.2.2.1 S.D.2.2.2.1 S.D.2.2.2.2 S.lost], [(qs 0, .inl (cI, 12, .inl (lI S.eb)))], [(qs 1, .inl (cI, 144, .inl (fl (gN S.lk))))], [(qs 2, .inl (cI, 144, .inl (fl (gN wt))))], [(qs 3, .inl (cZ, 144, .inl (fl (kB S.kn))))], [(qs 4, .inl (cI, 1600, .inl fR))], [(qs 5, .inl (cI, 1600, .inl fN))], [(qs 6, .inl (cJ, 1600, .inr (.inl fL)))], [(qs 7, .inl (cJ, 1600, .inr (.inl fH)))], [(qs 8, .inl (cZ, 1600, .inl (dB uf)))], [(qs 9, .inl (cI, 144, .inl (fl (sI S.T.2.1))))], [(qs 10, .inl (cI, 4000, .inl fM))], [(qs 11, .inl (cJ, 4000, .inr (.inl fC)))], [(qs 12, .inl (cI, 4000, .inl fT))], [(qs 13, .inl (cI, 8, .inl (lI (bm_up1 S.G.1 g (some e9)))))], [(qs 14, .inl (cI, 8, .inl S.G.2.1))], [(qs 15, .inl (cI, 96, .inl (fl (gN (rT S.G.2.2.1)))))], [(qs 16, .inl (cI, 901, .inl fD))], [(qs 17, .inl (cI, 901, .inl fX))], [(qs 18, .inl (cI, 144, .inl (fl MK)))], [(qs 19, .inl (cI, 144, .inl (fl MF)))]]) H := hP
          have hD : va_D A (List.flatten [[rf_o h qs (nI 0) ma S.T.2.2.1.2.1 ca S.D.2.1.2.1 na S.G.2.2.2.1.2.1 S.D.1.2.1 S.D.2.2.1 S.D.2.2.2.1 S.D.2.2.2.2 S.lost], [(qs 0, .inl (cI, 12, .inl (lI S.eb)))], [(qs 1, .inl (cI, 144, .inl (fl (gN S.lk))))], [(qs 2, .inl (cI, 144, .inl (fl (gN wt))))], [(qs 3, .inl (cZ, 144, .inl (fl (kB S.kn))))], [(qs 4, .inl (cI, 1600, .inl fR))], [(qs 5, .inl (cI, 1600, .inl fN))], [(qs 6, .inl (cJ, 1600, .inr (.inl fL)))], [(qs 7, .inl (cJ, 1600, .inr (.inl fH)))], [(qs 8, .inl (cZ, 1600, .inl (dB uf)))], [(qs 9, .inl (cI, 144, .inl (fl (sI S.T.2.1))))], [(qs 10, .inl (cI, 4000, .inl fM))], [(qs 11, .inl (cJ, 4000, .inr (.inl fC)))], [(qs 12, .inl (cI, 4000, .inl fT))], [(qs 13, .inl (cI, 8, .inl (lI (bm_up1 S.G.1 g (some e9)))))], [(qs 14, .inl (cI, 8, .inl S.G.2.1))], [(qs 15, .inl (cI, 96, .inl (fl (gN (rT S.G.2.2.1)))))], [(qs 16, .inl (cI, 901, .inl fD))], [(qs 17, .inl (cI, 901, .inl fX))], [(qs 18, .inl (cI, 144, .inl (fl MK)))], [(qs 19, .inl (cI, 144, .inl (fl MF)))]]) := hD
          refine lv_aload_n hx hb d_Ref_ingress_129 rfl (lv_at hl 1 rfl) ?_
          refine va_get (D := D) (ci := 9) (v := .ref (qs 14)) (C := R_Ref) (T := T_Ref) (N := 32) hx hb ht in_Ref hown hK hP 0 rfl rfl 21 (by decide) (ht _ kl_Ref_54) (fun _ h9 => h9) rfl d_Ref_ingress_130 ?_
          refine lv_iload_n hx hb d_Ref_ingress_133 rfl (lv_at hl 2 rfl) ?_
          refine lv_iconst (v := nI 0) hx hb d_Ref_ingress_134 (by decide) ?_
          refine ri_iast hx hb hK hP hD hS 15 0 rfl rfl (j := g) (by omega) (by omega) d_Ref_ingress_135 (fun H locs hP hD hS => ?_)
          have hP : va_P D kls (List.flatten [[rf_o h qs (nI 0) ma S.T.2.2.1.2.1 ca S.D.2.1.2.1 na S.G.2.2.2.1.2.1 S.D.1.2.1 S.D.2.2.1 S.D.2.2.2.1 S.D.2.2.2.2 S.lost], [(qs 0, .inl (cI, 12, .inl (lI S.eb)))], [(qs 1, .inl (cI, 144, .inl (fl (gN S.lk))))], [(qs 2, .inl (cI, 144, .inl (fl (gN wt))))], [(qs 3, .inl (cZ, 144, .inl (fl (kB S.kn))))], [(qs 4, .inl (cI, 1600, .inl fR))], [(qs 5, .inl (cI, 1600, .inl fN))], [(qs 6, .inl (cJ, 1600, .inr (.inl fL)))], [(qs 7, .inl (cJ, 1600, .inr (.inl fH)))], [(qs 8, .inl (cZ, 1600, .inl (dB uf)))], [(qs 9, .inl (cI, 144, .inl (fl (sI S.T.2.1))))], [(qs 10, .inl (cI, 4000, .inl fM))], [(qs 11, .inl (cJ, 4000, .inr (.inl fC)))], [(qs 12, .inl (cI, 4000, .inl fT))], [(qs 13, .inl (cI, 8, .inl (lI (bm_up1 S.G.1 g (some e9)))))], [(qs 14, .inl (cI, 8, .inl (upd S.G.2.1 g (nI 0))))], [(qs 15, .inl (cI, 96, .inl (fl (gN (rT S.G.2.2.1)))))], [(qs 16, .inl (cI, 901, .inl fD))], [(qs 17, .inl (cI, 901, .inl fX))], [(qs 18, .inl (cI, 144, .inl (fl MK)))], [(qs 19, .inl (cI, 144, .inl (fl MF)))]]) H := hP
          have hD : va_D A (List.flatten [[rf_o h qs (nI 0) ma S.T.2.2.1.2.1 ca S.D.2.1.2.1 na S.G.2.2.2.1.2.1 S.D.1.2.1 S.D.2.2.1 S.D.2.2.2.1 S.D.2.2.2.2 S.lost], [(qs 0, .inl (cI, 12, .inl (lI S.eb)))], [(qs 1, .inl (cI, 144, .inl (fl (gN S.lk))))], [(qs 2, .inl (cI, 144, .inl (fl (gN wt))))], [(qs 3, .inl (cZ, 144, .inl (fl (kB S.kn))))], [(qs 4, .inl (cI, 1600, .inl fR))], [(qs 5, .inl (cI, 1600, .inl fN))], [(qs 6, .inl (cJ, 1600, .inr (.inl fL)))], [(qs 7, .inl (cJ, 1600, .inr (.inl fH)))], [(qs 8, .inl (cZ, 1600, .inl (dB uf)))], [(qs 9, .inl (cI, 144, .inl (fl (sI S.T.2.1))))], [(qs 10, .inl (cI, 4000, .inl fM))], [(qs 11, .inl (cJ, 4000, .inr (.inl fC)))], [(qs 12, .inl (cI, 4000, .inl fT))], [(qs 13, .inl (cI, 8, .inl (lI (bm_up1 S.G.1 g (some e9)))))], [(qs 14, .inl (cI, 8, .inl (upd S.G.2.1 g (nI 0))))], [(qs 15, .inl (cI, 96, .inl (fl (gN (rT S.G.2.2.1)))))], [(qs 16, .inl (cI, 901, .inl fD))], [(qs 17, .inl (cI, 901, .inl fX))], [(qs 18, .inl (cI, 144, .inl (fl MK)))], [(qs 19, .inl (cI, 144, .inl (fl MF)))]]) := hD
          exact ct_vret hQ hx hb hr hlk hP hD hS hK (by omega) (by omega) d_Ref_ingress_136 (⟨qs, ma, ca, na, wt, fR, fN, fL, fH, uf, fM, fC, fT, fD, fX, MK, MF, rfl, hwt, hAd, hM, hC, hN, hPd⟩)
        · exact absurd h102 (by decide)
      · exact absurd hc9 (by omega)
    | succ k ih =>
      intro j H locs ls hk hP hD hS hl
      refine lv_iload_n hx hb d_Ref_ingress_66 rfl (lv_at hl 0 rfl) ?_
      refine lv_aload_n hx hb d_Ref_ingress_67 rfl (lv_at hl 1 rfl) ?_
      refine va_get (D := D) (ci := 9) (v := .int (nI S.G.2.2.2.1.2.1)) (C := R_Ref) (T := T_Ref) (N := 32) hx hb ht in_Ref hown hK hP 0 rfl rfl 18 (by decide) (ht _ kl_Ref_151) (fun _ h9 => h9) rfl d_Ref_ingress_68 ?_
      refine ri_icmp_ge hx hb (by omega) (by omega) d_Ref_ingress_71 (tgt := 114) (by decide) (fun hc9 => ?_) (fun hc9 => ?_)
      · exact absurd hc9 (by omega)
      · refine lv_aload_n hx hb d_Ref_ingress_74 rfl (lv_at hl 1 rfl) ?_
        refine va_get (D := D) (ci := 9) (v := .int (nI 0)) (C := R_Ref) (T := T_Ref) (N := 32) hx hb ht in_Ref hown hK hP 0 rfl rfl 0 (by decide) (ht _ kl_Ref_72) (fun _ h9 => h9) rfl d_Ref_ingress_75 ?_
        refine ri_if_ne hx hb (by omega) d_Ref_ingress_78 (tgt := 114) (by decide) (fun h104 => ?_) (fun h104 => ?_)
        · exact absurd h104 (by decide)
        · obtain ⟨g2, b2, t2, hg2, hb2, ht2, hr0, -, -, hv2⟩ := hN.2 j (by omega)
          refine lv_aload_n hx hb d_Ref_ingress_81 rfl (lv_at hl 1 rfl) ?_
          refine va_get (D := D) (ci := 9) (v := .ref (qs 12)) (C := R_Ref) (T := T_Ref) (N := 32) hx hb ht in_Ref hown hK hP 0 rfl rfl 19 (by decide) (ht _ kl_Ref_48) (fun _ h9 => h9) rfl d_Ref_ingress_82 ?_
          refine lv_aload_n hx hb d_Ref_ingress_85 rfl (lv_at hl 1 rfl) ?_
          refine va_get (D := D) (ci := 9) (v := .int (nI na)) (C := R_Ref) (T := T_Ref) (N := 32) hx hb ht in_Ref hown hK hP 0 rfl rfl 17 (by decide) (ht _ kl_Ref_154) (fun _ h9 => h9) rfl d_Ref_ingress_86 ?_
          refine lv_iload_n hx hb d_Ref_ingress_89 rfl (lv_at hl 0 rfl) ?_
          refine ri_iadd hx hb d_Ref_ingress_90 ?_
          refine lv_sipush (v := nI 4000) hx hb d_Ref_ingress_91 (by decide) ?_
          refine ri_irem2 hx hb (by omega) (by omega) (by omega) d_Ref_ingress_94 ?_
          refine ri_iald hx hb hK hP 13 0 rfl rfl (j := (na + j) % 4000) (by omega) (by omega) d_Ref_ingress_95 ?_
          refine W.eq (g2 := F0 m 96 ls [.int (nI (g2 * 64 + b2 * 2 + t2))]) (congrArg (fun z => F0 m 96 ls (.int z :: [])) (hv2)) ?_
          refine lv_bipush (v := nI 6) hx hb d_Ref_ingress_96 (by decide) ?_
          refine ri_ishr2 hx hb (by omega) (by omega) d_Ref_ingress_98 ?_
          refine W.eq (g2 := F0 m 99 ls [.int (nI g2)]) (congrArg (fun z => F0 m 99 ls (.int z :: [])) (congrArg nI (nt_g hb2 ht2))) ?_
          refine lv_iload_n hx hb d_Ref_ingress_99 rfl (lv_at hl 2 rfl) ?_
          refine ri_icmp_ne hx hb (by omega) (by omega) d_Ref_ingress_100 (tgt := 108) (by decide) (fun h100 => ?_) (fun h100 => ?_)
          · refine ri_iinc hx hb d_Ref_ingress_108 hl (k := 0) rfl (by decide) rfl (fun ls hl => ?_)
            have hl : lv_has ls 4 [(3, .int (nI (j + 1))), (0, .ref h), (1, .int (nI g)), (2, .int (nI e9))] := hl
            refine lv_goto hx hb d_Ref_ingress_111 (tgt := 66) (by decide) ?_
            exact ih (j + 1) H locs ls (by omega) hP hD hS hl
          · exact absurd h100 (fun z => hid.2 j (by omega) (by rw [hr0, z]))
  have loop1 : ∀ (k j : Nat)  (H : Heap) (locs : List Loc) (ls : Array Slot), j + k = 12 → va_P D kls (List.flatten [[rf_o h qs (nI 0) ma S.T.2.2.1.2.1 ca S.D.2.1.2.1 na S.G.2.2.2.1.2.1 S.D.1.2.1 S.D.2.2.1 S.D.2.2.2.1 S.D.2.2.2.2 S.lost], [(qs 0, .inl (cI, 12, .inl (lI S.eb)))], [(qs 1, .inl (cI, 144, .inl (fl (gN S.lk))))], [(qs 2, .inl (cI, 144, .inl (fl (gN wt))))], [(qs 3, .inl (cZ, 144, .inl (fl (kB S.kn))))], [(qs 4, .inl (cI, 1600, .inl fR))], [(qs 5, .inl (cI, 1600, .inl fN))], [(qs 6, .inl (cJ, 1600, .inr (.inl fL)))], [(qs 7, .inl (cJ, 1600, .inr (.inl fH)))], [(qs 8, .inl (cZ, 1600, .inl (dB uf)))], [(qs 9, .inl (cI, 144, .inl (fl (sI S.T.2.1))))], [(qs 10, .inl (cI, 4000, .inl fM))], [(qs 11, .inl (cJ, 4000, .inr (.inl fC)))], [(qs 12, .inl (cI, 4000, .inl fT))], [(qs 13, .inl (cI, 8, .inl (lI S.G.1)))], [(qs 14, .inl (cI, 8, .inl S.G.2.1))], [(qs 15, .inl (cI, 96, .inl (fl (gN (rT S.G.2.2.1)))))], [(qs 16, .inl (cI, 901, .inl fD))], [(qs 17, .inl (cI, 901, .inl fX))], [(qs 18, .inl (cI, 144, .inl (fl MK)))], [(qs 19, .inl (cI, 144, .inl (fl MF)))]]) H → va_D A (List.flatten [[rf_o h qs (nI 0) ma S.T.2.2.1.2.1 ca S.D.2.1.2.1 na S.G.2.2.2.1.2.1 S.D.1.2.1 S.D.2.2.1 S.D.2.2.2.1 S.D.2.2.2.2 S.lost], [(qs 0, .inl (cI, 12, .inl (lI S.eb)))], [(qs 1, .inl (cI, 144, .inl (fl (gN S.lk))))], [(qs 2, .inl (cI, 144, .inl (fl (gN wt))))], [(qs 3, .inl (cZ, 144, .inl (fl (kB S.kn))))], [(qs 4, .inl (cI, 1600, .inl fR))], [(qs 5, .inl (cI, 1600, .inl fN))], [(qs 6, .inl (cJ, 1600, .inr (.inl fL)))], [(qs 7, .inl (cJ, 1600, .inr (.inl fH)))], [(qs 8, .inl (cZ, 1600, .inl (dB uf)))], [(qs 9, .inl (cI, 144, .inl (fl (sI S.T.2.1))))], [(qs 10, .inl (cI, 4000, .inl fM))], [(qs 11, .inl (cJ, 4000, .inr (.inl fC)))], [(qs 12, .inl (cI, 4000, .inl fT))], [(qs 13, .inl (cI, 8, .inl (lI S.G.1)))], [(qs 14, .inl (cI, 8, .inl S.G.2.1))], [(qs 15, .inl (cI, 96, .inl (fl (gN (rT S.G.2.2.1)))))], [(qs 16, .inl (cI, 901, .inl fD))], [(qs 17, .inl (cI, 901, .inl fX))], [(qs 18, .inl (cI, 144, .inl (fl MK)))], [(qs 19, .inl (cI, 144, .inl (fl MF)))]]) → va_S A s.heap H locs → lv_has ls 4 [(3, .int (nI j)), (0, .ref h), (1, .int (nI g)), (2, .int (nI e9))] → W p l e (rm_ 3 66 0 0) s m args below meth c H locs 0 0 Q (F0 m 26 ls []) := by
    intro k
    induction k with
    | zero =>
      intro j H locs ls hk hP hD hS hl
      refine lv_iload_n hx hb d_Ref_ingress_26 rfl (lv_at hl 0 rfl) ?_
      refine lv_bipush (v := nI 12) hx hb d_Ref_ingress_27 (by decide) ?_
      refine ri_icmp_ge hx hb (by omega) (by omega) d_Ref_ingress_29 (tgt := 64) (by decide) (fun hc9 => ?_) (fun hc9 => ?_)
      · refine lv_iconst (v := nI 0) hx hb d_Ref_ingress_64 (by decide) ?_
        refine lv_istore_n hx hb d_Ref_ingress_65 rfl hl (by decide) rfl (fun ls hl => ?_)
        have hl : lv_has ls 4 [(3, .int (nI 0)), (0, .ref h), (1, .int (nI g)), (2, .int (nI e9))] := hl
        exact loop2 S.G.2.2.2.1.2.1 0 H locs ls (by omega) hP hD hS hl
      · exact absurd hc9 (by omega)
    | succ k ih =>
      intro j H locs ls hk hP hD hS hl
      refine lv_iload_n hx hb d_Ref_ingress_26 rfl (lv_at hl 0 rfl) ?_
      refine lv_bipush (v := nI 12) hx hb d_Ref_ingress_27 (by decide) ?_
      refine ri_icmp_ge hx hb (by omega) (by omega) d_Ref_ingress_29 (tgt := 64) (by decide) (fun hc9 => ?_) (fun hc9 => ?_)
      · exact absurd hc9 (by omega)
      · refine lv_aload_n hx hb d_Ref_ingress_32 rfl (lv_at hl 1 rfl) ?_
        refine va_get (D := D) (ci := 9) (v := .int (nI 0)) (C := R_Ref) (T := T_Ref) (N := 32) hx hb ht in_Ref hown hK hP 0 rfl rfl 0 (by decide) (ht _ kl_Ref_72) (fun _ h9 => h9) rfl d_Ref_ingress_33 ?_
        refine ri_if_ne hx hb (by omega) d_Ref_ingress_36 (tgt := 64) (by decide) (fun h108 => ?_) (fun h108 => ?_)
        · exact absurd h108 (by decide)
        · have hrcj := hgi.1 j g
          refine lv_aload_n hx hb d_Ref_ingress_39 rfl (lv_at hl 1 rfl) ?_
          refine va_get (D := D) (ci := 9) (v := .ref (qs 15)) (C := R_Ref) (T := T_Ref) (N := 32) hx hb ht in_Ref hown hK hP 0 rfl rfl 22 (by decide) (ht _ kl_Ref_57) (fun _ h9 => h9) rfl d_Ref_ingress_40 ?_
          refine lv_bipush (v := nI 12) hx hb d_Ref_ingress_43 (by decide) ?_
          refine lv_iload_n hx hb d_Ref_ingress_45 rfl (lv_at hl 2 rfl) ?_
          refine ri_imul hx hb d_Ref_ingress_46 ?_
          refine lv_iload_n hx hb d_Ref_ingress_47 rfl (lv_at hl 0 rfl) ?_
          refine ri_iadd hx hb d_Ref_ingress_48 ?_
          refine ri_iald hx hb hK hP 16 0 rfl rfl (j := (12 * g) + j) (by omega) (by omega) d_Ref_ingress_49 ?_
          refine W.eq (g2 := F0 m 50 ls [.int (nI ((rT S.G.2.2.1) g j))]) (congrArg (fun z => F0 m 50 ls (.int z :: [])) (fl_at (a := g) (b := j) (by omega))) ?_
          refine W.eq (g2 := F0 m 50 ls [.int (nI (S.G.2.2.1 j g))]) (congrArg (fun z => F0 m 50 ls (.int z :: [])) (rfl)) ?_
          refine ri_if_le hx hb (by omega) d_Ref_ingress_50 (tgt := 58) (by decide) (fun h50 => ?_) (fun h50 => ?_)
          · refine ri_iinc hx hb d_Ref_ingress_58 hl (k := 0) rfl (by decide) rfl (fun ls hl => ?_)
            have hl : lv_has ls 4 [(3, .int (nI (j + 1))), (0, .ref h), (1, .int (nI g)), (2, .int (nI e9))] := hl
            refine lv_goto hx hb d_Ref_ingress_61 (tgt := 26) (by decide) ?_
            exact ih (j + 1) H locs ls (by omega) hP hD hS hl
          · exact absurd h50 (by have := hid.1 j (by omega); omega)
  refine lv_aload_n hx hb d_Ref_ingress_0 rfl (lv_at hl 0 rfl) ?_
  refine lv_iload_n hx hb d_Ref_ingress_1 rfl (lv_at hl 1 rfl) ?_
  refine ct_rdS (As := [.int (nI g)]) (rest := [.ref h]) ⟨hx, hb, hml, hown, ht⟩ (k_Ref_isGroup l D cI cZ cJ cG (nI g)) (cb_S ht kc_Ref_isGroup kl_Ref_145 kn_Ref ki_Ref_isGroup hd_Ref_isGroup ⟨Nat.le_of_ble_eq_true rfl, Nat.le_of_ble_eq_true rfl⟩) (wd_ct (Bs := [[rf_o h qs cd ma S.T.2.2.1.2.1 ca S.D.2.1.2.1 na S.G.2.2.2.1.2.1 S.D.1.2.1 S.D.2.2.1 S.D.2.2.2.1 S.D.2.2.2.2 S.lost], [(qs 0, .inl (cI, 12, .inl (lI S.eb)))], [(qs 1, .inl (cI, 144, .inl (fl (gN S.lk))))], [(qs 2, .inl (cI, 144, .inl (fl (gN wt))))], [(qs 3, .inl (cZ, 144, .inl (fl (kB S.kn))))], [(qs 4, .inl (cI, 1600, .inl fR))], [(qs 5, .inl (cI, 1600, .inl fN))], [(qs 6, .inl (cJ, 1600, .inr (.inl fL)))], [(qs 7, .inl (cJ, 1600, .inr (.inl fH)))], [(qs 8, .inl (cZ, 1600, .inl (dB uf)))], [(qs 9, .inl (cI, 144, .inl (fl (sI S.T.2.1))))], [(qs 10, .inl (cI, 4000, .inl fM))], [(qs 11, .inl (cJ, 4000, .inr (.inl fC)))], [(qs 12, .inl (cI, 4000, .inl fT))], [(qs 13, .inl (cI, 8, .inl (lI S.G.1)))], [(qs 14, .inl (cI, 8, .inl S.G.2.1))], [(qs 15, .inl (cI, 96, .inl (fl (gN (rT S.G.2.2.1)))))], [(qs 16, .inl (cI, 901, .inl fD))], [(qs 17, .inl (cI, 901, .inl fX))], [(qs 18, .inl (cI, 144, .inl (fl MK)))], [(qs 19, .inl (cI, 144, .inl (fl MF)))]]) 21 rfl [] [0, 1, 2, 3, 4, 5, 6, 7, 8, 9, 10, 11, 12, 13, 14, 15, 16, 17, 18, 19, 20] (by decide) rfl) hK hP hD hS hA rfl hl.1 rfl (Nat.le_of_ble_eq_true rfl) ⟨(show 0 + 0 ≤ 0 by omega), (show 0 + 0 ≤ 0 by omega)⟩ d_Ref_ingress_2 (fun rhr110 H locs hr110 hP hD hS => ?_)
  subst hr110
  refine W.eq (g2 := F0 m 5 ls [.int (bI true), .ref h]) (congrArg (fun z => F0 m 5 ls (.int z :: [.ref h])) (congrArg bI (rg_t8 hg))) ?_
  refine ri_ifeqB hx hb d_Ref_ingress_5 (tgt := 20) (by decide) (fun h111 => ?_) (fun h111 => ?_)
  · exact absurd h111 (fun z => by cases z)
  · refine lv_aload_n hx hb d_Ref_ingress_8 rfl (lv_at hl 0 rfl) ?_
    refine lv_iload_n hx hb d_Ref_ingress_9 rfl (lv_at hl 2 rfl) ?_
    refine ct_rdV (C := R_Ref) (ci := 9) (As := [.int (nI e9)]) (rest := [.ref h]) ⟨hx, hb, hml, hown, ht⟩ (k_Ref_isEdge l D cI cZ cJ cG heb (nI e9)) (cb_V ht kc_Ref_isEdge kl_Ref_148 kn_Ref ki_Ref_isEdge ks_Ref_isEdge hd_Ref_isEdge ⟨Nat.le_of_ble_eq_true rfl, Nat.le_of_ble_eq_true rfl⟩) (List.mem_of_getElem? (i := 0) rfl) rfl rfl (wd_ct (Bs := [[rf_o h qs cd ma S.T.2.2.1.2.1 ca S.D.2.1.2.1 na S.G.2.2.2.1.2.1 S.D.1.2.1 S.D.2.2.1 S.D.2.2.2.1 S.D.2.2.2.2 S.lost], [(qs 0, .inl (cI, 12, .inl (lI S.eb)))], [(qs 1, .inl (cI, 144, .inl (fl (gN S.lk))))], [(qs 2, .inl (cI, 144, .inl (fl (gN wt))))], [(qs 3, .inl (cZ, 144, .inl (fl (kB S.kn))))], [(qs 4, .inl (cI, 1600, .inl fR))], [(qs 5, .inl (cI, 1600, .inl fN))], [(qs 6, .inl (cJ, 1600, .inr (.inl fL)))], [(qs 7, .inl (cJ, 1600, .inr (.inl fH)))], [(qs 8, .inl (cZ, 1600, .inl (dB uf)))], [(qs 9, .inl (cI, 144, .inl (fl (sI S.T.2.1))))], [(qs 10, .inl (cI, 4000, .inl fM))], [(qs 11, .inl (cJ, 4000, .inr (.inl fC)))], [(qs 12, .inl (cI, 4000, .inl fT))], [(qs 13, .inl (cI, 8, .inl (lI S.G.1)))], [(qs 14, .inl (cI, 8, .inl S.G.2.1))], [(qs 15, .inl (cI, 96, .inl (fl (gN (rT S.G.2.2.1)))))], [(qs 16, .inl (cI, 901, .inl fD))], [(qs 17, .inl (cI, 901, .inl fX))], [(qs 18, .inl (cI, 144, .inl (fl MK)))], [(qs 19, .inl (cI, 144, .inl (fl MF)))]]) 21 rfl [0, 1] [2, 3, 4, 5, 6, 7, 8, 9, 10, 11, 12, 13, 14, 15, 16, 17, 18, 19, 20] (by decide) rfl) hK hP hD hS hA rfl hl.1 rfl (Nat.le_of_ble_eq_true rfl) ⟨(show 0 + 0 ≤ 0 by omega), (show 0 + 0 ≤ 0 by omega)⟩ d_Ref_ingress_10 (fun rhr112 H locs hr112 hP hD hS => ?_)
    subst hr112
    refine W.eq (g2 := F0 m 13 ls [.int (bI true), .ref h]) (congrArg (fun z => F0 m 13 ls (.int z :: [.ref h])) (congrArg bI (rf_isE_s he hee))) ?_
    refine ri_ifeqB hx hb d_Ref_ingress_13 (tgt := 20) (by decide) (fun h113 => ?_) (fun h113 => ?_)
    · exact absurd h113 (fun z => by cases z)
    · refine lv_iconst (v := nI 0) hx hb d_Ref_ingress_16 (by decide) ?_
      refine lv_goto hx hb d_Ref_ingress_17 (tgt := 21) (by decide) ?_
      refine va_put (D := D) (ci := 9) (v := .int (nI 0)) (ty := .int) (C := R_Ref) (T := T_Ref) (N := 32) hx hb ht in_Ref t_Ref ok_Ref nm_Ref hown hK hP hD hS 0 rfl rfl 0 (by decide) (ht _ kl_Ref_72) (fun _ h9 => h9) rfl (by decide +kernel) rfl rfl (Nat.le_of_ble_eq_true rfl) d_Ref_ingress_21 (fun H locs hP hD hS => ?_)
      have hP : va_P D kls (List.flatten [[rf_o h qs (nI 0) ma S.T.2.2.1.2.1 ca S.D.2.1.2.1 na S.G.2.2.2.1.2.1 S.D.1.2.1 S.D.2.2.1 S.D.2.2.2.1 S.D.2.2.2.2 S.lost], [(qs 0, .inl (cI, 12, .inl (lI S.eb)))], [(qs 1, .inl (cI, 144, .inl (fl (gN S.lk))))], [(qs 2, .inl (cI, 144, .inl (fl (gN wt))))], [(qs 3, .inl (cZ, 144, .inl (fl (kB S.kn))))], [(qs 4, .inl (cI, 1600, .inl fR))], [(qs 5, .inl (cI, 1600, .inl fN))], [(qs 6, .inl (cJ, 1600, .inr (.inl fL)))], [(qs 7, .inl (cJ, 1600, .inr (.inl fH)))], [(qs 8, .inl (cZ, 1600, .inl (dB uf)))], [(qs 9, .inl (cI, 144, .inl (fl (sI S.T.2.1))))], [(qs 10, .inl (cI, 4000, .inl fM))], [(qs 11, .inl (cJ, 4000, .inr (.inl fC)))], [(qs 12, .inl (cI, 4000, .inl fT))], [(qs 13, .inl (cI, 8, .inl (lI S.G.1)))], [(qs 14, .inl (cI, 8, .inl S.G.2.1))], [(qs 15, .inl (cI, 96, .inl (fl (gN (rT S.G.2.2.1)))))], [(qs 16, .inl (cI, 901, .inl fD))], [(qs 17, .inl (cI, 901, .inl fX))], [(qs 18, .inl (cI, 144, .inl (fl MK)))], [(qs 19, .inl (cI, 144, .inl (fl MF)))]]) H := hP
      have hD : va_D A (List.flatten [[rf_o h qs (nI 0) ma S.T.2.2.1.2.1 ca S.D.2.1.2.1 na S.G.2.2.2.1.2.1 S.D.1.2.1 S.D.2.2.1 S.D.2.2.2.1 S.D.2.2.2.2 S.lost], [(qs 0, .inl (cI, 12, .inl (lI S.eb)))], [(qs 1, .inl (cI, 144, .inl (fl (gN S.lk))))], [(qs 2, .inl (cI, 144, .inl (fl (gN wt))))], [(qs 3, .inl (cZ, 144, .inl (fl (kB S.kn))))], [(qs 4, .inl (cI, 1600, .inl fR))], [(qs 5, .inl (cI, 1600, .inl fN))], [(qs 6, .inl (cJ, 1600, .inr (.inl fL)))], [(qs 7, .inl (cJ, 1600, .inr (.inl fH)))], [(qs 8, .inl (cZ, 1600, .inl (dB uf)))], [(qs 9, .inl (cI, 144, .inl (fl (sI S.T.2.1))))], [(qs 10, .inl (cI, 4000, .inl fM))], [(qs 11, .inl (cJ, 4000, .inr (.inl fC)))], [(qs 12, .inl (cI, 4000, .inl fT))], [(qs 13, .inl (cI, 8, .inl (lI S.G.1)))], [(qs 14, .inl (cI, 8, .inl S.G.2.1))], [(qs 15, .inl (cI, 96, .inl (fl (gN (rT S.G.2.2.1)))))], [(qs 16, .inl (cI, 901, .inl fD))], [(qs 17, .inl (cI, 901, .inl fX))], [(qs 18, .inl (cI, 144, .inl (fl MK)))], [(qs 19, .inl (cI, 144, .inl (fl MF)))]]) := hD
      refine lv_iconst (v := nI 0) hx hb d_Ref_ingress_24 (by decide) ?_
      refine lv_istore_n hx hb d_Ref_ingress_25 rfl hl (by decide) rfl (fun ls hl => ?_)
      have hl : lv_has ls 4 [(3, .int (nI 0)), (0, .ref h), (1, .int (nI g)), (2, .int (nI e9))] := hl
      exact loop1 12 0 H locs ls (by omega) hP hD hS hl
set_option maxHeartbeats 1600000 in
set_option maxRecDepth 100000 in
theorem n_Ref_ingress (l : Launch) (D : va_G) (cI cZ cJ cG : ClassId) {h : Nat} {cd : Int32} {S : bm_S} {ws : va_W} (hR : rf_R cI cZ cJ h cd S ws) (hi : rf_i S) (x y : Int32) (hno : ¬ ∃ g, g < 8 ∧ x = nI g ∧ rf_isE S.eb y = true ∧ rf_idle S g) : ct_V l D kls (ty4 cI cZ cJ cG) y_Ref_ingress ws_Ref_ingress (rm_ 3 66 0 0) [.ref h, .int x, .int y] (ws) (fun u => rf_R cI cZ cJ h (nI 1) S u) 0 0 := by
  obtain ⟨qs, ma, ca, na, wt, fR, fN, fL, fH, uf, fM, fC, fT, fD, fX, MK, MF, rfl, hwt, hAd, hM, hC, hN, hPd⟩ := hR
  obtain ⟨hsi, heb, h00, hA9, hm9, hcp9, hnt9, hpk9, hgi⟩ := hi
  have hok := hsi.1
  have hkn9 := hsi.2.1
  have hlk9 := hsi.2.2.1
  have hma := hM.1
  refine ct_enterV (cc := b_Ref_ingress) (maxL := 4) (ret := none) (by decide +kernel) (Nat.le_of_ble_eq_true rfl) ?_
  intro p e s m args below meth c hx hb hml hr ht hown hlk hnm A Q hA hK hP hD hQ ls hl
  have hown : s.vm.findClass R_Ref = some m.cls := hown
  have hS : va_S A s.heap s.heap [] := va_S.rf
  have hl : lv_has ls 4 [(0, .ref h), (1, .int x), (2, .int y)] := hl
  have hrt := hsi.2.2.2.2.1
  have hna := hN.1
  refine lv_aload_n hx hb d_Ref_ingress_0 rfl (lv_at hl 0 rfl) ?_
  refine lv_iload_n hx hb d_Ref_ingress_1 rfl (lv_at hl 1 rfl) ?_
  refine ct_rdS (As := [.int x]) (rest := [.ref h]) ⟨hx, hb, hml, hown, ht⟩ (k_Ref_isGroup l D cI cZ cJ cG (x)) (cb_S ht kc_Ref_isGroup kl_Ref_145 kn_Ref ki_Ref_isGroup hd_Ref_isGroup ⟨Nat.le_of_ble_eq_true rfl, Nat.le_of_ble_eq_true rfl⟩) (wd_ct (Bs := [[rf_o h qs cd ma S.T.2.2.1.2.1 ca S.D.2.1.2.1 na S.G.2.2.2.1.2.1 S.D.1.2.1 S.D.2.2.1 S.D.2.2.2.1 S.D.2.2.2.2 S.lost], [(qs 0, .inl (cI, 12, .inl (lI S.eb)))], [(qs 1, .inl (cI, 144, .inl (fl (gN S.lk))))], [(qs 2, .inl (cI, 144, .inl (fl (gN wt))))], [(qs 3, .inl (cZ, 144, .inl (fl (kB S.kn))))], [(qs 4, .inl (cI, 1600, .inl fR))], [(qs 5, .inl (cI, 1600, .inl fN))], [(qs 6, .inl (cJ, 1600, .inr (.inl fL)))], [(qs 7, .inl (cJ, 1600, .inr (.inl fH)))], [(qs 8, .inl (cZ, 1600, .inl (dB uf)))], [(qs 9, .inl (cI, 144, .inl (fl (sI S.T.2.1))))], [(qs 10, .inl (cI, 4000, .inl fM))], [(qs 11, .inl (cJ, 4000, .inr (.inl fC)))], [(qs 12, .inl (cI, 4000, .inl fT))], [(qs 13, .inl (cI, 8, .inl (lI S.G.1)))], [(qs 14, .inl (cI, 8, .inl S.G.2.1))], [(qs 15, .inl (cI, 96, .inl (fl (gN (rT S.G.2.2.1)))))], [(qs 16, .inl (cI, 901, .inl fD))], [(qs 17, .inl (cI, 901, .inl fX))], [(qs 18, .inl (cI, 144, .inl (fl MK)))], [(qs 19, .inl (cI, 144, .inl (fl MF)))]]) 21 rfl [] [0, 1, 2, 3, 4, 5, 6, 7, 8, 9, 10, 11, 12, 13, 14, 15, 16, 17, 18, 19, 20] (by decide) rfl) hK hP hD hS hA rfl hl.1 rfl (Nat.le_of_ble_eq_true rfl) ⟨(show 0 + 0 ≤ 0 by omega), (show 0 + 0 ≤ 0 by omega)⟩ d_Ref_ingress_2 (fun rhr101 H locs hr101 hP hD hS => ?_)
  subst hr101
  refine ri_ifeqB hx hb d_Ref_ingress_5 (tgt := 20) (by decide) (fun h5 => ?_) (fun h5 => ?_)
  · refine lv_iconst (v := nI 1) hx hb d_Ref_ingress_20 (by decide) ?_
    refine va_put (D := D) (ci := 9) (v := .int (nI 1)) (ty := .int) (C := R_Ref) (T := T_Ref) (N := 32) hx hb ht in_Ref t_Ref ok_Ref nm_Ref hown hK hP hD hS 0 rfl rfl 0 (by decide) (ht _ kl_Ref_72) (fun _ h9 => h9) rfl (by decide +kernel) rfl rfl (Nat.le_of_ble_eq_true rfl) d_Ref_ingress_21 (fun H locs hP hD hS => ?_)
    have hP : va_P D kls (List.flatten [[rf_o h qs (nI 1) ma S.T.2.2.1.2.1 ca S.D.2.1.2.1 na S.G.2.2.2.1.2.1 S.D.1.2.1 S.D.2.2.1 S.D.2.2.2.1 S.D.2.2.2.2 S.lost], [(qs 0, .inl (cI, 12, .inl (lI S.eb)))], [(qs 1, .inl (cI, 144, .inl (fl (gN S.lk))))], [(qs 2, .inl (cI, 144, .inl (fl (gN wt))))], [(qs 3, .inl (cZ, 144, .inl (fl (kB S.kn))))], [(qs 4, .inl (cI, 1600, .inl fR))], [(qs 5, .inl (cI, 1600, .inl fN))], [(qs 6, .inl (cJ, 1600, .inr (.inl fL)))], [(qs 7, .inl (cJ, 1600, .inr (.inl fH)))], [(qs 8, .inl (cZ, 1600, .inl (dB uf)))], [(qs 9, .inl (cI, 144, .inl (fl (sI S.T.2.1))))], [(qs 10, .inl (cI, 4000, .inl fM))], [(qs 11, .inl (cJ, 4000, .inr (.inl fC)))], [(qs 12, .inl (cI, 4000, .inl fT))], [(qs 13, .inl (cI, 8, .inl (lI S.G.1)))], [(qs 14, .inl (cI, 8, .inl S.G.2.1))], [(qs 15, .inl (cI, 96, .inl (fl (gN (rT S.G.2.2.1)))))], [(qs 16, .inl (cI, 901, .inl fD))], [(qs 17, .inl (cI, 901, .inl fX))], [(qs 18, .inl (cI, 144, .inl (fl MK)))], [(qs 19, .inl (cI, 144, .inl (fl MF)))]]) H := hP
    have hD : va_D A (List.flatten [[rf_o h qs (nI 1) ma S.T.2.2.1.2.1 ca S.D.2.1.2.1 na S.G.2.2.2.1.2.1 S.D.1.2.1 S.D.2.2.1 S.D.2.2.2.1 S.D.2.2.2.2 S.lost], [(qs 0, .inl (cI, 12, .inl (lI S.eb)))], [(qs 1, .inl (cI, 144, .inl (fl (gN S.lk))))], [(qs 2, .inl (cI, 144, .inl (fl (gN wt))))], [(qs 3, .inl (cZ, 144, .inl (fl (kB S.kn))))], [(qs 4, .inl (cI, 1600, .inl fR))], [(qs 5, .inl (cI, 1600, .inl fN))], [(qs 6, .inl (cJ, 1600, .inr (.inl fL)))], [(qs 7, .inl (cJ, 1600, .inr (.inl fH)))], [(qs 8, .inl (cZ, 1600, .inl (dB uf)))], [(qs 9, .inl (cI, 144, .inl (fl (sI S.T.2.1))))], [(qs 10, .inl (cI, 4000, .inl fM))], [(qs 11, .inl (cJ, 4000, .inr (.inl fC)))], [(qs 12, .inl (cI, 4000, .inl fT))], [(qs 13, .inl (cI, 8, .inl (lI S.G.1)))], [(qs 14, .inl (cI, 8, .inl S.G.2.1))], [(qs 15, .inl (cI, 96, .inl (fl (gN (rT S.G.2.2.1)))))], [(qs 16, .inl (cI, 901, .inl fD))], [(qs 17, .inl (cI, 901, .inl fX))], [(qs 18, .inl (cI, 144, .inl (fl MK)))], [(qs 19, .inl (cI, 144, .inl (fl MF)))]]) := hD
    refine lv_iconst (v := nI 0) hx hb d_Ref_ingress_24 (by decide) ?_
    refine lv_istore_n hx hb d_Ref_ingress_25 rfl hl (by decide) rfl (fun ls hl => ?_)
    have hl : lv_has ls 4 [(3, .int (nI 0)), (0, .ref h), (1, .int x), (2, .int y)] := hl
    refine lv_iload_n hx hb d_Ref_ingress_26 rfl (lv_at hl 0 rfl) ?_
    refine lv_bipush (v := nI 12) hx hb d_Ref_ingress_27 (by decide) ?_
    refine ri_icmp_ge hx hb (by omega) (by omega) d_Ref_ingress_29 (tgt := 64) (by decide) (fun h103 => ?_) (fun h103 => ?_)
    · exact absurd h103 (by decide)
    · refine lv_aload_n hx hb d_Ref_ingress_32 rfl (lv_at hl 1 rfl) ?_
      refine va_get (D := D) (ci := 9) (v := .int (nI 1)) (C := R_Ref) (T := T_Ref) (N := 32) hx hb ht in_Ref hown hK hP 0 rfl rfl 0 (by decide) (ht _ kl_Ref_72) (fun _ h9 => h9) rfl d_Ref_ingress_33 ?_
      refine ri_if_ne hx hb (by omega) d_Ref_ingress_36 (tgt := 64) (by decide) (fun h104 => ?_) (fun h104 => ?_)
      · refine lv_iconst (v := nI 0) hx hb d_Ref_ingress_64 (by decide) ?_
        refine lv_istore_n hx hb d_Ref_ingress_65 rfl hl (by decide) rfl (fun ls hl => ?_)
        have hl : lv_has ls 4 [(3, .int (nI 0)), (0, .ref h), (1, .int x), (2, .int y)] := hl
        refine lv_iload_n hx hb d_Ref_ingress_66 rfl (lv_at hl 0 rfl) ?_
        refine lv_aload_n hx hb d_Ref_ingress_67 rfl (lv_at hl 1 rfl) ?_
        refine va_get (D := D) (ci := 9) (v := .int (nI S.G.2.2.2.1.2.1)) (C := R_Ref) (T := T_Ref) (N := 32) hx hb ht in_Ref hown hK hP 0 rfl rfl 18 (by decide) (ht _ kl_Ref_151) (fun _ h9 => h9) rfl d_Ref_ingress_68 ?_
        refine ri_icmp_ge hx hb (by omega) (by omega) d_Ref_ingress_71 (tgt := 114) (by decide) (fun h105 => ?_) (fun h105 => ?_)
        · refine lv_aload_n hx hb d_Ref_ingress_114 rfl (lv_at hl 1 rfl) ?_
          refine va_get (D := D) (ci := 9) (v := .int (nI 1)) (C := R_Ref) (T := T_Ref) (N := 32) hx hb ht in_Ref hown hK hP 0 rfl rfl 0 (by decide) (ht _ kl_Ref_72) (fun _ h9 => h9) rfl d_Ref_ingress_115 ?_
          refine ri_if_le hx hb (by omega) d_Ref_ingress_118 (tgt := 122) (by decide) (fun h106 => ?_) (fun h106 => ?_)
          · exact absurd h106 (by decide)
          · exact ct_vret hQ hx hb hr hlk hP hD hS hK (by omega) (by omega) d_Ref_ingress_121 (⟨qs, ma, ca, na, wt, fR, fN, fL, fH, uf, fM, fC, fT, fD, fX, MK, MF, rfl, hwt, hAd, hM, hC, hN, hPd⟩)
        · refine lv_aload_n hx hb d_Ref_ingress_74 rfl (lv_at hl 1 rfl) ?_
          refine va_get (D := D) (ci := 9) (v := .int (nI 1)) (C := R_Ref) (T := T_Ref) (N := 32) hx hb ht in_Ref hown hK hP 0 rfl rfl 0 (by decide) (ht _ kl_Ref_72) (fun _ h9 => h9) rfl d_Ref_ingress_75 ?_
          refine ri_if_ne hx hb (by omega) d_Ref_ingress_78 (tgt := 114) (by decide) (fun h107 => ?_) (fun h107 => ?_)
          · refine lv_aload_n hx hb d_Ref_ingress_114 rfl (lv_at hl 1 rfl) ?_
            refine va_get (D := D) (ci := 9) (v := .int (nI 1)) (C := R_Ref) (T := T_Ref) (N := 32) hx hb ht in_Ref hown hK hP 0 rfl rfl 0 (by decide) (ht _ kl_Ref_72) (fun _ h9 => h9) rfl d_Ref_ingress_115 ?_
            refine ri_if_le hx hb (by omega) d_Ref_ingress_118 (tgt := 122) (by decide) (fun h108 => ?_) (fun h108 => ?_)
            · exact absurd h108 (by decide)
            · exact ct_vret hQ hx hb hr hlk hP hD hS hK (by omega) (by omega) d_Ref_ingress_121 (⟨qs, ma, ca, na, wt, fR, fN, fL, fH, uf, fM, fC, fT, fD, fX, MK, MF, rfl, hwt, hAd, hM, hC, hN, hPd⟩)
          · exact absurd h107 (by decide)
      · exact absurd h104 (by decide)
  · refine lv_aload_n hx hb d_Ref_ingress_8 rfl (lv_at hl 0 rfl) ?_
    refine lv_iload_n hx hb d_Ref_ingress_9 rfl (lv_at hl 2 rfl) ?_
    refine ct_rdV (C := R_Ref) (ci := 9) (As := [.int y]) (rest := [.ref h]) ⟨hx, hb, hml, hown, ht⟩ (k_Ref_isEdge l D cI cZ cJ cG heb (y)) (cb_V ht kc_Ref_isEdge kl_Ref_148 kn_Ref ki_Ref_isEdge ks_Ref_isEdge hd_Ref_isEdge ⟨Nat.le_of_ble_eq_true rfl, Nat.le_of_ble_eq_true rfl⟩) (List.mem_of_getElem? (i := 0) rfl) rfl rfl (wd_ct (Bs := [[rf_o h qs cd ma S.T.2.2.1.2.1 ca S.D.2.1.2.1 na S.G.2.2.2.1.2.1 S.D.1.2.1 S.D.2.2.1 S.D.2.2.2.1 S.D.2.2.2.2 S.lost], [(qs 0, .inl (cI, 12, .inl (lI S.eb)))], [(qs 1, .inl (cI, 144, .inl (fl (gN S.lk))))], [(qs 2, .inl (cI, 144, .inl (fl (gN wt))))], [(qs 3, .inl (cZ, 144, .inl (fl (kB S.kn))))], [(qs 4, .inl (cI, 1600, .inl fR))], [(qs 5, .inl (cI, 1600, .inl fN))], [(qs 6, .inl (cJ, 1600, .inr (.inl fL)))], [(qs 7, .inl (cJ, 1600, .inr (.inl fH)))], [(qs 8, .inl (cZ, 1600, .inl (dB uf)))], [(qs 9, .inl (cI, 144, .inl (fl (sI S.T.2.1))))], [(qs 10, .inl (cI, 4000, .inl fM))], [(qs 11, .inl (cJ, 4000, .inr (.inl fC)))], [(qs 12, .inl (cI, 4000, .inl fT))], [(qs 13, .inl (cI, 8, .inl (lI S.G.1)))], [(qs 14, .inl (cI, 8, .inl S.G.2.1))], [(qs 15, .inl (cI, 96, .inl (fl (gN (rT S.G.2.2.1)))))], [(qs 16, .inl (cI, 901, .inl fD))], [(qs 17, .inl (cI, 901, .inl fX))], [(qs 18, .inl (cI, 144, .inl (fl MK)))], [(qs 19, .inl (cI, 144, .inl (fl MF)))]]) 21 rfl [0, 1] [2, 3, 4, 5, 6, 7, 8, 9, 10, 11, 12, 13, 14, 15, 16, 17, 18, 19, 20] (by decide) rfl) hK hP hD hS hA rfl hl.1 rfl (Nat.le_of_ble_eq_true rfl) ⟨(show 0 + 0 ≤ 0 by omega), (show 0 + 0 ≤ 0 by omega)⟩ d_Ref_ingress_10 (fun rhr109 H locs hr109 hP hD hS => ?_)
    subst hr109
    refine ri_ifeqB hx hb d_Ref_ingress_13 (tgt := 20) (by decide) (fun h13 => ?_) (fun h13 => ?_)
    · refine lv_iconst (v := nI 1) hx hb d_Ref_ingress_20 (by decide) ?_
      refine va_put (D := D) (ci := 9) (v := .int (nI 1)) (ty := .int) (C := R_Ref) (T := T_Ref) (N := 32) hx hb ht in_Ref t_Ref ok_Ref nm_Ref hown hK hP hD hS 0 rfl rfl 0 (by decide) (ht _ kl_Ref_72) (fun _ h9 => h9) rfl (by decide +kernel) rfl rfl (Nat.le_of_ble_eq_true rfl) d_Ref_ingress_21 (fun H locs hP hD hS => ?_)
      have hP : va_P D kls (List.flatten [[rf_o h qs (nI 1) ma S.T.2.2.1.2.1 ca S.D.2.1.2.1 na S.G.2.2.2.1.2.1 S.D.1.2.1 S.D.2.2.1 S.D.2.2.2.1 S.D.2.2.2.2 S.lost], [(qs 0, .inl (cI, 12, .inl (lI S.eb)))], [(qs 1, .inl (cI, 144, .inl (fl (gN S.lk))))], [(qs 2, .inl (cI, 144, .inl (fl (gN wt))))], [(qs 3, .inl (cZ, 144, .inl (fl (kB S.kn))))], [(qs 4, .inl (cI, 1600, .inl fR))], [(qs 5, .inl (cI, 1600, .inl fN))], [(qs 6, .inl (cJ, 1600, .inr (.inl fL)))], [(qs 7, .inl (cJ, 1600, .inr (.inl fH)))], [(qs 8, .inl (cZ, 1600, .inl (dB uf)))], [(qs 9, .inl (cI, 144, .inl (fl (sI S.T.2.1))))], [(qs 10, .inl (cI, 4000, .inl fM))], [(qs 11, .inl (cJ, 4000, .inr (.inl fC)))], [(qs 12, .inl (cI, 4000, .inl fT))], [(qs 13, .inl (cI, 8, .inl (lI S.G.1)))], [(qs 14, .inl (cI, 8, .inl S.G.2.1))], [(qs 15, .inl (cI, 96, .inl (fl (gN (rT S.G.2.2.1)))))], [(qs 16, .inl (cI, 901, .inl fD))], [(qs 17, .inl (cI, 901, .inl fX))], [(qs 18, .inl (cI, 144, .inl (fl MK)))], [(qs 19, .inl (cI, 144, .inl (fl MF)))]]) H := hP
      have hD : va_D A (List.flatten [[rf_o h qs (nI 1) ma S.T.2.2.1.2.1 ca S.D.2.1.2.1 na S.G.2.2.2.1.2.1 S.D.1.2.1 S.D.2.2.1 S.D.2.2.2.1 S.D.2.2.2.2 S.lost], [(qs 0, .inl (cI, 12, .inl (lI S.eb)))], [(qs 1, .inl (cI, 144, .inl (fl (gN S.lk))))], [(qs 2, .inl (cI, 144, .inl (fl (gN wt))))], [(qs 3, .inl (cZ, 144, .inl (fl (kB S.kn))))], [(qs 4, .inl (cI, 1600, .inl fR))], [(qs 5, .inl (cI, 1600, .inl fN))], [(qs 6, .inl (cJ, 1600, .inr (.inl fL)))], [(qs 7, .inl (cJ, 1600, .inr (.inl fH)))], [(qs 8, .inl (cZ, 1600, .inl (dB uf)))], [(qs 9, .inl (cI, 144, .inl (fl (sI S.T.2.1))))], [(qs 10, .inl (cI, 4000, .inl fM))], [(qs 11, .inl (cJ, 4000, .inr (.inl fC)))], [(qs 12, .inl (cI, 4000, .inl fT))], [(qs 13, .inl (cI, 8, .inl (lI S.G.1)))], [(qs 14, .inl (cI, 8, .inl S.G.2.1))], [(qs 15, .inl (cI, 96, .inl (fl (gN (rT S.G.2.2.1)))))], [(qs 16, .inl (cI, 901, .inl fD))], [(qs 17, .inl (cI, 901, .inl fX))], [(qs 18, .inl (cI, 144, .inl (fl MK)))], [(qs 19, .inl (cI, 144, .inl (fl MF)))]]) := hD
      refine lv_iconst (v := nI 0) hx hb d_Ref_ingress_24 (by decide) ?_
      refine lv_istore_n hx hb d_Ref_ingress_25 rfl hl (by decide) rfl (fun ls hl => ?_)
      have hl : lv_has ls 4 [(3, .int (nI 0)), (0, .ref h), (1, .int x), (2, .int y)] := hl
      refine lv_iload_n hx hb d_Ref_ingress_26 rfl (lv_at hl 0 rfl) ?_
      refine lv_bipush (v := nI 12) hx hb d_Ref_ingress_27 (by decide) ?_
      refine ri_icmp_ge hx hb (by omega) (by omega) d_Ref_ingress_29 (tgt := 64) (by decide) (fun h111 => ?_) (fun h111 => ?_)
      · exact absurd h111 (by decide)
      · refine lv_aload_n hx hb d_Ref_ingress_32 rfl (lv_at hl 1 rfl) ?_
        refine va_get (D := D) (ci := 9) (v := .int (nI 1)) (C := R_Ref) (T := T_Ref) (N := 32) hx hb ht in_Ref hown hK hP 0 rfl rfl 0 (by decide) (ht _ kl_Ref_72) (fun _ h9 => h9) rfl d_Ref_ingress_33 ?_
        refine ri_if_ne hx hb (by omega) d_Ref_ingress_36 (tgt := 64) (by decide) (fun h112 => ?_) (fun h112 => ?_)
        · refine lv_iconst (v := nI 0) hx hb d_Ref_ingress_64 (by decide) ?_
          refine lv_istore_n hx hb d_Ref_ingress_65 rfl hl (by decide) rfl (fun ls hl => ?_)
          have hl : lv_has ls 4 [(3, .int (nI 0)), (0, .ref h), (1, .int x), (2, .int y)] := hl
          refine lv_iload_n hx hb d_Ref_ingress_66 rfl (lv_at hl 0 rfl) ?_
          refine lv_aload_n hx hb d_Ref_ingress_67 rfl (lv_at hl 1 rfl) ?_
          refine va_get (D := D) (ci := 9) (v := .int (nI S.G.2.2.2.1.2.1)) (C := R_Ref) (T := T_Ref) (N := 32) hx hb ht in_Ref hown hK hP 0 rfl rfl 18 (by decide) (ht _ kl_Ref_151) (fun _ h9 => h9) rfl d_Ref_ingress_68 ?_
          refine ri_icmp_ge hx hb (by omega) (by omega) d_Ref_ingress_71 (tgt := 114) (by decide) (fun h113 => ?_) (fun h113 => ?_)
          · refine lv_aload_n hx hb d_Ref_ingress_114 rfl (lv_at hl 1 rfl) ?_
            refine va_get (D := D) (ci := 9) (v := .int (nI 1)) (C := R_Ref) (T := T_Ref) (N := 32) hx hb ht in_Ref hown hK hP 0 rfl rfl 0 (by decide) (ht _ kl_Ref_72) (fun _ h9 => h9) rfl d_Ref_ingress_115 ?_
            refine ri_if_le hx hb (by omega) d_Ref_ingress_118 (tgt := 122) (by decide) (fun h114 => ?_) (fun h114 => ?_)
            · exact absurd h114 (by decide)
            · exact ct_vret hQ hx hb hr hlk hP hD hS hK (by omega) (by omega) d_Ref_ingress_121 (⟨qs, ma, ca, na, wt, fR, fN, fL, fH, uf, fM, fC, fT, fD, fX, MK, MF, rfl, hwt, hAd, hM, hC, hN, hPd⟩)
          · refine lv_aload_n hx hb d_Ref_ingress_74 rfl (lv_at hl 1 rfl) ?_
            refine va_get (D := D) (ci := 9) (v := .int (nI 1)) (C := R_Ref) (T := T_Ref) (N := 32) hx hb ht in_Ref hown hK hP 0 rfl rfl 0 (by decide) (ht _ kl_Ref_72) (fun _ h9 => h9) rfl d_Ref_ingress_75 ?_
            refine ri_if_ne hx hb (by omega) d_Ref_ingress_78 (tgt := 114) (by decide) (fun h115 => ?_) (fun h115 => ?_)
            · refine lv_aload_n hx hb d_Ref_ingress_114 rfl (lv_at hl 1 rfl) ?_
              refine va_get (D := D) (ci := 9) (v := .int (nI 1)) (C := R_Ref) (T := T_Ref) (N := 32) hx hb ht in_Ref hown hK hP 0 rfl rfl 0 (by decide) (ht _ kl_Ref_72) (fun _ h9 => h9) rfl d_Ref_ingress_115 ?_
              refine ri_if_le hx hb (by omega) d_Ref_ingress_118 (tgt := 122) (by decide) (fun h116 => ?_) (fun h116 => ?_)
              · exact absurd h116 (by decide)
              · exact ct_vret hQ hx hb hr hlk hP hD hS hK (by omega) (by omega) d_Ref_ingress_121 (⟨qs, ma, ca, na, wt, fR, fN, fL, fH, uf, fM, fC, fT, fD, fX, MK, MF, rfl, hwt, hAd, hM, hC, hN, hPd⟩)
            · exact absurd h115 (by decide)
        · exact absurd h112 (by decide)
    · refine lv_iconst (v := nI 0) hx hb d_Ref_ingress_16 (by decide) ?_
      refine lv_goto hx hb d_Ref_ingress_17 (tgt := 21) (by decide) ?_
      refine va_put (D := D) (ci := 9) (v := .int (nI 0)) (ty := .int) (C := R_Ref) (T := T_Ref) (N := 32) hx hb ht in_Ref t_Ref ok_Ref nm_Ref hown hK hP hD hS 0 rfl rfl 0 (by decide) (ht _ kl_Ref_72) (fun _ h9 => h9) rfl (by decide +kernel) rfl rfl (Nat.le_of_ble_eq_true rfl) d_Ref_ingress_21 (fun H locs hP hD hS => ?_)
      have hP : va_P D kls (List.flatten [[rf_o h qs (nI 0) ma S.T.2.2.1.2.1 ca S.D.2.1.2.1 na S.G.2.2.2.1.2.1 S.D.1.2.1 S.D.2.2.1 S.D.2.2.2.1 S.D.2.2.2.2 S.lost], [(qs 0, .inl (cI, 12, .inl (lI S.eb)))], [(qs 1, .inl (cI, 144, .inl (fl (gN S.lk))))], [(qs 2, .inl (cI, 144, .inl (fl (gN wt))))], [(qs 3, .inl (cZ, 144, .inl (fl (kB S.kn))))], [(qs 4, .inl (cI, 1600, .inl fR))], [(qs 5, .inl (cI, 1600, .inl fN))], [(qs 6, .inl (cJ, 1600, .inr (.inl fL)))], [(qs 7, .inl (cJ, 1600, .inr (.inl fH)))], [(qs 8, .inl (cZ, 1600, .inl (dB uf)))], [(qs 9, .inl (cI, 144, .inl (fl (sI S.T.2.1))))], [(qs 10, .inl (cI, 4000, .inl fM))], [(qs 11, .inl (cJ, 4000, .inr (.inl fC)))], [(qs 12, .inl (cI, 4000, .inl fT))], [(qs 13, .inl (cI, 8, .inl (lI S.G.1)))], [(qs 14, .inl (cI, 8, .inl S.G.2.1))], [(qs 15, .inl (cI, 96, .inl (fl (gN (rT S.G.2.2.1)))))], [(qs 16, .inl (cI, 901, .inl fD))], [(qs 17, .inl (cI, 901, .inl fX))], [(qs 18, .inl (cI, 144, .inl (fl MK)))], [(qs 19, .inl (cI, 144, .inl (fl MF)))]]) H := hP
      have hD : va_D A (List.flatten [[rf_o h qs (nI 0) ma S.T.2.2.1.2.1 ca S.D.2.1.2.1 na S.G.2.2.2.1.2.1 S.D.1.2.1 S.D.2.2.1 S.D.2.2.2.1 S.D.2.2.2.2 S.lost], [(qs 0, .inl (cI, 12, .inl (lI S.eb)))], [(qs 1, .inl (cI, 144, .inl (fl (gN S.lk))))], [(qs 2, .inl (cI, 144, .inl (fl (gN wt))))], [(qs 3, .inl (cZ, 144, .inl (fl (kB S.kn))))], [(qs 4, .inl (cI, 1600, .inl fR))], [(qs 5, .inl (cI, 1600, .inl fN))], [(qs 6, .inl (cJ, 1600, .inr (.inl fL)))], [(qs 7, .inl (cJ, 1600, .inr (.inl fH)))], [(qs 8, .inl (cZ, 1600, .inl (dB uf)))], [(qs 9, .inl (cI, 144, .inl (fl (sI S.T.2.1))))], [(qs 10, .inl (cI, 4000, .inl fM))], [(qs 11, .inl (cJ, 4000, .inr (.inl fC)))], [(qs 12, .inl (cI, 4000, .inl fT))], [(qs 13, .inl (cI, 8, .inl (lI S.G.1)))], [(qs 14, .inl (cI, 8, .inl S.G.2.1))], [(qs 15, .inl (cI, 96, .inl (fl (gN (rT S.G.2.2.1)))))], [(qs 16, .inl (cI, 901, .inl fD))], [(qs 17, .inl (cI, 901, .inl fX))], [(qs 18, .inl (cI, 144, .inl (fl MK)))], [(qs 19, .inl (cI, 144, .inl (fl MF)))]]) := hD
      refine lv_iconst (v := nI 0) hx hb d_Ref_ingress_24 (by decide) ?_
      refine lv_istore_n hx hb d_Ref_ingress_25 rfl hl (by decide) rfl (fun ls hl => ?_)
      have hl : lv_has ls 4 [(3, .int (nI 0)), (0, .ref h), (1, .int x), (2, .int y)] := hl
      obtain ⟨g, hg, rfl⟩ := rg_n (k := 8) h5
      have hl : lv_has ls 4 [(3, .int (nI 0)), (0, .ref h), (1, .int (nI g)), (2, .int y)] := hl
      have loop2 : ∀ (k j : Nat)  (H : Heap) (locs : List Loc) (ls : Array Slot), j + k = S.G.2.2.2.1.2.1 → (∀ r, r < 12 → S.G.2.2.1 r g = 0) → (∀ i, i < j → S.G.2.2.2.1.2.2 i 0 ≠ nI g) → va_P D kls (List.flatten [[rf_o h qs (nI 0) ma S.T.2.2.1.2.1 ca S.D.2.1.2.1 na S.G.2.2.2.1.2.1 S.D.1.2.1 S.D.2.2.1 S.D.2.2.2.1 S.D.2.2.2.2 S.lost], [(qs 0, .inl (cI, 12, .inl (lI S.eb)))], [(qs 1, .inl (cI, 144, .inl (fl (gN S.lk))))], [(qs 2, .inl (cI, 144, .inl (fl (gN wt))))], [(qs 3, .inl (cZ, 144, .inl (fl (kB S.kn))))], [(qs 4, .inl (cI, 1600, .inl fR))], [(qs 5, .inl (cI, 1600, .inl fN))], [(qs 6, .inl (cJ, 1600, .inr (.inl fL)))], [(qs 7, .inl (cJ, 1600, .inr (.inl fH)))], [(qs 8, .inl (cZ, 1600, .inl (dB uf)))], [(qs 9, .inl (cI, 144, .inl (fl (sI S.T.2.1))))], [(qs 10, .inl (cI, 4000, .inl fM))], [(qs 11, .inl (cJ, 4000, .inr (.inl fC)))], [(qs 12, .inl (cI, 4000, .inl fT))], [(qs 13, .inl (cI, 8, .inl (lI S.G.1)))], [(qs 14, .inl (cI, 8, .inl S.G.2.1))], [(qs 15, .inl (cI, 96, .inl (fl (gN (rT S.G.2.2.1)))))], [(qs 16, .inl (cI, 901, .inl fD))], [(qs 17, .inl (cI, 901, .inl fX))], [(qs 18, .inl (cI, 144, .inl (fl MK)))], [(qs 19, .inl (cI, 144, .inl (fl MF)))]]) H → va_D A (List.flatten [[rf_o h qs (nI 0) ma S.T.2.2.1.2.1 ca S.D.2.1.2.1 na S.G.2.2.2.1.2.1 S.D.1.2.1 S.D.2.2.1 S.D.2.2.2.1 S.D.2.2.2.2 S.lost], [(qs 0, .inl (cI, 12, .inl (lI S.eb)))], [(qs 1, .inl (cI, 144, .inl (fl (gN S.lk))))], [(qs 2, .inl (cI, 144, .inl (fl (gN wt))))], [(qs 3, .inl (cZ, 144, .inl (fl (kB S.kn))))], [(qs 4, .inl (cI, 1600, .inl fR))], [(qs 5, .inl (cI, 1600, .inl fN))], [(qs 6, .inl (cJ, 1600, .inr (.inl fL)))], [(qs 7, .inl (cJ, 1600, .inr (.inl fH)))], [(qs 8, .inl (cZ, 1600, .inl (dB uf)))], [(qs 9, .inl (cI, 144, .inl (fl (sI S.T.2.1))))], [(qs 10, .inl (cI, 4000, .inl fM))], [(qs 11, .inl (cJ, 4000, .inr (.inl fC)))], [(qs 12, .inl (cI, 4000, .inl fT))], [(qs 13, .inl (cI, 8, .inl (lI S.G.1)))], [(qs 14, .inl (cI, 8, .inl S.G.2.1))], [(qs 15, .inl (cI, 96, .inl (fl (gN (rT S.G.2.2.1)))))], [(qs 16, .inl (cI, 901, .inl fD))], [(qs 17, .inl (cI, 901, .inl fX))], [(qs 18, .inl (cI, 144, .inl (fl MK)))], [(qs 19, .inl (cI, 144, .inl (fl MF)))]]) → va_S A s.heap H locs → lv_has ls 4 [(3, .int (nI j)), (0, .ref h), (1, .int (nI g)), (2, .int y)] → W p l e (rm_ 3 66 0 0) s m args below meth c H locs 0 0 Q (F0 m 66 ls []) := by
        intro k
        induction k with
        | zero =>
          intro j H locs ls hk hall hs hP hD hS hl
          refine lv_iload_n hx hb d_Ref_ingress_66 rfl (lv_at hl 0 rfl) ?_
          refine lv_aload_n hx hb d_Ref_ingress_67 rfl (lv_at hl 1 rfl) ?_
          refine va_get (D := D) (ci := 9) (v := .int (nI S.G.2.2.2.1.2.1)) (C := R_Ref) (T := T_Ref) (N := 32) hx hb ht in_Ref hown hK hP 0 rfl rfl 18 (by decide) (ht _ kl_Ref_151) (fun _ h9 => h9) rfl d_Ref_ingress_68 ?_
          refine ri_icmp_ge hx hb (by omega) (by omega) d_Ref_ingress_71 (tgt := 114) (by decide) (fun hc9 => ?_) (fun hc9 => ?_)
          · exact absurd ⟨g, hg, rfl, h13, hall, fun i hi => hs i (by omega)⟩ hno
          · exact absurd hc9 (by omega)
        | succ k ih =>
          intro j H locs ls hk hall hs hP hD hS hl
          refine lv_iload_n hx hb d_Ref_ingress_66 rfl (lv_at hl 0 rfl) ?_
          refine lv_aload_n hx hb d_Ref_ingress_67 rfl (lv_at hl 1 rfl) ?_
          refine va_get (D := D) (ci := 9) (v := .int (nI S.G.2.2.2.1.2.1)) (C := R_Ref) (T := T_Ref) (N := 32) hx hb ht in_Ref hown hK hP 0 rfl rfl 18 (by decide) (ht _ kl_Ref_151) (fun _ h9 => h9) rfl d_Ref_ingress_68 ?_
          refine ri_icmp_ge hx hb (by omega) (by omega) d_Ref_ingress_71 (tgt := 114) (by decide) (fun hc9 => ?_) (fun hc9 => ?_)
          · exact absurd hc9 (by omega)
          · refine lv_aload_n hx hb d_Ref_ingress_74 rfl (lv_at hl 1 rfl) ?_
            refine va_get (D := D) (ci := 9) (v := .int (nI 0)) (C := R_Ref) (T := T_Ref) (N := 32) hx hb ht in_Ref hown hK hP 0 rfl rfl 0 (by decide) (ht _ kl_Ref_72) (fun _ h9 => h9) rfl d_Ref_ingress_75 ?_
            refine ri_if_ne hx hb (by omega) d_Ref_ingress_78 (tgt := 114) (by decide) (fun h119 => ?_) (fun h119 => ?_)
            · exact absurd h119 (by decide)
            · obtain ⟨g2, b2, t2, hg2, hb2, ht2, hr0, -, -, hv2⟩ := hN.2 j (by omega)
              refine lv_aload_n hx hb d_Ref_ingress_81 rfl (lv_at hl 1 rfl) ?_
              refine va_get (D := D) (ci := 9) (v := .ref (qs 12)) (C := R_Ref) (T := T_Ref) (N := 32) hx hb ht in_Ref hown hK hP 0 rfl rfl 19 (by decide) (ht _ kl_Ref_48) (fun _ h9 => h9) rfl d_Ref_ingress_82 ?_
              refine lv_aload_n hx hb d_Ref_ingress_85 rfl (lv_at hl 1 rfl) ?_
              refine va_get (D := D) (ci := 9) (v := .int (nI na)) (C := R_Ref) (T := T_Ref) (N := 32) hx hb ht in_Ref hown hK hP 0 rfl rfl 17 (by decide) (ht _ kl_Ref_154) (fun _ h9 => h9) rfl d_Ref_ingress_86 ?_
              refine lv_iload_n hx hb d_Ref_ingress_89 rfl (lv_at hl 0 rfl) ?_
              refine ri_iadd hx hb d_Ref_ingress_90 ?_
              refine lv_sipush (v := nI 4000) hx hb d_Ref_ingress_91 (by decide) ?_
              refine ri_irem2 hx hb (by omega) (by omega) (by omega) d_Ref_ingress_94 ?_
              refine ri_iald hx hb hK hP 13 0 rfl rfl (j := (na + j) % 4000) (by omega) (by omega) d_Ref_ingress_95 ?_
              refine W.eq (g2 := F0 m 96 ls [.int (nI (g2 * 64 + b2 * 2 + t2))]) (congrArg (fun z => F0 m 96 ls (.int z :: [])) (hv2)) ?_
              refine lv_bipush (v := nI 6) hx hb d_Ref_ingress_96 (by decide) ?_
              refine ri_ishr2 hx hb (by omega) (by omega) d_Ref_ingress_98 ?_
              refine W.eq (g2 := F0 m 99 ls [.int (nI g2)]) (congrArg (fun z => F0 m 99 ls (.int z :: [])) (congrArg nI (nt_g hb2 ht2))) ?_
              refine lv_iload_n hx hb d_Ref_ingress_99 rfl (lv_at hl 2 rfl) ?_
              refine ri_icmp_ne hx hb (by omega) (by omega) d_Ref_ingress_100 (tgt := 108) (by decide) (fun h100 => ?_) (fun h100 => ?_)
              · refine ri_iinc hx hb d_Ref_ingress_108 hl (k := 0) rfl (by decide) rfl (fun ls hl => ?_)
                have hl : lv_has ls 4 [(3, .int (nI (j + 1))), (0, .ref h), (1, .int (nI g)), (2, .int y)] := hl
                refine lv_goto hx hb d_Ref_ingress_111 (tgt := 66) (by decide) ?_
                exact ih (j + 1) H locs ls (by omega) hall (fun i hi => by by_cases e : i = j; (· rw [e, hr0]; exact fun z => h100 ((nI_eq (by omega) (by omega)).mp z)); (· exact hs i (by omega))) hP hD hS hl
              · refine lv_aload_n hx hb d_Ref_ingress_103 rfl (lv_at hl 1 rfl) ?_
                refine lv_iconst (v := nI 1) hx hb d_Ref_ingress_104 (by decide) ?_
                refine va_put (D := D) (ci := 9) (v := .int (nI 1)) (ty := .int) (C := R_Ref) (T := T_Ref) (N := 32) hx hb ht in_Ref t_Ref ok_Ref nm_Ref hown hK hP hD hS 0 rfl rfl 0 (by decide) (ht _ kl_Ref_72) (fun _ h9 => h9) rfl (by decide +kernel) rfl rfl (Nat.le_of_ble_eq_true rfl) d_Ref_ingress_105 (fun H locs hP hD hS => ?_)
                have hP : va_P D kls (List.flatten [[rf_o h qs (nI 1) ma S.T.2.2.1.2.1 ca S.D.2.1.2.1 na S.G.2.2.2.1.2.1 S.D.1.2.1 S.D.2.2.1 S.D.2.2.2.1 S.D.2.2.2.2 S.lost], [(qs 0, .inl (cI, 12, .inl (lI S.eb)))], [(qs 1, .inl (cI, 144, .inl (fl (gN S.lk))))], [(qs 2, .inl (cI, 144, .inl (fl (gN wt))))], [(qs 3, .inl (cZ, 144, .inl (fl (kB S.kn))))], [(qs 4, .inl (cI, 1600, .inl fR))], [(qs 5, .inl (cI, 1600, .inl fN))], [(qs 6, .inl (cJ, 1600, .inr (.inl fL)))], [(qs 7, .inl (cJ, 1600, .inr (.inl fH)))], [(qs 8, .inl (cZ, 1600, .inl (dB uf)))], [(qs 9, .inl (cI, 144, .inl (fl (sI S.T.2.1))))], [(qs 10, .inl (cI, 4000, .inl fM))], [(qs 11, .inl (cJ, 4000, .inr (.inl fC)))], [(qs 12, .inl (cI, 4000, .inl fT))], [(qs 13, .inl (cI, 8, .inl (lI S.G.1)))], [(qs 14, .inl (cI, 8, .inl S.G.2.1))], [(qs 15, .inl (cI, 96, .inl (fl (gN (rT S.G.2.2.1)))))], [(qs 16, .inl (cI, 901, .inl fD))], [(qs 17, .inl (cI, 901, .inl fX))], [(qs 18, .inl (cI, 144, .inl (fl MK)))], [(qs 19, .inl (cI, 144, .inl (fl MF)))]]) H := hP
                have hD : va_D A (List.flatten [[rf_o h qs (nI 1) ma S.T.2.2.1.2.1 ca S.D.2.1.2.1 na S.G.2.2.2.1.2.1 S.D.1.2.1 S.D.2.2.1 S.D.2.2.2.1 S.D.2.2.2.2 S.lost], [(qs 0, .inl (cI, 12, .inl (lI S.eb)))], [(qs 1, .inl (cI, 144, .inl (fl (gN S.lk))))], [(qs 2, .inl (cI, 144, .inl (fl (gN wt))))], [(qs 3, .inl (cZ, 144, .inl (fl (kB S.kn))))], [(qs 4, .inl (cI, 1600, .inl fR))], [(qs 5, .inl (cI, 1600, .inl fN))], [(qs 6, .inl (cJ, 1600, .inr (.inl fL)))], [(qs 7, .inl (cJ, 1600, .inr (.inl fH)))], [(qs 8, .inl (cZ, 1600, .inl (dB uf)))], [(qs 9, .inl (cI, 144, .inl (fl (sI S.T.2.1))))], [(qs 10, .inl (cI, 4000, .inl fM))], [(qs 11, .inl (cJ, 4000, .inr (.inl fC)))], [(qs 12, .inl (cI, 4000, .inl fT))], [(qs 13, .inl (cI, 8, .inl (lI S.G.1)))], [(qs 14, .inl (cI, 8, .inl S.G.2.1))], [(qs 15, .inl (cI, 96, .inl (fl (gN (rT S.G.2.2.1)))))], [(qs 16, .inl (cI, 901, .inl fD))], [(qs 17, .inl (cI, 901, .inl fX))], [(qs 18, .inl (cI, 144, .inl (fl MK)))], [(qs 19, .inl (cI, 144, .inl (fl MF)))]]) := hD
                refine ri_iinc hx hb d_Ref_ingress_108 hl (k := 0) rfl (by decide) rfl (fun ls hl => ?_)
                have hl : lv_has ls 4 [(3, .int (nI (j + 1))), (0, .ref h), (1, .int (nI g)), (2, .int y)] := hl
                refine lv_goto hx hb d_Ref_ingress_111 (tgt := 66) (by decide) ?_
                refine lv_iload_n hx hb d_Ref_ingress_66 rfl (lv_at hl 0 rfl) ?_
                refine lv_aload_n hx hb d_Ref_ingress_67 rfl (lv_at hl 1 rfl) ?_
                refine va_get (D := D) (ci := 9) (v := .int (nI S.G.2.2.2.1.2.1)) (C := R_Ref) (T := T_Ref) (N := 32) hx hb ht in_Ref hown hK hP 0 rfl rfl 18 (by decide) (ht _ kl_Ref_151) (fun _ h9 => h9) rfl d_Ref_ingress_68 ?_
                refine ri_icmp_ge hx hb (by omega) (by omega) d_Ref_ingress_71 (tgt := 114) (by decide) (fun hc9 => ?_) (fun hc9 => ?_)
                · refine lv_aload_n hx hb d_Ref_ingress_114 rfl (lv_at hl 1 rfl) ?_
                  refine va_get (D := D) (ci := 9) (v := .int (nI 1)) (C := R_Ref) (T := T_Ref) (N := 32) hx hb ht in_Ref hown hK hP 0 rfl rfl 0 (by decide) (ht _ kl_Ref_72) (fun _ h9 => h9) rfl d_Ref_ingress_115 ?_
                  refine ri_if_le hx hb (by omega) d_Ref_ingress_118 (tgt := 122) (by decide) (fun h122 => ?_) (fun h122 => ?_)
                  · exact absurd h122 (by decide)
                  · exact ct_vret hQ hx hb hr hlk hP hD hS hK (by omega) (by omega) d_Ref_ingress_121 (⟨qs, ma, ca, na, wt, fR, fN, fL, fH, uf, fM, fC, fT, fD, fX, MK, MF, rfl, hwt, hAd, hM, hC, hN, hPd⟩)
                · refine lv_aload_n hx hb d_Ref_ingress_74 rfl (lv_at hl 1 rfl) ?_
                  refine va_get (D := D) (ci := 9) (v := .int (nI 1)) (C := R_Ref) (T := T_Ref) (N := 32) hx hb ht in_Ref hown hK hP 0 rfl rfl 0 (by decide) (ht _ kl_Ref_72) (fun _ h9 => h9) rfl d_Ref_ingress_75 ?_
                  refine ri_if_ne hx hb (by omega) d_Ref_ingress_78 (tgt := 114) (by decide) (fun h123 => ?_) (fun h123 => ?_)
                  · refine lv_aload_n hx hb d_Ref_ingress_114 rfl (lv_at hl 1 rfl) ?_
                    refine va_get (D := D) (ci := 9) (v := .int (nI 1)) (C := R_Ref) (T := T_Ref) (N := 32) hx hb ht in_Ref hown hK hP 0 rfl rfl 0 (by decide) (ht _ kl_Ref_72) (fun _ h9 => h9) rfl d_Ref_ingress_115 ?_
                    refine ri_if_le hx hb (by omega) d_Ref_ingress_118 (tgt := 122) (by decide) (fun h124 => ?_) (fun h124 => ?_)
                    · exact absurd h124 (by decide)
                    · exact ct_vret hQ hx hb hr hlk hP hD hS hK (by omega) (by omega) d_Ref_ingress_121 (⟨qs, ma, ca, na, wt, fR, fN, fL, fH, uf, fM, fC, fT, fD, fX, MK, MF, rfl, hwt, hAd, hM, hC, hN, hPd⟩)
                  · exact absurd h123 (by decide)
      have loop1 : ∀ (k j : Nat)  (H : Heap) (locs : List Loc) (ls : Array Slot), j + k = 12 → (∀ i, i < j → S.G.2.2.1 i g = 0) → va_P D kls (List.flatten [[rf_o h qs (nI 0) ma S.T.2.2.1.2.1 ca S.D.2.1.2.1 na S.G.2.2.2.1.2.1 S.D.1.2.1 S.D.2.2.1 S.D.2.2.2.1 S.D.2.2.2.2 S.lost], [(qs 0, .inl (cI, 12, .inl (lI S.eb)))], [(qs 1, .inl (cI, 144, .inl (fl (gN S.lk))))], [(qs 2, .inl (cI, 144, .inl (fl (gN wt))))], [(qs 3, .inl (cZ, 144, .inl (fl (kB S.kn))))], [(qs 4, .inl (cI, 1600, .inl fR))], [(qs 5, .inl (cI, 1600, .inl fN))], [(qs 6, .inl (cJ, 1600, .inr (.inl fL)))], [(qs 7, .inl (cJ, 1600, .inr (.inl fH)))], [(qs 8, .inl (cZ, 1600, .inl (dB uf)))], [(qs 9, .inl (cI, 144, .inl (fl (sI S.T.2.1))))], [(qs 10, .inl (cI, 4000, .inl fM))], [(qs 11, .inl (cJ, 4000, .inr (.inl fC)))], [(qs 12, .inl (cI, 4000, .inl fT))], [(qs 13, .inl (cI, 8, .inl (lI S.G.1)))], [(qs 14, .inl (cI, 8, .inl S.G.2.1))], [(qs 15, .inl (cI, 96, .inl (fl (gN (rT S.G.2.2.1)))))], [(qs 16, .inl (cI, 901, .inl fD))], [(qs 17, .inl (cI, 901, .inl fX))], [(qs 18, .inl (cI, 144, .inl (fl MK)))], [(qs 19, .inl (cI, 144, .inl (fl MF)))]]) H → va_D A (List.flatten [[rf_o h qs (nI 0) ma S.T.2.2.1.2.1 ca S.D.2.1.2.1 na S.G.2.2.2.1.2.1 S.D.1.2.1 S.D.2.2.1 S.D.2.2.2.1 S.D.2.2.2.2 S.lost], [(qs 0, .inl (cI, 12, .inl (lI S.eb)))], [(qs 1, .inl (cI, 144, .inl (fl (gN S.lk))))], [(qs 2, .inl (cI, 144, .inl (fl (gN wt))))], [(qs 3, .inl (cZ, 144, .inl (fl (kB S.kn))))], [(qs 4, .inl (cI, 1600, .inl fR))], [(qs 5, .inl (cI, 1600, .inl fN))], [(qs 6, .inl (cJ, 1600, .inr (.inl fL)))], [(qs 7, .inl (cJ, 1600, .inr (.inl fH)))], [(qs 8, .inl (cZ, 1600, .inl (dB uf)))], [(qs 9, .inl (cI, 144, .inl (fl (sI S.T.2.1))))], [(qs 10, .inl (cI, 4000, .inl fM))], [(qs 11, .inl (cJ, 4000, .inr (.inl fC)))], [(qs 12, .inl (cI, 4000, .inl fT))], [(qs 13, .inl (cI, 8, .inl (lI S.G.1)))], [(qs 14, .inl (cI, 8, .inl S.G.2.1))], [(qs 15, .inl (cI, 96, .inl (fl (gN (rT S.G.2.2.1)))))], [(qs 16, .inl (cI, 901, .inl fD))], [(qs 17, .inl (cI, 901, .inl fX))], [(qs 18, .inl (cI, 144, .inl (fl MK)))], [(qs 19, .inl (cI, 144, .inl (fl MF)))]]) → va_S A s.heap H locs → lv_has ls 4 [(3, .int (nI j)), (0, .ref h), (1, .int (nI g)), (2, .int y)] → W p l e (rm_ 3 66 0 0) s m args below meth c H locs 0 0 Q (F0 m 26 ls []) := by
        intro k
        induction k with
        | zero =>
          intro j H locs ls hk hs hP hD hS hl
          refine lv_iload_n hx hb d_Ref_ingress_26 rfl (lv_at hl 0 rfl) ?_
          refine lv_bipush (v := nI 12) hx hb d_Ref_ingress_27 (by decide) ?_
          refine ri_icmp_ge hx hb (by omega) (by omega) d_Ref_ingress_29 (tgt := 64) (by decide) (fun hc9 => ?_) (fun hc9 => ?_)
          · refine lv_iconst (v := nI 0) hx hb d_Ref_ingress_64 (by decide) ?_
            refine lv_istore_n hx hb d_Ref_ingress_65 rfl hl (by decide) rfl (fun ls hl => ?_)
            have hl : lv_has ls 4 [(3, .int (nI 0)), (0, .ref h), (1, .int (nI g)), (2, .int y)] := hl
            exact loop2 S.G.2.2.2.1.2.1 0 H locs ls (by omega) (fun r hr9 => hs r (by omega)) (fun i hi => absurd hi (by omega)) hP hD hS hl
          · exact absurd hc9 (by omega)
        | succ k ih =>
          intro j H locs ls hk hs hP hD hS hl
          refine lv_iload_n hx hb d_Ref_ingress_26 rfl (lv_at hl 0 rfl) ?_
          refine lv_bipush (v := nI 12) hx hb d_Ref_ingress_27 (by decide) ?_
          refine ri_icmp_ge hx hb (by omega) (by omega) d_Ref_ingress_29 (tgt := 64) (by decide) (fun hc9 => ?_) (fun hc9 => ?_)
          · exact absurd hc9 (by omega)
          · refine lv_aload_n hx hb d_Ref_ingress_32 rfl (lv_at hl 1 rfl) ?_
            refine va_get (D := D) (ci := 9) (v := .int (nI 0)) (C := R_Ref) (T := T_Ref) (N := 32) hx hb ht in_Ref hown hK hP 0 rfl rfl 0 (by decide) (ht _ kl_Ref_72) (fun _ h9 => h9) rfl d_Ref_ingress_33 ?_
            refine ri_if_ne hx hb (by omega) d_Ref_ingress_36 (tgt := 64) (by decide) (fun h127 => ?_) (fun h127 => ?_)
            · exact absurd h127 (by decide)
            · have hrcj := hgi.1 j g
              refine lv_aload_n hx hb d_Ref_ingress_39 rfl (lv_at hl 1 rfl) ?_
              refine va_get (D := D) (ci := 9) (v := .ref (qs 15)) (C := R_Ref) (T := T_Ref) (N := 32) hx hb ht in_Ref hown hK hP 0 rfl rfl 22 (by decide) (ht _ kl_Ref_57) (fun _ h9 => h9) rfl d_Ref_ingress_40 ?_
              refine lv_bipush (v := nI 12) hx hb d_Ref_ingress_43 (by decide) ?_
              refine lv_iload_n hx hb d_Ref_ingress_45 rfl (lv_at hl 2 rfl) ?_
              refine ri_imul hx hb d_Ref_ingress_46 ?_
              refine lv_iload_n hx hb d_Ref_ingress_47 rfl (lv_at hl 0 rfl) ?_
              refine ri_iadd hx hb d_Ref_ingress_48 ?_
              refine ri_iald hx hb hK hP 16 0 rfl rfl (j := (12 * g) + j) (by omega) (by omega) d_Ref_ingress_49 ?_
              refine W.eq (g2 := F0 m 50 ls [.int (nI ((rT S.G.2.2.1) g j))]) (congrArg (fun z => F0 m 50 ls (.int z :: [])) (fl_at (a := g) (b := j) (by omega))) ?_
              refine W.eq (g2 := F0 m 50 ls [.int (nI (S.G.2.2.1 j g))]) (congrArg (fun z => F0 m 50 ls (.int z :: [])) (rfl)) ?_
              refine ri_if_le hx hb (by omega) d_Ref_ingress_50 (tgt := 58) (by decide) (fun h50 => ?_) (fun h50 => ?_)
              · refine ri_iinc hx hb d_Ref_ingress_58 hl (k := 0) rfl (by decide) rfl (fun ls hl => ?_)
                have hl : lv_has ls 4 [(3, .int (nI (j + 1))), (0, .ref h), (1, .int (nI g)), (2, .int y)] := hl
                refine lv_goto hx hb d_Ref_ingress_61 (tgt := 26) (by decide) ?_
                exact ih (j + 1) H locs ls (by omega) (fun i hi => by by_cases e : i = j; (· rw [e]; omega); (· exact hs i (by omega))) hP hD hS hl
              · refine lv_aload_n hx hb d_Ref_ingress_53 rfl (lv_at hl 1 rfl) ?_
                refine lv_iconst (v := nI 1) hx hb d_Ref_ingress_54 (by decide) ?_
                refine va_put (D := D) (ci := 9) (v := .int (nI 1)) (ty := .int) (C := R_Ref) (T := T_Ref) (N := 32) hx hb ht in_Ref t_Ref ok_Ref nm_Ref hown hK hP hD hS 0 rfl rfl 0 (by decide) (ht _ kl_Ref_72) (fun _ h9 => h9) rfl (by decide +kernel) rfl rfl (Nat.le_of_ble_eq_true rfl) d_Ref_ingress_55 (fun H locs hP hD hS => ?_)
                have hP : va_P D kls (List.flatten [[rf_o h qs (nI 1) ma S.T.2.2.1.2.1 ca S.D.2.1.2.1 na S.G.2.2.2.1.2.1 S.D.1.2.1 S.D.2.2.1 S.D.2.2.2.1 S.D.2.2.2.2 S.lost], [(qs 0, .inl (cI, 12, .inl (lI S.eb)))], [(qs 1, .inl (cI, 144, .inl (fl (gN S.lk))))], [(qs 2, .inl (cI, 144, .inl (fl (gN wt))))], [(qs 3, .inl (cZ, 144, .inl (fl (kB S.kn))))], [(qs 4, .inl (cI, 1600, .inl fR))], [(qs 5, .inl (cI, 1600, .inl fN))], [(qs 6, .inl (cJ, 1600, .inr (.inl fL)))], [(qs 7, .inl (cJ, 1600, .inr (.inl fH)))], [(qs 8, .inl (cZ, 1600, .inl (dB uf)))], [(qs 9, .inl (cI, 144, .inl (fl (sI S.T.2.1))))], [(qs 10, .inl (cI, 4000, .inl fM))], [(qs 11, .inl (cJ, 4000, .inr (.inl fC)))], [(qs 12, .inl (cI, 4000, .inl fT))], [(qs 13, .inl (cI, 8, .inl (lI S.G.1)))], [(qs 14, .inl (cI, 8, .inl S.G.2.1))], [(qs 15, .inl (cI, 96, .inl (fl (gN (rT S.G.2.2.1)))))], [(qs 16, .inl (cI, 901, .inl fD))], [(qs 17, .inl (cI, 901, .inl fX))], [(qs 18, .inl (cI, 144, .inl (fl MK)))], [(qs 19, .inl (cI, 144, .inl (fl MF)))]]) H := hP
                have hD : va_D A (List.flatten [[rf_o h qs (nI 1) ma S.T.2.2.1.2.1 ca S.D.2.1.2.1 na S.G.2.2.2.1.2.1 S.D.1.2.1 S.D.2.2.1 S.D.2.2.2.1 S.D.2.2.2.2 S.lost], [(qs 0, .inl (cI, 12, .inl (lI S.eb)))], [(qs 1, .inl (cI, 144, .inl (fl (gN S.lk))))], [(qs 2, .inl (cI, 144, .inl (fl (gN wt))))], [(qs 3, .inl (cZ, 144, .inl (fl (kB S.kn))))], [(qs 4, .inl (cI, 1600, .inl fR))], [(qs 5, .inl (cI, 1600, .inl fN))], [(qs 6, .inl (cJ, 1600, .inr (.inl fL)))], [(qs 7, .inl (cJ, 1600, .inr (.inl fH)))], [(qs 8, .inl (cZ, 1600, .inl (dB uf)))], [(qs 9, .inl (cI, 144, .inl (fl (sI S.T.2.1))))], [(qs 10, .inl (cI, 4000, .inl fM))], [(qs 11, .inl (cJ, 4000, .inr (.inl fC)))], [(qs 12, .inl (cI, 4000, .inl fT))], [(qs 13, .inl (cI, 8, .inl (lI S.G.1)))], [(qs 14, .inl (cI, 8, .inl S.G.2.1))], [(qs 15, .inl (cI, 96, .inl (fl (gN (rT S.G.2.2.1)))))], [(qs 16, .inl (cI, 901, .inl fD))], [(qs 17, .inl (cI, 901, .inl fX))], [(qs 18, .inl (cI, 144, .inl (fl MK)))], [(qs 19, .inl (cI, 144, .inl (fl MF)))]]) := hD
                refine ri_iinc hx hb d_Ref_ingress_58 hl (k := 0) rfl (by decide) rfl (fun ls hl => ?_)
                have hl : lv_has ls 4 [(3, .int (nI (j + 1))), (0, .ref h), (1, .int (nI g)), (2, .int y)] := hl
                refine lv_goto hx hb d_Ref_ingress_61 (tgt := 26) (by decide) ?_
                refine lv_iload_n hx hb d_Ref_ingress_26 rfl (lv_at hl 0 rfl) ?_
                refine lv_bipush (v := nI 12) hx hb d_Ref_ingress_27 (by decide) ?_
                refine ri_icmp_ge hx hb (by omega) (by omega) d_Ref_ingress_29 (tgt := 64) (by decide) (fun hc9 => ?_) (fun hc9 => ?_)
                · refine lv_iconst (v := nI 0) hx hb d_Ref_ingress_64 (by decide) ?_
                  refine lv_istore_n hx hb d_Ref_ingress_65 rfl hl (by decide) rfl (fun ls hl => ?_)
                  have hl : lv_has ls 4 [(3, .int (nI 0)), (0, .ref h), (1, .int (nI g)), (2, .int y)] := hl
                  refine lv_iload_n hx hb d_Ref_ingress_66 rfl (lv_at hl 0 rfl) ?_
                  refine lv_aload_n hx hb d_Ref_ingress_67 rfl (lv_at hl 1 rfl) ?_
                  refine va_get (D := D) (ci := 9) (v := .int (nI S.G.2.2.2.1.2.1)) (C := R_Ref) (T := T_Ref) (N := 32) hx hb ht in_Ref hown hK hP 0 rfl rfl 18 (by decide) (ht _ kl_Ref_151) (fun _ h9 => h9) rfl d_Ref_ingress_68 ?_
                  refine ri_icmp_ge hx hb (by omega) (by omega) d_Ref_ingress_71 (tgt := 114) (by decide) (fun hc9 => ?_) (fun hc9 => ?_)
                  · refine lv_aload_n hx hb d_Ref_ingress_114 rfl (lv_at hl 1 rfl) ?_
                    refine va_get (D := D) (ci := 9) (v := .int (nI 1)) (C := R_Ref) (T := T_Ref) (N := 32) hx hb ht in_Ref hown hK hP 0 rfl rfl 0 (by decide) (ht _ kl_Ref_72) (fun _ h9 => h9) rfl d_Ref_ingress_115 ?_
                    refine ri_if_le hx hb (by omega) d_Ref_ingress_118 (tgt := 122) (by decide) (fun h131 => ?_) (fun h131 => ?_)
                    · exact absurd h131 (by decide)
                    · exact ct_vret hQ hx hb hr hlk hP hD hS hK (by omega) (by omega) d_Ref_ingress_121 (⟨qs, ma, ca, na, wt, fR, fN, fL, fH, uf, fM, fC, fT, fD, fX, MK, MF, rfl, hwt, hAd, hM, hC, hN, hPd⟩)
                  · refine lv_aload_n hx hb d_Ref_ingress_74 rfl (lv_at hl 1 rfl) ?_
                    refine va_get (D := D) (ci := 9) (v := .int (nI 1)) (C := R_Ref) (T := T_Ref) (N := 32) hx hb ht in_Ref hown hK hP 0 rfl rfl 0 (by decide) (ht _ kl_Ref_72) (fun _ h9 => h9) rfl d_Ref_ingress_75 ?_
                    refine ri_if_ne hx hb (by omega) d_Ref_ingress_78 (tgt := 114) (by decide) (fun h132 => ?_) (fun h132 => ?_)
                    · refine lv_aload_n hx hb d_Ref_ingress_114 rfl (lv_at hl 1 rfl) ?_
                      refine va_get (D := D) (ci := 9) (v := .int (nI 1)) (C := R_Ref) (T := T_Ref) (N := 32) hx hb ht in_Ref hown hK hP 0 rfl rfl 0 (by decide) (ht _ kl_Ref_72) (fun _ h9 => h9) rfl d_Ref_ingress_115 ?_
                      refine ri_if_le hx hb (by omega) d_Ref_ingress_118 (tgt := 122) (by decide) (fun h133 => ?_) (fun h133 => ?_)
                      · exact absurd h133 (by decide)
                      · exact ct_vret hQ hx hb hr hlk hP hD hS hK (by omega) (by omega) d_Ref_ingress_121 (⟨qs, ma, ca, na, wt, fR, fN, fL, fH, uf, fM, fC, fT, fD, fX, MK, MF, rfl, hwt, hAd, hM, hC, hN, hPd⟩)
                    · exact absurd h132 (by decide)
                · refine lv_aload_n hx hb d_Ref_ingress_32 rfl (lv_at hl 1 rfl) ?_
                  refine va_get (D := D) (ci := 9) (v := .int (nI 1)) (C := R_Ref) (T := T_Ref) (N := 32) hx hb ht in_Ref hown hK hP 0 rfl rfl 0 (by decide) (ht _ kl_Ref_72) (fun _ h9 => h9) rfl d_Ref_ingress_33 ?_
                  refine ri_if_ne hx hb (by omega) d_Ref_ingress_36 (tgt := 64) (by decide) (fun h134 => ?_) (fun h134 => ?_)
                  · refine lv_iconst (v := nI 0) hx hb d_Ref_ingress_64 (by decide) ?_
                    refine lv_istore_n hx hb d_Ref_ingress_65 rfl hl (by decide) rfl (fun ls hl => ?_)
                    have hl : lv_has ls 4 [(3, .int (nI 0)), (0, .ref h), (1, .int (nI g)), (2, .int y)] := hl
                    refine lv_iload_n hx hb d_Ref_ingress_66 rfl (lv_at hl 0 rfl) ?_
                    refine lv_aload_n hx hb d_Ref_ingress_67 rfl (lv_at hl 1 rfl) ?_
                    refine va_get (D := D) (ci := 9) (v := .int (nI S.G.2.2.2.1.2.1)) (C := R_Ref) (T := T_Ref) (N := 32) hx hb ht in_Ref hown hK hP 0 rfl rfl 18 (by decide) (ht _ kl_Ref_151) (fun _ h9 => h9) rfl d_Ref_ingress_68 ?_
                    refine ri_icmp_ge hx hb (by omega) (by omega) d_Ref_ingress_71 (tgt := 114) (by decide) (fun hc9 => ?_) (fun hc9 => ?_)
                    · refine lv_aload_n hx hb d_Ref_ingress_114 rfl (lv_at hl 1 rfl) ?_
                      refine va_get (D := D) (ci := 9) (v := .int (nI 1)) (C := R_Ref) (T := T_Ref) (N := 32) hx hb ht in_Ref hown hK hP 0 rfl rfl 0 (by decide) (ht _ kl_Ref_72) (fun _ h9 => h9) rfl d_Ref_ingress_115 ?_
                      refine ri_if_le hx hb (by omega) d_Ref_ingress_118 (tgt := 122) (by decide) (fun h136 => ?_) (fun h136 => ?_)
                      · exact absurd h136 (by decide)
                      · exact ct_vret hQ hx hb hr hlk hP hD hS hK (by omega) (by omega) d_Ref_ingress_121 (⟨qs, ma, ca, na, wt, fR, fN, fL, fH, uf, fM, fC, fT, fD, fX, MK, MF, rfl, hwt, hAd, hM, hC, hN, hPd⟩)
                    · refine lv_aload_n hx hb d_Ref_ingress_74 rfl (lv_at hl 1 rfl) ?_
                      refine va_get (D := D) (ci := 9) (v := .int (nI 1)) (C := R_Ref) (T := T_Ref) (N := 32) hx hb ht in_Ref hown hK hP 0 rfl rfl 0 (by decide) (ht _ kl_Ref_72) (fun _ h9 => h9) rfl d_Ref_ingress_75 ?_
                      refine ri_if_ne hx hb (by omega) d_Ref_ingress_78 (tgt := 114) (by decide) (fun h137 => ?_) (fun h137 => ?_)
                      · refine lv_aload_n hx hb d_Ref_ingress_114 rfl (lv_at hl 1 rfl) ?_
                        refine va_get (D := D) (ci := 9) (v := .int (nI 1)) (C := R_Ref) (T := T_Ref) (N := 32) hx hb ht in_Ref hown hK hP 0 rfl rfl 0 (by decide) (ht _ kl_Ref_72) (fun _ h9 => h9) rfl d_Ref_ingress_115 ?_
                        refine ri_if_le hx hb (by omega) d_Ref_ingress_118 (tgt := 122) (by decide) (fun h138 => ?_) (fun h138 => ?_)
                        · exact absurd h138 (by decide)
                        · exact ct_vret hQ hx hb hr hlk hP hD hS hK (by omega) (by omega) d_Ref_ingress_121 (⟨qs, ma, ca, na, wt, fR, fN, fL, fH, uf, fM, fC, fT, fD, fX, MK, MF, rfl, hwt, hAd, hM, hC, hN, hPd⟩)
                      · exact absurd h137 (by decide)
                  · exact absurd h134 (by decide)
      exact loop1 12 0 H locs ls (by omega) (fun i hi => absurd hi (by omega)) hP hD hS hl
