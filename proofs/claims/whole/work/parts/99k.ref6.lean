/-! The reference as one thing: what it holds, by the state of a BitNet; its control. -/
def rT (rc : Nat → Nat → Nat) : Nat → Nat → Nat := fun g e => rc e g
theorem rT_up {rc : Nat → Nat → Nat} {g e v : Nat} : bm_up2 (rT rc) g e v = rT (bm_up2 rc e g v) := by
  funext a b
  show (if a = g ∧ b = e then v else rc b a) = (if b = e ∧ a = g then v else rc b a)
  by_cases h : a = g ∧ b = e
  · rw [if_pos h, if_pos ⟨h.2, h.1⟩]
  · rw [if_neg h, if_neg (fun z => h ⟨z.2, z.1⟩)]
def nt_ok (row : Nat → Int32) (v : Int32) : Prop := ∃ g b t : Nat, g < 8 ∧ b < 32 ∧ t < 2 ∧ row 0 = nI g ∧ row 1 = bm_em (some b) ∧ row 2 = nI t ∧ v = nI (g * 64 + b * 2 + t)
/-- the notes, in the reference's ring -/
def nr_R (f : Nat → Int32) (na : Nat) (M : bm_M Int32) : Prop := na < 4000 ∧ ∀ i, i < M.2.1 → nt_ok (M.2.2 i) (f ((na + i) % 4000))
abbrev rf_w (cI cZ cJ : ClassId) (h : Nat) (qs : Nat → Nat) (cd : Int32) (S : bm_S) (ma ca na : Nat) (wt : Nat → Nat → Nat) (fR fN : Nat → Int32) (fL fH : Nat → Int64) (uf : Nat → Bool) (fM : Nat → Int32) (fC : Nat → Int64) (fT fD fX : Nat → Int32) (MK MF : Nat → Nat → Int32) : va_W := List.flatten [[rf_o h qs cd ma S.T.2.2.1.2.1 ca S.D.2.1.2.1 na S.G.2.2.2.1.2.1 S.D.1.2.1 S.D.2.2.1 S.D.2.2.2.1 S.D.2.2.2.2 S.lost], [(qs 0, .inl (cI, 12, .inl (lI S.eb)))], [(qs 1, .inl (cI, 144, .inl (fl (gN S.lk))))], [(qs 2, .inl (cI, 144, .inl (fl (gN wt))))], [(qs 3, .inl (cZ, 144, .inl (fl (kB S.kn))))], [(qs 4, .inl (cI, 1600, .inl fR))], [(qs 5, .inl (cI, 1600, .inl fN))], [(qs 6, .inl (cJ, 1600, .inr (.inl fL)))], [(qs 7, .inl (cJ, 1600, .inr (.inl fH)))], [(qs 8, .inl (cZ, 1600, .inl (dB uf)))], [(qs 9, .inl (cI, 144, .inl (fl (sI S.T.2.1))))], [(qs 10, .inl (cI, 4000, .inl fM))], [(qs 11, .inl (cJ, 4000, .inr (.inl fC)))], [(qs 12, .inl (cI, 4000, .inl fT))], [(qs 13, .inl (cI, 8, .inl (lI S.G.1)))], [(qs 14, .inl (cI, 8, .inl S.G.2.1))], [(qs 15, .inl (cI, 96, .inl (fl (gN (rT S.G.2.2.1)))))], [(qs 16, .inl (cI, 901, .inl fD))], [(qs 17, .inl (cI, 901, .inl fX))], [(qs 18, .inl (cI, 144, .inl (fl MK)))], [(qs 19, .inl (cI, 144, .inl (fl MF)))]]
/-- a reference at h, in state S, whose last call left the code cd -/
def rf_R (cI cZ cJ : ClassId) (h : Nat) (cd : Int32) (S : bm_S) (ws : va_W) : Prop := ∃ (qs : Nat → Nat) (ma ca na : Nat) (wt : Nat → Nat → Nat) (fR fN : Nat → Int32) (fL fH : Nat → Int64) (uf : Nat → Bool) (fM : Nat → Int32) (fC : Nat → Int64) (fT fD fX : Nat → Int32) (MK MF : Nat → Nat → Int32), ws = rf_w cI cZ cJ h qs cd S ma ca na wt fR fN fL fH uf fM fC fT fD fX MK MF ∧ (∀ a b, S.kn a b ≠ 0 → wt a b = S.kn a b) ∧ ad_R S.T.1 fR fN fL fH uf ∧ mr_R fM ma S.T.2.2.1 ∧ cr_R S.D.1.2.1 fC ca S.D.2.1 ∧ nr_R fT na S.G.2.2.2.1 ∧ pd_R fD fX S.D.1
/-- what the reference asks of the system's numbers -/
def rf_i (S : bm_S) : Prop := bm_si S ∧ (∀ r b, S.eb r = some b → b < 32) ∧ (∀ j, S.T.1.2.2 0 j = 0) ∧ S.T.1.2.1 ≤ 1500 ∧ S.T.2.2.1.2.1 ≤ 4000 ∧ S.D.2.1.2.1 ≤ 4000 ∧ S.G.2.2.2.1.2.1 ≤ 4000 ∧ S.D.1.2.1 ≤ 900 ∧ bm_gi S
set_option maxHeartbeats 800000 in
set_option maxRecDepth 100000 in
theorem k_Ref_edge (l : Launch) (D : va_G) (cI cZ cJ cG : ClassId) {h : Nat} {cd : Int32} {S : bm_S} {ws : va_W} (hR : rf_R cI cZ cJ h cd S ws) (hi : rf_i S) (r b : Nat) (hr9 : r < 12) (hb9 : b < 32) (hne : S.eb r = none) (hnt : ∀ k, k < 12 → S.eb k ≠ some b) : ct_V l D kls (ty4 cI cZ cJ cG) y_Ref_edge ws_Ref_edge (rm_ 2 45 0 0) [.ref h, .int (nI r), .int (nI b)] (ws) (fun u => rf_R cI cZ cJ h (nI 0) (bm_edge r b S) u) 0 0 := by
  obtain ⟨qs, ma, ca, na, wt, fR, fN, fL, fH, uf, fM, fC, fT, fD, fX, MK, MF, rfl, hwt, hAd, hM, hC, hN, hPd⟩ := hR
  obtain ⟨hsi, heb, h00, hA9, hm9, hcp9, hnt9, hpk9, hgi⟩ := hi
  have hok := hsi.1
  have hkn9 := hsi.2.1
  have hlk9 := hsi.2.2.1
  have hma := hM.1
  refine ct_enterV (cc := b_Ref_edge) (maxL := 4) (ret := none) (by decide +kernel) (Nat.le_of_ble_eq_true rfl) ?_
  intro p e s m args below meth c hx hb hml hr ht hown hlk hnm A Q hA hK hP hD hQ ls hl
  have hown : s.vm.findClass R_Ref = some m.cls := hown
  have hS : va_S A s.heap s.heap [] := va_S.rf
  have hl : lv_has ls 4 [(0, .ref h), (1, .int (nI r)), (2, .int (nI b))] := hl
  have hrt := hsi.2.2.2.2.1
  have loop : ∀ (k j : Nat)  (H : Heap) (locs : List Loc) (ls : Array Slot), j + k = 12 → va_P D kls (List.flatten [[rf_o h qs (nI 0) ma S.T.2.2.1.2.1 ca S.D.2.1.2.1 na S.G.2.2.2.1.2.1 S.D.1.2.1 S.D.2.2.1 S.D.2.2.2.1 S.D.2.2.2.2 S.lost], [(qs 0, .inl (cI, 12, .inl (lI S.eb)))], [(qs 1, .inl (cI, 144, .inl (fl (gN S.lk))))], [(qs 2, .inl (cI, 144, .inl (fl (gN wt))))], [(qs 3, .inl (cZ, 144, .inl (fl (kB S.kn))))], [(qs 4, .inl (cI, 1600, .inl fR))], [(qs 5, .inl (cI, 1600, .inl fN))], [(qs 6, .inl (cJ, 1600, .inr (.inl fL)))], [(qs 7, .inl (cJ, 1600, .inr (.inl fH)))], [(qs 8, .inl (cZ, 1600, .inl (dB uf)))], [(qs 9, .inl (cI, 144, .inl (fl (sI S.T.2.1))))], [(qs 10, .inl (cI, 4000, .inl fM))], [(qs 11, .inl (cJ, 4000, .inr (.inl fC)))], [(qs 12, .inl (cI, 4000, .inl fT))], [(qs 13, .inl (cI, 8, .inl (lI S.G.1)))], [(qs 14, .inl (cI, 8, .inl S.G.2.1))], [(qs 15, .inl (cI, 96, .inl (fl (gN (rT S.G.2.2.1)))))], [(qs 16, .inl (cI, 901, .inl fD))], [(qs 17, .inl (cI, 901, .inl fX))], [(qs 18, .inl (cI, 144, .inl (fl MK)))], [(qs 19, .inl (cI, 144, .inl (fl MF)))]]) H → va_D A (List.flatten [[rf_o h qs (nI 0) ma S.T.2.2.1.2.1 ca S.D.2.1.2.1 na S.G.2.2.2.1.2.1 S.D.1.2.1 S.D.2.2.1 S.D.2.2.2.1 S.D.2.2.2.2 S.lost], [(qs 0, .inl (cI, 12, .inl (lI S.eb)))], [(qs 1, .inl (cI, 144, .inl (fl (gN S.lk))))], [(qs 2, .inl (cI, 144, .inl (fl (gN wt))))], [(qs 3, .inl (cZ, 144, .inl (fl (kB S.kn))))], [(qs 4, .inl (cI, 1600, .inl fR))], [(qs 5, .inl (cI, 1600, .inl fN))], [(qs 6, .inl (cJ, 1600, .inr (.inl fL)))], [(qs 7, .inl (cJ, 1600, .inr (.inl fH)))], [(qs 8, .inl (cZ, 1600, .inl (dB uf)))], [(qs 9, .inl (cI, 144, .inl (fl (sI S.T.2.1))))], [(qs 10, .inl (cI, 4000, .inl fM))], [(qs 11, .inl (cJ, 4000, .inr (.inl fC)))], [(qs 12, .inl (cI, 4000, .inl fT))], [(qs 13, .inl (cI, 8, .inl (lI S.G.1)))], [(qs 14, .inl (cI, 8, .inl S.G.2.1))], [(qs 15, .inl (cI, 96, .inl (fl (gN (rT S.G.2.2.1)))))], [(qs 16, .inl (cI, 901, .inl fD))], [(qs 17, .inl (cI, 901, .inl fX))], [(qs 18, .inl (cI, 144, .inl (fl MK)))], [(qs 19, .inl (cI, 144, .inl (fl MF)))]]) → va_S A s.heap H locs → lv_has ls 4 [(3, .int (nI j)), (0, .ref h), (1, .int (nI r)), (2, .int (nI b))] → W p l e (rm_ 2 45 0 0) s m args below meth c H locs 0 0 Q (F0 m 39 ls []) := by
    intro k
    induction k with
    | zero =>
      intro j H locs ls hk hP hD hS hl
      refine lv_iload_n hx hb d_Ref_edge_39 rfl (lv_at hl 0 rfl) ?_
      refine lv_bipush (v := nI 12) hx hb d_Ref_edge_40 (by decide) ?_
      refine ri_icmp_ge hx hb (by omega) (by omega) d_Ref_edge_42 (tgt := 73) (by decide) (fun hc9 => ?_) (fun hc9 => ?_)
      · refine lv_aload_n hx hb d_Ref_edge_73 rfl (lv_at hl 1 rfl) ?_
        refine va_get (D := D) (ci := 9) (v := .int (nI 0)) (C := R_Ref) (T := T_Ref) (N := 32) hx hb ht in_Ref hown hK hP 0 rfl rfl 0 (by decide) (ht _ kl_Ref_72) (fun _ h9 => h9) rfl d_Ref_edge_74 ?_
        refine ri_if_ne hx hb (by omega) d_Ref_edge_77 (tgt := 87) (by decide) (fun h102 => ?_) (fun h102 => ?_)
        · exact absurd h102 (by decide)
        · refine lv_aload_n hx hb d_Ref_edge_80 rfl (lv_at hl 1 rfl) ?_
          refine va_get (D := D) (ci := 9) (v := .ref (qs 0)) (C := R_Ref) (T := T_Ref) (N := 32) hx hb ht in_Ref hown hK hP 0 rfl rfl 1 (by decide) (ht _ kl_Ref_7) (fun _ h9 => h9) rfl d_Ref_edge_81 ?_
          refine lv_iload_n hx hb d_Ref_edge_84 rfl (lv_at hl 2 rfl) ?_
          refine lv_iload_n hx hb d_Ref_edge_85 rfl (lv_at hl 3 rfl) ?_
          refine ri_iast hx hb hK hP hD hS 1 0 rfl rfl (j := r) (by omega) (by omega) d_Ref_edge_86 (fun H locs hP hD hS => ?_)
          rw [lI_up] at hP hD
          have hP : va_P D kls (List.flatten [[rf_o h qs (nI 0) ma S.T.2.2.1.2.1 ca S.D.2.1.2.1 na S.G.2.2.2.1.2.1 S.D.1.2.1 S.D.2.2.1 S.D.2.2.2.1 S.D.2.2.2.2 S.lost], [(qs 0, .inl (cI, 12, .inl (lI (bm_up1 S.eb r (some b)))))], [(qs 1, .inl (cI, 144, .inl (fl (gN S.lk))))], [(qs 2, .inl (cI, 144, .inl (fl (gN wt))))], [(qs 3, .inl (cZ, 144, .inl (fl (kB S.kn))))], [(qs 4, .inl (cI, 1600, .inl fR))], [(qs 5, .inl (cI, 1600, .inl fN))], [(qs 6, .inl (cJ, 1600, .inr (.inl fL)))], [(qs 7, .inl (cJ, 1600, .inr (.inl fH)))], [(qs 8, .inl (cZ, 1600, .inl (dB uf)))], [(qs 9, .inl (cI, 144, .inl (fl (sI S.T.2.1))))], [(qs 10, .inl (cI, 4000, .inl fM))], [(qs 11, .inl (cJ, 4000, .inr (.inl fC)))], [(qs 12, .inl (cI, 4000, .inl fT))], [(qs 13, .inl (cI, 8, .inl (lI S.G.1)))], [(qs 14, .inl (cI, 8, .inl S.G.2.1))], [(qs 15, .inl (cI, 96, .inl (fl (gN (rT S.G.2.2.1)))))], [(qs 16, .inl (cI, 901, .inl fD))], [(qs 17, .inl (cI, 901, .inl fX))], [(qs 18, .inl (cI, 144, .inl (fl MK)))], [(qs 19, .inl (cI, 144, .inl (fl MF)))]]) H := hP
          have hD : va_D A (List.flatten [[rf_o h qs (nI 0) ma S.T.2.2.1.2.1 ca S.D.2.1.2.1 na S.G.2.2.2.1.2.1 S.D.1.2.1 S.D.2.2.1 S.D.2.2.2.1 S.D.2.2.2.2 S.lost], [(qs 0, .inl (cI, 12, .inl (lI (bm_up1 S.eb r (some b)))))], [(qs 1, .inl (cI, 144, .inl (fl (gN S.lk))))], [(qs 2, .inl (cI, 144, .inl (fl (gN wt))))], [(qs 3, .inl (cZ, 144, .inl (fl (kB S.kn))))], [(qs 4, .inl (cI, 1600, .inl fR))], [(qs 5, .inl (cI, 1600, .inl fN))], [(qs 6, .inl (cJ, 1600, .inr (.inl fL)))], [(qs 7, .inl (cJ, 1600, .inr (.inl fH)))], [(qs 8, .inl (cZ, 1600, .inl (dB uf)))], [(qs 9, .inl (cI, 144, .inl (fl (sI S.T.2.1))))], [(qs 10, .inl (cI, 4000, .inl fM))], [(qs 11, .inl (cJ, 4000, .inr (.inl fC)))], [(qs 12, .inl (cI, 4000, .inl fT))], [(qs 13, .inl (cI, 8, .inl (lI S.G.1)))], [(qs 14, .inl (cI, 8, .inl S.G.2.1))], [(qs 15, .inl (cI, 96, .inl (fl (gN (rT S.G.2.2.1)))))], [(qs 16, .inl (cI, 901, .inl fD))], [(qs 17, .inl (cI, 901, .inl fX))], [(qs 18, .inl (cI, 144, .inl (fl MK)))], [(qs 19, .inl (cI, 144, .inl (fl MF)))]]) := hD
          exact ct_vret hQ hx hb hr hlk hP hD hS hK (by omega) (by omega) d_Ref_edge_87 (⟨qs, ma, ca, na, wt, fR, fN, fL, fH, uf, fM, fC, fT, fD, fX, MK, MF, rfl, hwt, hAd, hM, hC, hN, hPd⟩)
      · exact absurd hc9 (by omega)
    | succ k ih =>
      intro j H locs ls hk hP hD hS hl
      refine lv_iload_n hx hb d_Ref_edge_39 rfl (lv_at hl 0 rfl) ?_
      refine lv_bipush (v := nI 12) hx hb d_Ref_edge_40 (by decide) ?_
      refine ri_icmp_ge hx hb (by omega) (by omega) d_Ref_edge_42 (tgt := 73) (by decide) (fun hc9 => ?_) (fun hc9 => ?_)
      · exact absurd hc9 (by omega)
      · refine lv_aload_n hx hb d_Ref_edge_45 rfl (lv_at hl 1 rfl) ?_
        refine va_get (D := D) (ci := 9) (v := .int (nI 0)) (C := R_Ref) (T := T_Ref) (N := 32) hx hb ht in_Ref hown hK hP 0 rfl rfl 0 (by decide) (ht _ kl_Ref_72) (fun _ h9 => h9) rfl d_Ref_edge_46 ?_
        refine ri_if_ne hx hb (by omega) d_Ref_edge_49 (tgt := 73) (by decide) (fun h104 => ?_) (fun h104 => ?_)
        · exact absurd h104 (by decide)
        · refine lv_aload_n hx hb d_Ref_edge_52 rfl (lv_at hl 1 rfl) ?_
          refine va_get (D := D) (ci := 9) (v := .ref (qs 0)) (C := R_Ref) (T := T_Ref) (N := 32) hx hb ht in_Ref hown hK hP 0 rfl rfl 1 (by decide) (ht _ kl_Ref_7) (fun _ h9 => h9) rfl d_Ref_edge_53 ?_
          refine lv_iload_n hx hb d_Ref_edge_56 rfl (lv_at hl 0 rfl) ?_
          refine ri_iald hx hb hK hP 1 0 rfl rfl (j := j) (by omega) (by omega) d_Ref_edge_57 ?_
          refine W.eq (g2 := F0 m 58 ls [.int (bm_oI ((S.eb) j))]) rfl ?_
          refine lv_iload_n hx hb d_Ref_edge_58 rfl (lv_at hl 3 rfl) ?_
          refine lv_icmp_ne hx hb d_Ref_edge_59 (tgt := 67) (by decide) (fun h59 => ?_) (fun h59 => ?_)
          · refine ri_iinc hx hb d_Ref_edge_67 hl (k := 0) rfl (by decide) rfl (fun ls hl => ?_)
            have hl : lv_has ls 4 [(3, .int (nI (j + 1))), (0, .ref h), (1, .int (nI r)), (2, .int (nI b))] := hl
            refine lv_goto hx hb d_Ref_edge_70 (tgt := 39) (by decide) ?_
            exact ih (j + 1) H locs ls (by omega) hP hD hS hl
          · exact absurd h59 (fun z => hnt j (by omega) (by cases hq : S.eb j with | none => rw [hq] at z; exact absurd z.symm (nI_m1 (show b < 2147483648 by omega)) | some b2 => rw [hq] at z; exact congrArg some ((nI_eq (Nat.lt_trans (heb j b2 hq) (by decide)) (show b < 2 ^ 31 by omega)).mp z)))
  refine lv_aload_n hx hb d_Ref_edge_0 rfl (lv_at hl 0 rfl) ?_
  refine lv_iload_n hx hb d_Ref_edge_1 rfl (lv_at hl 1 rfl) ?_
  refine ct_rdS (As := [.int (nI r)]) (rest := [.ref h]) ⟨hx, hb, hml, hown, ht⟩ (k_Ref_isRouter l D cI cZ cJ cG (nI r)) (cb_S ht kc_Ref_isRouter kl_Ref_82 kn_Ref ki_Ref_isRouter hd_Ref_isRouter ⟨Nat.le_of_ble_eq_true rfl, Nat.le_of_ble_eq_true rfl⟩) (wd_ct (Bs := [[rf_o h qs cd ma S.T.2.2.1.2.1 ca S.D.2.1.2.1 na S.G.2.2.2.1.2.1 S.D.1.2.1 S.D.2.2.1 S.D.2.2.2.1 S.D.2.2.2.2 S.lost], [(qs 0, .inl (cI, 12, .inl (lI S.eb)))], [(qs 1, .inl (cI, 144, .inl (fl (gN S.lk))))], [(qs 2, .inl (cI, 144, .inl (fl (gN wt))))], [(qs 3, .inl (cZ, 144, .inl (fl (kB S.kn))))], [(qs 4, .inl (cI, 1600, .inl fR))], [(qs 5, .inl (cI, 1600, .inl fN))], [(qs 6, .inl (cJ, 1600, .inr (.inl fL)))], [(qs 7, .inl (cJ, 1600, .inr (.inl fH)))], [(qs 8, .inl (cZ, 1600, .inl (dB uf)))], [(qs 9, .inl (cI, 144, .inl (fl (sI S.T.2.1))))], [(qs 10, .inl (cI, 4000, .inl fM))], [(qs 11, .inl (cJ, 4000, .inr (.inl fC)))], [(qs 12, .inl (cI, 4000, .inl fT))], [(qs 13, .inl (cI, 8, .inl (lI S.G.1)))], [(qs 14, .inl (cI, 8, .inl S.G.2.1))], [(qs 15, .inl (cI, 96, .inl (fl (gN (rT S.G.2.2.1)))))], [(qs 16, .inl (cI, 901, .inl fD))], [(qs 17, .inl (cI, 901, .inl fX))], [(qs 18, .inl (cI, 144, .inl (fl MK)))], [(qs 19, .inl (cI, 144, .inl (fl MF)))]]) 21 rfl [] [0, 1, 2, 3, 4, 5, 6, 7, 8, 9, 10, 11, 12, 13, 14, 15, 16, 17, 18, 19, 20] (by decide) rfl) hK hP hD hS hA rfl hl.1 rfl (Nat.le_of_ble_eq_true rfl) ⟨(show 0 + 0 ≤ 0 by omega), (show 0 + 0 ≤ 0 by omega)⟩ d_Ref_edge_2 (fun rhr106 H locs hr106 hP hD hS => ?_)
  subst hr106
  refine W.eq (g2 := F0 m 5 ls [.int (bI true), .ref h]) (congrArg (fun z => F0 m 5 ls (.int z :: [.ref h])) (congrArg bI (rg_t12 hr9))) ?_
  refine ri_ifeqB hx hb d_Ref_edge_5 (tgt := 33) (by decide) (fun h107 => ?_) (fun h107 => ?_)
  · exact absurd h107 (fun z => by cases z)
  · refine lv_iload_n hx hb d_Ref_edge_8 rfl (lv_at hl 2 rfl) ?_
    refine lv_i2l (v := lN b) hx hb d_Ref_edge_9 (nI_l (by omega)) ?_
    refine lv_lconst (v := lN 0) hx hb d_Ref_edge_10 rfl ?_
    refine lv_ldc2 (v := lN 31) hx hb hown (ht _ kl_Ref_88) d_Ref_edge_11 ?_
    refine ct_rdS (As := [.long (lN b), .long (lN 0), .long (lN 31)]) (rest := [.ref h]) ⟨hx, hb, hml, hown, ht⟩ (k_Ref_in l D cI cZ cJ cG (lN b) (lN 0) (lN 31)) (cb_S ht kc_Ref_in kl_Ref_78 kn_Ref ki_Ref_in hd_Ref_in ⟨Nat.le_of_ble_eq_true rfl, Nat.le_of_ble_eq_true rfl⟩) (wd_ct (Bs := [[rf_o h qs cd ma S.T.2.2.1.2.1 ca S.D.2.1.2.1 na S.G.2.2.2.1.2.1 S.D.1.2.1 S.D.2.2.1 S.D.2.2.2.1 S.D.2.2.2.2 S.lost], [(qs 0, .inl (cI, 12, .inl (lI S.eb)))], [(qs 1, .inl (cI, 144, .inl (fl (gN S.lk))))], [(qs 2, .inl (cI, 144, .inl (fl (gN wt))))], [(qs 3, .inl (cZ, 144, .inl (fl (kB S.kn))))], [(qs 4, .inl (cI, 1600, .inl fR))], [(qs 5, .inl (cI, 1600, .inl fN))], [(qs 6, .inl (cJ, 1600, .inr (.inl fL)))], [(qs 7, .inl (cJ, 1600, .inr (.inl fH)))], [(qs 8, .inl (cZ, 1600, .inl (dB uf)))], [(qs 9, .inl (cI, 144, .inl (fl (sI S.T.2.1))))], [(qs 10, .inl (cI, 4000, .inl fM))], [(qs 11, .inl (cJ, 4000, .inr (.inl fC)))], [(qs 12, .inl (cI, 4000, .inl fT))], [(qs 13, .inl (cI, 8, .inl (lI S.G.1)))], [(qs 14, .inl (cI, 8, .inl S.G.2.1))], [(qs 15, .inl (cI, 96, .inl (fl (gN (rT S.G.2.2.1)))))], [(qs 16, .inl (cI, 901, .inl fD))], [(qs 17, .inl (cI, 901, .inl fX))], [(qs 18, .inl (cI, 144, .inl (fl MK)))], [(qs 19, .inl (cI, 144, .inl (fl MF)))]]) 21 rfl [] [0, 1, 2, 3, 4, 5, 6, 7, 8, 9, 10, 11, 12, 13, 14, 15, 16, 17, 18, 19, 20] (by decide) rfl) hK hP hD hS hA rfl hl.1 rfl (Nat.le_of_ble_eq_true rfl) ⟨(show 0 + 0 ≤ 0 by omega), (show 0 + 0 ≤ 0 by omega)⟩ d_Ref_edge_14 (fun rhr108 H locs hr108 hP hD hS => ?_)
    subst hr108
    refine W.eq (g2 := F0 m 17 ls [.int (bI true), .ref h]) (congrArg (fun z => F0 m 17 ls (.int z :: [.ref h])) (congrArg bI (decide_eq_true ⟨(lN_le (by decide) (show b < 2 ^ 31 by omega)).mpr (Nat.zero_le _), (lN_le (show b < 2 ^ 31 by omega) (by decide)).mpr (by omega)⟩))) ?_
    refine ri_ifeqB hx hb d_Ref_edge_17 (tgt := 33) (by decide) (fun h109 => ?_) (fun h109 => ?_)
    · exact absurd h109 (fun z => by cases z)
    · refine lv_aload_n hx hb d_Ref_edge_20 rfl (lv_at hl 0 rfl) ?_
      refine va_get (D := D) (ci := 9) (v := .ref (qs 0)) (C := R_Ref) (T := T_Ref) (N := 32) hx hb ht in_Ref hown hK hP 0 rfl rfl 1 (by decide) (ht _ kl_Ref_7) (fun _ h9 => h9) rfl d_Ref_edge_21 ?_
      refine lv_iload_n hx hb d_Ref_edge_24 rfl (lv_at hl 1 rfl) ?_
      refine ri_iald hx hb hK hP 1 0 rfl rfl (j := r) (by omega) (by omega) d_Ref_edge_25 ?_
      refine W.eq (g2 := F0 m 26 ls [.int (bm_oI ((S.eb) r)), .ref h]) rfl ?_
      refine lv_if_ge hx hb d_Ref_edge_26 (tgt := 33) (by decide) (fun h26 => ?_) (fun h26 => ?_)
      · exact absurd h26 (Int32.not_le.mpr ((oI_lt (fun b z => Nat.lt_trans (heb _ b z) (by decide))).mpr hne))
      · refine lv_iconst (v := nI 0) hx hb d_Ref_edge_29 (by decide) ?_
        refine lv_goto hx hb d_Ref_edge_30 (tgt := 34) (by decide) ?_
        refine va_put (D := D) (ci := 9) (v := .int (nI 0)) (ty := .int) (C := R_Ref) (T := T_Ref) (N := 32) hx hb ht in_Ref t_Ref ok_Ref nm_Ref hown hK hP hD hS 0 rfl rfl 0 (by decide) (ht _ kl_Ref_72) (fun _ h9 => h9) rfl (by decide +kernel) rfl rfl (Nat.le_of_ble_eq_true rfl) d_Ref_edge_34 (fun H locs hP hD hS => ?_)
        have hP : va_P D kls (List.flatten [[rf_o h qs (nI 0) ma S.T.2.2.1.2.1 ca S.D.2.1.2.1 na S.G.2.2.2.1.2.1 S.D.1.2.1 S.D.2.2.1 S.D.2.2.2.1 S.D.2.2.2.2 S.lost], [(qs 0, .inl (cI, 12, .inl (lI S.eb)))], [(qs 1, .inl (cI, 144, .inl (fl (gN S.lk))))], [(qs 2, .inl (cI, 144, .inl (fl (gN wt))))], [(qs 3, .inl (cZ, 144, .inl (fl (kB S.kn))))], [(qs 4, .inl (cI, 1600, .inl fR))], [(qs 5, .inl (cI, 1600, .inl fN))], [(qs 6, .inl (cJ, 1600, .inr (.inl fL)))], [(qs 7, .inl (cJ, 1600, .inr (.inl fH)))], [(qs 8, .inl (cZ, 1600, .inl (dB uf)))], [(qs 9, .inl (cI, 144, .inl (fl (sI S.T.2.1))))], [(qs 10, .inl (cI, 4000, .inl fM))], [(qs 11, .inl (cJ, 4000, .inr (.inl fC)))], [(qs 12, .inl (cI, 4000, .inl fT))], [(qs 13, .inl (cI, 8, .inl (lI S.G.1)))], [(qs 14, .inl (cI, 8, .inl S.G.2.1))], [(qs 15, .inl (cI, 96, .inl (fl (gN (rT S.G.2.2.1)))))], [(qs 16, .inl (cI, 901, .inl fD))], [(qs 17, .inl (cI, 901, .inl fX))], [(qs 18, .inl (cI, 144, .inl (fl MK)))], [(qs 19, .inl (cI, 144, .inl (fl MF)))]]) H := hP
        have hD : va_D A (List.flatten [[rf_o h qs (nI 0) ma S.T.2.2.1.2.1 ca S.D.2.1.2.1 na S.G.2.2.2.1.2.1 S.D.1.2.1 S.D.2.2.1 S.D.2.2.2.1 S.D.2.2.2.2 S.lost], [(qs 0, .inl (cI, 12, .inl (lI S.eb)))], [(qs 1, .inl (cI, 144, .inl (fl (gN S.lk))))], [(qs 2, .inl (cI, 144, .inl (fl (gN wt))))], [(qs 3, .inl (cZ, 144, .inl (fl (kB S.kn))))], [(qs 4, .inl (cI, 1600, .inl fR))], [(qs 5, .inl (cI, 1600, .inl fN))], [(qs 6, .inl (cJ, 1600, .inr (.inl fL)))], [(qs 7, .inl (cJ, 1600, .inr (.inl fH)))], [(qs 8, .inl (cZ, 1600, .inl (dB uf)))], [(qs 9, .inl (cI, 144, .inl (fl (sI S.T.2.1))))], [(qs 10, .inl (cI, 4000, .inl fM))], [(qs 11, .inl (cJ, 4000, .inr (.inl fC)))], [(qs 12, .inl (cI, 4000, .inl fT))], [(qs 13, .inl (cI, 8, .inl (lI S.G.1)))], [(qs 14, .inl (cI, 8, .inl S.G.2.1))], [(qs 15, .inl (cI, 96, .inl (fl (gN (rT S.G.2.2.1)))))], [(qs 16, .inl (cI, 901, .inl fD))], [(qs 17, .inl (cI, 901, .inl fX))], [(qs 18, .inl (cI, 144, .inl (fl MK)))], [(qs 19, .inl (cI, 144, .inl (fl MF)))]]) := hD
        refine lv_iconst (v := nI 0) hx hb d_Ref_edge_37 (by decide) ?_
        refine lv_istore_n hx hb d_Ref_edge_38 rfl hl (by decide) rfl (fun ls hl => ?_)
        have hl : lv_has ls 4 [(3, .int (nI 0)), (0, .ref h), (1, .int (nI r)), (2, .int (nI b))] := hl
        exact loop 12 0 H locs ls (by omega) hP hD hS hl
set_option maxHeartbeats 800000 in
set_option maxRecDepth 100000 in
theorem n_Ref_edge (l : Launch) (D : va_G) (cI cZ cJ cG : ClassId) {h : Nat} {cd : Int32} {S : bm_S} {ws : va_W} (hR : rf_R cI cZ cJ h cd S ws) (hi : rf_i S) (x y : Int32) (hno : ¬ ∃ r b, x = nI r ∧ y = nI b ∧ r < 12 ∧ b < 32 ∧ S.eb r = none ∧ ∀ k, k < 12 → S.eb k ≠ some b) : ct_V l D kls (ty4 cI cZ cJ cG) y_Ref_edge ws_Ref_edge (rm_ 2 45 0 0) [.ref h, .int x, .int y] (ws) (fun u => rf_R cI cZ cJ h (nI 1) S u) 0 0 := by
  obtain ⟨qs, ma, ca, na, wt, fR, fN, fL, fH, uf, fM, fC, fT, fD, fX, MK, MF, rfl, hwt, hAd, hM, hC, hN, hPd⟩ := hR
  obtain ⟨hsi, heb, h00, hA9, hm9, hcp9, hnt9, hpk9, hgi⟩ := hi
  have hok := hsi.1
  have hkn9 := hsi.2.1
  have hlk9 := hsi.2.2.1
  have hma := hM.1
  refine ct_enterV (cc := b_Ref_edge) (maxL := 4) (ret := none) (by decide +kernel) (Nat.le_of_ble_eq_true rfl) ?_
  intro p e s m args below meth c hx hb hml hr ht hown hlk hnm A Q hA hK hP hD hQ ls hl
  have hown : s.vm.findClass R_Ref = some m.cls := hown
  have hS : va_S A s.heap s.heap [] := va_S.rf
  have hl : lv_has ls 4 [(0, .ref h), (1, .int x), (2, .int y)] := hl
  have hrt := hsi.2.2.2.2.1
  refine lv_aload_n hx hb d_Ref_edge_0 rfl (lv_at hl 0 rfl) ?_
  refine lv_iload_n hx hb d_Ref_edge_1 rfl (lv_at hl 1 rfl) ?_
  refine ct_rdS (As := [.int x]) (rest := [.ref h]) ⟨hx, hb, hml, hown, ht⟩ (k_Ref_isRouter l D cI cZ cJ cG (x)) (cb_S ht kc_Ref_isRouter kl_Ref_82 kn_Ref ki_Ref_isRouter hd_Ref_isRouter ⟨Nat.le_of_ble_eq_true rfl, Nat.le_of_ble_eq_true rfl⟩) (wd_ct (Bs := [[rf_o h qs cd ma S.T.2.2.1.2.1 ca S.D.2.1.2.1 na S.G.2.2.2.1.2.1 S.D.1.2.1 S.D.2.2.1 S.D.2.2.2.1 S.D.2.2.2.2 S.lost], [(qs 0, .inl (cI, 12, .inl (lI S.eb)))], [(qs 1, .inl (cI, 144, .inl (fl (gN S.lk))))], [(qs 2, .inl (cI, 144, .inl (fl (gN wt))))], [(qs 3, .inl (cZ, 144, .inl (fl (kB S.kn))))], [(qs 4, .inl (cI, 1600, .inl fR))], [(qs 5, .inl (cI, 1600, .inl fN))], [(qs 6, .inl (cJ, 1600, .inr (.inl fL)))], [(qs 7, .inl (cJ, 1600, .inr (.inl fH)))], [(qs 8, .inl (cZ, 1600, .inl (dB uf)))], [(qs 9, .inl (cI, 144, .inl (fl (sI S.T.2.1))))], [(qs 10, .inl (cI, 4000, .inl fM))], [(qs 11, .inl (cJ, 4000, .inr (.inl fC)))], [(qs 12, .inl (cI, 4000, .inl fT))], [(qs 13, .inl (cI, 8, .inl (lI S.G.1)))], [(qs 14, .inl (cI, 8, .inl S.G.2.1))], [(qs 15, .inl (cI, 96, .inl (fl (gN (rT S.G.2.2.1)))))], [(qs 16, .inl (cI, 901, .inl fD))], [(qs 17, .inl (cI, 901, .inl fX))], [(qs 18, .inl (cI, 144, .inl (fl MK)))], [(qs 19, .inl (cI, 144, .inl (fl MF)))]]) 21 rfl [] [0, 1, 2, 3, 4, 5, 6, 7, 8, 9, 10, 11, 12, 13, 14, 15, 16, 17, 18, 19, 20] (by decide) rfl) hK hP hD hS hA rfl hl.1 rfl (Nat.le_of_ble_eq_true rfl) ⟨(show 0 + 0 ≤ 0 by omega), (show 0 + 0 ≤ 0 by omega)⟩ d_Ref_edge_2 (fun rhr101 H locs hr101 hP hD hS => ?_)
  subst hr101
  refine ri_ifeqB hx hb d_Ref_edge_5 (tgt := 33) (by decide) (fun h5 => ?_) (fun h5 => ?_)
  · refine lv_iconst (v := nI 1) hx hb d_Ref_edge_33 (by decide) ?_
    refine va_put (D := D) (ci := 9) (v := .int (nI 1)) (ty := .int) (C := R_Ref) (T := T_Ref) (N := 32) hx hb ht in_Ref t_Ref ok_Ref nm_Ref hown hK hP hD hS 0 rfl rfl 0 (by decide) (ht _ kl_Ref_72) (fun _ h9 => h9) rfl (by decide +kernel) rfl rfl (Nat.le_of_ble_eq_true rfl) d_Ref_edge_34 (fun H locs hP hD hS => ?_)
    have hP : va_P D kls (List.flatten [[rf_o h qs (nI 1) ma S.T.2.2.1.2.1 ca S.D.2.1.2.1 na S.G.2.2.2.1.2.1 S.D.1.2.1 S.D.2.2.1 S.D.2.2.2.1 S.D.2.2.2.2 S.lost], [(qs 0, .inl (cI, 12, .inl (lI S.eb)))], [(qs 1, .inl (cI, 144, .inl (fl (gN S.lk))))], [(qs 2, .inl (cI, 144, .inl (fl (gN wt))))], [(qs 3, .inl (cZ, 144, .inl (fl (kB S.kn))))], [(qs 4, .inl (cI, 1600, .inl fR))], [(qs 5, .inl (cI, 1600, .inl fN))], [(qs 6, .inl (cJ, 1600, .inr (.inl fL)))], [(qs 7, .inl (cJ, 1600, .inr (.inl fH)))], [(qs 8, .inl (cZ, 1600, .inl (dB uf)))], [(qs 9, .inl (cI, 144, .inl (fl (sI S.T.2.1))))], [(qs 10, .inl (cI, 4000, .inl fM))], [(qs 11, .inl (cJ, 4000, .inr (.inl fC)))], [(qs 12, .inl (cI, 4000, .inl fT))], [(qs 13, .inl (cI, 8, .inl (lI S.G.1)))], [(qs 14, .inl (cI, 8, .inl S.G.2.1))], [(qs 15, .inl (cI, 96, .inl (fl (gN (rT S.G.2.2.1)))))], [(qs 16, .inl (cI, 901, .inl fD))], [(qs 17, .inl (cI, 901, .inl fX))], [(qs 18, .inl (cI, 144, .inl (fl MK)))], [(qs 19, .inl (cI, 144, .inl (fl MF)))]]) H := hP
    have hD : va_D A (List.flatten [[rf_o h qs (nI 1) ma S.T.2.2.1.2.1 ca S.D.2.1.2.1 na S.G.2.2.2.1.2.1 S.D.1.2.1 S.D.2.2.1 S.D.2.2.2.1 S.D.2.2.2.2 S.lost], [(qs 0, .inl (cI, 12, .inl (lI S.eb)))], [(qs 1, .inl (cI, 144, .inl (fl (gN S.lk))))], [(qs 2, .inl (cI, 144, .inl (fl (gN wt))))], [(qs 3, .inl (cZ, 144, .inl (fl (kB S.kn))))], [(qs 4, .inl (cI, 1600, .inl fR))], [(qs 5, .inl (cI, 1600, .inl fN))], [(qs 6, .inl (cJ, 1600, .inr (.inl fL)))], [(qs 7, .inl (cJ, 1600, .inr (.inl fH)))], [(qs 8, .inl (cZ, 1600, .inl (dB uf)))], [(qs 9, .inl (cI, 144, .inl (fl (sI S.T.2.1))))], [(qs 10, .inl (cI, 4000, .inl fM))], [(qs 11, .inl (cJ, 4000, .inr (.inl fC)))], [(qs 12, .inl (cI, 4000, .inl fT))], [(qs 13, .inl (cI, 8, .inl (lI S.G.1)))], [(qs 14, .inl (cI, 8, .inl S.G.2.1))], [(qs 15, .inl (cI, 96, .inl (fl (gN (rT S.G.2.2.1)))))], [(qs 16, .inl (cI, 901, .inl fD))], [(qs 17, .inl (cI, 901, .inl fX))], [(qs 18, .inl (cI, 144, .inl (fl MK)))], [(qs 19, .inl (cI, 144, .inl (fl MF)))]]) := hD
    refine lv_iconst (v := nI 0) hx hb d_Ref_edge_37 (by decide) ?_
    refine lv_istore_n hx hb d_Ref_edge_38 rfl hl (by decide) rfl (fun ls hl => ?_)
    have hl : lv_has ls 4 [(3, .int (nI 0)), (0, .ref h), (1, .int x), (2, .int y)] := hl
    refine lv_iload_n hx hb d_Ref_edge_39 rfl (lv_at hl 0 rfl) ?_
    refine lv_bipush (v := nI 12) hx hb d_Ref_edge_40 (by decide) ?_
    refine ri_icmp_ge hx hb (by omega) (by omega) d_Ref_edge_42 (tgt := 73) (by decide) (fun h103 => ?_) (fun h103 => ?_)
    · exact absurd h103 (by decide)
    · refine lv_aload_n hx hb d_Ref_edge_45 rfl (lv_at hl 1 rfl) ?_
      refine va_get (D := D) (ci := 9) (v := .int (nI 1)) (C := R_Ref) (T := T_Ref) (N := 32) hx hb ht in_Ref hown hK hP 0 rfl rfl 0 (by decide) (ht _ kl_Ref_72) (fun _ h9 => h9) rfl d_Ref_edge_46 ?_
      refine ri_if_ne hx hb (by omega) d_Ref_edge_49 (tgt := 73) (by decide) (fun h104 => ?_) (fun h104 => ?_)
      · refine lv_aload_n hx hb d_Ref_edge_73 rfl (lv_at hl 1 rfl) ?_
        refine va_get (D := D) (ci := 9) (v := .int (nI 1)) (C := R_Ref) (T := T_Ref) (N := 32) hx hb ht in_Ref hown hK hP 0 rfl rfl 0 (by decide) (ht _ kl_Ref_72) (fun _ h9 => h9) rfl d_Ref_edge_74 ?_
        refine ri_if_ne hx hb (by omega) d_Ref_edge_77 (tgt := 87) (by decide) (fun h105 => ?_) (fun h105 => ?_)
        · exact ct_vret hQ hx hb hr hlk hP hD hS hK (by omega) (by omega) d_Ref_edge_87 (⟨qs, ma, ca, na, wt, fR, fN, fL, fH, uf, fM, fC, fT, fD, fX, MK, MF, rfl, hwt, hAd, hM, hC, hN, hPd⟩)
        · exact absurd h105 (by decide)
      · exact absurd h104 (by decide)
  · refine lv_iload_n hx hb d_Ref_edge_8 rfl (lv_at hl 2 rfl) ?_
    refine lv_i2l (v := y.toInt64) hx hb d_Ref_edge_9 rfl ?_
    refine lv_lconst (v := lN 0) hx hb d_Ref_edge_10 rfl ?_
    refine lv_ldc2 (v := lN 31) hx hb hown (ht _ kl_Ref_88) d_Ref_edge_11 ?_
    refine ct_rdS (As := [.long y.toInt64, .long (lN 0), .long (lN 31)]) (rest := [.ref h]) ⟨hx, hb, hml, hown, ht⟩ (k_Ref_in l D cI cZ cJ cG (y).toInt64 (lN 0) (lN 31)) (cb_S ht kc_Ref_in kl_Ref_78 kn_Ref ki_Ref_in hd_Ref_in ⟨Nat.le_of_ble_eq_true rfl, Nat.le_of_ble_eq_true rfl⟩) (wd_ct (Bs := [[rf_o h qs cd ma S.T.2.2.1.2.1 ca S.D.2.1.2.1 na S.G.2.2.2.1.2.1 S.D.1.2.1 S.D.2.2.1 S.D.2.2.2.1 S.D.2.2.2.2 S.lost], [(qs 0, .inl (cI, 12, .inl (lI S.eb)))], [(qs 1, .inl (cI, 144, .inl (fl (gN S.lk))))], [(qs 2, .inl (cI, 144, .inl (fl (gN wt))))], [(qs 3, .inl (cZ, 144, .inl (fl (kB S.kn))))], [(qs 4, .inl (cI, 1600, .inl fR))], [(qs 5, .inl (cI, 1600, .inl fN))], [(qs 6, .inl (cJ, 1600, .inr (.inl fL)))], [(qs 7, .inl (cJ, 1600, .inr (.inl fH)))], [(qs 8, .inl (cZ, 1600, .inl (dB uf)))], [(qs 9, .inl (cI, 144, .inl (fl (sI S.T.2.1))))], [(qs 10, .inl (cI, 4000, .inl fM))], [(qs 11, .inl (cJ, 4000, .inr (.inl fC)))], [(qs 12, .inl (cI, 4000, .inl fT))], [(qs 13, .inl (cI, 8, .inl (lI S.G.1)))], [(qs 14, .inl (cI, 8, .inl S.G.2.1))], [(qs 15, .inl (cI, 96, .inl (fl (gN (rT S.G.2.2.1)))))], [(qs 16, .inl (cI, 901, .inl fD))], [(qs 17, .inl (cI, 901, .inl fX))], [(qs 18, .inl (cI, 144, .inl (fl MK)))], [(qs 19, .inl (cI, 144, .inl (fl MF)))]]) 21 rfl [] [0, 1, 2, 3, 4, 5, 6, 7, 8, 9, 10, 11, 12, 13, 14, 15, 16, 17, 18, 19, 20] (by decide) rfl) hK hP hD hS hA rfl hl.1 rfl (Nat.le_of_ble_eq_true rfl) ⟨(show 0 + 0 ≤ 0 by omega), (show 0 + 0 ≤ 0 by omega)⟩ d_Ref_edge_14 (fun rhr106 H locs hr106 hP hD hS => ?_)
    subst hr106
    refine W.eq (g2 := F0 m 17 ls [.int (bI (rg 0 32 (y))), .ref h]) (congrArg (fun z => F0 m 17 ls (.int z :: [.ref h])) (congrArg bI (in_rg (a := 0) (b := 31) (by decide) (by decide) (y)))) ?_
    refine ri_ifeqB hx hb d_Ref_edge_17 (tgt := 33) (by decide) (fun h17 => ?_) (fun h17 => ?_)
    · refine lv_iconst (v := nI 1) hx hb d_Ref_edge_33 (by decide) ?_
      refine va_put (D := D) (ci := 9) (v := .int (nI 1)) (ty := .int) (C := R_Ref) (T := T_Ref) (N := 32) hx hb ht in_Ref t_Ref ok_Ref nm_Ref hown hK hP hD hS 0 rfl rfl 0 (by decide) (ht _ kl_Ref_72) (fun _ h9 => h9) rfl (by decide +kernel) rfl rfl (Nat.le_of_ble_eq_true rfl) d_Ref_edge_34 (fun H locs hP hD hS => ?_)
      have hP : va_P D kls (List.flatten [[rf_o h qs (nI 1) ma S.T.2.2.1.2.1 ca S.D.2.1.2.1 na S.G.2.2.2.1.2.1 S.D.1.2.1 S.D.2.2.1 S.D.2.2.2.1 S.D.2.2.2.2 S.lost], [(qs 0, .inl (cI, 12, .inl (lI S.eb)))], [(qs 1, .inl (cI, 144, .inl (fl (gN S.lk))))], [(qs 2, .inl (cI, 144, .inl (fl (gN wt))))], [(qs 3, .inl (cZ, 144, .inl (fl (kB S.kn))))], [(qs 4, .inl (cI, 1600, .inl fR))], [(qs 5, .inl (cI, 1600, .inl fN))], [(qs 6, .inl (cJ, 1600, .inr (.inl fL)))], [(qs 7, .inl (cJ, 1600, .inr (.inl fH)))], [(qs 8, .inl (cZ, 1600, .inl (dB uf)))], [(qs 9, .inl (cI, 144, .inl (fl (sI S.T.2.1))))], [(qs 10, .inl (cI, 4000, .inl fM))], [(qs 11, .inl (cJ, 4000, .inr (.inl fC)))], [(qs 12, .inl (cI, 4000, .inl fT))], [(qs 13, .inl (cI, 8, .inl (lI S.G.1)))], [(qs 14, .inl (cI, 8, .inl S.G.2.1))], [(qs 15, .inl (cI, 96, .inl (fl (gN (rT S.G.2.2.1)))))], [(qs 16, .inl (cI, 901, .inl fD))], [(qs 17, .inl (cI, 901, .inl fX))], [(qs 18, .inl (cI, 144, .inl (fl MK)))], [(qs 19, .inl (cI, 144, .inl (fl MF)))]]) H := hP
      have hD : va_D A (List.flatten [[rf_o h qs (nI 1) ma S.T.2.2.1.2.1 ca S.D.2.1.2.1 na S.G.2.2.2.1.2.1 S.D.1.2.1 S.D.2.2.1 S.D.2.2.2.1 S.D.2.2.2.2 S.lost], [(qs 0, .inl (cI, 12, .inl (lI S.eb)))], [(qs 1, .inl (cI, 144, .inl (fl (gN S.lk))))], [(qs 2, .inl (cI, 144, .inl (fl (gN wt))))], [(qs 3, .inl (cZ, 144, .inl (fl (kB S.kn))))], [(qs 4, .inl (cI, 1600, .inl fR))], [(qs 5, .inl (cI, 1600, .inl fN))], [(qs 6, .inl (cJ, 1600, .inr (.inl fL)))], [(qs 7, .inl (cJ, 1600, .inr (.inl fH)))], [(qs 8, .inl (cZ, 1600, .inl (dB uf)))], [(qs 9, .inl (cI, 144, .inl (fl (sI S.T.2.1))))], [(qs 10, .inl (cI, 4000, .inl fM))], [(qs 11, .inl (cJ, 4000, .inr (.inl fC)))], [(qs 12, .inl (cI, 4000, .inl fT))], [(qs 13, .inl (cI, 8, .inl (lI S.G.1)))], [(qs 14, .inl (cI, 8, .inl S.G.2.1))], [(qs 15, .inl (cI, 96, .inl (fl (gN (rT S.G.2.2.1)))))], [(qs 16, .inl (cI, 901, .inl fD))], [(qs 17, .inl (cI, 901, .inl fX))], [(qs 18, .inl (cI, 144, .inl (fl MK)))], [(qs 19, .inl (cI, 144, .inl (fl MF)))]]) := hD
      refine lv_iconst (v := nI 0) hx hb d_Ref_edge_37 (by decide) ?_
      refine lv_istore_n hx hb d_Ref_edge_38 rfl hl (by decide) rfl (fun ls hl => ?_)
      have hl : lv_has ls 4 [(3, .int (nI 0)), (0, .ref h), (1, .int x), (2, .int y)] := hl
      refine lv_iload_n hx hb d_Ref_edge_39 rfl (lv_at hl 0 rfl) ?_
      refine lv_bipush (v := nI 12) hx hb d_Ref_edge_40 (by decide) ?_
      refine ri_icmp_ge hx hb (by omega) (by omega) d_Ref_edge_42 (tgt := 73) (by decide) (fun h108 => ?_) (fun h108 => ?_)
      · exact absurd h108 (by decide)
      · refine lv_aload_n hx hb d_Ref_edge_45 rfl (lv_at hl 1 rfl) ?_
        refine va_get (D := D) (ci := 9) (v := .int (nI 1)) (C := R_Ref) (T := T_Ref) (N := 32) hx hb ht in_Ref hown hK hP 0 rfl rfl 0 (by decide) (ht _ kl_Ref_72) (fun _ h9 => h9) rfl d_Ref_edge_46 ?_
        refine ri_if_ne hx hb (by omega) d_Ref_edge_49 (tgt := 73) (by decide) (fun h109 => ?_) (fun h109 => ?_)
        · refine lv_aload_n hx hb d_Ref_edge_73 rfl (lv_at hl 1 rfl) ?_
          refine va_get (D := D) (ci := 9) (v := .int (nI 1)) (C := R_Ref) (T := T_Ref) (N := 32) hx hb ht in_Ref hown hK hP 0 rfl rfl 0 (by decide) (ht _ kl_Ref_72) (fun _ h9 => h9) rfl d_Ref_edge_74 ?_
          refine ri_if_ne hx hb (by omega) d_Ref_edge_77 (tgt := 87) (by decide) (fun h110 => ?_) (fun h110 => ?_)
          · exact ct_vret hQ hx hb hr hlk hP hD hS hK (by omega) (by omega) d_Ref_edge_87 (⟨qs, ma, ca, na, wt, fR, fN, fL, fH, uf, fM, fC, fT, fD, fX, MK, MF, rfl, hwt, hAd, hM, hC, hN, hPd⟩)
          · exact absurd h110 (by decide)
        · exact absurd h109 (by decide)
    · obtain ⟨r, hr9, rfl⟩ := rg_n (k := 12) h5
      obtain ⟨b, hb9, rfl⟩ := rg_n (k := 32) h17
      have hl : lv_has ls 4 [(0, .ref h), (1, .int (nI r)), (2, .int (nI b))] := hl
      refine lv_aload_n hx hb d_Ref_edge_20 rfl (lv_at hl 0 rfl) ?_
      refine va_get (D := D) (ci := 9) (v := .ref (qs 0)) (C := R_Ref) (T := T_Ref) (N := 32) hx hb ht in_Ref hown hK hP 0 rfl rfl 1 (by decide) (ht _ kl_Ref_7) (fun _ h9 => h9) rfl d_Ref_edge_21 ?_
      refine lv_iload_n hx hb d_Ref_edge_24 rfl (lv_at hl 1 rfl) ?_
      refine ri_iald hx hb hK hP 1 0 rfl rfl (j := r) (by omega) (by omega) d_Ref_edge_25 ?_
      refine W.eq (g2 := F0 m 26 ls [.int (bm_oI ((S.eb) r)), .ref h]) rfl ?_
      refine lv_if_ge hx hb d_Ref_edge_26 (tgt := 33) (by decide) (fun h26 => ?_) (fun h26 => ?_)
      · refine lv_iconst (v := nI 1) hx hb d_Ref_edge_33 (by decide) ?_
        refine va_put (D := D) (ci := 9) (v := .int (nI 1)) (ty := .int) (C := R_Ref) (T := T_Ref) (N := 32) hx hb ht in_Ref t_Ref ok_Ref nm_Ref hown hK hP hD hS 0 rfl rfl 0 (by decide) (ht _ kl_Ref_72) (fun _ h9 => h9) rfl (by decide +kernel) rfl rfl (Nat.le_of_ble_eq_true rfl) d_Ref_edge_34 (fun H locs hP hD hS => ?_)
        have hP : va_P D kls (List.flatten [[rf_o h qs (nI 1) ma S.T.2.2.1.2.1 ca S.D.2.1.2.1 na S.G.2.2.2.1.2.1 S.D.1.2.1 S.D.2.2.1 S.D.2.2.2.1 S.D.2.2.2.2 S.lost], [(qs 0, .inl (cI, 12, .inl (lI S.eb)))], [(qs 1, .inl (cI, 144, .inl (fl (gN S.lk))))], [(qs 2, .inl (cI, 144, .inl (fl (gN wt))))], [(qs 3, .inl (cZ, 144, .inl (fl (kB S.kn))))], [(qs 4, .inl (cI, 1600, .inl fR))], [(qs 5, .inl (cI, 1600, .inl fN))], [(qs 6, .inl (cJ, 1600, .inr (.inl fL)))], [(qs 7, .inl (cJ, 1600, .inr (.inl fH)))], [(qs 8, .inl (cZ, 1600, .inl (dB uf)))], [(qs 9, .inl (cI, 144, .inl (fl (sI S.T.2.1))))], [(qs 10, .inl (cI, 4000, .inl fM))], [(qs 11, .inl (cJ, 4000, .inr (.inl fC)))], [(qs 12, .inl (cI, 4000, .inl fT))], [(qs 13, .inl (cI, 8, .inl (lI S.G.1)))], [(qs 14, .inl (cI, 8, .inl S.G.2.1))], [(qs 15, .inl (cI, 96, .inl (fl (gN (rT S.G.2.2.1)))))], [(qs 16, .inl (cI, 901, .inl fD))], [(qs 17, .inl (cI, 901, .inl fX))], [(qs 18, .inl (cI, 144, .inl (fl MK)))], [(qs 19, .inl (cI, 144, .inl (fl MF)))]]) H := hP
        have hD : va_D A (List.flatten [[rf_o h qs (nI 1) ma S.T.2.2.1.2.1 ca S.D.2.1.2.1 na S.G.2.2.2.1.2.1 S.D.1.2.1 S.D.2.2.1 S.D.2.2.2.1 S.D.2.2.2.2 S.lost], [(qs 0, .inl (cI, 12, .inl (lI S.eb)))], [(qs 1, .inl (cI, 144, .inl (fl (gN S.lk))))], [(qs 2, .inl (cI, 144, .inl (fl (gN wt))))], [(qs 3, .inl (cZ, 144, .inl (fl (kB S.kn))))], [(qs 4, .inl (cI, 1600, .inl fR))], [(qs 5, .inl (cI, 1600, .inl fN))], [(qs 6, .inl (cJ, 1600, .inr (.inl fL)))], [(qs 7, .inl (cJ, 1600, .inr (.inl fH)))], [(qs 8, .inl (cZ, 1600, .inl (dB uf)))], [(qs 9, .inl (cI, 144, .inl (fl (sI S.T.2.1))))], [(qs 10, .inl (cI, 4000, .inl fM))], [(qs 11, .inl (cJ, 4000, .inr (.inl fC)))], [(qs 12, .inl (cI, 4000, .inl fT))], [(qs 13, .inl (cI, 8, .inl (lI S.G.1)))], [(qs 14, .inl (cI, 8, .inl S.G.2.1))], [(qs 15, .inl (cI, 96, .inl (fl (gN (rT S.G.2.2.1)))))], [(qs 16, .inl (cI, 901, .inl fD))], [(qs 17, .inl (cI, 901, .inl fX))], [(qs 18, .inl (cI, 144, .inl (fl MK)))], [(qs 19, .inl (cI, 144, .inl (fl MF)))]]) := hD
        refine lv_iconst (v := nI 0) hx hb d_Ref_edge_37 (by decide) ?_
        refine lv_istore_n hx hb d_Ref_edge_38 rfl hl (by decide) rfl (fun ls hl => ?_)
        have hl : lv_has ls 4 [(3, .int (nI 0)), (0, .ref h), (1, .int (nI r)), (2, .int (nI b))] := hl
        refine lv_iload_n hx hb d_Ref_edge_39 rfl (lv_at hl 0 rfl) ?_
        refine lv_bipush (v := nI 12) hx hb d_Ref_edge_40 (by decide) ?_
        refine ri_icmp_ge hx hb (by omega) (by omega) d_Ref_edge_42 (tgt := 73) (by decide) (fun h112 => ?_) (fun h112 => ?_)
        · exact absurd h112 (by decide)
        · refine lv_aload_n hx hb d_Ref_edge_45 rfl (lv_at hl 1 rfl) ?_
          refine va_get (D := D) (ci := 9) (v := .int (nI 1)) (C := R_Ref) (T := T_Ref) (N := 32) hx hb ht in_Ref hown hK hP 0 rfl rfl 0 (by decide) (ht _ kl_Ref_72) (fun _ h9 => h9) rfl d_Ref_edge_46 ?_
          refine ri_if_ne hx hb (by omega) d_Ref_edge_49 (tgt := 73) (by decide) (fun h113 => ?_) (fun h113 => ?_)
          · refine lv_aload_n hx hb d_Ref_edge_73 rfl (lv_at hl 1 rfl) ?_
            refine va_get (D := D) (ci := 9) (v := .int (nI 1)) (C := R_Ref) (T := T_Ref) (N := 32) hx hb ht in_Ref hown hK hP 0 rfl rfl 0 (by decide) (ht _ kl_Ref_72) (fun _ h9 => h9) rfl d_Ref_edge_74 ?_
            refine ri_if_ne hx hb (by omega) d_Ref_edge_77 (tgt := 87) (by decide) (fun h114 => ?_) (fun h114 => ?_)
            · exact ct_vret hQ hx hb hr hlk hP hD hS hK (by omega) (by omega) d_Ref_edge_87 (⟨qs, ma, ca, na, wt, fR, fN, fL, fH, uf, fM, fC, fT, fD, fX, MK, MF, rfl, hwt, hAd, hM, hC, hN, hPd⟩)
            · exact absurd h114 (by decide)
          · exact absurd h113 (by decide)
      · refine lv_iconst (v := nI 0) hx hb d_Ref_edge_29 (by decide) ?_
        refine lv_goto hx hb d_Ref_edge_30 (tgt := 34) (by decide) ?_
        refine va_put (D := D) (ci := 9) (v := .int (nI 0)) (ty := .int) (C := R_Ref) (T := T_Ref) (N := 32) hx hb ht in_Ref t_Ref ok_Ref nm_Ref hown hK hP hD hS 0 rfl rfl 0 (by decide) (ht _ kl_Ref_72) (fun _ h9 => h9) rfl (by decide +kernel) rfl rfl (Nat.le_of_ble_eq_true rfl) d_Ref_edge_34 (fun H locs hP hD hS => ?_)
        have hP : va_P D kls (List.flatten [[rf_o h qs (nI 0) ma S.T.2.2.1.2.1 ca S.D.2.1.2.1 na S.G.2.2.2.1.2.1 S.D.1.2.1 S.D.2.2.1 S.D.2.2.2.1 S.D.2.2.2.2 S.lost], [(qs 0, .inl (cI, 12, .inl (lI S.eb)))], [(qs 1, .inl (cI, 144, .inl (fl (gN S.lk))))], [(qs 2, .inl (cI, 144, .inl (fl (gN wt))))], [(qs 3, .inl (cZ, 144, .inl (fl (kB S.kn))))], [(qs 4, .inl (cI, 1600, .inl fR))], [(qs 5, .inl (cI, 1600, .inl fN))], [(qs 6, .inl (cJ, 1600, .inr (.inl fL)))], [(qs 7, .inl (cJ, 1600, .inr (.inl fH)))], [(qs 8, .inl (cZ, 1600, .inl (dB uf)))], [(qs 9, .inl (cI, 144, .inl (fl (sI S.T.2.1))))], [(qs 10, .inl (cI, 4000, .inl fM))], [(qs 11, .inl (cJ, 4000, .inr (.inl fC)))], [(qs 12, .inl (cI, 4000, .inl fT))], [(qs 13, .inl (cI, 8, .inl (lI S.G.1)))], [(qs 14, .inl (cI, 8, .inl S.G.2.1))], [(qs 15, .inl (cI, 96, .inl (fl (gN (rT S.G.2.2.1)))))], [(qs 16, .inl (cI, 901, .inl fD))], [(qs 17, .inl (cI, 901, .inl fX))], [(qs 18, .inl (cI, 144, .inl (fl MK)))], [(qs 19, .inl (cI, 144, .inl (fl MF)))]]) H := hP
        have hD : va_D A (List.flatten [[rf_o h qs (nI 0) ma S.T.2.2.1.2.1 ca S.D.2.1.2.1 na S.G.2.2.2.1.2.1 S.D.1.2.1 S.D.2.2.1 S.D.2.2.2.1 S.D.2.2.2.2 S.lost], [(qs 0, .inl (cI, 12, .inl (lI S.eb)))], [(qs 1, .inl (cI, 144, .inl (fl (gN S.lk))))], [(qs 2, .inl (cI, 144, .inl (fl (gN wt))))], [(qs 3, .inl (cZ, 144, .inl (fl (kB S.kn))))], [(qs 4, .inl (cI, 1600, .inl fR))], [(qs 5, .inl (cI, 1600, .inl fN))], [(qs 6, .inl (cJ, 1600, .inr (.inl fL)))], [(qs 7, .inl (cJ, 1600, .inr (.inl fH)))], [(qs 8, .inl (cZ, 1600, .inl (dB uf)))], [(qs 9, .inl (cI, 144, .inl (fl (sI S.T.2.1))))], [(qs 10, .inl (cI, 4000, .inl fM))], [(qs 11, .inl (cJ, 4000, .inr (.inl fC)))], [(qs 12, .inl (cI, 4000, .inl fT))], [(qs 13, .inl (cI, 8, .inl (lI S.G.1)))], [(qs 14, .inl (cI, 8, .inl S.G.2.1))], [(qs 15, .inl (cI, 96, .inl (fl (gN (rT S.G.2.2.1)))))], [(qs 16, .inl (cI, 901, .inl fD))], [(qs 17, .inl (cI, 901, .inl fX))], [(qs 18, .inl (cI, 144, .inl (fl MK)))], [(qs 19, .inl (cI, 144, .inl (fl MF)))]]) := hD
        refine lv_iconst (v := nI 0) hx hb d_Ref_edge_37 (by decide) ?_
        refine lv_istore_n hx hb d_Ref_edge_38 rfl hl (by decide) rfl (fun ls hl => ?_)
        have hl : lv_has ls 4 [(3, .int (nI 0)), (0, .ref h), (1, .int (nI r)), (2, .int (nI b))] := hl
        have hn0 := (oI_lt (fun b z => Nat.lt_trans (heb _ b z) (by decide))).mp (Int32.not_le.mp h26)
        have loop : ∀ (k j : Nat)  (H : Heap) (locs : List Loc) (ls : Array Slot), j + k = 12 → (∀ i, i < j → S.eb i ≠ some b) → va_P D kls (List.flatten [[rf_o h qs (nI 0) ma S.T.2.2.1.2.1 ca S.D.2.1.2.1 na S.G.2.2.2.1.2.1 S.D.1.2.1 S.D.2.2.1 S.D.2.2.2.1 S.D.2.2.2.2 S.lost], [(qs 0, .inl (cI, 12, .inl (lI S.eb)))], [(qs 1, .inl (cI, 144, .inl (fl (gN S.lk))))], [(qs 2, .inl (cI, 144, .inl (fl (gN wt))))], [(qs 3, .inl (cZ, 144, .inl (fl (kB S.kn))))], [(qs 4, .inl (cI, 1600, .inl fR))], [(qs 5, .inl (cI, 1600, .inl fN))], [(qs 6, .inl (cJ, 1600, .inr (.inl fL)))], [(qs 7, .inl (cJ, 1600, .inr (.inl fH)))], [(qs 8, .inl (cZ, 1600, .inl (dB uf)))], [(qs 9, .inl (cI, 144, .inl (fl (sI S.T.2.1))))], [(qs 10, .inl (cI, 4000, .inl fM))], [(qs 11, .inl (cJ, 4000, .inr (.inl fC)))], [(qs 12, .inl (cI, 4000, .inl fT))], [(qs 13, .inl (cI, 8, .inl (lI S.G.1)))], [(qs 14, .inl (cI, 8, .inl S.G.2.1))], [(qs 15, .inl (cI, 96, .inl (fl (gN (rT S.G.2.2.1)))))], [(qs 16, .inl (cI, 901, .inl fD))], [(qs 17, .inl (cI, 901, .inl fX))], [(qs 18, .inl (cI, 144, .inl (fl MK)))], [(qs 19, .inl (cI, 144, .inl (fl MF)))]]) H → va_D A (List.flatten [[rf_o h qs (nI 0) ma S.T.2.2.1.2.1 ca S.D.2.1.2.1 na S.G.2.2.2.1.2.1 S.D.1.2.1 S.D.2.2.1 S.D.2.2.2.1 S.D.2.2.2.2 S.lost], [(qs 0, .inl (cI, 12, .inl (lI S.eb)))], [(qs 1, .inl (cI, 144, .inl (fl (gN S.lk))))], [(qs 2, .inl (cI, 144, .inl (fl (gN wt))))], [(qs 3, .inl (cZ, 144, .inl (fl (kB S.kn))))], [(qs 4, .inl (cI, 1600, .inl fR))], [(qs 5, .inl (cI, 1600, .inl fN))], [(qs 6, .inl (cJ, 1600, .inr (.inl fL)))], [(qs 7, .inl (cJ, 1600, .inr (.inl fH)))], [(qs 8, .inl (cZ, 1600, .inl (dB uf)))], [(qs 9, .inl (cI, 144, .inl (fl (sI S.T.2.1))))], [(qs 10, .inl (cI, 4000, .inl fM))], [(qs 11, .inl (cJ, 4000, .inr (.inl fC)))], [(qs 12, .inl (cI, 4000, .inl fT))], [(qs 13, .inl (cI, 8, .inl (lI S.G.1)))], [(qs 14, .inl (cI, 8, .inl S.G.2.1))], [(qs 15, .inl (cI, 96, .inl (fl (gN (rT S.G.2.2.1)))))], [(qs 16, .inl (cI, 901, .inl fD))], [(qs 17, .inl (cI, 901, .inl fX))], [(qs 18, .inl (cI, 144, .inl (fl MK)))], [(qs 19, .inl (cI, 144, .inl (fl MF)))]]) → va_S A s.heap H locs → lv_has ls 4 [(3, .int (nI j)), (0, .ref h), (1, .int (nI r)), (2, .int (nI b))] → W p l e (rm_ 2 45 0 0) s m args below meth c H locs 0 0 Q (F0 m 39 ls []) := by
          intro k
          induction k with
          | zero =>
            intro j H locs ls hk hs hP hD hS hl
            refine lv_iload_n hx hb d_Ref_edge_39 rfl (lv_at hl 0 rfl) ?_
            refine lv_bipush (v := nI 12) hx hb d_Ref_edge_40 (by decide) ?_
            refine ri_icmp_ge hx hb (by omega) (by omega) d_Ref_edge_42 (tgt := 73) (by decide) (fun hc9 => ?_) (fun hc9 => ?_)
            · exact absurd ⟨r, b, rfl, rfl, hr9, hb9, hn0, fun i hi => hs i (by omega)⟩ hno
            · exact absurd hc9 (by omega)
          | succ k ih =>
            intro j H locs ls hk hs hP hD hS hl
            refine lv_iload_n hx hb d_Ref_edge_39 rfl (lv_at hl 0 rfl) ?_
            refine lv_bipush (v := nI 12) hx hb d_Ref_edge_40 (by decide) ?_
            refine ri_icmp_ge hx hb (by omega) (by omega) d_Ref_edge_42 (tgt := 73) (by decide) (fun hc9 => ?_) (fun hc9 => ?_)
            · exact absurd hc9 (by omega)
            · refine lv_aload_n hx hb d_Ref_edge_45 rfl (lv_at hl 1 rfl) ?_
              refine va_get (D := D) (ci := 9) (v := .int (nI 0)) (C := R_Ref) (T := T_Ref) (N := 32) hx hb ht in_Ref hown hK hP 0 rfl rfl 0 (by decide) (ht _ kl_Ref_72) (fun _ h9 => h9) rfl d_Ref_edge_46 ?_
              refine ri_if_ne hx hb (by omega) d_Ref_edge_49 (tgt := 73) (by decide) (fun h117 => ?_) (fun h117 => ?_)
              · exact absurd h117 (by decide)
              · refine lv_aload_n hx hb d_Ref_edge_52 rfl (lv_at hl 1 rfl) ?_
                refine va_get (D := D) (ci := 9) (v := .ref (qs 0)) (C := R_Ref) (T := T_Ref) (N := 32) hx hb ht in_Ref hown hK hP 0 rfl rfl 1 (by decide) (ht _ kl_Ref_7) (fun _ h9 => h9) rfl d_Ref_edge_53 ?_
                refine lv_iload_n hx hb d_Ref_edge_56 rfl (lv_at hl 0 rfl) ?_
                refine ri_iald hx hb hK hP 1 0 rfl rfl (j := j) (by omega) (by omega) d_Ref_edge_57 ?_
                refine W.eq (g2 := F0 m 58 ls [.int (bm_oI ((S.eb) j))]) rfl ?_
                refine lv_iload_n hx hb d_Ref_edge_58 rfl (lv_at hl 3 rfl) ?_
                refine lv_icmp_ne hx hb d_Ref_edge_59 (tgt := 67) (by decide) (fun h59 => ?_) (fun h59 => ?_)
                · refine ri_iinc hx hb d_Ref_edge_67 hl (k := 0) rfl (by decide) rfl (fun ls hl => ?_)
                  have hl : lv_has ls 4 [(3, .int (nI (j + 1))), (0, .ref h), (1, .int (nI r)), (2, .int (nI b))] := hl
                  refine lv_goto hx hb d_Ref_edge_70 (tgt := 39) (by decide) ?_
                  exact ih (j + 1) H locs ls (by omega) (fun i hi => by by_cases e : i = j; (· rw [e]; intro z; rw [z] at h59; exact h59 rfl); (· exact hs i (by omega))) hP hD hS hl
                · refine lv_aload_n hx hb d_Ref_edge_62 rfl (lv_at hl 1 rfl) ?_
                  refine lv_iconst (v := nI 1) hx hb d_Ref_edge_63 (by decide) ?_
                  refine va_put (D := D) (ci := 9) (v := .int (nI 1)) (ty := .int) (C := R_Ref) (T := T_Ref) (N := 32) hx hb ht in_Ref t_Ref ok_Ref nm_Ref hown hK hP hD hS 0 rfl rfl 0 (by decide) (ht _ kl_Ref_72) (fun _ h9 => h9) rfl (by decide +kernel) rfl rfl (Nat.le_of_ble_eq_true rfl) d_Ref_edge_64 (fun H locs hP hD hS => ?_)
                  have hP : va_P D kls (List.flatten [[rf_o h qs (nI 1) ma S.T.2.2.1.2.1 ca S.D.2.1.2.1 na S.G.2.2.2.1.2.1 S.D.1.2.1 S.D.2.2.1 S.D.2.2.2.1 S.D.2.2.2.2 S.lost], [(qs 0, .inl (cI, 12, .inl (lI S.eb)))], [(qs 1, .inl (cI, 144, .inl (fl (gN S.lk))))], [(qs 2, .inl (cI, 144, .inl (fl (gN wt))))], [(qs 3, .inl (cZ, 144, .inl (fl (kB S.kn))))], [(qs 4, .inl (cI, 1600, .inl fR))], [(qs 5, .inl (cI, 1600, .inl fN))], [(qs 6, .inl (cJ, 1600, .inr (.inl fL)))], [(qs 7, .inl (cJ, 1600, .inr (.inl fH)))], [(qs 8, .inl (cZ, 1600, .inl (dB uf)))], [(qs 9, .inl (cI, 144, .inl (fl (sI S.T.2.1))))], [(qs 10, .inl (cI, 4000, .inl fM))], [(qs 11, .inl (cJ, 4000, .inr (.inl fC)))], [(qs 12, .inl (cI, 4000, .inl fT))], [(qs 13, .inl (cI, 8, .inl (lI S.G.1)))], [(qs 14, .inl (cI, 8, .inl S.G.2.1))], [(qs 15, .inl (cI, 96, .inl (fl (gN (rT S.G.2.2.1)))))], [(qs 16, .inl (cI, 901, .inl fD))], [(qs 17, .inl (cI, 901, .inl fX))], [(qs 18, .inl (cI, 144, .inl (fl MK)))], [(qs 19, .inl (cI, 144, .inl (fl MF)))]]) H := hP
                  have hD : va_D A (List.flatten [[rf_o h qs (nI 1) ma S.T.2.2.1.2.1 ca S.D.2.1.2.1 na S.G.2.2.2.1.2.1 S.D.1.2.1 S.D.2.2.1 S.D.2.2.2.1 S.D.2.2.2.2 S.lost], [(qs 0, .inl (cI, 12, .inl (lI S.eb)))], [(qs 1, .inl (cI, 144, .inl (fl (gN S.lk))))], [(qs 2, .inl (cI, 144, .inl (fl (gN wt))))], [(qs 3, .inl (cZ, 144, .inl (fl (kB S.kn))))], [(qs 4, .inl (cI, 1600, .inl fR))], [(qs 5, .inl (cI, 1600, .inl fN))], [(qs 6, .inl (cJ, 1600, .inr (.inl fL)))], [(qs 7, .inl (cJ, 1600, .inr (.inl fH)))], [(qs 8, .inl (cZ, 1600, .inl (dB uf)))], [(qs 9, .inl (cI, 144, .inl (fl (sI S.T.2.1))))], [(qs 10, .inl (cI, 4000, .inl fM))], [(qs 11, .inl (cJ, 4000, .inr (.inl fC)))], [(qs 12, .inl (cI, 4000, .inl fT))], [(qs 13, .inl (cI, 8, .inl (lI S.G.1)))], [(qs 14, .inl (cI, 8, .inl S.G.2.1))], [(qs 15, .inl (cI, 96, .inl (fl (gN (rT S.G.2.2.1)))))], [(qs 16, .inl (cI, 901, .inl fD))], [(qs 17, .inl (cI, 901, .inl fX))], [(qs 18, .inl (cI, 144, .inl (fl MK)))], [(qs 19, .inl (cI, 144, .inl (fl MF)))]]) := hD
                  refine ri_iinc hx hb d_Ref_edge_67 hl (k := 0) rfl (by decide) rfl (fun ls hl => ?_)
                  have hl : lv_has ls 4 [(3, .int (nI (j + 1))), (0, .ref h), (1, .int (nI r)), (2, .int (nI b))] := hl
                  refine lv_goto hx hb d_Ref_edge_70 (tgt := 39) (by decide) ?_
                  refine lv_iload_n hx hb d_Ref_edge_39 rfl (lv_at hl 0 rfl) ?_
                  refine lv_bipush (v := nI 12) hx hb d_Ref_edge_40 (by decide) ?_
                  refine ri_icmp_ge hx hb (by omega) (by omega) d_Ref_edge_42 (tgt := 73) (by decide) (fun hc9 => ?_) (fun hc9 => ?_)
                  · refine lv_aload_n hx hb d_Ref_edge_73 rfl (lv_at hl 1 rfl) ?_
                    refine va_get (D := D) (ci := 9) (v := .int (nI 1)) (C := R_Ref) (T := T_Ref) (N := 32) hx hb ht in_Ref hown hK hP 0 rfl rfl 0 (by decide) (ht _ kl_Ref_72) (fun _ h9 => h9) rfl d_Ref_edge_74 ?_
                    refine ri_if_ne hx hb (by omega) d_Ref_edge_77 (tgt := 87) (by decide) (fun h120 => ?_) (fun h120 => ?_)
                    · exact ct_vret hQ hx hb hr hlk hP hD hS hK (by omega) (by omega) d_Ref_edge_87 (⟨qs, ma, ca, na, wt, fR, fN, fL, fH, uf, fM, fC, fT, fD, fX, MK, MF, rfl, hwt, hAd, hM, hC, hN, hPd⟩)
                    · exact absurd h120 (by decide)
                  · refine lv_aload_n hx hb d_Ref_edge_45 rfl (lv_at hl 1 rfl) ?_
                    refine va_get (D := D) (ci := 9) (v := .int (nI 1)) (C := R_Ref) (T := T_Ref) (N := 32) hx hb ht in_Ref hown hK hP 0 rfl rfl 0 (by decide) (ht _ kl_Ref_72) (fun _ h9 => h9) rfl d_Ref_edge_46 ?_
                    refine ri_if_ne hx hb (by omega) d_Ref_edge_49 (tgt := 73) (by decide) (fun h121 => ?_) (fun h121 => ?_)
                    · refine lv_aload_n hx hb d_Ref_edge_73 rfl (lv_at hl 1 rfl) ?_
                      refine va_get (D := D) (ci := 9) (v := .int (nI 1)) (C := R_Ref) (T := T_Ref) (N := 32) hx hb ht in_Ref hown hK hP 0 rfl rfl 0 (by decide) (ht _ kl_Ref_72) (fun _ h9 => h9) rfl d_Ref_edge_74 ?_
                      refine ri_if_ne hx hb (by omega) d_Ref_edge_77 (tgt := 87) (by decide) (fun h122 => ?_) (fun h122 => ?_)
                      · exact ct_vret hQ hx hb hr hlk hP hD hS hK (by omega) (by omega) d_Ref_edge_87 (⟨qs, ma, ca, na, wt, fR, fN, fL, fH, uf, fM, fC, fT, fD, fX, MK, MF, rfl, hwt, hAd, hM, hC, hN, hPd⟩)
                      · exact absurd h122 (by decide)
                    · exact absurd h121 (by decide)
        exact loop 12 0 H locs ls (by omega) (fun i hi => absurd hi (by omega)) hP hD hS hl
