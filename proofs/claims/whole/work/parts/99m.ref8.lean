/-! The reference: step, settled, what is asked of the routes. -/
theorem del_1 (lk kn : Nat → Nat → Nat) (P : bm_T × Int32) : (bm_del lk kn P).1.1 = P.1.1 := by
  unfold bm_del
  split
  · unfold bm_recv
    split
    · rfl
    · split <;> rfl
  · rfl
theorem sj_1 (S : bm_S) : ∀ j, (bm_sj S j).1.1 = S.T.1
  | 0 => rfl
  | j + 1 => (del_1 S.lk S.kn (bm_sj S j)).trans (sj_1 S j)
theorem bP_congr {p q : Prop} (h : p ↔ q) : bP p = bP q := by
  by_cases e : p
  · rw [bP_t e, bP_t (h.mp e)]
  · rw [bP_f e, bP_f (fun z => e (h.mpr z))]
/-- what the reference has seen, before its turn a, b, k -/
def sq (S : bm_S) (a b k : Nat) : Prop := S.T.2.2.1.2.1 = 0 ∧ ∀ x y z, x < 12 → y < 12 → z < 12 → S.lk x y = 1 → (x < a ∨ (x = a ∧ (y < b ∨ (y = b ∧ z < k)))) → S.T.1.2.2 (S.T.2.1 x z) 1 = S.T.1.2.2 (S.T.2.1 y z) 1
theorem sq_0 (S : bm_S) : sq S 0 0 0 ↔ S.T.2.2.1.2.1 = 0 := ⟨fun h => h.1, fun h => ⟨h, fun x y z _ _ _ _ h2 => absurd h2 (by omega)⟩⟩
theorem sq_step {S : bm_S} {a b k : Nat} (h : sq S a b k) (e : S.T.1.2.2 (S.T.2.1 a k) 1 = S.T.1.2.2 (S.T.2.1 b k) 1) : sq S a b (k + 1) := by
  refine ⟨h.1, fun x y z hx hy hz hl h2 => ?_⟩
  by_cases e2 : x = a ∧ y = b ∧ z = k
  · rw [e2.1, e2.2.1, e2.2.2]
    exact e
  · exact h.2 x y z hx hy hz hl (by omega)
theorem sq_not {S : bm_S} {a b k : Nat} (h : ¬ sq S a b k) : ¬ sq S a b (k + 1) := fun z => h ⟨z.1, fun x y w hx hy hw hl h2 => z.2 x y w hx hy hw hl (by omega)⟩
theorem sq_ne {S : bm_S} {a b k : Nat} (ha : a < 12) (hb : b < 12) (hk : k < 12) (hl : S.lk a b = 1) (e : S.T.1.2.2 (S.T.2.1 a k) 1 ≠ S.T.1.2.2 (S.T.2.1 b k) 1) : ¬ sq S a b (k + 1) := fun z => e (z.2 a b k ha hb hk hl (by omega))
theorem sq_row {S : bm_S} {a b k : Nat} (h : k = 12 ∨ S.lk a b ≠ 1) : sq S a b k ↔ sq S a (b + 1) 0 := by
  refine ⟨fun q => ⟨q.1, fun x y z hx hy hz hl h2 => ?_⟩, fun q => ⟨q.1, fun x y z hx hy hz hl h2 => q.2 x y z hx hy hz hl (by omega)⟩⟩
  by_cases e : x = a ∧ y = b
  · rcases h with h | h
    · exact q.2 x y z hx hy hz hl (by omega)
    · rw [e.1, e.2] at hl
      exact absurd hl h
  · exact q.2 x y z hx hy hz hl (by omega)
theorem sq_a {S : bm_S} {a : Nat} : sq S a 12 0 ↔ sq S (a + 1) 0 0 := ⟨fun q => ⟨q.1, fun x y z hx hy hz hl h2 => q.2 x y z hx hy hz hl (by omega)⟩, fun q => ⟨q.1, fun x y z hx hy hz hl h2 => q.2 x y z hx hy hz hl (by omega)⟩⟩
theorem bm_del_n (lk kn : Nat → Nat → Nat) (P : bm_T × Int32) (h : 0 < P.1.2.2.1.2.1) : (bm_del lk kn P).1.2.2.1.2.1 ≤ P.1.2.2.1.2.1 + 11 := by
  have hd : (bm_dropT P.1).2.2.1.2.1 = P.1.2.2.1.2.1 - 1 := rfl
  unfold bm_del
  split
  · unfold bm_recv
    split
    · have := bm_sa_n kn (some (P.1.2.2.1.2.2 0 0)) (P.1.2.2.1.2.2 0 1) (P.1.2.2.1.2.2 0 2) (bm_dropT P.1).2.2.1 12
      show (bm_sa kn (some (P.1.2.2.1.2.2 0 0)) (P.1.2.2.1.2.2 0 1) (P.1.2.2.1.2.2 0 2) (bm_dropT P.1).2.2.1 12).2.1 ≤ _
      omega
    · split
      · show (bm_dropT P.1).2.2.1.2.1 + 1 ≤ _
        omega
      · show (bm_dropT P.1).2.2.1.2.1 ≤ _
        omega
  · show (bm_dropT P.1).2.2.1.2.1 ≤ _
    omega
set_option maxHeartbeats 1600000 in
set_option maxRecDepth 100000 in
theorem k_Ref_step (l : Launch) (D : va_G) (cI cZ cJ cG : ClassId) {h : Nat} {cd : Int32} {S : bm_S} {ws : va_W} (hR : rf_R cI cZ cJ h cd S ws) (hi : rf_i S) (n : Nat) (hn1 : 1 ≤ n) (hn2 : n ≤ 1000) (hn9 : S.T.2.2.1.2.1 < 3900) (hq : ∀ j, j ≤ n → (∀ i, i < j → bm_sgo S i) → bm_ok (bm_sj S j).1) : ct_I l D kls (ty4 cI cZ cJ cG) y_Ref_step ws_Ref_step (rm_ 3 72 0 0) [.ref h, .int (nI n)] (ws) (fun z u => ∃ d, z = nI d ∧ d ≤ n ∧ (∀ j, j < d → bm_sgo S j) ∧ (d = n ∨ ¬ bm_sgo S d) ∧ rf_R cI cZ cJ h (nI 0) (bm_stp d S) u) 0 0 := by
  obtain ⟨qs, ma, ca, na, wt, fR, fN, fL, fH, uf, fM, fC, fT, fD, fX, MK, MF, rfl, hwt, hAd, hM, hC, hN, hPd⟩ := hR
  obtain ⟨hsi, heb, h00, hA9, hm9, hcp9, hnt9, hpk9, hgi⟩ := hi
  have hok := hsi.1
  have hkn9 := hsi.2.1
  have hlk9 := hsi.2.2.1
  have hma := hM.1
  refine ct_enterI (cc := b_Ref_step) (maxL := 3) (ret := (some .int)) (by decide +kernel) (Nat.le_of_ble_eq_true rfl) ?_
  intro p e s m args below meth c hx hb hml hr ht hown hlk hnm A Q hA hK hP hD hQ ls hl
  have hown : s.vm.findClass R_Ref = some m.cls := hown
  have hS : va_S A s.heap s.heap [] := va_S.rf
  have hl : lv_has ls 3 [(0, .ref h), (1, .int (nI n))] := hl
  have hrt := hsi.2.2.2.2.1
  have loop : ∀ (k j : Nat) (fJ : Nat → Int32) (mb : Nat) (H : Heap) (locs : List Loc) (ls : Array Slot), j + k = n → (∀ i, i < j → bm_sgo S i) → (mr_R fJ mb (bm_sj S j).1.2.2.1) → ((bm_sj S j).1.2.2.1.2.1 ≤ 4010) → va_P D kls (List.flatten [[rf_o h qs (nI 0) mb ((bm_sj S j).1.2.2.1.2.1) ca S.D.2.1.2.1 na S.G.2.2.2.1.2.1 S.D.1.2.1 S.D.2.2.1 S.D.2.2.2.1 S.D.2.2.2.2 ((bm_sj S j).2)], [(qs 0, .inl (cI, 12, .inl (lI S.eb)))], [(qs 1, .inl (cI, 144, .inl (fl (gN S.lk))))], [(qs 2, .inl (cI, 144, .inl (fl (gN wt))))], [(qs 3, .inl (cZ, 144, .inl (fl (kB S.kn))))], [(qs 4, .inl (cI, 1600, .inl fR))], [(qs 5, .inl (cI, 1600, .inl fN))], [(qs 6, .inl (cJ, 1600, .inr (.inl fL)))], [(qs 7, .inl (cJ, 1600, .inr (.inl fH)))], [(qs 8, .inl (cZ, 1600, .inl (dB uf)))], [(qs 9, .inl (cI, 144, .inl (fl (sI ((bm_sj S j).1.2.1)))))], [(qs 10, .inl (cI, 4000, .inl fJ))], [(qs 11, .inl (cJ, 4000, .inr (.inl fC)))], [(qs 12, .inl (cI, 4000, .inl fT))], [(qs 13, .inl (cI, 8, .inl (lI S.G.1)))], [(qs 14, .inl (cI, 8, .inl S.G.2.1))], [(qs 15, .inl (cI, 96, .inl (fl (gN (rT S.G.2.2.1)))))], [(qs 16, .inl (cI, 901, .inl fD))], [(qs 17, .inl (cI, 901, .inl fX))], [(qs 18, .inl (cI, 144, .inl (fl MK)))], [(qs 19, .inl (cI, 144, .inl (fl MF)))]]) H → va_D A (List.flatten [[rf_o h qs (nI 0) mb ((bm_sj S j).1.2.2.1.2.1) ca S.D.2.1.2.1 na S.G.2.2.2.1.2.1 S.D.1.2.1 S.D.2.2.1 S.D.2.2.2.1 S.D.2.2.2.2 ((bm_sj S j).2)], [(qs 0, .inl (cI, 12, .inl (lI S.eb)))], [(qs 1, .inl (cI, 144, .inl (fl (gN S.lk))))], [(qs 2, .inl (cI, 144, .inl (fl (gN wt))))], [(qs 3, .inl (cZ, 144, .inl (fl (kB S.kn))))], [(qs 4, .inl (cI, 1600, .inl fR))], [(qs 5, .inl (cI, 1600, .inl fN))], [(qs 6, .inl (cJ, 1600, .inr (.inl fL)))], [(qs 7, .inl (cJ, 1600, .inr (.inl fH)))], [(qs 8, .inl (cZ, 1600, .inl (dB uf)))], [(qs 9, .inl (cI, 144, .inl (fl (sI ((bm_sj S j).1.2.1)))))], [(qs 10, .inl (cI, 4000, .inl fJ))], [(qs 11, .inl (cJ, 4000, .inr (.inl fC)))], [(qs 12, .inl (cI, 4000, .inl fT))], [(qs 13, .inl (cI, 8, .inl (lI S.G.1)))], [(qs 14, .inl (cI, 8, .inl S.G.2.1))], [(qs 15, .inl (cI, 96, .inl (fl (gN (rT S.G.2.2.1)))))], [(qs 16, .inl (cI, 901, .inl fD))], [(qs 17, .inl (cI, 901, .inl fX))], [(qs 18, .inl (cI, 144, .inl (fl MK)))], [(qs 19, .inl (cI, 144, .inl (fl MF)))]]) → va_S A s.heap H locs → lv_has ls 3 [(2, .int (nI j)), (0, .ref h), (1, .int (nI n))] → W p l e (rm_ 3 72 0 0) s m args below meth c H locs 0 0 Q (F0 m 46 ls []) := by
    intro k
    induction k with
    | zero =>
      intro j fJ mb H locs ls hk hs hJ hz hP hD hS hl
      refine lv_iload_n hx hb d_Ref_step_46 rfl (lv_at hl 0 rfl) ?_
      refine lv_iload_n hx hb d_Ref_step_47 rfl (lv_at hl 2 rfl) ?_
      refine ri_icmp_ge hx hb (by omega) (by omega) d_Ref_step_48 (tgt := 78) (by decide) (fun hc9 => ?_) (fun hc9 => ?_)
      · have hmj : (bm_sj S j).1.2.2.1.2.1 ≤ 4010 := hz
        refine lv_iload_n hx hb d_Ref_step_78 rfl (lv_at hl 0 rfl) ?_
        exact ct_iret hQ hx hb hr hlk hP hD hS hK (by omega) (by omega) d_Ref_step_79 (⟨j, rfl, by omega, hs, (by first | exact Or.inl (by omega) | exact Or.inr (by intro z; omega)), ⟨qs, mb, ca, na, wt, fR, fN, fL, fH, uf, fJ, fC, fT, fD, fX, MK, MF, rfl, hwt, (by show ad_R (bm_sj S j).1.1 _ _ _ _ _; rw [sj_1]; exact hAd), hJ, hC, hN, hPd⟩⟩)
      · exact absurd hc9 (by omega)
    | succ k ih =>
      intro j fJ mb H locs ls hk hs hJ hz hP hD hS hl
      refine lv_iload_n hx hb d_Ref_step_46 rfl (lv_at hl 0 rfl) ?_
      refine lv_iload_n hx hb d_Ref_step_47 rfl (lv_at hl 2 rfl) ?_
      refine ri_icmp_ge hx hb (by omega) (by omega) d_Ref_step_48 (tgt := 78) (by decide) (fun hc9 => ?_) (fun hc9 => ?_)
      · have hmj : (bm_sj S j).1.2.2.1.2.1 ≤ 4010 := hz
        refine lv_iload_n hx hb d_Ref_step_78 rfl (lv_at hl 0 rfl) ?_
        exact ct_iret hQ hx hb hr hlk hP hD hS hK (by omega) (by omega) d_Ref_step_79 (⟨j, rfl, by omega, hs, (by first | exact Or.inl (by omega) | exact Or.inr (by intro z; omega)), ⟨qs, mb, ca, na, wt, fR, fN, fL, fH, uf, fJ, fC, fT, fD, fX, MK, MF, rfl, hwt, (by show ad_R (bm_sj S j).1.1 _ _ _ _ _; rw [sj_1]; exact hAd), hJ, hC, hN, hPd⟩⟩)
      · have hokj := hq j (by omega) hs
        have h1j := sj_1 S j
        have hmj : (bm_sj S j).1.2.2.1.2.1 ≤ 4010 := hz
        refine lv_aload_n hx hb d_Ref_step_51 rfl (lv_at hl 1 rfl) ?_
        refine va_get (D := D) (ci := 9) (v := .int (nI ((bm_sj S j).1.2.2.1.2.1))) (C := R_Ref) (T := T_Ref) (N := 32) hx hb ht in_Ref hown hK hP 0 rfl rfl 12 (by decide) (ht _ kl_Ref_92) (fun _ h9 => h9) rfl d_Ref_step_52 ?_
        refine ri_if_le hx hb (by omega) d_Ref_step_55 (tgt := 78) (by decide) (fun h55 => ?_) (fun h55 => ?_)
        · have hmj : (bm_sj S j).1.2.2.1.2.1 ≤ 4010 := hz
          refine lv_iload_n hx hb d_Ref_step_78 rfl (lv_at hl 0 rfl) ?_
          exact ct_iret hQ hx hb hr hlk hP hD hS hK (by omega) (by omega) d_Ref_step_79 (⟨j, rfl, by omega, hs, (by first | exact Or.inl (by omega) | exact Or.inr (by intro z; omega)), ⟨qs, mb, ca, na, wt, fR, fN, fL, fH, uf, fJ, fC, fT, fD, fX, MK, MF, rfl, hwt, (by show ad_R (bm_sj S j).1.1 _ _ _ _ _; rw [sj_1]; exact hAd), hJ, hC, hN, hPd⟩⟩)
        · refine lv_aload_n hx hb d_Ref_step_58 rfl (lv_at hl 1 rfl) ?_
          refine va_get (D := D) (ci := 9) (v := .int (nI ((bm_sj S j).1.2.2.1.2.1))) (C := R_Ref) (T := T_Ref) (N := 32) hx hb ht in_Ref hown hK hP 0 rfl rfl 12 (by decide) (ht _ kl_Ref_92) (fun _ h9 => h9) rfl d_Ref_step_59 ?_
          refine lv_sipush (v := nI 3900) hx hb d_Ref_step_62 (by decide) ?_
          refine ri_icmp_ge hx hb (by omega) (by omega) d_Ref_step_65 (tgt := 78) (by decide) (fun h65 => ?_) (fun h65 => ?_)
          · have hmj : (bm_sj S j).1.2.2.1.2.1 ≤ 4010 := hz
            refine lv_iload_n hx hb d_Ref_step_78 rfl (lv_at hl 0 rfl) ?_
            exact ct_iret hQ hx hb hr hlk hP hD hS hK (by omega) (by omega) d_Ref_step_79 (⟨j, rfl, by omega, hs, (by first | exact Or.inl (by omega) | exact Or.inr (by intro z; omega)), ⟨qs, mb, ca, na, wt, fR, fN, fL, fH, uf, fJ, fC, fT, fD, fX, MK, MF, rfl, hwt, (by show ad_R (bm_sj S j).1.1 _ _ _ _ _; rw [sj_1]; exact hAd), hJ, hC, hN, hPd⟩⟩)
          · refine lv_aload_n hx hb d_Ref_step_68 rfl (lv_at hl 1 rfl) ?_
            have hs2 : ∀ i, i < j + 1 → bm_sgo S i := fun i hi9 => by by_cases e : i = j; (· rw [e]; exact ⟨by omega, by omega⟩); (· exact hs i (by omega))
            refine ct_callVV (C := R_Ref) (ci := 9) (As := []) (rest := []) ⟨hx, hb, hml, hown, ht⟩ (k_Ref_oldestMessage l D cI cZ cJ cG (T := (bm_sj S j).1) (lm := (bm_sj S j).2) hJ hokj (by rw [h1j]; exact fun k hk => ⟨(hAd.1 k hk).1, (hAd.1 k hk).2.1⟩) (by rw [h1j]; exact h00 1) (by rw [h1j]; omega) hlk9 (by omega) (by omega)) (cb_V ht kc_Ref_oldestMessage kl_Ref_129 kn_Ref ki_Ref_oldestMessage ks_Ref_oldestMessage hd_Ref_oldestMessage ⟨Nat.le_of_ble_eq_true rfl, Nat.le_of_ble_eq_true rfl⟩) (List.mem_of_getElem? (i := 0) rfl) rfl rfl (wd_ct (Bs := [[rf_o h qs (nI 0) mb ((bm_sj S j).1.2.2.1.2.1) ca S.D.2.1.2.1 na S.G.2.2.2.1.2.1 S.D.1.2.1 S.D.2.2.1 S.D.2.2.2.1 S.D.2.2.2.2 ((bm_sj S j).2)], [(qs 0, .inl (cI, 12, .inl (lI S.eb)))], [(qs 1, .inl (cI, 144, .inl (fl (gN S.lk))))], [(qs 2, .inl (cI, 144, .inl (fl (gN wt))))], [(qs 3, .inl (cZ, 144, .inl (fl (kB S.kn))))], [(qs 4, .inl (cI, 1600, .inl fR))], [(qs 5, .inl (cI, 1600, .inl fN))], [(qs 6, .inl (cJ, 1600, .inr (.inl fL)))], [(qs 7, .inl (cJ, 1600, .inr (.inl fH)))], [(qs 8, .inl (cZ, 1600, .inl (dB uf)))], [(qs 9, .inl (cI, 144, .inl (fl (sI ((bm_sj S j).1.2.1)))))], [(qs 10, .inl (cI, 4000, .inl fJ))], [(qs 11, .inl (cJ, 4000, .inr (.inl fC)))], [(qs 12, .inl (cI, 4000, .inl fT))], [(qs 13, .inl (cI, 8, .inl (lI S.G.1)))], [(qs 14, .inl (cI, 8, .inl S.G.2.1))], [(qs 15, .inl (cI, 96, .inl (fl (gN (rT S.G.2.2.1)))))], [(qs 16, .inl (cI, 901, .inl fD))], [(qs 17, .inl (cI, 901, .inl fX))], [(qs 18, .inl (cI, 144, .inl (fl MK)))], [(qs 19, .inl (cI, 144, .inl (fl MF)))]]) 21 rfl [0, 2, 4, 5, 6, 10, 11] [1, 3, 7, 8, 9, 12, 13, 14, 15, 16, 17, 18, 19, 20] (by decide) rfl) hK hP hD hS hA rfl hl.1 rfl (Nat.le_of_ble_eq_true rfl) ⟨(show 0 + 0 ≤ 0 by omega), (show 0 + 0 ≤ 0 by omega)⟩ d_Ref_step_69 (fun u105 H locs hu105 hP hD hS => ?_)
            obtain ⟨fJ2, mb2, rfl, hJ2⟩ := hu105
            refine W.widen (k := 0) (n := 0) (Nat.le_refl _) (Nat.le_refl _) ?_
            have hP := wd_nP (N := [[rf_o h qs (nI 0) mb2 ((bm_sj S (j + 1)).1.2.2.1.2.1) ca S.D.2.1.2.1 na S.G.2.2.2.1.2.1 S.D.1.2.1 S.D.2.2.1 S.D.2.2.2.1 S.D.2.2.2.2 ((bm_sj S (j + 1)).2)], [(qs 1, .inl (cI, 144, .inl (fl (gN S.lk))))], [(qs 3, .inl (cZ, 144, .inl (fl (kB S.kn))))], [(qs 4, .inl (cI, 1600, .inl fR))], [(qs 5, .inl (cI, 1600, .inl fN))], [(qs 9, .inl (cI, 144, .inl (fl (sI ((bm_sj S (j + 1)).1.2.1)))))], [(qs 10, .inl (cI, 4000, .inl fJ2))]]) rfl 21 rfl [0, 7, 1, 8, 2, 3, 4, 9, 10, 11, 5, 6, 12, 13, 14, 15, 16, 17, 18, 19, 20] (by decide) hP
            have hD := wd_nD (N := [[rf_o h qs (nI 0) mb2 ((bm_sj S (j + 1)).1.2.2.1.2.1) ca S.D.2.1.2.1 na S.G.2.2.2.1.2.1 S.D.1.2.1 S.D.2.2.1 S.D.2.2.2.1 S.D.2.2.2.2 ((bm_sj S (j + 1)).2)], [(qs 1, .inl (cI, 144, .inl (fl (gN S.lk))))], [(qs 3, .inl (cZ, 144, .inl (fl (kB S.kn))))], [(qs 4, .inl (cI, 1600, .inl fR))], [(qs 5, .inl (cI, 1600, .inl fN))], [(qs 9, .inl (cI, 144, .inl (fl (sI ((bm_sj S (j + 1)).1.2.1)))))], [(qs 10, .inl (cI, 4000, .inl fJ2))]]) rfl 21 rfl [0, 7, 1, 8, 2, 3, 4, 9, 10, 11, 5, 6, 12, 13, 14, 15, 16, 17, 18, 19, 20] (by decide) hD
            have hP : va_P D kls (List.flatten [[rf_o h qs (nI 0) mb2 ((bm_sj S (j + 1)).1.2.2.1.2.1) ca S.D.2.1.2.1 na S.G.2.2.2.1.2.1 S.D.1.2.1 S.D.2.2.1 S.D.2.2.2.1 S.D.2.2.2.2 ((bm_sj S (j + 1)).2)], [(qs 0, .inl (cI, 12, .inl (lI S.eb)))], [(qs 1, .inl (cI, 144, .inl (fl (gN S.lk))))], [(qs 2, .inl (cI, 144, .inl (fl (gN wt))))], [(qs 3, .inl (cZ, 144, .inl (fl (kB S.kn))))], [(qs 4, .inl (cI, 1600, .inl fR))], [(qs 5, .inl (cI, 1600, .inl fN))], [(qs 6, .inl (cJ, 1600, .inr (.inl fL)))], [(qs 7, .inl (cJ, 1600, .inr (.inl fH)))], [(qs 8, .inl (cZ, 1600, .inl (dB uf)))], [(qs 9, .inl (cI, 144, .inl (fl (sI ((bm_sj S (j + 1)).1.2.1)))))], [(qs 10, .inl (cI, 4000, .inl fJ2))], [(qs 11, .inl (cJ, 4000, .inr (.inl fC)))], [(qs 12, .inl (cI, 4000, .inl fT))], [(qs 13, .inl (cI, 8, .inl (lI S.G.1)))], [(qs 14, .inl (cI, 8, .inl S.G.2.1))], [(qs 15, .inl (cI, 96, .inl (fl (gN (rT S.G.2.2.1)))))], [(qs 16, .inl (cI, 901, .inl fD))], [(qs 17, .inl (cI, 901, .inl fX))], [(qs 18, .inl (cI, 144, .inl (fl MK)))], [(qs 19, .inl (cI, 144, .inl (fl MF)))]]) H := hP
            have hD : va_D A (List.flatten [[rf_o h qs (nI 0) mb2 ((bm_sj S (j + 1)).1.2.2.1.2.1) ca S.D.2.1.2.1 na S.G.2.2.2.1.2.1 S.D.1.2.1 S.D.2.2.1 S.D.2.2.2.1 S.D.2.2.2.2 ((bm_sj S (j + 1)).2)], [(qs 0, .inl (cI, 12, .inl (lI S.eb)))], [(qs 1, .inl (cI, 144, .inl (fl (gN S.lk))))], [(qs 2, .inl (cI, 144, .inl (fl (gN wt))))], [(qs 3, .inl (cZ, 144, .inl (fl (kB S.kn))))], [(qs 4, .inl (cI, 1600, .inl fR))], [(qs 5, .inl (cI, 1600, .inl fN))], [(qs 6, .inl (cJ, 1600, .inr (.inl fL)))], [(qs 7, .inl (cJ, 1600, .inr (.inl fH)))], [(qs 8, .inl (cZ, 1600, .inl (dB uf)))], [(qs 9, .inl (cI, 144, .inl (fl (sI ((bm_sj S (j + 1)).1.2.1)))))], [(qs 10, .inl (cI, 4000, .inl fJ2))], [(qs 11, .inl (cJ, 4000, .inr (.inl fC)))], [(qs 12, .inl (cI, 4000, .inl fT))], [(qs 13, .inl (cI, 8, .inl (lI S.G.1)))], [(qs 14, .inl (cI, 8, .inl S.G.2.1))], [(qs 15, .inl (cI, 96, .inl (fl (gN (rT S.G.2.2.1)))))], [(qs 16, .inl (cI, 901, .inl fD))], [(qs 17, .inl (cI, 901, .inl fX))], [(qs 18, .inl (cI, 144, .inl (fl MK)))], [(qs 19, .inl (cI, 144, .inl (fl MF)))]]) := hD
            refine W.eq (g2 := F0 m 72 ls []) rfl ?_
            refine ri_iinc hx hb d_Ref_step_72 hl (k := 0) rfl (by decide) rfl (fun ls hl => ?_)
            have hl : lv_has ls 3 [(2, .int (nI (j + 1))), (0, .ref h), (1, .int (nI n))] := hl
            refine lv_goto hx hb d_Ref_step_75 (tgt := 46) (by decide) ?_
            exact ih (j + 1) fJ2 mb2 H locs ls (by omega) hs2 hJ2 (Nat.le_trans (bm_del_n S.lk S.kn (bm_sj S j) (by omega)) (by omega)) hP hD hS hl
  refine lv_aload_n hx hb d_Ref_step_0 rfl (lv_at hl 0 rfl) ?_
  refine lv_aload_n hx hb d_Ref_step_1 rfl (lv_at hl 0 rfl) ?_
  refine va_get (D := D) (ci := 9) (v := .int (nI S.T.2.2.1.2.1)) (C := R_Ref) (T := T_Ref) (N := 32) hx hb ht in_Ref hown hK hP 0 rfl rfl 12 (by decide) (ht _ kl_Ref_92) (fun _ h9 => h9) rfl d_Ref_step_2 ?_
  refine lv_sipush (v := nI 3900) hx hb d_Ref_step_5 (by decide) ?_
  refine ri_icmp_lt hx hb (by omega) (by omega) d_Ref_step_8 (tgt := 15) (by decide) (fun h8 => ?_) (fun h8 => ?_)
  · refine lv_iload_n hx hb d_Ref_step_15 rfl (lv_at hl 1 rfl) ?_
    refine lv_i2l (v := lN n) hx hb d_Ref_step_16 (nI_l (by omega)) ?_
    refine lv_lconst (v := lN 1) hx hb d_Ref_step_17 rfl ?_
    refine lv_ldc2 (v := lN 1000) hx hb hown (ht _ kl_Ref_116) d_Ref_step_18 ?_
    refine ct_rdS (As := [.long (lN n), .long (lN 1), .long (lN 1000)]) (rest := [.ref h]) ⟨hx, hb, hml, hown, ht⟩ (k_Ref_in l D cI cZ cJ cG (lN n) (lN 1) (lN 1000)) (cb_S ht kc_Ref_in kl_Ref_78 kn_Ref ki_Ref_in hd_Ref_in ⟨Nat.le_of_ble_eq_true rfl, Nat.le_of_ble_eq_true rfl⟩) (wd_ct (Bs := [[rf_o h qs cd ma S.T.2.2.1.2.1 ca S.D.2.1.2.1 na S.G.2.2.2.1.2.1 S.D.1.2.1 S.D.2.2.1 S.D.2.2.2.1 S.D.2.2.2.2 S.lost], [(qs 0, .inl (cI, 12, .inl (lI S.eb)))], [(qs 1, .inl (cI, 144, .inl (fl (gN S.lk))))], [(qs 2, .inl (cI, 144, .inl (fl (gN wt))))], [(qs 3, .inl (cZ, 144, .inl (fl (kB S.kn))))], [(qs 4, .inl (cI, 1600, .inl fR))], [(qs 5, .inl (cI, 1600, .inl fN))], [(qs 6, .inl (cJ, 1600, .inr (.inl fL)))], [(qs 7, .inl (cJ, 1600, .inr (.inl fH)))], [(qs 8, .inl (cZ, 1600, .inl (dB uf)))], [(qs 9, .inl (cI, 144, .inl (fl (sI S.T.2.1))))], [(qs 10, .inl (cI, 4000, .inl fM))], [(qs 11, .inl (cJ, 4000, .inr (.inl fC)))], [(qs 12, .inl (cI, 4000, .inl fT))], [(qs 13, .inl (cI, 8, .inl (lI S.G.1)))], [(qs 14, .inl (cI, 8, .inl S.G.2.1))], [(qs 15, .inl (cI, 96, .inl (fl (gN (rT S.G.2.2.1)))))], [(qs 16, .inl (cI, 901, .inl fD))], [(qs 17, .inl (cI, 901, .inl fX))], [(qs 18, .inl (cI, 144, .inl (fl MK)))], [(qs 19, .inl (cI, 144, .inl (fl MF)))]]) 21 rfl [] [0, 1, 2, 3, 4, 5, 6, 7, 8, 9, 10, 11, 12, 13, 14, 15, 16, 17, 18, 19, 20] (by decide) rfl) hK hP hD hS hA rfl hl.1 rfl (Nat.le_of_ble_eq_true rfl) ⟨(show 0 + 0 ≤ 0 by omega), (show 0 + 0 ≤ 0 by omega)⟩ d_Ref_step_21 (fun rhr107 H locs hr107 hP hD hS => ?_)
    subst hr107
    refine W.eq (g2 := F0 m 24 ls [.int (bI true), .ref h]) (congrArg (fun z => F0 m 24 ls (.int z :: [.ref h])) (congrArg bI (decide_eq_true ⟨(lN_le (by decide) (show n < 2 ^ 31 by omega)).mpr hn1, (lN_le (show n < 2 ^ 31 by omega) (by decide)).mpr hn2⟩))) ?_
    refine ri_ifeqB hx hb d_Ref_step_24 (tgt := 31) (by decide) (fun h108 => ?_) (fun h108 => ?_)
    · exact absurd h108 (fun z => by cases z)
    · refine lv_iconst (v := nI 0) hx hb d_Ref_step_27 (by decide) ?_
      refine lv_goto hx hb d_Ref_step_28 (tgt := 32) (by decide) ?_
      refine va_put (D := D) (ci := 9) (v := .int (nI 0)) (ty := .int) (C := R_Ref) (T := T_Ref) (N := 32) hx hb ht in_Ref t_Ref ok_Ref nm_Ref hown hK hP hD hS 0 rfl rfl 0 (by decide) (ht _ kl_Ref_72) (fun _ h9 => h9) rfl (by decide +kernel) rfl rfl (Nat.le_of_ble_eq_true rfl) d_Ref_step_32 (fun H locs hP hD hS => ?_)
      have hP : va_P D kls (List.flatten [[rf_o h qs (nI 0) ma S.T.2.2.1.2.1 ca S.D.2.1.2.1 na S.G.2.2.2.1.2.1 S.D.1.2.1 S.D.2.2.1 S.D.2.2.2.1 S.D.2.2.2.2 S.lost], [(qs 0, .inl (cI, 12, .inl (lI S.eb)))], [(qs 1, .inl (cI, 144, .inl (fl (gN S.lk))))], [(qs 2, .inl (cI, 144, .inl (fl (gN wt))))], [(qs 3, .inl (cZ, 144, .inl (fl (kB S.kn))))], [(qs 4, .inl (cI, 1600, .inl fR))], [(qs 5, .inl (cI, 1600, .inl fN))], [(qs 6, .inl (cJ, 1600, .inr (.inl fL)))], [(qs 7, .inl (cJ, 1600, .inr (.inl fH)))], [(qs 8, .inl (cZ, 1600, .inl (dB uf)))], [(qs 9, .inl (cI, 144, .inl (fl (sI S.T.2.1))))], [(qs 10, .inl (cI, 4000, .inl fM))], [(qs 11, .inl (cJ, 4000, .inr (.inl fC)))], [(qs 12, .inl (cI, 4000, .inl fT))], [(qs 13, .inl (cI, 8, .inl (lI S.G.1)))], [(qs 14, .inl (cI, 8, .inl S.G.2.1))], [(qs 15, .inl (cI, 96, .inl (fl (gN (rT S.G.2.2.1)))))], [(qs 16, .inl (cI, 901, .inl fD))], [(qs 17, .inl (cI, 901, .inl fX))], [(qs 18, .inl (cI, 144, .inl (fl MK)))], [(qs 19, .inl (cI, 144, .inl (fl MF)))]]) H := hP
      have hD : va_D A (List.flatten [[rf_o h qs (nI 0) ma S.T.2.2.1.2.1 ca S.D.2.1.2.1 na S.G.2.2.2.1.2.1 S.D.1.2.1 S.D.2.2.1 S.D.2.2.2.1 S.D.2.2.2.2 S.lost], [(qs 0, .inl (cI, 12, .inl (lI S.eb)))], [(qs 1, .inl (cI, 144, .inl (fl (gN S.lk))))], [(qs 2, .inl (cI, 144, .inl (fl (gN wt))))], [(qs 3, .inl (cZ, 144, .inl (fl (kB S.kn))))], [(qs 4, .inl (cI, 1600, .inl fR))], [(qs 5, .inl (cI, 1600, .inl fN))], [(qs 6, .inl (cJ, 1600, .inr (.inl fL)))], [(qs 7, .inl (cJ, 1600, .inr (.inl fH)))], [(qs 8, .inl (cZ, 1600, .inl (dB uf)))], [(qs 9, .inl (cI, 144, .inl (fl (sI S.T.2.1))))], [(qs 10, .inl (cI, 4000, .inl fM))], [(qs 11, .inl (cJ, 4000, .inr (.inl fC)))], [(qs 12, .inl (cI, 4000, .inl fT))], [(qs 13, .inl (cI, 8, .inl (lI S.G.1)))], [(qs 14, .inl (cI, 8, .inl S.G.2.1))], [(qs 15, .inl (cI, 96, .inl (fl (gN (rT S.G.2.2.1)))))], [(qs 16, .inl (cI, 901, .inl fD))], [(qs 17, .inl (cI, 901, .inl fX))], [(qs 18, .inl (cI, 144, .inl (fl MK)))], [(qs 19, .inl (cI, 144, .inl (fl MF)))]]) := hD
      refine lv_aload_n hx hb d_Ref_step_35 rfl (lv_at hl 0 rfl) ?_
      refine va_get (D := D) (ci := 9) (v := .int (nI 0)) (C := R_Ref) (T := T_Ref) (N := 32) hx hb ht in_Ref hown hK hP 0 rfl rfl 0 (by decide) (ht _ kl_Ref_72) (fun _ h9 => h9) rfl d_Ref_step_36 ?_
      refine ri_if_le hx hb (by omega) d_Ref_step_39 (tgt := 44) (by decide) (fun h109 => ?_) (fun h109 => ?_)
      · refine lv_iconst (v := nI 0) hx hb d_Ref_step_44 (by decide) ?_
        refine lv_istore_n hx hb d_Ref_step_45 rfl hl (by decide) rfl (fun ls hl => ?_)
        have hl : lv_has ls 3 [(2, .int (nI 0)), (0, .ref h), (1, .int (nI n))] := hl
        exact loop n 0 fM ma H locs ls (by omega) (fun i hi9 => absurd hi9 (by omega)) hM (Nat.le_trans (Nat.le_of_lt hn9) (by decide)) hP hD hS hl
      · exact absurd h109 (by decide)
  · exact absurd h8 (by omega)
set_option maxHeartbeats 1600000 in
set_option maxRecDepth 100000 in
theorem n_Ref_step_room (l : Launch) (D : va_G) (cI cZ cJ cG : ClassId) {h : Nat} {cd : Int32} {S : bm_S} {ws : va_W} (hR : rf_R cI cZ cJ h cd S ws) (hi : rf_i S) (x : Int32) (hm2 : 3900 ≤ S.T.2.2.1.2.1) : ct_I l D kls (ty4 cI cZ cJ cG) y_Ref_step ws_Ref_step (rm_ 3 72 0 0) [.ref h, .int x] (ws) (fun z u => rf_R cI cZ cJ h (nI 1) S u) 0 0 := by
  obtain ⟨qs, ma, ca, na, wt, fR, fN, fL, fH, uf, fM, fC, fT, fD, fX, MK, MF, rfl, hwt, hAd, hM, hC, hN, hPd⟩ := hR
  obtain ⟨hsi, heb, h00, hA9, hm9, hcp9, hnt9, hpk9, hgi⟩ := hi
  have hok := hsi.1
  have hkn9 := hsi.2.1
  have hlk9 := hsi.2.2.1
  have hma := hM.1
  refine ct_enterI (cc := b_Ref_step) (maxL := 3) (ret := (some .int)) (by decide +kernel) (Nat.le_of_ble_eq_true rfl) ?_
  intro p e s m args below meth c hx hb hml hr ht hown hlk hnm A Q hA hK hP hD hQ ls hl
  have hown : s.vm.findClass R_Ref = some m.cls := hown
  have hS : va_S A s.heap s.heap [] := va_S.rf
  have hl : lv_has ls 3 [(0, .ref h), (1, .int x)] := hl
  have hrt := hsi.2.2.2.2.1
  refine lv_aload_n hx hb d_Ref_step_0 rfl (lv_at hl 0 rfl) ?_
  refine lv_aload_n hx hb d_Ref_step_1 rfl (lv_at hl 0 rfl) ?_
  refine va_get (D := D) (ci := 9) (v := .int (nI S.T.2.2.1.2.1)) (C := R_Ref) (T := T_Ref) (N := 32) hx hb ht in_Ref hown hK hP 0 rfl rfl 12 (by decide) (ht _ kl_Ref_92) (fun _ h9 => h9) rfl d_Ref_step_2 ?_
  refine lv_sipush (v := nI 3900) hx hb d_Ref_step_5 (by decide) ?_
  refine ri_icmp_lt hx hb (by omega) (by omega) d_Ref_step_8 (tgt := 15) (by decide) (fun h8 => ?_) (fun h8 => ?_)
  · exact absurd h8 (by omega)
  · refine lv_iconst (v := nI 1) hx hb d_Ref_step_11 (by decide) ?_
    refine lv_goto hx hb d_Ref_step_12 (tgt := 32) (by decide) ?_
    refine va_put (D := D) (ci := 9) (v := .int (nI 1)) (ty := .int) (C := R_Ref) (T := T_Ref) (N := 32) hx hb ht in_Ref t_Ref ok_Ref nm_Ref hown hK hP hD hS 0 rfl rfl 0 (by decide) (ht _ kl_Ref_72) (fun _ h9 => h9) rfl (by decide +kernel) rfl rfl (Nat.le_of_ble_eq_true rfl) d_Ref_step_32 (fun H locs hP hD hS => ?_)
    have hP : va_P D kls (List.flatten [[rf_o h qs (nI 1) ma S.T.2.2.1.2.1 ca S.D.2.1.2.1 na S.G.2.2.2.1.2.1 S.D.1.2.1 S.D.2.2.1 S.D.2.2.2.1 S.D.2.2.2.2 S.lost], [(qs 0, .inl (cI, 12, .inl (lI S.eb)))], [(qs 1, .inl (cI, 144, .inl (fl (gN S.lk))))], [(qs 2, .inl (cI, 144, .inl (fl (gN wt))))], [(qs 3, .inl (cZ, 144, .inl (fl (kB S.kn))))], [(qs 4, .inl (cI, 1600, .inl fR))], [(qs 5, .inl (cI, 1600, .inl fN))], [(qs 6, .inl (cJ, 1600, .inr (.inl fL)))], [(qs 7, .inl (cJ, 1600, .inr (.inl fH)))], [(qs 8, .inl (cZ, 1600, .inl (dB uf)))], [(qs 9, .inl (cI, 144, .inl (fl (sI S.T.2.1))))], [(qs 10, .inl (cI, 4000, .inl fM))], [(qs 11, .inl (cJ, 4000, .inr (.inl fC)))], [(qs 12, .inl (cI, 4000, .inl fT))], [(qs 13, .inl (cI, 8, .inl (lI S.G.1)))], [(qs 14, .inl (cI, 8, .inl S.G.2.1))], [(qs 15, .inl (cI, 96, .inl (fl (gN (rT S.G.2.2.1)))))], [(qs 16, .inl (cI, 901, .inl fD))], [(qs 17, .inl (cI, 901, .inl fX))], [(qs 18, .inl (cI, 144, .inl (fl MK)))], [(qs 19, .inl (cI, 144, .inl (fl MF)))]]) H := hP
    have hD : va_D A (List.flatten [[rf_o h qs (nI 1) ma S.T.2.2.1.2.1 ca S.D.2.1.2.1 na S.G.2.2.2.1.2.1 S.D.1.2.1 S.D.2.2.1 S.D.2.2.2.1 S.D.2.2.2.2 S.lost], [(qs 0, .inl (cI, 12, .inl (lI S.eb)))], [(qs 1, .inl (cI, 144, .inl (fl (gN S.lk))))], [(qs 2, .inl (cI, 144, .inl (fl (gN wt))))], [(qs 3, .inl (cZ, 144, .inl (fl (kB S.kn))))], [(qs 4, .inl (cI, 1600, .inl fR))], [(qs 5, .inl (cI, 1600, .inl fN))], [(qs 6, .inl (cJ, 1600, .inr (.inl fL)))], [(qs 7, .inl (cJ, 1600, .inr (.inl fH)))], [(qs 8, .inl (cZ, 1600, .inl (dB uf)))], [(qs 9, .inl (cI, 144, .inl (fl (sI S.T.2.1))))], [(qs 10, .inl (cI, 4000, .inl fM))], [(qs 11, .inl (cJ, 4000, .inr (.inl fC)))], [(qs 12, .inl (cI, 4000, .inl fT))], [(qs 13, .inl (cI, 8, .inl (lI S.G.1)))], [(qs 14, .inl (cI, 8, .inl S.G.2.1))], [(qs 15, .inl (cI, 96, .inl (fl (gN (rT S.G.2.2.1)))))], [(qs 16, .inl (cI, 901, .inl fD))], [(qs 17, .inl (cI, 901, .inl fX))], [(qs 18, .inl (cI, 144, .inl (fl MK)))], [(qs 19, .inl (cI, 144, .inl (fl MF)))]]) := hD
    refine lv_aload_n hx hb d_Ref_step_35 rfl (lv_at hl 0 rfl) ?_
    refine va_get (D := D) (ci := 9) (v := .int (nI 1)) (C := R_Ref) (T := T_Ref) (N := 32) hx hb ht in_Ref hown hK hP 0 rfl rfl 0 (by decide) (ht _ kl_Ref_72) (fun _ h9 => h9) rfl d_Ref_step_36 ?_
    refine ri_if_le hx hb (by omega) d_Ref_step_39 (tgt := 44) (by decide) (fun h102 => ?_) (fun h102 => ?_)
    · exact absurd h102 (by decide)
    · refine lv_iconst (v := nI 0) hx hb d_Ref_step_42 (by decide) ?_
      exact ct_iret hQ hx hb hr hlk hP hD hS hK (by omega) (by omega) d_Ref_step_43 (⟨qs, ma, ca, na, wt, fR, fN, fL, fH, uf, fM, fC, fT, fD, fX, MK, MF, rfl, hwt, hAd, hM, hC, hN, hPd⟩)
set_option maxHeartbeats 1600000 in
set_option maxRecDepth 100000 in
theorem n_Ref_step (l : Launch) (D : va_G) (cI cZ cJ cG : ClassId) {h : Nat} {cd : Int32} {S : bm_S} {ws : va_W} (hR : rf_R cI cZ cJ h cd S ws) (hi : rf_i S) (x : Int32) (hm2 : S.T.2.2.1.2.1 < 3900) (hno : rg 1 1001 x = false) : ct_I l D kls (ty4 cI cZ cJ cG) y_Ref_step ws_Ref_step (rm_ 3 72 0 0) [.ref h, .int x] (ws) (fun z u => rf_R cI cZ cJ h (nI 2) S u) 0 0 := by
  obtain ⟨qs, ma, ca, na, wt, fR, fN, fL, fH, uf, fM, fC, fT, fD, fX, MK, MF, rfl, hwt, hAd, hM, hC, hN, hPd⟩ := hR
  obtain ⟨hsi, heb, h00, hA9, hm9, hcp9, hnt9, hpk9, hgi⟩ := hi
  have hok := hsi.1
  have hkn9 := hsi.2.1
  have hlk9 := hsi.2.2.1
  have hma := hM.1
  refine ct_enterI (cc := b_Ref_step) (maxL := 3) (ret := (some .int)) (by decide +kernel) (Nat.le_of_ble_eq_true rfl) ?_
  intro p e s m args below meth c hx hb hml hr ht hown hlk hnm A Q hA hK hP hD hQ ls hl
  have hown : s.vm.findClass R_Ref = some m.cls := hown
  have hS : va_S A s.heap s.heap [] := va_S.rf
  have hl : lv_has ls 3 [(0, .ref h), (1, .int x)] := hl
  have hrt := hsi.2.2.2.2.1
  refine lv_aload_n hx hb d_Ref_step_0 rfl (lv_at hl 0 rfl) ?_
  refine lv_aload_n hx hb d_Ref_step_1 rfl (lv_at hl 0 rfl) ?_
  refine va_get (D := D) (ci := 9) (v := .int (nI S.T.2.2.1.2.1)) (C := R_Ref) (T := T_Ref) (N := 32) hx hb ht in_Ref hown hK hP 0 rfl rfl 12 (by decide) (ht _ kl_Ref_92) (fun _ h9 => h9) rfl d_Ref_step_2 ?_
  refine lv_sipush (v := nI 3900) hx hb d_Ref_step_5 (by decide) ?_
  refine ri_icmp_lt hx hb (by omega) (by omega) d_Ref_step_8 (tgt := 15) (by decide) (fun h8 => ?_) (fun h8 => ?_)
  · refine lv_iload_n hx hb d_Ref_step_15 rfl (lv_at hl 1 rfl) ?_
    refine lv_i2l (v := x.toInt64) hx hb d_Ref_step_16 rfl ?_
    refine lv_lconst (v := lN 1) hx hb d_Ref_step_17 rfl ?_
    refine lv_ldc2 (v := lN 1000) hx hb hown (ht _ kl_Ref_116) d_Ref_step_18 ?_
    refine ct_rdS (As := [.long x.toInt64, .long (lN 1), .long (lN 1000)]) (rest := [.ref h]) ⟨hx, hb, hml, hown, ht⟩ (k_Ref_in l D cI cZ cJ cG (x).toInt64 (lN 1) (lN 1000)) (cb_S ht kc_Ref_in kl_Ref_78 kn_Ref ki_Ref_in hd_Ref_in ⟨Nat.le_of_ble_eq_true rfl, Nat.le_of_ble_eq_true rfl⟩) (wd_ct (Bs := [[rf_o h qs cd ma S.T.2.2.1.2.1 ca S.D.2.1.2.1 na S.G.2.2.2.1.2.1 S.D.1.2.1 S.D.2.2.1 S.D.2.2.2.1 S.D.2.2.2.2 S.lost], [(qs 0, .inl (cI, 12, .inl (lI S.eb)))], [(qs 1, .inl (cI, 144, .inl (fl (gN S.lk))))], [(qs 2, .inl (cI, 144, .inl (fl (gN wt))))], [(qs 3, .inl (cZ, 144, .inl (fl (kB S.kn))))], [(qs 4, .inl (cI, 1600, .inl fR))], [(qs 5, .inl (cI, 1600, .inl fN))], [(qs 6, .inl (cJ, 1600, .inr (.inl fL)))], [(qs 7, .inl (cJ, 1600, .inr (.inl fH)))], [(qs 8, .inl (cZ, 1600, .inl (dB uf)))], [(qs 9, .inl (cI, 144, .inl (fl (sI S.T.2.1))))], [(qs 10, .inl (cI, 4000, .inl fM))], [(qs 11, .inl (cJ, 4000, .inr (.inl fC)))], [(qs 12, .inl (cI, 4000, .inl fT))], [(qs 13, .inl (cI, 8, .inl (lI S.G.1)))], [(qs 14, .inl (cI, 8, .inl S.G.2.1))], [(qs 15, .inl (cI, 96, .inl (fl (gN (rT S.G.2.2.1)))))], [(qs 16, .inl (cI, 901, .inl fD))], [(qs 17, .inl (cI, 901, .inl fX))], [(qs 18, .inl (cI, 144, .inl (fl MK)))], [(qs 19, .inl (cI, 144, .inl (fl MF)))]]) 21 rfl [] [0, 1, 2, 3, 4, 5, 6, 7, 8, 9, 10, 11, 12, 13, 14, 15, 16, 17, 18, 19, 20] (by decide) rfl) hK hP hD hS hA rfl hl.1 rfl (Nat.le_of_ble_eq_true rfl) ⟨(show 0 + 0 ≤ 0 by omega), (show 0 + 0 ≤ 0 by omega)⟩ d_Ref_step_21 (fun rhr102 H locs hr102 hP hD hS => ?_)
    subst hr102
    refine W.eq (g2 := F0 m 24 ls [.int (bI (rg 1 1001 (x))), .ref h]) (congrArg (fun z => F0 m 24 ls (.int z :: [.ref h])) (congrArg bI (in_rg (a := 1) (b := 1000) (by decide) (by decide) (x)))) ?_
    refine W.eq (g2 := F0 m 24 ls [.int (bI false), .ref h]) (congrArg (fun z => F0 m 24 ls (.int z :: [.ref h])) (congrArg bI hno)) ?_
    refine ri_ifeqB hx hb d_Ref_step_24 (tgt := 31) (by decide) (fun h103 => ?_) (fun h103 => ?_)
    · refine lv_iconst (v := nI 2) hx hb d_Ref_step_31 (by decide) ?_
      refine va_put (D := D) (ci := 9) (v := .int (nI 2)) (ty := .int) (C := R_Ref) (T := T_Ref) (N := 32) hx hb ht in_Ref t_Ref ok_Ref nm_Ref hown hK hP hD hS 0 rfl rfl 0 (by decide) (ht _ kl_Ref_72) (fun _ h9 => h9) rfl (by decide +kernel) rfl rfl (Nat.le_of_ble_eq_true rfl) d_Ref_step_32 (fun H locs hP hD hS => ?_)
      have hP : va_P D kls (List.flatten [[rf_o h qs (nI 2) ma S.T.2.2.1.2.1 ca S.D.2.1.2.1 na S.G.2.2.2.1.2.1 S.D.1.2.1 S.D.2.2.1 S.D.2.2.2.1 S.D.2.2.2.2 S.lost], [(qs 0, .inl (cI, 12, .inl (lI S.eb)))], [(qs 1, .inl (cI, 144, .inl (fl (gN S.lk))))], [(qs 2, .inl (cI, 144, .inl (fl (gN wt))))], [(qs 3, .inl (cZ, 144, .inl (fl (kB S.kn))))], [(qs 4, .inl (cI, 1600, .inl fR))], [(qs 5, .inl (cI, 1600, .inl fN))], [(qs 6, .inl (cJ, 1600, .inr (.inl fL)))], [(qs 7, .inl (cJ, 1600, .inr (.inl fH)))], [(qs 8, .inl (cZ, 1600, .inl (dB uf)))], [(qs 9, .inl (cI, 144, .inl (fl (sI S.T.2.1))))], [(qs 10, .inl (cI, 4000, .inl fM))], [(qs 11, .inl (cJ, 4000, .inr (.inl fC)))], [(qs 12, .inl (cI, 4000, .inl fT))], [(qs 13, .inl (cI, 8, .inl (lI S.G.1)))], [(qs 14, .inl (cI, 8, .inl S.G.2.1))], [(qs 15, .inl (cI, 96, .inl (fl (gN (rT S.G.2.2.1)))))], [(qs 16, .inl (cI, 901, .inl fD))], [(qs 17, .inl (cI, 901, .inl fX))], [(qs 18, .inl (cI, 144, .inl (fl MK)))], [(qs 19, .inl (cI, 144, .inl (fl MF)))]]) H := hP
      have hD : va_D A (List.flatten [[rf_o h qs (nI 2) ma S.T.2.2.1.2.1 ca S.D.2.1.2.1 na S.G.2.2.2.1.2.1 S.D.1.2.1 S.D.2.2.1 S.D.2.2.2.1 S.D.2.2.2.2 S.lost], [(qs 0, .inl (cI, 12, .inl (lI S.eb)))], [(qs 1, .inl (cI, 144, .inl (fl (gN S.lk))))], [(qs 2, .inl (cI, 144, .inl (fl (gN wt))))], [(qs 3, .inl (cZ, 144, .inl (fl (kB S.kn))))], [(qs 4, .inl (cI, 1600, .inl fR))], [(qs 5, .inl (cI, 1600, .inl fN))], [(qs 6, .inl (cJ, 1600, .inr (.inl fL)))], [(qs 7, .inl (cJ, 1600, .inr (.inl fH)))], [(qs 8, .inl (cZ, 1600, .inl (dB uf)))], [(qs 9, .inl (cI, 144, .inl (fl (sI S.T.2.1))))], [(qs 10, .inl (cI, 4000, .inl fM))], [(qs 11, .inl (cJ, 4000, .inr (.inl fC)))], [(qs 12, .inl (cI, 4000, .inl fT))], [(qs 13, .inl (cI, 8, .inl (lI S.G.1)))], [(qs 14, .inl (cI, 8, .inl S.G.2.1))], [(qs 15, .inl (cI, 96, .inl (fl (gN (rT S.G.2.2.1)))))], [(qs 16, .inl (cI, 901, .inl fD))], [(qs 17, .inl (cI, 901, .inl fX))], [(qs 18, .inl (cI, 144, .inl (fl MK)))], [(qs 19, .inl (cI, 144, .inl (fl MF)))]]) := hD
      refine lv_aload_n hx hb d_Ref_step_35 rfl (lv_at hl 0 rfl) ?_
      refine va_get (D := D) (ci := 9) (v := .int (nI 2)) (C := R_Ref) (T := T_Ref) (N := 32) hx hb ht in_Ref hown hK hP 0 rfl rfl 0 (by decide) (ht _ kl_Ref_72) (fun _ h9 => h9) rfl d_Ref_step_36 ?_
      refine ri_if_le hx hb (by omega) d_Ref_step_39 (tgt := 44) (by decide) (fun h104 => ?_) (fun h104 => ?_)
      · exact absurd h104 (by decide)
      · refine lv_iconst (v := nI 0) hx hb d_Ref_step_42 (by decide) ?_
        exact ct_iret hQ hx hb hr hlk hP hD hS hK (by omega) (by omega) d_Ref_step_43 (⟨qs, ma, ca, na, wt, fR, fN, fL, fH, uf, fM, fC, fT, fD, fX, MK, MF, rfl, hwt, hAd, hM, hC, hN, hPd⟩)
    · exact absurd h103 (fun z => by cases z)
  · exact absurd h8 (by omega)
set_option maxHeartbeats 1600000 in
set_option maxRecDepth 100000 in
theorem k_Ref_settled (l : Launch) (D : va_G) (cI cZ cJ cG : ClassId) {h : Nat} {cd : Int32} {S : bm_S} {ws : va_W} (hR : rf_R cI cZ cJ h cd S ws) (hi : rf_i S)  : ct_I l D kls (ty4 cI cZ cJ cG) y_Ref_settled ws_Ref_settled (rm_ 1 22 0 0) [.ref h] (ws) (fun z u => z = bI (bP (sq S 12 0 0)) ∧ rf_R cI cZ cJ h (nI 0) S u) 0 0 := by
  obtain ⟨qs, ma, ca, na, wt, fR, fN, fL, fH, uf, fM, fC, fT, fD, fX, MK, MF, rfl, hwt, hAd, hM, hC, hN, hPd⟩ := hR
  obtain ⟨hsi, heb, h00, hA9, hm9, hcp9, hnt9, hpk9, hgi⟩ := hi
  have hok := hsi.1
  have hkn9 := hsi.2.1
  have hlk9 := hsi.2.2.1
  have hma := hM.1
  refine ct_enterI (cc := b_Ref_settled) (maxL := 5) (ret := (some .boolean)) (by decide +kernel) (Nat.le_of_ble_eq_true rfl) ?_
  intro p e s m args below meth c hx hb hml hr ht hown hlk hnm A Q hA hK hP hD hQ ls hl
  have hown : s.vm.findClass R_Ref = some m.cls := hown
  have hS : va_S A s.heap s.heap [] := va_S.rf
  have hl : lv_has ls 5 [(0, .ref h)] := hl
  have hrt := hsi.2.2.2.2.1
  have lk9 : ∀ (a : Nat), ∀ (ha9 : a < 12), ∀ (b : Nat), ∀ (hb9 : b < 12), ∀ (K : ∀ (H : Heap) (locs : List Loc) (ls : Array Slot), va_P D kls (List.flatten [[rf_o h qs (nI 0) ma S.T.2.2.1.2.1 ca S.D.2.1.2.1 na S.G.2.2.2.1.2.1 S.D.1.2.1 S.D.2.2.1 S.D.2.2.2.1 S.D.2.2.2.2 S.lost], [(qs 0, .inl (cI, 12, .inl (lI S.eb)))], [(qs 1, .inl (cI, 144, .inl (fl (gN S.lk))))], [(qs 2, .inl (cI, 144, .inl (fl (gN wt))))], [(qs 3, .inl (cZ, 144, .inl (fl (kB S.kn))))], [(qs 4, .inl (cI, 1600, .inl fR))], [(qs 5, .inl (cI, 1600, .inl fN))], [(qs 6, .inl (cJ, 1600, .inr (.inl fL)))], [(qs 7, .inl (cJ, 1600, .inr (.inl fH)))], [(qs 8, .inl (cZ, 1600, .inl (dB uf)))], [(qs 9, .inl (cI, 144, .inl (fl (sI S.T.2.1))))], [(qs 10, .inl (cI, 4000, .inl fM))], [(qs 11, .inl (cJ, 4000, .inr (.inl fC)))], [(qs 12, .inl (cI, 4000, .inl fT))], [(qs 13, .inl (cI, 8, .inl (lI S.G.1)))], [(qs 14, .inl (cI, 8, .inl S.G.2.1))], [(qs 15, .inl (cI, 96, .inl (fl (gN (rT S.G.2.2.1)))))], [(qs 16, .inl (cI, 901, .inl fD))], [(qs 17, .inl (cI, 901, .inl fX))], [(qs 18, .inl (cI, 144, .inl (fl MK)))], [(qs 19, .inl (cI, 144, .inl (fl MF)))]]) H → va_D A (List.flatten [[rf_o h qs (nI 0) ma S.T.2.2.1.2.1 ca S.D.2.1.2.1 na S.G.2.2.2.1.2.1 S.D.1.2.1 S.D.2.2.1 S.D.2.2.2.1 S.D.2.2.2.2 S.lost], [(qs 0, .inl (cI, 12, .inl (lI S.eb)))], [(qs 1, .inl (cI, 144, .inl (fl (gN S.lk))))], [(qs 2, .inl (cI, 144, .inl (fl (gN wt))))], [(qs 3, .inl (cZ, 144, .inl (fl (kB S.kn))))], [(qs 4, .inl (cI, 1600, .inl fR))], [(qs 5, .inl (cI, 1600, .inl fN))], [(qs 6, .inl (cJ, 1600, .inr (.inl fL)))], [(qs 7, .inl (cJ, 1600, .inr (.inl fH)))], [(qs 8, .inl (cZ, 1600, .inl (dB uf)))], [(qs 9, .inl (cI, 144, .inl (fl (sI S.T.2.1))))], [(qs 10, .inl (cI, 4000, .inl fM))], [(qs 11, .inl (cJ, 4000, .inr (.inl fC)))], [(qs 12, .inl (cI, 4000, .inl fT))], [(qs 13, .inl (cI, 8, .inl (lI S.G.1)))], [(qs 14, .inl (cI, 8, .inl S.G.2.1))], [(qs 15, .inl (cI, 96, .inl (fl (gN (rT S.G.2.2.1)))))], [(qs 16, .inl (cI, 901, .inl fD))], [(qs 17, .inl (cI, 901, .inl fX))], [(qs 18, .inl (cI, 144, .inl (fl MK)))], [(qs 19, .inl (cI, 144, .inl (fl MF)))]]) → va_S A s.heap H locs → lv_has ls 5 [(3, .int (nI b)), (2, .int (nI a)), (1, .int (bI (bP (sq S a (b + 1) 0)))), (0, .ref h)] → W p l e (rm_ 1 22 0 0) s m args below meth c H locs 0 0 Q (F0 m 92 ls [])), ∀ (k k9 : Nat)  (H : Heap) (locs : List Loc) (ls : Array Slot), k9 + k = 12 → va_P D kls (List.flatten [[rf_o h qs (nI 0) ma S.T.2.2.1.2.1 ca S.D.2.1.2.1 na S.G.2.2.2.1.2.1 S.D.1.2.1 S.D.2.2.1 S.D.2.2.2.1 S.D.2.2.2.2 S.lost], [(qs 0, .inl (cI, 12, .inl (lI S.eb)))], [(qs 1, .inl (cI, 144, .inl (fl (gN S.lk))))], [(qs 2, .inl (cI, 144, .inl (fl (gN wt))))], [(qs 3, .inl (cZ, 144, .inl (fl (kB S.kn))))], [(qs 4, .inl (cI, 1600, .inl fR))], [(qs 5, .inl (cI, 1600, .inl fN))], [(qs 6, .inl (cJ, 1600, .inr (.inl fL)))], [(qs 7, .inl (cJ, 1600, .inr (.inl fH)))], [(qs 8, .inl (cZ, 1600, .inl (dB uf)))], [(qs 9, .inl (cI, 144, .inl (fl (sI S.T.2.1))))], [(qs 10, .inl (cI, 4000, .inl fM))], [(qs 11, .inl (cJ, 4000, .inr (.inl fC)))], [(qs 12, .inl (cI, 4000, .inl fT))], [(qs 13, .inl (cI, 8, .inl (lI S.G.1)))], [(qs 14, .inl (cI, 8, .inl S.G.2.1))], [(qs 15, .inl (cI, 96, .inl (fl (gN (rT S.G.2.2.1)))))], [(qs 16, .inl (cI, 901, .inl fD))], [(qs 17, .inl (cI, 901, .inl fX))], [(qs 18, .inl (cI, 144, .inl (fl MK)))], [(qs 19, .inl (cI, 144, .inl (fl MF)))]]) H → va_D A (List.flatten [[rf_o h qs (nI 0) ma S.T.2.2.1.2.1 ca S.D.2.1.2.1 na S.G.2.2.2.1.2.1 S.D.1.2.1 S.D.2.2.1 S.D.2.2.2.1 S.D.2.2.2.2 S.lost], [(qs 0, .inl (cI, 12, .inl (lI S.eb)))], [(qs 1, .inl (cI, 144, .inl (fl (gN S.lk))))], [(qs 2, .inl (cI, 144, .inl (fl (gN wt))))], [(qs 3, .inl (cZ, 144, .inl (fl (kB S.kn))))], [(qs 4, .inl (cI, 1600, .inl fR))], [(qs 5, .inl (cI, 1600, .inl fN))], [(qs 6, .inl (cJ, 1600, .inr (.inl fL)))], [(qs 7, .inl (cJ, 1600, .inr (.inl fH)))], [(qs 8, .inl (cZ, 1600, .inl (dB uf)))], [(qs 9, .inl (cI, 144, .inl (fl (sI S.T.2.1))))], [(qs 10, .inl (cI, 4000, .inl fM))], [(qs 11, .inl (cJ, 4000, .inr (.inl fC)))], [(qs 12, .inl (cI, 4000, .inl fT))], [(qs 13, .inl (cI, 8, .inl (lI S.G.1)))], [(qs 14, .inl (cI, 8, .inl S.G.2.1))], [(qs 15, .inl (cI, 96, .inl (fl (gN (rT S.G.2.2.1)))))], [(qs 16, .inl (cI, 901, .inl fD))], [(qs 17, .inl (cI, 901, .inl fX))], [(qs 18, .inl (cI, 144, .inl (fl MK)))], [(qs 19, .inl (cI, 144, .inl (fl MF)))]]) → va_S A s.heap H locs → lv_has ls 5 [(4, .int (nI k9)), (3, .int (nI b)), (2, .int (nI a)), (1, .int (bI (bP (sq S a b k9)))), (0, .ref h)] → W p l e (rm_ 1 22 0 0) s m args below meth c H locs 0 0 Q (F0 m 37 ls []) := by
    intro a ha9 b hb9 K
    intro k
    induction k with
    | zero =>
      intro k9 H locs ls hk hP hD hS hl
      refine lv_iload hx hb d_Ref_settled_37 (lv_at hl 0 rfl) ?_
      refine lv_bipush (v := nI 12) hx hb d_Ref_settled_39 (by decide) ?_
      refine ri_icmp_ge hx hb (by omega) (by omega) d_Ref_settled_41 (tgt := 92) (by decide) (fun hc9 => ?_) (fun hc9 => ?_)
      · rw [bP_congr (sq_row (by first | exact Or.inl (by omega) | exact Or.inr h56))] at hl
        exact K H locs ls hP hD hS (lv_sub hl [1, 2, 3, 4] rfl)
      · exact absurd hc9 (by omega)
    | succ k ih =>
      intro k9 H locs ls hk hP hD hS hl
      refine lv_iload hx hb d_Ref_settled_37 (lv_at hl 0 rfl) ?_
      refine lv_bipush (v := nI 12) hx hb d_Ref_settled_39 (by decide) ?_
      refine ri_icmp_ge hx hb (by omega) (by omega) d_Ref_settled_41 (tgt := 92) (by decide) (fun hc9 => ?_) (fun hc9 => ?_)
      · rw [bP_congr (sq_row (by first | exact Or.inl (by omega) | exact Or.inr h56))] at hl
        exact K H locs ls hP hD hS (lv_sub hl [1, 2, 3, 4] rfl)
      · have hlab := hlk9 a b
        refine lv_aload_n hx hb d_Ref_settled_44 rfl (lv_at hl 4 rfl) ?_
        refine va_get (D := D) (ci := 9) (v := .ref (qs 1)) (C := R_Ref) (T := T_Ref) (N := 32) hx hb ht in_Ref hown hK hP 0 rfl rfl 2 (by decide) (ht _ kl_Ref_13) (fun _ h9 => h9) rfl d_Ref_settled_45 ?_
        refine lv_bipush (v := nI 12) hx hb d_Ref_settled_48 (by decide) ?_
        refine lv_iload_n hx hb d_Ref_settled_50 rfl (lv_at hl 2 rfl) ?_
        refine ri_imul hx hb d_Ref_settled_51 ?_
        refine lv_iload_n hx hb d_Ref_settled_52 rfl (lv_at hl 1 rfl) ?_
        refine ri_iadd hx hb d_Ref_settled_53 ?_
        refine ri_iald hx hb hK hP 2 0 rfl rfl (j := (12 * a) + b) (by omega) (by omega) d_Ref_settled_54 ?_
        refine W.eq (g2 := F0 m 55 ls [.int (nI (S.lk a b))]) (congrArg (fun z => F0 m 55 ls (.int z :: [])) (fl_at (a := a) (b := b) (by omega))) ?_
        refine lv_iconst (v := nI 1) hx hb d_Ref_settled_55 (by decide) ?_
        refine ri_icmp_ne hx hb (by omega) (by omega) d_Ref_settled_56 (tgt := 92) (by decide) (fun h56 => ?_) (fun h56 => ?_)
        · rw [bP_congr (sq_row (by first | exact Or.inl (by omega) | exact Or.inr h56))] at hl
          exact K H locs ls hP hD hS (lv_sub hl [1, 2, 3, 4] rfl)
        · refine lv_iload_n hx hb d_Ref_settled_59 rfl (lv_at hl 3 rfl) ?_
          refine ri_ifeqB hx hb d_Ref_settled_60 (tgt := 84) (by decide) (fun h60 => ?_) (fun h60 => ?_)
          · refine lv_iconst (v := nI 0) hx hb d_Ref_settled_84 (by decide) ?_
            refine W.eq (g2 := F0 m 85 ls [.int (bI (bP (sq S a b (k9 + 1))))]) (congrArg (fun z => F0 m 85 ls (.int z :: [])) (congrArg bI (bP_f (by first | exact sq_not (bP_no h60) | exact sq_ne (by omega) (by omega) (by omega) h56 h77)).symm)) ?_
            refine lv_istore_n hx hb d_Ref_settled_85 rfl hl (by decide) rfl (fun ls hl => ?_)
            have hl : lv_has ls 5 [(1, .int (bI (bP (sq S a b (k9 + 1))))), (4, .int (nI k9)), (3, .int (nI b)), (2, .int (nI a)), (0, .ref h)] := hl
            refine ri_iinc hx hb d_Ref_settled_86 hl (k := 1) rfl (by decide) rfl (fun ls hl => ?_)
            have hl : lv_has ls 5 [(4, .int (nI (k9 + 1))), (1, .int (bI (bP (sq S a b (k9 + 1))))), (3, .int (nI b)), (2, .int (nI a)), (0, .ref h)] := hl
            refine lv_goto hx hb d_Ref_settled_89 (tgt := 37) (by decide) ?_
            exact ih (k9 + 1) H locs ls (by omega) hP hD hS (lv_sub hl [0, 2, 3, 1, 4] rfl)
          · have hnA := (hok.2.1 _ (hok.1 a k9 (by omega) (by omega))).2.1
            have hnB := (hok.2.1 _ (hok.1 b k9 (by omega) (by omega))).2.1
            have hnC := hok.1 a k9 (by omega) (by omega)
            have hnD := hok.1 b k9 (by omega) (by omega)
            refine lv_aload_n hx hb d_Ref_settled_63 rfl (lv_at hl 4 rfl) ?_
            refine lv_iload_n hx hb d_Ref_settled_64 rfl (lv_at hl 2 rfl) ?_
            refine lv_iload hx hb d_Ref_settled_65 (lv_at hl 0 rfl) ?_
            refine ct_rdV (C := R_Ref) (ci := 9) (As := [.int (nI a), .int (nI k9)]) (rest := []) ⟨hx, hb, hml, hown, ht⟩ (k_Ref_numberOf l D cI cZ cJ cG (fun k hk => (hAd.1 k hk).2.1) (h00 1) (Nat.le_trans hA9 (by decide)) a k9 (by omega) (by omega) (hok.1 _ _ (by omega) (by omega))) (cb_V ht kc_Ref_numberOf kl_Ref_105 kn_Ref ki_Ref_numberOf ks_Ref_numberOf hd_Ref_numberOf ⟨Nat.le_of_ble_eq_true rfl, Nat.le_of_ble_eq_true rfl⟩) (List.mem_of_getElem? (i := 0) rfl) rfl rfl (wd_ct (Bs := [[rf_o h qs (nI 0) ma S.T.2.2.1.2.1 ca S.D.2.1.2.1 na S.G.2.2.2.1.2.1 S.D.1.2.1 S.D.2.2.1 S.D.2.2.2.1 S.D.2.2.2.2 S.lost], [(qs 0, .inl (cI, 12, .inl (lI S.eb)))], [(qs 1, .inl (cI, 144, .inl (fl (gN S.lk))))], [(qs 2, .inl (cI, 144, .inl (fl (gN wt))))], [(qs 3, .inl (cZ, 144, .inl (fl (kB S.kn))))], [(qs 4, .inl (cI, 1600, .inl fR))], [(qs 5, .inl (cI, 1600, .inl fN))], [(qs 6, .inl (cJ, 1600, .inr (.inl fL)))], [(qs 7, .inl (cJ, 1600, .inr (.inl fH)))], [(qs 8, .inl (cZ, 1600, .inl (dB uf)))], [(qs 9, .inl (cI, 144, .inl (fl (sI S.T.2.1))))], [(qs 10, .inl (cI, 4000, .inl fM))], [(qs 11, .inl (cJ, 4000, .inr (.inl fC)))], [(qs 12, .inl (cI, 4000, .inl fT))], [(qs 13, .inl (cI, 8, .inl (lI S.G.1)))], [(qs 14, .inl (cI, 8, .inl S.G.2.1))], [(qs 15, .inl (cI, 96, .inl (fl (gN (rT S.G.2.2.1)))))], [(qs 16, .inl (cI, 901, .inl fD))], [(qs 17, .inl (cI, 901, .inl fX))], [(qs 18, .inl (cI, 144, .inl (fl MK)))], [(qs 19, .inl (cI, 144, .inl (fl MF)))]]) 21 rfl [0, 6, 10] [1, 2, 3, 4, 5, 7, 8, 9, 11, 12, 13, 14, 15, 16, 17, 18, 19, 20] (by decide) rfl) hK hP hD hS hA rfl hl.1 rfl (Nat.le_of_ble_eq_true rfl) ⟨(show 0 + 0 ≤ 0 by omega), (show 0 + 0 ≤ 0 by omega)⟩ d_Ref_settled_67 (fun rhr105 H locs hr105 hP hD hS => ?_)
            subst hr105
            refine lv_aload_n hx hb d_Ref_settled_70 rfl (lv_at hl 4 rfl) ?_
            refine lv_iload_n hx hb d_Ref_settled_71 rfl (lv_at hl 1 rfl) ?_
            refine lv_iload hx hb d_Ref_settled_72 (lv_at hl 0 rfl) ?_
            refine ct_rdV (C := R_Ref) (ci := 9) (As := [.int (nI b), .int (nI k9)]) (rest := [.int (nI (S.T.1.2.2 (S.T.2.1 a k9) 1))]) ⟨hx, hb, hml, hown, ht⟩ (k_Ref_numberOf l D cI cZ cJ cG (fun k hk => (hAd.1 k hk).2.1) (h00 1) (Nat.le_trans hA9 (by decide)) b k9 (by omega) (by omega) (hok.1 _ _ (by omega) (by omega))) (cb_V ht kc_Ref_numberOf kl_Ref_105 kn_Ref ki_Ref_numberOf ks_Ref_numberOf hd_Ref_numberOf ⟨Nat.le_of_ble_eq_true rfl, Nat.le_of_ble_eq_true rfl⟩) (List.mem_of_getElem? (i := 0) rfl) rfl rfl (wd_ct (Bs := [[rf_o h qs (nI 0) ma S.T.2.2.1.2.1 ca S.D.2.1.2.1 na S.G.2.2.2.1.2.1 S.D.1.2.1 S.D.2.2.1 S.D.2.2.2.1 S.D.2.2.2.2 S.lost], [(qs 0, .inl (cI, 12, .inl (lI S.eb)))], [(qs 1, .inl (cI, 144, .inl (fl (gN S.lk))))], [(qs 2, .inl (cI, 144, .inl (fl (gN wt))))], [(qs 3, .inl (cZ, 144, .inl (fl (kB S.kn))))], [(qs 4, .inl (cI, 1600, .inl fR))], [(qs 5, .inl (cI, 1600, .inl fN))], [(qs 6, .inl (cJ, 1600, .inr (.inl fL)))], [(qs 7, .inl (cJ, 1600, .inr (.inl fH)))], [(qs 8, .inl (cZ, 1600, .inl (dB uf)))], [(qs 9, .inl (cI, 144, .inl (fl (sI S.T.2.1))))], [(qs 10, .inl (cI, 4000, .inl fM))], [(qs 11, .inl (cJ, 4000, .inr (.inl fC)))], [(qs 12, .inl (cI, 4000, .inl fT))], [(qs 13, .inl (cI, 8, .inl (lI S.G.1)))], [(qs 14, .inl (cI, 8, .inl S.G.2.1))], [(qs 15, .inl (cI, 96, .inl (fl (gN (rT S.G.2.2.1)))))], [(qs 16, .inl (cI, 901, .inl fD))], [(qs 17, .inl (cI, 901, .inl fX))], [(qs 18, .inl (cI, 144, .inl (fl MK)))], [(qs 19, .inl (cI, 144, .inl (fl MF)))]]) 21 rfl [0, 6, 10] [1, 2, 3, 4, 5, 7, 8, 9, 11, 12, 13, 14, 15, 16, 17, 18, 19, 20] (by decide) rfl) hK hP hD hS hA rfl hl.1 rfl (Nat.le_of_ble_eq_true rfl) ⟨(show 0 + 0 ≤ 0 by omega), (show 0 + 0 ≤ 0 by omega)⟩ d_Ref_settled_74 (fun rhr106 H locs hr106 hP hD hS => ?_)
            subst hr106
            refine ri_icmp_ne hx hb (by omega) (by omega) d_Ref_settled_77 (tgt := 84) (by decide) (fun h77 => ?_) (fun h77 => ?_)
            · refine lv_iconst (v := nI 0) hx hb d_Ref_settled_84 (by decide) ?_
              refine W.eq (g2 := F0 m 85 ls [.int (bI (bP (sq S a b (k9 + 1))))]) (congrArg (fun z => F0 m 85 ls (.int z :: [])) (congrArg bI (bP_f (by first | exact sq_not (bP_no h60) | exact sq_ne (by omega) (by omega) (by omega) h56 h77)).symm)) ?_
              refine lv_istore_n hx hb d_Ref_settled_85 rfl hl (by decide) rfl (fun ls hl => ?_)
              have hl : lv_has ls 5 [(1, .int (bI (bP (sq S a b (k9 + 1))))), (4, .int (nI k9)), (3, .int (nI b)), (2, .int (nI a)), (0, .ref h)] := hl
              refine ri_iinc hx hb d_Ref_settled_86 hl (k := 1) rfl (by decide) rfl (fun ls hl => ?_)
              have hl : lv_has ls 5 [(4, .int (nI (k9 + 1))), (1, .int (bI (bP (sq S a b (k9 + 1))))), (3, .int (nI b)), (2, .int (nI a)), (0, .ref h)] := hl
              refine lv_goto hx hb d_Ref_settled_89 (tgt := 37) (by decide) ?_
              exact ih (k9 + 1) H locs ls (by omega) hP hD hS (lv_sub hl [0, 2, 3, 1, 4] rfl)
            · refine lv_iconst (v := nI 1) hx hb d_Ref_settled_80 (by decide) ?_
              refine lv_goto hx hb d_Ref_settled_81 (tgt := 85) (by decide) ?_
              refine W.eq (g2 := F0 m 85 ls [.int (bI (bP (sq S a b (k9 + 1))))]) (congrArg (fun z => F0 m 85 ls (.int z :: [])) (congrArg bI (bP_t (sq_step (bP_of h60) h77)).symm)) ?_
              refine lv_istore_n hx hb d_Ref_settled_85 rfl hl (by decide) rfl (fun ls hl => ?_)
              have hl : lv_has ls 5 [(1, .int (bI (bP (sq S a b (k9 + 1))))), (4, .int (nI k9)), (3, .int (nI b)), (2, .int (nI a)), (0, .ref h)] := hl
              refine ri_iinc hx hb d_Ref_settled_86 hl (k := 1) rfl (by decide) rfl (fun ls hl => ?_)
              have hl : lv_has ls 5 [(4, .int (nI (k9 + 1))), (1, .int (bI (bP (sq S a b (k9 + 1))))), (3, .int (nI b)), (2, .int (nI a)), (0, .ref h)] := hl
              refine lv_goto hx hb d_Ref_settled_89 (tgt := 37) (by decide) ?_
              exact ih (k9 + 1) H locs ls (by omega) hP hD hS (lv_sub hl [0, 2, 3, 1, 4] rfl)
  have lb9 : ∀ (a : Nat), ∀ (ha9 : a < 12), ∀ (K : ∀ (H : Heap) (locs : List Loc) (ls : Array Slot), va_P D kls (List.flatten [[rf_o h qs (nI 0) ma S.T.2.2.1.2.1 ca S.D.2.1.2.1 na S.G.2.2.2.1.2.1 S.D.1.2.1 S.D.2.2.1 S.D.2.2.2.1 S.D.2.2.2.2 S.lost], [(qs 0, .inl (cI, 12, .inl (lI S.eb)))], [(qs 1, .inl (cI, 144, .inl (fl (gN S.lk))))], [(qs 2, .inl (cI, 144, .inl (fl (gN wt))))], [(qs 3, .inl (cZ, 144, .inl (fl (kB S.kn))))], [(qs 4, .inl (cI, 1600, .inl fR))], [(qs 5, .inl (cI, 1600, .inl fN))], [(qs 6, .inl (cJ, 1600, .inr (.inl fL)))], [(qs 7, .inl (cJ, 1600, .inr (.inl fH)))], [(qs 8, .inl (cZ, 1600, .inl (dB uf)))], [(qs 9, .inl (cI, 144, .inl (fl (sI S.T.2.1))))], [(qs 10, .inl (cI, 4000, .inl fM))], [(qs 11, .inl (cJ, 4000, .inr (.inl fC)))], [(qs 12, .inl (cI, 4000, .inl fT))], [(qs 13, .inl (cI, 8, .inl (lI S.G.1)))], [(qs 14, .inl (cI, 8, .inl S.G.2.1))], [(qs 15, .inl (cI, 96, .inl (fl (gN (rT S.G.2.2.1)))))], [(qs 16, .inl (cI, 901, .inl fD))], [(qs 17, .inl (cI, 901, .inl fX))], [(qs 18, .inl (cI, 144, .inl (fl MK)))], [(qs 19, .inl (cI, 144, .inl (fl MF)))]]) H → va_D A (List.flatten [[rf_o h qs (nI 0) ma S.T.2.2.1.2.1 ca S.D.2.1.2.1 na S.G.2.2.2.1.2.1 S.D.1.2.1 S.D.2.2.1 S.D.2.2.2.1 S.D.2.2.2.2 S.lost], [(qs 0, .inl (cI, 12, .inl (lI S.eb)))], [(qs 1, .inl (cI, 144, .inl (fl (gN S.lk))))], [(qs 2, .inl (cI, 144, .inl (fl (gN wt))))], [(qs 3, .inl (cZ, 144, .inl (fl (kB S.kn))))], [(qs 4, .inl (cI, 1600, .inl fR))], [(qs 5, .inl (cI, 1600, .inl fN))], [(qs 6, .inl (cJ, 1600, .inr (.inl fL)))], [(qs 7, .inl (cJ, 1600, .inr (.inl fH)))], [(qs 8, .inl (cZ, 1600, .inl (dB uf)))], [(qs 9, .inl (cI, 144, .inl (fl (sI S.T.2.1))))], [(qs 10, .inl (cI, 4000, .inl fM))], [(qs 11, .inl (cJ, 4000, .inr (.inl fC)))], [(qs 12, .inl (cI, 4000, .inl fT))], [(qs 13, .inl (cI, 8, .inl (lI S.G.1)))], [(qs 14, .inl (cI, 8, .inl S.G.2.1))], [(qs 15, .inl (cI, 96, .inl (fl (gN (rT S.G.2.2.1)))))], [(qs 16, .inl (cI, 901, .inl fD))], [(qs 17, .inl (cI, 901, .inl fX))], [(qs 18, .inl (cI, 144, .inl (fl MK)))], [(qs 19, .inl (cI, 144, .inl (fl MF)))]]) → va_S A s.heap H locs → lv_has ls 5 [(2, .int (nI a)), (1, .int (bI (bP (sq S (a + 1) 0 0)))), (0, .ref h)] → W p l e (rm_ 1 22 0 0) s m args below meth c H locs 0 0 Q (F0 m 98 ls [])), ∀ (k b : Nat)  (H : Heap) (locs : List Loc) (ls : Array Slot), b + k = 12 → va_P D kls (List.flatten [[rf_o h qs (nI 0) ma S.T.2.2.1.2.1 ca S.D.2.1.2.1 na S.G.2.2.2.1.2.1 S.D.1.2.1 S.D.2.2.1 S.D.2.2.2.1 S.D.2.2.2.2 S.lost], [(qs 0, .inl (cI, 12, .inl (lI S.eb)))], [(qs 1, .inl (cI, 144, .inl (fl (gN S.lk))))], [(qs 2, .inl (cI, 144, .inl (fl (gN wt))))], [(qs 3, .inl (cZ, 144, .inl (fl (kB S.kn))))], [(qs 4, .inl (cI, 1600, .inl fR))], [(qs 5, .inl (cI, 1600, .inl fN))], [(qs 6, .inl (cJ, 1600, .inr (.inl fL)))], [(qs 7, .inl (cJ, 1600, .inr (.inl fH)))], [(qs 8, .inl (cZ, 1600, .inl (dB uf)))], [(qs 9, .inl (cI, 144, .inl (fl (sI S.T.2.1))))], [(qs 10, .inl (cI, 4000, .inl fM))], [(qs 11, .inl (cJ, 4000, .inr (.inl fC)))], [(qs 12, .inl (cI, 4000, .inl fT))], [(qs 13, .inl (cI, 8, .inl (lI S.G.1)))], [(qs 14, .inl (cI, 8, .inl S.G.2.1))], [(qs 15, .inl (cI, 96, .inl (fl (gN (rT S.G.2.2.1)))))], [(qs 16, .inl (cI, 901, .inl fD))], [(qs 17, .inl (cI, 901, .inl fX))], [(qs 18, .inl (cI, 144, .inl (fl MK)))], [(qs 19, .inl (cI, 144, .inl (fl MF)))]]) H → va_D A (List.flatten [[rf_o h qs (nI 0) ma S.T.2.2.1.2.1 ca S.D.2.1.2.1 na S.G.2.2.2.1.2.1 S.D.1.2.1 S.D.2.2.1 S.D.2.2.2.1 S.D.2.2.2.2 S.lost], [(qs 0, .inl (cI, 12, .inl (lI S.eb)))], [(qs 1, .inl (cI, 144, .inl (fl (gN S.lk))))], [(qs 2, .inl (cI, 144, .inl (fl (gN wt))))], [(qs 3, .inl (cZ, 144, .inl (fl (kB S.kn))))], [(qs 4, .inl (cI, 1600, .inl fR))], [(qs 5, .inl (cI, 1600, .inl fN))], [(qs 6, .inl (cJ, 1600, .inr (.inl fL)))], [(qs 7, .inl (cJ, 1600, .inr (.inl fH)))], [(qs 8, .inl (cZ, 1600, .inl (dB uf)))], [(qs 9, .inl (cI, 144, .inl (fl (sI S.T.2.1))))], [(qs 10, .inl (cI, 4000, .inl fM))], [(qs 11, .inl (cJ, 4000, .inr (.inl fC)))], [(qs 12, .inl (cI, 4000, .inl fT))], [(qs 13, .inl (cI, 8, .inl (lI S.G.1)))], [(qs 14, .inl (cI, 8, .inl S.G.2.1))], [(qs 15, .inl (cI, 96, .inl (fl (gN (rT S.G.2.2.1)))))], [(qs 16, .inl (cI, 901, .inl fD))], [(qs 17, .inl (cI, 901, .inl fX))], [(qs 18, .inl (cI, 144, .inl (fl MK)))], [(qs 19, .inl (cI, 144, .inl (fl MF)))]]) → va_S A s.heap H locs → lv_has ls 5 [(3, .int (nI b)), (2, .int (nI a)), (1, .int (bI (bP (sq S a b 0)))), (0, .ref h)] → W p l e (rm_ 1 22 0 0) s m args below meth c H locs 0 0 Q (F0 m 28 ls []) := by
    intro a ha9 K
    intro k
    induction k with
    | zero =>
      intro b H locs ls hk hP hD hS hl
      refine lv_iload_n hx hb d_Ref_settled_28 rfl (lv_at hl 0 rfl) ?_
      refine lv_bipush (v := nI 12) hx hb d_Ref_settled_29 (by decide) ?_
      refine ri_icmp_ge hx hb (by omega) (by omega) d_Ref_settled_31 (tgt := 98) (by decide) (fun hc9 => ?_) (fun hc9 => ?_)
      · have hb9 : b = 12 := by omega
        subst hb9
        rw [bP_congr sq_a] at hl
        exact K H locs ls hP hD hS (lv_sub hl [1, 2, 3] rfl)
      · exact absurd hc9 (by omega)
    | succ k ih =>
      intro b H locs ls hk hP hD hS hl
      refine lv_iload_n hx hb d_Ref_settled_28 rfl (lv_at hl 0 rfl) ?_
      refine lv_bipush (v := nI 12) hx hb d_Ref_settled_29 (by decide) ?_
      refine ri_icmp_ge hx hb (by omega) (by omega) d_Ref_settled_31 (tgt := 98) (by decide) (fun hc9 => ?_) (fun hc9 => ?_)
      · exact absurd hc9 (by omega)
      · refine lv_iconst (v := nI 0) hx hb d_Ref_settled_34 (by decide) ?_
        refine lv_istore hx hb d_Ref_settled_35 hl (by decide) rfl (fun ls hl => ?_)
        have hl : lv_has ls 5 [(4, .int (nI 0)), (3, .int (nI b)), (2, .int (nI a)), (1, .int (bI (bP (sq S a b 0)))), (0, .ref h)] := hl
        refine lk9 a ha9 b (by omega) (fun H locs ls hP hD hS hl => ?_) 12 0 H locs ls (by omega) hP hD hS (lv_sub hl [0, 1, 2, 3, 4] rfl)
        refine ri_iinc hx hb d_Ref_settled_92 hl (k := 0) rfl (by decide) rfl (fun ls hl => ?_)
        have hl : lv_has ls 5 [(3, .int (nI (b + 1))), (2, .int (nI a)), (1, .int (bI (bP (sq S a (b + 1) 0)))), (0, .ref h)] := hl
        refine lv_goto hx hb d_Ref_settled_95 (tgt := 28) (by decide) ?_
        exact ih (b + 1) H locs ls (by omega) hP hD hS (lv_sub hl [0, 1, 2, 3] rfl)
  have la9 : ∀ (k a : Nat)  (H : Heap) (locs : List Loc) (ls : Array Slot), a + k = 12 → va_P D kls (List.flatten [[rf_o h qs (nI 0) ma S.T.2.2.1.2.1 ca S.D.2.1.2.1 na S.G.2.2.2.1.2.1 S.D.1.2.1 S.D.2.2.1 S.D.2.2.2.1 S.D.2.2.2.2 S.lost], [(qs 0, .inl (cI, 12, .inl (lI S.eb)))], [(qs 1, .inl (cI, 144, .inl (fl (gN S.lk))))], [(qs 2, .inl (cI, 144, .inl (fl (gN wt))))], [(qs 3, .inl (cZ, 144, .inl (fl (kB S.kn))))], [(qs 4, .inl (cI, 1600, .inl fR))], [(qs 5, .inl (cI, 1600, .inl fN))], [(qs 6, .inl (cJ, 1600, .inr (.inl fL)))], [(qs 7, .inl (cJ, 1600, .inr (.inl fH)))], [(qs 8, .inl (cZ, 1600, .inl (dB uf)))], [(qs 9, .inl (cI, 144, .inl (fl (sI S.T.2.1))))], [(qs 10, .inl (cI, 4000, .inl fM))], [(qs 11, .inl (cJ, 4000, .inr (.inl fC)))], [(qs 12, .inl (cI, 4000, .inl fT))], [(qs 13, .inl (cI, 8, .inl (lI S.G.1)))], [(qs 14, .inl (cI, 8, .inl S.G.2.1))], [(qs 15, .inl (cI, 96, .inl (fl (gN (rT S.G.2.2.1)))))], [(qs 16, .inl (cI, 901, .inl fD))], [(qs 17, .inl (cI, 901, .inl fX))], [(qs 18, .inl (cI, 144, .inl (fl MK)))], [(qs 19, .inl (cI, 144, .inl (fl MF)))]]) H → va_D A (List.flatten [[rf_o h qs (nI 0) ma S.T.2.2.1.2.1 ca S.D.2.1.2.1 na S.G.2.2.2.1.2.1 S.D.1.2.1 S.D.2.2.1 S.D.2.2.2.1 S.D.2.2.2.2 S.lost], [(qs 0, .inl (cI, 12, .inl (lI S.eb)))], [(qs 1, .inl (cI, 144, .inl (fl (gN S.lk))))], [(qs 2, .inl (cI, 144, .inl (fl (gN wt))))], [(qs 3, .inl (cZ, 144, .inl (fl (kB S.kn))))], [(qs 4, .inl (cI, 1600, .inl fR))], [(qs 5, .inl (cI, 1600, .inl fN))], [(qs 6, .inl (cJ, 1600, .inr (.inl fL)))], [(qs 7, .inl (cJ, 1600, .inr (.inl fH)))], [(qs 8, .inl (cZ, 1600, .inl (dB uf)))], [(qs 9, .inl (cI, 144, .inl (fl (sI S.T.2.1))))], [(qs 10, .inl (cI, 4000, .inl fM))], [(qs 11, .inl (cJ, 4000, .inr (.inl fC)))], [(qs 12, .inl (cI, 4000, .inl fT))], [(qs 13, .inl (cI, 8, .inl (lI S.G.1)))], [(qs 14, .inl (cI, 8, .inl S.G.2.1))], [(qs 15, .inl (cI, 96, .inl (fl (gN (rT S.G.2.2.1)))))], [(qs 16, .inl (cI, 901, .inl fD))], [(qs 17, .inl (cI, 901, .inl fX))], [(qs 18, .inl (cI, 144, .inl (fl MK)))], [(qs 19, .inl (cI, 144, .inl (fl MF)))]]) → va_S A s.heap H locs → lv_has ls 5 [(2, .int (nI a)), (1, .int (bI (bP (sq S a 0 0)))), (0, .ref h)] → W p l e (rm_ 1 22 0 0) s m args below meth c H locs 0 0 Q (F0 m 20 ls []) := by
    intro k
    induction k with
    | zero =>
      intro a H locs ls hk hP hD hS hl
      refine lv_iload_n hx hb d_Ref_settled_20 rfl (lv_at hl 0 rfl) ?_
      refine lv_bipush (v := nI 12) hx hb d_Ref_settled_21 (by decide) ?_
      refine ri_icmp_ge hx hb (by omega) (by omega) d_Ref_settled_23 (tgt := 104) (by decide) (fun hc9 => ?_) (fun hc9 => ?_)
      · have ha9 : a = 12 := by omega
        subst ha9
        refine lv_iload_n hx hb d_Ref_settled_104 rfl (lv_at hl 1 rfl) ?_
        exact ct_zret (b := bP (sq S 12 0 0)) hQ hx hb hr hlk hP hD hS hK (by omega) (by omega) d_Ref_settled_105 ⟨rfl, ⟨qs, ma, ca, na, wt, fR, fN, fL, fH, uf, fM, fC, fT, fD, fX, MK, MF, rfl, hwt, hAd, hM, hC, hN, hPd⟩⟩
      · exact absurd hc9 (by omega)
    | succ k ih =>
      intro a H locs ls hk hP hD hS hl
      refine lv_iload_n hx hb d_Ref_settled_20 rfl (lv_at hl 0 rfl) ?_
      refine lv_bipush (v := nI 12) hx hb d_Ref_settled_21 (by decide) ?_
      refine ri_icmp_ge hx hb (by omega) (by omega) d_Ref_settled_23 (tgt := 104) (by decide) (fun hc9 => ?_) (fun hc9 => ?_)
      · exact absurd hc9 (by omega)
      · refine lv_iconst (v := nI 0) hx hb d_Ref_settled_26 (by decide) ?_
        refine lv_istore_n hx hb d_Ref_settled_27 rfl hl (by decide) rfl (fun ls hl => ?_)
        have hl : lv_has ls 5 [(3, .int (nI 0)), (2, .int (nI a)), (1, .int (bI (bP (sq S a 0 0)))), (0, .ref h)] := hl
        refine lb9 a (by omega) (fun H locs ls hP hD hS hl => ?_) 12 0 H locs ls (by omega) hP hD hS (lv_sub hl [0, 1, 2, 3] rfl)
        refine ri_iinc hx hb d_Ref_settled_98 hl (k := 0) rfl (by decide) rfl (fun ls hl => ?_)
        have hl : lv_has ls 5 [(2, .int (nI (a + 1))), (1, .int (bI (bP (sq S (a + 1) 0 0)))), (0, .ref h)] := hl
        refine lv_goto hx hb d_Ref_settled_101 (tgt := 20) (by decide) ?_
        exact ih (a + 1) H locs ls (by omega) hP hD hS (lv_sub hl [0, 1, 2] rfl)
  refine lv_aload_n hx hb d_Ref_settled_0 rfl (lv_at hl 0 rfl) ?_
  refine lv_iconst (v := nI 0) hx hb d_Ref_settled_1 (by decide) ?_
  refine va_put (D := D) (ci := 9) (v := .int (nI 0)) (ty := .int) (C := R_Ref) (T := T_Ref) (N := 32) hx hb ht in_Ref t_Ref ok_Ref nm_Ref hown hK hP hD hS 0 rfl rfl 0 (by decide) (ht _ kl_Ref_72) (fun _ h9 => h9) rfl (by decide +kernel) rfl rfl (Nat.le_of_ble_eq_true rfl) d_Ref_settled_2 (fun H locs hP hD hS => ?_)
  have hP : va_P D kls (List.flatten [[rf_o h qs (nI 0) ma S.T.2.2.1.2.1 ca S.D.2.1.2.1 na S.G.2.2.2.1.2.1 S.D.1.2.1 S.D.2.2.1 S.D.2.2.2.1 S.D.2.2.2.2 S.lost], [(qs 0, .inl (cI, 12, .inl (lI S.eb)))], [(qs 1, .inl (cI, 144, .inl (fl (gN S.lk))))], [(qs 2, .inl (cI, 144, .inl (fl (gN wt))))], [(qs 3, .inl (cZ, 144, .inl (fl (kB S.kn))))], [(qs 4, .inl (cI, 1600, .inl fR))], [(qs 5, .inl (cI, 1600, .inl fN))], [(qs 6, .inl (cJ, 1600, .inr (.inl fL)))], [(qs 7, .inl (cJ, 1600, .inr (.inl fH)))], [(qs 8, .inl (cZ, 1600, .inl (dB uf)))], [(qs 9, .inl (cI, 144, .inl (fl (sI S.T.2.1))))], [(qs 10, .inl (cI, 4000, .inl fM))], [(qs 11, .inl (cJ, 4000, .inr (.inl fC)))], [(qs 12, .inl (cI, 4000, .inl fT))], [(qs 13, .inl (cI, 8, .inl (lI S.G.1)))], [(qs 14, .inl (cI, 8, .inl S.G.2.1))], [(qs 15, .inl (cI, 96, .inl (fl (gN (rT S.G.2.2.1)))))], [(qs 16, .inl (cI, 901, .inl fD))], [(qs 17, .inl (cI, 901, .inl fX))], [(qs 18, .inl (cI, 144, .inl (fl MK)))], [(qs 19, .inl (cI, 144, .inl (fl MF)))]]) H := hP
  have hD : va_D A (List.flatten [[rf_o h qs (nI 0) ma S.T.2.2.1.2.1 ca S.D.2.1.2.1 na S.G.2.2.2.1.2.1 S.D.1.2.1 S.D.2.2.1 S.D.2.2.2.1 S.D.2.2.2.2 S.lost], [(qs 0, .inl (cI, 12, .inl (lI S.eb)))], [(qs 1, .inl (cI, 144, .inl (fl (gN S.lk))))], [(qs 2, .inl (cI, 144, .inl (fl (gN wt))))], [(qs 3, .inl (cZ, 144, .inl (fl (kB S.kn))))], [(qs 4, .inl (cI, 1600, .inl fR))], [(qs 5, .inl (cI, 1600, .inl fN))], [(qs 6, .inl (cJ, 1600, .inr (.inl fL)))], [(qs 7, .inl (cJ, 1600, .inr (.inl fH)))], [(qs 8, .inl (cZ, 1600, .inl (dB uf)))], [(qs 9, .inl (cI, 144, .inl (fl (sI S.T.2.1))))], [(qs 10, .inl (cI, 4000, .inl fM))], [(qs 11, .inl (cJ, 4000, .inr (.inl fC)))], [(qs 12, .inl (cI, 4000, .inl fT))], [(qs 13, .inl (cI, 8, .inl (lI S.G.1)))], [(qs 14, .inl (cI, 8, .inl S.G.2.1))], [(qs 15, .inl (cI, 96, .inl (fl (gN (rT S.G.2.2.1)))))], [(qs 16, .inl (cI, 901, .inl fD))], [(qs 17, .inl (cI, 901, .inl fX))], [(qs 18, .inl (cI, 144, .inl (fl MK)))], [(qs 19, .inl (cI, 144, .inl (fl MF)))]]) := hD
  refine lv_aload_n hx hb d_Ref_settled_5 rfl (lv_at hl 0 rfl) ?_
  refine va_get (D := D) (ci := 9) (v := .int (nI S.T.2.2.1.2.1)) (C := R_Ref) (T := T_Ref) (N := 32) hx hb ht in_Ref hown hK hP 0 rfl rfl 12 (by decide) (ht _ kl_Ref_92) (fun _ h9 => h9) rfl d_Ref_settled_6 ?_
  refine ri_if_ne hx hb (by omega) d_Ref_settled_9 (tgt := 16) (by decide) (fun h9 => ?_) (fun h9 => ?_)
  · refine lv_iconst (v := nI 0) hx hb d_Ref_settled_16 (by decide) ?_
    refine W.eq (g2 := F0 m 17 ls [.int (bI (bP (sq S 0 0 0)))]) (congrArg (fun z => F0 m 17 ls (.int z :: [])) (congrArg bI (bP_f (fun z => by have := (sq_0 S).mp z; omega)).symm)) ?_
    refine lv_istore_n hx hb d_Ref_settled_17 rfl hl (by decide) rfl (fun ls hl => ?_)
    have hl : lv_has ls 5 [(1, .int (bI (bP (sq S 0 0 0)))), (0, .ref h)] := hl
    refine lv_iconst (v := nI 0) hx hb d_Ref_settled_18 (by decide) ?_
    refine lv_istore_n hx hb d_Ref_settled_19 rfl hl (by decide) rfl (fun ls hl => ?_)
    have hl : lv_has ls 5 [(2, .int (nI 0)), (1, .int (bI (bP (sq S 0 0 0)))), (0, .ref h)] := hl
    exact la9 12 0 H locs ls (by omega) hP hD hS (lv_sub hl [0, 1, 2] rfl)
  · refine lv_iconst (v := nI 1) hx hb d_Ref_settled_12 (by decide) ?_
    refine lv_goto hx hb d_Ref_settled_13 (tgt := 17) (by decide) ?_
    refine W.eq (g2 := F0 m 17 ls [.int (bI (bP (sq S 0 0 0)))]) (congrArg (fun z => F0 m 17 ls (.int z :: [])) (congrArg bI (bP_t ((sq_0 S).mpr (by omega))).symm)) ?_
    refine lv_istore_n hx hb d_Ref_settled_17 rfl hl (by decide) rfl (fun ls hl => ?_)
    have hl : lv_has ls 5 [(1, .int (bI (bP (sq S 0 0 0)))), (0, .ref h)] := hl
    refine lv_iconst (v := nI 0) hx hb d_Ref_settled_18 (by decide) ?_
    refine lv_istore_n hx hb d_Ref_settled_19 rfl hl (by decide) rfl (fun ls hl => ?_)
    have hl : lv_has ls 5 [(2, .int (nI 0)), (1, .int (bI (bP (sq S 0 0 0)))), (0, .ref h)] := hl
    exact la9 12 0 H locs ls (by omega) hP hD hS (lv_sub hl [0, 1, 2] rfl)
set_option maxHeartbeats 1600000 in
set_option maxRecDepth 100000 in
theorem n_Ref_stored (l : Launch) (D : va_G) (cI cZ cJ cG : ClassId) {h : Nat} {cd : Int32} {S : bm_S} {ws : va_W} (hR : rf_R cI cZ cJ h cd S ws) (hi : rf_i S) (x y : Int32) (hno : rg 0 12 x = false ∨ rg 0 12 y = false) : ct_I l D kls (ty4 cI cZ cJ cG) y_Ref_stored ws_Ref_stored (rm_ 2 45 0 0) [.ref h, .int x, .int y] (ws) (fun z u => rf_R cI cZ cJ h (nI 1) S u) 0 0 := by
  obtain ⟨qs, ma, ca, na, wt, fR, fN, fL, fH, uf, fM, fC, fT, fD, fX, MK, MF, rfl, hwt, hAd, hM, hC, hN, hPd⟩ := hR
  obtain ⟨hsi, heb, h00, hA9, hm9, hcp9, hnt9, hpk9, hgi⟩ := hi
  have hok := hsi.1
  have hkn9 := hsi.2.1
  have hlk9 := hsi.2.2.1
  have hma := hM.1
  refine ct_enterI (cc := b_Ref_stored) (maxL := 3) (ret := (some .int)) (by decide +kernel) (Nat.le_of_ble_eq_true rfl) ?_
  intro p e s m args below meth c hx hb hml hr ht hown hlk hnm A Q hA hK hP hD hQ ls hl
  have hown : s.vm.findClass R_Ref = some m.cls := hown
  have hS : va_S A s.heap s.heap [] := va_S.rf
  have hl : lv_has ls 3 [(0, .ref h), (1, .int x), (2, .int y)] := hl
  have hrt := hsi.2.2.2.2.1
  refine lv_aload_n hx hb d_Ref_stored_0 rfl (lv_at hl 0 rfl) ?_
  refine lv_iload_n hx hb d_Ref_stored_1 rfl (lv_at hl 1 rfl) ?_
  refine ct_rdS (As := [.int x]) (rest := [.ref h]) ⟨hx, hb, hml, hown, ht⟩ (k_Ref_isRouter l D cI cZ cJ cG (x)) (cb_S ht kc_Ref_isRouter kl_Ref_82 kn_Ref ki_Ref_isRouter hd_Ref_isRouter ⟨Nat.le_of_ble_eq_true rfl, Nat.le_of_ble_eq_true rfl⟩) (wd_ct (Bs := [[rf_o h qs cd ma S.T.2.2.1.2.1 ca S.D.2.1.2.1 na S.G.2.2.2.1.2.1 S.D.1.2.1 S.D.2.2.1 S.D.2.2.2.1 S.D.2.2.2.2 S.lost], [(qs 0, .inl (cI, 12, .inl (lI S.eb)))], [(qs 1, .inl (cI, 144, .inl (fl (gN S.lk))))], [(qs 2, .inl (cI, 144, .inl (fl (gN wt))))], [(qs 3, .inl (cZ, 144, .inl (fl (kB S.kn))))], [(qs 4, .inl (cI, 1600, .inl fR))], [(qs 5, .inl (cI, 1600, .inl fN))], [(qs 6, .inl (cJ, 1600, .inr (.inl fL)))], [(qs 7, .inl (cJ, 1600, .inr (.inl fH)))], [(qs 8, .inl (cZ, 1600, .inl (dB uf)))], [(qs 9, .inl (cI, 144, .inl (fl (sI S.T.2.1))))], [(qs 10, .inl (cI, 4000, .inl fM))], [(qs 11, .inl (cJ, 4000, .inr (.inl fC)))], [(qs 12, .inl (cI, 4000, .inl fT))], [(qs 13, .inl (cI, 8, .inl (lI S.G.1)))], [(qs 14, .inl (cI, 8, .inl S.G.2.1))], [(qs 15, .inl (cI, 96, .inl (fl (gN (rT S.G.2.2.1)))))], [(qs 16, .inl (cI, 901, .inl fD))], [(qs 17, .inl (cI, 901, .inl fX))], [(qs 18, .inl (cI, 144, .inl (fl MK)))], [(qs 19, .inl (cI, 144, .inl (fl MF)))]]) 21 rfl [] [0, 1, 2, 3, 4, 5, 6, 7, 8, 9, 10, 11, 12, 13, 14, 15, 16, 17, 18, 19, 20] (by decide) rfl) hK hP hD hS hA rfl hl.1 rfl (Nat.le_of_ble_eq_true rfl) ⟨(show 0 + 0 ≤ 0 by omega), (show 0 + 0 ≤ 0 by omega)⟩ d_Ref_stored_2 (fun rhr101 H locs hr101 hP hD hS => ?_)
  subst hr101
  refine ri_ifeqB hx hb d_Ref_stored_5 (tgt := 19) (by decide) (fun h5 => ?_) (fun h5 => ?_)
  · refine lv_iconst (v := nI 1) hx hb d_Ref_stored_19 (by decide) ?_
    refine va_put (D := D) (ci := 9) (v := .int (nI 1)) (ty := .int) (C := R_Ref) (T := T_Ref) (N := 32) hx hb ht in_Ref t_Ref ok_Ref nm_Ref hown hK hP hD hS 0 rfl rfl 0 (by decide) (ht _ kl_Ref_72) (fun _ h9 => h9) rfl (by decide +kernel) rfl rfl (Nat.le_of_ble_eq_true rfl) d_Ref_stored_20 (fun H locs hP hD hS => ?_)
    have hP : va_P D kls (List.flatten [[rf_o h qs (nI 1) ma S.T.2.2.1.2.1 ca S.D.2.1.2.1 na S.G.2.2.2.1.2.1 S.D.1.2.1 S.D.2.2.1 S.D.2.2.2.1 S.D.2.2.2.2 S.lost], [(qs 0, .inl (cI, 12, .inl (lI S.eb)))], [(qs 1, .inl (cI, 144, .inl (fl (gN S.lk))))], [(qs 2, .inl (cI, 144, .inl (fl (gN wt))))], [(qs 3, .inl (cZ, 144, .inl (fl (kB S.kn))))], [(qs 4, .inl (cI, 1600, .inl fR))], [(qs 5, .inl (cI, 1600, .inl fN))], [(qs 6, .inl (cJ, 1600, .inr (.inl fL)))], [(qs 7, .inl (cJ, 1600, .inr (.inl fH)))], [(qs 8, .inl (cZ, 1600, .inl (dB uf)))], [(qs 9, .inl (cI, 144, .inl (fl (sI S.T.2.1))))], [(qs 10, .inl (cI, 4000, .inl fM))], [(qs 11, .inl (cJ, 4000, .inr (.inl fC)))], [(qs 12, .inl (cI, 4000, .inl fT))], [(qs 13, .inl (cI, 8, .inl (lI S.G.1)))], [(qs 14, .inl (cI, 8, .inl S.G.2.1))], [(qs 15, .inl (cI, 96, .inl (fl (gN (rT S.G.2.2.1)))))], [(qs 16, .inl (cI, 901, .inl fD))], [(qs 17, .inl (cI, 901, .inl fX))], [(qs 18, .inl (cI, 144, .inl (fl MK)))], [(qs 19, .inl (cI, 144, .inl (fl MF)))]]) H := hP
    have hD : va_D A (List.flatten [[rf_o h qs (nI 1) ma S.T.2.2.1.2.1 ca S.D.2.1.2.1 na S.G.2.2.2.1.2.1 S.D.1.2.1 S.D.2.2.1 S.D.2.2.2.1 S.D.2.2.2.2 S.lost], [(qs 0, .inl (cI, 12, .inl (lI S.eb)))], [(qs 1, .inl (cI, 144, .inl (fl (gN S.lk))))], [(qs 2, .inl (cI, 144, .inl (fl (gN wt))))], [(qs 3, .inl (cZ, 144, .inl (fl (kB S.kn))))], [(qs 4, .inl (cI, 1600, .inl fR))], [(qs 5, .inl (cI, 1600, .inl fN))], [(qs 6, .inl (cJ, 1600, .inr (.inl fL)))], [(qs 7, .inl (cJ, 1600, .inr (.inl fH)))], [(qs 8, .inl (cZ, 1600, .inl (dB uf)))], [(qs 9, .inl (cI, 144, .inl (fl (sI S.T.2.1))))], [(qs 10, .inl (cI, 4000, .inl fM))], [(qs 11, .inl (cJ, 4000, .inr (.inl fC)))], [(qs 12, .inl (cI, 4000, .inl fT))], [(qs 13, .inl (cI, 8, .inl (lI S.G.1)))], [(qs 14, .inl (cI, 8, .inl S.G.2.1))], [(qs 15, .inl (cI, 96, .inl (fl (gN (rT S.G.2.2.1)))))], [(qs 16, .inl (cI, 901, .inl fD))], [(qs 17, .inl (cI, 901, .inl fX))], [(qs 18, .inl (cI, 144, .inl (fl MK)))], [(qs 19, .inl (cI, 144, .inl (fl MF)))]]) := hD
    refine lv_aload_n hx hb d_Ref_stored_23 rfl (lv_at hl 0 rfl) ?_
    refine va_get (D := D) (ci := 9) (v := .int (nI 1)) (C := R_Ref) (T := T_Ref) (N := 32) hx hb ht in_Ref hown hK hP 0 rfl rfl 0 (by decide) (ht _ kl_Ref_72) (fun _ h9 => h9) rfl d_Ref_stored_24 ?_
    refine ri_if_le hx hb (by omega) d_Ref_stored_27 (tgt := 34) (by decide) (fun h103 => ?_) (fun h103 => ?_)
    · exact absurd h103 (by decide)
    · refine lv_iconst (v := nI 0) hx hb d_Ref_stored_30 (by decide) ?_
      refine lv_goto hx hb d_Ref_stored_31 (tgt := 40) (by decide) ?_
      exact ct_iret hQ hx hb hr hlk hP hD hS hK (by omega) (by omega) d_Ref_stored_40 (⟨qs, ma, ca, na, wt, fR, fN, fL, fH, uf, fM, fC, fT, fD, fX, MK, MF, rfl, hwt, hAd, hM, hC, hN, hPd⟩)
  · refine lv_iload_n hx hb d_Ref_stored_8 rfl (lv_at hl 2 rfl) ?_
    refine ct_rdS (As := [.int y]) (rest := [.ref h]) ⟨hx, hb, hml, hown, ht⟩ (k_Ref_isRouter l D cI cZ cJ cG (y)) (cb_S ht kc_Ref_isRouter kl_Ref_82 kn_Ref ki_Ref_isRouter hd_Ref_isRouter ⟨Nat.le_of_ble_eq_true rfl, Nat.le_of_ble_eq_true rfl⟩) (wd_ct (Bs := [[rf_o h qs cd ma S.T.2.2.1.2.1 ca S.D.2.1.2.1 na S.G.2.2.2.1.2.1 S.D.1.2.1 S.D.2.2.1 S.D.2.2.2.1 S.D.2.2.2.2 S.lost], [(qs 0, .inl (cI, 12, .inl (lI S.eb)))], [(qs 1, .inl (cI, 144, .inl (fl (gN S.lk))))], [(qs 2, .inl (cI, 144, .inl (fl (gN wt))))], [(qs 3, .inl (cZ, 144, .inl (fl (kB S.kn))))], [(qs 4, .inl (cI, 1600, .inl fR))], [(qs 5, .inl (cI, 1600, .inl fN))], [(qs 6, .inl (cJ, 1600, .inr (.inl fL)))], [(qs 7, .inl (cJ, 1600, .inr (.inl fH)))], [(qs 8, .inl (cZ, 1600, .inl (dB uf)))], [(qs 9, .inl (cI, 144, .inl (fl (sI S.T.2.1))))], [(qs 10, .inl (cI, 4000, .inl fM))], [(qs 11, .inl (cJ, 4000, .inr (.inl fC)))], [(qs 12, .inl (cI, 4000, .inl fT))], [(qs 13, .inl (cI, 8, .inl (lI S.G.1)))], [(qs 14, .inl (cI, 8, .inl S.G.2.1))], [(qs 15, .inl (cI, 96, .inl (fl (gN (rT S.G.2.2.1)))))], [(qs 16, .inl (cI, 901, .inl fD))], [(qs 17, .inl (cI, 901, .inl fX))], [(qs 18, .inl (cI, 144, .inl (fl MK)))], [(qs 19, .inl (cI, 144, .inl (fl MF)))]]) 21 rfl [] [0, 1, 2, 3, 4, 5, 6, 7, 8, 9, 10, 11, 12, 13, 14, 15, 16, 17, 18, 19, 20] (by decide) rfl) hK hP hD hS hA rfl hl.1 rfl (Nat.le_of_ble_eq_true rfl) ⟨(show 0 + 0 ≤ 0 by omega), (show 0 + 0 ≤ 0 by omega)⟩ d_Ref_stored_9 (fun rhr104 H locs hr104 hP hD hS => ?_)
    subst hr104
    refine ri_ifeqB hx hb d_Ref_stored_12 (tgt := 19) (by decide) (fun h12 => ?_) (fun h12 => ?_)
    · refine lv_iconst (v := nI 1) hx hb d_Ref_stored_19 (by decide) ?_
      refine va_put (D := D) (ci := 9) (v := .int (nI 1)) (ty := .int) (C := R_Ref) (T := T_Ref) (N := 32) hx hb ht in_Ref t_Ref ok_Ref nm_Ref hown hK hP hD hS 0 rfl rfl 0 (by decide) (ht _ kl_Ref_72) (fun _ h9 => h9) rfl (by decide +kernel) rfl rfl (Nat.le_of_ble_eq_true rfl) d_Ref_stored_20 (fun H locs hP hD hS => ?_)
      have hP : va_P D kls (List.flatten [[rf_o h qs (nI 1) ma S.T.2.2.1.2.1 ca S.D.2.1.2.1 na S.G.2.2.2.1.2.1 S.D.1.2.1 S.D.2.2.1 S.D.2.2.2.1 S.D.2.2.2.2 S.lost], [(qs 0, .inl (cI, 12, .inl (lI S.eb)))], [(qs 1, .inl (cI, 144, .inl (fl (gN S.lk))))], [(qs 2, .inl (cI, 144, .inl (fl (gN wt))))], [(qs 3, .inl (cZ, 144, .inl (fl (kB S.kn))))], [(qs 4, .inl (cI, 1600, .inl fR))], [(qs 5, .inl (cI, 1600, .inl fN))], [(qs 6, .inl (cJ, 1600, .inr (.inl fL)))], [(qs 7, .inl (cJ, 1600, .inr (.inl fH)))], [(qs 8, .inl (cZ, 1600, .inl (dB uf)))], [(qs 9, .inl (cI, 144, .inl (fl (sI S.T.2.1))))], [(qs 10, .inl (cI, 4000, .inl fM))], [(qs 11, .inl (cJ, 4000, .inr (.inl fC)))], [(qs 12, .inl (cI, 4000, .inl fT))], [(qs 13, .inl (cI, 8, .inl (lI S.G.1)))], [(qs 14, .inl (cI, 8, .inl S.G.2.1))], [(qs 15, .inl (cI, 96, .inl (fl (gN (rT S.G.2.2.1)))))], [(qs 16, .inl (cI, 901, .inl fD))], [(qs 17, .inl (cI, 901, .inl fX))], [(qs 18, .inl (cI, 144, .inl (fl MK)))], [(qs 19, .inl (cI, 144, .inl (fl MF)))]]) H := hP
      have hD : va_D A (List.flatten [[rf_o h qs (nI 1) ma S.T.2.2.1.2.1 ca S.D.2.1.2.1 na S.G.2.2.2.1.2.1 S.D.1.2.1 S.D.2.2.1 S.D.2.2.2.1 S.D.2.2.2.2 S.lost], [(qs 0, .inl (cI, 12, .inl (lI S.eb)))], [(qs 1, .inl (cI, 144, .inl (fl (gN S.lk))))], [(qs 2, .inl (cI, 144, .inl (fl (gN wt))))], [(qs 3, .inl (cZ, 144, .inl (fl (kB S.kn))))], [(qs 4, .inl (cI, 1600, .inl fR))], [(qs 5, .inl (cI, 1600, .inl fN))], [(qs 6, .inl (cJ, 1600, .inr (.inl fL)))], [(qs 7, .inl (cJ, 1600, .inr (.inl fH)))], [(qs 8, .inl (cZ, 1600, .inl (dB uf)))], [(qs 9, .inl (cI, 144, .inl (fl (sI S.T.2.1))))], [(qs 10, .inl (cI, 4000, .inl fM))], [(qs 11, .inl (cJ, 4000, .inr (.inl fC)))], [(qs 12, .inl (cI, 4000, .inl fT))], [(qs 13, .inl (cI, 8, .inl (lI S.G.1)))], [(qs 14, .inl (cI, 8, .inl S.G.2.1))], [(qs 15, .inl (cI, 96, .inl (fl (gN (rT S.G.2.2.1)))))], [(qs 16, .inl (cI, 901, .inl fD))], [(qs 17, .inl (cI, 901, .inl fX))], [(qs 18, .inl (cI, 144, .inl (fl MK)))], [(qs 19, .inl (cI, 144, .inl (fl MF)))]]) := hD
      refine lv_aload_n hx hb d_Ref_stored_23 rfl (lv_at hl 0 rfl) ?_
      refine va_get (D := D) (ci := 9) (v := .int (nI 1)) (C := R_Ref) (T := T_Ref) (N := 32) hx hb ht in_Ref hown hK hP 0 rfl rfl 0 (by decide) (ht _ kl_Ref_72) (fun _ h9 => h9) rfl d_Ref_stored_24 ?_
      refine ri_if_le hx hb (by omega) d_Ref_stored_27 (tgt := 34) (by decide) (fun h106 => ?_) (fun h106 => ?_)
      · exact absurd h106 (by decide)
      · refine lv_iconst (v := nI 0) hx hb d_Ref_stored_30 (by decide) ?_
        refine lv_goto hx hb d_Ref_stored_31 (tgt := 40) (by decide) ?_
        exact ct_iret hQ hx hb hr hlk hP hD hS hK (by omega) (by omega) d_Ref_stored_40 (⟨qs, ma, ca, na, wt, fR, fN, fL, fH, uf, fM, fC, fT, fD, fX, MK, MF, rfl, hwt, hAd, hM, hC, hN, hPd⟩)
    · exact absurd hno (by rw [h5, h12]; decide)
set_option maxHeartbeats 1600000 in
set_option maxRecDepth 100000 in
theorem n_Ref_mask (l : Launch) (D : va_G) (cI cZ cJ cG : ClassId) {h : Nat} {cd : Int32} {S : bm_S} {ws : va_W} (hR : rf_R cI cZ cJ h cd S ws) (hi : rf_i S) (x y : Int32) (hno : rg 0 12 x = false ∨ rg 0 12 y = false) : ct_I l D kls (ty4 cI cZ cJ cG) y_Ref_mask ws_Ref_mask (rm_ 2 50 0 0) [.ref h, .int x, .int y] (ws) (fun z u => rf_R cI cZ cJ h (nI 1) S u) 0 0 := by
  obtain ⟨qs, ma, ca, na, wt, fR, fN, fL, fH, uf, fM, fC, fT, fD, fX, MK, MF, rfl, hwt, hAd, hM, hC, hN, hPd⟩ := hR
  obtain ⟨hsi, heb, h00, hA9, hm9, hcp9, hnt9, hpk9, hgi⟩ := hi
  have hok := hsi.1
  have hkn9 := hsi.2.1
  have hlk9 := hsi.2.2.1
  have hma := hM.1
  refine ct_enterI (cc := b_Ref_mask) (maxL := 3) (ret := (some .int)) (by decide +kernel) (Nat.le_of_ble_eq_true rfl) ?_
  intro p e s m args below meth c hx hb hml hr ht hown hlk hnm A Q hA hK hP hD hQ ls hl
  have hown : s.vm.findClass R_Ref = some m.cls := hown
  have hS : va_S A s.heap s.heap [] := va_S.rf
  have hl : lv_has ls 3 [(0, .ref h), (1, .int x), (2, .int y)] := hl
  have hrt := hsi.2.2.2.2.1
  refine lv_aload_n hx hb d_Ref_mask_0 rfl (lv_at hl 0 rfl) ?_
  refine lv_iload_n hx hb d_Ref_mask_1 rfl (lv_at hl 1 rfl) ?_
  refine ct_rdS (As := [.int x]) (rest := [.ref h]) ⟨hx, hb, hml, hown, ht⟩ (k_Ref_isRouter l D cI cZ cJ cG (x)) (cb_S ht kc_Ref_isRouter kl_Ref_82 kn_Ref ki_Ref_isRouter hd_Ref_isRouter ⟨Nat.le_of_ble_eq_true rfl, Nat.le_of_ble_eq_true rfl⟩) (wd_ct (Bs := [[rf_o h qs cd ma S.T.2.2.1.2.1 ca S.D.2.1.2.1 na S.G.2.2.2.1.2.1 S.D.1.2.1 S.D.2.2.1 S.D.2.2.2.1 S.D.2.2.2.2 S.lost], [(qs 0, .inl (cI, 12, .inl (lI S.eb)))], [(qs 1, .inl (cI, 144, .inl (fl (gN S.lk))))], [(qs 2, .inl (cI, 144, .inl (fl (gN wt))))], [(qs 3, .inl (cZ, 144, .inl (fl (kB S.kn))))], [(qs 4, .inl (cI, 1600, .inl fR))], [(qs 5, .inl (cI, 1600, .inl fN))], [(qs 6, .inl (cJ, 1600, .inr (.inl fL)))], [(qs 7, .inl (cJ, 1600, .inr (.inl fH)))], [(qs 8, .inl (cZ, 1600, .inl (dB uf)))], [(qs 9, .inl (cI, 144, .inl (fl (sI S.T.2.1))))], [(qs 10, .inl (cI, 4000, .inl fM))], [(qs 11, .inl (cJ, 4000, .inr (.inl fC)))], [(qs 12, .inl (cI, 4000, .inl fT))], [(qs 13, .inl (cI, 8, .inl (lI S.G.1)))], [(qs 14, .inl (cI, 8, .inl S.G.2.1))], [(qs 15, .inl (cI, 96, .inl (fl (gN (rT S.G.2.2.1)))))], [(qs 16, .inl (cI, 901, .inl fD))], [(qs 17, .inl (cI, 901, .inl fX))], [(qs 18, .inl (cI, 144, .inl (fl MK)))], [(qs 19, .inl (cI, 144, .inl (fl MF)))]]) 21 rfl [] [0, 1, 2, 3, 4, 5, 6, 7, 8, 9, 10, 11, 12, 13, 14, 15, 16, 17, 18, 19, 20] (by decide) rfl) hK hP hD hS hA rfl hl.1 rfl (Nat.le_of_ble_eq_true rfl) ⟨(show 0 + 0 ≤ 0 by omega), (show 0 + 0 ≤ 0 by omega)⟩ d_Ref_mask_2 (fun rhr101 H locs hr101 hP hD hS => ?_)
  subst hr101
  refine ri_ifeqB hx hb d_Ref_mask_5 (tgt := 19) (by decide) (fun h5 => ?_) (fun h5 => ?_)
  · refine lv_iconst (v := nI 1) hx hb d_Ref_mask_19 (by decide) ?_
    refine va_put (D := D) (ci := 9) (v := .int (nI 1)) (ty := .int) (C := R_Ref) (T := T_Ref) (N := 32) hx hb ht in_Ref t_Ref ok_Ref nm_Ref hown hK hP hD hS 0 rfl rfl 0 (by decide) (ht _ kl_Ref_72) (fun _ h9 => h9) rfl (by decide +kernel) rfl rfl (Nat.le_of_ble_eq_true rfl) d_Ref_mask_20 (fun H locs hP hD hS => ?_)
    have hP : va_P D kls (List.flatten [[rf_o h qs (nI 1) ma S.T.2.2.1.2.1 ca S.D.2.1.2.1 na S.G.2.2.2.1.2.1 S.D.1.2.1 S.D.2.2.1 S.D.2.2.2.1 S.D.2.2.2.2 S.lost], [(qs 0, .inl (cI, 12, .inl (lI S.eb)))], [(qs 1, .inl (cI, 144, .inl (fl (gN S.lk))))], [(qs 2, .inl (cI, 144, .inl (fl (gN wt))))], [(qs 3, .inl (cZ, 144, .inl (fl (kB S.kn))))], [(qs 4, .inl (cI, 1600, .inl fR))], [(qs 5, .inl (cI, 1600, .inl fN))], [(qs 6, .inl (cJ, 1600, .inr (.inl fL)))], [(qs 7, .inl (cJ, 1600, .inr (.inl fH)))], [(qs 8, .inl (cZ, 1600, .inl (dB uf)))], [(qs 9, .inl (cI, 144, .inl (fl (sI S.T.2.1))))], [(qs 10, .inl (cI, 4000, .inl fM))], [(qs 11, .inl (cJ, 4000, .inr (.inl fC)))], [(qs 12, .inl (cI, 4000, .inl fT))], [(qs 13, .inl (cI, 8, .inl (lI S.G.1)))], [(qs 14, .inl (cI, 8, .inl S.G.2.1))], [(qs 15, .inl (cI, 96, .inl (fl (gN (rT S.G.2.2.1)))))], [(qs 16, .inl (cI, 901, .inl fD))], [(qs 17, .inl (cI, 901, .inl fX))], [(qs 18, .inl (cI, 144, .inl (fl MK)))], [(qs 19, .inl (cI, 144, .inl (fl MF)))]]) H := hP
    have hD : va_D A (List.flatten [[rf_o h qs (nI 1) ma S.T.2.2.1.2.1 ca S.D.2.1.2.1 na S.G.2.2.2.1.2.1 S.D.1.2.1 S.D.2.2.1 S.D.2.2.2.1 S.D.2.2.2.2 S.lost], [(qs 0, .inl (cI, 12, .inl (lI S.eb)))], [(qs 1, .inl (cI, 144, .inl (fl (gN S.lk))))], [(qs 2, .inl (cI, 144, .inl (fl (gN wt))))], [(qs 3, .inl (cZ, 144, .inl (fl (kB S.kn))))], [(qs 4, .inl (cI, 1600, .inl fR))], [(qs 5, .inl (cI, 1600, .inl fN))], [(qs 6, .inl (cJ, 1600, .inr (.inl fL)))], [(qs 7, .inl (cJ, 1600, .inr (.inl fH)))], [(qs 8, .inl (cZ, 1600, .inl (dB uf)))], [(qs 9, .inl (cI, 144, .inl (fl (sI S.T.2.1))))], [(qs 10, .inl (cI, 4000, .inl fM))], [(qs 11, .inl (cJ, 4000, .inr (.inl fC)))], [(qs 12, .inl (cI, 4000, .inl fT))], [(qs 13, .inl (cI, 8, .inl (lI S.G.1)))], [(qs 14, .inl (cI, 8, .inl S.G.2.1))], [(qs 15, .inl (cI, 96, .inl (fl (gN (rT S.G.2.2.1)))))], [(qs 16, .inl (cI, 901, .inl fD))], [(qs 17, .inl (cI, 901, .inl fX))], [(qs 18, .inl (cI, 144, .inl (fl MK)))], [(qs 19, .inl (cI, 144, .inl (fl MF)))]]) := hD
    refine lv_aload_n hx hb d_Ref_mask_23 rfl (lv_at hl 0 rfl) ?_
    refine va_get (D := D) (ci := 9) (v := .int (nI 1)) (C := R_Ref) (T := T_Ref) (N := 32) hx hb ht in_Ref hown hK hP 0 rfl rfl 0 (by decide) (ht _ kl_Ref_72) (fun _ h9 => h9) rfl d_Ref_mask_24 ?_
    refine ri_if_le hx hb (by omega) d_Ref_mask_27 (tgt := 32) (by decide) (fun h103 => ?_) (fun h103 => ?_)
    · exact absurd h103 (by decide)
    · refine lv_iconst (v := nI 0) hx hb d_Ref_mask_30 (by decide) ?_
      exact ct_iret hQ hx hb hr hlk hP hD hS hK (by omega) (by omega) d_Ref_mask_31 (⟨qs, ma, ca, na, wt, fR, fN, fL, fH, uf, fM, fC, fT, fD, fX, MK, MF, rfl, hwt, hAd, hM, hC, hN, hPd⟩)
  · refine lv_iload_n hx hb d_Ref_mask_8 rfl (lv_at hl 2 rfl) ?_
    refine ct_rdS (As := [.int y]) (rest := [.ref h]) ⟨hx, hb, hml, hown, ht⟩ (k_Ref_isRouter l D cI cZ cJ cG (y)) (cb_S ht kc_Ref_isRouter kl_Ref_82 kn_Ref ki_Ref_isRouter hd_Ref_isRouter ⟨Nat.le_of_ble_eq_true rfl, Nat.le_of_ble_eq_true rfl⟩) (wd_ct (Bs := [[rf_o h qs cd ma S.T.2.2.1.2.1 ca S.D.2.1.2.1 na S.G.2.2.2.1.2.1 S.D.1.2.1 S.D.2.2.1 S.D.2.2.2.1 S.D.2.2.2.2 S.lost], [(qs 0, .inl (cI, 12, .inl (lI S.eb)))], [(qs 1, .inl (cI, 144, .inl (fl (gN S.lk))))], [(qs 2, .inl (cI, 144, .inl (fl (gN wt))))], [(qs 3, .inl (cZ, 144, .inl (fl (kB S.kn))))], [(qs 4, .inl (cI, 1600, .inl fR))], [(qs 5, .inl (cI, 1600, .inl fN))], [(qs 6, .inl (cJ, 1600, .inr (.inl fL)))], [(qs 7, .inl (cJ, 1600, .inr (.inl fH)))], [(qs 8, .inl (cZ, 1600, .inl (dB uf)))], [(qs 9, .inl (cI, 144, .inl (fl (sI S.T.2.1))))], [(qs 10, .inl (cI, 4000, .inl fM))], [(qs 11, .inl (cJ, 4000, .inr (.inl fC)))], [(qs 12, .inl (cI, 4000, .inl fT))], [(qs 13, .inl (cI, 8, .inl (lI S.G.1)))], [(qs 14, .inl (cI, 8, .inl S.G.2.1))], [(qs 15, .inl (cI, 96, .inl (fl (gN (rT S.G.2.2.1)))))], [(qs 16, .inl (cI, 901, .inl fD))], [(qs 17, .inl (cI, 901, .inl fX))], [(qs 18, .inl (cI, 144, .inl (fl MK)))], [(qs 19, .inl (cI, 144, .inl (fl MF)))]]) 21 rfl [] [0, 1, 2, 3, 4, 5, 6, 7, 8, 9, 10, 11, 12, 13, 14, 15, 16, 17, 18, 19, 20] (by decide) rfl) hK hP hD hS hA rfl hl.1 rfl (Nat.le_of_ble_eq_true rfl) ⟨(show 0 + 0 ≤ 0 by omega), (show 0 + 0 ≤ 0 by omega)⟩ d_Ref_mask_9 (fun rhr104 H locs hr104 hP hD hS => ?_)
    subst hr104
    refine ri_ifeqB hx hb d_Ref_mask_12 (tgt := 19) (by decide) (fun h12 => ?_) (fun h12 => ?_)
    · refine lv_iconst (v := nI 1) hx hb d_Ref_mask_19 (by decide) ?_
      refine va_put (D := D) (ci := 9) (v := .int (nI 1)) (ty := .int) (C := R_Ref) (T := T_Ref) (N := 32) hx hb ht in_Ref t_Ref ok_Ref nm_Ref hown hK hP hD hS 0 rfl rfl 0 (by decide) (ht _ kl_Ref_72) (fun _ h9 => h9) rfl (by decide +kernel) rfl rfl (Nat.le_of_ble_eq_true rfl) d_Ref_mask_20 (fun H locs hP hD hS => ?_)
      have hP : va_P D kls (List.flatten [[rf_o h qs (nI 1) ma S.T.2.2.1.2.1 ca S.D.2.1.2.1 na S.G.2.2.2.1.2.1 S.D.1.2.1 S.D.2.2.1 S.D.2.2.2.1 S.D.2.2.2.2 S.lost], [(qs 0, .inl (cI, 12, .inl (lI S.eb)))], [(qs 1, .inl (cI, 144, .inl (fl (gN S.lk))))], [(qs 2, .inl (cI, 144, .inl (fl (gN wt))))], [(qs 3, .inl (cZ, 144, .inl (fl (kB S.kn))))], [(qs 4, .inl (cI, 1600, .inl fR))], [(qs 5, .inl (cI, 1600, .inl fN))], [(qs 6, .inl (cJ, 1600, .inr (.inl fL)))], [(qs 7, .inl (cJ, 1600, .inr (.inl fH)))], [(qs 8, .inl (cZ, 1600, .inl (dB uf)))], [(qs 9, .inl (cI, 144, .inl (fl (sI S.T.2.1))))], [(qs 10, .inl (cI, 4000, .inl fM))], [(qs 11, .inl (cJ, 4000, .inr (.inl fC)))], [(qs 12, .inl (cI, 4000, .inl fT))], [(qs 13, .inl (cI, 8, .inl (lI S.G.1)))], [(qs 14, .inl (cI, 8, .inl S.G.2.1))], [(qs 15, .inl (cI, 96, .inl (fl (gN (rT S.G.2.2.1)))))], [(qs 16, .inl (cI, 901, .inl fD))], [(qs 17, .inl (cI, 901, .inl fX))], [(qs 18, .inl (cI, 144, .inl (fl MK)))], [(qs 19, .inl (cI, 144, .inl (fl MF)))]]) H := hP
      have hD : va_D A (List.flatten [[rf_o h qs (nI 1) ma S.T.2.2.1.2.1 ca S.D.2.1.2.1 na S.G.2.2.2.1.2.1 S.D.1.2.1 S.D.2.2.1 S.D.2.2.2.1 S.D.2.2.2.2 S.lost], [(qs 0, .inl (cI, 12, .inl (lI S.eb)))], [(qs 1, .inl (cI, 144, .inl (fl (gN S.lk))))], [(qs 2, .inl (cI, 144, .inl (fl (gN wt))))], [(qs 3, .inl (cZ, 144, .inl (fl (kB S.kn))))], [(qs 4, .inl (cI, 1600, .inl fR))], [(qs 5, .inl (cI, 1600, .inl fN))], [(qs 6, .inl (cJ, 1600, .inr (.inl fL)))], [(qs 7, .inl (cJ, 1600, .inr (.inl fH)))], [(qs 8, .inl (cZ, 1600, .inl (dB uf)))], [(qs 9, .inl (cI, 144, .inl (fl (sI S.T.2.1))))], [(qs 10, .inl (cI, 4000, .inl fM))], [(qs 11, .inl (cJ, 4000, .inr (.inl fC)))], [(qs 12, .inl (cI, 4000, .inl fT))], [(qs 13, .inl (cI, 8, .inl (lI S.G.1)))], [(qs 14, .inl (cI, 8, .inl S.G.2.1))], [(qs 15, .inl (cI, 96, .inl (fl (gN (rT S.G.2.2.1)))))], [(qs 16, .inl (cI, 901, .inl fD))], [(qs 17, .inl (cI, 901, .inl fX))], [(qs 18, .inl (cI, 144, .inl (fl MK)))], [(qs 19, .inl (cI, 144, .inl (fl MF)))]]) := hD
      refine lv_aload_n hx hb d_Ref_mask_23 rfl (lv_at hl 0 rfl) ?_
      refine va_get (D := D) (ci := 9) (v := .int (nI 1)) (C := R_Ref) (T := T_Ref) (N := 32) hx hb ht in_Ref hown hK hP 0 rfl rfl 0 (by decide) (ht _ kl_Ref_72) (fun _ h9 => h9) rfl d_Ref_mask_24 ?_
      refine ri_if_le hx hb (by omega) d_Ref_mask_27 (tgt := 32) (by decide) (fun h106 => ?_) (fun h106 => ?_)
      · exact absurd h106 (by decide)
      · refine lv_iconst (v := nI 0) hx hb d_Ref_mask_30 (by decide) ?_
        exact ct_iret hQ hx hb hr hlk hP hD hS hK (by omega) (by omega) d_Ref_mask_31 (⟨qs, ma, ca, na, wt, fR, fN, fL, fH, uf, fM, fC, fT, fD, fX, MK, MF, rfl, hwt, hAd, hM, hC, hN, hPd⟩)
    · exact absurd hno (by rw [h5, h12]; decide)
set_option maxHeartbeats 1600000 in
set_option maxRecDepth 100000 in
theorem n_Ref_distance (l : Launch) (D : va_G) (cI cZ cJ cG : ClassId) {h : Nat} {cd : Int32} {S : bm_S} {ws : va_W} (hR : rf_R cI cZ cJ h cd S ws) (hi : rf_i S) (x y : Int32) (hno : rg 0 12 x = false ∨ rg 0 12 y = false) : ct_I l D kls (ty4 cI cZ cJ cG) y_Ref_distance ws_Ref_distance (rm_ 2 50 0 0) [.ref h, .int x, .int y] (ws) (fun z u => rf_R cI cZ cJ h (nI 1) S u) 0 0 := by
  obtain ⟨qs, ma, ca, na, wt, fR, fN, fL, fH, uf, fM, fC, fT, fD, fX, MK, MF, rfl, hwt, hAd, hM, hC, hN, hPd⟩ := hR
  obtain ⟨hsi, heb, h00, hA9, hm9, hcp9, hnt9, hpk9, hgi⟩ := hi
  have hok := hsi.1
  have hkn9 := hsi.2.1
  have hlk9 := hsi.2.2.1
  have hma := hM.1
  refine ct_enterI (cc := b_Ref_distance) (maxL := 3) (ret := (some .int)) (by decide +kernel) (Nat.le_of_ble_eq_true rfl) ?_
  intro p e s m args below meth c hx hb hml hr ht hown hlk hnm A Q hA hK hP hD hQ ls hl
  have hown : s.vm.findClass R_Ref = some m.cls := hown
  have hS : va_S A s.heap s.heap [] := va_S.rf
  have hl : lv_has ls 3 [(0, .ref h), (1, .int x), (2, .int y)] := hl
  have hrt := hsi.2.2.2.2.1
  refine lv_aload_n hx hb d_Ref_distance_0 rfl (lv_at hl 0 rfl) ?_
  refine lv_iload_n hx hb d_Ref_distance_1 rfl (lv_at hl 1 rfl) ?_
  refine ct_rdS (As := [.int x]) (rest := [.ref h]) ⟨hx, hb, hml, hown, ht⟩ (k_Ref_isRouter l D cI cZ cJ cG (x)) (cb_S ht kc_Ref_isRouter kl_Ref_82 kn_Ref ki_Ref_isRouter hd_Ref_isRouter ⟨Nat.le_of_ble_eq_true rfl, Nat.le_of_ble_eq_true rfl⟩) (wd_ct (Bs := [[rf_o h qs cd ma S.T.2.2.1.2.1 ca S.D.2.1.2.1 na S.G.2.2.2.1.2.1 S.D.1.2.1 S.D.2.2.1 S.D.2.2.2.1 S.D.2.2.2.2 S.lost], [(qs 0, .inl (cI, 12, .inl (lI S.eb)))], [(qs 1, .inl (cI, 144, .inl (fl (gN S.lk))))], [(qs 2, .inl (cI, 144, .inl (fl (gN wt))))], [(qs 3, .inl (cZ, 144, .inl (fl (kB S.kn))))], [(qs 4, .inl (cI, 1600, .inl fR))], [(qs 5, .inl (cI, 1600, .inl fN))], [(qs 6, .inl (cJ, 1600, .inr (.inl fL)))], [(qs 7, .inl (cJ, 1600, .inr (.inl fH)))], [(qs 8, .inl (cZ, 1600, .inl (dB uf)))], [(qs 9, .inl (cI, 144, .inl (fl (sI S.T.2.1))))], [(qs 10, .inl (cI, 4000, .inl fM))], [(qs 11, .inl (cJ, 4000, .inr (.inl fC)))], [(qs 12, .inl (cI, 4000, .inl fT))], [(qs 13, .inl (cI, 8, .inl (lI S.G.1)))], [(qs 14, .inl (cI, 8, .inl S.G.2.1))], [(qs 15, .inl (cI, 96, .inl (fl (gN (rT S.G.2.2.1)))))], [(qs 16, .inl (cI, 901, .inl fD))], [(qs 17, .inl (cI, 901, .inl fX))], [(qs 18, .inl (cI, 144, .inl (fl MK)))], [(qs 19, .inl (cI, 144, .inl (fl MF)))]]) 21 rfl [] [0, 1, 2, 3, 4, 5, 6, 7, 8, 9, 10, 11, 12, 13, 14, 15, 16, 17, 18, 19, 20] (by decide) rfl) hK hP hD hS hA rfl hl.1 rfl (Nat.le_of_ble_eq_true rfl) ⟨(show 0 + 0 ≤ 0 by omega), (show 0 + 0 ≤ 0 by omega)⟩ d_Ref_distance_2 (fun rhr101 H locs hr101 hP hD hS => ?_)
  subst hr101
  refine ri_ifeqB hx hb d_Ref_distance_5 (tgt := 19) (by decide) (fun h5 => ?_) (fun h5 => ?_)
  · refine lv_iconst (v := nI 1) hx hb d_Ref_distance_19 (by decide) ?_
    refine va_put (D := D) (ci := 9) (v := .int (nI 1)) (ty := .int) (C := R_Ref) (T := T_Ref) (N := 32) hx hb ht in_Ref t_Ref ok_Ref nm_Ref hown hK hP hD hS 0 rfl rfl 0 (by decide) (ht _ kl_Ref_72) (fun _ h9 => h9) rfl (by decide +kernel) rfl rfl (Nat.le_of_ble_eq_true rfl) d_Ref_distance_20 (fun H locs hP hD hS => ?_)
    have hP : va_P D kls (List.flatten [[rf_o h qs (nI 1) ma S.T.2.2.1.2.1 ca S.D.2.1.2.1 na S.G.2.2.2.1.2.1 S.D.1.2.1 S.D.2.2.1 S.D.2.2.2.1 S.D.2.2.2.2 S.lost], [(qs 0, .inl (cI, 12, .inl (lI S.eb)))], [(qs 1, .inl (cI, 144, .inl (fl (gN S.lk))))], [(qs 2, .inl (cI, 144, .inl (fl (gN wt))))], [(qs 3, .inl (cZ, 144, .inl (fl (kB S.kn))))], [(qs 4, .inl (cI, 1600, .inl fR))], [(qs 5, .inl (cI, 1600, .inl fN))], [(qs 6, .inl (cJ, 1600, .inr (.inl fL)))], [(qs 7, .inl (cJ, 1600, .inr (.inl fH)))], [(qs 8, .inl (cZ, 1600, .inl (dB uf)))], [(qs 9, .inl (cI, 144, .inl (fl (sI S.T.2.1))))], [(qs 10, .inl (cI, 4000, .inl fM))], [(qs 11, .inl (cJ, 4000, .inr (.inl fC)))], [(qs 12, .inl (cI, 4000, .inl fT))], [(qs 13, .inl (cI, 8, .inl (lI S.G.1)))], [(qs 14, .inl (cI, 8, .inl S.G.2.1))], [(qs 15, .inl (cI, 96, .inl (fl (gN (rT S.G.2.2.1)))))], [(qs 16, .inl (cI, 901, .inl fD))], [(qs 17, .inl (cI, 901, .inl fX))], [(qs 18, .inl (cI, 144, .inl (fl MK)))], [(qs 19, .inl (cI, 144, .inl (fl MF)))]]) H := hP
    have hD : va_D A (List.flatten [[rf_o h qs (nI 1) ma S.T.2.2.1.2.1 ca S.D.2.1.2.1 na S.G.2.2.2.1.2.1 S.D.1.2.1 S.D.2.2.1 S.D.2.2.2.1 S.D.2.2.2.2 S.lost], [(qs 0, .inl (cI, 12, .inl (lI S.eb)))], [(qs 1, .inl (cI, 144, .inl (fl (gN S.lk))))], [(qs 2, .inl (cI, 144, .inl (fl (gN wt))))], [(qs 3, .inl (cZ, 144, .inl (fl (kB S.kn))))], [(qs 4, .inl (cI, 1600, .inl fR))], [(qs 5, .inl (cI, 1600, .inl fN))], [(qs 6, .inl (cJ, 1600, .inr (.inl fL)))], [(qs 7, .inl (cJ, 1600, .inr (.inl fH)))], [(qs 8, .inl (cZ, 1600, .inl (dB uf)))], [(qs 9, .inl (cI, 144, .inl (fl (sI S.T.2.1))))], [(qs 10, .inl (cI, 4000, .inl fM))], [(qs 11, .inl (cJ, 4000, .inr (.inl fC)))], [(qs 12, .inl (cI, 4000, .inl fT))], [(qs 13, .inl (cI, 8, .inl (lI S.G.1)))], [(qs 14, .inl (cI, 8, .inl S.G.2.1))], [(qs 15, .inl (cI, 96, .inl (fl (gN (rT S.G.2.2.1)))))], [(qs 16, .inl (cI, 901, .inl fD))], [(qs 17, .inl (cI, 901, .inl fX))], [(qs 18, .inl (cI, 144, .inl (fl MK)))], [(qs 19, .inl (cI, 144, .inl (fl MF)))]]) := hD
    refine lv_aload_n hx hb d_Ref_distance_23 rfl (lv_at hl 0 rfl) ?_
    refine va_get (D := D) (ci := 9) (v := .int (nI 1)) (C := R_Ref) (T := T_Ref) (N := 32) hx hb ht in_Ref hown hK hP 0 rfl rfl 0 (by decide) (ht _ kl_Ref_72) (fun _ h9 => h9) rfl d_Ref_distance_24 ?_
    refine ri_if_le hx hb (by omega) d_Ref_distance_27 (tgt := 32) (by decide) (fun h103 => ?_) (fun h103 => ?_)
    · exact absurd h103 (by decide)
    · refine lv_iconst (v := nI 0) hx hb d_Ref_distance_30 (by decide) ?_
      exact ct_iret hQ hx hb hr hlk hP hD hS hK (by omega) (by omega) d_Ref_distance_31 (⟨qs, ma, ca, na, wt, fR, fN, fL, fH, uf, fM, fC, fT, fD, fX, MK, MF, rfl, hwt, hAd, hM, hC, hN, hPd⟩)
  · refine lv_iload_n hx hb d_Ref_distance_8 rfl (lv_at hl 2 rfl) ?_
    refine ct_rdS (As := [.int y]) (rest := [.ref h]) ⟨hx, hb, hml, hown, ht⟩ (k_Ref_isRouter l D cI cZ cJ cG (y)) (cb_S ht kc_Ref_isRouter kl_Ref_82 kn_Ref ki_Ref_isRouter hd_Ref_isRouter ⟨Nat.le_of_ble_eq_true rfl, Nat.le_of_ble_eq_true rfl⟩) (wd_ct (Bs := [[rf_o h qs cd ma S.T.2.2.1.2.1 ca S.D.2.1.2.1 na S.G.2.2.2.1.2.1 S.D.1.2.1 S.D.2.2.1 S.D.2.2.2.1 S.D.2.2.2.2 S.lost], [(qs 0, .inl (cI, 12, .inl (lI S.eb)))], [(qs 1, .inl (cI, 144, .inl (fl (gN S.lk))))], [(qs 2, .inl (cI, 144, .inl (fl (gN wt))))], [(qs 3, .inl (cZ, 144, .inl (fl (kB S.kn))))], [(qs 4, .inl (cI, 1600, .inl fR))], [(qs 5, .inl (cI, 1600, .inl fN))], [(qs 6, .inl (cJ, 1600, .inr (.inl fL)))], [(qs 7, .inl (cJ, 1600, .inr (.inl fH)))], [(qs 8, .inl (cZ, 1600, .inl (dB uf)))], [(qs 9, .inl (cI, 144, .inl (fl (sI S.T.2.1))))], [(qs 10, .inl (cI, 4000, .inl fM))], [(qs 11, .inl (cJ, 4000, .inr (.inl fC)))], [(qs 12, .inl (cI, 4000, .inl fT))], [(qs 13, .inl (cI, 8, .inl (lI S.G.1)))], [(qs 14, .inl (cI, 8, .inl S.G.2.1))], [(qs 15, .inl (cI, 96, .inl (fl (gN (rT S.G.2.2.1)))))], [(qs 16, .inl (cI, 901, .inl fD))], [(qs 17, .inl (cI, 901, .inl fX))], [(qs 18, .inl (cI, 144, .inl (fl MK)))], [(qs 19, .inl (cI, 144, .inl (fl MF)))]]) 21 rfl [] [0, 1, 2, 3, 4, 5, 6, 7, 8, 9, 10, 11, 12, 13, 14, 15, 16, 17, 18, 19, 20] (by decide) rfl) hK hP hD hS hA rfl hl.1 rfl (Nat.le_of_ble_eq_true rfl) ⟨(show 0 + 0 ≤ 0 by omega), (show 0 + 0 ≤ 0 by omega)⟩ d_Ref_distance_9 (fun rhr104 H locs hr104 hP hD hS => ?_)
    subst hr104
    refine ri_ifeqB hx hb d_Ref_distance_12 (tgt := 19) (by decide) (fun h12 => ?_) (fun h12 => ?_)
    · refine lv_iconst (v := nI 1) hx hb d_Ref_distance_19 (by decide) ?_
      refine va_put (D := D) (ci := 9) (v := .int (nI 1)) (ty := .int) (C := R_Ref) (T := T_Ref) (N := 32) hx hb ht in_Ref t_Ref ok_Ref nm_Ref hown hK hP hD hS 0 rfl rfl 0 (by decide) (ht _ kl_Ref_72) (fun _ h9 => h9) rfl (by decide +kernel) rfl rfl (Nat.le_of_ble_eq_true rfl) d_Ref_distance_20 (fun H locs hP hD hS => ?_)
      have hP : va_P D kls (List.flatten [[rf_o h qs (nI 1) ma S.T.2.2.1.2.1 ca S.D.2.1.2.1 na S.G.2.2.2.1.2.1 S.D.1.2.1 S.D.2.2.1 S.D.2.2.2.1 S.D.2.2.2.2 S.lost], [(qs 0, .inl (cI, 12, .inl (lI S.eb)))], [(qs 1, .inl (cI, 144, .inl (fl (gN S.lk))))], [(qs 2, .inl (cI, 144, .inl (fl (gN wt))))], [(qs 3, .inl (cZ, 144, .inl (fl (kB S.kn))))], [(qs 4, .inl (cI, 1600, .inl fR))], [(qs 5, .inl (cI, 1600, .inl fN))], [(qs 6, .inl (cJ, 1600, .inr (.inl fL)))], [(qs 7, .inl (cJ, 1600, .inr (.inl fH)))], [(qs 8, .inl (cZ, 1600, .inl (dB uf)))], [(qs 9, .inl (cI, 144, .inl (fl (sI S.T.2.1))))], [(qs 10, .inl (cI, 4000, .inl fM))], [(qs 11, .inl (cJ, 4000, .inr (.inl fC)))], [(qs 12, .inl (cI, 4000, .inl fT))], [(qs 13, .inl (cI, 8, .inl (lI S.G.1)))], [(qs 14, .inl (cI, 8, .inl S.G.2.1))], [(qs 15, .inl (cI, 96, .inl (fl (gN (rT S.G.2.2.1)))))], [(qs 16, .inl (cI, 901, .inl fD))], [(qs 17, .inl (cI, 901, .inl fX))], [(qs 18, .inl (cI, 144, .inl (fl MK)))], [(qs 19, .inl (cI, 144, .inl (fl MF)))]]) H := hP
      have hD : va_D A (List.flatten [[rf_o h qs (nI 1) ma S.T.2.2.1.2.1 ca S.D.2.1.2.1 na S.G.2.2.2.1.2.1 S.D.1.2.1 S.D.2.2.1 S.D.2.2.2.1 S.D.2.2.2.2 S.lost], [(qs 0, .inl (cI, 12, .inl (lI S.eb)))], [(qs 1, .inl (cI, 144, .inl (fl (gN S.lk))))], [(qs 2, .inl (cI, 144, .inl (fl (gN wt))))], [(qs 3, .inl (cZ, 144, .inl (fl (kB S.kn))))], [(qs 4, .inl (cI, 1600, .inl fR))], [(qs 5, .inl (cI, 1600, .inl fN))], [(qs 6, .inl (cJ, 1600, .inr (.inl fL)))], [(qs 7, .inl (cJ, 1600, .inr (.inl fH)))], [(qs 8, .inl (cZ, 1600, .inl (dB uf)))], [(qs 9, .inl (cI, 144, .inl (fl (sI S.T.2.1))))], [(qs 10, .inl (cI, 4000, .inl fM))], [(qs 11, .inl (cJ, 4000, .inr (.inl fC)))], [(qs 12, .inl (cI, 4000, .inl fT))], [(qs 13, .inl (cI, 8, .inl (lI S.G.1)))], [(qs 14, .inl (cI, 8, .inl S.G.2.1))], [(qs 15, .inl (cI, 96, .inl (fl (gN (rT S.G.2.2.1)))))], [(qs 16, .inl (cI, 901, .inl fD))], [(qs 17, .inl (cI, 901, .inl fX))], [(qs 18, .inl (cI, 144, .inl (fl MK)))], [(qs 19, .inl (cI, 144, .inl (fl MF)))]]) := hD
      refine lv_aload_n hx hb d_Ref_distance_23 rfl (lv_at hl 0 rfl) ?_
      refine va_get (D := D) (ci := 9) (v := .int (nI 1)) (C := R_Ref) (T := T_Ref) (N := 32) hx hb ht in_Ref hown hK hP 0 rfl rfl 0 (by decide) (ht _ kl_Ref_72) (fun _ h9 => h9) rfl d_Ref_distance_24 ?_
      refine ri_if_le hx hb (by omega) d_Ref_distance_27 (tgt := 32) (by decide) (fun h106 => ?_) (fun h106 => ?_)
      · exact absurd h106 (by decide)
      · refine lv_iconst (v := nI 0) hx hb d_Ref_distance_30 (by decide) ?_
        exact ct_iret hQ hx hb hr hlk hP hD hS hK (by omega) (by omega) d_Ref_distance_31 (⟨qs, ma, ca, na, wt, fR, fN, fL, fH, uf, fM, fC, fT, fD, fX, MK, MF, rfl, hwt, hAd, hM, hC, hN, hPd⟩)
    · exact absurd hno (by rw [h5, h12]; decide)
set_option maxHeartbeats 1600000 in
set_option maxRecDepth 100000 in
theorem n_Ref_alternate (l : Launch) (D : va_G) (cI cZ cJ cG : ClassId) {h : Nat} {cd : Int32} {S : bm_S} {ws : va_W} (hR : rf_R cI cZ cJ h cd S ws) (hi : rf_i S) (x y : Int32) (hno : rg 0 12 x = false ∨ rg 0 12 y = false) : ct_I l D kls (ty4 cI cZ cJ cG) y_Ref_alternate ws_Ref_alternate (rm_ 2 50 0 0) [.ref h, .int x, .int y] (ws) (fun z u => rf_R cI cZ cJ h (nI 1) S u) 0 0 := by
  obtain ⟨qs, ma, ca, na, wt, fR, fN, fL, fH, uf, fM, fC, fT, fD, fX, MK, MF, rfl, hwt, hAd, hM, hC, hN, hPd⟩ := hR
  obtain ⟨hsi, heb, h00, hA9, hm9, hcp9, hnt9, hpk9, hgi⟩ := hi
  have hok := hsi.1
  have hkn9 := hsi.2.1
  have hlk9 := hsi.2.2.1
  have hma := hM.1
  refine ct_enterI (cc := b_Ref_alternate) (maxL := 5) (ret := (some .int)) (by decide +kernel) (Nat.le_of_ble_eq_true rfl) ?_
  intro p e s m args below meth c hx hb hml hr ht hown hlk hnm A Q hA hK hP hD hQ ls hl
  have hown : s.vm.findClass R_Ref = some m.cls := hown
  have hS : va_S A s.heap s.heap [] := va_S.rf
  have hl : lv_has ls 5 [(0, .ref h), (1, .int x), (2, .int y)] := hl
  have hrt := hsi.2.2.2.2.1
  refine lv_aload_n hx hb d_Ref_alternate_0 rfl (lv_at hl 0 rfl) ?_
  refine lv_iload_n hx hb d_Ref_alternate_1 rfl (lv_at hl 1 rfl) ?_
  refine ct_rdS (As := [.int x]) (rest := [.ref h]) ⟨hx, hb, hml, hown, ht⟩ (k_Ref_isRouter l D cI cZ cJ cG (x)) (cb_S ht kc_Ref_isRouter kl_Ref_82 kn_Ref ki_Ref_isRouter hd_Ref_isRouter ⟨Nat.le_of_ble_eq_true rfl, Nat.le_of_ble_eq_true rfl⟩) (wd_ct (Bs := [[rf_o h qs cd ma S.T.2.2.1.2.1 ca S.D.2.1.2.1 na S.G.2.2.2.1.2.1 S.D.1.2.1 S.D.2.2.1 S.D.2.2.2.1 S.D.2.2.2.2 S.lost], [(qs 0, .inl (cI, 12, .inl (lI S.eb)))], [(qs 1, .inl (cI, 144, .inl (fl (gN S.lk))))], [(qs 2, .inl (cI, 144, .inl (fl (gN wt))))], [(qs 3, .inl (cZ, 144, .inl (fl (kB S.kn))))], [(qs 4, .inl (cI, 1600, .inl fR))], [(qs 5, .inl (cI, 1600, .inl fN))], [(qs 6, .inl (cJ, 1600, .inr (.inl fL)))], [(qs 7, .inl (cJ, 1600, .inr (.inl fH)))], [(qs 8, .inl (cZ, 1600, .inl (dB uf)))], [(qs 9, .inl (cI, 144, .inl (fl (sI S.T.2.1))))], [(qs 10, .inl (cI, 4000, .inl fM))], [(qs 11, .inl (cJ, 4000, .inr (.inl fC)))], [(qs 12, .inl (cI, 4000, .inl fT))], [(qs 13, .inl (cI, 8, .inl (lI S.G.1)))], [(qs 14, .inl (cI, 8, .inl S.G.2.1))], [(qs 15, .inl (cI, 96, .inl (fl (gN (rT S.G.2.2.1)))))], [(qs 16, .inl (cI, 901, .inl fD))], [(qs 17, .inl (cI, 901, .inl fX))], [(qs 18, .inl (cI, 144, .inl (fl MK)))], [(qs 19, .inl (cI, 144, .inl (fl MF)))]]) 21 rfl [] [0, 1, 2, 3, 4, 5, 6, 7, 8, 9, 10, 11, 12, 13, 14, 15, 16, 17, 18, 19, 20] (by decide) rfl) hK hP hD hS hA rfl hl.1 rfl (Nat.le_of_ble_eq_true rfl) ⟨(show 0 + 0 ≤ 0 by omega), (show 0 + 0 ≤ 0 by omega)⟩ d_Ref_alternate_2 (fun rhr101 H locs hr101 hP hD hS => ?_)
  subst hr101
  refine ri_ifeqB hx hb d_Ref_alternate_5 (tgt := 19) (by decide) (fun h5 => ?_) (fun h5 => ?_)
  · refine lv_iconst (v := nI 1) hx hb d_Ref_alternate_19 (by decide) ?_
    refine va_put (D := D) (ci := 9) (v := .int (nI 1)) (ty := .int) (C := R_Ref) (T := T_Ref) (N := 32) hx hb ht in_Ref t_Ref ok_Ref nm_Ref hown hK hP hD hS 0 rfl rfl 0 (by decide) (ht _ kl_Ref_72) (fun _ h9 => h9) rfl (by decide +kernel) rfl rfl (Nat.le_of_ble_eq_true rfl) d_Ref_alternate_20 (fun H locs hP hD hS => ?_)
    have hP : va_P D kls (List.flatten [[rf_o h qs (nI 1) ma S.T.2.2.1.2.1 ca S.D.2.1.2.1 na S.G.2.2.2.1.2.1 S.D.1.2.1 S.D.2.2.1 S.D.2.2.2.1 S.D.2.2.2.2 S.lost], [(qs 0, .inl (cI, 12, .inl (lI S.eb)))], [(qs 1, .inl (cI, 144, .inl (fl (gN S.lk))))], [(qs 2, .inl (cI, 144, .inl (fl (gN wt))))], [(qs 3, .inl (cZ, 144, .inl (fl (kB S.kn))))], [(qs 4, .inl (cI, 1600, .inl fR))], [(qs 5, .inl (cI, 1600, .inl fN))], [(qs 6, .inl (cJ, 1600, .inr (.inl fL)))], [(qs 7, .inl (cJ, 1600, .inr (.inl fH)))], [(qs 8, .inl (cZ, 1600, .inl (dB uf)))], [(qs 9, .inl (cI, 144, .inl (fl (sI S.T.2.1))))], [(qs 10, .inl (cI, 4000, .inl fM))], [(qs 11, .inl (cJ, 4000, .inr (.inl fC)))], [(qs 12, .inl (cI, 4000, .inl fT))], [(qs 13, .inl (cI, 8, .inl (lI S.G.1)))], [(qs 14, .inl (cI, 8, .inl S.G.2.1))], [(qs 15, .inl (cI, 96, .inl (fl (gN (rT S.G.2.2.1)))))], [(qs 16, .inl (cI, 901, .inl fD))], [(qs 17, .inl (cI, 901, .inl fX))], [(qs 18, .inl (cI, 144, .inl (fl MK)))], [(qs 19, .inl (cI, 144, .inl (fl MF)))]]) H := hP
    have hD : va_D A (List.flatten [[rf_o h qs (nI 1) ma S.T.2.2.1.2.1 ca S.D.2.1.2.1 na S.G.2.2.2.1.2.1 S.D.1.2.1 S.D.2.2.1 S.D.2.2.2.1 S.D.2.2.2.2 S.lost], [(qs 0, .inl (cI, 12, .inl (lI S.eb)))], [(qs 1, .inl (cI, 144, .inl (fl (gN S.lk))))], [(qs 2, .inl (cI, 144, .inl (fl (gN wt))))], [(qs 3, .inl (cZ, 144, .inl (fl (kB S.kn))))], [(qs 4, .inl (cI, 1600, .inl fR))], [(qs 5, .inl (cI, 1600, .inl fN))], [(qs 6, .inl (cJ, 1600, .inr (.inl fL)))], [(qs 7, .inl (cJ, 1600, .inr (.inl fH)))], [(qs 8, .inl (cZ, 1600, .inl (dB uf)))], [(qs 9, .inl (cI, 144, .inl (fl (sI S.T.2.1))))], [(qs 10, .inl (cI, 4000, .inl fM))], [(qs 11, .inl (cJ, 4000, .inr (.inl fC)))], [(qs 12, .inl (cI, 4000, .inl fT))], [(qs 13, .inl (cI, 8, .inl (lI S.G.1)))], [(qs 14, .inl (cI, 8, .inl S.G.2.1))], [(qs 15, .inl (cI, 96, .inl (fl (gN (rT S.G.2.2.1)))))], [(qs 16, .inl (cI, 901, .inl fD))], [(qs 17, .inl (cI, 901, .inl fX))], [(qs 18, .inl (cI, 144, .inl (fl MK)))], [(qs 19, .inl (cI, 144, .inl (fl MF)))]]) := hD
    refine lv_aload_n hx hb d_Ref_alternate_23 rfl (lv_at hl 0 rfl) ?_
    refine va_get (D := D) (ci := 9) (v := .int (nI 1)) (C := R_Ref) (T := T_Ref) (N := 32) hx hb ht in_Ref hown hK hP 0 rfl rfl 0 (by decide) (ht _ kl_Ref_72) (fun _ h9 => h9) rfl d_Ref_alternate_24 ?_
    refine ri_if_gt hx hb (by omega) d_Ref_alternate_27 (tgt := 35) (by decide) (fun h103 => ?_) (fun h103 => ?_)
    · refine lv_aload_n hx hb d_Ref_alternate_35 rfl (lv_at hl 0 rfl) ?_
      refine va_get (D := D) (ci := 9) (v := .int (nI 1)) (C := R_Ref) (T := T_Ref) (N := 32) hx hb ht in_Ref hown hK hP 0 rfl rfl 0 (by decide) (ht _ kl_Ref_72) (fun _ h9 => h9) rfl d_Ref_alternate_36 ?_
      refine ri_if_le hx hb (by omega) d_Ref_alternate_39 (tgt := 46) (by decide) (fun h104 => ?_) (fun h104 => ?_)
      · exact absurd h104 (by decide)
      · refine lv_iconst (v := nI 0) hx hb d_Ref_alternate_42 (by decide) ?_
        refine lv_goto hx hb d_Ref_alternate_43 (tgt := 47) (by decide) ?_
        exact ct_iret hQ hx hb hr hlk hP hD hS hK (by omega) (by omega) d_Ref_alternate_47 (⟨qs, ma, ca, na, wt, fR, fN, fL, fH, uf, fM, fC, fT, fD, fX, MK, MF, rfl, hwt, hAd, hM, hC, hN, hPd⟩)
    · exact absurd h103 (by decide)
  · refine lv_iload_n hx hb d_Ref_alternate_8 rfl (lv_at hl 2 rfl) ?_
    refine ct_rdS (As := [.int y]) (rest := [.ref h]) ⟨hx, hb, hml, hown, ht⟩ (k_Ref_isRouter l D cI cZ cJ cG (y)) (cb_S ht kc_Ref_isRouter kl_Ref_82 kn_Ref ki_Ref_isRouter hd_Ref_isRouter ⟨Nat.le_of_ble_eq_true rfl, Nat.le_of_ble_eq_true rfl⟩) (wd_ct (Bs := [[rf_o h qs cd ma S.T.2.2.1.2.1 ca S.D.2.1.2.1 na S.G.2.2.2.1.2.1 S.D.1.2.1 S.D.2.2.1 S.D.2.2.2.1 S.D.2.2.2.2 S.lost], [(qs 0, .inl (cI, 12, .inl (lI S.eb)))], [(qs 1, .inl (cI, 144, .inl (fl (gN S.lk))))], [(qs 2, .inl (cI, 144, .inl (fl (gN wt))))], [(qs 3, .inl (cZ, 144, .inl (fl (kB S.kn))))], [(qs 4, .inl (cI, 1600, .inl fR))], [(qs 5, .inl (cI, 1600, .inl fN))], [(qs 6, .inl (cJ, 1600, .inr (.inl fL)))], [(qs 7, .inl (cJ, 1600, .inr (.inl fH)))], [(qs 8, .inl (cZ, 1600, .inl (dB uf)))], [(qs 9, .inl (cI, 144, .inl (fl (sI S.T.2.1))))], [(qs 10, .inl (cI, 4000, .inl fM))], [(qs 11, .inl (cJ, 4000, .inr (.inl fC)))], [(qs 12, .inl (cI, 4000, .inl fT))], [(qs 13, .inl (cI, 8, .inl (lI S.G.1)))], [(qs 14, .inl (cI, 8, .inl S.G.2.1))], [(qs 15, .inl (cI, 96, .inl (fl (gN (rT S.G.2.2.1)))))], [(qs 16, .inl (cI, 901, .inl fD))], [(qs 17, .inl (cI, 901, .inl fX))], [(qs 18, .inl (cI, 144, .inl (fl MK)))], [(qs 19, .inl (cI, 144, .inl (fl MF)))]]) 21 rfl [] [0, 1, 2, 3, 4, 5, 6, 7, 8, 9, 10, 11, 12, 13, 14, 15, 16, 17, 18, 19, 20] (by decide) rfl) hK hP hD hS hA rfl hl.1 rfl (Nat.le_of_ble_eq_true rfl) ⟨(show 0 + 0 ≤ 0 by omega), (show 0 + 0 ≤ 0 by omega)⟩ d_Ref_alternate_9 (fun rhr105 H locs hr105 hP hD hS => ?_)
    subst hr105
    refine ri_ifeqB hx hb d_Ref_alternate_12 (tgt := 19) (by decide) (fun h12 => ?_) (fun h12 => ?_)
    · refine lv_iconst (v := nI 1) hx hb d_Ref_alternate_19 (by decide) ?_
      refine va_put (D := D) (ci := 9) (v := .int (nI 1)) (ty := .int) (C := R_Ref) (T := T_Ref) (N := 32) hx hb ht in_Ref t_Ref ok_Ref nm_Ref hown hK hP hD hS 0 rfl rfl 0 (by decide) (ht _ kl_Ref_72) (fun _ h9 => h9) rfl (by decide +kernel) rfl rfl (Nat.le_of_ble_eq_true rfl) d_Ref_alternate_20 (fun H locs hP hD hS => ?_)
      have hP : va_P D kls (List.flatten [[rf_o h qs (nI 1) ma S.T.2.2.1.2.1 ca S.D.2.1.2.1 na S.G.2.2.2.1.2.1 S.D.1.2.1 S.D.2.2.1 S.D.2.2.2.1 S.D.2.2.2.2 S.lost], [(qs 0, .inl (cI, 12, .inl (lI S.eb)))], [(qs 1, .inl (cI, 144, .inl (fl (gN S.lk))))], [(qs 2, .inl (cI, 144, .inl (fl (gN wt))))], [(qs 3, .inl (cZ, 144, .inl (fl (kB S.kn))))], [(qs 4, .inl (cI, 1600, .inl fR))], [(qs 5, .inl (cI, 1600, .inl fN))], [(qs 6, .inl (cJ, 1600, .inr (.inl fL)))], [(qs 7, .inl (cJ, 1600, .inr (.inl fH)))], [(qs 8, .inl (cZ, 1600, .inl (dB uf)))], [(qs 9, .inl (cI, 144, .inl (fl (sI S.T.2.1))))], [(qs 10, .inl (cI, 4000, .inl fM))], [(qs 11, .inl (cJ, 4000, .inr (.inl fC)))], [(qs 12, .inl (cI, 4000, .inl fT))], [(qs 13, .inl (cI, 8, .inl (lI S.G.1)))], [(qs 14, .inl (cI, 8, .inl S.G.2.1))], [(qs 15, .inl (cI, 96, .inl (fl (gN (rT S.G.2.2.1)))))], [(qs 16, .inl (cI, 901, .inl fD))], [(qs 17, .inl (cI, 901, .inl fX))], [(qs 18, .inl (cI, 144, .inl (fl MK)))], [(qs 19, .inl (cI, 144, .inl (fl MF)))]]) H := hP
      have hD : va_D A (List.flatten [[rf_o h qs (nI 1) ma S.T.2.2.1.2.1 ca S.D.2.1.2.1 na S.G.2.2.2.1.2.1 S.D.1.2.1 S.D.2.2.1 S.D.2.2.2.1 S.D.2.2.2.2 S.lost], [(qs 0, .inl (cI, 12, .inl (lI S.eb)))], [(qs 1, .inl (cI, 144, .inl (fl (gN S.lk))))], [(qs 2, .inl (cI, 144, .inl (fl (gN wt))))], [(qs 3, .inl (cZ, 144, .inl (fl (kB S.kn))))], [(qs 4, .inl (cI, 1600, .inl fR))], [(qs 5, .inl (cI, 1600, .inl fN))], [(qs 6, .inl (cJ, 1600, .inr (.inl fL)))], [(qs 7, .inl (cJ, 1600, .inr (.inl fH)))], [(qs 8, .inl (cZ, 1600, .inl (dB uf)))], [(qs 9, .inl (cI, 144, .inl (fl (sI S.T.2.1))))], [(qs 10, .inl (cI, 4000, .inl fM))], [(qs 11, .inl (cJ, 4000, .inr (.inl fC)))], [(qs 12, .inl (cI, 4000, .inl fT))], [(qs 13, .inl (cI, 8, .inl (lI S.G.1)))], [(qs 14, .inl (cI, 8, .inl S.G.2.1))], [(qs 15, .inl (cI, 96, .inl (fl (gN (rT S.G.2.2.1)))))], [(qs 16, .inl (cI, 901, .inl fD))], [(qs 17, .inl (cI, 901, .inl fX))], [(qs 18, .inl (cI, 144, .inl (fl MK)))], [(qs 19, .inl (cI, 144, .inl (fl MF)))]]) := hD
      refine lv_aload_n hx hb d_Ref_alternate_23 rfl (lv_at hl 0 rfl) ?_
      refine va_get (D := D) (ci := 9) (v := .int (nI 1)) (C := R_Ref) (T := T_Ref) (N := 32) hx hb ht in_Ref hown hK hP 0 rfl rfl 0 (by decide) (ht _ kl_Ref_72) (fun _ h9 => h9) rfl d_Ref_alternate_24 ?_
      refine ri_if_gt hx hb (by omega) d_Ref_alternate_27 (tgt := 35) (by decide) (fun h107 => ?_) (fun h107 => ?_)
      · refine lv_aload_n hx hb d_Ref_alternate_35 rfl (lv_at hl 0 rfl) ?_
        refine va_get (D := D) (ci := 9) (v := .int (nI 1)) (C := R_Ref) (T := T_Ref) (N := 32) hx hb ht in_Ref hown hK hP 0 rfl rfl 0 (by decide) (ht _ kl_Ref_72) (fun _ h9 => h9) rfl d_Ref_alternate_36 ?_
        refine ri_if_le hx hb (by omega) d_Ref_alternate_39 (tgt := 46) (by decide) (fun h108 => ?_) (fun h108 => ?_)
        · exact absurd h108 (by decide)
        · refine lv_iconst (v := nI 0) hx hb d_Ref_alternate_42 (by decide) ?_
          refine lv_goto hx hb d_Ref_alternate_43 (tgt := 47) (by decide) ?_
          exact ct_iret hQ hx hb hr hlk hP hD hS hK (by omega) (by omega) d_Ref_alternate_47 (⟨qs, ma, ca, na, wt, fR, fN, fL, fH, uf, fM, fC, fT, fD, fX, MK, MF, rfl, hwt, hAd, hM, hC, hN, hPd⟩)
      · exact absurd h107 (by decide)
    · exact absurd hno (by rw [h5, h12]; decide)
set_option maxHeartbeats 1600000 in
set_option maxRecDepth 100000 in
theorem k_Ref_stored (l : Launch) (D : va_G) (cI cZ cJ cG : ClassId) {h : Nat} {cd : Int32} {S : bm_S} {ws : va_W} (hR : rf_R cI cZ cJ h cd S ws) (hi : rf_i S) (r o : Nat) (hr9 : r < 12) (ho9 : o < 12) : ct_I l D kls (ty4 cI cZ cJ cG) y_Ref_stored ws_Ref_stored (rm_ 2 45 0 0) [.ref h, .int (nI r), .int (nI o)] (ws) (fun z u => z = nI (S.T.1.2.2 (S.T.2.1 r o) 1) ∧ rf_R cI cZ cJ h (nI 0) S u) 0 0 := by
  obtain ⟨qs, ma, ca, na, wt, fR, fN, fL, fH, uf, fM, fC, fT, fD, fX, MK, MF, rfl, hwt, hAd, hM, hC, hN, hPd⟩ := hR
  obtain ⟨hsi, heb, h00, hA9, hm9, hcp9, hnt9, hpk9, hgi⟩ := hi
  have hok := hsi.1
  have hkn9 := hsi.2.1
  have hlk9 := hsi.2.2.1
  have hma := hM.1
  refine ct_enterI (cc := b_Ref_stored) (maxL := 3) (ret := (some .int)) (by decide +kernel) (Nat.le_of_ble_eq_true rfl) ?_
  intro p e s m args below meth c hx hb hml hr ht hown hlk hnm A Q hA hK hP hD hQ ls hl
  have hown : s.vm.findClass R_Ref = some m.cls := hown
  have hS : va_S A s.heap s.heap [] := va_S.rf
  have hl : lv_has ls 3 [(0, .ref h), (1, .int (nI r)), (2, .int (nI o))] := hl
  have hrt := hsi.2.2.2.2.1
  refine lv_aload_n hx hb d_Ref_stored_0 rfl (lv_at hl 0 rfl) ?_
  refine lv_iload_n hx hb d_Ref_stored_1 rfl (lv_at hl 1 rfl) ?_
  refine ct_rdS (As := [.int (nI r)]) (rest := [.ref h]) ⟨hx, hb, hml, hown, ht⟩ (k_Ref_isRouter l D cI cZ cJ cG (nI r)) (cb_S ht kc_Ref_isRouter kl_Ref_82 kn_Ref ki_Ref_isRouter hd_Ref_isRouter ⟨Nat.le_of_ble_eq_true rfl, Nat.le_of_ble_eq_true rfl⟩) (wd_ct (Bs := [[rf_o h qs cd ma S.T.2.2.1.2.1 ca S.D.2.1.2.1 na S.G.2.2.2.1.2.1 S.D.1.2.1 S.D.2.2.1 S.D.2.2.2.1 S.D.2.2.2.2 S.lost], [(qs 0, .inl (cI, 12, .inl (lI S.eb)))], [(qs 1, .inl (cI, 144, .inl (fl (gN S.lk))))], [(qs 2, .inl (cI, 144, .inl (fl (gN wt))))], [(qs 3, .inl (cZ, 144, .inl (fl (kB S.kn))))], [(qs 4, .inl (cI, 1600, .inl fR))], [(qs 5, .inl (cI, 1600, .inl fN))], [(qs 6, .inl (cJ, 1600, .inr (.inl fL)))], [(qs 7, .inl (cJ, 1600, .inr (.inl fH)))], [(qs 8, .inl (cZ, 1600, .inl (dB uf)))], [(qs 9, .inl (cI, 144, .inl (fl (sI S.T.2.1))))], [(qs 10, .inl (cI, 4000, .inl fM))], [(qs 11, .inl (cJ, 4000, .inr (.inl fC)))], [(qs 12, .inl (cI, 4000, .inl fT))], [(qs 13, .inl (cI, 8, .inl (lI S.G.1)))], [(qs 14, .inl (cI, 8, .inl S.G.2.1))], [(qs 15, .inl (cI, 96, .inl (fl (gN (rT S.G.2.2.1)))))], [(qs 16, .inl (cI, 901, .inl fD))], [(qs 17, .inl (cI, 901, .inl fX))], [(qs 18, .inl (cI, 144, .inl (fl MK)))], [(qs 19, .inl (cI, 144, .inl (fl MF)))]]) 21 rfl [] [0, 1, 2, 3, 4, 5, 6, 7, 8, 9, 10, 11, 12, 13, 14, 15, 16, 17, 18, 19, 20] (by decide) rfl) hK hP hD hS hA rfl hl.1 rfl (Nat.le_of_ble_eq_true rfl) ⟨(show 0 + 0 ≤ 0 by omega), (show 0 + 0 ≤ 0 by omega)⟩ d_Ref_stored_2 (fun rhr101 H locs hr101 hP hD hS => ?_)
  subst hr101
  refine W.eq (g2 := F0 m 5 ls [.int (bI true), .ref h]) (congrArg (fun z => F0 m 5 ls (.int z :: [.ref h])) (congrArg bI (rg_t12 hr9))) ?_
  refine ri_ifeqB hx hb d_Ref_stored_5 (tgt := 19) (by decide) (fun h102 => ?_) (fun h102 => ?_)
  · exact absurd h102 (fun z => by cases z)
  · refine lv_iload_n hx hb d_Ref_stored_8 rfl (lv_at hl 2 rfl) ?_
    refine ct_rdS (As := [.int (nI o)]) (rest := [.ref h]) ⟨hx, hb, hml, hown, ht⟩ (k_Ref_isRouter l D cI cZ cJ cG (nI o)) (cb_S ht kc_Ref_isRouter kl_Ref_82 kn_Ref ki_Ref_isRouter hd_Ref_isRouter ⟨Nat.le_of_ble_eq_true rfl, Nat.le_of_ble_eq_true rfl⟩) (wd_ct (Bs := [[rf_o h qs cd ma S.T.2.2.1.2.1 ca S.D.2.1.2.1 na S.G.2.2.2.1.2.1 S.D.1.2.1 S.D.2.2.1 S.D.2.2.2.1 S.D.2.2.2.2 S.lost], [(qs 0, .inl (cI, 12, .inl (lI S.eb)))], [(qs 1, .inl (cI, 144, .inl (fl (gN S.lk))))], [(qs 2, .inl (cI, 144, .inl (fl (gN wt))))], [(qs 3, .inl (cZ, 144, .inl (fl (kB S.kn))))], [(qs 4, .inl (cI, 1600, .inl fR))], [(qs 5, .inl (cI, 1600, .inl fN))], [(qs 6, .inl (cJ, 1600, .inr (.inl fL)))], [(qs 7, .inl (cJ, 1600, .inr (.inl fH)))], [(qs 8, .inl (cZ, 1600, .inl (dB uf)))], [(qs 9, .inl (cI, 144, .inl (fl (sI S.T.2.1))))], [(qs 10, .inl (cI, 4000, .inl fM))], [(qs 11, .inl (cJ, 4000, .inr (.inl fC)))], [(qs 12, .inl (cI, 4000, .inl fT))], [(qs 13, .inl (cI, 8, .inl (lI S.G.1)))], [(qs 14, .inl (cI, 8, .inl S.G.2.1))], [(qs 15, .inl (cI, 96, .inl (fl (gN (rT S.G.2.2.1)))))], [(qs 16, .inl (cI, 901, .inl fD))], [(qs 17, .inl (cI, 901, .inl fX))], [(qs 18, .inl (cI, 144, .inl (fl MK)))], [(qs 19, .inl (cI, 144, .inl (fl MF)))]]) 21 rfl [] [0, 1, 2, 3, 4, 5, 6, 7, 8, 9, 10, 11, 12, 13, 14, 15, 16, 17, 18, 19, 20] (by decide) rfl) hK hP hD hS hA rfl hl.1 rfl (Nat.le_of_ble_eq_true rfl) ⟨(show 0 + 0 ≤ 0 by omega), (show 0 + 0 ≤ 0 by omega)⟩ d_Ref_stored_9 (fun rhr103 H locs hr103 hP hD hS => ?_)
    subst hr103
    refine W.eq (g2 := F0 m 12 ls [.int (bI true), .ref h]) (congrArg (fun z => F0 m 12 ls (.int z :: [.ref h])) (congrArg bI (rg_t12 ho9))) ?_
    refine ri_ifeqB hx hb d_Ref_stored_12 (tgt := 19) (by decide) (fun h104 => ?_) (fun h104 => ?_)
    · exact absurd h104 (fun z => by cases z)
    · refine lv_iconst (v := nI 0) hx hb d_Ref_stored_15 (by decide) ?_
      refine lv_goto hx hb d_Ref_stored_16 (tgt := 20) (by decide) ?_
      refine va_put (D := D) (ci := 9) (v := .int (nI 0)) (ty := .int) (C := R_Ref) (T := T_Ref) (N := 32) hx hb ht in_Ref t_Ref ok_Ref nm_Ref hown hK hP hD hS 0 rfl rfl 0 (by decide) (ht _ kl_Ref_72) (fun _ h9 => h9) rfl (by decide +kernel) rfl rfl (Nat.le_of_ble_eq_true rfl) d_Ref_stored_20 (fun H locs hP hD hS => ?_)
      have hP : va_P D kls (List.flatten [[rf_o h qs (nI 0) ma S.T.2.2.1.2.1 ca S.D.2.1.2.1 na S.G.2.2.2.1.2.1 S.D.1.2.1 S.D.2.2.1 S.D.2.2.2.1 S.D.2.2.2.2 S.lost], [(qs 0, .inl (cI, 12, .inl (lI S.eb)))], [(qs 1, .inl (cI, 144, .inl (fl (gN S.lk))))], [(qs 2, .inl (cI, 144, .inl (fl (gN wt))))], [(qs 3, .inl (cZ, 144, .inl (fl (kB S.kn))))], [(qs 4, .inl (cI, 1600, .inl fR))], [(qs 5, .inl (cI, 1600, .inl fN))], [(qs 6, .inl (cJ, 1600, .inr (.inl fL)))], [(qs 7, .inl (cJ, 1600, .inr (.inl fH)))], [(qs 8, .inl (cZ, 1600, .inl (dB uf)))], [(qs 9, .inl (cI, 144, .inl (fl (sI S.T.2.1))))], [(qs 10, .inl (cI, 4000, .inl fM))], [(qs 11, .inl (cJ, 4000, .inr (.inl fC)))], [(qs 12, .inl (cI, 4000, .inl fT))], [(qs 13, .inl (cI, 8, .inl (lI S.G.1)))], [(qs 14, .inl (cI, 8, .inl S.G.2.1))], [(qs 15, .inl (cI, 96, .inl (fl (gN (rT S.G.2.2.1)))))], [(qs 16, .inl (cI, 901, .inl fD))], [(qs 17, .inl (cI, 901, .inl fX))], [(qs 18, .inl (cI, 144, .inl (fl MK)))], [(qs 19, .inl (cI, 144, .inl (fl MF)))]]) H := hP
      have hD : va_D A (List.flatten [[rf_o h qs (nI 0) ma S.T.2.2.1.2.1 ca S.D.2.1.2.1 na S.G.2.2.2.1.2.1 S.D.1.2.1 S.D.2.2.1 S.D.2.2.2.1 S.D.2.2.2.2 S.lost], [(qs 0, .inl (cI, 12, .inl (lI S.eb)))], [(qs 1, .inl (cI, 144, .inl (fl (gN S.lk))))], [(qs 2, .inl (cI, 144, .inl (fl (gN wt))))], [(qs 3, .inl (cZ, 144, .inl (fl (kB S.kn))))], [(qs 4, .inl (cI, 1600, .inl fR))], [(qs 5, .inl (cI, 1600, .inl fN))], [(qs 6, .inl (cJ, 1600, .inr (.inl fL)))], [(qs 7, .inl (cJ, 1600, .inr (.inl fH)))], [(qs 8, .inl (cZ, 1600, .inl (dB uf)))], [(qs 9, .inl (cI, 144, .inl (fl (sI S.T.2.1))))], [(qs 10, .inl (cI, 4000, .inl fM))], [(qs 11, .inl (cJ, 4000, .inr (.inl fC)))], [(qs 12, .inl (cI, 4000, .inl fT))], [(qs 13, .inl (cI, 8, .inl (lI S.G.1)))], [(qs 14, .inl (cI, 8, .inl S.G.2.1))], [(qs 15, .inl (cI, 96, .inl (fl (gN (rT S.G.2.2.1)))))], [(qs 16, .inl (cI, 901, .inl fD))], [(qs 17, .inl (cI, 901, .inl fX))], [(qs 18, .inl (cI, 144, .inl (fl MK)))], [(qs 19, .inl (cI, 144, .inl (fl MF)))]]) := hD
      refine lv_aload_n hx hb d_Ref_stored_23 rfl (lv_at hl 0 rfl) ?_
      refine va_get (D := D) (ci := 9) (v := .int (nI 0)) (C := R_Ref) (T := T_Ref) (N := 32) hx hb ht in_Ref hown hK hP 0 rfl rfl 0 (by decide) (ht _ kl_Ref_72) (fun _ h9 => h9) rfl d_Ref_stored_24 ?_
      refine ri_if_le hx hb (by omega) d_Ref_stored_27 (tgt := 34) (by decide) (fun h105 => ?_) (fun h105 => ?_)
      · refine lv_aload_n hx hb d_Ref_stored_34 rfl (lv_at hl 0 rfl) ?_
        refine lv_iload_n hx hb d_Ref_stored_35 rfl (lv_at hl 1 rfl) ?_
        refine lv_iload_n hx hb d_Ref_stored_36 rfl (lv_at hl 2 rfl) ?_
        refine ct_rdV (C := R_Ref) (ci := 9) (As := [.int (nI r), .int (nI o)]) (rest := []) ⟨hx, hb, hml, hown, ht⟩ (k_Ref_numberOf l D cI cZ cJ cG (fun k hk => (hAd.1 k hk).2.1) (h00 1) (Nat.le_trans hA9 (by decide)) r o (by omega) (by omega) (hok.1 _ _ (by omega) (by omega))) (cb_V ht kc_Ref_numberOf kl_Ref_105 kn_Ref ki_Ref_numberOf ks_Ref_numberOf hd_Ref_numberOf ⟨Nat.le_of_ble_eq_true rfl, Nat.le_of_ble_eq_true rfl⟩) (List.mem_of_getElem? (i := 0) rfl) rfl rfl (wd_ct (Bs := [[rf_o h qs (nI 0) ma S.T.2.2.1.2.1 ca S.D.2.1.2.1 na S.G.2.2.2.1.2.1 S.D.1.2.1 S.D.2.2.1 S.D.2.2.2.1 S.D.2.2.2.2 S.lost], [(qs 0, .inl (cI, 12, .inl (lI S.eb)))], [(qs 1, .inl (cI, 144, .inl (fl (gN S.lk))))], [(qs 2, .inl (cI, 144, .inl (fl (gN wt))))], [(qs 3, .inl (cZ, 144, .inl (fl (kB S.kn))))], [(qs 4, .inl (cI, 1600, .inl fR))], [(qs 5, .inl (cI, 1600, .inl fN))], [(qs 6, .inl (cJ, 1600, .inr (.inl fL)))], [(qs 7, .inl (cJ, 1600, .inr (.inl fH)))], [(qs 8, .inl (cZ, 1600, .inl (dB uf)))], [(qs 9, .inl (cI, 144, .inl (fl (sI S.T.2.1))))], [(qs 10, .inl (cI, 4000, .inl fM))], [(qs 11, .inl (cJ, 4000, .inr (.inl fC)))], [(qs 12, .inl (cI, 4000, .inl fT))], [(qs 13, .inl (cI, 8, .inl (lI S.G.1)))], [(qs 14, .inl (cI, 8, .inl S.G.2.1))], [(qs 15, .inl (cI, 96, .inl (fl (gN (rT S.G.2.2.1)))))], [(qs 16, .inl (cI, 901, .inl fD))], [(qs 17, .inl (cI, 901, .inl fX))], [(qs 18, .inl (cI, 144, .inl (fl MK)))], [(qs 19, .inl (cI, 144, .inl (fl MF)))]]) 21 rfl [0, 6, 10] [1, 2, 3, 4, 5, 7, 8, 9, 11, 12, 13, 14, 15, 16, 17, 18, 19, 20] (by decide) rfl) hK hP hD hS hA rfl hl.1 rfl (Nat.le_of_ble_eq_true rfl) ⟨(show 0 + 0 ≤ 0 by omega), (show 0 + 0 ≤ 0 by omega)⟩ d_Ref_stored_37 (fun rhr106 H locs hr106 hP hD hS => ?_)
        subst hr106
        exact ct_iret hQ hx hb hr hlk hP hD hS hK (by omega) (by omega) d_Ref_stored_40 (⟨rfl, ⟨qs, ma, ca, na, wt, fR, fN, fL, fH, uf, fM, fC, fT, fD, fX, MK, MF, rfl, hwt, hAd, hM, hC, hN, hPd⟩⟩)
      · exact absurd h105 (by decide)
set_option maxHeartbeats 1600000 in
set_option maxRecDepth 100000 in
theorem k_Ref_mask (l : Launch) (D : va_G) (cI cZ cJ cG : ClassId) {h : Nat} {cd : Int32} {S : bm_S} {ws : va_W} (hR : rf_R cI cZ cJ h cd S ws) (hi : rf_i S) (r o : Nat) (hr9 : r < 12) (ho9 : o < 12) : ct_I l D kls (ty4 cI cZ cJ cG) y_Ref_mask ws_Ref_mask (rm_ 2 50 0 0) [.ref h, .int (nI r), .int (nI o)] (ws) (fun z u => z = bm_mkr S.T.1.2.2 S.T.2.1 S.eb r o ∧ rf_R cI cZ cJ h (nI 0) S u) 0 0 := by
  obtain ⟨qs, ma, ca, na, wt, fR, fN, fL, fH, uf, fM, fC, fT, fD, fX, MK, MF, rfl, hwt, hAd, hM, hC, hN, hPd⟩ := hR
  obtain ⟨hsi, heb, h00, hA9, hm9, hcp9, hnt9, hpk9, hgi⟩ := hi
  have hok := hsi.1
  have hkn9 := hsi.2.1
  have hlk9 := hsi.2.2.1
  have hma := hM.1
  refine ct_enterI (cc := b_Ref_mask) (maxL := 3) (ret := (some .int)) (by decide +kernel) (Nat.le_of_ble_eq_true rfl) ?_
  intro p e s m args below meth c hx hb hml hr ht hown hlk hnm A Q hA hK hP hD hQ ls hl
  have hown : s.vm.findClass R_Ref = some m.cls := hown
  have hS : va_S A s.heap s.heap [] := va_S.rf
  have hl : lv_has ls 3 [(0, .ref h), (1, .int (nI r)), (2, .int (nI o))] := hl
  have hrt := hsi.2.2.2.2.1
  refine lv_aload_n hx hb d_Ref_mask_0 rfl (lv_at hl 0 rfl) ?_
  refine lv_iload_n hx hb d_Ref_mask_1 rfl (lv_at hl 1 rfl) ?_
  refine ct_rdS (As := [.int (nI r)]) (rest := [.ref h]) ⟨hx, hb, hml, hown, ht⟩ (k_Ref_isRouter l D cI cZ cJ cG (nI r)) (cb_S ht kc_Ref_isRouter kl_Ref_82 kn_Ref ki_Ref_isRouter hd_Ref_isRouter ⟨Nat.le_of_ble_eq_true rfl, Nat.le_of_ble_eq_true rfl⟩) (wd_ct (Bs := [[rf_o h qs cd ma S.T.2.2.1.2.1 ca S.D.2.1.2.1 na S.G.2.2.2.1.2.1 S.D.1.2.1 S.D.2.2.1 S.D.2.2.2.1 S.D.2.2.2.2 S.lost], [(qs 0, .inl (cI, 12, .inl (lI S.eb)))], [(qs 1, .inl (cI, 144, .inl (fl (gN S.lk))))], [(qs 2, .inl (cI, 144, .inl (fl (gN wt))))], [(qs 3, .inl (cZ, 144, .inl (fl (kB S.kn))))], [(qs 4, .inl (cI, 1600, .inl fR))], [(qs 5, .inl (cI, 1600, .inl fN))], [(qs 6, .inl (cJ, 1600, .inr (.inl fL)))], [(qs 7, .inl (cJ, 1600, .inr (.inl fH)))], [(qs 8, .inl (cZ, 1600, .inl (dB uf)))], [(qs 9, .inl (cI, 144, .inl (fl (sI S.T.2.1))))], [(qs 10, .inl (cI, 4000, .inl fM))], [(qs 11, .inl (cJ, 4000, .inr (.inl fC)))], [(qs 12, .inl (cI, 4000, .inl fT))], [(qs 13, .inl (cI, 8, .inl (lI S.G.1)))], [(qs 14, .inl (cI, 8, .inl S.G.2.1))], [(qs 15, .inl (cI, 96, .inl (fl (gN (rT S.G.2.2.1)))))], [(qs 16, .inl (cI, 901, .inl fD))], [(qs 17, .inl (cI, 901, .inl fX))], [(qs 18, .inl (cI, 144, .inl (fl MK)))], [(qs 19, .inl (cI, 144, .inl (fl MF)))]]) 21 rfl [] [0, 1, 2, 3, 4, 5, 6, 7, 8, 9, 10, 11, 12, 13, 14, 15, 16, 17, 18, 19, 20] (by decide) rfl) hK hP hD hS hA rfl hl.1 rfl (Nat.le_of_ble_eq_true rfl) ⟨(show 0 + 0 ≤ 0 by omega), (show 0 + 0 ≤ 0 by omega)⟩ d_Ref_mask_2 (fun rhr101 H locs hr101 hP hD hS => ?_)
  subst hr101
  refine W.eq (g2 := F0 m 5 ls [.int (bI true), .ref h]) (congrArg (fun z => F0 m 5 ls (.int z :: [.ref h])) (congrArg bI (rg_t12 hr9))) ?_
  refine ri_ifeqB hx hb d_Ref_mask_5 (tgt := 19) (by decide) (fun h102 => ?_) (fun h102 => ?_)
  · exact absurd h102 (fun z => by cases z)
  · refine lv_iload_n hx hb d_Ref_mask_8 rfl (lv_at hl 2 rfl) ?_
    refine ct_rdS (As := [.int (nI o)]) (rest := [.ref h]) ⟨hx, hb, hml, hown, ht⟩ (k_Ref_isRouter l D cI cZ cJ cG (nI o)) (cb_S ht kc_Ref_isRouter kl_Ref_82 kn_Ref ki_Ref_isRouter hd_Ref_isRouter ⟨Nat.le_of_ble_eq_true rfl, Nat.le_of_ble_eq_true rfl⟩) (wd_ct (Bs := [[rf_o h qs cd ma S.T.2.2.1.2.1 ca S.D.2.1.2.1 na S.G.2.2.2.1.2.1 S.D.1.2.1 S.D.2.2.1 S.D.2.2.2.1 S.D.2.2.2.2 S.lost], [(qs 0, .inl (cI, 12, .inl (lI S.eb)))], [(qs 1, .inl (cI, 144, .inl (fl (gN S.lk))))], [(qs 2, .inl (cI, 144, .inl (fl (gN wt))))], [(qs 3, .inl (cZ, 144, .inl (fl (kB S.kn))))], [(qs 4, .inl (cI, 1600, .inl fR))], [(qs 5, .inl (cI, 1600, .inl fN))], [(qs 6, .inl (cJ, 1600, .inr (.inl fL)))], [(qs 7, .inl (cJ, 1600, .inr (.inl fH)))], [(qs 8, .inl (cZ, 1600, .inl (dB uf)))], [(qs 9, .inl (cI, 144, .inl (fl (sI S.T.2.1))))], [(qs 10, .inl (cI, 4000, .inl fM))], [(qs 11, .inl (cJ, 4000, .inr (.inl fC)))], [(qs 12, .inl (cI, 4000, .inl fT))], [(qs 13, .inl (cI, 8, .inl (lI S.G.1)))], [(qs 14, .inl (cI, 8, .inl S.G.2.1))], [(qs 15, .inl (cI, 96, .inl (fl (gN (rT S.G.2.2.1)))))], [(qs 16, .inl (cI, 901, .inl fD))], [(qs 17, .inl (cI, 901, .inl fX))], [(qs 18, .inl (cI, 144, .inl (fl MK)))], [(qs 19, .inl (cI, 144, .inl (fl MF)))]]) 21 rfl [] [0, 1, 2, 3, 4, 5, 6, 7, 8, 9, 10, 11, 12, 13, 14, 15, 16, 17, 18, 19, 20] (by decide) rfl) hK hP hD hS hA rfl hl.1 rfl (Nat.le_of_ble_eq_true rfl) ⟨(show 0 + 0 ≤ 0 by omega), (show 0 + 0 ≤ 0 by omega)⟩ d_Ref_mask_9 (fun rhr103 H locs hr103 hP hD hS => ?_)
    subst hr103
    refine W.eq (g2 := F0 m 12 ls [.int (bI true), .ref h]) (congrArg (fun z => F0 m 12 ls (.int z :: [.ref h])) (congrArg bI (rg_t12 ho9))) ?_
    refine ri_ifeqB hx hb d_Ref_mask_12 (tgt := 19) (by decide) (fun h104 => ?_) (fun h104 => ?_)
    · exact absurd h104 (fun z => by cases z)
    · refine lv_iconst (v := nI 0) hx hb d_Ref_mask_15 (by decide) ?_
      refine lv_goto hx hb d_Ref_mask_16 (tgt := 20) (by decide) ?_
      refine va_put (D := D) (ci := 9) (v := .int (nI 0)) (ty := .int) (C := R_Ref) (T := T_Ref) (N := 32) hx hb ht in_Ref t_Ref ok_Ref nm_Ref hown hK hP hD hS 0 rfl rfl 0 (by decide) (ht _ kl_Ref_72) (fun _ h9 => h9) rfl (by decide +kernel) rfl rfl (Nat.le_of_ble_eq_true rfl) d_Ref_mask_20 (fun H locs hP hD hS => ?_)
      have hP : va_P D kls (List.flatten [[rf_o h qs (nI 0) ma S.T.2.2.1.2.1 ca S.D.2.1.2.1 na S.G.2.2.2.1.2.1 S.D.1.2.1 S.D.2.2.1 S.D.2.2.2.1 S.D.2.2.2.2 S.lost], [(qs 0, .inl (cI, 12, .inl (lI S.eb)))], [(qs 1, .inl (cI, 144, .inl (fl (gN S.lk))))], [(qs 2, .inl (cI, 144, .inl (fl (gN wt))))], [(qs 3, .inl (cZ, 144, .inl (fl (kB S.kn))))], [(qs 4, .inl (cI, 1600, .inl fR))], [(qs 5, .inl (cI, 1600, .inl fN))], [(qs 6, .inl (cJ, 1600, .inr (.inl fL)))], [(qs 7, .inl (cJ, 1600, .inr (.inl fH)))], [(qs 8, .inl (cZ, 1600, .inl (dB uf)))], [(qs 9, .inl (cI, 144, .inl (fl (sI S.T.2.1))))], [(qs 10, .inl (cI, 4000, .inl fM))], [(qs 11, .inl (cJ, 4000, .inr (.inl fC)))], [(qs 12, .inl (cI, 4000, .inl fT))], [(qs 13, .inl (cI, 8, .inl (lI S.G.1)))], [(qs 14, .inl (cI, 8, .inl S.G.2.1))], [(qs 15, .inl (cI, 96, .inl (fl (gN (rT S.G.2.2.1)))))], [(qs 16, .inl (cI, 901, .inl fD))], [(qs 17, .inl (cI, 901, .inl fX))], [(qs 18, .inl (cI, 144, .inl (fl MK)))], [(qs 19, .inl (cI, 144, .inl (fl MF)))]]) H := hP
      have hD : va_D A (List.flatten [[rf_o h qs (nI 0) ma S.T.2.2.1.2.1 ca S.D.2.1.2.1 na S.G.2.2.2.1.2.1 S.D.1.2.1 S.D.2.2.1 S.D.2.2.2.1 S.D.2.2.2.2 S.lost], [(qs 0, .inl (cI, 12, .inl (lI S.eb)))], [(qs 1, .inl (cI, 144, .inl (fl (gN S.lk))))], [(qs 2, .inl (cI, 144, .inl (fl (gN wt))))], [(qs 3, .inl (cZ, 144, .inl (fl (kB S.kn))))], [(qs 4, .inl (cI, 1600, .inl fR))], [(qs 5, .inl (cI, 1600, .inl fN))], [(qs 6, .inl (cJ, 1600, .inr (.inl fL)))], [(qs 7, .inl (cJ, 1600, .inr (.inl fH)))], [(qs 8, .inl (cZ, 1600, .inl (dB uf)))], [(qs 9, .inl (cI, 144, .inl (fl (sI S.T.2.1))))], [(qs 10, .inl (cI, 4000, .inl fM))], [(qs 11, .inl (cJ, 4000, .inr (.inl fC)))], [(qs 12, .inl (cI, 4000, .inl fT))], [(qs 13, .inl (cI, 8, .inl (lI S.G.1)))], [(qs 14, .inl (cI, 8, .inl S.G.2.1))], [(qs 15, .inl (cI, 96, .inl (fl (gN (rT S.G.2.2.1)))))], [(qs 16, .inl (cI, 901, .inl fD))], [(qs 17, .inl (cI, 901, .inl fX))], [(qs 18, .inl (cI, 144, .inl (fl MK)))], [(qs 19, .inl (cI, 144, .inl (fl MF)))]]) := hD
      refine lv_aload_n hx hb d_Ref_mask_23 rfl (lv_at hl 0 rfl) ?_
      refine va_get (D := D) (ci := 9) (v := .int (nI 0)) (C := R_Ref) (T := T_Ref) (N := 32) hx hb ht in_Ref hown hK hP 0 rfl rfl 0 (by decide) (ht _ kl_Ref_72) (fun _ h9 => h9) rfl d_Ref_mask_24 ?_
      refine ri_if_le hx hb (by omega) d_Ref_mask_27 (tgt := 32) (by decide) (fun h105 => ?_) (fun h105 => ?_)
      · refine lv_aload_n hx hb d_Ref_mask_32 rfl (lv_at hl 0 rfl) ?_
        refine lv_iload_n hx hb d_Ref_mask_33 rfl (lv_at hl 1 rfl) ?_
        refine ct_callVV (C := R_Ref) (ci := 9) (As := [.int (nI r)]) (rest := []) ⟨hx, hb, hml, hown, ht⟩ (k_Ref_view l D cI cZ cJ cG (fun k hk => ⟨(hAd.1 k hk).2.2.1, (hAd.1 k hk).2.2.2⟩) h00 (Nat.le_trans hA9 (by decide)) hrt.2.2.1 r hr9 (fun x hx9 => hrt.2.1 r x hr9 hx9) (hrt.2.2.2.1 r hr9) (hrt.2.2.2.2 r hr9)) (cb_V ht kc_Ref_view kl_Ref_139 kn_Ref ki_Ref_view ks_Ref_view hd_Ref_view ⟨Nat.le_of_ble_eq_true rfl, Nat.le_of_ble_eq_true rfl⟩) (List.mem_of_getElem? (i := 0) rfl) rfl rfl (wd_ct (Bs := [[rf_o h qs (nI 0) ma S.T.2.2.1.2.1 ca S.D.2.1.2.1 na S.G.2.2.2.1.2.1 S.D.1.2.1 S.D.2.2.1 S.D.2.2.2.1 S.D.2.2.2.2 S.lost], [(qs 0, .inl (cI, 12, .inl (lI S.eb)))], [(qs 1, .inl (cI, 144, .inl (fl (gN S.lk))))], [(qs 2, .inl (cI, 144, .inl (fl (gN wt))))], [(qs 3, .inl (cZ, 144, .inl (fl (kB S.kn))))], [(qs 4, .inl (cI, 1600, .inl fR))], [(qs 5, .inl (cI, 1600, .inl fN))], [(qs 6, .inl (cJ, 1600, .inr (.inl fL)))], [(qs 7, .inl (cJ, 1600, .inr (.inl fH)))], [(qs 8, .inl (cZ, 1600, .inl (dB uf)))], [(qs 9, .inl (cI, 144, .inl (fl (sI S.T.2.1))))], [(qs 10, .inl (cI, 4000, .inl fM))], [(qs 11, .inl (cJ, 4000, .inr (.inl fC)))], [(qs 12, .inl (cI, 4000, .inl fT))], [(qs 13, .inl (cI, 8, .inl (lI S.G.1)))], [(qs 14, .inl (cI, 8, .inl S.G.2.1))], [(qs 15, .inl (cI, 96, .inl (fl (gN (rT S.G.2.2.1)))))], [(qs 16, .inl (cI, 901, .inl fD))], [(qs 17, .inl (cI, 901, .inl fX))], [(qs 18, .inl (cI, 144, .inl (fl MK)))], [(qs 19, .inl (cI, 144, .inl (fl MF)))]]) 21 rfl [0, 7, 8, 10, 19, 20] [1, 2, 3, 4, 5, 6, 9, 11, 12, 13, 14, 15, 16, 17, 18] (by decide) rfl) hK hP hD hS hA rfl hl.1 rfl (Nat.le_of_ble_eq_true rfl) ⟨(show 0 + 0 ≤ 0 by omega), (show 0 + 0 ≤ 0 by omega)⟩ d_Ref_mask_34 (fun u106 H locs hu106 hP hD hS => ?_)
        subst hu106
        refine W.widen (k := 0) (n := 0) (Nat.le_refl _) (Nat.le_refl _) ?_
        have hP := wd_nP (N := [[rf_o h qs (nI 0) ma S.T.2.2.1.2.1 ca S.D.2.1.2.1 na S.G.2.2.2.1.2.1 S.D.1.2.1 S.D.2.2.1 S.D.2.2.2.1 S.D.2.2.2.2 S.lost], [(qs 6, .inl (cJ, 1600, .inr (.inl fL)))], [(qs 7, .inl (cJ, 1600, .inr (.inl fH)))], [(qs 9, .inl (cI, 144, .inl (fl (sI S.T.2.1))))], [(qs 18, .inl (cI, 144, .inl (fl (gN (vw0 S.T.1.2.2 S.T.2.1 r)))))], [(qs 19, .inl (cI, 144, .inl (fl (gN (bn_far (vw0 S.T.1.2.2 S.T.2.1 r))))))]]) rfl 21 rfl [0, 6, 7, 8, 9, 10, 11, 1, 2, 12, 3, 13, 14, 15, 16, 17, 18, 19, 20, 4, 5] (by decide) hP
        have hD := wd_nD (N := [[rf_o h qs (nI 0) ma S.T.2.2.1.2.1 ca S.D.2.1.2.1 na S.G.2.2.2.1.2.1 S.D.1.2.1 S.D.2.2.1 S.D.2.2.2.1 S.D.2.2.2.2 S.lost], [(qs 6, .inl (cJ, 1600, .inr (.inl fL)))], [(qs 7, .inl (cJ, 1600, .inr (.inl fH)))], [(qs 9, .inl (cI, 144, .inl (fl (sI S.T.2.1))))], [(qs 18, .inl (cI, 144, .inl (fl (gN (vw0 S.T.1.2.2 S.T.2.1 r)))))], [(qs 19, .inl (cI, 144, .inl (fl (gN (bn_far (vw0 S.T.1.2.2 S.T.2.1 r))))))]]) rfl 21 rfl [0, 6, 7, 8, 9, 10, 11, 1, 2, 12, 3, 13, 14, 15, 16, 17, 18, 19, 20, 4, 5] (by decide) hD
        have hP : va_P D kls (List.flatten [[rf_o h qs (nI 0) ma S.T.2.2.1.2.1 ca S.D.2.1.2.1 na S.G.2.2.2.1.2.1 S.D.1.2.1 S.D.2.2.1 S.D.2.2.2.1 S.D.2.2.2.2 S.lost], [(qs 0, .inl (cI, 12, .inl (lI S.eb)))], [(qs 1, .inl (cI, 144, .inl (fl (gN S.lk))))], [(qs 2, .inl (cI, 144, .inl (fl (gN wt))))], [(qs 3, .inl (cZ, 144, .inl (fl (kB S.kn))))], [(qs 4, .inl (cI, 1600, .inl fR))], [(qs 5, .inl (cI, 1600, .inl fN))], [(qs 6, .inl (cJ, 1600, .inr (.inl fL)))], [(qs 7, .inl (cJ, 1600, .inr (.inl fH)))], [(qs 8, .inl (cZ, 1600, .inl (dB uf)))], [(qs 9, .inl (cI, 144, .inl (fl (sI S.T.2.1))))], [(qs 10, .inl (cI, 4000, .inl fM))], [(qs 11, .inl (cJ, 4000, .inr (.inl fC)))], [(qs 12, .inl (cI, 4000, .inl fT))], [(qs 13, .inl (cI, 8, .inl (lI S.G.1)))], [(qs 14, .inl (cI, 8, .inl S.G.2.1))], [(qs 15, .inl (cI, 96, .inl (fl (gN (rT S.G.2.2.1)))))], [(qs 16, .inl (cI, 901, .inl fD))], [(qs 17, .inl (cI, 901, .inl fX))], [(qs 18, .inl (cI, 144, .inl (fl (gN (vw0 S.T.1.2.2 S.T.2.1 r)))))], [(qs 19, .inl (cI, 144, .inl (fl (gN (bn_far (vw0 S.T.1.2.2 S.T.2.1 r))))))]]) H := hP
        have hD : va_D A (List.flatten [[rf_o h qs (nI 0) ma S.T.2.2.1.2.1 ca S.D.2.1.2.1 na S.G.2.2.2.1.2.1 S.D.1.2.1 S.D.2.2.1 S.D.2.2.2.1 S.D.2.2.2.2 S.lost], [(qs 0, .inl (cI, 12, .inl (lI S.eb)))], [(qs 1, .inl (cI, 144, .inl (fl (gN S.lk))))], [(qs 2, .inl (cI, 144, .inl (fl (gN wt))))], [(qs 3, .inl (cZ, 144, .inl (fl (kB S.kn))))], [(qs 4, .inl (cI, 1600, .inl fR))], [(qs 5, .inl (cI, 1600, .inl fN))], [(qs 6, .inl (cJ, 1600, .inr (.inl fL)))], [(qs 7, .inl (cJ, 1600, .inr (.inl fH)))], [(qs 8, .inl (cZ, 1600, .inl (dB uf)))], [(qs 9, .inl (cI, 144, .inl (fl (sI S.T.2.1))))], [(qs 10, .inl (cI, 4000, .inl fM))], [(qs 11, .inl (cJ, 4000, .inr (.inl fC)))], [(qs 12, .inl (cI, 4000, .inl fT))], [(qs 13, .inl (cI, 8, .inl (lI S.G.1)))], [(qs 14, .inl (cI, 8, .inl S.G.2.1))], [(qs 15, .inl (cI, 96, .inl (fl (gN (rT S.G.2.2.1)))))], [(qs 16, .inl (cI, 901, .inl fD))], [(qs 17, .inl (cI, 901, .inl fX))], [(qs 18, .inl (cI, 144, .inl (fl (gN (vw0 S.T.1.2.2 S.T.2.1 r)))))], [(qs 19, .inl (cI, 144, .inl (fl (gN (bn_far (vw0 S.T.1.2.2 S.T.2.1 r))))))]]) := hD
        refine W.eq (g2 := F0 m 37 ls []) rfl ?_
        refine lv_aload_n hx hb d_Ref_mask_37 rfl (lv_at hl 0 rfl) ?_
        refine lv_iload_n hx hb d_Ref_mask_38 rfl (lv_at hl 1 rfl) ?_
        refine lv_iload_n hx hb d_Ref_mask_39 rfl (lv_at hl 2 rfl) ?_
        refine ct_rdV (C := R_Ref) (ci := 9) (As := [.int (nI r), .int (nI o)]) (rest := []) ⟨hx, hb, hml, hown, ht⟩ (k_Ref_maskOf l D cI cZ cJ cG heb (hrt.2.2.2.1 r hr9) (hrt.2.2.2.2 r hr9) r o hr9 ho9) (cb_V ht kc_Ref_maskOf kl_Ref_142 kn_Ref ki_Ref_maskOf ks_Ref_maskOf hd_Ref_maskOf ⟨Nat.le_of_ble_eq_true rfl, Nat.le_of_ble_eq_true rfl⟩) (List.mem_of_getElem? (i := 0) rfl) rfl rfl (wd_ct (Bs := [[rf_o h qs (nI 0) ma S.T.2.2.1.2.1 ca S.D.2.1.2.1 na S.G.2.2.2.1.2.1 S.D.1.2.1 S.D.2.2.1 S.D.2.2.2.1 S.D.2.2.2.2 S.lost], [(qs 0, .inl (cI, 12, .inl (lI S.eb)))], [(qs 1, .inl (cI, 144, .inl (fl (gN S.lk))))], [(qs 2, .inl (cI, 144, .inl (fl (gN wt))))], [(qs 3, .inl (cZ, 144, .inl (fl (kB S.kn))))], [(qs 4, .inl (cI, 1600, .inl fR))], [(qs 5, .inl (cI, 1600, .inl fN))], [(qs 6, .inl (cJ, 1600, .inr (.inl fL)))], [(qs 7, .inl (cJ, 1600, .inr (.inl fH)))], [(qs 8, .inl (cZ, 1600, .inl (dB uf)))], [(qs 9, .inl (cI, 144, .inl (fl (sI S.T.2.1))))], [(qs 10, .inl (cI, 4000, .inl fM))], [(qs 11, .inl (cJ, 4000, .inr (.inl fC)))], [(qs 12, .inl (cI, 4000, .inl fT))], [(qs 13, .inl (cI, 8, .inl (lI S.G.1)))], [(qs 14, .inl (cI, 8, .inl S.G.2.1))], [(qs 15, .inl (cI, 96, .inl (fl (gN (rT S.G.2.2.1)))))], [(qs 16, .inl (cI, 901, .inl fD))], [(qs 17, .inl (cI, 901, .inl fX))], [(qs 18, .inl (cI, 144, .inl (fl (gN (vw0 S.T.1.2.2 S.T.2.1 r)))))], [(qs 19, .inl (cI, 144, .inl (fl (gN (bn_far (vw0 S.T.1.2.2 S.T.2.1 r))))))]]) 21 rfl [0, 1, 19, 20] [2, 3, 4, 5, 6, 7, 8, 9, 10, 11, 12, 13, 14, 15, 16, 17, 18] (by decide) rfl) hK hP hD hS hA rfl hl.1 rfl (Nat.le_of_ble_eq_true rfl) ⟨(show 0 + 0 ≤ 0 by omega), (show 0 + 0 ≤ 0 by omega)⟩ d_Ref_mask_40 (fun rhr108 H locs hr108 hP hD hS => ?_)
        have hz107 := hr108
        rw [hz107]
        exact ct_iret hQ hx hb hr hlk hP hD hS hK (by omega) (by omega) d_Ref_mask_43 (⟨rfl, ⟨qs, ma, ca, na, wt, fR, fN, fL, fH, uf, fM, fC, fT, fD, fX, (gN (vw0 S.T.1.2.2 S.T.2.1 r)), (gN (bn_far (vw0 S.T.1.2.2 S.T.2.1 r))), rfl, hwt, hAd, hM, hC, hN, hPd⟩⟩)
      · exact absurd h105 (by decide)
set_option maxHeartbeats 1600000 in
set_option maxRecDepth 100000 in
theorem k_Ref_distance (l : Launch) (D : va_G) (cI cZ cJ cG : ClassId) {h : Nat} {cd : Int32} {S : bm_S} {ws : va_W} (hR : rf_R cI cZ cJ h cd S ws) (hi : rf_i S) (r o : Nat) (hr9 : r < 12) (ho9 : o < 12) : ct_I l D kls (ty4 cI cZ cJ cG) y_Ref_distance ws_Ref_distance (rm_ 2 50 0 0) [.ref h, .int (nI r), .int (nI o)] (ws) (fun z u => z = bm_oI (bn_len (vw0 S.T.1.2.2 S.T.2.1 r) r o) ∧ rf_R cI cZ cJ h (nI 0) S u) 0 0 := by
  obtain ⟨qs, ma, ca, na, wt, fR, fN, fL, fH, uf, fM, fC, fT, fD, fX, MK, MF, rfl, hwt, hAd, hM, hC, hN, hPd⟩ := hR
  obtain ⟨hsi, heb, h00, hA9, hm9, hcp9, hnt9, hpk9, hgi⟩ := hi
  have hok := hsi.1
  have hkn9 := hsi.2.1
  have hlk9 := hsi.2.2.1
  have hma := hM.1
  refine ct_enterI (cc := b_Ref_distance) (maxL := 3) (ret := (some .int)) (by decide +kernel) (Nat.le_of_ble_eq_true rfl) ?_
  intro p e s m args below meth c hx hb hml hr ht hown hlk hnm A Q hA hK hP hD hQ ls hl
  have hown : s.vm.findClass R_Ref = some m.cls := hown
  have hS : va_S A s.heap s.heap [] := va_S.rf
  have hl : lv_has ls 3 [(0, .ref h), (1, .int (nI r)), (2, .int (nI o))] := hl
  have hrt := hsi.2.2.2.2.1
  refine lv_aload_n hx hb d_Ref_distance_0 rfl (lv_at hl 0 rfl) ?_
  refine lv_iload_n hx hb d_Ref_distance_1 rfl (lv_at hl 1 rfl) ?_
  refine ct_rdS (As := [.int (nI r)]) (rest := [.ref h]) ⟨hx, hb, hml, hown, ht⟩ (k_Ref_isRouter l D cI cZ cJ cG (nI r)) (cb_S ht kc_Ref_isRouter kl_Ref_82 kn_Ref ki_Ref_isRouter hd_Ref_isRouter ⟨Nat.le_of_ble_eq_true rfl, Nat.le_of_ble_eq_true rfl⟩) (wd_ct (Bs := [[rf_o h qs cd ma S.T.2.2.1.2.1 ca S.D.2.1.2.1 na S.G.2.2.2.1.2.1 S.D.1.2.1 S.D.2.2.1 S.D.2.2.2.1 S.D.2.2.2.2 S.lost], [(qs 0, .inl (cI, 12, .inl (lI S.eb)))], [(qs 1, .inl (cI, 144, .inl (fl (gN S.lk))))], [(qs 2, .inl (cI, 144, .inl (fl (gN wt))))], [(qs 3, .inl (cZ, 144, .inl (fl (kB S.kn))))], [(qs 4, .inl (cI, 1600, .inl fR))], [(qs 5, .inl (cI, 1600, .inl fN))], [(qs 6, .inl (cJ, 1600, .inr (.inl fL)))], [(qs 7, .inl (cJ, 1600, .inr (.inl fH)))], [(qs 8, .inl (cZ, 1600, .inl (dB uf)))], [(qs 9, .inl (cI, 144, .inl (fl (sI S.T.2.1))))], [(qs 10, .inl (cI, 4000, .inl fM))], [(qs 11, .inl (cJ, 4000, .inr (.inl fC)))], [(qs 12, .inl (cI, 4000, .inl fT))], [(qs 13, .inl (cI, 8, .inl (lI S.G.1)))], [(qs 14, .inl (cI, 8, .inl S.G.2.1))], [(qs 15, .inl (cI, 96, .inl (fl (gN (rT S.G.2.2.1)))))], [(qs 16, .inl (cI, 901, .inl fD))], [(qs 17, .inl (cI, 901, .inl fX))], [(qs 18, .inl (cI, 144, .inl (fl MK)))], [(qs 19, .inl (cI, 144, .inl (fl MF)))]]) 21 rfl [] [0, 1, 2, 3, 4, 5, 6, 7, 8, 9, 10, 11, 12, 13, 14, 15, 16, 17, 18, 19, 20] (by decide) rfl) hK hP hD hS hA rfl hl.1 rfl (Nat.le_of_ble_eq_true rfl) ⟨(show 0 + 0 ≤ 0 by omega), (show 0 + 0 ≤ 0 by omega)⟩ d_Ref_distance_2 (fun rhr101 H locs hr101 hP hD hS => ?_)
  subst hr101
  refine W.eq (g2 := F0 m 5 ls [.int (bI true), .ref h]) (congrArg (fun z => F0 m 5 ls (.int z :: [.ref h])) (congrArg bI (rg_t12 hr9))) ?_
  refine ri_ifeqB hx hb d_Ref_distance_5 (tgt := 19) (by decide) (fun h102 => ?_) (fun h102 => ?_)
  · exact absurd h102 (fun z => by cases z)
  · refine lv_iload_n hx hb d_Ref_distance_8 rfl (lv_at hl 2 rfl) ?_
    refine ct_rdS (As := [.int (nI o)]) (rest := [.ref h]) ⟨hx, hb, hml, hown, ht⟩ (k_Ref_isRouter l D cI cZ cJ cG (nI o)) (cb_S ht kc_Ref_isRouter kl_Ref_82 kn_Ref ki_Ref_isRouter hd_Ref_isRouter ⟨Nat.le_of_ble_eq_true rfl, Nat.le_of_ble_eq_true rfl⟩) (wd_ct (Bs := [[rf_o h qs cd ma S.T.2.2.1.2.1 ca S.D.2.1.2.1 na S.G.2.2.2.1.2.1 S.D.1.2.1 S.D.2.2.1 S.D.2.2.2.1 S.D.2.2.2.2 S.lost], [(qs 0, .inl (cI, 12, .inl (lI S.eb)))], [(qs 1, .inl (cI, 144, .inl (fl (gN S.lk))))], [(qs 2, .inl (cI, 144, .inl (fl (gN wt))))], [(qs 3, .inl (cZ, 144, .inl (fl (kB S.kn))))], [(qs 4, .inl (cI, 1600, .inl fR))], [(qs 5, .inl (cI, 1600, .inl fN))], [(qs 6, .inl (cJ, 1600, .inr (.inl fL)))], [(qs 7, .inl (cJ, 1600, .inr (.inl fH)))], [(qs 8, .inl (cZ, 1600, .inl (dB uf)))], [(qs 9, .inl (cI, 144, .inl (fl (sI S.T.2.1))))], [(qs 10, .inl (cI, 4000, .inl fM))], [(qs 11, .inl (cJ, 4000, .inr (.inl fC)))], [(qs 12, .inl (cI, 4000, .inl fT))], [(qs 13, .inl (cI, 8, .inl (lI S.G.1)))], [(qs 14, .inl (cI, 8, .inl S.G.2.1))], [(qs 15, .inl (cI, 96, .inl (fl (gN (rT S.G.2.2.1)))))], [(qs 16, .inl (cI, 901, .inl fD))], [(qs 17, .inl (cI, 901, .inl fX))], [(qs 18, .inl (cI, 144, .inl (fl MK)))], [(qs 19, .inl (cI, 144, .inl (fl MF)))]]) 21 rfl [] [0, 1, 2, 3, 4, 5, 6, 7, 8, 9, 10, 11, 12, 13, 14, 15, 16, 17, 18, 19, 20] (by decide) rfl) hK hP hD hS hA rfl hl.1 rfl (Nat.le_of_ble_eq_true rfl) ⟨(show 0 + 0 ≤ 0 by omega), (show 0 + 0 ≤ 0 by omega)⟩ d_Ref_distance_9 (fun rhr103 H locs hr103 hP hD hS => ?_)
    subst hr103
    refine W.eq (g2 := F0 m 12 ls [.int (bI true), .ref h]) (congrArg (fun z => F0 m 12 ls (.int z :: [.ref h])) (congrArg bI (rg_t12 ho9))) ?_
    refine ri_ifeqB hx hb d_Ref_distance_12 (tgt := 19) (by decide) (fun h104 => ?_) (fun h104 => ?_)
    · exact absurd h104 (fun z => by cases z)
    · refine lv_iconst (v := nI 0) hx hb d_Ref_distance_15 (by decide) ?_
      refine lv_goto hx hb d_Ref_distance_16 (tgt := 20) (by decide) ?_
      refine va_put (D := D) (ci := 9) (v := .int (nI 0)) (ty := .int) (C := R_Ref) (T := T_Ref) (N := 32) hx hb ht in_Ref t_Ref ok_Ref nm_Ref hown hK hP hD hS 0 rfl rfl 0 (by decide) (ht _ kl_Ref_72) (fun _ h9 => h9) rfl (by decide +kernel) rfl rfl (Nat.le_of_ble_eq_true rfl) d_Ref_distance_20 (fun H locs hP hD hS => ?_)
      have hP : va_P D kls (List.flatten [[rf_o h qs (nI 0) ma S.T.2.2.1.2.1 ca S.D.2.1.2.1 na S.G.2.2.2.1.2.1 S.D.1.2.1 S.D.2.2.1 S.D.2.2.2.1 S.D.2.2.2.2 S.lost], [(qs 0, .inl (cI, 12, .inl (lI S.eb)))], [(qs 1, .inl (cI, 144, .inl (fl (gN S.lk))))], [(qs 2, .inl (cI, 144, .inl (fl (gN wt))))], [(qs 3, .inl (cZ, 144, .inl (fl (kB S.kn))))], [(qs 4, .inl (cI, 1600, .inl fR))], [(qs 5, .inl (cI, 1600, .inl fN))], [(qs 6, .inl (cJ, 1600, .inr (.inl fL)))], [(qs 7, .inl (cJ, 1600, .inr (.inl fH)))], [(qs 8, .inl (cZ, 1600, .inl (dB uf)))], [(qs 9, .inl (cI, 144, .inl (fl (sI S.T.2.1))))], [(qs 10, .inl (cI, 4000, .inl fM))], [(qs 11, .inl (cJ, 4000, .inr (.inl fC)))], [(qs 12, .inl (cI, 4000, .inl fT))], [(qs 13, .inl (cI, 8, .inl (lI S.G.1)))], [(qs 14, .inl (cI, 8, .inl S.G.2.1))], [(qs 15, .inl (cI, 96, .inl (fl (gN (rT S.G.2.2.1)))))], [(qs 16, .inl (cI, 901, .inl fD))], [(qs 17, .inl (cI, 901, .inl fX))], [(qs 18, .inl (cI, 144, .inl (fl MK)))], [(qs 19, .inl (cI, 144, .inl (fl MF)))]]) H := hP
      have hD : va_D A (List.flatten [[rf_o h qs (nI 0) ma S.T.2.2.1.2.1 ca S.D.2.1.2.1 na S.G.2.2.2.1.2.1 S.D.1.2.1 S.D.2.2.1 S.D.2.2.2.1 S.D.2.2.2.2 S.lost], [(qs 0, .inl (cI, 12, .inl (lI S.eb)))], [(qs 1, .inl (cI, 144, .inl (fl (gN S.lk))))], [(qs 2, .inl (cI, 144, .inl (fl (gN wt))))], [(qs 3, .inl (cZ, 144, .inl (fl (kB S.kn))))], [(qs 4, .inl (cI, 1600, .inl fR))], [(qs 5, .inl (cI, 1600, .inl fN))], [(qs 6, .inl (cJ, 1600, .inr (.inl fL)))], [(qs 7, .inl (cJ, 1600, .inr (.inl fH)))], [(qs 8, .inl (cZ, 1600, .inl (dB uf)))], [(qs 9, .inl (cI, 144, .inl (fl (sI S.T.2.1))))], [(qs 10, .inl (cI, 4000, .inl fM))], [(qs 11, .inl (cJ, 4000, .inr (.inl fC)))], [(qs 12, .inl (cI, 4000, .inl fT))], [(qs 13, .inl (cI, 8, .inl (lI S.G.1)))], [(qs 14, .inl (cI, 8, .inl S.G.2.1))], [(qs 15, .inl (cI, 96, .inl (fl (gN (rT S.G.2.2.1)))))], [(qs 16, .inl (cI, 901, .inl fD))], [(qs 17, .inl (cI, 901, .inl fX))], [(qs 18, .inl (cI, 144, .inl (fl MK)))], [(qs 19, .inl (cI, 144, .inl (fl MF)))]]) := hD
      refine lv_aload_n hx hb d_Ref_distance_23 rfl (lv_at hl 0 rfl) ?_
      refine va_get (D := D) (ci := 9) (v := .int (nI 0)) (C := R_Ref) (T := T_Ref) (N := 32) hx hb ht in_Ref hown hK hP 0 rfl rfl 0 (by decide) (ht _ kl_Ref_72) (fun _ h9 => h9) rfl d_Ref_distance_24 ?_
      refine ri_if_le hx hb (by omega) d_Ref_distance_27 (tgt := 32) (by decide) (fun h105 => ?_) (fun h105 => ?_)
      · refine lv_aload_n hx hb d_Ref_distance_32 rfl (lv_at hl 0 rfl) ?_
        refine lv_iload_n hx hb d_Ref_distance_33 rfl (lv_at hl 1 rfl) ?_
        refine ct_callVV (C := R_Ref) (ci := 9) (As := [.int (nI r)]) (rest := []) ⟨hx, hb, hml, hown, ht⟩ (k_Ref_view l D cI cZ cJ cG (fun k hk => ⟨(hAd.1 k hk).2.2.1, (hAd.1 k hk).2.2.2⟩) h00 (Nat.le_trans hA9 (by decide)) hrt.2.2.1 r hr9 (fun x hx9 => hrt.2.1 r x hr9 hx9) (hrt.2.2.2.1 r hr9) (hrt.2.2.2.2 r hr9)) (cb_V ht kc_Ref_view kl_Ref_139 kn_Ref ki_Ref_view ks_Ref_view hd_Ref_view ⟨Nat.le_of_ble_eq_true rfl, Nat.le_of_ble_eq_true rfl⟩) (List.mem_of_getElem? (i := 0) rfl) rfl rfl (wd_ct (Bs := [[rf_o h qs (nI 0) ma S.T.2.2.1.2.1 ca S.D.2.1.2.1 na S.G.2.2.2.1.2.1 S.D.1.2.1 S.D.2.2.1 S.D.2.2.2.1 S.D.2.2.2.2 S.lost], [(qs 0, .inl (cI, 12, .inl (lI S.eb)))], [(qs 1, .inl (cI, 144, .inl (fl (gN S.lk))))], [(qs 2, .inl (cI, 144, .inl (fl (gN wt))))], [(qs 3, .inl (cZ, 144, .inl (fl (kB S.kn))))], [(qs 4, .inl (cI, 1600, .inl fR))], [(qs 5, .inl (cI, 1600, .inl fN))], [(qs 6, .inl (cJ, 1600, .inr (.inl fL)))], [(qs 7, .inl (cJ, 1600, .inr (.inl fH)))], [(qs 8, .inl (cZ, 1600, .inl (dB uf)))], [(qs 9, .inl (cI, 144, .inl (fl (sI S.T.2.1))))], [(qs 10, .inl (cI, 4000, .inl fM))], [(qs 11, .inl (cJ, 4000, .inr (.inl fC)))], [(qs 12, .inl (cI, 4000, .inl fT))], [(qs 13, .inl (cI, 8, .inl (lI S.G.1)))], [(qs 14, .inl (cI, 8, .inl S.G.2.1))], [(qs 15, .inl (cI, 96, .inl (fl (gN (rT S.G.2.2.1)))))], [(qs 16, .inl (cI, 901, .inl fD))], [(qs 17, .inl (cI, 901, .inl fX))], [(qs 18, .inl (cI, 144, .inl (fl MK)))], [(qs 19, .inl (cI, 144, .inl (fl MF)))]]) 21 rfl [0, 7, 8, 10, 19, 20] [1, 2, 3, 4, 5, 6, 9, 11, 12, 13, 14, 15, 16, 17, 18] (by decide) rfl) hK hP hD hS hA rfl hl.1 rfl (Nat.le_of_ble_eq_true rfl) ⟨(show 0 + 0 ≤ 0 by omega), (show 0 + 0 ≤ 0 by omega)⟩ d_Ref_distance_34 (fun u106 H locs hu106 hP hD hS => ?_)
        subst hu106
        refine W.widen (k := 0) (n := 0) (Nat.le_refl _) (Nat.le_refl _) ?_
        have hP := wd_nP (N := [[rf_o h qs (nI 0) ma S.T.2.2.1.2.1 ca S.D.2.1.2.1 na S.G.2.2.2.1.2.1 S.D.1.2.1 S.D.2.2.1 S.D.2.2.2.1 S.D.2.2.2.2 S.lost], [(qs 6, .inl (cJ, 1600, .inr (.inl fL)))], [(qs 7, .inl (cJ, 1600, .inr (.inl fH)))], [(qs 9, .inl (cI, 144, .inl (fl (sI S.T.2.1))))], [(qs 18, .inl (cI, 144, .inl (fl (gN (vw0 S.T.1.2.2 S.T.2.1 r)))))], [(qs 19, .inl (cI, 144, .inl (fl (gN (bn_far (vw0 S.T.1.2.2 S.T.2.1 r))))))]]) rfl 21 rfl [0, 6, 7, 8, 9, 10, 11, 1, 2, 12, 3, 13, 14, 15, 16, 17, 18, 19, 20, 4, 5] (by decide) hP
        have hD := wd_nD (N := [[rf_o h qs (nI 0) ma S.T.2.2.1.2.1 ca S.D.2.1.2.1 na S.G.2.2.2.1.2.1 S.D.1.2.1 S.D.2.2.1 S.D.2.2.2.1 S.D.2.2.2.2 S.lost], [(qs 6, .inl (cJ, 1600, .inr (.inl fL)))], [(qs 7, .inl (cJ, 1600, .inr (.inl fH)))], [(qs 9, .inl (cI, 144, .inl (fl (sI S.T.2.1))))], [(qs 18, .inl (cI, 144, .inl (fl (gN (vw0 S.T.1.2.2 S.T.2.1 r)))))], [(qs 19, .inl (cI, 144, .inl (fl (gN (bn_far (vw0 S.T.1.2.2 S.T.2.1 r))))))]]) rfl 21 rfl [0, 6, 7, 8, 9, 10, 11, 1, 2, 12, 3, 13, 14, 15, 16, 17, 18, 19, 20, 4, 5] (by decide) hD
        have hP : va_P D kls (List.flatten [[rf_o h qs (nI 0) ma S.T.2.2.1.2.1 ca S.D.2.1.2.1 na S.G.2.2.2.1.2.1 S.D.1.2.1 S.D.2.2.1 S.D.2.2.2.1 S.D.2.2.2.2 S.lost], [(qs 0, .inl (cI, 12, .inl (lI S.eb)))], [(qs 1, .inl (cI, 144, .inl (fl (gN S.lk))))], [(qs 2, .inl (cI, 144, .inl (fl (gN wt))))], [(qs 3, .inl (cZ, 144, .inl (fl (kB S.kn))))], [(qs 4, .inl (cI, 1600, .inl fR))], [(qs 5, .inl (cI, 1600, .inl fN))], [(qs 6, .inl (cJ, 1600, .inr (.inl fL)))], [(qs 7, .inl (cJ, 1600, .inr (.inl fH)))], [(qs 8, .inl (cZ, 1600, .inl (dB uf)))], [(qs 9, .inl (cI, 144, .inl (fl (sI S.T.2.1))))], [(qs 10, .inl (cI, 4000, .inl fM))], [(qs 11, .inl (cJ, 4000, .inr (.inl fC)))], [(qs 12, .inl (cI, 4000, .inl fT))], [(qs 13, .inl (cI, 8, .inl (lI S.G.1)))], [(qs 14, .inl (cI, 8, .inl S.G.2.1))], [(qs 15, .inl (cI, 96, .inl (fl (gN (rT S.G.2.2.1)))))], [(qs 16, .inl (cI, 901, .inl fD))], [(qs 17, .inl (cI, 901, .inl fX))], [(qs 18, .inl (cI, 144, .inl (fl (gN (vw0 S.T.1.2.2 S.T.2.1 r)))))], [(qs 19, .inl (cI, 144, .inl (fl (gN (bn_far (vw0 S.T.1.2.2 S.T.2.1 r))))))]]) H := hP
        have hD : va_D A (List.flatten [[rf_o h qs (nI 0) ma S.T.2.2.1.2.1 ca S.D.2.1.2.1 na S.G.2.2.2.1.2.1 S.D.1.2.1 S.D.2.2.1 S.D.2.2.2.1 S.D.2.2.2.2 S.lost], [(qs 0, .inl (cI, 12, .inl (lI S.eb)))], [(qs 1, .inl (cI, 144, .inl (fl (gN S.lk))))], [(qs 2, .inl (cI, 144, .inl (fl (gN wt))))], [(qs 3, .inl (cZ, 144, .inl (fl (kB S.kn))))], [(qs 4, .inl (cI, 1600, .inl fR))], [(qs 5, .inl (cI, 1600, .inl fN))], [(qs 6, .inl (cJ, 1600, .inr (.inl fL)))], [(qs 7, .inl (cJ, 1600, .inr (.inl fH)))], [(qs 8, .inl (cZ, 1600, .inl (dB uf)))], [(qs 9, .inl (cI, 144, .inl (fl (sI S.T.2.1))))], [(qs 10, .inl (cI, 4000, .inl fM))], [(qs 11, .inl (cJ, 4000, .inr (.inl fC)))], [(qs 12, .inl (cI, 4000, .inl fT))], [(qs 13, .inl (cI, 8, .inl (lI S.G.1)))], [(qs 14, .inl (cI, 8, .inl S.G.2.1))], [(qs 15, .inl (cI, 96, .inl (fl (gN (rT S.G.2.2.1)))))], [(qs 16, .inl (cI, 901, .inl fD))], [(qs 17, .inl (cI, 901, .inl fX))], [(qs 18, .inl (cI, 144, .inl (fl (gN (vw0 S.T.1.2.2 S.T.2.1 r)))))], [(qs 19, .inl (cI, 144, .inl (fl (gN (bn_far (vw0 S.T.1.2.2 S.T.2.1 r))))))]]) := hD
        refine W.eq (g2 := F0 m 37 ls []) rfl ?_
        have hfr : bn_far (vw0 S.T.1.2.2 S.T.2.1 r) r o ≤ 1000000 := (bn_FI_all (hrt.2.2.2.1 r hr9) (hrt.2.2.2.2 r hr9) 12 (Nat.le_refl _)).1 r o
        refine lv_aload_n hx hb d_Ref_distance_37 rfl (lv_at hl 0 rfl) ?_
        refine va_get (D := D) (ci := 9) (v := .ref (qs 19)) (C := R_Ref) (T := T_Ref) (N := 32) hx hb ht in_Ref hown hK hP 0 rfl rfl 31 (by decide) (ht _ kl_Ref_69) (fun _ h9 => h9) rfl d_Ref_distance_38 ?_
        refine lv_bipush (v := nI 12) hx hb d_Ref_distance_41 (by decide) ?_
        refine lv_iload_n hx hb d_Ref_distance_43 rfl (lv_at hl 1 rfl) ?_
        refine ri_imul hx hb d_Ref_distance_44 ?_
        refine lv_iload_n hx hb d_Ref_distance_45 rfl (lv_at hl 2 rfl) ?_
        refine ri_iadd hx hb d_Ref_distance_46 ?_
        refine ri_iald hx hb hK hP 20 0 rfl rfl (j := (12 * r) + o) (by omega) (by omega) d_Ref_distance_47 ?_
        refine W.eq (g2 := F0 m 48 ls [.int (nI ((bn_far (vw0 S.T.1.2.2 S.T.2.1 r)) r o))]) (congrArg (fun z => F0 m 48 ls (.int z :: [])) (fl_at (a := r) (b := o) (by omega))) ?_
        refine lv_ldc (v := nI 1000000) hx hb hown (ht _ kl_Ref_135) d_Ref_distance_48 ?_
        refine ri_icmp_lt hx hb (by omega) (by omega) d_Ref_distance_50 (tgt := 57) (by decide) (fun h50 => ?_) (fun h50 => ?_)
        · refine lv_aload_n hx hb d_Ref_distance_57 rfl (lv_at hl 0 rfl) ?_
          refine va_get (D := D) (ci := 9) (v := .ref (qs 19)) (C := R_Ref) (T := T_Ref) (N := 32) hx hb ht in_Ref hown hK hP 0 rfl rfl 31 (by decide) (ht _ kl_Ref_69) (fun _ h9 => h9) rfl d_Ref_distance_58 ?_
          refine lv_bipush (v := nI 12) hx hb d_Ref_distance_61 (by decide) ?_
          refine lv_iload_n hx hb d_Ref_distance_63 rfl (lv_at hl 1 rfl) ?_
          refine ri_imul hx hb d_Ref_distance_64 ?_
          refine lv_iload_n hx hb d_Ref_distance_65 rfl (lv_at hl 2 rfl) ?_
          refine ri_iadd hx hb d_Ref_distance_66 ?_
          refine ri_iald hx hb hK hP 20 0 rfl rfl (j := (12 * r) + o) (by omega) (by omega) d_Ref_distance_67 ?_
          refine W.eq (g2 := F0 m 68 ls [.int (nI ((bn_far (vw0 S.T.1.2.2 S.T.2.1 r)) r o))]) (congrArg (fun z => F0 m 68 ls (.int z :: [])) (fl_at (a := r) (b := o) (by omega))) ?_
          exact ct_iret hQ hx hb hr hlk hP hD hS hK (by omega) (by omega) d_Ref_distance_68 (⟨(by unfold bn_len; first | (rw [if_pos (by omega)]; rfl) | (rw [if_neg (by omega)]; rfl)), ⟨qs, ma, ca, na, wt, fR, fN, fL, fH, uf, fM, fC, fT, fD, fX, (gN (vw0 S.T.1.2.2 S.T.2.1 r)), (gN (bn_far (vw0 S.T.1.2.2 S.T.2.1 r))), rfl, hwt, hAd, hM, hC, hN, hPd⟩⟩)
        · refine lv_iconst (v := (-1)) hx hb d_Ref_distance_53 (by decide) ?_
          refine lv_goto hx hb d_Ref_distance_54 (tgt := 68) (by decide) ?_
          exact ct_iret hQ hx hb hr hlk hP hD hS hK (by omega) (by omega) d_Ref_distance_68 (⟨(by unfold bn_len; first | (rw [if_pos (by omega)]; rfl) | (rw [if_neg (by omega)]; rfl)), ⟨qs, ma, ca, na, wt, fR, fN, fL, fH, uf, fM, fC, fT, fD, fX, (gN (vw0 S.T.1.2.2 S.T.2.1 r)), (gN (bn_far (vw0 S.T.1.2.2 S.T.2.1 r))), rfl, hwt, hAd, hM, hC, hN, hPd⟩⟩)
      · exact absurd h105 (by decide)
set_option maxHeartbeats 1600000 in
set_option maxRecDepth 100000 in
theorem k_Ref_alternate (l : Launch) (D : va_G) (cI cZ cJ cG : ClassId) {h : Nat} {cd : Int32} {S : bm_S} {ws : va_W} (hR : rf_R cI cZ cJ h cd S ws) (hi : rf_i S) (r o : Nat) (hr9 : r < 12) (ho9 : o < 12) : ct_I l D kls (ty4 cI cZ cJ cG) y_Ref_alternate ws_Ref_alternate (rm_ 2 50 0 0) [.ref h, .int (nI r), .int (nI o)] (ws) (fun z u => z = bm_oI (bm_alt (vw0 S.T.1.2.2 S.T.2.1 r) r o) ∧ rf_R cI cZ cJ h (nI 0) S u) 0 0 := by
  obtain ⟨qs, ma, ca, na, wt, fR, fN, fL, fH, uf, fM, fC, fT, fD, fX, MK, MF, rfl, hwt, hAd, hM, hC, hN, hPd⟩ := hR
  obtain ⟨hsi, heb, h00, hA9, hm9, hcp9, hnt9, hpk9, hgi⟩ := hi
  have hok := hsi.1
  have hkn9 := hsi.2.1
  have hlk9 := hsi.2.2.1
  have hma := hM.1
  refine ct_enterI (cc := b_Ref_alternate) (maxL := 5) (ret := (some .int)) (by decide +kernel) (Nat.le_of_ble_eq_true rfl) ?_
  intro p e s m args below meth c hx hb hml hr ht hown hlk hnm A Q hA hK hP hD hQ ls hl
  have hown : s.vm.findClass R_Ref = some m.cls := hown
  have hS : va_S A s.heap s.heap [] := va_S.rf
  have hl : lv_has ls 5 [(0, .ref h), (1, .int (nI r)), (2, .int (nI o))] := hl
  have hrt := hsi.2.2.2.2.1
  refine lv_aload_n hx hb d_Ref_alternate_0 rfl (lv_at hl 0 rfl) ?_
  refine lv_iload_n hx hb d_Ref_alternate_1 rfl (lv_at hl 1 rfl) ?_
  refine ct_rdS (As := [.int (nI r)]) (rest := [.ref h]) ⟨hx, hb, hml, hown, ht⟩ (k_Ref_isRouter l D cI cZ cJ cG (nI r)) (cb_S ht kc_Ref_isRouter kl_Ref_82 kn_Ref ki_Ref_isRouter hd_Ref_isRouter ⟨Nat.le_of_ble_eq_true rfl, Nat.le_of_ble_eq_true rfl⟩) (wd_ct (Bs := [[rf_o h qs cd ma S.T.2.2.1.2.1 ca S.D.2.1.2.1 na S.G.2.2.2.1.2.1 S.D.1.2.1 S.D.2.2.1 S.D.2.2.2.1 S.D.2.2.2.2 S.lost], [(qs 0, .inl (cI, 12, .inl (lI S.eb)))], [(qs 1, .inl (cI, 144, .inl (fl (gN S.lk))))], [(qs 2, .inl (cI, 144, .inl (fl (gN wt))))], [(qs 3, .inl (cZ, 144, .inl (fl (kB S.kn))))], [(qs 4, .inl (cI, 1600, .inl fR))], [(qs 5, .inl (cI, 1600, .inl fN))], [(qs 6, .inl (cJ, 1600, .inr (.inl fL)))], [(qs 7, .inl (cJ, 1600, .inr (.inl fH)))], [(qs 8, .inl (cZ, 1600, .inl (dB uf)))], [(qs 9, .inl (cI, 144, .inl (fl (sI S.T.2.1))))], [(qs 10, .inl (cI, 4000, .inl fM))], [(qs 11, .inl (cJ, 4000, .inr (.inl fC)))], [(qs 12, .inl (cI, 4000, .inl fT))], [(qs 13, .inl (cI, 8, .inl (lI S.G.1)))], [(qs 14, .inl (cI, 8, .inl S.G.2.1))], [(qs 15, .inl (cI, 96, .inl (fl (gN (rT S.G.2.2.1)))))], [(qs 16, .inl (cI, 901, .inl fD))], [(qs 17, .inl (cI, 901, .inl fX))], [(qs 18, .inl (cI, 144, .inl (fl MK)))], [(qs 19, .inl (cI, 144, .inl (fl MF)))]]) 21 rfl [] [0, 1, 2, 3, 4, 5, 6, 7, 8, 9, 10, 11, 12, 13, 14, 15, 16, 17, 18, 19, 20] (by decide) rfl) hK hP hD hS hA rfl hl.1 rfl (Nat.le_of_ble_eq_true rfl) ⟨(show 0 + 0 ≤ 0 by omega), (show 0 + 0 ≤ 0 by omega)⟩ d_Ref_alternate_2 (fun rhr101 H locs hr101 hP hD hS => ?_)
  subst hr101
  refine W.eq (g2 := F0 m 5 ls [.int (bI true), .ref h]) (congrArg (fun z => F0 m 5 ls (.int z :: [.ref h])) (congrArg bI (rg_t12 hr9))) ?_
  refine ri_ifeqB hx hb d_Ref_alternate_5 (tgt := 19) (by decide) (fun h102 => ?_) (fun h102 => ?_)
  · exact absurd h102 (fun z => by cases z)
  · refine lv_iload_n hx hb d_Ref_alternate_8 rfl (lv_at hl 2 rfl) ?_
    refine ct_rdS (As := [.int (nI o)]) (rest := [.ref h]) ⟨hx, hb, hml, hown, ht⟩ (k_Ref_isRouter l D cI cZ cJ cG (nI o)) (cb_S ht kc_Ref_isRouter kl_Ref_82 kn_Ref ki_Ref_isRouter hd_Ref_isRouter ⟨Nat.le_of_ble_eq_true rfl, Nat.le_of_ble_eq_true rfl⟩) (wd_ct (Bs := [[rf_o h qs cd ma S.T.2.2.1.2.1 ca S.D.2.1.2.1 na S.G.2.2.2.1.2.1 S.D.1.2.1 S.D.2.2.1 S.D.2.2.2.1 S.D.2.2.2.2 S.lost], [(qs 0, .inl (cI, 12, .inl (lI S.eb)))], [(qs 1, .inl (cI, 144, .inl (fl (gN S.lk))))], [(qs 2, .inl (cI, 144, .inl (fl (gN wt))))], [(qs 3, .inl (cZ, 144, .inl (fl (kB S.kn))))], [(qs 4, .inl (cI, 1600, .inl fR))], [(qs 5, .inl (cI, 1600, .inl fN))], [(qs 6, .inl (cJ, 1600, .inr (.inl fL)))], [(qs 7, .inl (cJ, 1600, .inr (.inl fH)))], [(qs 8, .inl (cZ, 1600, .inl (dB uf)))], [(qs 9, .inl (cI, 144, .inl (fl (sI S.T.2.1))))], [(qs 10, .inl (cI, 4000, .inl fM))], [(qs 11, .inl (cJ, 4000, .inr (.inl fC)))], [(qs 12, .inl (cI, 4000, .inl fT))], [(qs 13, .inl (cI, 8, .inl (lI S.G.1)))], [(qs 14, .inl (cI, 8, .inl S.G.2.1))], [(qs 15, .inl (cI, 96, .inl (fl (gN (rT S.G.2.2.1)))))], [(qs 16, .inl (cI, 901, .inl fD))], [(qs 17, .inl (cI, 901, .inl fX))], [(qs 18, .inl (cI, 144, .inl (fl MK)))], [(qs 19, .inl (cI, 144, .inl (fl MF)))]]) 21 rfl [] [0, 1, 2, 3, 4, 5, 6, 7, 8, 9, 10, 11, 12, 13, 14, 15, 16, 17, 18, 19, 20] (by decide) rfl) hK hP hD hS hA rfl hl.1 rfl (Nat.le_of_ble_eq_true rfl) ⟨(show 0 + 0 ≤ 0 by omega), (show 0 + 0 ≤ 0 by omega)⟩ d_Ref_alternate_9 (fun rhr103 H locs hr103 hP hD hS => ?_)
    subst hr103
    refine W.eq (g2 := F0 m 12 ls [.int (bI true), .ref h]) (congrArg (fun z => F0 m 12 ls (.int z :: [.ref h])) (congrArg bI (rg_t12 ho9))) ?_
    refine ri_ifeqB hx hb d_Ref_alternate_12 (tgt := 19) (by decide) (fun h104 => ?_) (fun h104 => ?_)
    · exact absurd h104 (fun z => by cases z)
    · refine lv_iconst (v := nI 0) hx hb d_Ref_alternate_15 (by decide) ?_
      refine lv_goto hx hb d_Ref_alternate_16 (tgt := 20) (by decide) ?_
      refine va_put (D := D) (ci := 9) (v := .int (nI 0)) (ty := .int) (C := R_Ref) (T := T_Ref) (N := 32) hx hb ht in_Ref t_Ref ok_Ref nm_Ref hown hK hP hD hS 0 rfl rfl 0 (by decide) (ht _ kl_Ref_72) (fun _ h9 => h9) rfl (by decide +kernel) rfl rfl (Nat.le_of_ble_eq_true rfl) d_Ref_alternate_20 (fun H locs hP hD hS => ?_)
      have hP : va_P D kls (List.flatten [[rf_o h qs (nI 0) ma S.T.2.2.1.2.1 ca S.D.2.1.2.1 na S.G.2.2.2.1.2.1 S.D.1.2.1 S.D.2.2.1 S.D.2.2.2.1 S.D.2.2.2.2 S.lost], [(qs 0, .inl (cI, 12, .inl (lI S.eb)))], [(qs 1, .inl (cI, 144, .inl (fl (gN S.lk))))], [(qs 2, .inl (cI, 144, .inl (fl (gN wt))))], [(qs 3, .inl (cZ, 144, .inl (fl (kB S.kn))))], [(qs 4, .inl (cI, 1600, .inl fR))], [(qs 5, .inl (cI, 1600, .inl fN))], [(qs 6, .inl (cJ, 1600, .inr (.inl fL)))], [(qs 7, .inl (cJ, 1600, .inr (.inl fH)))], [(qs 8, .inl (cZ, 1600, .inl (dB uf)))], [(qs 9, .inl (cI, 144, .inl (fl (sI S.T.2.1))))], [(qs 10, .inl (cI, 4000, .inl fM))], [(qs 11, .inl (cJ, 4000, .inr (.inl fC)))], [(qs 12, .inl (cI, 4000, .inl fT))], [(qs 13, .inl (cI, 8, .inl (lI S.G.1)))], [(qs 14, .inl (cI, 8, .inl S.G.2.1))], [(qs 15, .inl (cI, 96, .inl (fl (gN (rT S.G.2.2.1)))))], [(qs 16, .inl (cI, 901, .inl fD))], [(qs 17, .inl (cI, 901, .inl fX))], [(qs 18, .inl (cI, 144, .inl (fl MK)))], [(qs 19, .inl (cI, 144, .inl (fl MF)))]]) H := hP
      have hD : va_D A (List.flatten [[rf_o h qs (nI 0) ma S.T.2.2.1.2.1 ca S.D.2.1.2.1 na S.G.2.2.2.1.2.1 S.D.1.2.1 S.D.2.2.1 S.D.2.2.2.1 S.D.2.2.2.2 S.lost], [(qs 0, .inl (cI, 12, .inl (lI S.eb)))], [(qs 1, .inl (cI, 144, .inl (fl (gN S.lk))))], [(qs 2, .inl (cI, 144, .inl (fl (gN wt))))], [(qs 3, .inl (cZ, 144, .inl (fl (kB S.kn))))], [(qs 4, .inl (cI, 1600, .inl fR))], [(qs 5, .inl (cI, 1600, .inl fN))], [(qs 6, .inl (cJ, 1600, .inr (.inl fL)))], [(qs 7, .inl (cJ, 1600, .inr (.inl fH)))], [(qs 8, .inl (cZ, 1600, .inl (dB uf)))], [(qs 9, .inl (cI, 144, .inl (fl (sI S.T.2.1))))], [(qs 10, .inl (cI, 4000, .inl fM))], [(qs 11, .inl (cJ, 4000, .inr (.inl fC)))], [(qs 12, .inl (cI, 4000, .inl fT))], [(qs 13, .inl (cI, 8, .inl (lI S.G.1)))], [(qs 14, .inl (cI, 8, .inl S.G.2.1))], [(qs 15, .inl (cI, 96, .inl (fl (gN (rT S.G.2.2.1)))))], [(qs 16, .inl (cI, 901, .inl fD))], [(qs 17, .inl (cI, 901, .inl fX))], [(qs 18, .inl (cI, 144, .inl (fl MK)))], [(qs 19, .inl (cI, 144, .inl (fl MF)))]]) := hD
      refine lv_aload_n hx hb d_Ref_alternate_23 rfl (lv_at hl 0 rfl) ?_
      refine va_get (D := D) (ci := 9) (v := .int (nI 0)) (C := R_Ref) (T := T_Ref) (N := 32) hx hb ht in_Ref hown hK hP 0 rfl rfl 0 (by decide) (ht _ kl_Ref_72) (fun _ h9 => h9) rfl d_Ref_alternate_24 ?_
      refine ri_if_gt hx hb (by omega) d_Ref_alternate_27 (tgt := 35) (by decide) (fun h105 => ?_) (fun h105 => ?_)
      · exact absurd h105 (by decide)
      · refine lv_iload_n hx hb d_Ref_alternate_30 rfl (lv_at hl 1 rfl) ?_
        refine lv_iload_n hx hb d_Ref_alternate_31 rfl (lv_at hl 2 rfl) ?_
        refine ri_icmp_ne hx hb (by omega) (by omega) d_Ref_alternate_32 (tgt := 48) (by decide) (fun h32 => ?_) (fun h32 => ?_)
        · refine lv_aload_n hx hb d_Ref_alternate_48 rfl (lv_at hl 0 rfl) ?_
          refine lv_iload_n hx hb d_Ref_alternate_49 rfl (lv_at hl 1 rfl) ?_
          refine ct_callVV (C := R_Ref) (ci := 9) (As := [.int (nI r)]) (rest := []) ⟨hx, hb, hml, hown, ht⟩ (k_Ref_view l D cI cZ cJ cG (fun k hk => ⟨(hAd.1 k hk).2.2.1, (hAd.1 k hk).2.2.2⟩) h00 (Nat.le_trans hA9 (by decide)) hrt.2.2.1 r hr9 (fun x hx9 => hrt.2.1 r x hr9 hx9) (hrt.2.2.2.1 r hr9) (hrt.2.2.2.2 r hr9)) (cb_V ht kc_Ref_view kl_Ref_139 kn_Ref ki_Ref_view ks_Ref_view hd_Ref_view ⟨Nat.le_of_ble_eq_true rfl, Nat.le_of_ble_eq_true rfl⟩) (List.mem_of_getElem? (i := 0) rfl) rfl rfl (wd_ct (Bs := [[rf_o h qs (nI 0) ma S.T.2.2.1.2.1 ca S.D.2.1.2.1 na S.G.2.2.2.1.2.1 S.D.1.2.1 S.D.2.2.1 S.D.2.2.2.1 S.D.2.2.2.2 S.lost], [(qs 0, .inl (cI, 12, .inl (lI S.eb)))], [(qs 1, .inl (cI, 144, .inl (fl (gN S.lk))))], [(qs 2, .inl (cI, 144, .inl (fl (gN wt))))], [(qs 3, .inl (cZ, 144, .inl (fl (kB S.kn))))], [(qs 4, .inl (cI, 1600, .inl fR))], [(qs 5, .inl (cI, 1600, .inl fN))], [(qs 6, .inl (cJ, 1600, .inr (.inl fL)))], [(qs 7, .inl (cJ, 1600, .inr (.inl fH)))], [(qs 8, .inl (cZ, 1600, .inl (dB uf)))], [(qs 9, .inl (cI, 144, .inl (fl (sI S.T.2.1))))], [(qs 10, .inl (cI, 4000, .inl fM))], [(qs 11, .inl (cJ, 4000, .inr (.inl fC)))], [(qs 12, .inl (cI, 4000, .inl fT))], [(qs 13, .inl (cI, 8, .inl (lI S.G.1)))], [(qs 14, .inl (cI, 8, .inl S.G.2.1))], [(qs 15, .inl (cI, 96, .inl (fl (gN (rT S.G.2.2.1)))))], [(qs 16, .inl (cI, 901, .inl fD))], [(qs 17, .inl (cI, 901, .inl fX))], [(qs 18, .inl (cI, 144, .inl (fl MK)))], [(qs 19, .inl (cI, 144, .inl (fl MF)))]]) 21 rfl [0, 7, 8, 10, 19, 20] [1, 2, 3, 4, 5, 6, 9, 11, 12, 13, 14, 15, 16, 17, 18] (by decide) rfl) hK hP hD hS hA rfl hl.1 rfl (Nat.le_of_ble_eq_true rfl) ⟨(show 0 + 0 ≤ 0 by omega), (show 0 + 0 ≤ 0 by omega)⟩ d_Ref_alternate_50 (fun u107 H locs hu107 hP hD hS => ?_)
          subst hu107
          refine W.widen (k := 0) (n := 0) (Nat.le_refl _) (Nat.le_refl _) ?_
          have hP := wd_nP (N := [[rf_o h qs (nI 0) ma S.T.2.2.1.2.1 ca S.D.2.1.2.1 na S.G.2.2.2.1.2.1 S.D.1.2.1 S.D.2.2.1 S.D.2.2.2.1 S.D.2.2.2.2 S.lost], [(qs 6, .inl (cJ, 1600, .inr (.inl fL)))], [(qs 7, .inl (cJ, 1600, .inr (.inl fH)))], [(qs 9, .inl (cI, 144, .inl (fl (sI S.T.2.1))))], [(qs 18, .inl (cI, 144, .inl (fl (gN (vw0 S.T.1.2.2 S.T.2.1 r)))))], [(qs 19, .inl (cI, 144, .inl (fl (gN (bn_far (vw0 S.T.1.2.2 S.T.2.1 r))))))]]) rfl 21 rfl [0, 6, 7, 8, 9, 10, 11, 1, 2, 12, 3, 13, 14, 15, 16, 17, 18, 19, 20, 4, 5] (by decide) hP
          have hD := wd_nD (N := [[rf_o h qs (nI 0) ma S.T.2.2.1.2.1 ca S.D.2.1.2.1 na S.G.2.2.2.1.2.1 S.D.1.2.1 S.D.2.2.1 S.D.2.2.2.1 S.D.2.2.2.2 S.lost], [(qs 6, .inl (cJ, 1600, .inr (.inl fL)))], [(qs 7, .inl (cJ, 1600, .inr (.inl fH)))], [(qs 9, .inl (cI, 144, .inl (fl (sI S.T.2.1))))], [(qs 18, .inl (cI, 144, .inl (fl (gN (vw0 S.T.1.2.2 S.T.2.1 r)))))], [(qs 19, .inl (cI, 144, .inl (fl (gN (bn_far (vw0 S.T.1.2.2 S.T.2.1 r))))))]]) rfl 21 rfl [0, 6, 7, 8, 9, 10, 11, 1, 2, 12, 3, 13, 14, 15, 16, 17, 18, 19, 20, 4, 5] (by decide) hD
          have hP : va_P D kls (List.flatten [[rf_o h qs (nI 0) ma S.T.2.2.1.2.1 ca S.D.2.1.2.1 na S.G.2.2.2.1.2.1 S.D.1.2.1 S.D.2.2.1 S.D.2.2.2.1 S.D.2.2.2.2 S.lost], [(qs 0, .inl (cI, 12, .inl (lI S.eb)))], [(qs 1, .inl (cI, 144, .inl (fl (gN S.lk))))], [(qs 2, .inl (cI, 144, .inl (fl (gN wt))))], [(qs 3, .inl (cZ, 144, .inl (fl (kB S.kn))))], [(qs 4, .inl (cI, 1600, .inl fR))], [(qs 5, .inl (cI, 1600, .inl fN))], [(qs 6, .inl (cJ, 1600, .inr (.inl fL)))], [(qs 7, .inl (cJ, 1600, .inr (.inl fH)))], [(qs 8, .inl (cZ, 1600, .inl (dB uf)))], [(qs 9, .inl (cI, 144, .inl (fl (sI S.T.2.1))))], [(qs 10, .inl (cI, 4000, .inl fM))], [(qs 11, .inl (cJ, 4000, .inr (.inl fC)))], [(qs 12, .inl (cI, 4000, .inl fT))], [(qs 13, .inl (cI, 8, .inl (lI S.G.1)))], [(qs 14, .inl (cI, 8, .inl S.G.2.1))], [(qs 15, .inl (cI, 96, .inl (fl (gN (rT S.G.2.2.1)))))], [(qs 16, .inl (cI, 901, .inl fD))], [(qs 17, .inl (cI, 901, .inl fX))], [(qs 18, .inl (cI, 144, .inl (fl (gN (vw0 S.T.1.2.2 S.T.2.1 r)))))], [(qs 19, .inl (cI, 144, .inl (fl (gN (bn_far (vw0 S.T.1.2.2 S.T.2.1 r))))))]]) H := hP
          have hD : va_D A (List.flatten [[rf_o h qs (nI 0) ma S.T.2.2.1.2.1 ca S.D.2.1.2.1 na S.G.2.2.2.1.2.1 S.D.1.2.1 S.D.2.2.1 S.D.2.2.2.1 S.D.2.2.2.2 S.lost], [(qs 0, .inl (cI, 12, .inl (lI S.eb)))], [(qs 1, .inl (cI, 144, .inl (fl (gN S.lk))))], [(qs 2, .inl (cI, 144, .inl (fl (gN wt))))], [(qs 3, .inl (cZ, 144, .inl (fl (kB S.kn))))], [(qs 4, .inl (cI, 1600, .inl fR))], [(qs 5, .inl (cI, 1600, .inl fN))], [(qs 6, .inl (cJ, 1600, .inr (.inl fL)))], [(qs 7, .inl (cJ, 1600, .inr (.inl fH)))], [(qs 8, .inl (cZ, 1600, .inl (dB uf)))], [(qs 9, .inl (cI, 144, .inl (fl (sI S.T.2.1))))], [(qs 10, .inl (cI, 4000, .inl fM))], [(qs 11, .inl (cJ, 4000, .inr (.inl fC)))], [(qs 12, .inl (cI, 4000, .inl fT))], [(qs 13, .inl (cI, 8, .inl (lI S.G.1)))], [(qs 14, .inl (cI, 8, .inl S.G.2.1))], [(qs 15, .inl (cI, 96, .inl (fl (gN (rT S.G.2.2.1)))))], [(qs 16, .inl (cI, 901, .inl fD))], [(qs 17, .inl (cI, 901, .inl fX))], [(qs 18, .inl (cI, 144, .inl (fl (gN (vw0 S.T.1.2.2 S.T.2.1 r)))))], [(qs 19, .inl (cI, 144, .inl (fl (gN (bn_far (vw0 S.T.1.2.2 S.T.2.1 r))))))]]) := hD
          refine W.eq (g2 := F0 m 53 ls []) rfl ?_
          refine lv_aload_n hx hb d_Ref_alternate_53 rfl (lv_at hl 0 rfl) ?_
          refine lv_iload_n hx hb d_Ref_alternate_54 rfl (lv_at hl 1 rfl) ?_
          refine lv_iload_n hx hb d_Ref_alternate_55 rfl (lv_at hl 2 rfl) ?_
          refine ct_rdV (C := R_Ref) (ci := 9) (As := [.int (nI r), .int (nI o)]) (rest := []) ⟨hx, hb, hml, hown, ht⟩ (k_Ref_nextHop l D cI cZ cJ cG (hrt.2.2.2.1 r hr9) (hrt.2.2.2.2 r hr9) r o hr9 ho9) (cb_V ht kc_Ref_nextHop kl_Ref_136 kn_Ref ki_Ref_nextHop ks_Ref_nextHop hd_Ref_nextHop ⟨Nat.le_of_ble_eq_true rfl, Nat.le_of_ble_eq_true rfl⟩) (List.mem_of_getElem? (i := 0) rfl) rfl rfl (wd_ct (Bs := [[rf_o h qs (nI 0) ma S.T.2.2.1.2.1 ca S.D.2.1.2.1 na S.G.2.2.2.1.2.1 S.D.1.2.1 S.D.2.2.1 S.D.2.2.2.1 S.D.2.2.2.2 S.lost], [(qs 0, .inl (cI, 12, .inl (lI S.eb)))], [(qs 1, .inl (cI, 144, .inl (fl (gN S.lk))))], [(qs 2, .inl (cI, 144, .inl (fl (gN wt))))], [(qs 3, .inl (cZ, 144, .inl (fl (kB S.kn))))], [(qs 4, .inl (cI, 1600, .inl fR))], [(qs 5, .inl (cI, 1600, .inl fN))], [(qs 6, .inl (cJ, 1600, .inr (.inl fL)))], [(qs 7, .inl (cJ, 1600, .inr (.inl fH)))], [(qs 8, .inl (cZ, 1600, .inl (dB uf)))], [(qs 9, .inl (cI, 144, .inl (fl (sI S.T.2.1))))], [(qs 10, .inl (cI, 4000, .inl fM))], [(qs 11, .inl (cJ, 4000, .inr (.inl fC)))], [(qs 12, .inl (cI, 4000, .inl fT))], [(qs 13, .inl (cI, 8, .inl (lI S.G.1)))], [(qs 14, .inl (cI, 8, .inl S.G.2.1))], [(qs 15, .inl (cI, 96, .inl (fl (gN (rT S.G.2.2.1)))))], [(qs 16, .inl (cI, 901, .inl fD))], [(qs 17, .inl (cI, 901, .inl fX))], [(qs 18, .inl (cI, 144, .inl (fl (gN (vw0 S.T.1.2.2 S.T.2.1 r)))))], [(qs 19, .inl (cI, 144, .inl (fl (gN (bn_far (vw0 S.T.1.2.2 S.T.2.1 r))))))]]) 21 rfl [0, 19, 20] [1, 2, 3, 4, 5, 6, 7, 8, 9, 10, 11, 12, 13, 14, 15, 16, 17, 18] (by decide) rfl) hK hP hD hS hA rfl hl.1 rfl (Nat.le_of_ble_eq_true rfl) ⟨(show 0 + 0 ≤ 0 by omega), (show 0 + 0 ≤ 0 by omega)⟩ d_Ref_alternate_56 (fun rhr109 H locs hr109 hP hD hS => ?_)
          have hz108 := hr109
          rw [hz108]
          refine lv_istore_n hx hb d_Ref_alternate_59 rfl hl (by decide) rfl (fun ls hl => ?_)
          have hl : lv_has ls 5 [(3, .int (bm_oI (bn_nh (vw0 S.T.1.2.2 S.T.2.1 r) r o))), (0, .ref h), (1, .int (nI r)), (2, .int (nI o))] := hl
          refine lv_iload_n hx hb d_Ref_alternate_60 rfl (lv_at hl 0 rfl) ?_
          refine lv_if_ge hx hb d_Ref_alternate_61 (tgt := 66) (by decide) (fun h61 => ?_) (fun h61 => ?_)
          · refine lv_iconst (v := nI 0) hx hb d_Ref_alternate_66 (by decide) ?_
            refine lv_istore hx hb d_Ref_alternate_67 hl (by decide) rfl (fun ls hl => ?_)
            have hl : lv_has ls 5 [(4, .int (nI 0)), (3, .int (bm_oI (bn_nh (vw0 S.T.1.2.2 S.T.2.1 r) r o))), (0, .ref h), (1, .int (nI r)), (2, .int (nI o))] := hl
            obtain ⟨hx2, hnx⟩ : ∃ hx2, bn_nh (vw0 S.T.1.2.2 S.T.2.1 r) r o = some hx2 := by
              cases hq : bn_nh (vw0 S.T.1.2.2 S.T.2.1 r) r o with
              | none => rw [hq] at h61; exact absurd h61 (by decide)
              | some q => exact ⟨q, rfl⟩
            have hx12 := nh_lt hnx
            have hF : ∀ x y, bn_far (vw0 S.T.1.2.2 S.T.2.1 r) x y ≤ 1000000 := (bn_FI_all (hrt.2.2.2.1 r hr9) (hrt.2.2.2.2 r hr9) 12 (Nat.le_refl _)).1
            rw [hnx] at hl
            have loop : ∀ (k j : Nat)  (H : Heap) (locs : List Loc) (ls : Array Slot), j + k = 12 → (∀ i, i < j → (fun m => decide (vw0 S.T.1.2.2 S.T.2.1 r r m ≠ 0 ∧ m ≠ hx2 ∧ bn_far (vw0 S.T.1.2.2 S.T.2.1 r) m o < bn_far (vw0 S.T.1.2.2 S.T.2.1 r) m r + bn_far (vw0 S.T.1.2.2 S.T.2.1 r) r o)) i = false) → va_P D kls (List.flatten [[rf_o h qs (nI 0) ma S.T.2.2.1.2.1 ca S.D.2.1.2.1 na S.G.2.2.2.1.2.1 S.D.1.2.1 S.D.2.2.1 S.D.2.2.2.1 S.D.2.2.2.2 S.lost], [(qs 0, .inl (cI, 12, .inl (lI S.eb)))], [(qs 1, .inl (cI, 144, .inl (fl (gN S.lk))))], [(qs 2, .inl (cI, 144, .inl (fl (gN wt))))], [(qs 3, .inl (cZ, 144, .inl (fl (kB S.kn))))], [(qs 4, .inl (cI, 1600, .inl fR))], [(qs 5, .inl (cI, 1600, .inl fN))], [(qs 6, .inl (cJ, 1600, .inr (.inl fL)))], [(qs 7, .inl (cJ, 1600, .inr (.inl fH)))], [(qs 8, .inl (cZ, 1600, .inl (dB uf)))], [(qs 9, .inl (cI, 144, .inl (fl (sI S.T.2.1))))], [(qs 10, .inl (cI, 4000, .inl fM))], [(qs 11, .inl (cJ, 4000, .inr (.inl fC)))], [(qs 12, .inl (cI, 4000, .inl fT))], [(qs 13, .inl (cI, 8, .inl (lI S.G.1)))], [(qs 14, .inl (cI, 8, .inl S.G.2.1))], [(qs 15, .inl (cI, 96, .inl (fl (gN (rT S.G.2.2.1)))))], [(qs 16, .inl (cI, 901, .inl fD))], [(qs 17, .inl (cI, 901, .inl fX))], [(qs 18, .inl (cI, 144, .inl (fl (gN (vw0 S.T.1.2.2 S.T.2.1 r)))))], [(qs 19, .inl (cI, 144, .inl (fl (gN (bn_far (vw0 S.T.1.2.2 S.T.2.1 r))))))]]) H → va_D A (List.flatten [[rf_o h qs (nI 0) ma S.T.2.2.1.2.1 ca S.D.2.1.2.1 na S.G.2.2.2.1.2.1 S.D.1.2.1 S.D.2.2.1 S.D.2.2.2.1 S.D.2.2.2.2 S.lost], [(qs 0, .inl (cI, 12, .inl (lI S.eb)))], [(qs 1, .inl (cI, 144, .inl (fl (gN S.lk))))], [(qs 2, .inl (cI, 144, .inl (fl (gN wt))))], [(qs 3, .inl (cZ, 144, .inl (fl (kB S.kn))))], [(qs 4, .inl (cI, 1600, .inl fR))], [(qs 5, .inl (cI, 1600, .inl fN))], [(qs 6, .inl (cJ, 1600, .inr (.inl fL)))], [(qs 7, .inl (cJ, 1600, .inr (.inl fH)))], [(qs 8, .inl (cZ, 1600, .inl (dB uf)))], [(qs 9, .inl (cI, 144, .inl (fl (sI S.T.2.1))))], [(qs 10, .inl (cI, 4000, .inl fM))], [(qs 11, .inl (cJ, 4000, .inr (.inl fC)))], [(qs 12, .inl (cI, 4000, .inl fT))], [(qs 13, .inl (cI, 8, .inl (lI S.G.1)))], [(qs 14, .inl (cI, 8, .inl S.G.2.1))], [(qs 15, .inl (cI, 96, .inl (fl (gN (rT S.G.2.2.1)))))], [(qs 16, .inl (cI, 901, .inl fD))], [(qs 17, .inl (cI, 901, .inl fX))], [(qs 18, .inl (cI, 144, .inl (fl (gN (vw0 S.T.1.2.2 S.T.2.1 r)))))], [(qs 19, .inl (cI, 144, .inl (fl (gN (bn_far (vw0 S.T.1.2.2 S.T.2.1 r))))))]]) → va_S A s.heap H locs → lv_has ls 5 [(4, .int (nI j)), (3, .int (nI hx2)), (0, .ref h), (1, .int (nI r)), (2, .int (nI o))] → W p l e (rm_ 2 50 0 0) s m args below meth c H locs 0 0 Q (F0 m 69 ls []) := by
              intro k
              induction k with
              | zero =>
                intro j H locs ls hk hs hP hD hS hl
                refine lv_iload hx hb d_Ref_alternate_69 (lv_at hl 0 rfl) ?_
                refine lv_bipush (v := nI 12) hx hb d_Ref_alternate_71 (by decide) ?_
                refine ri_icmp_ge hx hb (by omega) (by omega) d_Ref_alternate_73 (tgt := 148) (by decide) (fun hc9 => ?_) (fun hc9 => ?_)
                · refine lv_iconst (v := (-1)) hx hb d_Ref_alternate_148 (by decide) ?_
                  exact ct_iret hQ hx hb hr hlk hP hD hS hK (by omega) (by omega) d_Ref_alternate_149 ⟨(by unfold bm_alt; rw [if_neg h32, hnx]; show _ = bm_oI (bn_fst (fun m => decide (vw0 S.T.1.2.2 S.T.2.1 r r m ≠ 0 ∧ m ≠ hx2 ∧ bn_far (vw0 S.T.1.2.2 S.T.2.1 r) m o < bn_far (vw0 S.T.1.2.2 S.T.2.1 r) m r + bn_far (vw0 S.T.1.2.2 S.T.2.1 r) r o)) 12); rw [bn_fst_none 12 (fun i hi => hs i (by omega))]; rfl), ⟨qs, ma, ca, na, wt, fR, fN, fL, fH, uf, fM, fC, fT, fD, fX, (gN (vw0 S.T.1.2.2 S.T.2.1 r)), (gN (bn_far (vw0 S.T.1.2.2 S.T.2.1 r))), rfl, hwt, hAd, hM, hC, hN, hPd⟩⟩
                · exact absurd hc9 (by omega)
              | succ k ih =>
                intro j H locs ls hk hs hP hD hS hl
                refine lv_iload hx hb d_Ref_alternate_69 (lv_at hl 0 rfl) ?_
                refine lv_bipush (v := nI 12) hx hb d_Ref_alternate_71 (by decide) ?_
                refine ri_icmp_ge hx hb (by omega) (by omega) d_Ref_alternate_73 (tgt := 148) (by decide) (fun hc9 => ?_) (fun hc9 => ?_)
                · exact absurd hc9 (by omega)
                · have b1 := hrt.2.2.2.2 r hr9 r j
                  have b2 := hF j o
                  have b3 := hF j r
                  have b4 := hF r o
                  refine lv_aload_n hx hb d_Ref_alternate_76 rfl (lv_at hl 2 rfl) ?_
                  refine va_get (D := D) (ci := 9) (v := .ref (qs 18)) (C := R_Ref) (T := T_Ref) (N := 32) hx hb ht in_Ref hown hK hP 0 rfl rfl 30 (by decide) (ht _ kl_Ref_66) (fun _ h9 => h9) rfl d_Ref_alternate_77 ?_
                  refine lv_bipush (v := nI 12) hx hb d_Ref_alternate_80 (by decide) ?_
                  refine lv_iload_n hx hb d_Ref_alternate_82 rfl (lv_at hl 3 rfl) ?_
                  refine ri_imul hx hb d_Ref_alternate_83 ?_
                  refine lv_iload hx hb d_Ref_alternate_84 (lv_at hl 0 rfl) ?_
                  refine ri_iadd hx hb d_Ref_alternate_86 ?_
                  refine ri_iald hx hb hK hP 19 0 rfl rfl (j := (12 * r) + j) (by omega) (by omega) d_Ref_alternate_87 ?_
                  refine W.eq (g2 := F0 m 88 ls [.int (nI ((vw0 S.T.1.2.2 S.T.2.1 r) r j))]) (congrArg (fun z => F0 m 88 ls (.int z :: [])) (fl_at (a := r) (b := j) (by omega))) ?_
                  refine ri_if_eq hx hb (by omega) d_Ref_alternate_88 (tgt := 142) (by decide) (fun h88 => ?_) (fun h88 => ?_)
                  · refine ri_iinc hx hb d_Ref_alternate_142 hl (k := 0) rfl (by decide) rfl (fun ls hl => ?_)
                    have hl : lv_has ls 5 [(4, .int (nI (j + 1))), (3, .int (nI hx2)), (0, .ref h), (1, .int (nI r)), (2, .int (nI o))] := hl
                    refine lv_goto hx hb d_Ref_alternate_145 (tgt := 69) (by decide) ?_
                    exact ih (j + 1) H locs ls (by omega) (fun i hi => by by_cases e : i = j; (· rw [e]; exact decide_eq_false (fun z => by first | exact z.1 h88 | exact absurd z.2.1 (by omega) | exact absurd z.2.2 (by omega))); (· exact hs i (by omega))) hP hD hS hl
                  · refine lv_iload hx hb d_Ref_alternate_91 (lv_at hl 0 rfl) ?_
                    refine lv_iload_n hx hb d_Ref_alternate_93 rfl (lv_at hl 1 rfl) ?_
                    refine ri_icmp_ne hx hb (by omega) (by omega) d_Ref_alternate_94 (tgt := 100) (by decide) (fun h94 => ?_) (fun h94 => ?_)
                    · have h94n : j ≠ hx2 := by omega
                      refine lv_aload_n hx hb d_Ref_alternate_100 rfl (lv_at hl 2 rfl) ?_
                      refine va_get (D := D) (ci := 9) (v := .ref (qs 19)) (C := R_Ref) (T := T_Ref) (N := 32) hx hb ht in_Ref hown hK hP 0 rfl rfl 31 (by decide) (ht _ kl_Ref_69) (fun _ h9 => h9) rfl d_Ref_alternate_101 ?_
                      refine lv_bipush (v := nI 12) hx hb d_Ref_alternate_104 (by decide) ?_
                      refine lv_iload hx hb d_Ref_alternate_106 (lv_at hl 0 rfl) ?_
                      refine ri_imul hx hb d_Ref_alternate_108 ?_
                      refine lv_iload_n hx hb d_Ref_alternate_109 rfl (lv_at hl 4 rfl) ?_
                      refine ri_iadd hx hb d_Ref_alternate_110 ?_
                      refine ri_iald hx hb hK hP 20 0 rfl rfl (j := (12 * j) + o) (by omega) (by omega) d_Ref_alternate_111 ?_
                      refine W.eq (g2 := F0 m 112 ls [.int (nI ((bn_far (vw0 S.T.1.2.2 S.T.2.1 r)) j o))]) (congrArg (fun z => F0 m 112 ls (.int z :: [])) (fl_at (a := j) (b := o) (by omega))) ?_
                      refine lv_aload_n hx hb d_Ref_alternate_112 rfl (lv_at hl 2 rfl) ?_
                      refine va_get (D := D) (ci := 9) (v := .ref (qs 19)) (C := R_Ref) (T := T_Ref) (N := 32) hx hb ht in_Ref hown hK hP 0 rfl rfl 31 (by decide) (ht _ kl_Ref_69) (fun _ h9 => h9) rfl d_Ref_alternate_113 ?_
                      refine lv_bipush (v := nI 12) hx hb d_Ref_alternate_116 (by decide) ?_
                      refine lv_iload hx hb d_Ref_alternate_118 (lv_at hl 0 rfl) ?_
                      refine ri_imul hx hb d_Ref_alternate_120 ?_
                      refine lv_iload_n hx hb d_Ref_alternate_121 rfl (lv_at hl 3 rfl) ?_
                      refine ri_iadd hx hb d_Ref_alternate_122 ?_
                      refine ri_iald hx hb hK hP 20 0 rfl rfl (j := (12 * j) + r) (by omega) (by omega) d_Ref_alternate_123 ?_
                      refine W.eq (g2 := F0 m 124 ls [.int (nI ((bn_far (vw0 S.T.1.2.2 S.T.2.1 r)) j r)), .int (nI ((bn_far (vw0 S.T.1.2.2 S.T.2.1 r)) j o))]) (congrArg (fun z => F0 m 124 ls (.int z :: [.int (nI ((bn_far (vw0 S.T.1.2.2 S.T.2.1 r)) j o))])) (fl_at (a := j) (b := r) (by omega))) ?_
                      refine lv_aload_n hx hb d_Ref_alternate_124 rfl (lv_at hl 2 rfl) ?_
                      refine va_get (D := D) (ci := 9) (v := .ref (qs 19)) (C := R_Ref) (T := T_Ref) (N := 32) hx hb ht in_Ref hown hK hP 0 rfl rfl 31 (by decide) (ht _ kl_Ref_69) (fun _ h9 => h9) rfl d_Ref_alternate_125 ?_
                      refine lv_bipush (v := nI 12) hx hb d_Ref_alternate_128 (by decide) ?_
                      refine lv_iload_n hx hb d_Ref_alternate_130 rfl (lv_at hl 3 rfl) ?_
                      refine ri_imul hx hb d_Ref_alternate_131 ?_
                      refine lv_iload_n hx hb d_Ref_alternate_132 rfl (lv_at hl 4 rfl) ?_
                      refine ri_iadd hx hb d_Ref_alternate_133 ?_
                      refine ri_iald hx hb hK hP 20 0 rfl rfl (j := (12 * r) + o) (by omega) (by omega) d_Ref_alternate_134 ?_
                      refine W.eq (g2 := F0 m 135 ls [.int (nI ((bn_far (vw0 S.T.1.2.2 S.T.2.1 r)) r o)), .int (nI ((bn_far (vw0 S.T.1.2.2 S.T.2.1 r)) j r)), .int (nI ((bn_far (vw0 S.T.1.2.2 S.T.2.1 r)) j o))]) (congrArg (fun z => F0 m 135 ls (.int z :: [.int (nI ((bn_far (vw0 S.T.1.2.2 S.T.2.1 r)) j r)), .int (nI ((bn_far (vw0 S.T.1.2.2 S.T.2.1 r)) j o))])) (fl_at (a := r) (b := o) (by omega))) ?_
                      refine ri_iadd hx hb d_Ref_alternate_135 ?_
                      refine ri_icmp_ge hx hb (by omega) (by omega) d_Ref_alternate_136 (tgt := 142) (by decide) (fun h136 => ?_) (fun h136 => ?_)
                      · refine ri_iinc hx hb d_Ref_alternate_142 hl (k := 0) rfl (by decide) rfl (fun ls hl => ?_)
                        have hl : lv_has ls 5 [(4, .int (nI (j + 1))), (3, .int (nI hx2)), (0, .ref h), (1, .int (nI r)), (2, .int (nI o))] := hl
                        refine lv_goto hx hb d_Ref_alternate_145 (tgt := 69) (by decide) ?_
                        exact ih (j + 1) H locs ls (by omega) (fun i hi => by by_cases e : i = j; (· rw [e]; exact decide_eq_false (fun z => by first | exact z.1 h88 | exact absurd z.2.1 (by omega) | exact absurd z.2.2 (by omega))); (· exact hs i (by omega))) hP hD hS hl
                      · refine lv_iload hx hb d_Ref_alternate_139 (lv_at hl 0 rfl) ?_
                        exact ct_iret hQ hx hb hr hlk hP hD hS hK (by omega) (by omega) d_Ref_alternate_141 ⟨(by unfold bm_alt; rw [if_neg h32, hnx]; show _ = bm_oI (bn_fst (fun m => decide (vw0 S.T.1.2.2 S.T.2.1 r r m ≠ 0 ∧ m ≠ hx2 ∧ bn_far (vw0 S.T.1.2.2 S.T.2.1 r) m o < bn_far (vw0 S.T.1.2.2 S.T.2.1 r) m r + bn_far (vw0 S.T.1.2.2 S.T.2.1 r) r o)) 12); rw [bn_fst_some hs (decide_eq_true ⟨h88, h94n, h136⟩) 12 (by omega)]; rfl), ⟨qs, ma, ca, na, wt, fR, fN, fL, fH, uf, fM, fC, fT, fD, fX, (gN (vw0 S.T.1.2.2 S.T.2.1 r)), (gN (bn_far (vw0 S.T.1.2.2 S.T.2.1 r))), rfl, hwt, hAd, hM, hC, hN, hPd⟩⟩
                    · refine lv_goto hx hb d_Ref_alternate_97 (tgt := 142) (by decide) ?_
                      refine ri_iinc hx hb d_Ref_alternate_142 hl (k := 0) rfl (by decide) rfl (fun ls hl => ?_)
                      have hl : lv_has ls 5 [(4, .int (nI (j + 1))), (3, .int (nI hx2)), (0, .ref h), (1, .int (nI r)), (2, .int (nI o))] := hl
                      refine lv_goto hx hb d_Ref_alternate_145 (tgt := 69) (by decide) ?_
                      exact ih (j + 1) H locs ls (by omega) (fun i hi => by by_cases e : i = j; (· rw [e]; exact decide_eq_false (fun z => by first | exact z.1 h88 | exact absurd z.2.1 (by omega) | exact absurd z.2.2 (by omega))); (· exact hs i (by omega))) hP hD hS hl
            exact loop 12 0 H locs ls (by omega) (fun i hi => absurd hi (by omega)) hP hD hS (lv_sub hl [0, 1, 2, 3, 4] rfl)
          · refine lv_iconst (v := (-1)) hx hb d_Ref_alternate_64 (by decide) ?_
            exact ct_iret hQ hx hb hr hlk hP hD hS hK (by omega) (by omega) d_Ref_alternate_65 ⟨(by unfold bm_alt; rw [if_neg h32, (oI_lt (fun b z => Nat.lt_trans (nh_lt z) (by decide))).mp (Int32.not_le.mp h61)]; rfl), ⟨qs, ma, ca, na, wt, fR, fN, fL, fH, uf, fM, fC, fT, fD, fX, (gN (vw0 S.T.1.2.2 S.T.2.1 r)), (gN (bn_far (vw0 S.T.1.2.2 S.T.2.1 r))), rfl, hwt, hAd, hM, hC, hN, hPd⟩⟩
        · refine lv_aload_n hx hb d_Ref_alternate_35 rfl (lv_at hl 0 rfl) ?_
          refine va_get (D := D) (ci := 9) (v := .int (nI 0)) (C := R_Ref) (T := T_Ref) (N := 32) hx hb ht in_Ref hown hK hP 0 rfl rfl 0 (by decide) (ht _ kl_Ref_72) (fun _ h9 => h9) rfl d_Ref_alternate_36 ?_
          refine ri_if_le hx hb (by omega) d_Ref_alternate_39 (tgt := 46) (by decide) (fun h116 => ?_) (fun h116 => ?_)
          · refine lv_iconst (v := (-1)) hx hb d_Ref_alternate_46 (by decide) ?_
            exact ct_iret hQ hx hb hr hlk hP hD hS hK (by omega) (by omega) d_Ref_alternate_47 ⟨(by unfold bm_alt; rw [if_pos h32]; rfl), ⟨qs, ma, ca, na, wt, fR, fN, fL, fH, uf, fM, fC, fT, fD, fX, MK, MF, rfl, hwt, hAd, hM, hC, hN, hPd⟩⟩
          · exact absurd h116 (by decide)
