/-! The reference: advertise, the oldest message. -/
/-- the advertisements, in the reference's places: one less than their numbers here -/
def ad_R (T1 : bm_M Nat) (fR fN : Nat → Int32) (fL fH : Nat → Int64) (uf : Nat → Bool) : Prop :=
  (∀ k, k + 1 < T1.2.1 → fR k = nI (T1.2.2 (k + 1) 0) ∧ fN k = nI (T1.2.2 (k + 1) 1) ∧ fL k = lN (pkn (fun j => T1.2.2 (k + 1) (2 + j)) 6) ∧ fH k = lN (pkn (fun j => T1.2.2 (k + 1) (2 + (6 + j))) 6)) ∧ ∀ k, k < 1600 → uf k = decide (k + 1 < T1.2.1)
theorem updL2 {f : Nat → Int64} {P : Nat} {v w : Int64} : vp_updL (vp_updL f P v) P w = vp_updL f P w := by
  funext j
  show (if j = P then w else (if j = P then v else f j)) = (if j = P then w else f j)
  split <;> rfl
theorem updL_at {f : Nat → Int64} {P : Nat} {v : Int64} : vp_updL f P v P = v := if_pos rfl
theorem ad_push {T1 : bm_M Nat} {fR fN : Nat → Int32} {fL fH : Nat → Int64} {uf : Nat → Bool} (h : ad_R T1 fR fN fL fH uf) (h1 : 0 < T1.2.1) (r num : Nat) (kr : Nat → Nat) : ad_R (bm_push T1 (bm_adrow r num kr)) (upd fR (T1.2.1 - 1) (nI r)) (upd fN (T1.2.1 - 1) (nI num)) (vp_updL fL (T1.2.1 - 1) (lN (pkn kr 6))) (vp_updL fH (T1.2.1 - 1) (lN (pkn (fun i => kr (6 + i)) 6))) (bm_up1 uf (T1.2.1 - 1) true) := by
  refine ⟨fun k hk => ?_, fun k hk => ?_⟩
  · have hk : k + 1 < T1.2.1 + 1 := hk
    by_cases e : k = T1.2.1 - 1
    · have e2 : k + 1 = T1.2.1 := by omega
      rw [e2, bm_push_at]
      refine ⟨if_pos e, if_pos e, (if_pos e).trans (congrArg lN (pkn_congr 6 (fun j _ => ?_))), (if_pos e).trans (congrArg lN (pkn_congr 6 (fun j _ => ?_)))⟩
      · show kr j = (if 2 + j = 0 then r else if 2 + j = 1 then num else kr (2 + j - 2))
        rw [if_neg (by omega), if_neg (by omega), show 2 + j - 2 = j by omega]
      · show kr (6 + j) = (if 2 + (6 + j) = 0 then r else if 2 + (6 + j) = 1 then num else kr (2 + (6 + j) - 2))
        rw [if_neg (by omega), if_neg (by omega), show 2 + (6 + j) - 2 = 6 + j by omega]
    · rw [bm_push_old T1 _ (show k + 1 < T1.2.1 by omega)]
      obtain ⟨a, b, c, d⟩ := h.1 k (by omega)
      exact ⟨(if_neg e).trans a, (if_neg e).trans b, (if_neg e).trans c, (if_neg e).trans d⟩
  · show (if k = T1.2.1 - 1 then true else uf k) = decide (k + 1 < T1.2.1 + 1)
    split
    · exact (decide_eq_true (by omega)).symm
    · rw [h.2 k hk]
      exact decide_eq_decide.mpr (by omega)
theorem mr_drop {f : Nat → Int32} {ma : Nat} {M : bm_M Nat} (h : mr_R f ma M) : mr_R f ((ma + 1) % 4000) (bm_drop M) := by
  refine ⟨Nat.mod_lt _ (by decide), fun i hi => ?_⟩
  have hi : i < M.2.1 - 1 := hi
  have := h.2 (i + 1) (by omega)
  rw [show ((ma + 1) % 4000 + i) % 4000 = (ma + (i + 1)) % 4000 by omega]
  exact this
theorem mg_f {ad f t : Nat} (hf : f < 12) (ht : t < 12) : ((ad * 256 + f * 16 + t) / 2 ^ 4) &&& 15 = f := by
  rw [show 15 = 2 ^ 4 - 1 from rfl, Nat.and_two_pow_sub_one_eq_mod]
  omega
theorem mg_t {ad f t : Nat} (ht : t < 12) : (ad * 256 + f * 16 + t) &&& 15 = t := by
  rw [show 15 = 2 ^ 4 - 1 from rfl, Nat.and_two_pow_sub_one_eq_mod]
  omega
theorem mg_a {ad f t : Nat} (hf : f < 12) (ht : t < 12) : (ad * 256 + f * 16 + t) / 2 ^ 8 = ad := by omega
theorem adv_lo {kr : Nat → Nat} (hk : ∀ j, kr j < 1024) {j : Nat} (hj : j < 6) : pkn kr (min j 6) ||| (kr j * 2 ^ (10 * (j % 6))) = pkn kr (min (j + 1) 6) := by
  rw [Nat.mod_eq_of_lt hj, show min j 6 = j by omega, show min (j + 1) 6 = j + 1 by omega]
  exact pkn_or hk j
theorem adv_hi {kr : Nat → Nat} (hk : ∀ j, kr j < 1024) {j : Nat} (hj : 6 ≤ j) (hj2 : j < 12) : pkn (fun i => kr (6 + i)) (j - 6) ||| (kr j * 2 ^ (10 * (j % 6))) = pkn (fun i => kr (6 + i)) (j + 1 - 6) := by
  rw [show j % 6 = j - 6 by omega, show j + 1 - 6 = j - 6 + 1 by omega]
  have := pkn_or (f := fun i => kr (6 + i)) (fun i => hk _) (j - 6)
  rw [show 6 + (j - 6) = j by omega] at this
  exact this
theorem adv_lo0 {kr : Nat → Nat} {j : Nat} (h0 : kr j = 0 ∨ 6 ≤ j) : pkn kr (min (j + 1) 6) = pkn kr (min j 6) := by
  by_cases h : 6 ≤ j
  · rw [show min (j + 1) 6 = min j 6 by omega]
  · rw [show min (j + 1) 6 = j + 1 by omega, show min j 6 = j by omega]
    show pkn kr j + kr j * 1024 ^ j = _
    rw [show kr j = 0 by omega, Nat.zero_mul, Nat.add_zero]
theorem adv_hi0 {kr : Nat → Nat} {j : Nat} (h0 : kr j = 0 ∨ j < 6) : pkn (fun i => kr (6 + i)) (j + 1 - 6) = pkn (fun i => kr (6 + i)) (j - 6) := by
  by_cases h : j < 6
  · rw [show j + 1 - 6 = j - 6 by omega]
  · rw [show j + 1 - 6 = j - 6 + 1 by omega]
    show pkn _ (j - 6) + kr (6 + (j - 6)) * 1024 ^ (j - 6) = _
    rw [show 6 + (j - 6) = j by omega, show kr j = 0 by omega, Nat.zero_mul, Nat.add_zero]
set_option maxHeartbeats 800000 in
set_option maxRecDepth 100000 in
theorem k_Ref_numberOf (l : Launch) (D : va_G) (cI cZ cJ cG : ClassId) {h : Nat} {qs : Nat → Nat} {cd dv ex lb lm : Int32} {ma mn ca cn na nn pk : Nat} {T1 : bm_M Nat} {hd : Nat → Nat → Nat} {fN : Nat → Int32} (hAd : ∀ k, k + 1 < T1.2.1 → fN k = nI (T1.2.2 (k + 1) 1)) (h0 : T1.2.2 0 1 = 0) (hA9 : T1.2.1 ≤ 1600) (r o : Nat) (hr9 : r < 12) (ho9 : o < 12) (hh : hd r o < T1.2.1) : ct_I l D kls (ty4 cI cZ cJ cG) y_Ref_numberOf ws_Ref_numberOf (rm_ 0 0 0 0) [.ref h, .int (nI r), .int (nI o)] (List.flatten [[rf_o h qs cd ma mn ca cn na nn pk dv ex lb lm], [(qs 5, .inl (cI, 1600, .inl fN))], [(qs 9, .inl (cI, 144, .inl (fl (sI hd))))]]) (fun z u => z = nI (T1.2.2 (hd r o) 1) ∧ u = List.flatten [[rf_o h qs cd ma mn ca cn na nn pk dv ex lb lm], [(qs 5, .inl (cI, 1600, .inl fN))], [(qs 9, .inl (cI, 144, .inl (fl (sI hd))))]]) 0 0 := by
  refine ct_enterI (cc := b_Ref_numberOf) (maxL := 3) (ret := (some .int)) (by decide +kernel) (Nat.le_of_ble_eq_true rfl) ?_
  intro p e s m args below meth c hx hb hml hr ht hown hlk hnm A Q hA hK hP hD hQ ls hl
  have hown : s.vm.findClass R_Ref = some m.cls := hown
  have hS : va_S A s.heap s.heap [] := va_S.rf
  have hl : lv_has ls 3 [(0, .ref h), (1, .int (nI r)), (2, .int (nI o))] := hl
  refine lv_aload_n hx hb d_Ref_numberOf_0 rfl (lv_at hl 0 rfl) ?_
  refine va_get (D := D) (ci := 9) (v := .ref (qs 9)) (C := R_Ref) (T := T_Ref) (N := 32) hx hb ht in_Ref hown hK hP 0 rfl rfl 10 (by decide) (ht _ kl_Ref_39) (fun _ h9 => h9) rfl d_Ref_numberOf_1 ?_
  refine lv_bipush (v := nI 12) hx hb d_Ref_numberOf_4 (by decide) ?_
  refine lv_iload_n hx hb d_Ref_numberOf_6 rfl (lv_at hl 1 rfl) ?_
  refine ri_imul hx hb d_Ref_numberOf_7 ?_
  refine lv_iload_n hx hb d_Ref_numberOf_8 rfl (lv_at hl 2 rfl) ?_
  refine ri_iadd hx hb d_Ref_numberOf_9 ?_
  refine ri_iald hx hb hK hP 2 0 rfl rfl (j := (12 * r) + o) (by omega) (by omega) d_Ref_numberOf_10 ?_
  refine W.eq (g2 := F0 m 11 ls [.int (sI hd r o)]) (congrArg (fun z => F0 m 11 ls (.int z :: [])) (fl_at (a := r) (b := o) (by omega))) ?_
  refine lv_if_ge hx hb d_Ref_numberOf_11 (tgt := 18) (by decide) (fun h11 => ?_) (fun h11 => ?_)
  · refine lv_aload_n hx hb d_Ref_numberOf_18 rfl (lv_at hl 0 rfl) ?_
    refine va_get (D := D) (ci := 9) (v := .ref (qs 5)) (C := R_Ref) (T := T_Ref) (N := 32) hx hb ht in_Ref hown hK hP 0 rfl rfl 6 (by decide) (ht _ kl_Ref_26) (fun _ h9 => h9) rfl d_Ref_numberOf_19 ?_
    refine lv_aload_n hx hb d_Ref_numberOf_22 rfl (lv_at hl 0 rfl) ?_
    refine va_get (D := D) (ci := 9) (v := .ref (qs 9)) (C := R_Ref) (T := T_Ref) (N := 32) hx hb ht in_Ref hown hK hP 0 rfl rfl 10 (by decide) (ht _ kl_Ref_39) (fun _ h9 => h9) rfl d_Ref_numberOf_23 ?_
    refine lv_bipush (v := nI 12) hx hb d_Ref_numberOf_26 (by decide) ?_
    refine lv_iload_n hx hb d_Ref_numberOf_28 rfl (lv_at hl 1 rfl) ?_
    refine ri_imul hx hb d_Ref_numberOf_29 ?_
    refine lv_iload_n hx hb d_Ref_numberOf_30 rfl (lv_at hl 2 rfl) ?_
    refine ri_iadd hx hb d_Ref_numberOf_31 ?_
    refine ri_iald hx hb hK hP 2 0 rfl rfl (j := (12 * r) + o) (by omega) (by omega) d_Ref_numberOf_32 ?_
    refine W.eq (g2 := F0 m 33 ls [.int (sI hd r o), .ref (qs 5)]) (congrArg (fun z => F0 m 33 ls (.int z :: [.ref (qs 5)])) (fl_at (a := r) (b := o) (by omega))) ?_
    have hnz : hd r o ≠ 0 := fun z => absurd ((sI_lt (show hd r o < 2000 by omega)).mpr z) (Int32.not_lt.mpr h11)
    refine W.eq (g2 := F0 m 33 ls [.int (nI (hd r o - 1)), .ref (qs 5)]) (congrArg (fun z => F0 m 33 ls (.int z :: [.ref (qs 5)])) (sI_at hnz)) ?_
    refine ri_iald hx hb hK hP 1 0 rfl rfl (j := hd r o - 1) (by omega) (by omega) d_Ref_numberOf_33 ?_
    exact ct_iret hQ hx hb hr hlk hP hD hS hK (by omega) (by omega) d_Ref_numberOf_34 (⟨(hAd (hd r o - 1) (by omega)).trans (by rw [show hd r o - 1 + 1 = hd r o by omega]), rfl⟩)
  · refine lv_iconst (v := nI 0) hx hb d_Ref_numberOf_14 (by decide) ?_
    refine lv_goto hx hb d_Ref_numberOf_15 (tgt := 34) (by decide) ?_
    exact ct_iret hQ hx hb hr hlk hP hD hS hK (by omega) (by omega) d_Ref_numberOf_34 (⟨congrArg nI (by rw [(sI_lt (show hd r o < 2000 by omega)).mp (Int32.not_le.mp h11)]; exact h0.symm), rfl⟩)
set_option maxHeartbeats 800000 in
set_option maxRecDepth 100000 in
theorem k_Ref_tellAll (l : Launch) (D : va_G) (cI cZ cJ cG : ClassId) {h : Nat} {qs : Nat → Nat} {cd dv ex lb lm : Int32} {ma ca cn na nn pk : Nat} {M : bm_M Nat} {fM : Nat → Int32} {hd : Nat → Nat → Nat} (hM : mr_R fM ma M) (hn : M.2.1 + 12 ≤ 4000) (a b : Nat) (ha : a < 12) (hb9 : b < 12) (hh : ∀ x, x < 12 → hd a x ≤ 1600) : ct_V l D kls (ty4 cI cZ cJ cG) y_Ref_tellAll ws_Ref_tellAll (rm_ 1 23 0 0) [.ref h, .int (nI a), .int (nI b)] (List.flatten [[rf_o h qs cd ma M.2.1 ca cn na nn pk dv ex lb lm], [(qs 9, .inl (cI, 144, .inl (fl (sI hd))))], [(qs 10, .inl (cI, 4000, .inl fM))]]) (fun u => ∃ fM2, u = List.flatten [[rf_o h qs cd ma ((bm_ss hd a b M 12).2.1) ca cn na nn pk dv ex lb lm], [(qs 9, .inl (cI, 144, .inl (fl (sI hd))))], [(qs 10, .inl (cI, 4000, .inl fM2))]] ∧ mr_R fM2 ma (bm_ss hd a b M 12)) 0 0 := by
  refine ct_enterV (cc := b_Ref_tellAll) (maxL := 4) (ret := none) (by decide +kernel) (Nat.le_of_ble_eq_true rfl) ?_
  intro p e s m args below meth c hx hb hml hr ht hown hlk hnm A Q hA hK hP hD hQ ls hl
  have hown : s.vm.findClass R_Ref = some m.cls := hown
  have hS : va_S A s.heap s.heap [] := va_S.rf
  have hl : lv_has ls 4 [(0, .ref h), (1, .int (nI a)), (2, .int (nI b))] := hl
  have loop : ∀ (k j : Nat) (fJ : Nat → Int32) (H : Heap) (locs : List Loc) (ls : Array Slot), j + k = 12 → (mr_R fJ ma (bm_ss hd a b M j)) → va_P D kls (List.flatten [[rf_o h qs cd ma ((bm_ss hd a b M j).2.1) ca cn na nn pk dv ex lb lm], [(qs 9, .inl (cI, 144, .inl (fl (sI hd))))], [(qs 10, .inl (cI, 4000, .inl fJ))]]) H → va_D A (List.flatten [[rf_o h qs cd ma ((bm_ss hd a b M j).2.1) ca cn na nn pk dv ex lb lm], [(qs 9, .inl (cI, 144, .inl (fl (sI hd))))], [(qs 10, .inl (cI, 4000, .inl fJ))]]) → va_S A s.heap H locs → lv_has ls 4 [(3, .int (nI j)), (0, .ref h), (1, .int (nI a)), (2, .int (nI b))] → W p l e (rm_ 1 23 0 0) s m args below meth c H locs 0 0 Q (F0 m 2 ls []) := by
    intro k
    induction k with
    | zero =>
      intro j fJ H locs ls hk hJ hP hD hS hl
      refine lv_iload_n hx hb d_Ref_tellAll_2 rfl (lv_at hl 0 rfl) ?_
      refine lv_bipush (v := nI 12) hx hb d_Ref_tellAll_3 (by decide) ?_
      refine ri_icmp_ge hx hb (by omega) (by omega) d_Ref_tellAll_5 (tgt := 50) (by decide) (fun hc9 => ?_) (fun hc9 => ?_)
      · have hj : j = 12 := by omega
        subst hj
        exact ct_vret hQ hx hb hr hlk hP hD hS hK (by omega) (by omega) d_Ref_tellAll_50 (⟨fJ, rfl, hJ⟩)
      · exact absurd hc9 (by omega)
    | succ k ih =>
      intro j fJ H locs ls hk hJ hP hD hS hl
      refine lv_iload_n hx hb d_Ref_tellAll_2 rfl (lv_at hl 0 rfl) ?_
      refine lv_bipush (v := nI 12) hx hb d_Ref_tellAll_3 (by decide) ?_
      refine ri_icmp_ge hx hb (by omega) (by omega) d_Ref_tellAll_5 (tgt := 50) (by decide) (fun hc9 => ?_) (fun hc9 => ?_)
      · exact absurd hc9 (by omega)
      · have hhj := hh j (by omega)
        refine lv_iload_n hx hb d_Ref_tellAll_8 rfl (lv_at hl 0 rfl) ?_
        refine lv_iload_n hx hb d_Ref_tellAll_9 rfl (lv_at hl 2 rfl) ?_
        refine ri_icmp_eq hx hb (by omega) (by omega) d_Ref_tellAll_10 (tgt := 44) (by decide) (fun he => ?_) (fun he => ?_)
        · refine ri_iinc hx hb d_Ref_tellAll_44 hl (k := 0) rfl (by decide) rfl (fun ls hl => ?_)
          have hl : lv_has ls 4 [(3, .int (nI (j + 1))), (0, .ref h), (1, .int (nI a)), (2, .int (nI b))] := hl
          refine lv_goto hx hb d_Ref_tellAll_47 (tgt := 2) (by decide) ?_
          have hst : bm_ss hd a b M (j + 1) = bm_ss hd a b M j := if_neg (fun z => by first | exact z.1 he | exact z.2 ((sI_lt (show hd a j < 2000 by omega)).mp hk1))
          exact ih (j + 1) fJ H locs ls (by omega) (by rw [hst]; exact hJ) (by rw [hst]; exact hP) (by rw [hst]; exact hD) hS hl
        · refine lv_aload_n hx hb d_Ref_tellAll_13 rfl (lv_at hl 1 rfl) ?_
          refine va_get (D := D) (ci := 9) (v := .ref (qs 9)) (C := R_Ref) (T := T_Ref) (N := 32) hx hb ht in_Ref hown hK hP 0 rfl rfl 10 (by decide) (ht _ kl_Ref_39) (fun _ h9 => h9) rfl d_Ref_tellAll_14 ?_
          refine lv_bipush (v := nI 12) hx hb d_Ref_tellAll_17 (by decide) ?_
          refine lv_iload_n hx hb d_Ref_tellAll_19 rfl (lv_at hl 2 rfl) ?_
          refine ri_imul hx hb d_Ref_tellAll_20 ?_
          refine lv_iload_n hx hb d_Ref_tellAll_21 rfl (lv_at hl 0 rfl) ?_
          refine ri_iadd hx hb d_Ref_tellAll_22 ?_
          refine ri_iald hx hb hK hP 1 0 rfl rfl (j := (12 * a) + j) (by omega) (by omega) d_Ref_tellAll_23 ?_
          refine W.eq (g2 := F0 m 24 ls [.int (sI hd a j)]) (congrArg (fun z => F0 m 24 ls (.int z :: [])) (fl_at (a := a) (b := j) (by omega))) ?_
          refine lv_if_lt hx hb d_Ref_tellAll_24 (tgt := 44) (by decide) (fun hk1 => ?_) (fun hk1 => ?_)
          · refine ri_iinc hx hb d_Ref_tellAll_44 hl (k := 0) rfl (by decide) rfl (fun ls hl => ?_)
            have hl : lv_has ls 4 [(3, .int (nI (j + 1))), (0, .ref h), (1, .int (nI a)), (2, .int (nI b))] := hl
            refine lv_goto hx hb d_Ref_tellAll_47 (tgt := 2) (by decide) ?_
            have hst : bm_ss hd a b M (j + 1) = bm_ss hd a b M j := if_neg (fun z => by first | exact z.1 he | exact z.2 ((sI_lt (show hd a j < 2000 by omega)).mp hk1))
            exact ih (j + 1) fJ H locs ls (by omega) (by rw [hst]; exact hJ) (by rw [hst]; exact hP) (by rw [hst]; exact hD) hS hl
          · refine lv_aload_n hx hb d_Ref_tellAll_27 rfl (lv_at hl 1 rfl) ?_
            refine lv_aload_n hx hb d_Ref_tellAll_28 rfl (lv_at hl 1 rfl) ?_
            refine va_get (D := D) (ci := 9) (v := .ref (qs 9)) (C := R_Ref) (T := T_Ref) (N := 32) hx hb ht in_Ref hown hK hP 0 rfl rfl 10 (by decide) (ht _ kl_Ref_39) (fun _ h9 => h9) rfl d_Ref_tellAll_29 ?_
            refine lv_bipush (v := nI 12) hx hb d_Ref_tellAll_32 (by decide) ?_
            refine lv_iload_n hx hb d_Ref_tellAll_34 rfl (lv_at hl 2 rfl) ?_
            refine ri_imul hx hb d_Ref_tellAll_35 ?_
            refine lv_iload_n hx hb d_Ref_tellAll_36 rfl (lv_at hl 0 rfl) ?_
            refine ri_iadd hx hb d_Ref_tellAll_37 ?_
            refine ri_iald hx hb hK hP 1 0 rfl rfl (j := (12 * a) + j) (by omega) (by omega) d_Ref_tellAll_38 ?_
            refine W.eq (g2 := F0 m 39 ls [.int (sI hd a j), .ref h]) (congrArg (fun z => F0 m 39 ls (.int z :: [.ref h])) (fl_at (a := a) (b := j) (by omega))) ?_
            have hnz : hd a j ≠ 0 := fun z => hk1 ((sI_lt (show hd a j < 2000 by omega)).mpr z)
            refine W.eq (g2 := F0 m 39 ls [.int (nI (hd a j - 1)), .ref h]) (congrArg (fun z => F0 m 39 ls (.int z :: [.ref h])) (sI_at hnz)) ?_
            refine lv_iload_n hx hb d_Ref_tellAll_39 rfl (lv_at hl 2 rfl) ?_
            refine lv_iload_n hx hb d_Ref_tellAll_40 rfl (lv_at hl 3 rfl) ?_
            have hst : bm_ss hd a b M (j + 1) = bm_push (bm_ss hd a b M j) (bm_row3 a b (hd a j)) := if_pos ⟨he, hnz⟩
            have hsz := bm_ss_n hd a b M j
            refine ct_callVV (C := R_Ref) (ci := 9) (As := [.int (nI (hd a j - 1)), .int (nI a), .int (nI b)]) (rest := []) ⟨hx, hb, hml, hown, ht⟩ (k_Ref_post l D cI cZ cJ cG hJ (by omega) (hd a j - 1) (hd a j) a b (by omega) (by omega) ha hb9) (cb_V ht kc_Ref_post kl_Ref_101 kn_Ref ki_Ref_post ks_Ref_post hd_Ref_post ⟨Nat.le_of_ble_eq_true rfl, Nat.le_of_ble_eq_true rfl⟩) (List.mem_of_getElem? (i := 0) rfl) rfl rfl (wd_ct (Bs := [[rf_o h qs cd ma ((bm_ss hd a b M j).2.1) ca cn na nn pk dv ex lb lm], [(qs 9, .inl (cI, 144, .inl (fl (sI hd))))], [(qs 10, .inl (cI, 4000, .inl fJ))]]) 3 rfl [0, 2] [1] (by decide) rfl) hK hP hD hS hA rfl hl.1 rfl (Nat.le_of_ble_eq_true rfl) ⟨(show 0 + 0 ≤ 0 by omega), (show 0 + 0 ≤ 0 by omega)⟩ d_Ref_tellAll_41 (fun u105 H locs hu105 hP hD hS => ?_)
            obtain ⟨fM2, rfl, hJ2⟩ := hu105
            rw [← hst] at hJ2 hP hD
            refine W.widen (k := 0) (n := 0) (Nat.le_refl _) (Nat.le_refl _) ?_
            have hP := wd_nP (N := [[rf_o h qs cd ma ((bm_ss hd a b M (j + 1)).2.1) ca cn na nn pk dv ex lb lm], [(qs 10, .inl (cI, 4000, .inl fM2))]]) rfl 3 rfl [0, 2, 1] (by decide) hP
            have hD := wd_nD (N := [[rf_o h qs cd ma ((bm_ss hd a b M (j + 1)).2.1) ca cn na nn pk dv ex lb lm], [(qs 10, .inl (cI, 4000, .inl fM2))]]) rfl 3 rfl [0, 2, 1] (by decide) hD
            have hP : va_P D kls (List.flatten [[rf_o h qs cd ma ((bm_ss hd a b M (j + 1)).2.1) ca cn na nn pk dv ex lb lm], [(qs 9, .inl (cI, 144, .inl (fl (sI hd))))], [(qs 10, .inl (cI, 4000, .inl fM2))]]) H := hP
            have hD : va_D A (List.flatten [[rf_o h qs cd ma ((bm_ss hd a b M (j + 1)).2.1) ca cn na nn pk dv ex lb lm], [(qs 9, .inl (cI, 144, .inl (fl (sI hd))))], [(qs 10, .inl (cI, 4000, .inl fM2))]]) := hD
            refine W.eq (g2 := F0 m 44 ls []) rfl ?_
            refine ri_iinc hx hb d_Ref_tellAll_44 hl (k := 0) rfl (by decide) rfl (fun ls hl => ?_)
            have hl : lv_has ls 4 [(3, .int (nI (j + 1))), (0, .ref h), (1, .int (nI a)), (2, .int (nI b))] := hl
            refine lv_goto hx hb d_Ref_tellAll_47 (tgt := 2) (by decide) ?_
            exact ih (j + 1) fM2 H locs ls (by omega) hJ2 hP hD hS hl
  refine lv_iconst (v := nI 0) hx hb d_Ref_tellAll_0 (by decide) ?_
  refine lv_istore_n hx hb d_Ref_tellAll_1 rfl hl (by decide) rfl (fun ls hl => ?_)
  have hl : lv_has ls 4 [(3, .int (nI 0)), (0, .ref h), (1, .int (nI a)), (2, .int (nI b))] := hl
  exact loop 12 0 fM s.heap [] ls (by omega) hM hP hD hS hl
set_option maxHeartbeats 800000 in
set_option maxRecDepth 100000 in
theorem k_Ref_advertise (l : Launch) (D : va_G) (cI cZ cJ cG : ClassId) {h : Nat} {qs : Nat → Nat} {cd dv ex lb lm : Int32} {ma ca cn na nn pk : Nat} {M : bm_M Nat} {fM : Nat → Int32} {T1 : bm_M Nat} {hd : Nat → Nat → Nat} {fR fN : Nat → Int32} {fL fH : Nat → Int64} {uf : Nat → Bool} {wt kn : Nat → Nat → Nat} (hM : mr_R fM ma M) (hAd : ad_R T1 fR fN fL fH uf) (hwt : ∀ a b, kn a b ≠ 0 → wt a b = kn a b) (hkn : ∀ a b, kn a b ≤ 1000) (h0 : T1.2.2 0 1 = 0) (hA1 : 0 < T1.2.1) (hA9 : T1.2.1 ≤ 1600) (hn : M.2.1 + 12 ≤ 4000) (r : Nat) (hr9 : r < 12) (hh : hd r r < T1.2.1) : ct_V l D kls (ty4 cI cZ cJ cG) y_Ref_advertise ws_Ref_advertise (rm_ 2 47 0 0) [.ref h, .int (nI r)] (List.flatten [[rf_o h qs cd ma M.2.1 ca cn na nn pk dv ex lb lm], [(qs 2, .inl (cI, 144, .inl (fl (gN wt))))], [(qs 3, .inl (cZ, 144, .inl (fl (kB kn))))], [(qs 4, .inl (cI, 1600, .inl fR))], [(qs 5, .inl (cI, 1600, .inl fN))], [(qs 6, .inl (cJ, 1600, .inr (.inl fL)))], [(qs 7, .inl (cJ, 1600, .inr (.inl fH)))], [(qs 8, .inl (cZ, 1600, .inl (dB uf)))], [(qs 9, .inl (cI, 144, .inl (fl (sI hd))))], [(qs 10, .inl (cI, 4000, .inl fM))]]) (fun u => ∃ fR2 fN2 fL2 fH2 uf2 fM2, u = List.flatten [[rf_o h qs cd ma ((bm_sa kn none r T1.2.1 M 12).2.1) ca cn na nn pk dv ex lb lm], [(qs 2, .inl (cI, 144, .inl (fl (gN wt))))], [(qs 3, .inl (cZ, 144, .inl (fl (kB kn))))], [(qs 4, .inl (cI, 1600, .inl fR2))], [(qs 5, .inl (cI, 1600, .inl fN2))], [(qs 6, .inl (cJ, 1600, .inr (.inl fL2)))], [(qs 7, .inl (cJ, 1600, .inr (.inl fH2)))], [(qs 8, .inl (cZ, 1600, .inl (dB uf2)))], [(qs 9, .inl (cI, 144, .inl (fl (sI (bm_up2 hd r r T1.2.1)))))], [(qs 10, .inl (cI, 4000, .inl fM2))]] ∧ ad_R (bm_push T1 (bm_adrow r (T1.2.2 (hd r r) 1 + 1) (kn r))) fR2 fN2 fL2 fH2 uf2 ∧ mr_R fM2 ma (bm_sa kn none r T1.2.1 M 12)) 0 0 := by
  refine ct_enterV (cc := b_Ref_advertise) (maxL := 7) (ret := none) (by decide +kernel) (Nat.le_of_ble_eq_true rfl) ?_
  intro p e s m args below meth c hx hb hml hr ht hown hlk hnm A Q hA hK hP hD hQ ls hl
  have hown : s.vm.findClass R_Ref = some m.cls := hown
  have hS : va_S A s.heap s.heap [] := va_S.rf
  have hl : lv_has ls 7 [(0, .ref h), (1, .int (nI r))] := hl
  have loop : ∀ (k j : Nat)  (H : Heap) (locs : List Loc) (ls : Array Slot), j + k = 12 → va_P D kls (List.flatten [[rf_o h qs cd ma M.2.1 ca cn na nn pk dv ex lb lm], [(qs 2, .inl (cI, 144, .inl (fl (gN wt))))], [(qs 3, .inl (cZ, 144, .inl (fl (kB kn))))], [(qs 4, .inl (cI, 1600, .inl (upd fR (T1.2.1 - 1) (nI r))))], [(qs 5, .inl (cI, 1600, .inl (upd fN (T1.2.1 - 1) (nI (T1.2.2 (hd r r) 1 + 1)))))], [(qs 6, .inl (cJ, 1600, .inr (.inl (vp_updL fL (T1.2.1 - 1) (lN (pkn (kn r) (min j 6)))))))], [(qs 7, .inl (cJ, 1600, .inr (.inl (vp_updL fH (T1.2.1 - 1) (lN (pkn (fun i => kn r (6 + i)) (j - 6)))))))], [(qs 8, .inl (cZ, 1600, .inl (dB (bm_up1 uf (T1.2.1 - 1) true))))], [(qs 9, .inl (cI, 144, .inl (fl (sI hd))))], [(qs 10, .inl (cI, 4000, .inl fM))]]) H → va_D A (List.flatten [[rf_o h qs cd ma M.2.1 ca cn na nn pk dv ex lb lm], [(qs 2, .inl (cI, 144, .inl (fl (gN wt))))], [(qs 3, .inl (cZ, 144, .inl (fl (kB kn))))], [(qs 4, .inl (cI, 1600, .inl (upd fR (T1.2.1 - 1) (nI r))))], [(qs 5, .inl (cI, 1600, .inl (upd fN (T1.2.1 - 1) (nI (T1.2.2 (hd r r) 1 + 1)))))], [(qs 6, .inl (cJ, 1600, .inr (.inl (vp_updL fL (T1.2.1 - 1) (lN (pkn (kn r) (min j 6)))))))], [(qs 7, .inl (cJ, 1600, .inr (.inl (vp_updL fH (T1.2.1 - 1) (lN (pkn (fun i => kn r (6 + i)) (j - 6)))))))], [(qs 8, .inl (cZ, 1600, .inl (dB (bm_up1 uf (T1.2.1 - 1) true))))], [(qs 9, .inl (cI, 144, .inl (fl (sI hd))))], [(qs 10, .inl (cI, 4000, .inl fM))]]) → va_S A s.heap H locs → lv_has ls 7 [(4, .int (nI j)), (3, .int (nI (T1.2.1 - 1))), (2, .int (nI (T1.2.2 (hd r r) 1 + 1))), (0, .ref h), (1, .int (nI r))] → W p l e (rm_ 2 47 0 0) s m args below meth c H locs 0 0 Q (F0 m 45 ls []) := by
    intro k
    induction k with
    | zero =>
      intro j H locs ls hk hP hD hS hl
      refine lv_iload hx hb d_Ref_advertise_45 (lv_at hl 0 rfl) ?_
      refine lv_bipush (v := nI 12) hx hb d_Ref_advertise_47 (by decide) ?_
      refine ri_icmp_ge hx hb (by omega) (by omega) d_Ref_advertise_49 (tgt := 132) (by decide) (fun hc9 => ?_) (fun hc9 => ?_)
      · have hj : j = 12 := by omega
        subst hj
        have hP : va_P D kls (List.flatten [[rf_o h qs cd ma M.2.1 ca cn na nn pk dv ex lb lm], [(qs 2, .inl (cI, 144, .inl (fl (gN wt))))], [(qs 3, .inl (cZ, 144, .inl (fl (kB kn))))], [(qs 4, .inl (cI, 1600, .inl (upd fR (T1.2.1 - 1) (nI r))))], [(qs 5, .inl (cI, 1600, .inl (upd fN (T1.2.1 - 1) (nI (T1.2.2 (hd r r) 1 + 1)))))], [(qs 6, .inl (cJ, 1600, .inr (.inl (vp_updL fL (T1.2.1 - 1) (lN (pkn (kn r) 6))))))], [(qs 7, .inl (cJ, 1600, .inr (.inl (vp_updL fH (T1.2.1 - 1) (lN (pkn (fun i => kn r (6 + i)) 6))))))], [(qs 8, .inl (cZ, 1600, .inl (dB (bm_up1 uf (T1.2.1 - 1) true))))], [(qs 9, .inl (cI, 144, .inl (fl (sI hd))))], [(qs 10, .inl (cI, 4000, .inl fM))]]) H := hP
        have hD : va_D A (List.flatten [[rf_o h qs cd ma M.2.1 ca cn na nn pk dv ex lb lm], [(qs 2, .inl (cI, 144, .inl (fl (gN wt))))], [(qs 3, .inl (cZ, 144, .inl (fl (kB kn))))], [(qs 4, .inl (cI, 1600, .inl (upd fR (T1.2.1 - 1) (nI r))))], [(qs 5, .inl (cI, 1600, .inl (upd fN (T1.2.1 - 1) (nI (T1.2.2 (hd r r) 1 + 1)))))], [(qs 6, .inl (cJ, 1600, .inr (.inl (vp_updL fL (T1.2.1 - 1) (lN (pkn (kn r) 6))))))], [(qs 7, .inl (cJ, 1600, .inr (.inl (vp_updL fH (T1.2.1 - 1) (lN (pkn (fun i => kn r (6 + i)) 6))))))], [(qs 8, .inl (cZ, 1600, .inl (dB (bm_up1 uf (T1.2.1 - 1) true))))], [(qs 9, .inl (cI, 144, .inl (fl (sI hd))))], [(qs 10, .inl (cI, 4000, .inl fM))]]) := hD
        have hl : lv_has ls 7 [(4, .int (nI 12)), (3, .int (nI (T1.2.1 - 1))), (2, .int (nI (T1.2.2 (hd r r) 1 + 1))), (0, .ref h), (1, .int (nI r))] := hl
        refine lv_aload_n hx hb d_Ref_advertise_132 rfl (lv_at hl 3 rfl) ?_
        refine va_get (D := D) (ci := 9) (v := .ref (qs 9)) (C := R_Ref) (T := T_Ref) (N := 32) hx hb ht in_Ref hown hK hP 0 rfl rfl 10 (by decide) (ht _ kl_Ref_39) (fun _ h9 => h9) rfl d_Ref_advertise_133 ?_
        refine lv_bipush (v := nI 12) hx hb d_Ref_advertise_136 (by decide) ?_
        refine lv_iload_n hx hb d_Ref_advertise_138 rfl (lv_at hl 4 rfl) ?_
        refine ri_imul hx hb d_Ref_advertise_139 ?_
        refine lv_iload_n hx hb d_Ref_advertise_140 rfl (lv_at hl 4 rfl) ?_
        refine ri_iadd hx hb d_Ref_advertise_141 ?_
        refine lv_iload_n hx hb d_Ref_advertise_142 rfl (lv_at hl 1 rfl) ?_
        refine ri_iast hx hb hK hP hD hS 8 0 rfl rfl (j := (12 * r) + r) (by omega) (by omega) d_Ref_advertise_143 (fun H locs hP hD hS => ?_)
        rw [fl_up (a := r) (b := r) (show r < 12 by omega)] at hP hD
        rw [sI_up] at hP hD
        have hP : va_P D kls (List.flatten [[rf_o h qs cd ma M.2.1 ca cn na nn pk dv ex lb lm], [(qs 2, .inl (cI, 144, .inl (fl (gN wt))))], [(qs 3, .inl (cZ, 144, .inl (fl (kB kn))))], [(qs 4, .inl (cI, 1600, .inl (upd fR (T1.2.1 - 1) (nI r))))], [(qs 5, .inl (cI, 1600, .inl (upd fN (T1.2.1 - 1) (nI (T1.2.2 (hd r r) 1 + 1)))))], [(qs 6, .inl (cJ, 1600, .inr (.inl (vp_updL fL (T1.2.1 - 1) (lN (pkn (kn r) 6))))))], [(qs 7, .inl (cJ, 1600, .inr (.inl (vp_updL fH (T1.2.1 - 1) (lN (pkn (fun i => kn r (6 + i)) 6))))))], [(qs 8, .inl (cZ, 1600, .inl (dB (bm_up1 uf (T1.2.1 - 1) true))))], [(qs 9, .inl (cI, 144, .inl (fl (sI (bm_up2 hd r r (T1.2.1 - 1 + 1))))))], [(qs 10, .inl (cI, 4000, .inl fM))]]) H := hP
        have hD : va_D A (List.flatten [[rf_o h qs cd ma M.2.1 ca cn na nn pk dv ex lb lm], [(qs 2, .inl (cI, 144, .inl (fl (gN wt))))], [(qs 3, .inl (cZ, 144, .inl (fl (kB kn))))], [(qs 4, .inl (cI, 1600, .inl (upd fR (T1.2.1 - 1) (nI r))))], [(qs 5, .inl (cI, 1600, .inl (upd fN (T1.2.1 - 1) (nI (T1.2.2 (hd r r) 1 + 1)))))], [(qs 6, .inl (cJ, 1600, .inr (.inl (vp_updL fL (T1.2.1 - 1) (lN (pkn (kn r) 6))))))], [(qs 7, .inl (cJ, 1600, .inr (.inl (vp_updL fH (T1.2.1 - 1) (lN (pkn (fun i => kn r (6 + i)) 6))))))], [(qs 8, .inl (cZ, 1600, .inl (dB (bm_up1 uf (T1.2.1 - 1) true))))], [(qs 9, .inl (cI, 144, .inl (fl (sI (bm_up2 hd r r (T1.2.1 - 1 + 1))))))], [(qs 10, .inl (cI, 4000, .inl fM))]]) := hD
        rw [show T1.2.1 - 1 + 1 = T1.2.1 by omega] at hP hD
        have hP : va_P D kls (List.flatten [[rf_o h qs cd ma M.2.1 ca cn na nn pk dv ex lb lm], [(qs 2, .inl (cI, 144, .inl (fl (gN wt))))], [(qs 3, .inl (cZ, 144, .inl (fl (kB kn))))], [(qs 4, .inl (cI, 1600, .inl (upd fR (T1.2.1 - 1) (nI r))))], [(qs 5, .inl (cI, 1600, .inl (upd fN (T1.2.1 - 1) (nI (T1.2.2 (hd r r) 1 + 1)))))], [(qs 6, .inl (cJ, 1600, .inr (.inl (vp_updL fL (T1.2.1 - 1) (lN (pkn (kn r) 6))))))], [(qs 7, .inl (cJ, 1600, .inr (.inl (vp_updL fH (T1.2.1 - 1) (lN (pkn (fun i => kn r (6 + i)) 6))))))], [(qs 8, .inl (cZ, 1600, .inl (dB (bm_up1 uf (T1.2.1 - 1) true))))], [(qs 9, .inl (cI, 144, .inl (fl (sI (bm_up2 hd r r T1.2.1)))))], [(qs 10, .inl (cI, 4000, .inl fM))]]) H := hP
        have hD : va_D A (List.flatten [[rf_o h qs cd ma M.2.1 ca cn na nn pk dv ex lb lm], [(qs 2, .inl (cI, 144, .inl (fl (gN wt))))], [(qs 3, .inl (cZ, 144, .inl (fl (kB kn))))], [(qs 4, .inl (cI, 1600, .inl (upd fR (T1.2.1 - 1) (nI r))))], [(qs 5, .inl (cI, 1600, .inl (upd fN (T1.2.1 - 1) (nI (T1.2.2 (hd r r) 1 + 1)))))], [(qs 6, .inl (cJ, 1600, .inr (.inl (vp_updL fL (T1.2.1 - 1) (lN (pkn (kn r) 6))))))], [(qs 7, .inl (cJ, 1600, .inr (.inl (vp_updL fH (T1.2.1 - 1) (lN (pkn (fun i => kn r (6 + i)) 6))))))], [(qs 8, .inl (cZ, 1600, .inl (dB (bm_up1 uf (T1.2.1 - 1) true))))], [(qs 9, .inl (cI, 144, .inl (fl (sI (bm_up2 hd r r T1.2.1)))))], [(qs 10, .inl (cI, 4000, .inl fM))]]) := hD
        refine lv_aload_n hx hb d_Ref_advertise_144 rfl (lv_at hl 3 rfl) ?_
        refine lv_iload_n hx hb d_Ref_advertise_145 rfl (lv_at hl 1 rfl) ?_
        refine lv_iload_n hx hb d_Ref_advertise_146 rfl (lv_at hl 4 rfl) ?_
        refine lv_iconst (v := (-1)) hx hb d_Ref_advertise_147 (by decide) ?_
        refine W.eq (g2 := F0 m 148 ls [.int (bm_oI none), .int (nI r), .int (nI (T1.2.1 - 1)), .ref h]) (congrArg (fun z => F0 m 148 ls (.int z :: [.int (nI r), .int (nI (T1.2.1 - 1)), .ref h])) (rfl)) ?_
        refine ct_callVV (C := R_Ref) (ci := 9) (As := [.int (nI (T1.2.1 - 1)), .int (nI r), .int (bm_oI none)]) (rest := []) ⟨hx, hb, hml, hown, ht⟩ (k_Ref_sendOn l D cI cZ cJ cG hM hn (T1.2.1 - 1) T1.2.1 r none (by omega) (by omega) hr9 (fun e z => by cases z)) (cb_V ht kc_Ref_sendOn kl_Ref_113 kn_Ref ki_Ref_sendOn ks_Ref_sendOn hd_Ref_sendOn ⟨Nat.le_of_ble_eq_true rfl, Nat.le_of_ble_eq_true rfl⟩) (List.mem_of_getElem? (i := 0) rfl) rfl rfl (wd_ct (Bs := [[rf_o h qs cd ma M.2.1 ca cn na nn pk dv ex lb lm], [(qs 2, .inl (cI, 144, .inl (fl (gN wt))))], [(qs 3, .inl (cZ, 144, .inl (fl (kB kn))))], [(qs 4, .inl (cI, 1600, .inl (upd fR (T1.2.1 - 1) (nI r))))], [(qs 5, .inl (cI, 1600, .inl (upd fN (T1.2.1 - 1) (nI (T1.2.2 (hd r r) 1 + 1)))))], [(qs 6, .inl (cJ, 1600, .inr (.inl (vp_updL fL (T1.2.1 - 1) (lN (pkn (kn r) 6))))))], [(qs 7, .inl (cJ, 1600, .inr (.inl (vp_updL fH (T1.2.1 - 1) (lN (pkn (fun i => kn r (6 + i)) 6))))))], [(qs 8, .inl (cZ, 1600, .inl (dB (bm_up1 uf (T1.2.1 - 1) true))))], [(qs 9, .inl (cI, 144, .inl (fl (sI (bm_up2 hd r r T1.2.1)))))], [(qs 10, .inl (cI, 4000, .inl fM))]]) 10 rfl [0, 2, 9] [1, 3, 4, 5, 6, 7, 8] (by decide) rfl) hK hP hD hS hA rfl hl.1 rfl (Nat.le_of_ble_eq_true rfl) ⟨(show 0 + 0 ≤ 0 by omega), (show 0 + 0 ≤ 0 by omega)⟩ d_Ref_advertise_148 (fun u102 H locs hu102 hP hD hS => ?_)
        obtain ⟨fM2, rfl, hM2⟩ := hu102
        refine W.widen (k := 0) (n := 0) (Nat.le_refl _) (Nat.le_refl _) ?_
        have hP := wd_nP (N := [[rf_o h qs cd ma ((bm_sa kn none r T1.2.1 M 12).2.1) ca cn na nn pk dv ex lb lm], [(qs 3, .inl (cZ, 144, .inl (fl (kB kn))))], [(qs 10, .inl (cI, 4000, .inl fM2))]]) rfl 10 rfl [0, 3, 1, 4, 5, 6, 7, 8, 9, 2] (by decide) hP
        have hD := wd_nD (N := [[rf_o h qs cd ma ((bm_sa kn none r T1.2.1 M 12).2.1) ca cn na nn pk dv ex lb lm], [(qs 3, .inl (cZ, 144, .inl (fl (kB kn))))], [(qs 10, .inl (cI, 4000, .inl fM2))]]) rfl 10 rfl [0, 3, 1, 4, 5, 6, 7, 8, 9, 2] (by decide) hD
        have hP : va_P D kls (List.flatten [[rf_o h qs cd ma ((bm_sa kn none r T1.2.1 M 12).2.1) ca cn na nn pk dv ex lb lm], [(qs 2, .inl (cI, 144, .inl (fl (gN wt))))], [(qs 3, .inl (cZ, 144, .inl (fl (kB kn))))], [(qs 4, .inl (cI, 1600, .inl (upd fR (T1.2.1 - 1) (nI r))))], [(qs 5, .inl (cI, 1600, .inl (upd fN (T1.2.1 - 1) (nI (T1.2.2 (hd r r) 1 + 1)))))], [(qs 6, .inl (cJ, 1600, .inr (.inl (vp_updL fL (T1.2.1 - 1) (lN (pkn (kn r) 6))))))], [(qs 7, .inl (cJ, 1600, .inr (.inl (vp_updL fH (T1.2.1 - 1) (lN (pkn (fun i => kn r (6 + i)) 6))))))], [(qs 8, .inl (cZ, 1600, .inl (dB (bm_up1 uf (T1.2.1 - 1) true))))], [(qs 9, .inl (cI, 144, .inl (fl (sI (bm_up2 hd r r T1.2.1)))))], [(qs 10, .inl (cI, 4000, .inl fM2))]]) H := hP
        have hD : va_D A (List.flatten [[rf_o h qs cd ma ((bm_sa kn none r T1.2.1 M 12).2.1) ca cn na nn pk dv ex lb lm], [(qs 2, .inl (cI, 144, .inl (fl (gN wt))))], [(qs 3, .inl (cZ, 144, .inl (fl (kB kn))))], [(qs 4, .inl (cI, 1600, .inl (upd fR (T1.2.1 - 1) (nI r))))], [(qs 5, .inl (cI, 1600, .inl (upd fN (T1.2.1 - 1) (nI (T1.2.2 (hd r r) 1 + 1)))))], [(qs 6, .inl (cJ, 1600, .inr (.inl (vp_updL fL (T1.2.1 - 1) (lN (pkn (kn r) 6))))))], [(qs 7, .inl (cJ, 1600, .inr (.inl (vp_updL fH (T1.2.1 - 1) (lN (pkn (fun i => kn r (6 + i)) 6))))))], [(qs 8, .inl (cZ, 1600, .inl (dB (bm_up1 uf (T1.2.1 - 1) true))))], [(qs 9, .inl (cI, 144, .inl (fl (sI (bm_up2 hd r r T1.2.1)))))], [(qs 10, .inl (cI, 4000, .inl fM2))]]) := hD
        refine W.eq (g2 := F0 m 151 ls []) rfl ?_
        exact ct_vret hQ hx hb hr hlk hP hD hS hK (by omega) (by omega) d_Ref_advertise_151 (⟨_, _, _, _, _, fM2, rfl, ad_push hAd hA1 r (T1.2.2 (hd r r) 1 + 1) (kn r), hM2⟩)
      · exact absurd hc9 (by omega)
    | succ k ih =>
      intro j H locs ls hk hP hD hS hl
      refine lv_iload hx hb d_Ref_advertise_45 (lv_at hl 0 rfl) ?_
      refine lv_bipush (v := nI 12) hx hb d_Ref_advertise_47 (by decide) ?_
      refine ri_icmp_ge hx hb (by omega) (by omega) d_Ref_advertise_49 (tgt := 132) (by decide) (fun hc9 => ?_) (fun hc9 => ?_)
      · exact absurd hc9 (by omega)
      · refine lv_aload_n hx hb d_Ref_advertise_52 rfl (lv_at hl 3 rfl) ?_
        refine va_get (D := D) (ci := 9) (v := .ref (qs 3)) (C := R_Ref) (T := T_Ref) (N := 32) hx hb ht in_Ref hown hK hP 0 rfl rfl 4 (by decide) (ht _ kl_Ref_19) (fun _ h9 => h9) rfl d_Ref_advertise_53 ?_
        refine lv_bipush (v := nI 12) hx hb d_Ref_advertise_56 (by decide) ?_
        refine lv_iload_n hx hb d_Ref_advertise_58 rfl (lv_at hl 4 rfl) ?_
        refine ri_imul hx hb d_Ref_advertise_59 ?_
        refine lv_iload hx hb d_Ref_advertise_60 (lv_at hl 0 rfl) ?_
        refine ri_iadd hx hb d_Ref_advertise_62 ?_
        refine ri_zald hx hb hK hP 2 1 rfl rfl (j := (12 * r) + j) (by omega) (by omega) d_Ref_advertise_63 ?_
        refine W.eq (g2 := F0 m 64 ls [.int (bI (decide (kn r j ≠ 0)))]) (congrArg (fun z => F0 m 64 ls (.int z :: [])) (fl_at (a := r) (b := j) (by omega))) ?_
        refine ri_ifneB hx hb d_Ref_advertise_64 (tgt := 70) (by decide) (fun hk1 => ?_) (fun hk1 => ?_)
        · refine lv_aload_n hx hb d_Ref_advertise_70 rfl (lv_at hl 3 rfl) ?_
          refine va_get (D := D) (ci := 9) (v := .ref (qs 2)) (C := R_Ref) (T := T_Ref) (N := 32) hx hb ht in_Ref hown hK hP 0 rfl rfl 3 (by decide) (ht _ kl_Ref_16) (fun _ h9 => h9) rfl d_Ref_advertise_71 ?_
          refine lv_bipush (v := nI 12) hx hb d_Ref_advertise_74 (by decide) ?_
          refine lv_iload_n hx hb d_Ref_advertise_76 rfl (lv_at hl 4 rfl) ?_
          refine ri_imul hx hb d_Ref_advertise_77 ?_
          refine lv_iload hx hb d_Ref_advertise_78 (lv_at hl 0 rfl) ?_
          refine ri_iadd hx hb d_Ref_advertise_80 ?_
          refine ri_iald hx hb hK hP 1 0 rfl rfl (j := (12 * r) + j) (by omega) (by omega) d_Ref_advertise_81 ?_
          refine W.eq (g2 := F0 m 82 ls [.int (nI (wt r j))]) (congrArg (fun z => F0 m 82 ls (.int z :: [])) (fl_at (a := r) (b := j) (by omega))) ?_
          refine W.eq (g2 := F0 m 82 ls [.int (nI (kn r j))]) (congrArg (fun z => F0 m 82 ls (.int z :: [])) (congrArg nI (hwt r j (of_decide_eq_true hk1)))) ?_
          have hkrj := hkn r j
          refine lv_i2l (v := lN (kn r j)) hx hb d_Ref_advertise_82 (nI_l (by omega)) ?_
          refine lv_bipush (v := nI 10) hx hb d_Ref_advertise_83 (by decide) ?_
          refine lv_iload hx hb d_Ref_advertise_85 (lv_at hl 0 rfl) ?_
          refine lv_bipush (v := nI 6) hx hb d_Ref_advertise_87 (by decide) ?_
          refine ri_irem2 hx hb (by omega) (by omega) (by omega) d_Ref_advertise_89 ?_
          refine ri_imul hx hb d_Ref_advertise_90 ?_
          refine ri_lshl2 hx hb (by omega) d_Ref_advertise_91 ?_
          refine lv_lstore hx hb d_Ref_advertise_92 hl (by decide) rfl (fun ls hl => ?_)
          have hl : lv_has ls 7 [(5, .long (lN ((kn r j) * 2 ^ (10 * (j % 6))))), (4, .int (nI j)), (3, .int (nI (T1.2.1 - 1))), (2, .int (nI (T1.2.2 (hd r r) 1 + 1))), (0, .ref h), (1, .int (nI r))] := hl
          refine lv_iload hx hb d_Ref_advertise_94 (lv_at hl 1 rfl) ?_
          refine lv_bipush (v := nI 6) hx hb d_Ref_advertise_96 (by decide) ?_
          refine ri_icmp_ge hx hb (by omega) (by omega) d_Ref_advertise_98 (tgt := 115) (by decide) (fun h98 => ?_) (fun h98 => ?_)
          · refine lv_aload_n hx hb d_Ref_advertise_115 rfl (lv_at hl 4 rfl) ?_
            refine va_get (D := D) (ci := 9) (v := .ref (qs 7)) (C := R_Ref) (T := T_Ref) (N := 32) hx hb ht in_Ref hown hK hP 0 rfl rfl 8 (by decide) (ht _ kl_Ref_33) (fun _ h9 => h9) rfl d_Ref_advertise_116 ?_
            refine lv_iload_n hx hb d_Ref_advertise_119 rfl (lv_at hl 2 rfl) ?_
            refine lv_dup2_11 hx hb d_Ref_advertise_120 rfl rfl ?_
            refine ri_lald hx hb hK hP 6 2 rfl rfl (j := T1.2.1 - 1) (by omega) (by omega) d_Ref_advertise_121 ?_
            refine W.eq (g2 := F0 m 122 ls [.long (lN (pkn (fun i => kn r (6 + i)) (j - 6))), .int (nI (T1.2.1 - 1)), .ref (qs 7)]) (congrArg (fun z => F0 m 122 ls (.long z :: [.int (nI (T1.2.1 - 1)), .ref (qs 7)])) (updL_at)) ?_
            refine lv_lload hx hb d_Ref_advertise_122 (lv_at hl 0 rfl) ?_
            refine ri_lor2 hx hb d_Ref_advertise_124 ?_
            refine W.eq (g2 := F0 m 125 ls [.long (lN (pkn (fun i => kn r (6 + i)) (j + 1 - 6))), .int (nI (T1.2.1 - 1)), .ref (qs 7)]) (congrArg (fun z => F0 m 125 ls (.long z :: [.int (nI (T1.2.1 - 1)), .ref (qs 7)])) (congrArg lN (adv_hi (fun j => Nat.lt_of_le_of_lt (hkn r j) (by decide)) (by omega) (by omega)))) ?_
            refine ri_last hx hb hK hP hD hS 6 2 rfl rfl (j := T1.2.1 - 1) (by omega) (by omega) d_Ref_advertise_125 (fun H locs hP hD hS => ?_)
            have hP : va_P D kls (List.flatten [[rf_o h qs cd ma M.2.1 ca cn na nn pk dv ex lb lm], [(qs 2, .inl (cI, 144, .inl (fl (gN wt))))], [(qs 3, .inl (cZ, 144, .inl (fl (kB kn))))], [(qs 4, .inl (cI, 1600, .inl (upd fR (T1.2.1 - 1) (nI r))))], [(qs 5, .inl (cI, 1600, .inl (upd fN (T1.2.1 - 1) (nI (T1.2.2 (hd r r) 1 + 1)))))], [(qs 6, .inl (cJ, 1600, .inr (.inl (vp_updL fL (T1.2.1 - 1) (lN (pkn (kn r) (min j 6)))))))], [(qs 7, .inl (cJ, 1600, .inr (.inl (vp_updL (vp_updL fH (T1.2.1 - 1) (lN (pkn (fun i => kn r (6 + i)) (j - 6)))) (T1.2.1 - 1) (lN (pkn (fun i => kn r (6 + i)) (j + 1 - 6)))))))], [(qs 8, .inl (cZ, 1600, .inl (dB (bm_up1 uf (T1.2.1 - 1) true))))], [(qs 9, .inl (cI, 144, .inl (fl (sI hd))))], [(qs 10, .inl (cI, 4000, .inl fM))]]) H := hP
            have hD : va_D A (List.flatten [[rf_o h qs cd ma M.2.1 ca cn na nn pk dv ex lb lm], [(qs 2, .inl (cI, 144, .inl (fl (gN wt))))], [(qs 3, .inl (cZ, 144, .inl (fl (kB kn))))], [(qs 4, .inl (cI, 1600, .inl (upd fR (T1.2.1 - 1) (nI r))))], [(qs 5, .inl (cI, 1600, .inl (upd fN (T1.2.1 - 1) (nI (T1.2.2 (hd r r) 1 + 1)))))], [(qs 6, .inl (cJ, 1600, .inr (.inl (vp_updL fL (T1.2.1 - 1) (lN (pkn (kn r) (min j 6)))))))], [(qs 7, .inl (cJ, 1600, .inr (.inl (vp_updL (vp_updL fH (T1.2.1 - 1) (lN (pkn (fun i => kn r (6 + i)) (j - 6)))) (T1.2.1 - 1) (lN (pkn (fun i => kn r (6 + i)) (j + 1 - 6)))))))], [(qs 8, .inl (cZ, 1600, .inl (dB (bm_up1 uf (T1.2.1 - 1) true))))], [(qs 9, .inl (cI, 144, .inl (fl (sI hd))))], [(qs 10, .inl (cI, 4000, .inl fM))]]) := hD
            rw [updL2] at hP hD
            have hP : va_P D kls (List.flatten [[rf_o h qs cd ma M.2.1 ca cn na nn pk dv ex lb lm], [(qs 2, .inl (cI, 144, .inl (fl (gN wt))))], [(qs 3, .inl (cZ, 144, .inl (fl (kB kn))))], [(qs 4, .inl (cI, 1600, .inl (upd fR (T1.2.1 - 1) (nI r))))], [(qs 5, .inl (cI, 1600, .inl (upd fN (T1.2.1 - 1) (nI (T1.2.2 (hd r r) 1 + 1)))))], [(qs 6, .inl (cJ, 1600, .inr (.inl (vp_updL fL (T1.2.1 - 1) (lN (pkn (kn r) (min j 6)))))))], [(qs 7, .inl (cJ, 1600, .inr (.inl (vp_updL fH (T1.2.1 - 1) (lN (pkn (fun i => kn r (6 + i)) (j + 1 - 6)))))))], [(qs 8, .inl (cZ, 1600, .inl (dB (bm_up1 uf (T1.2.1 - 1) true))))], [(qs 9, .inl (cI, 144, .inl (fl (sI hd))))], [(qs 10, .inl (cI, 4000, .inl fM))]]) H := hP
            have hD : va_D A (List.flatten [[rf_o h qs cd ma M.2.1 ca cn na nn pk dv ex lb lm], [(qs 2, .inl (cI, 144, .inl (fl (gN wt))))], [(qs 3, .inl (cZ, 144, .inl (fl (kB kn))))], [(qs 4, .inl (cI, 1600, .inl (upd fR (T1.2.1 - 1) (nI r))))], [(qs 5, .inl (cI, 1600, .inl (upd fN (T1.2.1 - 1) (nI (T1.2.2 (hd r r) 1 + 1)))))], [(qs 6, .inl (cJ, 1600, .inr (.inl (vp_updL fL (T1.2.1 - 1) (lN (pkn (kn r) (min j 6)))))))], [(qs 7, .inl (cJ, 1600, .inr (.inl (vp_updL fH (T1.2.1 - 1) (lN (pkn (fun i => kn r (6 + i)) (j + 1 - 6)))))))], [(qs 8, .inl (cZ, 1600, .inl (dB (bm_up1 uf (T1.2.1 - 1) true))))], [(qs 9, .inl (cI, 144, .inl (fl (sI hd))))], [(qs 10, .inl (cI, 4000, .inl fM))]]) := hD
            refine ri_iinc hx hb d_Ref_advertise_126 hl (k := 1) rfl (by decide) rfl (fun ls hl => ?_)
            have hl : lv_has ls 7 [(4, .int (nI (j + 1))), (5, .long (lN ((kn r j) * 2 ^ (10 * (j % 6))))), (3, .int (nI (T1.2.1 - 1))), (2, .int (nI (T1.2.2 (hd r r) 1 + 1))), (0, .ref h), (1, .int (nI r))] := hl
            refine lv_goto hx hb d_Ref_advertise_129 (tgt := 45) (by decide) ?_
            have hz : kn r j = 0 ∨ j < 6 ∨ 6 ≤ j := by omega
            rw [← adv_lo0 (kr := kn r) (j := j) (by first | exact Or.inl (Classical.byContradiction (of_decide_eq_false hk1)) | exact Or.inr (by omega))] at hP hD
            exact ih (j + 1) H locs ls (by omega) hP hD hS (lv_sub hl [0, 2, 3, 4, 5] rfl)
          · refine lv_aload_n hx hb d_Ref_advertise_101 rfl (lv_at hl 4 rfl) ?_
            refine va_get (D := D) (ci := 9) (v := .ref (qs 6)) (C := R_Ref) (T := T_Ref) (N := 32) hx hb ht in_Ref hown hK hP 0 rfl rfl 7 (by decide) (ht _ kl_Ref_29) (fun _ h9 => h9) rfl d_Ref_advertise_102 ?_
            refine lv_iload_n hx hb d_Ref_advertise_105 rfl (lv_at hl 2 rfl) ?_
            refine lv_dup2_11 hx hb d_Ref_advertise_106 rfl rfl ?_
            refine ri_lald hx hb hK hP 5 2 rfl rfl (j := T1.2.1 - 1) (by omega) (by omega) d_Ref_advertise_107 ?_
            refine W.eq (g2 := F0 m 108 ls [.long (lN (pkn (kn r) (min j 6))), .int (nI (T1.2.1 - 1)), .ref (qs 6)]) (congrArg (fun z => F0 m 108 ls (.long z :: [.int (nI (T1.2.1 - 1)), .ref (qs 6)])) (updL_at)) ?_
            refine lv_lload hx hb d_Ref_advertise_108 (lv_at hl 0 rfl) ?_
            refine ri_lor2 hx hb d_Ref_advertise_110 ?_
            refine W.eq (g2 := F0 m 111 ls [.long (lN (pkn (kn r) (min (j + 1) 6))), .int (nI (T1.2.1 - 1)), .ref (qs 6)]) (congrArg (fun z => F0 m 111 ls (.long z :: [.int (nI (T1.2.1 - 1)), .ref (qs 6)])) (congrArg lN (adv_lo (fun j => Nat.lt_of_le_of_lt (hkn r j) (by decide)) (by omega)))) ?_
            refine ri_last hx hb hK hP hD hS 5 2 rfl rfl (j := T1.2.1 - 1) (by omega) (by omega) d_Ref_advertise_111 (fun H locs hP hD hS => ?_)
            have hP : va_P D kls (List.flatten [[rf_o h qs cd ma M.2.1 ca cn na nn pk dv ex lb lm], [(qs 2, .inl (cI, 144, .inl (fl (gN wt))))], [(qs 3, .inl (cZ, 144, .inl (fl (kB kn))))], [(qs 4, .inl (cI, 1600, .inl (upd fR (T1.2.1 - 1) (nI r))))], [(qs 5, .inl (cI, 1600, .inl (upd fN (T1.2.1 - 1) (nI (T1.2.2 (hd r r) 1 + 1)))))], [(qs 6, .inl (cJ, 1600, .inr (.inl (vp_updL (vp_updL fL (T1.2.1 - 1) (lN (pkn (kn r) (min j 6)))) (T1.2.1 - 1) (lN (pkn (kn r) (min (j + 1) 6)))))))], [(qs 7, .inl (cJ, 1600, .inr (.inl (vp_updL fH (T1.2.1 - 1) (lN (pkn (fun i => kn r (6 + i)) (j - 6)))))))], [(qs 8, .inl (cZ, 1600, .inl (dB (bm_up1 uf (T1.2.1 - 1) true))))], [(qs 9, .inl (cI, 144, .inl (fl (sI hd))))], [(qs 10, .inl (cI, 4000, .inl fM))]]) H := hP
            have hD : va_D A (List.flatten [[rf_o h qs cd ma M.2.1 ca cn na nn pk dv ex lb lm], [(qs 2, .inl (cI, 144, .inl (fl (gN wt))))], [(qs 3, .inl (cZ, 144, .inl (fl (kB kn))))], [(qs 4, .inl (cI, 1600, .inl (upd fR (T1.2.1 - 1) (nI r))))], [(qs 5, .inl (cI, 1600, .inl (upd fN (T1.2.1 - 1) (nI (T1.2.2 (hd r r) 1 + 1)))))], [(qs 6, .inl (cJ, 1600, .inr (.inl (vp_updL (vp_updL fL (T1.2.1 - 1) (lN (pkn (kn r) (min j 6)))) (T1.2.1 - 1) (lN (pkn (kn r) (min (j + 1) 6)))))))], [(qs 7, .inl (cJ, 1600, .inr (.inl (vp_updL fH (T1.2.1 - 1) (lN (pkn (fun i => kn r (6 + i)) (j - 6)))))))], [(qs 8, .inl (cZ, 1600, .inl (dB (bm_up1 uf (T1.2.1 - 1) true))))], [(qs 9, .inl (cI, 144, .inl (fl (sI hd))))], [(qs 10, .inl (cI, 4000, .inl fM))]]) := hD
            rw [updL2] at hP hD
            have hP : va_P D kls (List.flatten [[rf_o h qs cd ma M.2.1 ca cn na nn pk dv ex lb lm], [(qs 2, .inl (cI, 144, .inl (fl (gN wt))))], [(qs 3, .inl (cZ, 144, .inl (fl (kB kn))))], [(qs 4, .inl (cI, 1600, .inl (upd fR (T1.2.1 - 1) (nI r))))], [(qs 5, .inl (cI, 1600, .inl (upd fN (T1.2.1 - 1) (nI (T1.2.2 (hd r r) 1 + 1)))))], [(qs 6, .inl (cJ, 1600, .inr (.inl (vp_updL fL (T1.2.1 - 1) (lN (pkn (kn r) (min (j + 1) 6)))))))], [(qs 7, .inl (cJ, 1600, .inr (.inl (vp_updL fH (T1.2.1 - 1) (lN (pkn (fun i => kn r (6 + i)) (j - 6)))))))], [(qs 8, .inl (cZ, 1600, .inl (dB (bm_up1 uf (T1.2.1 - 1) true))))], [(qs 9, .inl (cI, 144, .inl (fl (sI hd))))], [(qs 10, .inl (cI, 4000, .inl fM))]]) H := hP
            have hD : va_D A (List.flatten [[rf_o h qs cd ma M.2.1 ca cn na nn pk dv ex lb lm], [(qs 2, .inl (cI, 144, .inl (fl (gN wt))))], [(qs 3, .inl (cZ, 144, .inl (fl (kB kn))))], [(qs 4, .inl (cI, 1600, .inl (upd fR (T1.2.1 - 1) (nI r))))], [(qs 5, .inl (cI, 1600, .inl (upd fN (T1.2.1 - 1) (nI (T1.2.2 (hd r r) 1 + 1)))))], [(qs 6, .inl (cJ, 1600, .inr (.inl (vp_updL fL (T1.2.1 - 1) (lN (pkn (kn r) (min (j + 1) 6)))))))], [(qs 7, .inl (cJ, 1600, .inr (.inl (vp_updL fH (T1.2.1 - 1) (lN (pkn (fun i => kn r (6 + i)) (j - 6)))))))], [(qs 8, .inl (cZ, 1600, .inl (dB (bm_up1 uf (T1.2.1 - 1) true))))], [(qs 9, .inl (cI, 144, .inl (fl (sI hd))))], [(qs 10, .inl (cI, 4000, .inl fM))]]) := hD
            refine lv_goto hx hb d_Ref_advertise_112 (tgt := 126) (by decide) ?_
            refine ri_iinc hx hb d_Ref_advertise_126 hl (k := 1) rfl (by decide) rfl (fun ls hl => ?_)
            have hl : lv_has ls 7 [(4, .int (nI (j + 1))), (5, .long (lN ((kn r j) * 2 ^ (10 * (j % 6))))), (3, .int (nI (T1.2.1 - 1))), (2, .int (nI (T1.2.2 (hd r r) 1 + 1))), (0, .ref h), (1, .int (nI r))] := hl
            refine lv_goto hx hb d_Ref_advertise_129 (tgt := 45) (by decide) ?_
            have hz : kn r j = 0 ∨ j < 6 ∨ 6 ≤ j := by omega
            rw [← adv_hi0 (kr := kn r) (j := j) (by first | exact Or.inl (Classical.byContradiction (of_decide_eq_false hk1)) | exact Or.inr (by omega))] at hP hD
            exact ih (j + 1) H locs ls (by omega) hP hD hS (lv_sub hl [0, 2, 3, 4, 5] rfl)
        · refine lv_goto hx hb d_Ref_advertise_67 (tgt := 126) (by decide) ?_
          refine ri_iinc hx hb d_Ref_advertise_126 hl (k := 0) rfl (by decide) rfl (fun ls hl => ?_)
          have hl : lv_has ls 7 [(4, .int (nI (j + 1))), (3, .int (nI (T1.2.1 - 1))), (2, .int (nI (T1.2.2 (hd r r) 1 + 1))), (0, .ref h), (1, .int (nI r))] := hl
          refine lv_goto hx hb d_Ref_advertise_129 (tgt := 45) (by decide) ?_
          have hz : kn r j = 0 ∨ j < 6 ∨ 6 ≤ j := by omega
          rw [← adv_lo0 (kr := kn r) (j := j) (by first | exact Or.inl (Classical.byContradiction (of_decide_eq_false hk1)) | exact Or.inr (by omega))] at hP hD
          rw [← adv_hi0 (kr := kn r) (j := j) (by first | exact Or.inl (Classical.byContradiction (of_decide_eq_false hk1)) | exact Or.inr (by omega))] at hP hD
          exact ih (j + 1) H locs ls (by omega) hP hD hS (lv_sub hl [0, 1, 2, 3, 4] rfl)
  refine lv_aload_n hx hb d_Ref_advertise_0 rfl (lv_at hl 0 rfl) ?_
  refine lv_iload_n hx hb d_Ref_advertise_1 rfl (lv_at hl 1 rfl) ?_
  refine lv_iload_n hx hb d_Ref_advertise_2 rfl (lv_at hl 1 rfl) ?_
  refine ct_rdV (C := R_Ref) (ci := 9) (As := [.int (nI r), .int (nI r)]) (rest := []) ⟨hx, hb, hml, hown, ht⟩ (k_Ref_numberOf l D cI cZ cJ cG (fun k hk => (hAd.1 k hk).2.1) h0 hA9 r r hr9 hr9 hh) (cb_V ht kc_Ref_numberOf kl_Ref_105 kn_Ref ki_Ref_numberOf ks_Ref_numberOf hd_Ref_numberOf ⟨Nat.le_of_ble_eq_true rfl, Nat.le_of_ble_eq_true rfl⟩) (List.mem_of_getElem? (i := 0) rfl) rfl rfl (wd_ct (Bs := [[rf_o h qs cd ma M.2.1 ca cn na nn pk dv ex lb lm], [(qs 2, .inl (cI, 144, .inl (fl (gN wt))))], [(qs 3, .inl (cZ, 144, .inl (fl (kB kn))))], [(qs 4, .inl (cI, 1600, .inl fR))], [(qs 5, .inl (cI, 1600, .inl fN))], [(qs 6, .inl (cJ, 1600, .inr (.inl fL)))], [(qs 7, .inl (cJ, 1600, .inr (.inl fH)))], [(qs 8, .inl (cZ, 1600, .inl (dB uf)))], [(qs 9, .inl (cI, 144, .inl (fl (sI hd))))], [(qs 10, .inl (cI, 4000, .inl fM))]]) 10 rfl [0, 4, 8] [1, 2, 3, 5, 6, 7, 9] (by decide) rfl) hK hP hD hS hA rfl hl.1 rfl (Nat.le_of_ble_eq_true rfl) ⟨(show 0 + 0 ≤ 0 by omega), (show 0 + 0 ≤ 0 by omega)⟩ d_Ref_advertise_3 (fun rhr106 H locs hr106 hP hD hS => ?_)
  subst hr106
  refine lv_iconst (v := nI 1) hx hb d_Ref_advertise_6 (by decide) ?_
  refine ri_iadd hx hb d_Ref_advertise_7 ?_
  refine lv_istore_n hx hb d_Ref_advertise_8 rfl hl (by decide) rfl (fun ls hl => ?_)
  have hl : lv_has ls 7 [(2, .int (nI ((T1.2.2 (hd r r) 1) + 1))), (0, .ref h), (1, .int (nI r))] := hl
  refine lv_aload_n hx hb d_Ref_advertise_9 rfl (lv_at hl 1 rfl) ?_
  refine ct_callVI (C := R_Ref) (ci := 9) (As := []) (rest := []) ⟨hx, hb, hml, hown, ht⟩ (k_Ref_newPlace l D cI cZ cJ cG (T1.2.1 - 1) (by omega) (fun k hk => (hAd.2 k hk).trans (decide_eq_decide.mpr (by omega)))) (cb_V ht kc_Ref_newPlace kl_Ref_109 kn_Ref ki_Ref_newPlace ks_Ref_newPlace hd_Ref_newPlace ⟨Nat.le_of_ble_eq_true rfl, Nat.le_of_ble_eq_true rfl⟩) (List.mem_of_getElem? (i := 0) rfl) rfl rfl (wd_ct (Bs := [[rf_o h qs cd ma M.2.1 ca cn na nn pk dv ex lb lm], [(qs 2, .inl (cI, 144, .inl (fl (gN wt))))], [(qs 3, .inl (cZ, 144, .inl (fl (kB kn))))], [(qs 4, .inl (cI, 1600, .inl fR))], [(qs 5, .inl (cI, 1600, .inl fN))], [(qs 6, .inl (cJ, 1600, .inr (.inl fL)))], [(qs 7, .inl (cJ, 1600, .inr (.inl fH)))], [(qs 8, .inl (cZ, 1600, .inl (dB uf)))], [(qs 9, .inl (cI, 144, .inl (fl (sI hd))))], [(qs 10, .inl (cI, 4000, .inl fM))]]) 10 rfl [0, 7] [1, 2, 3, 4, 5, 6, 8, 9] (by decide) rfl) hK hP hD hS hA rfl hl.1 rfl (Nat.le_of_ble_eq_true rfl) ⟨(show 0 + 0 ≤ 0 by omega), (show 0 + 0 ≤ 0 by omega)⟩ d_Ref_advertise_10 (fun ru107 u107 H locs hu107 hP hD hS => ?_)
  obtain ⟨rfl, rfl⟩ := hu107
  refine W.widen (k := 0) (n := 0) (Nat.le_refl _) (Nat.le_refl _) ?_
  have hP := wd_nP (N := [[rf_o h qs cd ma M.2.1 ca cn na nn pk dv ex lb lm], [(qs 8, .inl (cZ, 1600, .inl (dB (bm_up1 uf (T1.2.1 - 1) true))))]]) rfl 10 rfl [0, 2, 3, 4, 5, 6, 7, 1, 8, 9] (by decide) hP
  have hD := wd_nD (N := [[rf_o h qs cd ma M.2.1 ca cn na nn pk dv ex lb lm], [(qs 8, .inl (cZ, 1600, .inl (dB (bm_up1 uf (T1.2.1 - 1) true))))]]) rfl 10 rfl [0, 2, 3, 4, 5, 6, 7, 1, 8, 9] (by decide) hD
  have hP : va_P D kls (List.flatten [[rf_o h qs cd ma M.2.1 ca cn na nn pk dv ex lb lm], [(qs 2, .inl (cI, 144, .inl (fl (gN wt))))], [(qs 3, .inl (cZ, 144, .inl (fl (kB kn))))], [(qs 4, .inl (cI, 1600, .inl fR))], [(qs 5, .inl (cI, 1600, .inl fN))], [(qs 6, .inl (cJ, 1600, .inr (.inl fL)))], [(qs 7, .inl (cJ, 1600, .inr (.inl fH)))], [(qs 8, .inl (cZ, 1600, .inl (dB (bm_up1 uf (T1.2.1 - 1) true))))], [(qs 9, .inl (cI, 144, .inl (fl (sI hd))))], [(qs 10, .inl (cI, 4000, .inl fM))]]) H := hP
  have hD : va_D A (List.flatten [[rf_o h qs cd ma M.2.1 ca cn na nn pk dv ex lb lm], [(qs 2, .inl (cI, 144, .inl (fl (gN wt))))], [(qs 3, .inl (cZ, 144, .inl (fl (kB kn))))], [(qs 4, .inl (cI, 1600, .inl fR))], [(qs 5, .inl (cI, 1600, .inl fN))], [(qs 6, .inl (cJ, 1600, .inr (.inl fL)))], [(qs 7, .inl (cJ, 1600, .inr (.inl fH)))], [(qs 8, .inl (cZ, 1600, .inl (dB (bm_up1 uf (T1.2.1 - 1) true))))], [(qs 9, .inl (cI, 144, .inl (fl (sI hd))))], [(qs 10, .inl (cI, 4000, .inl fM))]]) := hD
  refine W.eq (g2 := F0 m 13 ls [.int (nI (T1.2.1 - 1))]) rfl ?_
  refine lv_istore_n hx hb d_Ref_advertise_13 rfl hl (by decide) rfl (fun ls hl => ?_)
  have hl : lv_has ls 7 [(3, .int (nI (T1.2.1 - 1))), (2, .int (nI ((T1.2.2 (hd r r) 1) + 1))), (0, .ref h), (1, .int (nI r))] := hl
  refine lv_aload_n hx hb d_Ref_advertise_14 rfl (lv_at hl 2 rfl) ?_
  refine va_get (D := D) (ci := 9) (v := .ref (qs 4)) (C := R_Ref) (T := T_Ref) (N := 32) hx hb ht in_Ref hown hK hP 0 rfl rfl 5 (by decide) (ht _ kl_Ref_23) (fun _ h9 => h9) rfl d_Ref_advertise_15 ?_
  refine lv_iload_n hx hb d_Ref_advertise_18 rfl (lv_at hl 0 rfl) ?_
  refine lv_iload_n hx hb d_Ref_advertise_19 rfl (lv_at hl 3 rfl) ?_
  refine ri_iast hx hb hK hP hD hS 3 0 rfl rfl (j := T1.2.1 - 1) (by omega) (by omega) d_Ref_advertise_20 (fun H locs hP hD hS => ?_)
  have hP : va_P D kls (List.flatten [[rf_o h qs cd ma M.2.1 ca cn na nn pk dv ex lb lm], [(qs 2, .inl (cI, 144, .inl (fl (gN wt))))], [(qs 3, .inl (cZ, 144, .inl (fl (kB kn))))], [(qs 4, .inl (cI, 1600, .inl (upd fR (T1.2.1 - 1) (nI r))))], [(qs 5, .inl (cI, 1600, .inl fN))], [(qs 6, .inl (cJ, 1600, .inr (.inl fL)))], [(qs 7, .inl (cJ, 1600, .inr (.inl fH)))], [(qs 8, .inl (cZ, 1600, .inl (dB (bm_up1 uf (T1.2.1 - 1) true))))], [(qs 9, .inl (cI, 144, .inl (fl (sI hd))))], [(qs 10, .inl (cI, 4000, .inl fM))]]) H := hP
  have hD : va_D A (List.flatten [[rf_o h qs cd ma M.2.1 ca cn na nn pk dv ex lb lm], [(qs 2, .inl (cI, 144, .inl (fl (gN wt))))], [(qs 3, .inl (cZ, 144, .inl (fl (kB kn))))], [(qs 4, .inl (cI, 1600, .inl (upd fR (T1.2.1 - 1) (nI r))))], [(qs 5, .inl (cI, 1600, .inl fN))], [(qs 6, .inl (cJ, 1600, .inr (.inl fL)))], [(qs 7, .inl (cJ, 1600, .inr (.inl fH)))], [(qs 8, .inl (cZ, 1600, .inl (dB (bm_up1 uf (T1.2.1 - 1) true))))], [(qs 9, .inl (cI, 144, .inl (fl (sI hd))))], [(qs 10, .inl (cI, 4000, .inl fM))]]) := hD
  refine lv_aload_n hx hb d_Ref_advertise_21 rfl (lv_at hl 2 rfl) ?_
  refine va_get (D := D) (ci := 9) (v := .ref (qs 5)) (C := R_Ref) (T := T_Ref) (N := 32) hx hb ht in_Ref hown hK hP 0 rfl rfl 6 (by decide) (ht _ kl_Ref_26) (fun _ h9 => h9) rfl d_Ref_advertise_22 ?_
  refine lv_iload_n hx hb d_Ref_advertise_25 rfl (lv_at hl 0 rfl) ?_
  refine lv_iload_n hx hb d_Ref_advertise_26 rfl (lv_at hl 1 rfl) ?_
  refine ri_iast hx hb hK hP hD hS 4 0 rfl rfl (j := T1.2.1 - 1) (by omega) (by omega) d_Ref_advertise_27 (fun H locs hP hD hS => ?_)
  have hP : va_P D kls (List.flatten [[rf_o h qs cd ma M.2.1 ca cn na nn pk dv ex lb lm], [(qs 2, .inl (cI, 144, .inl (fl (gN wt))))], [(qs 3, .inl (cZ, 144, .inl (fl (kB kn))))], [(qs 4, .inl (cI, 1600, .inl (upd fR (T1.2.1 - 1) (nI r))))], [(qs 5, .inl (cI, 1600, .inl (upd fN (T1.2.1 - 1) (nI ((T1.2.2 (hd r r) 1) + 1)))))], [(qs 6, .inl (cJ, 1600, .inr (.inl fL)))], [(qs 7, .inl (cJ, 1600, .inr (.inl fH)))], [(qs 8, .inl (cZ, 1600, .inl (dB (bm_up1 uf (T1.2.1 - 1) true))))], [(qs 9, .inl (cI, 144, .inl (fl (sI hd))))], [(qs 10, .inl (cI, 4000, .inl fM))]]) H := hP
  have hD : va_D A (List.flatten [[rf_o h qs cd ma M.2.1 ca cn na nn pk dv ex lb lm], [(qs 2, .inl (cI, 144, .inl (fl (gN wt))))], [(qs 3, .inl (cZ, 144, .inl (fl (kB kn))))], [(qs 4, .inl (cI, 1600, .inl (upd fR (T1.2.1 - 1) (nI r))))], [(qs 5, .inl (cI, 1600, .inl (upd fN (T1.2.1 - 1) (nI ((T1.2.2 (hd r r) 1) + 1)))))], [(qs 6, .inl (cJ, 1600, .inr (.inl fL)))], [(qs 7, .inl (cJ, 1600, .inr (.inl fH)))], [(qs 8, .inl (cZ, 1600, .inl (dB (bm_up1 uf (T1.2.1 - 1) true))))], [(qs 9, .inl (cI, 144, .inl (fl (sI hd))))], [(qs 10, .inl (cI, 4000, .inl fM))]]) := hD
  refine lv_aload_n hx hb d_Ref_advertise_28 rfl (lv_at hl 2 rfl) ?_
  refine va_get (D := D) (ci := 9) (v := .ref (qs 6)) (C := R_Ref) (T := T_Ref) (N := 32) hx hb ht in_Ref hown hK hP 0 rfl rfl 7 (by decide) (ht _ kl_Ref_29) (fun _ h9 => h9) rfl d_Ref_advertise_29 ?_
  refine lv_iload_n hx hb d_Ref_advertise_32 rfl (lv_at hl 0 rfl) ?_
  refine lv_lconst (v := lN 0) hx hb d_Ref_advertise_33 rfl ?_
  refine ri_last hx hb hK hP hD hS 5 2 rfl rfl (j := T1.2.1 - 1) (by omega) (by omega) d_Ref_advertise_34 (fun H locs hP hD hS => ?_)
  have hP : va_P D kls (List.flatten [[rf_o h qs cd ma M.2.1 ca cn na nn pk dv ex lb lm], [(qs 2, .inl (cI, 144, .inl (fl (gN wt))))], [(qs 3, .inl (cZ, 144, .inl (fl (kB kn))))], [(qs 4, .inl (cI, 1600, .inl (upd fR (T1.2.1 - 1) (nI r))))], [(qs 5, .inl (cI, 1600, .inl (upd fN (T1.2.1 - 1) (nI ((T1.2.2 (hd r r) 1) + 1)))))], [(qs 6, .inl (cJ, 1600, .inr (.inl (vp_updL fL (T1.2.1 - 1) (lN 0)))))], [(qs 7, .inl (cJ, 1600, .inr (.inl fH)))], [(qs 8, .inl (cZ, 1600, .inl (dB (bm_up1 uf (T1.2.1 - 1) true))))], [(qs 9, .inl (cI, 144, .inl (fl (sI hd))))], [(qs 10, .inl (cI, 4000, .inl fM))]]) H := hP
  have hD : va_D A (List.flatten [[rf_o h qs cd ma M.2.1 ca cn na nn pk dv ex lb lm], [(qs 2, .inl (cI, 144, .inl (fl (gN wt))))], [(qs 3, .inl (cZ, 144, .inl (fl (kB kn))))], [(qs 4, .inl (cI, 1600, .inl (upd fR (T1.2.1 - 1) (nI r))))], [(qs 5, .inl (cI, 1600, .inl (upd fN (T1.2.1 - 1) (nI ((T1.2.2 (hd r r) 1) + 1)))))], [(qs 6, .inl (cJ, 1600, .inr (.inl (vp_updL fL (T1.2.1 - 1) (lN 0)))))], [(qs 7, .inl (cJ, 1600, .inr (.inl fH)))], [(qs 8, .inl (cZ, 1600, .inl (dB (bm_up1 uf (T1.2.1 - 1) true))))], [(qs 9, .inl (cI, 144, .inl (fl (sI hd))))], [(qs 10, .inl (cI, 4000, .inl fM))]]) := hD
  refine lv_aload_n hx hb d_Ref_advertise_35 rfl (lv_at hl 2 rfl) ?_
  refine va_get (D := D) (ci := 9) (v := .ref (qs 7)) (C := R_Ref) (T := T_Ref) (N := 32) hx hb ht in_Ref hown hK hP 0 rfl rfl 8 (by decide) (ht _ kl_Ref_33) (fun _ h9 => h9) rfl d_Ref_advertise_36 ?_
  refine lv_iload_n hx hb d_Ref_advertise_39 rfl (lv_at hl 0 rfl) ?_
  refine lv_lconst (v := lN 0) hx hb d_Ref_advertise_40 rfl ?_
  refine ri_last hx hb hK hP hD hS 6 2 rfl rfl (j := T1.2.1 - 1) (by omega) (by omega) d_Ref_advertise_41 (fun H locs hP hD hS => ?_)
  have hP : va_P D kls (List.flatten [[rf_o h qs cd ma M.2.1 ca cn na nn pk dv ex lb lm], [(qs 2, .inl (cI, 144, .inl (fl (gN wt))))], [(qs 3, .inl (cZ, 144, .inl (fl (kB kn))))], [(qs 4, .inl (cI, 1600, .inl (upd fR (T1.2.1 - 1) (nI r))))], [(qs 5, .inl (cI, 1600, .inl (upd fN (T1.2.1 - 1) (nI ((T1.2.2 (hd r r) 1) + 1)))))], [(qs 6, .inl (cJ, 1600, .inr (.inl (vp_updL fL (T1.2.1 - 1) (lN 0)))))], [(qs 7, .inl (cJ, 1600, .inr (.inl (vp_updL fH (T1.2.1 - 1) (lN 0)))))], [(qs 8, .inl (cZ, 1600, .inl (dB (bm_up1 uf (T1.2.1 - 1) true))))], [(qs 9, .inl (cI, 144, .inl (fl (sI hd))))], [(qs 10, .inl (cI, 4000, .inl fM))]]) H := hP
  have hD : va_D A (List.flatten [[rf_o h qs cd ma M.2.1 ca cn na nn pk dv ex lb lm], [(qs 2, .inl (cI, 144, .inl (fl (gN wt))))], [(qs 3, .inl (cZ, 144, .inl (fl (kB kn))))], [(qs 4, .inl (cI, 1600, .inl (upd fR (T1.2.1 - 1) (nI r))))], [(qs 5, .inl (cI, 1600, .inl (upd fN (T1.2.1 - 1) (nI ((T1.2.2 (hd r r) 1) + 1)))))], [(qs 6, .inl (cJ, 1600, .inr (.inl (vp_updL fL (T1.2.1 - 1) (lN 0)))))], [(qs 7, .inl (cJ, 1600, .inr (.inl (vp_updL fH (T1.2.1 - 1) (lN 0)))))], [(qs 8, .inl (cZ, 1600, .inl (dB (bm_up1 uf (T1.2.1 - 1) true))))], [(qs 9, .inl (cI, 144, .inl (fl (sI hd))))], [(qs 10, .inl (cI, 4000, .inl fM))]]) := hD
  refine lv_iconst (v := nI 0) hx hb d_Ref_advertise_42 (by decide) ?_
  refine lv_istore hx hb d_Ref_advertise_43 hl (by decide) rfl (fun ls hl => ?_)
  have hl : lv_has ls 7 [(4, .int (nI 0)), (3, .int (nI (T1.2.1 - 1))), (2, .int (nI ((T1.2.2 (hd r r) 1) + 1))), (0, .ref h), (1, .int (nI r))] := hl
  exact loop 12 0 H locs ls (by omega) hP hD hS hl
set_option maxHeartbeats 800000 in
set_option maxRecDepth 100000 in
theorem k_Ref_oldestMessage (l : Launch) (D : va_G) (cI cZ cJ cG : ClassId) {h : Nat} {qs : Nat → Nat} {cd dv ex lb lm : Int32} {ma ca cn na nn pk : Nat} {T : bm_T} {fM fR fN : Nat → Int32} {lk kn : Nat → Nat → Nat} (hM : mr_R fM ma T.2.2.1) (hok : bm_ok T) (hAd : ∀ k, k + 1 < T.1.2.1 → fR k = nI (T.1.2.2 (k + 1) 0) ∧ fN k = nI (T.1.2.2 (k + 1) 1)) (h0 : T.1.2.2 0 1 = 0) (hA9 : T.1.2.1 ≤ 1600) (hlk9 : ∀ a b, lk a b ≤ 2) (hn1 : 0 < T.2.2.1.2.1) (hn : T.2.2.1.2.1 ≤ 3900) : ct_V l D kls (ty4 cI cZ cJ cG) y_Ref_oldestMessage ws_Ref_oldestMessage (rm_ 2 47 0 0) [.ref h] (List.flatten [[rf_o h qs cd ma T.2.2.1.2.1 ca cn na nn pk dv ex lb lm], [(qs 1, .inl (cI, 144, .inl (fl (gN lk))))], [(qs 3, .inl (cZ, 144, .inl (fl (kB kn))))], [(qs 4, .inl (cI, 1600, .inl fR))], [(qs 5, .inl (cI, 1600, .inl fN))], [(qs 9, .inl (cI, 144, .inl (fl (sI T.2.1))))], [(qs 10, .inl (cI, 4000, .inl fM))]]) (fun u => ∃ fM2 ma2, u = List.flatten [[rf_o h qs cd ma2 (((bm_del lk kn (T, lm)).1.2.2.1).2.1) ca cn na nn pk dv ex lb ((bm_del lk kn (T, lm)).2)], [(qs 1, .inl (cI, 144, .inl (fl (gN lk))))], [(qs 3, .inl (cZ, 144, .inl (fl (kB kn))))], [(qs 4, .inl (cI, 1600, .inl fR))], [(qs 5, .inl (cI, 1600, .inl fN))], [(qs 9, .inl (cI, 144, .inl (fl (sI ((bm_del lk kn (T, lm)).1.2.1)))))], [(qs 10, .inl (cI, 4000, .inl fM2))]] ∧ mr_R fM2 ma2 (bm_del lk kn (T, lm)).1.2.2.1) 0 0 := by
  refine ct_enterV (cc := b_Ref_oldestMessage) (maxL := 6) (ret := none) (by decide +kernel) (Nat.le_of_ble_eq_true rfl) ?_
  intro p e s m args below meth c hx hb hml hr ht hown hlk hnm A Q hA hK hP hD hQ ls hl
  have hown : s.vm.findClass R_Ref = some m.cls := hown
  have hS : va_S A s.heap s.heap [] := va_S.rf
  have hl : lv_has ls 6 [(0, .ref h)] := hl
  have hma := hM.1
  have hm0 := hM.2 0 hn1
  obtain ⟨hf9, ht9, hi9⟩ := hok.2.2.1 0 hn1
  have hid := hm0.2
  have hm1 := hm0.1
  rw [Nat.add_zero, Nat.mod_eq_of_lt hma] at hm1
  obtain ⟨hor, hnum, -⟩ := hok.2.1 (T.2.2.1.2.2 0 2) hi9
  have hfl : lk (T.2.2.1.2.2 0 0) (T.2.2.1.2.2 0 1) ≤ 2 := hlk9 _ _
  have hAr : fR ((T.2.2.1.2.2 0 2) - 1) = nI (T.1.2.2 (T.2.2.1.2.2 0 2) 0) := (hAd ((T.2.2.1.2.2 0 2) - 1) (by omega)).1.trans (by rw [show (T.2.2.1.2.2 0 2) - 1 + 1 = (T.2.2.1.2.2 0 2) by omega])
  have hAn : fN ((T.2.2.1.2.2 0 2) - 1) = nI (T.1.2.2 (T.2.2.1.2.2 0 2) 1) := (hAd ((T.2.2.1.2.2 0 2) - 1) (by omega)).2.trans (by rw [show (T.2.2.1.2.2 0 2) - 1 + 1 = (T.2.2.1.2.2 0 2) by omega])
  have hhd : T.2.1 (T.2.2.1.2.2 0 1) (T.1.2.2 (T.2.2.1.2.2 0 2) 0) < T.1.2.1 := hok.1 _ _ ht9 hor
  have hnh : (T.1.2.2 (T.2.1 (T.2.2.1.2.2 0 1) (T.1.2.2 (T.2.2.1.2.2 0 2) 0)) 1) ≤ T.2.1 (T.2.2.1.2.2 0 1) (T.1.2.2 (T.2.2.1.2.2 0 2) 0) := (hok.2.1 _ hhd).2.1
  refine lv_aload_n hx hb d_Ref_oldestMessage_0 rfl (lv_at hl 0 rfl) ?_
  refine va_get (D := D) (ci := 9) (v := .ref (qs 10)) (C := R_Ref) (T := T_Ref) (N := 32) hx hb ht in_Ref hown hK hP 0 rfl rfl 13 (by decide) (ht _ kl_Ref_42) (fun _ h9 => h9) rfl d_Ref_oldestMessage_1 ?_
  refine lv_aload_n hx hb d_Ref_oldestMessage_4 rfl (lv_at hl 0 rfl) ?_
  refine va_get (D := D) (ci := 9) (v := .int (nI ma)) (C := R_Ref) (T := T_Ref) (N := 32) hx hb ht in_Ref hown hK hP 0 rfl rfl 11 (by decide) (ht _ kl_Ref_95) (fun _ h9 => h9) rfl d_Ref_oldestMessage_5 ?_
  refine ri_iald hx hb hK hP 6 0 rfl rfl (j := ma) (by omega) (by omega) d_Ref_oldestMessage_8 ?_
  refine W.eq (g2 := F0 m 9 ls [.int (nI (((T.2.2.1.2.2 0 2) - 1) * 256 + (T.2.2.1.2.2 0 0) * 16 + (T.2.2.1.2.2 0 1)))]) (congrArg (fun z => F0 m 9 ls (.int z :: [])) (hm1)) ?_
  refine lv_istore_n hx hb d_Ref_oldestMessage_9 rfl hl (by decide) rfl (fun ls hl => ?_)
  have hl : lv_has ls 6 [(1, .int (nI (((T.2.2.1.2.2 0 2) - 1) * 256 + (T.2.2.1.2.2 0 0) * 16 + (T.2.2.1.2.2 0 1)))), (0, .ref h)] := hl
  refine lv_aload_n hx hb d_Ref_oldestMessage_10 rfl (lv_at hl 1 rfl) ?_
  refine lv_aload_n hx hb d_Ref_oldestMessage_11 rfl (lv_at hl 1 rfl) ?_
  refine va_get (D := D) (ci := 9) (v := .int (nI ma)) (C := R_Ref) (T := T_Ref) (N := 32) hx hb ht in_Ref hown hK hP 0 rfl rfl 11 (by decide) (ht _ kl_Ref_95) (fun _ h9 => h9) rfl d_Ref_oldestMessage_12 ?_
  refine lv_iconst (v := nI 1) hx hb d_Ref_oldestMessage_15 (by decide) ?_
  refine ri_iadd hx hb d_Ref_oldestMessage_16 ?_
  refine lv_sipush (v := nI 4000) hx hb d_Ref_oldestMessage_17 (by decide) ?_
  refine ri_irem2 hx hb (by omega) (by omega) (by omega) d_Ref_oldestMessage_20 ?_
  refine va_put (D := D) (ci := 9) (v := .int (nI ((ma + 1) % 4000))) (ty := .int) (C := R_Ref) (T := T_Ref) (N := 32) hx hb ht in_Ref t_Ref ok_Ref nm_Ref hown hK hP hD hS 0 rfl rfl 11 (by decide) (ht _ kl_Ref_95) (fun _ h9 => h9) rfl (by decide +kernel) rfl rfl (Nat.le_of_ble_eq_true rfl) d_Ref_oldestMessage_21 (fun H locs hP hD hS => ?_)
  have hP : va_P D kls (List.flatten [[rf_o h qs cd ((ma + 1) % 4000) T.2.2.1.2.1 ca cn na nn pk dv ex lb lm], [(qs 1, .inl (cI, 144, .inl (fl (gN lk))))], [(qs 3, .inl (cZ, 144, .inl (fl (kB kn))))], [(qs 4, .inl (cI, 1600, .inl fR))], [(qs 5, .inl (cI, 1600, .inl fN))], [(qs 9, .inl (cI, 144, .inl (fl (sI T.2.1))))], [(qs 10, .inl (cI, 4000, .inl fM))]]) H := hP
  have hD : va_D A (List.flatten [[rf_o h qs cd ((ma + 1) % 4000) T.2.2.1.2.1 ca cn na nn pk dv ex lb lm], [(qs 1, .inl (cI, 144, .inl (fl (gN lk))))], [(qs 3, .inl (cZ, 144, .inl (fl (kB kn))))], [(qs 4, .inl (cI, 1600, .inl fR))], [(qs 5, .inl (cI, 1600, .inl fN))], [(qs 9, .inl (cI, 144, .inl (fl (sI T.2.1))))], [(qs 10, .inl (cI, 4000, .inl fM))]]) := hD
  refine lv_aload_n hx hb d_Ref_oldestMessage_24 rfl (lv_at hl 1 rfl) ?_
  refine lv_dup hx hb d_Ref_oldestMessage_25 rfl ?_
  refine va_get (D := D) (ci := 9) (v := .int (nI T.2.2.1.2.1)) (C := R_Ref) (T := T_Ref) (N := 32) hx hb ht in_Ref hown hK hP 0 rfl rfl 12 (by decide) (ht _ kl_Ref_92) (fun _ h9 => h9) rfl d_Ref_oldestMessage_26 ?_
  refine lv_iconst (v := nI 1) hx hb d_Ref_oldestMessage_29 (by decide) ?_
  refine ri_isub hx hb (by omega) d_Ref_oldestMessage_30 ?_
  refine va_put (D := D) (ci := 9) (v := .int (nI (T.2.2.1.2.1 - 1))) (ty := .int) (C := R_Ref) (T := T_Ref) (N := 32) hx hb ht in_Ref t_Ref ok_Ref nm_Ref hown hK hP hD hS 0 rfl rfl 12 (by decide) (ht _ kl_Ref_92) (fun _ h9 => h9) rfl (by decide +kernel) rfl rfl (Nat.le_of_ble_eq_true rfl) d_Ref_oldestMessage_31 (fun H locs hP hD hS => ?_)
  have hP : va_P D kls (List.flatten [[rf_o h qs cd ((ma + 1) % 4000) (T.2.2.1.2.1 - 1) ca cn na nn pk dv ex lb lm], [(qs 1, .inl (cI, 144, .inl (fl (gN lk))))], [(qs 3, .inl (cZ, 144, .inl (fl (kB kn))))], [(qs 4, .inl (cI, 1600, .inl fR))], [(qs 5, .inl (cI, 1600, .inl fN))], [(qs 9, .inl (cI, 144, .inl (fl (sI T.2.1))))], [(qs 10, .inl (cI, 4000, .inl fM))]]) H := hP
  have hD : va_D A (List.flatten [[rf_o h qs cd ((ma + 1) % 4000) (T.2.2.1.2.1 - 1) ca cn na nn pk dv ex lb lm], [(qs 1, .inl (cI, 144, .inl (fl (gN lk))))], [(qs 3, .inl (cZ, 144, .inl (fl (kB kn))))], [(qs 4, .inl (cI, 1600, .inl fR))], [(qs 5, .inl (cI, 1600, .inl fN))], [(qs 9, .inl (cI, 144, .inl (fl (sI T.2.1))))], [(qs 10, .inl (cI, 4000, .inl fM))]]) := hD
  refine lv_iload_n hx hb d_Ref_oldestMessage_34 rfl (lv_at hl 0 rfl) ?_
  refine lv_iconst (v := nI 4) hx hb d_Ref_oldestMessage_35 (by decide) ?_
  refine ri_ishr2 hx hb (by omega) (by omega) d_Ref_oldestMessage_36 ?_
  refine lv_bipush (v := nI 15) hx hb d_Ref_oldestMessage_37 (by decide) ?_
  refine ri_iand2 hx hb d_Ref_oldestMessage_39 ?_
  refine W.eq (g2 := F0 m 40 ls [.int (nI (T.2.2.1.2.2 0 0))]) (congrArg (fun z => F0 m 40 ls (.int z :: [])) (congrArg nI (mg_f hf9 ht9))) ?_
  refine lv_istore_n hx hb d_Ref_oldestMessage_40 rfl hl (by decide) rfl (fun ls hl => ?_)
  have hl : lv_has ls 6 [(2, .int (nI (T.2.2.1.2.2 0 0))), (1, .int (nI (((T.2.2.1.2.2 0 2) - 1) * 256 + (T.2.2.1.2.2 0 0) * 16 + (T.2.2.1.2.2 0 1)))), (0, .ref h)] := hl
  refine lv_iload_n hx hb d_Ref_oldestMessage_41 rfl (lv_at hl 1 rfl) ?_
  refine lv_bipush (v := nI 15) hx hb d_Ref_oldestMessage_42 (by decide) ?_
  refine ri_iand2 hx hb d_Ref_oldestMessage_44 ?_
  refine W.eq (g2 := F0 m 45 ls [.int (nI (T.2.2.1.2.2 0 1))]) (congrArg (fun z => F0 m 45 ls (.int z :: [])) (congrArg nI (mg_t ht9))) ?_
  refine lv_istore_n hx hb d_Ref_oldestMessage_45 rfl hl (by decide) rfl (fun ls hl => ?_)
  have hl : lv_has ls 6 [(3, .int (nI (T.2.2.1.2.2 0 1))), (2, .int (nI (T.2.2.1.2.2 0 0))), (1, .int (nI (((T.2.2.1.2.2 0 2) - 1) * 256 + (T.2.2.1.2.2 0 0) * 16 + (T.2.2.1.2.2 0 1)))), (0, .ref h)] := hl
  refine lv_iload_n hx hb d_Ref_oldestMessage_46 rfl (lv_at hl 2 rfl) ?_
  refine lv_bipush (v := nI 8) hx hb d_Ref_oldestMessage_47 (by decide) ?_
  refine ri_ishr2 hx hb (by omega) (by omega) d_Ref_oldestMessage_49 ?_
  refine W.eq (g2 := F0 m 50 ls [.int (nI ((T.2.2.1.2.2 0 2) - 1))]) (congrArg (fun z => F0 m 50 ls (.int z :: [])) (congrArg nI (mg_a hf9 ht9))) ?_
  refine lv_istore hx hb d_Ref_oldestMessage_50 hl (by decide) rfl (fun ls hl => ?_)
  have hl : lv_has ls 6 [(4, .int (nI ((T.2.2.1.2.2 0 2) - 1))), (3, .int (nI (T.2.2.1.2.2 0 1))), (2, .int (nI (T.2.2.1.2.2 0 0))), (1, .int (nI (((T.2.2.1.2.2 0 2) - 1) * 256 + (T.2.2.1.2.2 0 0) * 16 + (T.2.2.1.2.2 0 1)))), (0, .ref h)] := hl
  refine lv_aload_n hx hb d_Ref_oldestMessage_52 rfl (lv_at hl 4 rfl) ?_
  refine va_get (D := D) (ci := 9) (v := .ref (qs 1)) (C := R_Ref) (T := T_Ref) (N := 32) hx hb ht in_Ref hown hK hP 0 rfl rfl 2 (by decide) (ht _ kl_Ref_13) (fun _ h9 => h9) rfl d_Ref_oldestMessage_53 ?_
  refine lv_bipush (v := nI 12) hx hb d_Ref_oldestMessage_56 (by decide) ?_
  refine lv_iload_n hx hb d_Ref_oldestMessage_58 rfl (lv_at hl 2 rfl) ?_
  refine ri_imul hx hb d_Ref_oldestMessage_59 ?_
  refine lv_iload_n hx hb d_Ref_oldestMessage_60 rfl (lv_at hl 1 rfl) ?_
  refine ri_iadd hx hb d_Ref_oldestMessage_61 ?_
  refine ri_iald hx hb hK hP 1 0 rfl rfl (j := (12 * (T.2.2.1.2.2 0 0)) + (T.2.2.1.2.2 0 1)) (by omega) (by omega) d_Ref_oldestMessage_62 ?_
  refine W.eq (g2 := F0 m 63 ls [.int (nI (lk (T.2.2.1.2.2 0 0) (T.2.2.1.2.2 0 1)))]) (congrArg (fun z => F0 m 63 ls (.int z :: [])) (fl_at (a := T.2.2.1.2.2 0 0) (b := T.2.2.1.2.2 0 1) (by omega))) ?_
  refine lv_iconst (v := nI 1) hx hb d_Ref_oldestMessage_63 (by decide) ?_
  refine ri_icmp_eq hx hb (by omega) (by omega) d_Ref_oldestMessage_64 (tgt := 78) (by decide) (fun h64 => ?_) (fun h64 => ?_)
  · refine lv_aload_n hx hb d_Ref_oldestMessage_78 rfl (lv_at hl 4 rfl) ?_
    refine lv_iload_n hx hb d_Ref_oldestMessage_79 rfl (lv_at hl 1 rfl) ?_
    refine lv_aload_n hx hb d_Ref_oldestMessage_80 rfl (lv_at hl 4 rfl) ?_
    refine va_get (D := D) (ci := 9) (v := .ref (qs 4)) (C := R_Ref) (T := T_Ref) (N := 32) hx hb ht in_Ref hown hK hP 0 rfl rfl 5 (by decide) (ht _ kl_Ref_23) (fun _ h9 => h9) rfl d_Ref_oldestMessage_81 ?_
    refine lv_iload hx hb d_Ref_oldestMessage_84 (lv_at hl 0 rfl) ?_
    refine ri_iald hx hb hK hP 3 0 rfl rfl (j := (T.2.2.1.2.2 0 2) - 1) (by omega) (by omega) d_Ref_oldestMessage_86 ?_
    refine W.eq (g2 := F0 m 87 ls [.int (nI (T.1.2.2 (T.2.2.1.2.2 0 2) 0)), .int (nI (T.2.2.1.2.2 0 1)), .ref h]) (congrArg (fun z => F0 m 87 ls (.int z :: [.int (nI (T.2.2.1.2.2 0 1)), .ref h])) (hAr)) ?_
    refine ct_rdV (C := R_Ref) (ci := 9) (As := [.int (nI (T.2.2.1.2.2 0 1)), .int (nI (T.1.2.2 (T.2.2.1.2.2 0 2) 0))]) (rest := []) ⟨hx, hb, hml, hown, ht⟩ (k_Ref_numberOf l D cI cZ cJ cG (fun k hk => (hAd k hk).2) h0 hA9 (T.2.2.1.2.2 0 1) (T.1.2.2 (T.2.2.1.2.2 0 2) 0) ht9 hor hhd) (cb_V ht kc_Ref_numberOf kl_Ref_105 kn_Ref ki_Ref_numberOf ks_Ref_numberOf hd_Ref_numberOf ⟨Nat.le_of_ble_eq_true rfl, Nat.le_of_ble_eq_true rfl⟩) (List.mem_of_getElem? (i := 0) rfl) rfl rfl (wd_ct (Bs := [[rf_o h qs cd ((ma + 1) % 4000) (T.2.2.1.2.1 - 1) ca cn na nn pk dv ex lb lm], [(qs 1, .inl (cI, 144, .inl (fl (gN lk))))], [(qs 3, .inl (cZ, 144, .inl (fl (kB kn))))], [(qs 4, .inl (cI, 1600, .inl fR))], [(qs 5, .inl (cI, 1600, .inl fN))], [(qs 9, .inl (cI, 144, .inl (fl (sI T.2.1))))], [(qs 10, .inl (cI, 4000, .inl fM))]]) 7 rfl [0, 4, 5] [1, 2, 3, 6] (by decide) rfl) hK hP hD hS hA rfl hl.1 rfl (Nat.le_of_ble_eq_true rfl) ⟨(show 0 + 0 ≤ 0 by omega), (show 0 + 0 ≤ 0 by omega)⟩ d_Ref_oldestMessage_87 (fun rhr102 H locs hr102 hP hD hS => ?_)
    subst hr102
    refine lv_istore hx hb d_Ref_oldestMessage_90 hl (by decide) rfl (fun ls hl => ?_)
    have hl : lv_has ls 6 [(5, .int (nI (T.1.2.2 (T.2.1 (T.2.2.1.2.2 0 1) (T.1.2.2 (T.2.2.1.2.2 0 2) 0)) 1))), (4, .int (nI ((T.2.2.1.2.2 0 2) - 1))), (3, .int (nI (T.2.2.1.2.2 0 1))), (2, .int (nI (T.2.2.1.2.2 0 0))), (1, .int (nI (((T.2.2.1.2.2 0 2) - 1) * 256 + (T.2.2.1.2.2 0 0) * 16 + (T.2.2.1.2.2 0 1)))), (0, .ref h)] := hl
    refine lv_aload_n hx hb d_Ref_oldestMessage_92 rfl (lv_at hl 5 rfl) ?_
    refine va_get (D := D) (ci := 9) (v := .ref (qs 5)) (C := R_Ref) (T := T_Ref) (N := 32) hx hb ht in_Ref hown hK hP 0 rfl rfl 6 (by decide) (ht _ kl_Ref_26) (fun _ h9 => h9) rfl d_Ref_oldestMessage_93 ?_
    refine lv_iload hx hb d_Ref_oldestMessage_96 (lv_at hl 1 rfl) ?_
    refine ri_iald hx hb hK hP 4 0 rfl rfl (j := (T.2.2.1.2.2 0 2) - 1) (by omega) (by omega) d_Ref_oldestMessage_98 ?_
    refine W.eq (g2 := F0 m 99 ls [.int (nI (T.1.2.2 (T.2.2.1.2.2 0 2) 1))]) (congrArg (fun z => F0 m 99 ls (.int z :: [])) (hAn)) ?_
    refine lv_iload hx hb d_Ref_oldestMessage_99 (lv_at hl 0 rfl) ?_
    refine ri_icmp_le hx hb (by omega) (by omega) d_Ref_oldestMessage_101 (tgt := 134) (by decide) (fun h101 => ?_) (fun h101 => ?_)
    · refine lv_aload_n hx hb d_Ref_oldestMessage_134 rfl (lv_at hl 5 rfl) ?_
      refine va_get (D := D) (ci := 9) (v := .ref (qs 5)) (C := R_Ref) (T := T_Ref) (N := 32) hx hb ht in_Ref hown hK hP 0 rfl rfl 6 (by decide) (ht _ kl_Ref_26) (fun _ h9 => h9) rfl d_Ref_oldestMessage_135 ?_
      refine lv_iload hx hb d_Ref_oldestMessage_138 (lv_at hl 1 rfl) ?_
      refine ri_iald hx hb hK hP 4 0 rfl rfl (j := (T.2.2.1.2.2 0 2) - 1) (by omega) (by omega) d_Ref_oldestMessage_140 ?_
      refine W.eq (g2 := F0 m 141 ls [.int (nI (T.1.2.2 (T.2.2.1.2.2 0 2) 1))]) (congrArg (fun z => F0 m 141 ls (.int z :: [])) (hAn)) ?_
      refine lv_iload hx hb d_Ref_oldestMessage_141 (lv_at hl 0 rfl) ?_
      refine ri_icmp_ge hx hb (by omega) (by omega) d_Ref_oldestMessage_143 (tgt := 169) (by decide) (fun h143 => ?_) (fun h143 => ?_)
      · have hd1 : bm_del lk kn (T, lm) = (bm_recv kn (T.2.2.1.2.2 0 1) (T.2.2.1.2.2 0 0) (T.2.2.1.2.2 0 2) (bm_dropT T), lm) := if_pos h64
        have hd2 : bm_recv kn (T.2.2.1.2.2 0 1) (T.2.2.1.2.2 0 0) (T.2.2.1.2.2 0 2) (bm_dropT T) = bm_dropT T := (if_neg (show ¬ (T.1.2.2 (T.2.1 (T.2.2.1.2.2 0 1) (T.1.2.2 (T.2.2.1.2.2 0 2) 0)) 1) < (T.1.2.2 (T.2.2.1.2.2 0 2) 1) by omega)).trans (if_neg (show ¬ (T.1.2.2 (T.2.2.1.2.2 0 2) 1) < (T.1.2.2 (T.2.1 (T.2.2.1.2.2 0 1) (T.1.2.2 (T.2.2.1.2.2 0 2) 0)) 1) by omega))
        have hdl := hd1
        rw [hd2] at hdl
        exact ct_vret hQ hx hb hr hlk hP hD hS hK (by omega) (by omega) d_Ref_oldestMessage_169 ⟨fM, (ma + 1) % 4000, by first | (rw [hdl]; done) | (rw [hdl]; rfl), by rw [hdl]; exact mr_drop hM⟩
      · refine lv_aload_n hx hb d_Ref_oldestMessage_146 rfl (lv_at hl 5 rfl) ?_
        refine lv_aload_n hx hb d_Ref_oldestMessage_147 rfl (lv_at hl 5 rfl) ?_
        refine va_get (D := D) (ci := 9) (v := .ref (qs 9)) (C := R_Ref) (T := T_Ref) (N := 32) hx hb ht in_Ref hown hK hP 0 rfl rfl 10 (by decide) (ht _ kl_Ref_39) (fun _ h9 => h9) rfl d_Ref_oldestMessage_148 ?_
        refine lv_bipush (v := nI 12) hx hb d_Ref_oldestMessage_151 (by decide) ?_
        refine lv_iload_n hx hb d_Ref_oldestMessage_153 rfl (lv_at hl 2 rfl) ?_
        refine ri_imul hx hb d_Ref_oldestMessage_154 ?_
        refine lv_aload_n hx hb d_Ref_oldestMessage_155 rfl (lv_at hl 5 rfl) ?_
        refine va_get (D := D) (ci := 9) (v := .ref (qs 4)) (C := R_Ref) (T := T_Ref) (N := 32) hx hb ht in_Ref hown hK hP 0 rfl rfl 5 (by decide) (ht _ kl_Ref_23) (fun _ h9 => h9) rfl d_Ref_oldestMessage_156 ?_
        refine lv_iload hx hb d_Ref_oldestMessage_159 (lv_at hl 1 rfl) ?_
        refine ri_iald hx hb hK hP 3 0 rfl rfl (j := (T.2.2.1.2.2 0 2) - 1) (by omega) (by omega) d_Ref_oldestMessage_161 ?_
        refine W.eq (g2 := F0 m 162 ls [.int (nI (T.1.2.2 (T.2.2.1.2.2 0 2) 0)), .int (nI (12 * (T.2.2.1.2.2 0 1))), .ref (qs 9), .ref h]) (congrArg (fun z => F0 m 162 ls (.int z :: [.int (nI (12 * (T.2.2.1.2.2 0 1))), .ref (qs 9), .ref h])) (hAr)) ?_
        refine ri_iadd hx hb d_Ref_oldestMessage_162 ?_
        refine ri_iald hx hb hK hP 5 0 rfl rfl (j := (12 * (T.2.2.1.2.2 0 1)) + (T.1.2.2 (T.2.2.1.2.2 0 2) 0)) (by omega) (by omega) d_Ref_oldestMessage_163 ?_
        refine W.eq (g2 := F0 m 164 ls [.int (sI T.2.1 (T.2.2.1.2.2 0 1) (T.1.2.2 (T.2.2.1.2.2 0 2) 0)), .ref h]) (congrArg (fun z => F0 m 164 ls (.int z :: [.ref h])) (fl_at (a := T.2.2.1.2.2 0 1) (b := T.1.2.2 (T.2.2.1.2.2 0 2) 0) (by omega))) ?_
        have hnz : T.2.1 (T.2.2.1.2.2 0 1) (T.1.2.2 (T.2.2.1.2.2 0 2) 0) ≠ 0 := fun z => by rw [z, h0] at h143; omega
        refine W.eq (g2 := F0 m 164 ls [.int (nI (T.2.1 (T.2.2.1.2.2 0 1) (T.1.2.2 (T.2.2.1.2.2 0 2) 0) - 1)), .ref h]) (congrArg (fun z => F0 m 164 ls (.int z :: [.ref h])) (sI_at hnz)) ?_
        refine lv_iload_n hx hb d_Ref_oldestMessage_164 rfl (lv_at hl 2 rfl) ?_
        refine lv_iload_n hx hb d_Ref_oldestMessage_165 rfl (lv_at hl 3 rfl) ?_
        refine ct_callVV (C := R_Ref) (ci := 9) (As := [.int (nI (T.2.1 (T.2.2.1.2.2 0 1) (T.1.2.2 (T.2.2.1.2.2 0 2) 0) - 1)), .int (nI (T.2.2.1.2.2 0 1)), .int (nI (T.2.2.1.2.2 0 0))]) (rest := []) ⟨hx, hb, hml, hown, ht⟩ (k_Ref_post l D cI cZ cJ cG (mr_drop hM) (show T.2.2.1.2.1 - 1 < 4000 by omega) (T.2.1 (T.2.2.1.2.2 0 1) (T.1.2.2 (T.2.2.1.2.2 0 2) 0) - 1) (T.2.1 (T.2.2.1.2.2 0 1) (T.1.2.2 (T.2.2.1.2.2 0 2) 0)) (T.2.2.1.2.2 0 1) (T.2.2.1.2.2 0 0) (by omega) (by omega) ht9 hf9) (cb_V ht kc_Ref_post kl_Ref_101 kn_Ref ki_Ref_post ks_Ref_post hd_Ref_post ⟨Nat.le_of_ble_eq_true rfl, Nat.le_of_ble_eq_true rfl⟩) (List.mem_of_getElem? (i := 0) rfl) rfl rfl (wd_ct (Bs := [[rf_o h qs cd ((ma + 1) % 4000) (T.2.2.1.2.1 - 1) ca cn na nn pk dv ex lb lm], [(qs 1, .inl (cI, 144, .inl (fl (gN lk))))], [(qs 3, .inl (cZ, 144, .inl (fl (kB kn))))], [(qs 4, .inl (cI, 1600, .inl fR))], [(qs 5, .inl (cI, 1600, .inl fN))], [(qs 9, .inl (cI, 144, .inl (fl (sI T.2.1))))], [(qs 10, .inl (cI, 4000, .inl fM))]]) 7 rfl [0, 6] [1, 2, 3, 4, 5] (by decide) rfl) hK hP hD hS hA rfl hl.1 rfl (Nat.le_of_ble_eq_true rfl) ⟨(show 0 + 0 ≤ 0 by omega), (show 0 + 0 ≤ 0 by omega)⟩ d_Ref_oldestMessage_166 (fun u105 H locs hu105 hP hD hS => ?_)
        obtain ⟨fM2, rfl, hM2⟩ := hu105
        refine W.widen (k := 0) (n := 0) (Nat.le_refl _) (Nat.le_refl _) ?_
        have hP := wd_nP (N := [[rf_o h qs cd ((ma + 1) % 4000) ((bm_push (bm_drop T.2.2.1) (bm_row3 (T.2.2.1.2.2 0 1) (T.2.2.1.2.2 0 0) (T.2.1 (T.2.2.1.2.2 0 1) (T.1.2.2 (T.2.2.1.2.2 0 2) 0)))).2.1) ca cn na nn pk dv ex lb lm], [(qs 10, .inl (cI, 4000, .inl fM2))]]) rfl 7 rfl [0, 2, 3, 4, 5, 6, 1] (by decide) hP
        have hD := wd_nD (N := [[rf_o h qs cd ((ma + 1) % 4000) ((bm_push (bm_drop T.2.2.1) (bm_row3 (T.2.2.1.2.2 0 1) (T.2.2.1.2.2 0 0) (T.2.1 (T.2.2.1.2.2 0 1) (T.1.2.2 (T.2.2.1.2.2 0 2) 0)))).2.1) ca cn na nn pk dv ex lb lm], [(qs 10, .inl (cI, 4000, .inl fM2))]]) rfl 7 rfl [0, 2, 3, 4, 5, 6, 1] (by decide) hD
        have hP : va_P D kls (List.flatten [[rf_o h qs cd ((ma + 1) % 4000) ((bm_push (bm_drop T.2.2.1) (bm_row3 (T.2.2.1.2.2 0 1) (T.2.2.1.2.2 0 0) (T.2.1 (T.2.2.1.2.2 0 1) (T.1.2.2 (T.2.2.1.2.2 0 2) 0)))).2.1) ca cn na nn pk dv ex lb lm], [(qs 1, .inl (cI, 144, .inl (fl (gN lk))))], [(qs 3, .inl (cZ, 144, .inl (fl (kB kn))))], [(qs 4, .inl (cI, 1600, .inl fR))], [(qs 5, .inl (cI, 1600, .inl fN))], [(qs 9, .inl (cI, 144, .inl (fl (sI T.2.1))))], [(qs 10, .inl (cI, 4000, .inl fM2))]]) H := hP
        have hD : va_D A (List.flatten [[rf_o h qs cd ((ma + 1) % 4000) ((bm_push (bm_drop T.2.2.1) (bm_row3 (T.2.2.1.2.2 0 1) (T.2.2.1.2.2 0 0) (T.2.1 (T.2.2.1.2.2 0 1) (T.1.2.2 (T.2.2.1.2.2 0 2) 0)))).2.1) ca cn na nn pk dv ex lb lm], [(qs 1, .inl (cI, 144, .inl (fl (gN lk))))], [(qs 3, .inl (cZ, 144, .inl (fl (kB kn))))], [(qs 4, .inl (cI, 1600, .inl fR))], [(qs 5, .inl (cI, 1600, .inl fN))], [(qs 9, .inl (cI, 144, .inl (fl (sI T.2.1))))], [(qs 10, .inl (cI, 4000, .inl fM2))]]) := hD
        refine W.eq (g2 := F0 m 169 ls []) rfl ?_
        have hd1 : bm_del lk kn (T, lm) = (bm_recv kn (T.2.2.1.2.2 0 1) (T.2.2.1.2.2 0 0) (T.2.2.1.2.2 0 2) (bm_dropT T), lm) := if_pos h64
        have hd2 : bm_recv kn (T.2.2.1.2.2 0 1) (T.2.2.1.2.2 0 0) (T.2.2.1.2.2 0 2) (bm_dropT T) = (T.1, T.2.1, bm_push (bm_drop T.2.2.1) (bm_row3 (T.2.2.1.2.2 0 1) (T.2.2.1.2.2 0 0) (T.2.1 (T.2.2.1.2.2 0 1) (T.1.2.2 (T.2.2.1.2.2 0 2) 0))), T.2.2.2) := (if_neg (show ¬ (T.1.2.2 (T.2.1 (T.2.2.1.2.2 0 1) (T.1.2.2 (T.2.2.1.2.2 0 2) 0)) 1) < (T.1.2.2 (T.2.2.1.2.2 0 2) 1) by omega)).trans (if_pos (show (T.1.2.2 (T.2.2.1.2.2 0 2) 1) < (T.1.2.2 (T.2.1 (T.2.2.1.2.2 0 1) (T.1.2.2 (T.2.2.1.2.2 0 2) 0)) 1) by omega))
        have hdl := hd1
        rw [hd2] at hdl
        exact ct_vret hQ hx hb hr hlk hP hD hS hK (by omega) (by omega) d_Ref_oldestMessage_169 ⟨fM2, (ma + 1) % 4000, by first | (rw [hdl]; done) | (rw [hdl]; rfl), by rw [hdl]; exact hM2⟩
    · refine lv_aload_n hx hb d_Ref_oldestMessage_104 rfl (lv_at hl 5 rfl) ?_
      refine va_get (D := D) (ci := 9) (v := .ref (qs 9)) (C := R_Ref) (T := T_Ref) (N := 32) hx hb ht in_Ref hown hK hP 0 rfl rfl 10 (by decide) (ht _ kl_Ref_39) (fun _ h9 => h9) rfl d_Ref_oldestMessage_105 ?_
      refine lv_bipush (v := nI 12) hx hb d_Ref_oldestMessage_108 (by decide) ?_
      refine lv_iload_n hx hb d_Ref_oldestMessage_110 rfl (lv_at hl 2 rfl) ?_
      refine ri_imul hx hb d_Ref_oldestMessage_111 ?_
      refine lv_aload_n hx hb d_Ref_oldestMessage_112 rfl (lv_at hl 5 rfl) ?_
      refine va_get (D := D) (ci := 9) (v := .ref (qs 4)) (C := R_Ref) (T := T_Ref) (N := 32) hx hb ht in_Ref hown hK hP 0 rfl rfl 5 (by decide) (ht _ kl_Ref_23) (fun _ h9 => h9) rfl d_Ref_oldestMessage_113 ?_
      refine lv_iload hx hb d_Ref_oldestMessage_116 (lv_at hl 1 rfl) ?_
      refine ri_iald hx hb hK hP 3 0 rfl rfl (j := (T.2.2.1.2.2 0 2) - 1) (by omega) (by omega) d_Ref_oldestMessage_118 ?_
      refine W.eq (g2 := F0 m 119 ls [.int (nI (T.1.2.2 (T.2.2.1.2.2 0 2) 0)), .int (nI (12 * (T.2.2.1.2.2 0 1))), .ref (qs 9)]) (congrArg (fun z => F0 m 119 ls (.int z :: [.int (nI (12 * (T.2.2.1.2.2 0 1))), .ref (qs 9)])) (hAr)) ?_
      refine ri_iadd hx hb d_Ref_oldestMessage_119 ?_
      refine lv_iload hx hb d_Ref_oldestMessage_120 (lv_at hl 1 rfl) ?_
      refine ri_iast hx hb hK hP hD hS 5 0 rfl rfl (j := (12 * (T.2.2.1.2.2 0 1)) + (T.1.2.2 (T.2.2.1.2.2 0 2) 0)) (by omega) (by omega) d_Ref_oldestMessage_122 (fun H locs hP hD hS => ?_)
      rw [fl_up (a := T.2.2.1.2.2 0 1) (b := T.1.2.2 (T.2.2.1.2.2 0 2) 0) (show T.1.2.2 (T.2.2.1.2.2 0 2) 0 < 12 by omega)] at hP hD
      rw [sI_up] at hP hD
      have hP : va_P D kls (List.flatten [[rf_o h qs cd ((ma + 1) % 4000) (T.2.2.1.2.1 - 1) ca cn na nn pk dv ex lb lm], [(qs 1, .inl (cI, 144, .inl (fl (gN lk))))], [(qs 3, .inl (cZ, 144, .inl (fl (kB kn))))], [(qs 4, .inl (cI, 1600, .inl fR))], [(qs 5, .inl (cI, 1600, .inl fN))], [(qs 9, .inl (cI, 144, .inl (fl (sI (bm_up2 T.2.1 (T.2.2.1.2.2 0 1) (T.1.2.2 (T.2.2.1.2.2 0 2) 0) ((T.2.2.1.2.2 0 2) - 1 + 1))))))], [(qs 10, .inl (cI, 4000, .inl fM))]]) H := hP
      have hD : va_D A (List.flatten [[rf_o h qs cd ((ma + 1) % 4000) (T.2.2.1.2.1 - 1) ca cn na nn pk dv ex lb lm], [(qs 1, .inl (cI, 144, .inl (fl (gN lk))))], [(qs 3, .inl (cZ, 144, .inl (fl (kB kn))))], [(qs 4, .inl (cI, 1600, .inl fR))], [(qs 5, .inl (cI, 1600, .inl fN))], [(qs 9, .inl (cI, 144, .inl (fl (sI (bm_up2 T.2.1 (T.2.2.1.2.2 0 1) (T.1.2.2 (T.2.2.1.2.2 0 2) 0) ((T.2.2.1.2.2 0 2) - 1 + 1))))))], [(qs 10, .inl (cI, 4000, .inl fM))]]) := hD
      rw [show (T.2.2.1.2.2 0 2) - 1 + 1 = (T.2.2.1.2.2 0 2) by omega] at hP hD
      have hP : va_P D kls (List.flatten [[rf_o h qs cd ((ma + 1) % 4000) (T.2.2.1.2.1 - 1) ca cn na nn pk dv ex lb lm], [(qs 1, .inl (cI, 144, .inl (fl (gN lk))))], [(qs 3, .inl (cZ, 144, .inl (fl (kB kn))))], [(qs 4, .inl (cI, 1600, .inl fR))], [(qs 5, .inl (cI, 1600, .inl fN))], [(qs 9, .inl (cI, 144, .inl (fl (sI (bm_up2 T.2.1 (T.2.2.1.2.2 0 1) (T.1.2.2 (T.2.2.1.2.2 0 2) 0) (T.2.2.1.2.2 0 2))))))], [(qs 10, .inl (cI, 4000, .inl fM))]]) H := hP
      have hD : va_D A (List.flatten [[rf_o h qs cd ((ma + 1) % 4000) (T.2.2.1.2.1 - 1) ca cn na nn pk dv ex lb lm], [(qs 1, .inl (cI, 144, .inl (fl (gN lk))))], [(qs 3, .inl (cZ, 144, .inl (fl (kB kn))))], [(qs 4, .inl (cI, 1600, .inl fR))], [(qs 5, .inl (cI, 1600, .inl fN))], [(qs 9, .inl (cI, 144, .inl (fl (sI (bm_up2 T.2.1 (T.2.2.1.2.2 0 1) (T.1.2.2 (T.2.2.1.2.2 0 2) 0) (T.2.2.1.2.2 0 2))))))], [(qs 10, .inl (cI, 4000, .inl fM))]]) := hD
      refine lv_aload_n hx hb d_Ref_oldestMessage_123 rfl (lv_at hl 5 rfl) ?_
      refine lv_iload hx hb d_Ref_oldestMessage_124 (lv_at hl 1 rfl) ?_
      refine lv_iload_n hx hb d_Ref_oldestMessage_126 rfl (lv_at hl 2 rfl) ?_
      refine lv_iload_n hx hb d_Ref_oldestMessage_127 rfl (lv_at hl 3 rfl) ?_
      refine W.eq (g2 := F0 m 128 ls [.int (bm_oI (some (T.2.2.1.2.2 0 0))), .int (nI (T.2.2.1.2.2 0 1)), .int (nI ((T.2.2.1.2.2 0 2) - 1)), .ref h]) (congrArg (fun z => F0 m 128 ls (.int z :: [.int (nI (T.2.2.1.2.2 0 1)), .int (nI ((T.2.2.1.2.2 0 2) - 1)), .ref h])) (rfl)) ?_
      refine ct_callVV (C := R_Ref) (ci := 9) (As := [.int (nI ((T.2.2.1.2.2 0 2) - 1)), .int (nI (T.2.2.1.2.2 0 1)), .int (bm_oI (some (T.2.2.1.2.2 0 0)))]) (rest := []) ⟨hx, hb, hml, hown, ht⟩ (k_Ref_sendOn l D cI cZ cJ cG (mr_drop hM) (show T.2.2.1.2.1 - 1 + 12 ≤ 4000 by omega) ((T.2.2.1.2.2 0 2) - 1) (T.2.2.1.2.2 0 2) (T.2.2.1.2.2 0 1) (some (T.2.2.1.2.2 0 0)) (by omega) (by omega) ht9 (fun e z => by cases z; exact hf9)) (cb_V ht kc_Ref_sendOn kl_Ref_113 kn_Ref ki_Ref_sendOn ks_Ref_sendOn hd_Ref_sendOn ⟨Nat.le_of_ble_eq_true rfl, Nat.le_of_ble_eq_true rfl⟩) (List.mem_of_getElem? (i := 0) rfl) rfl rfl (wd_ct (Bs := [[rf_o h qs cd ((ma + 1) % 4000) (T.2.2.1.2.1 - 1) ca cn na nn pk dv ex lb lm], [(qs 1, .inl (cI, 144, .inl (fl (gN lk))))], [(qs 3, .inl (cZ, 144, .inl (fl (kB kn))))], [(qs 4, .inl (cI, 1600, .inl fR))], [(qs 5, .inl (cI, 1600, .inl fN))], [(qs 9, .inl (cI, 144, .inl (fl (sI (bm_up2 T.2.1 (T.2.2.1.2.2 0 1) (T.1.2.2 (T.2.2.1.2.2 0 2) 0) (T.2.2.1.2.2 0 2))))))], [(qs 10, .inl (cI, 4000, .inl fM))]]) 7 rfl [0, 2, 6] [1, 3, 4, 5] (by decide) rfl) hK hP hD hS hA rfl hl.1 rfl (Nat.le_of_ble_eq_true rfl) ⟨(show 0 + 0 ≤ 0 by omega), (show 0 + 0 ≤ 0 by omega)⟩ d_Ref_oldestMessage_128 (fun u106 H locs hu106 hP hD hS => ?_)
      obtain ⟨fM2, rfl, hM2⟩ := hu106
      refine W.widen (k := 0) (n := 0) (Nat.le_refl _) (Nat.le_refl _) ?_
      have hP := wd_nP (N := [[rf_o h qs cd ((ma + 1) % 4000) ((bm_sa kn (some (T.2.2.1.2.2 0 0)) (T.2.2.1.2.2 0 1) (T.2.2.1.2.2 0 2) (bm_drop T.2.2.1) 12).2.1) ca cn na nn pk dv ex lb lm], [(qs 3, .inl (cZ, 144, .inl (fl (kB kn))))], [(qs 10, .inl (cI, 4000, .inl fM2))]]) rfl 7 rfl [0, 3, 1, 4, 5, 6, 2] (by decide) hP
      have hD := wd_nD (N := [[rf_o h qs cd ((ma + 1) % 4000) ((bm_sa kn (some (T.2.2.1.2.2 0 0)) (T.2.2.1.2.2 0 1) (T.2.2.1.2.2 0 2) (bm_drop T.2.2.1) 12).2.1) ca cn na nn pk dv ex lb lm], [(qs 3, .inl (cZ, 144, .inl (fl (kB kn))))], [(qs 10, .inl (cI, 4000, .inl fM2))]]) rfl 7 rfl [0, 3, 1, 4, 5, 6, 2] (by decide) hD
      have hP : va_P D kls (List.flatten [[rf_o h qs cd ((ma + 1) % 4000) ((bm_sa kn (some (T.2.2.1.2.2 0 0)) (T.2.2.1.2.2 0 1) (T.2.2.1.2.2 0 2) (bm_drop T.2.2.1) 12).2.1) ca cn na nn pk dv ex lb lm], [(qs 1, .inl (cI, 144, .inl (fl (gN lk))))], [(qs 3, .inl (cZ, 144, .inl (fl (kB kn))))], [(qs 4, .inl (cI, 1600, .inl fR))], [(qs 5, .inl (cI, 1600, .inl fN))], [(qs 9, .inl (cI, 144, .inl (fl (sI (bm_up2 T.2.1 (T.2.2.1.2.2 0 1) (T.1.2.2 (T.2.2.1.2.2 0 2) 0) (T.2.2.1.2.2 0 2))))))], [(qs 10, .inl (cI, 4000, .inl fM2))]]) H := hP
      have hD : va_D A (List.flatten [[rf_o h qs cd ((ma + 1) % 4000) ((bm_sa kn (some (T.2.2.1.2.2 0 0)) (T.2.2.1.2.2 0 1) (T.2.2.1.2.2 0 2) (bm_drop T.2.2.1) 12).2.1) ca cn na nn pk dv ex lb lm], [(qs 1, .inl (cI, 144, .inl (fl (gN lk))))], [(qs 3, .inl (cZ, 144, .inl (fl (kB kn))))], [(qs 4, .inl (cI, 1600, .inl fR))], [(qs 5, .inl (cI, 1600, .inl fN))], [(qs 9, .inl (cI, 144, .inl (fl (sI (bm_up2 T.2.1 (T.2.2.1.2.2 0 1) (T.1.2.2 (T.2.2.1.2.2 0 2) 0) (T.2.2.1.2.2 0 2))))))], [(qs 10, .inl (cI, 4000, .inl fM2))]]) := hD
      refine W.eq (g2 := F0 m 131 ls []) rfl ?_
      refine lv_goto hx hb d_Ref_oldestMessage_131 (tgt := 169) (by decide) ?_
      have hd1 : bm_del lk kn (T, lm) = (bm_recv kn (T.2.2.1.2.2 0 1) (T.2.2.1.2.2 0 0) (T.2.2.1.2.2 0 2) (bm_dropT T), lm) := if_pos h64
      have hd2 : bm_recv kn (T.2.2.1.2.2 0 1) (T.2.2.1.2.2 0 0) (T.2.2.1.2.2 0 2) (bm_dropT T) = (T.1, bm_up2 T.2.1 (T.2.2.1.2.2 0 1) (T.1.2.2 (T.2.2.1.2.2 0 2) 0) (T.2.2.1.2.2 0 2), bm_sa kn (some (T.2.2.1.2.2 0 0)) (T.2.2.1.2.2 0 1) (T.2.2.1.2.2 0 2) (bm_drop T.2.2.1) 12, bm_up1 T.2.2.2 (T.2.2.1.2.2 0 1) (T.2.2.2 (T.2.2.1.2.2 0 1) + 1)) := if_pos (show (T.1.2.2 (T.2.1 (T.2.2.1.2.2 0 1) (T.1.2.2 (T.2.2.1.2.2 0 2) 0)) 1) < (T.1.2.2 (T.2.2.1.2.2 0 2) 1) by omega)
      have hdl := hd1
      rw [hd2] at hdl
      exact ct_vret hQ hx hb hr hlk hP hD hS hK (by omega) (by omega) d_Ref_oldestMessage_169 ⟨fM2, (ma + 1) % 4000, by first | (rw [hdl]; done) | (rw [hdl]; rfl), by rw [hdl]; exact hM2⟩
  · refine lv_aload_n hx hb d_Ref_oldestMessage_67 rfl (lv_at hl 4 rfl) ?_
    refine lv_dup hx hb d_Ref_oldestMessage_68 rfl ?_
    refine va_get (D := D) (ci := 9) (v := .int lm) (C := R_Ref) (T := T_Ref) (N := 32) hx hb ht in_Ref hown hK hP 0 rfl rfl 29 (by decide) (ht _ kl_Ref_126) (fun _ h9 => h9) rfl d_Ref_oldestMessage_69 ?_
    refine lv_iconst (v := nI 1) hx hb d_Ref_oldestMessage_72 (by decide) ?_
    refine lv_iadd hx hb d_Ref_oldestMessage_73 ?_
    refine va_put (D := D) (ci := 9) (v := .int (lm + (nI 1))) (ty := .int) (C := R_Ref) (T := T_Ref) (N := 32) hx hb ht in_Ref t_Ref ok_Ref nm_Ref hown hK hP hD hS 0 rfl rfl 29 (by decide) (ht _ kl_Ref_126) (fun _ h9 => h9) rfl (by decide +kernel) rfl rfl (Nat.le_of_ble_eq_true rfl) d_Ref_oldestMessage_74 (fun H locs hP hD hS => ?_)
    have hP : va_P D kls (List.flatten [[rf_o h qs cd ((ma + 1) % 4000) (T.2.2.1.2.1 - 1) ca cn na nn pk dv ex lb (lm + (nI 1))], [(qs 1, .inl (cI, 144, .inl (fl (gN lk))))], [(qs 3, .inl (cZ, 144, .inl (fl (kB kn))))], [(qs 4, .inl (cI, 1600, .inl fR))], [(qs 5, .inl (cI, 1600, .inl fN))], [(qs 9, .inl (cI, 144, .inl (fl (sI T.2.1))))], [(qs 10, .inl (cI, 4000, .inl fM))]]) H := hP
    have hD : va_D A (List.flatten [[rf_o h qs cd ((ma + 1) % 4000) (T.2.2.1.2.1 - 1) ca cn na nn pk dv ex lb (lm + (nI 1))], [(qs 1, .inl (cI, 144, .inl (fl (gN lk))))], [(qs 3, .inl (cZ, 144, .inl (fl (kB kn))))], [(qs 4, .inl (cI, 1600, .inl fR))], [(qs 5, .inl (cI, 1600, .inl fN))], [(qs 9, .inl (cI, 144, .inl (fl (sI T.2.1))))], [(qs 10, .inl (cI, 4000, .inl fM))]]) := hD
    have hdl : bm_del lk kn (T, lm) = (bm_dropT T, lm + nI 1) := if_neg h64
    exact ct_vret hQ hx hb hr hlk hP hD hS hK (by omega) (by omega) d_Ref_oldestMessage_77 ⟨fM, (ma + 1) % 4000, by first | (rw [hdl]; done) | (rw [hdl]; rfl), by rw [hdl]; exact mr_drop hM⟩
