/-! Control.neighboursAgree, Stores.writeView. -/
/-- neighbours over whole links have the same stores -/
def bm_agree (lk hd : Nat → Nat → Nat) : Prop := ∀ a b, a < b → b < 12 → lk a b = 1 → bm_same hd a b 12 = true
set_option maxHeartbeats 4000000 in
set_option maxRecDepth 100000 in
theorem k_Control_neighboursAgree (l : Launch) (D : va_G) (cI cZ cJ cG : ClassId) {h aL aS aM : Nat} {lk kn : Nat → Nat → Nat} {T : bm_T} {lost : Int32} {ws : va_W} (hR : co_R cI cG h aL aS aM lk kn T lost ws) (hok : bm_ok T) (hkn : ∀ a b, kn a b ≤ 1000) (hlk9 : ∀ a b, lk a b ≤ 2) (hc : bm_cap T) : ct_I l D kls (ty4 cI cZ cJ cG) y_Control_neighboursAgree ws_Control_neighboursAgree (rm_ 1 23 0 0) [.ref h] (ws) (fun z u => z = bI (bP (bm_agree lk T.2.1)) ∧ u = ws) 0 0 := by
  have hl1 : ∀ a b, lk a b < 2147483648 := fun a b => Nat.lt_of_le_of_lt (hlk9 a b) (by decide)
  have hl2 : ∀ a b, kn a b < 2147483648 := fun a b => Nat.lt_of_le_of_lt (hkn a b) (by decide)
  obtain ⟨wL, wS, wM, rfl, kL, kS, kM⟩ := hR
  obtain ⟨fsL, mL⟩ := kL.mem
  obtain ⟨fsS, mS⟩ := kS.mem
  obtain ⟨fsM, mM⟩ := kM.mem
  have bM := kM.n
  refine ct_enterI (cc := b_Control_neighboursAgree) (maxL := 3) (ret := (some .boolean)) (by decide +kernel) (Nat.le_of_ble_eq_true rfl) ?_
  intro p e s m args below meth c hx hb hml hr ht hown hlk hnm A Q hA hK hP hD hQ ls hl
  have hown : s.vm.findClass R_Control = some m.cls := hown
  have hS : va_S A s.heap s.heap [] := va_S.rf
  have hl : lv_has ls 3 [(0, .ref h)] := hl
  have hh : ∀ x y, x < 12 → y < 12 → T.2.1 x y < 2147483648 := fun x y hx hy => Nat.lt_of_lt_of_le (hok.1 x y hx hy) (Nat.le_trans hok.2.2.2.2 (Nat.le_trans hc.1 (by decide)))
  have inner : ∀ (a : Nat), ∀ (ha : a < 12), ∀ (K : ∀ (b : Nat) (H : Heap) (locs : List Loc) (ls : Array Slot), va_P D kls (List.flatten [[(h, .inr (4, [.ref aL, .ref aS, .ref aM, .int lost]))], wL, wS, wM]) H → va_D A (List.flatten [[(h, .inr (4, [.ref aL, .ref aS, .ref aM, .int lost]))], wL, wS, wM]) → va_S A s.heap H locs → lv_has ls 3 [(2, .int (nI b)), (1, .int (nI a)), (0, .ref h)] → (∀ x, a < x → x < 12 → lk a x = 1 → bm_same T.2.1 a x 12 = true) → W p l e (rm_ 1 23 0 0) s m args below meth c H locs 0 0 Q (F0 m 50 ls [])), ∀ (k b : Nat)  (H : Heap) (locs : List Loc) (ls : Array Slot), b + k = 12 → (a < b) → (∀ x, a < x → x < b → lk a x = 1 → bm_same T.2.1 a x 12 = true) → va_P D kls (List.flatten [[(h, .inr (4, [.ref aL, .ref aS, .ref aM, .int lost]))], wL, wS, wM]) H → va_D A (List.flatten [[(h, .inr (4, [.ref aL, .ref aS, .ref aM, .int lost]))], wL, wS, wM]) → va_S A s.heap H locs → lv_has ls 3 [(2, .int (nI b)), (1, .int (nI a)), (0, .ref h)] → W p l e (rm_ 1 23 0 0) s m args below meth c H locs 0 0 Q (F0 m 12 ls []) := by
    intro a ha K
    intro k
    induction k with
    | zero =>
      intro b H locs ls hk hab hs2 hP hD hS hl
      refine lv_iload_n hx hb d_Control_neighboursAgree_12 rfl (lv_at hl 0 rfl) ?_
      refine lv_bipush (v := nI 12) hx hb d_Control_neighboursAgree_13 (by decide) ?_
      refine ri_icmp_ge hx hb (by omega) (by omega) d_Control_neighboursAgree_15 (tgt := 50) (by decide) (fun hc9 => ?_) (fun hc9 => ?_)
      · exact K b H locs ls hP hD hS hl (fun x h3 h4 => hs2 x h3 (by omega))
      · exact absurd hc9 (by omega)
    | succ k ih =>
      intro b H locs ls hk hab hs2 hP hD hS hl
      refine lv_iload_n hx hb d_Control_neighboursAgree_12 rfl (lv_at hl 0 rfl) ?_
      refine lv_bipush (v := nI 12) hx hb d_Control_neighboursAgree_13 (by decide) ?_
      refine ri_icmp_ge hx hb (by omega) (by omega) d_Control_neighboursAgree_15 (tgt := 50) (by decide) (fun hc9 => ?_) (fun hc9 => ?_)
      · exact absurd hc9 (by omega)
      · refine lv_aload_n hx hb d_Control_neighboursAgree_18 rfl (lv_at hl 2 rfl) ?_
        refine va_get (D := D) (ci := 4) (v := .ref aL) (C := R_Control) (T := T_Control) (N := 4) hx hb ht in_Control hown hK hP 0 rfl rfl 0 (by decide) (ht _ kl_Control_20) (fun _ h9 => h9) rfl d_Control_neighboursAgree_19 ?_
        refine lv_iload_n hx hb d_Control_neighboursAgree_22 rfl (lv_at hl 1 rfl) ?_
        refine lv_iload_n hx hb d_Control_neighboursAgree_23 rfl (lv_at hl 0 rfl) ?_
        refine ct_rdV (C := R_Links) (ci := 2) (As := [.int (nI a), .int (nI b)]) (rest := []) ⟨hx, hb, hml, hown, ht⟩ (k_Links_isWhole l D cI cZ cJ cG kL a b hl1 hl2 (by omega) (by omega)) (cb_V ht kc_Links_isWhole kl_Control_67 kn_Links ki_Links_isWhole ks_Links_isWhole hd_Links_isWhole ⟨Nat.le_of_ble_eq_true rfl, Nat.le_of_ble_eq_true rfl⟩) (wd_mem 1 rfl mL) rfl rfl (wd_ct (Bs := [[(h, .inr (4, [.ref aL, .ref aS, .ref aM, .int lost]))], wL, wS, wM]) 4 rfl [1] [0, 2, 3] (by decide) (wd_1 _)) hK hP hD hS hA rfl hl.1 rfl (Nat.le_of_ble_eq_true rfl) ⟨(show 0 + 0 ≤ 0 by omega), (show 0 + 0 ≤ 0 by omega)⟩ d_Control_neighboursAgree_24 (fun rhr3 H locs hr3 hP hD hS => ?_)
        subst hr3
        refine ri_ifeqB hx hb d_Control_neighboursAgree_27 (tgt := 44) (by decide) (fun h1 => ?_) (fun h1 => ?_)
        · refine ri_iinc hx hb d_Control_neighboursAgree_44 hl (k := 0) rfl (by decide) rfl (fun ls hl => ?_)
          have hl : lv_has ls 3 [(2, .int (nI (b + 1))), (1, .int (nI a)), (0, .ref h)] := hl
          refine lv_goto hx hb d_Control_neighboursAgree_47 (tgt := 12) (by decide) ?_
          exact ih (b + 1) H locs ls (by omega) (by omega) (fun x hx hxb hl9 => by
            by_cases e : x = b
            · subst e
              first | exact h2 | exact absurd hl9 (of_decide_eq_false h1)
            · exact hs2 x hx (by omega) hl9) hP hD hS hl
        · refine lv_aload_n hx hb d_Control_neighboursAgree_30 rfl (lv_at hl 2 rfl) ?_
          refine va_get (D := D) (ci := 4) (v := .ref aS) (C := R_Control) (T := T_Control) (N := 4) hx hb ht in_Control hown hK hP 0 rfl rfl 1 (by decide) (ht _ kl_Control_24) (fun _ h9 => h9) rfl d_Control_neighboursAgree_31 ?_
          refine lv_iload_n hx hb d_Control_neighboursAgree_34 rfl (lv_at hl 1 rfl) ?_
          refine lv_iload_n hx hb d_Control_neighboursAgree_35 rfl (lv_at hl 0 rfl) ?_
          refine ct_rdV (C := R_Stores) (ci := 3) (As := [.int (nI a), .int (nI b)]) (rest := []) ⟨hx, hb, hml, hown, ht⟩ (k_Stores_areSame l D cI cZ cJ cG kS a b (by omega) (by omega) hh) (cb_V ht kc_Stores_areSame kl_Control_76 kn_Stores ki_Stores_areSame ks_Stores_areSame hd_Stores_areSame ⟨Nat.le_of_ble_eq_true rfl, Nat.le_of_ble_eq_true rfl⟩) (wd_mem 2 rfl mS) rfl rfl (wd_ct (Bs := [[(h, .inr (4, [.ref aL, .ref aS, .ref aM, .int lost]))], wL, wS, wM]) 4 rfl [2] [0, 1, 3] (by decide) (wd_1 _)) hK hP hD hS hA rfl hl.1 rfl (Nat.le_of_ble_eq_true rfl) ⟨(show 0 + 0 ≤ 0 by omega), (show 0 + 0 ≤ 0 by omega)⟩ d_Control_neighboursAgree_36 (fun rhr5 H locs hr5 hP hD hS => ?_)
          subst hr5
          refine ri_ifneB hx hb d_Control_neighboursAgree_39 (tgt := 44) (by decide) (fun h2 => ?_) (fun h2 => ?_)
          · refine ri_iinc hx hb d_Control_neighboursAgree_44 hl (k := 0) rfl (by decide) rfl (fun ls hl => ?_)
            have hl : lv_has ls 3 [(2, .int (nI (b + 1))), (1, .int (nI a)), (0, .ref h)] := hl
            refine lv_goto hx hb d_Control_neighboursAgree_47 (tgt := 12) (by decide) ?_
            exact ih (b + 1) H locs ls (by omega) (by omega) (fun x hx hxb hl9 => by
              by_cases e : x = b
              · subst e
                first | exact h2 | exact absurd hl9 (of_decide_eq_false h1)
              · exact hs2 x hx (by omega) hl9) hP hD hS hl
          · refine lv_iconst (v := nI 0) hx hb d_Control_neighboursAgree_42 (by decide) ?_
            exact ct_zret (b := false) hQ hx hb hr hlk hP hD hS hK (by omega) (by omega) d_Control_neighboursAgree_43 (⟨congrArg bI (bP_f (fun z => by have := z a b (by omega) (by omega) (of_decide_eq_true h1); rw [h2] at this; cases this)).symm, rfl⟩)
  have loop : ∀ (k a : Nat)  (H : Heap) (locs : List Loc) (ls : Array Slot), a + k = 12 → (∀ x y, x < a → x < y → y < 12 → lk x y = 1 → bm_same T.2.1 x y 12 = true) → va_P D kls (List.flatten [[(h, .inr (4, [.ref aL, .ref aS, .ref aM, .int lost]))], wL, wS, wM]) H → va_D A (List.flatten [[(h, .inr (4, [.ref aL, .ref aS, .ref aM, .int lost]))], wL, wS, wM]) → va_S A s.heap H locs → lv_has ls 3 [(1, .int (nI a)), (0, .ref h)] → W p l e (rm_ 1 23 0 0) s m args below meth c H locs 0 0 Q (F0 m 2 ls []) := by
    intro k
    induction k with
    | zero =>
      intro a H locs ls hk hs hP hD hS hl
      refine lv_iload_n hx hb d_Control_neighboursAgree_2 rfl (lv_at hl 0 rfl) ?_
      refine lv_bipush (v := nI 12) hx hb d_Control_neighboursAgree_3 (by decide) ?_
      refine ri_icmp_ge hx hb (by omega) (by omega) d_Control_neighboursAgree_5 (tgt := 56) (by decide) (fun hc9 => ?_) (fun hc9 => ?_)
      · refine lv_iconst (v := nI 1) hx hb d_Control_neighboursAgree_56 (by decide) ?_
        exact ct_zret (b := true) hQ hx hb hr hlk hP hD hS hK (by omega) (by omega) d_Control_neighboursAgree_57 (⟨congrArg bI (bP_t (fun x y hxy hy hl9 => hs x y (by omega) hxy hy hl9)).symm, rfl⟩)
      · exact absurd hc9 (by omega)
    | succ k ih =>
      intro a H locs ls hk hs hP hD hS hl
      refine lv_iload_n hx hb d_Control_neighboursAgree_2 rfl (lv_at hl 0 rfl) ?_
      refine lv_bipush (v := nI 12) hx hb d_Control_neighboursAgree_3 (by decide) ?_
      refine ri_icmp_ge hx hb (by omega) (by omega) d_Control_neighboursAgree_5 (tgt := 56) (by decide) (fun hc9 => ?_) (fun hc9 => ?_)
      · exact absurd hc9 (by omega)
      · refine lv_iload_n hx hb d_Control_neighboursAgree_8 rfl (lv_at hl 0 rfl) ?_
        refine lv_iconst (v := nI 1) hx hb d_Control_neighboursAgree_9 (by decide) ?_
        refine ri_iadd hx hb d_Control_neighboursAgree_10 ?_
        refine lv_istore_n hx hb d_Control_neighboursAgree_11 rfl hl (by decide) rfl (fun ls hl => ?_)
        have hl : lv_has ls 3 [(2, .int (nI (a + 1))), (1, .int (nI a)), (0, .ref h)] := hl
        refine inner a (by omega) (fun b H locs ls hP hD hS hl hs9 => ?_) (11 - a) (a + 1) H locs ls (by omega) (by omega) (fun x h3 h4 => absurd h4 (by omega)) hP hD hS hl
        refine ri_iinc hx hb d_Control_neighboursAgree_50 hl (k := 1) rfl (by decide) rfl (fun ls hl => ?_)
        have hl : lv_has ls 3 [(1, .int (nI (a + 1))), (2, .int (nI b)), (0, .ref h)] := hl
        refine lv_goto hx hb d_Control_neighboursAgree_53 (tgt := 2) (by decide) ?_
        exact ih (a + 1) H locs ls (by omega) (fun x y hx hxy hy hl9 => by
          by_cases e : x = a
          · subst e; exact hs9 y hxy hy hl9
          · exact hs x y (by omega) hxy hy hl9) hP hD hS (lv_sub hl [0, 2] rfl)
  refine lv_iconst (v := nI 0) hx hb d_Control_neighboursAgree_0 (by decide) ?_
  refine lv_istore_n hx hb d_Control_neighboursAgree_1 rfl hl (by decide) rfl (fun ls hl => ?_)
  have hl : lv_has ls 3 [(1, .int (nI 0)), (0, .ref h)] := hl
  exact loop 12 0 s.heap [] ls (by omega) (fun x y hx => absurd hx (by omega)) hP hD hS hl
