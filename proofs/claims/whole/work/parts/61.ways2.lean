/-! Routes: nearestNotDone, reckonWaysFrom. -/
/-- the nearest of those below x that are not done -/
def bn_near (L : Nat → Option Nat) (N : Nat → Bool) (nr : Option Nat) (x : Nat) : Prop := match nr with
  | none => ∀ v, v < x → N v = false → L v = none
  | some n => n < 12 ∧ N n = false ∧ ∃ a, L n = some a ∧ ∀ v b, v < x → N v = false → L v = some b → a ≤ b
theorem bn_DI_congr {w : Nat → Nat → Nat} {s B : Nat} {L L' : Nat → Option Nat} {H H' : Nat → Nat} {N N' : Nat → Bool} (hs : s < 12) (h : bn_DI w s B L H N) (hL : ∀ y, y < 12 → L' y = L y) (hH : ∀ y, y < 12 → H' y = H y) (hN : ∀ y, y < 12 → N' y = N y) : bn_DI w s B L' H' N' := by
  obtain ⟨j1, j2, j3, j4, j5, j6⟩ := h
  have hop : ∀ u y, u < 12 → bn_hop s u H' y = bn_hop s u H y := fun u y hu => by
    unfold bn_hop
    rw [hH u hu]
  refine ⟨by rw [hL s hs]; exact j1, fun y d hy h => ?_, fun u hu h => ?_, fun u a hu h ha y hy hw => ?_, fun y d hy hys h => ?_, fun y hy => by rw [hH y hy]; exact j6 y hy⟩
  · rw [hL y hy] at h
    exact j2 y d hy h
  · rw [hN u hu] at h
    obtain ⟨a, h1, h2⟩ := j3 u hu h
    exact ⟨a, by rw [hL u hu]; exact h1, fun v b hv h3 h4 => h2 v b hv (by rw [← hN v hv]; exact h3) (by rw [← hL v hv]; exact h4)⟩
  · rw [hN u hu] at h
    rw [hL u hu] at ha
    obtain ⟨b, h1, h2, h3⟩ := j4 u a hu h ha y hy hw
    exact ⟨b, by rw [hL y hy]; exact h1, h2, fun z => by rw [hH y hy, hop u y hu]; exact h3 z⟩
  · rw [hL y hy] at h
    rw [hH y hy]
    exact j5 y d hy hys h
set_option maxHeartbeats 4000000 in
set_option maxRecDepth 100000 in
theorem c_Routes_nearestNotDone (l : Launch) (D : va_G) (cI cZ cJ cG : ClassId) (h aS aE gm qr gw ql qf qd : Nat) (rw : Nat → Nat) (wt : Nat → Nat → Nat) (L : Nat → Option Nat) (Hh : Nat → Nat) (Nn : Nat → Bool) (hLb : ∀ y d, y < 12 → L y = some d → d ≤ 1000000) : ct_I l D kls (ty4 cI cZ cJ cG) y_Routes_nearestNotDone ws_Routes_nearestNotDone (rm_ 0 0 0 0) [.ref h] (rc_w cI cZ cG h aS aE gm qr gw ql qf qd rw wt L Hh Nn) (fun z u => (∃ nr, z = bm_oI nr ∧ bn_near L Nn nr 12) ∧ u = rc_w cI cZ cG h aS aE gm qr gw ql qf qd rw wt L Hh Nn) 0 0 := by
  refine ct_enterI (cc := b_Routes_nearestNotDone) (maxL := 3) (ret := (some .int)) (by decide +kernel) (Nat.le_of_ble_eq_true rfl) ?_
  intro p e s m args below meth c hx hb hml hr ht hown hlk hnm A Q hA hK hP hD hQ ls hl
  have hown : s.vm.findClass R_Routes = some m.cls := hown
  have hS : va_S A s.heap s.heap [] := va_S.rf
  have hl : lv_has ls 3 [(0, .ref h)] := hl
  have loop : ∀ (k x : Nat) (nr : Option Nat) (H : Heap) (locs : List Loc) (ls : Array Slot), x + k = 12 → (bn_near L Nn nr x) → va_P D kls (List.flatten [[(h, .inr (5, [.ref aS, .ref aE, .ref gm, .ref qr, .ref gw, .ref ql, .ref qf, .ref qd]))], [(gw, .inl (cG, 12, .inr (.inr (.inr (.inr (go rw))))))], [(ql, .inl (cI, 12, .inl (lI L)))], [(qf, .inl (cI, 12, .inl (cN Hh)))], [(qd, .inl (cZ, 12, .inl (dB Nn)))], gd cI 12 rw (gN wt)]) H → va_D A (List.flatten [[(h, .inr (5, [.ref aS, .ref aE, .ref gm, .ref qr, .ref gw, .ref ql, .ref qf, .ref qd]))], [(gw, .inl (cG, 12, .inr (.inr (.inr (.inr (go rw))))))], [(ql, .inl (cI, 12, .inl (lI L)))], [(qf, .inl (cI, 12, .inl (cN Hh)))], [(qd, .inl (cZ, 12, .inl (dB Nn)))], gd cI 12 rw (gN wt)]) → va_S A s.heap H locs → lv_has ls 3 [(2, .int (nI x)), (1, .int (bm_oI nr)), (0, .ref h)] → W p l e (rm_ 0 0 0 0) s m args below meth c H locs 0 0 Q (F0 m 4 ls []) := by
    intro k
    induction k with
    | zero =>
      intro x nr H locs ls hk hs hP hD hS hl
      refine lv_iload_n hx hb d_Routes_nearestNotDone_4 rfl (lv_at hl 0 rfl) ?_
      refine lv_bipush (v := nI 12) hx hb d_Routes_nearestNotDone_5 (by decide) ?_
      refine ri_icmp_ge hx hb (by omega) (by omega) d_Routes_nearestNotDone_7 (tgt := 57) (by decide) (fun hc9 => ?_) (fun hc9 => ?_)
      · have hs12 : bn_near L Nn nr 12 := by rw [show x = 12 by omega] at hs; exact hs
        refine lv_iload_n hx hb d_Routes_nearestNotDone_57 rfl (lv_at hl 1 rfl) ?_
        exact ct_iret hQ hx hb hr hlk hP hD hS hK (by omega) (by omega) d_Routes_nearestNotDone_58 (⟨⟨nr, rfl, hs12⟩, rfl⟩)
      · exact absurd hc9 (by omega)
    | succ k ih =>
      intro x nr H locs ls hk hs hP hD hS hl
      refine lv_iload_n hx hb d_Routes_nearestNotDone_4 rfl (lv_at hl 0 rfl) ?_
      refine lv_bipush (v := nI 12) hx hb d_Routes_nearestNotDone_5 (by decide) ?_
      refine ri_icmp_ge hx hb (by omega) (by omega) d_Routes_nearestNotDone_7 (tgt := 57) (by decide) (fun hc9 => ?_) (fun hc9 => ?_)
      · exact absurd hc9 (by omega)
      · refine lv_aload_n hx hb d_Routes_nearestNotDone_10 rfl (lv_at hl 2 rfl) ?_
        refine va_get (D := D) (ci := 5) (v := .ref qd) (C := R_Routes) (T := T_Routes) (N := 8) hx hb ht in_Routes hown hK hP 0 rfl rfl 7 (by decide) (ht _ kl_Routes_29) (fun _ h9 => h9) rfl d_Routes_nearestNotDone_11 ?_
        refine lv_iload_n hx hb d_Routes_nearestNotDone_14 rfl (lv_at hl 0 rfl) ?_
        refine ri_zald hx hb hK hP 4 1 rfl rfl (j := x) (by omega) (by omega) d_Routes_nearestNotDone_15 ?_
        refine W.eq (g2 := F0 m 16 ls [.int (bI (Nn x))]) rfl ?_
        refine ri_ifneB hx hb d_Routes_nearestNotDone_16 (tgt := 51) (by decide) (fun hn => ?_) (fun hn => ?_)
        · refine ri_iinc hx hb d_Routes_nearestNotDone_51 hl (k := 0) rfl (by decide) rfl (fun ls hl => ?_)
          have hl : lv_has ls 3 [(2, .int (nI (x + 1))), (1, .int (bm_oI nr)), (0, .ref h)] := hl
          refine lv_goto hx hb d_Routes_nearestNotDone_54 (tgt := 4) (by decide) ?_
          have hl := lv_sub hl [0, 1, 2] rfl
          refine ih (x + 1) nr H locs ls (by omega) ?_ hP hD hS hl
          rcases nr with _ | n
          · exact fun v hv h1 => by
              by_cases e : v = x
              · first | (rw [e]; exact hLx) | (rw [e, hn] at h1; cases h1)
              · exact hs v (by omega) h1
          · obtain ⟨n1, n2, a, n3, n4⟩ := hs
            exact ⟨n1, n2, a, n3, fun v c hv h1 h2 => by
              by_cases e : v = x
              · first | (rw [e, hLx] at h2; cases h2; done) | (rw [e, hn] at h1; cases h1; done)
              · exact n4 v c (by omega) h1 h2⟩
        · rcases hLx : L x with _ | b
          · refine lv_aload_n hx hb d_Routes_nearestNotDone_19 rfl (lv_at hl 2 rfl) ?_
            refine va_get (D := D) (ci := 5) (v := .ref ql) (C := R_Routes) (T := T_Routes) (N := 8) hx hb ht in_Routes hown hK hP 0 rfl rfl 5 (by decide) (ht _ kl_Routes_23) (fun _ h9 => h9) rfl d_Routes_nearestNotDone_20 ?_
            refine lv_iload_n hx hb d_Routes_nearestNotDone_23 rfl (lv_at hl 0 rfl) ?_
            refine ri_iald hx hb hK hP 2 0 rfl rfl (j := x) (by omega) (by omega) d_Routes_nearestNotDone_24 ?_
            refine W.eq (g2 := F0 m 25 ls [.int (bm_oI (L x))]) rfl ?_
            refine W.eq (g2 := F0 m 25 ls [.int ((-1))]) (congrArg (fun z => F0 m 25 ls (.int z :: [])) (show bm_oI (L x) = -1 by rw [hLx]; rfl)) ?_
            refine lv_iconst (v := (-1)) hx hb d_Routes_nearestNotDone_25 (by decide) ?_
            refine lv_icmp_eq hx hb d_Routes_nearestNotDone_26 (tgt := 51) (by decide) (fun h6 => ?_) (fun h6 => ?_)
            · refine ri_iinc hx hb d_Routes_nearestNotDone_51 hl (k := 0) rfl (by decide) rfl (fun ls hl => ?_)
              have hl : lv_has ls 3 [(2, .int (nI (x + 1))), (1, .int (bm_oI nr)), (0, .ref h)] := hl
              refine lv_goto hx hb d_Routes_nearestNotDone_54 (tgt := 4) (by decide) ?_
              have hl := lv_sub hl [0, 1, 2] rfl
              refine ih (x + 1) nr H locs ls (by omega) ?_ hP hD hS hl
              rcases nr with _ | n
              · exact fun v hv h1 => by
                  by_cases e : v = x
                  · first | (rw [e]; exact hLx) | (rw [e, hn] at h1; cases h1)
                  · exact hs v (by omega) h1
              · obtain ⟨n1, n2, a, n3, n4⟩ := hs
                exact ⟨n1, n2, a, n3, fun v c hv h1 h2 => by
                  by_cases e : v = x
                  · first | (rw [e, hLx] at h2; cases h2; done) | (rw [e, hn] at h1; cases h1; done)
                  · exact n4 v c (by omega) h1 h2⟩
            · exact absurd h6 (fun z => z rfl)
          · have hbb := hLb x b (by omega) hLx
            refine lv_aload_n hx hb d_Routes_nearestNotDone_19 rfl (lv_at hl 2 rfl) ?_
            refine va_get (D := D) (ci := 5) (v := .ref ql) (C := R_Routes) (T := T_Routes) (N := 8) hx hb ht in_Routes hown hK hP 0 rfl rfl 5 (by decide) (ht _ kl_Routes_23) (fun _ h9 => h9) rfl d_Routes_nearestNotDone_20 ?_
            refine lv_iload_n hx hb d_Routes_nearestNotDone_23 rfl (lv_at hl 0 rfl) ?_
            refine ri_iald hx hb hK hP 2 0 rfl rfl (j := x) (by omega) (by omega) d_Routes_nearestNotDone_24 ?_
            refine W.eq (g2 := F0 m 25 ls [.int (bm_oI (L x))]) rfl ?_
            refine W.eq (g2 := F0 m 25 ls [.int (nI b)]) (congrArg (fun z => F0 m 25 ls (.int z :: [])) (show bm_oI (L x) = nI b by rw [hLx]; rfl)) ?_
            refine lv_iconst (v := (-1)) hx hb d_Routes_nearestNotDone_25 (by decide) ?_
            refine lv_icmp_eq hx hb d_Routes_nearestNotDone_26 (tgt := 51) (by decide) (fun h6 => ?_) (fun h6 => ?_)
            · exact absurd h6 (nI_m1 (by omega))
            · rcases nr with _ | n
              · have hl : lv_has ls 3 [(2, .int (nI x)), (1, .int (bm_oI none)), (0, .ref h)] := hl
                refine lv_iload_n hx hb d_Routes_nearestNotDone_29 rfl (lv_at hl 1 rfl) ?_
                refine lv_iconst (v := (-1)) hx hb d_Routes_nearestNotDone_30 (by decide) ?_
                refine lv_icmp_eq hx hb d_Routes_nearestNotDone_31 (tgt := 49) (by decide) (fun h7 => ?_) (fun h7 => ?_)
                · refine lv_iload_n hx hb d_Routes_nearestNotDone_49 rfl (lv_at hl 0 rfl) ?_
                  refine lv_istore_n hx hb d_Routes_nearestNotDone_50 rfl hl (by decide) rfl (fun ls hl => ?_)
                  have hl : lv_has ls 3 [(1, .int (nI x)), (2, .int (nI x)), (0, .ref h)] := hl
                  refine ri_iinc hx hb d_Routes_nearestNotDone_51 hl (k := 1) rfl (by decide) rfl (fun ls hl => ?_)
                  have hl : lv_has ls 3 [(2, .int (nI (x + 1))), (1, .int (nI x)), (0, .ref h)] := hl
                  refine lv_goto hx hb d_Routes_nearestNotDone_54 (tgt := 4) (by decide) ?_
                  have hl := lv_sub hl [0, 1, 2] rfl
                  refine ih (x + 1) (some x) H locs ls (by omega) ?_ hP hD hS hl
                  exact ⟨by omega, hn, b, hLx, fun v c hv h1 h2 => by
                    by_cases e : v = x
                    · rw [e, hLx] at h2; cases h2; exact Nat.le_refl _
                    · have := hs v (by omega) h1; rw [this] at h2; cases h2⟩
                · exact absurd h7 (fun z => z rfl)
              · have hl : lv_has ls 3 [(2, .int (nI x)), (1, .int (nI n)), (0, .ref h)] := hl
                obtain ⟨n1, n2, a, n3, n4⟩ := hs
                have hab := hLb n a n1 n3
                refine lv_iload_n hx hb d_Routes_nearestNotDone_29 rfl (lv_at hl 1 rfl) ?_
                refine lv_iconst (v := (-1)) hx hb d_Routes_nearestNotDone_30 (by decide) ?_
                refine lv_icmp_eq hx hb d_Routes_nearestNotDone_31 (tgt := 49) (by decide) (fun h7 => ?_) (fun h7 => ?_)
                · exact absurd h7 (nI_m1 (by omega))
                · refine lv_aload_n hx hb d_Routes_nearestNotDone_34 rfl (lv_at hl 2 rfl) ?_
                  refine va_get (D := D) (ci := 5) (v := .ref ql) (C := R_Routes) (T := T_Routes) (N := 8) hx hb ht in_Routes hown hK hP 0 rfl rfl 5 (by decide) (ht _ kl_Routes_23) (fun _ h9 => h9) rfl d_Routes_nearestNotDone_35 ?_
                  refine lv_iload_n hx hb d_Routes_nearestNotDone_38 rfl (lv_at hl 0 rfl) ?_
                  refine ri_iald hx hb hK hP 2 0 rfl rfl (j := x) (by omega) (by omega) d_Routes_nearestNotDone_39 ?_
                  refine W.eq (g2 := F0 m 40 ls [.int (bm_oI (L x))]) rfl ?_
                  refine W.eq (g2 := F0 m 40 ls [.int (nI b)]) (congrArg (fun z => F0 m 40 ls (.int z :: [])) (show bm_oI (L x) = nI b by rw [hLx]; rfl)) ?_
                  refine lv_aload_n hx hb d_Routes_nearestNotDone_40 rfl (lv_at hl 2 rfl) ?_
                  refine va_get (D := D) (ci := 5) (v := .ref ql) (C := R_Routes) (T := T_Routes) (N := 8) hx hb ht in_Routes hown hK hP 0 rfl rfl 5 (by decide) (ht _ kl_Routes_23) (fun _ h9 => h9) rfl d_Routes_nearestNotDone_41 ?_
                  refine lv_iload_n hx hb d_Routes_nearestNotDone_44 rfl (lv_at hl 1 rfl) ?_
                  refine ri_iald hx hb hK hP 2 0 rfl rfl (j := n) (by omega) (by omega) d_Routes_nearestNotDone_45 ?_
                  refine W.eq (g2 := F0 m 46 ls [.int (bm_oI (L n)), .int (nI b)]) rfl ?_
                  refine W.eq (g2 := F0 m 46 ls [.int (nI a), .int (nI b)]) (congrArg (fun z => F0 m 46 ls (.int z :: [.int (nI b)])) (show bm_oI (L n) = nI a by rw [n3]; rfl)) ?_
                  refine ri_icmp_ge hx hb (by omega) (by omega) d_Routes_nearestNotDone_46 (tgt := 51) (by decide) (fun h8 => ?_) (fun h8 => ?_)
                  · refine ri_iinc hx hb d_Routes_nearestNotDone_51 hl (k := 0) rfl (by decide) rfl (fun ls hl => ?_)
                    have hl : lv_has ls 3 [(2, .int (nI (x + 1))), (1, .int (nI n)), (0, .ref h)] := hl
                    refine lv_goto hx hb d_Routes_nearestNotDone_54 (tgt := 4) (by decide) ?_
                    have hl := lv_sub hl [0, 1, 2] rfl
                    refine ih (x + 1) (some n) H locs ls (by omega) ?_ hP hD hS hl
                    exact ⟨n1, n2, a, n3, fun v c hv h1 h2 => by
                      by_cases e : v = x
                      · rw [e, hLx] at h2; cases h2; exact h8
                      · exact n4 v c (by omega) h1 h2⟩
                  · refine lv_iload_n hx hb d_Routes_nearestNotDone_49 rfl (lv_at hl 0 rfl) ?_
                    refine lv_istore_n hx hb d_Routes_nearestNotDone_50 rfl hl (by decide) rfl (fun ls hl => ?_)
                    have hl : lv_has ls 3 [(1, .int (nI x)), (2, .int (nI x)), (0, .ref h)] := hl
                    refine ri_iinc hx hb d_Routes_nearestNotDone_51 hl (k := 1) rfl (by decide) rfl (fun ls hl => ?_)
                    have hl : lv_has ls 3 [(2, .int (nI (x + 1))), (1, .int (nI x)), (0, .ref h)] := hl
                    refine lv_goto hx hb d_Routes_nearestNotDone_54 (tgt := 4) (by decide) ?_
                    have hl := lv_sub hl [0, 1, 2] rfl
                    refine ih (x + 1) (some x) H locs ls (by omega) ?_ hP hD hS hl
                    exact ⟨by omega, hn, b, hLx, fun v c hv h1 h2 => by
                      by_cases e : v = x
                      · rw [e, hLx] at h2; cases h2; exact Nat.le_refl _
                      · have := n4 v c (by omega) h1 h2; omega⟩
  refine lv_iconst (v := (-1)) hx hb d_Routes_nearestNotDone_0 (by decide) ?_
  refine lv_istore_n hx hb d_Routes_nearestNotDone_1 rfl hl (by decide) rfl (fun ls hl => ?_)
  have hl : lv_has ls 3 [(1, .int ((-1))), (0, .ref h)] := hl
  refine lv_iconst (v := nI 0) hx hb d_Routes_nearestNotDone_2 (by decide) ?_
  refine lv_istore_n hx hb d_Routes_nearestNotDone_3 rfl hl (by decide) rfl (fun ls hl => ?_)
  have hl : lv_has ls 3 [(2, .int (nI 0)), (1, .int ((-1))), (0, .ref h)] := hl
  exact loop 12 0 none s.heap [] ls (by omega) (fun v hv => absurd hv (by omega)) hP hD hS hl
set_option maxHeartbeats 4000000 in
set_option maxRecDepth 100000 in
theorem c_Routes_reckonWaysFrom (l : Launch) (D : va_G) (cI cZ cJ cG : ClassId) (h aS aE gm qr gw ql qf qd : Nat) (rw : Nat → Nat) (wt : Nat → Nat → Nat) (L : Nat → Option Nat) (Hh : Nat → Nat) (Nn : Nat → Bool) (s9 : Nat) (hs9 : s9 < 12) (hw0 : ∀ x, wt x x = 0) (hwb : ∀ a b, wt a b ≤ 1023) : ct_V l D kls (ty4 cI cZ cJ cG) y_Routes_reckonWaysFrom ws_Routes_reckonWaysFrom (rm_ 1 25 0 0) [.ref h, .int (nI s9)] (rc_w cI cZ cG h aS aE gm qr gw ql qf qd rw wt L Hh Nn) (fun u => ∃ L2 H2 N2, u = rc_w cI cZ cG h aS aE gm qr gw ql qf qd rw wt L2 H2 N2 ∧ (∀ y, y < 12 → L2 y = bn_len wt s9 y) ∧ (∀ y d, y < 12 → y ≠ s9 → L2 y = some d → bn_nh wt s9 y = some (H2 y)) ∧ (∀ y, y < 12 → H2 y < 12) ∧ ∀ y d, y < 12 → L2 y = some d → d ≤ 20000) 0 0 := by
  refine ct_enterV (cc := b_Routes_reckonWaysFrom) (maxL := 4) (ret := none) (by decide +kernel) (Nat.le_of_ble_eq_true rfl) ?_
  intro p e s m args below meth c hx hb hml hr ht hown hlk hnm A Q hA hK hP hD hQ ls hl
  have hown : s.vm.findClass R_Routes = some m.cls := hown
  have hS : va_S A s.heap s.heap [] := va_S.rf
  have hl : lv_has ls 4 [(0, .ref h), (1, .int (nI s9))] := hl
  have turns : ∀ (k tn : Nat) (L2 : Nat → Option Nat) (H2 : Nat → Nat) (N2 : Nat → Bool) (xo : Option Nat) (H : Heap) (locs : List Loc) (ls : Array Slot), tn + k = 12 → (bn_DI wt s9 (1023 * tn) L2 H2 N2) → (bn_cnt N2 12 = tn) → (bn_near L2 N2 xo 12) → va_P D kls (List.flatten [[(h, .inr (5, [.ref aS, .ref aE, .ref gm, .ref qr, .ref gw, .ref ql, .ref qf, .ref qd]))], [(gw, .inl (cG, 12, .inr (.inr (.inr (.inr (go rw))))))], [(ql, .inl (cI, 12, .inl (lI L2)))], [(qf, .inl (cI, 12, .inl (cN H2)))], [(qd, .inl (cZ, 12, .inl (dB N2)))], gd cI 12 rw (gN wt)]) H → va_D A (List.flatten [[(h, .inr (5, [.ref aS, .ref aE, .ref gm, .ref qr, .ref gw, .ref ql, .ref qf, .ref qd]))], [(gw, .inl (cG, 12, .inr (.inr (.inr (.inr (go rw))))))], [(ql, .inl (cI, 12, .inl (lI L2)))], [(qf, .inl (cI, 12, .inl (cN H2)))], [(qd, .inl (cZ, 12, .inl (dB N2)))], gd cI 12 rw (gN wt)]) → va_S A s.heap H locs → lv_has ls 4 [(3, .int (nI tn)), (2, .int (bm_oI xo)), (0, .ref h), (1, .int (nI s9))] → W p l e (rm_ 1 25 0 0) s m args below meth c H locs 0 0 Q (F0 m 46 ls []) := by
    intro k
    induction k with
    | zero =>
      intro tn L2 H2 N2 xo H locs ls hk hDI hcnt hsel hP hD hS hl
      refine lv_iload_n hx hb d_Routes_reckonWaysFrom_46 rfl (lv_at hl 0 rfl) ?_
      refine lv_bipush (v := nI 12) hx hb d_Routes_reckonWaysFrom_47 (by decide) ?_
      refine ri_icmp_ge hx hb (by omega) (by omega) d_Routes_reckonWaysFrom_49 (tgt := 81) (by decide) (fun hc9 => ?_) (fun hc9 => ?_)
      · have htn : tn = 12 := by omega
        have hfin : bn_fin L2 N2 := fun v hv hne => bn_cnt_all 12 (by rw [hcnt, htn]) v hv
        have hB : 1023 * tn < 1000000 := by omega
        exact ct_vret hQ hx hb hr hlk hP hD hS hK (by omega) (by omega) d_Routes_reckonWaysFrom_81 (⟨L2, H2, N2, rfl, fun y hy => bn_dij_len hs9 hw0 hwb hB hDI hfin hy, fun y d hy hys hd => bn_dij_nh hs9 hw0 hwb hB hDI hfin hy hys hd, hDI.2.2.2.2.2, fun y d hy hd => by have := (hDI.2.1 y d hy hd).1; omega⟩)
      · exact absurd hc9 (by omega)
    | succ k ih =>
      intro tn L2 H2 N2 xo H locs ls hk hDI hcnt hsel hP hD hS hl
      refine lv_iload_n hx hb d_Routes_reckonWaysFrom_46 rfl (lv_at hl 0 rfl) ?_
      refine lv_bipush (v := nI 12) hx hb d_Routes_reckonWaysFrom_47 (by decide) ?_
      refine ri_icmp_ge hx hb (by omega) (by omega) d_Routes_reckonWaysFrom_49 (tgt := 81) (by decide) (fun hc9 => ?_) (fun hc9 => ?_)
      · exact absurd hc9 (by omega)
      · rcases xo with _ | x
        · have hl : lv_has ls 4 [(3, .int (nI tn)), (2, .int (bm_oI none)), (0, .ref h), (1, .int (nI s9))] := hl
          refine lv_iload_n hx hb d_Routes_reckonWaysFrom_52 rfl (lv_at hl 1 rfl) ?_
          refine lv_iconst (v := (-1)) hx hb d_Routes_reckonWaysFrom_53 (by decide) ?_
          refine lv_icmp_eq hx hb d_Routes_reckonWaysFrom_54 (tgt := 81) (by decide) (fun h7 => ?_) (fun h7 => ?_)
          · have hfin : bn_fin L2 N2 := fun v hv hne => by
              cases hb9 : N2 v with
              | true => rfl
              | false => exact absurd (hsel v hv hb9) hne
            have hB : 1023 * tn < 1000000 := by omega
            exact ct_vret hQ hx hb hr hlk hP hD hS hK (by omega) (by omega) d_Routes_reckonWaysFrom_81 (⟨L2, H2, N2, rfl, fun y hy => bn_dij_len hs9 hw0 hwb hB hDI hfin hy, fun y d hy hys hd => bn_dij_nh hs9 hw0 hwb hB hDI hfin hy hys hd, hDI.2.2.2.2.2, fun y d hy hd => by have := (hDI.2.1 y d hy hd).1; omega⟩)
          · exact absurd h7 (fun z => z rfl)
        · have hl : lv_has ls 4 [(3, .int (nI tn)), (2, .int (nI x)), (0, .ref h), (1, .int (nI s9))] := hl
          obtain ⟨hx9, hnx, lx, hlx9, hmin⟩ := hsel
          have hlxB := (hDI.2.1 x lx hx9 hlx9).1
          refine lv_iload_n hx hb d_Routes_reckonWaysFrom_52 rfl (lv_at hl 1 rfl) ?_
          refine lv_iconst (v := (-1)) hx hb d_Routes_reckonWaysFrom_53 (by decide) ?_
          refine lv_icmp_eq hx hb d_Routes_reckonWaysFrom_54 (tgt := 81) (by decide) (fun h7 => ?_) (fun h7 => ?_)
          · exact absurd h7 (nI_m1 (by omega))
          · refine lv_aload_n hx hb d_Routes_reckonWaysFrom_57 rfl (lv_at hl 2 rfl) ?_
            refine va_get (D := D) (ci := 5) (v := .ref qd) (C := R_Routes) (T := T_Routes) (N := 8) hx hb ht in_Routes hown hK hP 0 rfl rfl 7 (by decide) (ht _ kl_Routes_29) (fun _ h9 => h9) rfl d_Routes_reckonWaysFrom_58 ?_
            refine lv_iload_n hx hb d_Routes_reckonWaysFrom_61 rfl (lv_at hl 1 rfl) ?_
            refine lv_iconst (v := nI 1) hx hb d_Routes_reckonWaysFrom_62 (by decide) ?_
            refine ri_zast (x := true) hx hb hK hP hD hS 4 1 rfl rfl (j := x) (by omega) (by omega) d_Routes_reckonWaysFrom_63 (fun H locs hP hD hS => ?_)
            rw [dB_up] at hP hD
            have hP : va_P D kls (List.flatten [[(h, .inr (5, [.ref aS, .ref aE, .ref gm, .ref qr, .ref gw, .ref ql, .ref qf, .ref qd]))], [(gw, .inl (cG, 12, .inr (.inr (.inr (.inr (go rw))))))], [(ql, .inl (cI, 12, .inl (lI L2)))], [(qf, .inl (cI, 12, .inl (cN H2)))], [(qd, .inl (cZ, 12, .inl (dB (bm_up1 N2 x true))))], gd cI 12 rw (gN wt)]) H := hP
            have hD : va_D A (List.flatten [[(h, .inr (5, [.ref aS, .ref aE, .ref gm, .ref qr, .ref gw, .ref ql, .ref qf, .ref qd]))], [(gw, .inl (cG, 12, .inr (.inr (.inr (.inr (go rw))))))], [(ql, .inl (cI, 12, .inl (lI L2)))], [(qf, .inl (cI, 12, .inl (cN H2)))], [(qd, .inl (cZ, 12, .inl (dB (bm_up1 N2 x true))))], gd cI 12 rw (gN wt)]) := hD
            refine lv_aload_n hx hb d_Routes_reckonWaysFrom_64 rfl (lv_at hl 2 rfl) ?_
            refine lv_iload_n hx hb d_Routes_reckonWaysFrom_65 rfl (lv_at hl 3 rfl) ?_
            refine lv_iload_n hx hb d_Routes_reckonWaysFrom_66 rfl (lv_at hl 1 rfl) ?_
            refine ct_callVV (C := R_Routes) (ci := 5) (As := [.int (nI s9), .int (nI x)]) (rest := []) ⟨hx, hb, hml, hown, ht⟩ (c_Routes_extendWays l D cI cZ cJ cG h aS aE gm qr gw ql qf qd rw wt L2 H2 (bm_up1 N2 x true) s9 x lx hs9 hx9 hlx9 (by omega) (hw0 x) hwb (fun y d hy hd => by have := (hDI.2.1 y d hy hd).1; omega) hDI.2.2.2.2.2) (cb_V ht kc_Routes_extendWays kl_Routes_67 kn_Routes ki_Routes_extendWays ks_Routes_extendWays hd_Routes_extendWays ⟨Nat.le_of_ble_eq_true rfl, Nat.le_of_ble_eq_true rfl⟩) (List.mem_of_getElem? (i := 0) rfl) rfl rfl (pm_all _) hK hP hD hS hA rfl hl.1 rfl (Nat.le_of_ble_eq_true rfl) ⟨(show 0 + 0 ≤ 0 by omega), (show 0 + 0 ≤ 0 by omega)⟩ d_Routes_reckonWaysFrom_67 (fun u5 H locs hu5 hP hD hS => ?_)
            obtain ⟨L3, H3, rfl, e3, f3⟩ := hu5
            refine W.widen (k := 0) (n := 0) (Nat.le_refl _) (Nat.le_refl _) ?_
            rw [List.append_nil] at hP hD
            have hP : va_P D kls (List.flatten [[(h, .inr (5, [.ref aS, .ref aE, .ref gm, .ref qr, .ref gw, .ref ql, .ref qf, .ref qd]))], [(gw, .inl (cG, 12, .inr (.inr (.inr (.inr (go rw))))))], [(ql, .inl (cI, 12, .inl (lI L3)))], [(qf, .inl (cI, 12, .inl (cN H3)))], [(qd, .inl (cZ, 12, .inl (dB (bm_up1 N2 x true))))], gd cI 12 rw (gN wt)]) H := hP
            have hD : va_D A (List.flatten [[(h, .inr (5, [.ref aS, .ref aE, .ref gm, .ref qr, .ref gw, .ref ql, .ref qf, .ref qd]))], [(gw, .inl (cG, 12, .inr (.inr (.inr (.inr (go rw))))))], [(ql, .inl (cI, 12, .inl (lI L3)))], [(qf, .inl (cI, 12, .inl (cN H3)))], [(qd, .inl (cZ, 12, .inl (dB (bm_up1 N2 x true))))], gd cI 12 rw (gN wt)]) := hD
            refine W.eq (g2 := F0 m 70 ls []) rfl ?_
            have hDI3 : bn_DI wt s9 (1023 * (tn + 1)) L3 H3 (bm_up1 N2 x true) := by
              rw [show 1023 * (tn + 1) = 1023 * tn + 1023 by omega]
              exact bn_DI_congr hs9 (bn_DI_s hs9 hw0 hwb hDI hx9 hnx hlx9 (fun v b hv h1 h2 => hmin v b hv h1 h2)) e3 f3 (fun _ _ => rfl)
            refine lv_aload_n hx hb d_Routes_reckonWaysFrom_70 rfl (lv_at hl 2 rfl) ?_
            refine ct_rdV (C := R_Routes) (ci := 5) (As := []) (rest := []) ⟨hx, hb, hml, hown, ht⟩ (c_Routes_nearestNotDone l D cI cZ cJ cG h aS aE gm qr gw ql qf qd rw wt L3 H3 (bm_up1 N2 x true) (fun y d hy hd => by have := (hDI3.2.1 y d hy hd).1; omega)) (cb_V ht kc_Routes_nearestNotDone kl_Routes_71 kn_Routes ki_Routes_nearestNotDone ks_Routes_nearestNotDone hd_Routes_nearestNotDone ⟨Nat.le_of_ble_eq_true rfl, Nat.le_of_ble_eq_true rfl⟩) (List.mem_of_getElem? (i := 0) rfl) rfl rfl (pm_all _) hK hP hD hS hA rfl hl.1 rfl (Nat.le_of_ble_eq_true rfl) ⟨(show 0 + 0 ≤ 0 by omega), (show 0 + 0 ≤ 0 by omega)⟩ d_Routes_reckonWaysFrom_71 (fun rhr6 H locs hr6 hP hD hS => ?_)
            have hnn := hr6
            obtain ⟨nr, rfl, hnr⟩ := hnn
            refine lv_istore_n hx hb d_Routes_reckonWaysFrom_74 rfl hl (by decide) rfl (fun ls hl => ?_)
            have hl : lv_has ls 4 [(2, .int (bm_oI nr)), (3, .int (nI tn)), (0, .ref h), (1, .int (nI s9))] := hl
            refine ri_iinc hx hb d_Routes_reckonWaysFrom_75 hl (k := 1) rfl (by decide) rfl (fun ls hl => ?_)
            have hl : lv_has ls 4 [(3, .int (nI (tn + 1))), (2, .int (bm_oI nr)), (0, .ref h), (1, .int (nI s9))] := hl
            refine lv_goto hx hb d_Routes_reckonWaysFrom_78 (tgt := 46) (by decide) ?_
            have hl := lv_sub hl [0, 1, 2, 3] rfl
            exact ih (tn + 1) L3 H3 (bm_up1 N2 x true) nr H locs ls (by omega) hDI3 (by rw [← hcnt]; exact bn_cnt_put hnx 12 hx9) hnr hP hD hS hl
  have loop : ∀ (k x : Nat) (L2 : Nat → Option Nat) (H2 : Nat → Nat) (N2 : Nat → Bool) (H : Heap) (locs : List Loc) (ls : Array Slot), x + k = 12 → (∀ a, a < x → L2 a = none ∧ H2 a = a ∧ N2 a = false) → va_P D kls (List.flatten [[(h, .inr (5, [.ref aS, .ref aE, .ref gm, .ref qr, .ref gw, .ref ql, .ref qf, .ref qd]))], [(gw, .inl (cG, 12, .inr (.inr (.inr (.inr (go rw))))))], [(ql, .inl (cI, 12, .inl (lI L2)))], [(qf, .inl (cI, 12, .inl (cN H2)))], [(qd, .inl (cZ, 12, .inl (dB N2)))], gd cI 12 rw (gN wt)]) H → va_D A (List.flatten [[(h, .inr (5, [.ref aS, .ref aE, .ref gm, .ref qr, .ref gw, .ref ql, .ref qf, .ref qd]))], [(gw, .inl (cG, 12, .inr (.inr (.inr (.inr (go rw))))))], [(ql, .inl (cI, 12, .inl (lI L2)))], [(qf, .inl (cI, 12, .inl (cN H2)))], [(qd, .inl (cZ, 12, .inl (dB N2)))], gd cI 12 rw (gN wt)]) → va_S A s.heap H locs → lv_has ls 4 [(2, .int (nI x)), (0, .ref h), (1, .int (nI s9))] → W p l e (rm_ 1 25 0 0) s m args below meth c H locs 0 0 Q (F0 m 2 ls []) := by
    intro k
    induction k with
    | zero =>
      intro x L2 H2 N2 H locs ls hk hs hP hD hS hl
      refine lv_iload_n hx hb d_Routes_reckonWaysFrom_2 rfl (lv_at hl 0 rfl) ?_
      refine lv_bipush (v := nI 12) hx hb d_Routes_reckonWaysFrom_3 (by decide) ?_
      refine ri_icmp_ge hx hb (by omega) (by omega) d_Routes_reckonWaysFrom_5 (tgt := 35) (by decide) (fun hc9 => ?_) (fun hc9 => ?_)
      · refine lv_aload_n hx hb d_Routes_reckonWaysFrom_35 rfl (lv_at hl 1 rfl) ?_
        refine va_get (D := D) (ci := 5) (v := .ref ql) (C := R_Routes) (T := T_Routes) (N := 8) hx hb ht in_Routes hown hK hP 0 rfl rfl 5 (by decide) (ht _ kl_Routes_23) (fun _ h9 => h9) rfl d_Routes_reckonWaysFrom_36 ?_
        refine lv_iload_n hx hb d_Routes_reckonWaysFrom_39 rfl (lv_at hl 2 rfl) ?_
        refine lv_iconst (v := nI 0) hx hb d_Routes_reckonWaysFrom_40 (by decide) ?_
        refine ri_iast hx hb hK hP hD hS 2 0 rfl rfl (j := s9) (by omega) (by omega) d_Routes_reckonWaysFrom_41 (fun H locs hP hD hS => ?_)
        rw [lI_up] at hP hD
        have hP : va_P D kls (List.flatten [[(h, .inr (5, [.ref aS, .ref aE, .ref gm, .ref qr, .ref gw, .ref ql, .ref qf, .ref qd]))], [(gw, .inl (cG, 12, .inr (.inr (.inr (.inr (go rw))))))], [(ql, .inl (cI, 12, .inl (lI (bm_up1 L2 s9 (some 0)))))], [(qf, .inl (cI, 12, .inl (cN H2)))], [(qd, .inl (cZ, 12, .inl (dB N2)))], gd cI 12 rw (gN wt)]) H := hP
        have hD : va_D A (List.flatten [[(h, .inr (5, [.ref aS, .ref aE, .ref gm, .ref qr, .ref gw, .ref ql, .ref qf, .ref qd]))], [(gw, .inl (cG, 12, .inr (.inr (.inr (.inr (go rw))))))], [(ql, .inl (cI, 12, .inl (lI (bm_up1 L2 s9 (some 0)))))], [(qf, .inl (cI, 12, .inl (cN H2)))], [(qd, .inl (cZ, 12, .inl (dB N2)))], gd cI 12 rw (gN wt)]) := hD
        refine lv_iload_n hx hb d_Routes_reckonWaysFrom_42 rfl (lv_at hl 2 rfl) ?_
        refine lv_istore_n hx hb d_Routes_reckonWaysFrom_43 rfl hl (by decide) rfl (fun ls hl => ?_)
        have hl : lv_has ls 4 [(2, .int (nI s9)), (0, .ref h), (1, .int (nI s9))] := hl
        refine lv_iconst (v := nI 0) hx hb d_Routes_reckonWaysFrom_44 (by decide) ?_
        refine lv_istore_n hx hb d_Routes_reckonWaysFrom_45 rfl hl (by decide) rfl (fun ls hl => ?_)
        have hl : lv_has ls 4 [(3, .int (nI 0)), (2, .int (nI s9)), (0, .ref h), (1, .int (nI s9))] := hl
        have hz : ∀ a, a < 12 → L2 a = none ∧ H2 a = a ∧ N2 a = false := fun a ha => hs a (by omega)
        have hDI0 : bn_DI wt s9 (1023 * 0) (bm_up1 L2 s9 (some 0)) H2 N2 := bn_DI_congr hs9 bn_DI_0 (fun y hy => by
          show (if y = s9 then some 0 else L2 y) = (if y = s9 then some 0 else none)
          rw [(hz y hy).1]) (fun y hy => (hz y hy).2.1) (fun y hy => (hz y hy).2.2)
        have hc0 : bn_cnt N2 12 = 0 := (bn_cnt_congr (q := fun _ => false) 12 (fun j hj => (hz j hj).2.2)).trans (by decide)
        have hl := lv_sub hl [0, 1, 2, 3] rfl
        refine turns 12 0 (bm_up1 L2 s9 (some 0)) H2 N2 (some s9) H locs ls (by omega) hDI0 hc0 ⟨hs9, (hz s9 hs9).2.2, 0, if_pos rfl, fun v b hv h1 h2 => Nat.zero_le _⟩ hP hD hS hl
      · exact absurd hc9 (by omega)
    | succ k ih =>
      intro x L2 H2 N2 H locs ls hk hs hP hD hS hl
      refine lv_iload_n hx hb d_Routes_reckonWaysFrom_2 rfl (lv_at hl 0 rfl) ?_
      refine lv_bipush (v := nI 12) hx hb d_Routes_reckonWaysFrom_3 (by decide) ?_
      refine ri_icmp_ge hx hb (by omega) (by omega) d_Routes_reckonWaysFrom_5 (tgt := 35) (by decide) (fun hc9 => ?_) (fun hc9 => ?_)
      · exact absurd hc9 (by omega)
      · refine lv_aload_n hx hb d_Routes_reckonWaysFrom_8 rfl (lv_at hl 1 rfl) ?_
        refine va_get (D := D) (ci := 5) (v := .ref ql) (C := R_Routes) (T := T_Routes) (N := 8) hx hb ht in_Routes hown hK hP 0 rfl rfl 5 (by decide) (ht _ kl_Routes_23) (fun _ h9 => h9) rfl d_Routes_reckonWaysFrom_9 ?_
        refine lv_iload_n hx hb d_Routes_reckonWaysFrom_12 rfl (lv_at hl 0 rfl) ?_
        refine lv_iconst (v := (-1)) hx hb d_Routes_reckonWaysFrom_13 (by decide) ?_
        refine ri_iast hx hb hK hP hD hS 2 0 rfl rfl (j := x) (by omega) (by omega) d_Routes_reckonWaysFrom_14 (fun H locs hP hD hS => ?_)
        rw [lI_upn] at hP hD
        have hP : va_P D kls (List.flatten [[(h, .inr (5, [.ref aS, .ref aE, .ref gm, .ref qr, .ref gw, .ref ql, .ref qf, .ref qd]))], [(gw, .inl (cG, 12, .inr (.inr (.inr (.inr (go rw))))))], [(ql, .inl (cI, 12, .inl (lI (bm_up1 L2 x none))))], [(qf, .inl (cI, 12, .inl (cN H2)))], [(qd, .inl (cZ, 12, .inl (dB N2)))], gd cI 12 rw (gN wt)]) H := hP
        have hD : va_D A (List.flatten [[(h, .inr (5, [.ref aS, .ref aE, .ref gm, .ref qr, .ref gw, .ref ql, .ref qf, .ref qd]))], [(gw, .inl (cG, 12, .inr (.inr (.inr (.inr (go rw))))))], [(ql, .inl (cI, 12, .inl (lI (bm_up1 L2 x none))))], [(qf, .inl (cI, 12, .inl (cN H2)))], [(qd, .inl (cZ, 12, .inl (dB N2)))], gd cI 12 rw (gN wt)]) := hD
        refine lv_aload_n hx hb d_Routes_reckonWaysFrom_15 rfl (lv_at hl 1 rfl) ?_
        refine va_get (D := D) (ci := 5) (v := .ref qf) (C := R_Routes) (T := T_Routes) (N := 8) hx hb ht in_Routes hown hK hP 0 rfl rfl 6 (by decide) (ht _ kl_Routes_26) (fun _ h9 => h9) rfl d_Routes_reckonWaysFrom_16 ?_
        refine lv_iload_n hx hb d_Routes_reckonWaysFrom_19 rfl (lv_at hl 0 rfl) ?_
        refine lv_iload_n hx hb d_Routes_reckonWaysFrom_20 rfl (lv_at hl 0 rfl) ?_
        refine ri_iast hx hb hK hP hD hS 3 0 rfl rfl (j := x) (by omega) (by omega) d_Routes_reckonWaysFrom_21 (fun H locs hP hD hS => ?_)
        rw [cN_up] at hP hD
        have hP : va_P D kls (List.flatten [[(h, .inr (5, [.ref aS, .ref aE, .ref gm, .ref qr, .ref gw, .ref ql, .ref qf, .ref qd]))], [(gw, .inl (cG, 12, .inr (.inr (.inr (.inr (go rw))))))], [(ql, .inl (cI, 12, .inl (lI (bm_up1 L2 x none))))], [(qf, .inl (cI, 12, .inl (cN (bm_up1 H2 x x))))], [(qd, .inl (cZ, 12, .inl (dB N2)))], gd cI 12 rw (gN wt)]) H := hP
        have hD : va_D A (List.flatten [[(h, .inr (5, [.ref aS, .ref aE, .ref gm, .ref qr, .ref gw, .ref ql, .ref qf, .ref qd]))], [(gw, .inl (cG, 12, .inr (.inr (.inr (.inr (go rw))))))], [(ql, .inl (cI, 12, .inl (lI (bm_up1 L2 x none))))], [(qf, .inl (cI, 12, .inl (cN (bm_up1 H2 x x))))], [(qd, .inl (cZ, 12, .inl (dB N2)))], gd cI 12 rw (gN wt)]) := hD
        refine lv_aload_n hx hb d_Routes_reckonWaysFrom_22 rfl (lv_at hl 1 rfl) ?_
        refine va_get (D := D) (ci := 5) (v := .ref qd) (C := R_Routes) (T := T_Routes) (N := 8) hx hb ht in_Routes hown hK hP 0 rfl rfl 7 (by decide) (ht _ kl_Routes_29) (fun _ h9 => h9) rfl d_Routes_reckonWaysFrom_23 ?_
        refine lv_iload_n hx hb d_Routes_reckonWaysFrom_26 rfl (lv_at hl 0 rfl) ?_
        refine lv_iconst (v := nI 0) hx hb d_Routes_reckonWaysFrom_27 (by decide) ?_
        refine ri_zast (x := false) hx hb hK hP hD hS 4 1 rfl rfl (j := x) (by omega) (by omega) d_Routes_reckonWaysFrom_28 (fun H locs hP hD hS => ?_)
        rw [dB_up] at hP hD
        have hP : va_P D kls (List.flatten [[(h, .inr (5, [.ref aS, .ref aE, .ref gm, .ref qr, .ref gw, .ref ql, .ref qf, .ref qd]))], [(gw, .inl (cG, 12, .inr (.inr (.inr (.inr (go rw))))))], [(ql, .inl (cI, 12, .inl (lI (bm_up1 L2 x none))))], [(qf, .inl (cI, 12, .inl (cN (bm_up1 H2 x x))))], [(qd, .inl (cZ, 12, .inl (dB (bm_up1 N2 x false))))], gd cI 12 rw (gN wt)]) H := hP
        have hD : va_D A (List.flatten [[(h, .inr (5, [.ref aS, .ref aE, .ref gm, .ref qr, .ref gw, .ref ql, .ref qf, .ref qd]))], [(gw, .inl (cG, 12, .inr (.inr (.inr (.inr (go rw))))))], [(ql, .inl (cI, 12, .inl (lI (bm_up1 L2 x none))))], [(qf, .inl (cI, 12, .inl (cN (bm_up1 H2 x x))))], [(qd, .inl (cZ, 12, .inl (dB (bm_up1 N2 x false))))], gd cI 12 rw (gN wt)]) := hD
        refine ri_iinc hx hb d_Routes_reckonWaysFrom_29 hl (k := 0) rfl (by decide) rfl (fun ls hl => ?_)
        have hl : lv_has ls 4 [(2, .int (nI (x + 1))), (0, .ref h), (1, .int (nI s9))] := hl
        refine lv_goto hx hb d_Routes_reckonWaysFrom_32 (tgt := 2) (by decide) ?_
        refine ih (x + 1) (bm_up1 L2 x none) (bm_up1 H2 x x) (bm_up1 N2 x false) H locs ls (by omega) (fun a ha => ?_) hP hD hS hl
        by_cases e : a = x
        · exact ⟨if_pos e, (if_pos e).trans e.symm, if_pos e⟩
        · have hz := hs a (by omega)
          exact ⟨(if_neg e).trans hz.1, (if_neg e).trans hz.2.1, (if_neg e).trans hz.2.2⟩
  refine lv_iconst (v := nI 0) hx hb d_Routes_reckonWaysFrom_0 (by decide) ?_
  refine lv_istore_n hx hb d_Routes_reckonWaysFrom_1 rfl hl (by decide) rfl (fun ls hl => ?_)
  have hl : lv_has ls 4 [(2, .int (nI 0)), (0, .ref h), (1, .int (nI s9))] := hl
  exact loop 12 0 L Hh Nn s.heap [] ls (by omega) (fun a ha => absurd ha (by omega)) hP hD hS hl
