/-! Routes: the ways from a router. -/
/-- lengths as ints: -1 for none -/
def lI (L : Nat → Option Nat) : Nat → Int32 := fun x => bm_oI (L x)
theorem lI_up {L : Nat → Option Nat} {r v : Nat} : upd (lI L) r (nI v) = lI (bm_up1 L r (some v)) := by
  funext a
  show (if a = r then nI v else bm_oI (L a)) = bm_oI (if a = r then some v else L a)
  by_cases e : a = r
  · rw [if_pos e, if_pos e]
    rfl
  · rw [if_neg e, if_neg e]
theorem lI_upn {L : Nat → Option Nat} {r : Nat} : upd (lI L) r (-1) = lI (bm_up1 L r none) := by
  funext a
  show (if a = r then (-1 : Int32) else bm_oI (L a)) = bm_oI (if a = r then none else L a)
  by_cases e : a = r
  · rw [if_pos e, if_pos e]
    rfl
  · rw [if_neg e, if_neg e]
def dB (N : Nat → Bool) : Nat → Int32 := fun x => bI (N x)
theorem dB_up {N : Nat → Bool} {r : Nat} {b : Bool} : upd (dB N) r (bI b) = dB (bm_up1 N r b) := by
  funext a
  show (if a = r then bI b else bI (N a)) = bI (if a = r then b else N a)
  by_cases e : a = r
  · rw [if_pos e, if_pos e]
  · rw [if_neg e, if_neg e]
theorem nI_m1 {n : Nat} (h : n < 2147483648) : ¬ nI n = -1 := by
  intro z
  have h2 := congrArg Int32.toInt z
  rw [nI_toInt (show n < 2 ^ 31 from h)] at h2
  have h3 : (-1 : Int32).toInt = -1 := by decide
  omega
theorem eL_0 {w : Nat → Nat → Nat} {x lx y : Nat} {L : Nat → Option Nat} (h : w x y = 0) : bn_eL w x lx L y = L y := if_pos h
theorem eH_0 {w : Nat → Nat → Nat} {s x lx y : Nat} {L : Nat → Option Nat} {H : Nat → Nat} (h : w x y = 0) : bn_eH w s x lx L H y = H y := if_pos h
theorem eL_none {w : Nat → Nat → Nat} {x lx y : Nat} {L : Nat → Option Nat} (h : w x y ≠ 0) (hL : L y = none) : bn_eL w x lx L y = some (lx + w x y) := by
  unfold bn_eL
  rw [if_neg h, hL]
theorem eH_none {w : Nat → Nat → Nat} {s x lx y : Nat} {L : Nat → Option Nat} {H : Nat → Nat} (h : w x y ≠ 0) (hL : L y = none) : bn_eH w s x lx L H y = bn_hop s x H y := by
  unfold bn_eH
  rw [if_neg h, hL]
theorem eL_lt {w : Nat → Nat → Nat} {x lx y b : Nat} {L : Nat → Option Nat} (h : w x y ≠ 0) (hL : L y = some b) (hb : lx + w x y < b) : bn_eL w x lx L y = some (lx + w x y) := by
  unfold bn_eL
  rw [if_neg h, hL]
  exact if_pos hb
theorem eH_lt {w : Nat → Nat → Nat} {s x lx y b : Nat} {L : Nat → Option Nat} {H : Nat → Nat} (h : w x y ≠ 0) (hL : L y = some b) (hb : lx + w x y < b) : bn_eH w s x lx L H y = bn_hop s x H y := by
  unfold bn_eH
  rw [if_neg h, hL]
  exact if_pos hb
theorem eL_ge {w : Nat → Nat → Nat} {x lx y b : Nat} {L : Nat → Option Nat} (h : w x y ≠ 0) (hL : L y = some b) (hb : b ≤ lx + w x y) : bn_eL w x lx L y = some b := by
  unfold bn_eL
  rw [if_neg h, hL]
  exact if_neg (by omega)
theorem eH_eq {w : Nat → Nat → Nat} {s x lx y b : Nat} {L : Nat → Option Nat} {H : Nat → Nat} (h : w x y ≠ 0) (hL : L y = some b) (hb : lx + w x y = b) (hh : bn_hop s x H y < H y) : bn_eH w s x lx L H y = bn_hop s x H y := by
  unfold bn_eH
  rw [if_neg h, hL]
  exact (if_neg (by omega)).trans (if_pos ⟨hb, hh⟩)
theorem eH_no {w : Nat → Nat → Nat} {s x lx y b : Nat} {L : Nat → Option Nat} {H : Nat → Nat} (h : w x y ≠ 0) (hL : L y = some b) (hb : b ≤ lx + w x y) (hh : ¬ (lx + w x y = b ∧ bn_hop s x H y < H y)) : bn_eH w s x lx L H y = H y := by
  unfold bn_eH
  rw [if_neg h, hL]
  exact (if_neg (by omega)).trans (if_neg hh)
abbrev rc_w (cI cZ cG : ClassId) (h aS aE gm qr gw ql qf qd : Nat) (rw : Nat → Nat) (wt : Nat → Nat → Nat) (L : Nat → Option Nat) (Hh : Nat → Nat) (Nn : Nat → Bool) : va_W := List.flatten [[(h, .inr (5, [.ref aS, .ref aE, .ref gm, .ref qr, .ref gw, .ref ql, .ref qf, .ref qd]))], [(gw, .inl (cG, 12, .inr (.inr (.inr (.inr (go rw))))))], [(ql, .inl (cI, 12, .inl (lI L)))], [(qf, .inl (cI, 12, .inl (cN Hh)))], [(qd, .inl (cZ, 12, .inl (dB Nn)))], gd cI 12 rw (gN wt)]
set_option maxHeartbeats 4000000 in
set_option maxRecDepth 100000 in
theorem c_Routes_extendWays (l : Launch) (D : va_G) (cI cZ cJ cG : ClassId) (h aS aE gm qr gw ql qf qd : Nat) (rw : Nat → Nat) (wt : Nat → Nat → Nat) (L : Nat → Option Nat) (Hh : Nat → Nat) (Nn : Nat → Bool) (s9 x lx : Nat) (hs9 : s9 < 12) (hx9 : x < 12) (hL9 : L x = some lx) (hlx : lx ≤ 1000000) (hwx : wt x x = 0) (hwb : ∀ a b, wt a b ≤ 1023) (hLb : ∀ y d, y < 12 → L y = some d → d ≤ 1000000) (hHb : ∀ y, y < 12 → Hh y < 12) : ct_V l D kls (ty4 cI cZ cJ cG) y_Routes_extendWays ws_Routes_extendWays (rm_ 0 0 0 0) [.ref h, .int (nI s9), .int (nI x)] (rc_w cI cZ cG h aS aE gm qr gw ql qf qd rw wt L Hh Nn) (fun u => ∃ L2 H2, u = rc_w cI cZ cG h aS aE gm qr gw ql qf qd rw wt L2 H2 Nn ∧ (∀ y, y < 12 → L2 y = bn_eL wt x lx L y) ∧ (∀ y, y < 12 → H2 y = bn_eH wt s9 x lx L Hh y)) 0 0 := by
  refine ct_enterV (cc := b_Routes_extendWays) (maxL := 6) (ret := none) (by decide +kernel) (Nat.le_of_ble_eq_true rfl) ?_
  intro p e s m args below meth c hx hb hml hr ht hown hlk hnm A Q hA hK hP hD hQ ls hl
  have hown : s.vm.findClass R_Routes = some m.cls := hown
  have hS : va_S A s.heap s.heap [] := va_S.rf
  have hl : lv_has ls 6 [(0, .ref h), (1, .int (nI s9)), (2, .int (nI x))] := hl
  have hwxb := hwb
  have loop : ∀ (k y : Nat) (L2 : Nat → Option Nat) (H2 : Nat → Nat) (H : Heap) (locs : List Loc) (ls : Array Slot), y + k = 12 → (∀ a, a < y → a < 12 → L2 a = bn_eL wt x lx L a ∧ H2 a = bn_eH wt s9 x lx L Hh a) → (∀ a, y ≤ a → L2 a = L a ∧ H2 a = Hh a) → (L2 x = some lx ∧ H2 x = Hh x) → va_P D kls (List.flatten [[(h, .inr (5, [.ref aS, .ref aE, .ref gm, .ref qr, .ref gw, .ref ql, .ref qf, .ref qd]))], [(gw, .inl (cG, 12, .inr (.inr (.inr (.inr (go rw))))))], [(ql, .inl (cI, 12, .inl (lI L2)))], [(qf, .inl (cI, 12, .inl (cN H2)))], [(qd, .inl (cZ, 12, .inl (dB Nn)))], gd cI 12 rw (gN wt)]) H → va_D A (List.flatten [[(h, .inr (5, [.ref aS, .ref aE, .ref gm, .ref qr, .ref gw, .ref ql, .ref qf, .ref qd]))], [(gw, .inl (cG, 12, .inr (.inr (.inr (.inr (go rw))))))], [(ql, .inl (cI, 12, .inl (lI L2)))], [(qf, .inl (cI, 12, .inl (cN H2)))], [(qd, .inl (cZ, 12, .inl (dB Nn)))], gd cI 12 rw (gN wt)]) → va_S A s.heap H locs → lv_has ls 6 [(3, .int (nI y)), (0, .ref h), (1, .int (nI s9)), (2, .int (nI x))] → W p l e (rm_ 0 0 0 0) s m args below meth c H locs 0 0 Q (F0 m 2 ls []) := by
    intro k
    induction k with
    | zero =>
      intro y L2 H2 H locs ls hk f1 f2 f3 hP hD hS hl
      refine lv_iload_n hx hb d_Routes_extendWays_2 rfl (lv_at hl 0 rfl) ?_
      refine lv_bipush (v := nI 12) hx hb d_Routes_extendWays_3 (by decide) ?_
      refine ri_icmp_ge hx hb (by omega) (by omega) d_Routes_extendWays_5 (tgt := 129) (by decide) (fun hc9 => ?_) (fun hc9 => ?_)
      · exact ct_vret hQ hx hb hr hlk hP hD hS hK (by omega) (by omega) d_Routes_extendWays_129 (⟨L2, H2, rfl, fun a ha => (f1 a (by omega) ha).1, fun a ha => (f1 a (by omega) ha).2⟩)
      · exact absurd hc9 (by omega)
    | succ k ih =>
      intro y L2 H2 H locs ls hk f1 f2 f3 hP hD hS hl
      refine lv_iload_n hx hb d_Routes_extendWays_2 rfl (lv_at hl 0 rfl) ?_
      refine lv_bipush (v := nI 12) hx hb d_Routes_extendWays_3 (by decide) ?_
      refine ri_icmp_ge hx hb (by omega) (by omega) d_Routes_extendWays_5 (tgt := 129) (by decide) (fun hc9 => ?_) (fun hc9 => ?_)
      · exact absurd hc9 (by omega)
      · refine lv_aload_n hx hb d_Routes_extendWays_8 rfl (lv_at hl 1 rfl) ?_
        refine va_get (D := D) (ci := 5) (v := .ref gw) (C := R_Routes) (T := T_Routes) (N := 8) hx hb ht in_Routes hown hK hP 0 rfl rfl 4 (by decide) (ht _ kl_Routes_20) (fun _ h9 => h9) rfl d_Routes_extendWays_9 ?_
        refine lv_iload_n hx hb d_Routes_extendWays_12 rfl (lv_at hl 3 rfl) ?_
        refine ri_aald hx hb hK hP 1 3 rfl rfl (j := x) (by omega) (by omega) (go_at (by omega)) d_Routes_extendWays_13 ?_
        refine lv_iload_n hx hb d_Routes_extendWays_14 rfl (lv_at hl 0 rfl) ?_
        refine ri_gld hx hb hK hP 5 0 rfl rfl (i := x) (j := y) (by omega) (by omega) (by decide) d_Routes_extendWays_15 ?_
        refine W.eq (g2 := F0 m 16 ls [.int (nI (wt x y))]) rfl ?_
        refine ri_if_eq hx hb (by have := hwb x y; omega) d_Routes_extendWays_16 (tgt := 123) (by decide) (fun h0 => ?_) (fun h0 => ?_)
        · refine ri_iinc hx hb d_Routes_extendWays_123 hl (k := 0) rfl (by decide) rfl (fun ls hl => ?_)
          have hl : lv_has ls 6 [(3, .int (nI (y + 1))), (0, .ref h), (1, .int (nI s9)), (2, .int (nI x))] := hl
          refine lv_goto hx hb d_Routes_extendWays_126 (tgt := 2) (by decide) ?_
          have hl := lv_sub hl [0, 1, 2, 3] rfl
          refine ih (y + 1) L2 H2 H locs ls (by omega) (fun a ha ha2 => ?_) (fun a ha => ?_) ?_ hP hD hS hl
          · by_cases e : a = y
            · subst e
              have hy0 := f2 a (Nat.le_refl a)
              exact ⟨hy0.1.trans (eL_0 h0).symm, hy0.2.trans (eH_0 h0).symm⟩
            · exact f1 a (by omega) ha2
          · exact f2 a (by omega)
          · exact f3
        · refine lv_aload_n hx hb d_Routes_extendWays_19 rfl (lv_at hl 1 rfl) ?_
          refine va_get (D := D) (ci := 5) (v := .ref ql) (C := R_Routes) (T := T_Routes) (N := 8) hx hb ht in_Routes hown hK hP 0 rfl rfl 5 (by decide) (ht _ kl_Routes_23) (fun _ h9 => h9) rfl d_Routes_extendWays_20 ?_
          refine lv_iload_n hx hb d_Routes_extendWays_23 rfl (lv_at hl 3 rfl) ?_
          refine ri_iald hx hb hK hP 2 0 rfl rfl (j := x) (by omega) (by omega) d_Routes_extendWays_24 ?_
          refine W.eq (g2 := F0 m 25 ls [.int (bm_oI (L2 x))]) rfl ?_
          refine W.eq (g2 := F0 m 25 ls [.int (nI lx)]) (congrArg (fun z => F0 m 25 ls (.int z :: [])) (show bm_oI (L2 x) = nI lx by rw [f3.1]; rfl)) ?_
          refine lv_aload_n hx hb d_Routes_extendWays_25 rfl (lv_at hl 1 rfl) ?_
          refine va_get (D := D) (ci := 5) (v := .ref gw) (C := R_Routes) (T := T_Routes) (N := 8) hx hb ht in_Routes hown hK hP 0 rfl rfl 4 (by decide) (ht _ kl_Routes_20) (fun _ h9 => h9) rfl d_Routes_extendWays_26 ?_
          refine lv_iload_n hx hb d_Routes_extendWays_29 rfl (lv_at hl 3 rfl) ?_
          refine ri_aald hx hb hK hP 1 3 rfl rfl (j := x) (by omega) (by omega) (go_at (by omega)) d_Routes_extendWays_30 ?_
          refine lv_iload_n hx hb d_Routes_extendWays_31 rfl (lv_at hl 0 rfl) ?_
          refine ri_gld hx hb hK hP 5 0 rfl rfl (i := x) (j := y) (by omega) (by omega) (by decide) d_Routes_extendWays_32 ?_
          refine W.eq (g2 := F0 m 33 ls [.int (nI (wt x y)), .int (nI lx)]) rfl ?_
          refine ri_iadd hx hb d_Routes_extendWays_33 ?_
          refine lv_istore hx hb d_Routes_extendWays_34 hl (by decide) rfl (fun ls hl => ?_)
          have hl : lv_has ls 6 [(4, .int (nI (lx + (wt x y)))), (3, .int (nI y)), (0, .ref h), (1, .int (nI s9)), (2, .int (nI x))] := hl
          refine lv_iload_n hx hb d_Routes_extendWays_36 rfl (lv_at hl 4 rfl) ?_
          refine lv_iload_n hx hb d_Routes_extendWays_37 rfl (lv_at hl 3 rfl) ?_
          refine ri_icmp_ne hx hb (by omega) (by omega) d_Routes_extendWays_38 (tgt := 45) (by decide) (fun hxs => ?_) (fun hxs => ?_)
          · refine lv_aload_n hx hb d_Routes_extendWays_45 rfl (lv_at hl 2 rfl) ?_
            refine va_get (D := D) (ci := 5) (v := .ref qf) (C := R_Routes) (T := T_Routes) (N := 8) hx hb ht in_Routes hown hK hP 0 rfl rfl 6 (by decide) (ht _ kl_Routes_26) (fun _ h9 => h9) rfl d_Routes_extendWays_46 ?_
            refine lv_iload_n hx hb d_Routes_extendWays_49 rfl (lv_at hl 4 rfl) ?_
            refine ri_iald hx hb hK hP 3 0 rfl rfl (j := x) (by omega) (by omega) d_Routes_extendWays_50 ?_
            refine W.eq (g2 := F0 m 51 ls [.int (nI (H2 x))]) rfl ?_
            refine lv_istore hx hb d_Routes_extendWays_51 hl (by decide) rfl (fun ls hl => ?_)
            have hl : lv_has ls 6 [(5, .int (nI (H2 x))), (4, .int (nI (lx + (wt x y)))), (3, .int (nI y)), (0, .ref h), (1, .int (nI s9)), (2, .int (nI x))] := hl
            have hhop : H2 x = bn_hop s9 x Hh y := by
              unfold bn_hop
              first | rw [if_pos hxs] | rw [if_neg hxs, f3.2]
            have hy2 := f2 y (Nat.le_refl y)
            have hwy := hwb x y
            have hhb : bn_hop s9 x Hh y < 12 := by
              unfold bn_hop
              split <;> first | omega | exact hHb x hx9
            have hHy := hHb y (by omega)
            rcases hLy : L y with _ | b
            · refine lv_aload_n hx hb d_Routes_extendWays_53 rfl (lv_at hl 3 rfl) ?_
              refine va_get (D := D) (ci := 5) (v := .ref ql) (C := R_Routes) (T := T_Routes) (N := 8) hx hb ht in_Routes hown hK hP 0 rfl rfl 5 (by decide) (ht _ kl_Routes_23) (fun _ h9 => h9) rfl d_Routes_extendWays_54 ?_
              refine lv_iload_n hx hb d_Routes_extendWays_57 rfl (lv_at hl 2 rfl) ?_
              refine ri_iald hx hb hK hP 2 0 rfl rfl (j := y) (by omega) (by omega) d_Routes_extendWays_58 ?_
              refine W.eq (g2 := F0 m 59 ls [.int (bm_oI (L2 y))]) rfl ?_
              refine W.eq (g2 := F0 m 59 ls [.int ((-1))]) (congrArg (fun z => F0 m 59 ls (.int z :: [])) (show bm_oI (L2 y) = -1 by rw [hy2.1, hLy]; rfl)) ?_
              refine lv_iconst (v := (-1)) hx hb d_Routes_extendWays_59 (by decide) ?_
              refine lv_icmp_eq hx hb d_Routes_extendWays_60 (tgt := 74) (by decide) (fun h6 => ?_) (fun h6 => ?_)
              · refine lv_aload_n hx hb d_Routes_extendWays_74 rfl (lv_at hl 3 rfl) ?_
                refine va_get (D := D) (ci := 5) (v := .ref ql) (C := R_Routes) (T := T_Routes) (N := 8) hx hb ht in_Routes hown hK hP 0 rfl rfl 5 (by decide) (ht _ kl_Routes_23) (fun _ h9 => h9) rfl d_Routes_extendWays_75 ?_
                refine lv_iload_n hx hb d_Routes_extendWays_78 rfl (lv_at hl 2 rfl) ?_
                refine lv_iload hx hb d_Routes_extendWays_79 (lv_at hl 1 rfl) ?_
                refine ri_iast hx hb hK hP hD hS 2 0 rfl rfl (j := y) (by omega) (by omega) d_Routes_extendWays_81 (fun H locs hP hD hS => ?_)
                rw [lI_up] at hP hD
                have hP : va_P D kls (List.flatten [[(h, .inr (5, [.ref aS, .ref aE, .ref gm, .ref qr, .ref gw, .ref ql, .ref qf, .ref qd]))], [(gw, .inl (cG, 12, .inr (.inr (.inr (.inr (go rw))))))], [(ql, .inl (cI, 12, .inl (lI (bm_up1 L2 y (some (lx + (wt x y)))))))], [(qf, .inl (cI, 12, .inl (cN H2)))], [(qd, .inl (cZ, 12, .inl (dB Nn)))], gd cI 12 rw (gN wt)]) H := hP
                have hD : va_D A (List.flatten [[(h, .inr (5, [.ref aS, .ref aE, .ref gm, .ref qr, .ref gw, .ref ql, .ref qf, .ref qd]))], [(gw, .inl (cG, 12, .inr (.inr (.inr (.inr (go rw))))))], [(ql, .inl (cI, 12, .inl (lI (bm_up1 L2 y (some (lx + (wt x y)))))))], [(qf, .inl (cI, 12, .inl (cN H2)))], [(qd, .inl (cZ, 12, .inl (dB Nn)))], gd cI 12 rw (gN wt)]) := hD
                refine lv_aload_n hx hb d_Routes_extendWays_82 rfl (lv_at hl 3 rfl) ?_
                refine va_get (D := D) (ci := 5) (v := .ref qf) (C := R_Routes) (T := T_Routes) (N := 8) hx hb ht in_Routes hown hK hP 0 rfl rfl 6 (by decide) (ht _ kl_Routes_26) (fun _ h9 => h9) rfl d_Routes_extendWays_83 ?_
                refine lv_iload_n hx hb d_Routes_extendWays_86 rfl (lv_at hl 2 rfl) ?_
                refine lv_iload hx hb d_Routes_extendWays_87 (lv_at hl 0 rfl) ?_
                refine ri_iast hx hb hK hP hD hS 3 0 rfl rfl (j := y) (by omega) (by omega) d_Routes_extendWays_89 (fun H locs hP hD hS => ?_)
                rw [cN_up] at hP hD
                have hP : va_P D kls (List.flatten [[(h, .inr (5, [.ref aS, .ref aE, .ref gm, .ref qr, .ref gw, .ref ql, .ref qf, .ref qd]))], [(gw, .inl (cG, 12, .inr (.inr (.inr (.inr (go rw))))))], [(ql, .inl (cI, 12, .inl (lI (bm_up1 L2 y (some (lx + (wt x y)))))))], [(qf, .inl (cI, 12, .inl (cN (bm_up1 H2 y (H2 x)))))], [(qd, .inl (cZ, 12, .inl (dB Nn)))], gd cI 12 rw (gN wt)]) H := hP
                have hD : va_D A (List.flatten [[(h, .inr (5, [.ref aS, .ref aE, .ref gm, .ref qr, .ref gw, .ref ql, .ref qf, .ref qd]))], [(gw, .inl (cG, 12, .inr (.inr (.inr (.inr (go rw))))))], [(ql, .inl (cI, 12, .inl (lI (bm_up1 L2 y (some (lx + (wt x y)))))))], [(qf, .inl (cI, 12, .inl (cN (bm_up1 H2 y (H2 x)))))], [(qd, .inl (cZ, 12, .inl (dB Nn)))], gd cI 12 rw (gN wt)]) := hD
                refine lv_goto hx hb d_Routes_extendWays_90 (tgt := 123) (by decide) ?_
                refine ri_iinc hx hb d_Routes_extendWays_123 hl (k := 2) rfl (by decide) rfl (fun ls hl => ?_)
                have hl : lv_has ls 6 [(3, .int (nI (y + 1))), (5, .int (nI (H2 x))), (4, .int (nI (lx + (wt x y)))), (0, .ref h), (1, .int (nI s9)), (2, .int (nI x))] := hl
                refine lv_goto hx hb d_Routes_extendWays_126 (tgt := 2) (by decide) ?_
                have hl := lv_sub hl [0, 3, 4, 5] rfl
                refine ih (y + 1) (bm_up1 L2 y (some (lx + (wt x y)))) (bm_up1 H2 y (H2 x)) H locs ls (by omega) (fun a ha ha2 => ?_) (fun a ha => ?_) ?_ hP hD hS hl
                · by_cases e : a = y
                  · subst e
                    exact ⟨(if_pos rfl).trans (eL_none h0 hLy).symm, (if_pos rfl).trans (hhop.trans (eH_none h0 hLy).symm)⟩
                  · have hz := f1 a (by omega) ha2
                    exact ⟨(if_neg e).trans hz.1, (if_neg e).trans hz.2⟩
                · have hz := f2 a (by omega)
                  have e : ¬ a = y := by omega
                  exact ⟨(if_neg e).trans hz.1, (if_neg e).trans hz.2⟩
                · have e : ¬ x = y := fun z => h0 (by rw [← z]; exact hwx)
                  exact ⟨(if_neg e).trans f3.1, (if_neg e).trans f3.2⟩
              · exact absurd h6 (fun z => z rfl)
            · have hbb := hLb y b (by omega) hLy
              refine lv_aload_n hx hb d_Routes_extendWays_53 rfl (lv_at hl 3 rfl) ?_
              refine va_get (D := D) (ci := 5) (v := .ref ql) (C := R_Routes) (T := T_Routes) (N := 8) hx hb ht in_Routes hown hK hP 0 rfl rfl 5 (by decide) (ht _ kl_Routes_23) (fun _ h9 => h9) rfl d_Routes_extendWays_54 ?_
              refine lv_iload_n hx hb d_Routes_extendWays_57 rfl (lv_at hl 2 rfl) ?_
              refine ri_iald hx hb hK hP 2 0 rfl rfl (j := y) (by omega) (by omega) d_Routes_extendWays_58 ?_
              refine W.eq (g2 := F0 m 59 ls [.int (bm_oI (L2 y))]) rfl ?_
              refine W.eq (g2 := F0 m 59 ls [.int (nI b)]) (congrArg (fun z => F0 m 59 ls (.int z :: [])) (show bm_oI (L2 y) = nI b by rw [hy2.1, hLy]; rfl)) ?_
              refine lv_iconst (v := (-1)) hx hb d_Routes_extendWays_59 (by decide) ?_
              refine lv_icmp_eq hx hb d_Routes_extendWays_60 (tgt := 74) (by decide) (fun h6 => ?_) (fun h6 => ?_)
              · exact absurd h6 (nI_m1 (by omega))
              · refine lv_iload hx hb d_Routes_extendWays_63 (lv_at hl 1 rfl) ?_
                refine lv_aload_n hx hb d_Routes_extendWays_65 rfl (lv_at hl 3 rfl) ?_
                refine va_get (D := D) (ci := 5) (v := .ref ql) (C := R_Routes) (T := T_Routes) (N := 8) hx hb ht in_Routes hown hK hP 0 rfl rfl 5 (by decide) (ht _ kl_Routes_23) (fun _ h9 => h9) rfl d_Routes_extendWays_66 ?_
                refine lv_iload_n hx hb d_Routes_extendWays_69 rfl (lv_at hl 2 rfl) ?_
                refine ri_iald hx hb hK hP 2 0 rfl rfl (j := y) (by omega) (by omega) d_Routes_extendWays_70 ?_
                refine W.eq (g2 := F0 m 71 ls [.int (bm_oI (L2 y)), .int (nI (lx + (wt x y)))]) rfl ?_
                refine W.eq (g2 := F0 m 71 ls [.int (nI b), .int (nI (lx + (wt x y)))]) (congrArg (fun z => F0 m 71 ls (.int z :: [.int (nI (lx + (wt x y)))])) (show bm_oI (L2 y) = nI b by rw [hy2.1, hLy]; rfl)) ?_
                refine ri_icmp_ge hx hb (by omega) (by omega) d_Routes_extendWays_71 (tgt := 93) (by decide) (fun h7 => ?_) (fun h7 => ?_)
                · refine lv_iload hx hb d_Routes_extendWays_93 (lv_at hl 1 rfl) ?_
                  refine lv_aload_n hx hb d_Routes_extendWays_95 rfl (lv_at hl 3 rfl) ?_
                  refine va_get (D := D) (ci := 5) (v := .ref ql) (C := R_Routes) (T := T_Routes) (N := 8) hx hb ht in_Routes hown hK hP 0 rfl rfl 5 (by decide) (ht _ kl_Routes_23) (fun _ h9 => h9) rfl d_Routes_extendWays_96 ?_
                  refine lv_iload_n hx hb d_Routes_extendWays_99 rfl (lv_at hl 2 rfl) ?_
                  refine ri_iald hx hb hK hP 2 0 rfl rfl (j := y) (by omega) (by omega) d_Routes_extendWays_100 ?_
                  refine W.eq (g2 := F0 m 101 ls [.int (bm_oI (L2 y)), .int (nI (lx + (wt x y)))]) rfl ?_
                  refine W.eq (g2 := F0 m 101 ls [.int (nI b), .int (nI (lx + (wt x y)))]) (congrArg (fun z => F0 m 101 ls (.int z :: [.int (nI (lx + (wt x y)))])) (show bm_oI (L2 y) = nI b by rw [hy2.1, hLy]; rfl)) ?_
                  refine ri_icmp_ne hx hb (by omega) (by omega) d_Routes_extendWays_101 (tgt := 123) (by decide) (fun h8 => ?_) (fun h8 => ?_)
                  · refine ri_iinc hx hb d_Routes_extendWays_123 hl (k := 2) rfl (by decide) rfl (fun ls hl => ?_)
                    have hl : lv_has ls 6 [(3, .int (nI (y + 1))), (5, .int (nI (H2 x))), (4, .int (nI (lx + (wt x y)))), (0, .ref h), (1, .int (nI s9)), (2, .int (nI x))] := hl
                    refine lv_goto hx hb d_Routes_extendWays_126 (tgt := 2) (by decide) ?_
                    have hl := lv_sub hl [0, 3, 4, 5] rfl
                    refine ih (y + 1) L2 H2 H locs ls (by omega) (fun a ha ha2 => ?_) (fun a ha => ?_) ?_ hP hD hS hl
                    · by_cases e : a = y
                      · subst e
                        exact ⟨hy2.1.trans (hLy.trans (eL_ge h0 hLy h7).symm), hy2.2.trans (eH_no h0 hLy h7 (fun z => by first | exact h8 z.1 | (rw [← hhop] at z; omega))).symm⟩
                      · have hz := f1 a (by omega) ha2
                        exact ⟨hz.1, hz.2⟩
                    · have hz := f2 a (by omega)
                      have e : ¬ a = y := by omega
                      exact ⟨hz.1, hz.2⟩
                    · have e : ¬ x = y := fun z => h0 (by rw [← z]; exact hwx)
                      exact ⟨f3.1, f3.2⟩
                  · refine lv_iload hx hb d_Routes_extendWays_104 (lv_at hl 0 rfl) ?_
                    refine lv_aload_n hx hb d_Routes_extendWays_106 rfl (lv_at hl 3 rfl) ?_
                    refine va_get (D := D) (ci := 5) (v := .ref qf) (C := R_Routes) (T := T_Routes) (N := 8) hx hb ht in_Routes hown hK hP 0 rfl rfl 6 (by decide) (ht _ kl_Routes_26) (fun _ h9 => h9) rfl d_Routes_extendWays_107 ?_
                    refine lv_iload_n hx hb d_Routes_extendWays_110 rfl (lv_at hl 2 rfl) ?_
                    refine ri_iald hx hb hK hP 3 0 rfl rfl (j := y) (by omega) (by omega) d_Routes_extendWays_111 ?_
                    refine W.eq (g2 := F0 m 112 ls [.int (nI (H2 y)), .int (nI (H2 x))]) rfl ?_
                    refine W.eq (g2 := F0 m 112 ls [.int (nI (Hh y)), .int (nI (H2 x))]) (congrArg (fun z => F0 m 112 ls (.int z :: [.int (nI (H2 x))])) (congrArg nI hy2.2)) ?_
                    refine ri_icmp_ge hx hb (by rw [hhop]; omega) (by omega) d_Routes_extendWays_112 (tgt := 123) (by decide) (fun h9 => ?_) (fun h9 => ?_)
                    · refine ri_iinc hx hb d_Routes_extendWays_123 hl (k := 2) rfl (by decide) rfl (fun ls hl => ?_)
                      have hl : lv_has ls 6 [(3, .int (nI (y + 1))), (5, .int (nI (H2 x))), (4, .int (nI (lx + (wt x y)))), (0, .ref h), (1, .int (nI s9)), (2, .int (nI x))] := hl
                      refine lv_goto hx hb d_Routes_extendWays_126 (tgt := 2) (by decide) ?_
                      have hl := lv_sub hl [0, 3, 4, 5] rfl
                      refine ih (y + 1) L2 H2 H locs ls (by omega) (fun a ha ha2 => ?_) (fun a ha => ?_) ?_ hP hD hS hl
                      · by_cases e : a = y
                        · subst e
                          exact ⟨hy2.1.trans (hLy.trans (eL_ge h0 hLy h7).symm), hy2.2.trans (eH_no h0 hLy h7 (fun z => by first | exact h8 z.1 | (rw [← hhop] at z; omega))).symm⟩
                        · have hz := f1 a (by omega) ha2
                          exact ⟨hz.1, hz.2⟩
                      · have hz := f2 a (by omega)
                        have e : ¬ a = y := by omega
                        exact ⟨hz.1, hz.2⟩
                      · have e : ¬ x = y := fun z => h0 (by rw [← z]; exact hwx)
                        exact ⟨f3.1, f3.2⟩
                    · refine lv_aload_n hx hb d_Routes_extendWays_115 rfl (lv_at hl 3 rfl) ?_
                      refine va_get (D := D) (ci := 5) (v := .ref qf) (C := R_Routes) (T := T_Routes) (N := 8) hx hb ht in_Routes hown hK hP 0 rfl rfl 6 (by decide) (ht _ kl_Routes_26) (fun _ h9 => h9) rfl d_Routes_extendWays_116 ?_
                      refine lv_iload_n hx hb d_Routes_extendWays_119 rfl (lv_at hl 2 rfl) ?_
                      refine lv_iload hx hb d_Routes_extendWays_120 (lv_at hl 0 rfl) ?_
                      refine ri_iast hx hb hK hP hD hS 3 0 rfl rfl (j := y) (by omega) (by omega) d_Routes_extendWays_122 (fun H locs hP hD hS => ?_)
                      rw [cN_up] at hP hD
                      have hP : va_P D kls (List.flatten [[(h, .inr (5, [.ref aS, .ref aE, .ref gm, .ref qr, .ref gw, .ref ql, .ref qf, .ref qd]))], [(gw, .inl (cG, 12, .inr (.inr (.inr (.inr (go rw))))))], [(ql, .inl (cI, 12, .inl (lI L2)))], [(qf, .inl (cI, 12, .inl (cN (bm_up1 H2 y (H2 x)))))], [(qd, .inl (cZ, 12, .inl (dB Nn)))], gd cI 12 rw (gN wt)]) H := hP
                      have hD : va_D A (List.flatten [[(h, .inr (5, [.ref aS, .ref aE, .ref gm, .ref qr, .ref gw, .ref ql, .ref qf, .ref qd]))], [(gw, .inl (cG, 12, .inr (.inr (.inr (.inr (go rw))))))], [(ql, .inl (cI, 12, .inl (lI L2)))], [(qf, .inl (cI, 12, .inl (cN (bm_up1 H2 y (H2 x)))))], [(qd, .inl (cZ, 12, .inl (dB Nn)))], gd cI 12 rw (gN wt)]) := hD
                      refine ri_iinc hx hb d_Routes_extendWays_123 hl (k := 2) rfl (by decide) rfl (fun ls hl => ?_)
                      have hl : lv_has ls 6 [(3, .int (nI (y + 1))), (5, .int (nI (H2 x))), (4, .int (nI (lx + (wt x y)))), (0, .ref h), (1, .int (nI s9)), (2, .int (nI x))] := hl
                      refine lv_goto hx hb d_Routes_extendWays_126 (tgt := 2) (by decide) ?_
                      have hl := lv_sub hl [0, 3, 4, 5] rfl
                      refine ih (y + 1) L2 (bm_up1 H2 y (H2 x)) H locs ls (by omega) (fun a ha ha2 => ?_) (fun a ha => ?_) ?_ hP hD hS hl
                      · by_cases e : a = y
                        · subst e
                          exact ⟨hy2.1.trans (hLy.trans (eL_ge h0 hLy h7).symm), (if_pos rfl).trans (hhop.trans (eH_eq h0 hLy h8 (by rw [← hhop]; exact h9)).symm)⟩
                        · have hz := f1 a (by omega) ha2
                          exact ⟨hz.1, (if_neg e).trans hz.2⟩
                      · have hz := f2 a (by omega)
                        have e : ¬ a = y := by omega
                        exact ⟨hz.1, (if_neg e).trans hz.2⟩
                      · have e : ¬ x = y := fun z => h0 (by rw [← z]; exact hwx)
                        exact ⟨f3.1, (if_neg e).trans f3.2⟩
                · refine lv_aload_n hx hb d_Routes_extendWays_74 rfl (lv_at hl 3 rfl) ?_
                  refine va_get (D := D) (ci := 5) (v := .ref ql) (C := R_Routes) (T := T_Routes) (N := 8) hx hb ht in_Routes hown hK hP 0 rfl rfl 5 (by decide) (ht _ kl_Routes_23) (fun _ h9 => h9) rfl d_Routes_extendWays_75 ?_
                  refine lv_iload_n hx hb d_Routes_extendWays_78 rfl (lv_at hl 2 rfl) ?_
                  refine lv_iload hx hb d_Routes_extendWays_79 (lv_at hl 1 rfl) ?_
                  refine ri_iast hx hb hK hP hD hS 2 0 rfl rfl (j := y) (by omega) (by omega) d_Routes_extendWays_81 (fun H locs hP hD hS => ?_)
                  rw [lI_up] at hP hD
                  have hP : va_P D kls (List.flatten [[(h, .inr (5, [.ref aS, .ref aE, .ref gm, .ref qr, .ref gw, .ref ql, .ref qf, .ref qd]))], [(gw, .inl (cG, 12, .inr (.inr (.inr (.inr (go rw))))))], [(ql, .inl (cI, 12, .inl (lI (bm_up1 L2 y (some (lx + (wt x y)))))))], [(qf, .inl (cI, 12, .inl (cN H2)))], [(qd, .inl (cZ, 12, .inl (dB Nn)))], gd cI 12 rw (gN wt)]) H := hP
                  have hD : va_D A (List.flatten [[(h, .inr (5, [.ref aS, .ref aE, .ref gm, .ref qr, .ref gw, .ref ql, .ref qf, .ref qd]))], [(gw, .inl (cG, 12, .inr (.inr (.inr (.inr (go rw))))))], [(ql, .inl (cI, 12, .inl (lI (bm_up1 L2 y (some (lx + (wt x y)))))))], [(qf, .inl (cI, 12, .inl (cN H2)))], [(qd, .inl (cZ, 12, .inl (dB Nn)))], gd cI 12 rw (gN wt)]) := hD
                  refine lv_aload_n hx hb d_Routes_extendWays_82 rfl (lv_at hl 3 rfl) ?_
                  refine va_get (D := D) (ci := 5) (v := .ref qf) (C := R_Routes) (T := T_Routes) (N := 8) hx hb ht in_Routes hown hK hP 0 rfl rfl 6 (by decide) (ht _ kl_Routes_26) (fun _ h9 => h9) rfl d_Routes_extendWays_83 ?_
                  refine lv_iload_n hx hb d_Routes_extendWays_86 rfl (lv_at hl 2 rfl) ?_
                  refine lv_iload hx hb d_Routes_extendWays_87 (lv_at hl 0 rfl) ?_
                  refine ri_iast hx hb hK hP hD hS 3 0 rfl rfl (j := y) (by omega) (by omega) d_Routes_extendWays_89 (fun H locs hP hD hS => ?_)
                  rw [cN_up] at hP hD
                  have hP : va_P D kls (List.flatten [[(h, .inr (5, [.ref aS, .ref aE, .ref gm, .ref qr, .ref gw, .ref ql, .ref qf, .ref qd]))], [(gw, .inl (cG, 12, .inr (.inr (.inr (.inr (go rw))))))], [(ql, .inl (cI, 12, .inl (lI (bm_up1 L2 y (some (lx + (wt x y)))))))], [(qf, .inl (cI, 12, .inl (cN (bm_up1 H2 y (H2 x)))))], [(qd, .inl (cZ, 12, .inl (dB Nn)))], gd cI 12 rw (gN wt)]) H := hP
                  have hD : va_D A (List.flatten [[(h, .inr (5, [.ref aS, .ref aE, .ref gm, .ref qr, .ref gw, .ref ql, .ref qf, .ref qd]))], [(gw, .inl (cG, 12, .inr (.inr (.inr (.inr (go rw))))))], [(ql, .inl (cI, 12, .inl (lI (bm_up1 L2 y (some (lx + (wt x y)))))))], [(qf, .inl (cI, 12, .inl (cN (bm_up1 H2 y (H2 x)))))], [(qd, .inl (cZ, 12, .inl (dB Nn)))], gd cI 12 rw (gN wt)]) := hD
                  refine lv_goto hx hb d_Routes_extendWays_90 (tgt := 123) (by decide) ?_
                  refine ri_iinc hx hb d_Routes_extendWays_123 hl (k := 2) rfl (by decide) rfl (fun ls hl => ?_)
                  have hl : lv_has ls 6 [(3, .int (nI (y + 1))), (5, .int (nI (H2 x))), (4, .int (nI (lx + (wt x y)))), (0, .ref h), (1, .int (nI s9)), (2, .int (nI x))] := hl
                  refine lv_goto hx hb d_Routes_extendWays_126 (tgt := 2) (by decide) ?_
                  have hl := lv_sub hl [0, 3, 4, 5] rfl
                  refine ih (y + 1) (bm_up1 L2 y (some (lx + (wt x y)))) (bm_up1 H2 y (H2 x)) H locs ls (by omega) (fun a ha ha2 => ?_) (fun a ha => ?_) ?_ hP hD hS hl
                  · by_cases e : a = y
                    · subst e
                      exact ⟨(if_pos rfl).trans (eL_lt h0 hLy h7).symm, (if_pos rfl).trans (hhop.trans (eH_lt h0 hLy h7).symm)⟩
                    · have hz := f1 a (by omega) ha2
                      exact ⟨(if_neg e).trans hz.1, (if_neg e).trans hz.2⟩
                  · have hz := f2 a (by omega)
                    have e : ¬ a = y := by omega
                    exact ⟨(if_neg e).trans hz.1, (if_neg e).trans hz.2⟩
                  · have e : ¬ x = y := fun z => h0 (by rw [← z]; exact hwx)
                    exact ⟨(if_neg e).trans f3.1, (if_neg e).trans f3.2⟩
          · refine lv_iload_n hx hb d_Routes_extendWays_41 rfl (lv_at hl 1 rfl) ?_
            refine lv_goto hx hb d_Routes_extendWays_42 (tgt := 51) (by decide) ?_
            refine lv_istore hx hb d_Routes_extendWays_51 hl (by decide) rfl (fun ls hl => ?_)
            have hl : lv_has ls 6 [(5, .int (nI y)), (4, .int (nI (lx + (wt x y)))), (3, .int (nI y)), (0, .ref h), (1, .int (nI s9)), (2, .int (nI x))] := hl
            have hhop : y = bn_hop s9 x Hh y := by
              unfold bn_hop
              first | rw [if_pos hxs] | rw [if_neg hxs, f3.2]
            have hy2 := f2 y (Nat.le_refl y)
            have hwy := hwb x y
            have hhb : bn_hop s9 x Hh y < 12 := by
              unfold bn_hop
              split <;> first | omega | exact hHb x hx9
            have hHy := hHb y (by omega)
            rcases hLy : L y with _ | b
            · refine lv_aload_n hx hb d_Routes_extendWays_53 rfl (lv_at hl 3 rfl) ?_
              refine va_get (D := D) (ci := 5) (v := .ref ql) (C := R_Routes) (T := T_Routes) (N := 8) hx hb ht in_Routes hown hK hP 0 rfl rfl 5 (by decide) (ht _ kl_Routes_23) (fun _ h9 => h9) rfl d_Routes_extendWays_54 ?_
              refine lv_iload_n hx hb d_Routes_extendWays_57 rfl (lv_at hl 2 rfl) ?_
              refine ri_iald hx hb hK hP 2 0 rfl rfl (j := y) (by omega) (by omega) d_Routes_extendWays_58 ?_
              refine W.eq (g2 := F0 m 59 ls [.int (bm_oI (L2 y))]) rfl ?_
              refine W.eq (g2 := F0 m 59 ls [.int ((-1))]) (congrArg (fun z => F0 m 59 ls (.int z :: [])) (show bm_oI (L2 y) = -1 by rw [hy2.1, hLy]; rfl)) ?_
              refine lv_iconst (v := (-1)) hx hb d_Routes_extendWays_59 (by decide) ?_
              refine lv_icmp_eq hx hb d_Routes_extendWays_60 (tgt := 74) (by decide) (fun h6 => ?_) (fun h6 => ?_)
              · refine lv_aload_n hx hb d_Routes_extendWays_74 rfl (lv_at hl 3 rfl) ?_
                refine va_get (D := D) (ci := 5) (v := .ref ql) (C := R_Routes) (T := T_Routes) (N := 8) hx hb ht in_Routes hown hK hP 0 rfl rfl 5 (by decide) (ht _ kl_Routes_23) (fun _ h9 => h9) rfl d_Routes_extendWays_75 ?_
                refine lv_iload_n hx hb d_Routes_extendWays_78 rfl (lv_at hl 2 rfl) ?_
                refine lv_iload hx hb d_Routes_extendWays_79 (lv_at hl 1 rfl) ?_
                refine ri_iast hx hb hK hP hD hS 2 0 rfl rfl (j := y) (by omega) (by omega) d_Routes_extendWays_81 (fun H locs hP hD hS => ?_)
                rw [lI_up] at hP hD
                have hP : va_P D kls (List.flatten [[(h, .inr (5, [.ref aS, .ref aE, .ref gm, .ref qr, .ref gw, .ref ql, .ref qf, .ref qd]))], [(gw, .inl (cG, 12, .inr (.inr (.inr (.inr (go rw))))))], [(ql, .inl (cI, 12, .inl (lI (bm_up1 L2 y (some (lx + (wt x y)))))))], [(qf, .inl (cI, 12, .inl (cN H2)))], [(qd, .inl (cZ, 12, .inl (dB Nn)))], gd cI 12 rw (gN wt)]) H := hP
                have hD : va_D A (List.flatten [[(h, .inr (5, [.ref aS, .ref aE, .ref gm, .ref qr, .ref gw, .ref ql, .ref qf, .ref qd]))], [(gw, .inl (cG, 12, .inr (.inr (.inr (.inr (go rw))))))], [(ql, .inl (cI, 12, .inl (lI (bm_up1 L2 y (some (lx + (wt x y)))))))], [(qf, .inl (cI, 12, .inl (cN H2)))], [(qd, .inl (cZ, 12, .inl (dB Nn)))], gd cI 12 rw (gN wt)]) := hD
                refine lv_aload_n hx hb d_Routes_extendWays_82 rfl (lv_at hl 3 rfl) ?_
                refine va_get (D := D) (ci := 5) (v := .ref qf) (C := R_Routes) (T := T_Routes) (N := 8) hx hb ht in_Routes hown hK hP 0 rfl rfl 6 (by decide) (ht _ kl_Routes_26) (fun _ h9 => h9) rfl d_Routes_extendWays_83 ?_
                refine lv_iload_n hx hb d_Routes_extendWays_86 rfl (lv_at hl 2 rfl) ?_
                refine lv_iload hx hb d_Routes_extendWays_87 (lv_at hl 0 rfl) ?_
                refine ri_iast hx hb hK hP hD hS 3 0 rfl rfl (j := y) (by omega) (by omega) d_Routes_extendWays_89 (fun H locs hP hD hS => ?_)
                rw [cN_up] at hP hD
                have hP : va_P D kls (List.flatten [[(h, .inr (5, [.ref aS, .ref aE, .ref gm, .ref qr, .ref gw, .ref ql, .ref qf, .ref qd]))], [(gw, .inl (cG, 12, .inr (.inr (.inr (.inr (go rw))))))], [(ql, .inl (cI, 12, .inl (lI (bm_up1 L2 y (some (lx + (wt x y)))))))], [(qf, .inl (cI, 12, .inl (cN (bm_up1 H2 y y))))], [(qd, .inl (cZ, 12, .inl (dB Nn)))], gd cI 12 rw (gN wt)]) H := hP
                have hD : va_D A (List.flatten [[(h, .inr (5, [.ref aS, .ref aE, .ref gm, .ref qr, .ref gw, .ref ql, .ref qf, .ref qd]))], [(gw, .inl (cG, 12, .inr (.inr (.inr (.inr (go rw))))))], [(ql, .inl (cI, 12, .inl (lI (bm_up1 L2 y (some (lx + (wt x y)))))))], [(qf, .inl (cI, 12, .inl (cN (bm_up1 H2 y y))))], [(qd, .inl (cZ, 12, .inl (dB Nn)))], gd cI 12 rw (gN wt)]) := hD
                refine lv_goto hx hb d_Routes_extendWays_90 (tgt := 123) (by decide) ?_
                refine ri_iinc hx hb d_Routes_extendWays_123 hl (k := 2) rfl (by decide) rfl (fun ls hl => ?_)
                have hl : lv_has ls 6 [(3, .int (nI (y + 1))), (5, .int (nI y)), (4, .int (nI (lx + (wt x y)))), (0, .ref h), (1, .int (nI s9)), (2, .int (nI x))] := hl
                refine lv_goto hx hb d_Routes_extendWays_126 (tgt := 2) (by decide) ?_
                have hl := lv_sub hl [0, 3, 4, 5] rfl
                refine ih (y + 1) (bm_up1 L2 y (some (lx + (wt x y)))) (bm_up1 H2 y y) H locs ls (by omega) (fun a ha ha2 => ?_) (fun a ha => ?_) ?_ hP hD hS hl
                · by_cases e : a = y
                  · subst e
                    exact ⟨(if_pos rfl).trans (eL_none h0 hLy).symm, (if_pos rfl).trans (hhop.trans (eH_none h0 hLy).symm)⟩
                  · have hz := f1 a (by omega) ha2
                    exact ⟨(if_neg e).trans hz.1, (if_neg e).trans hz.2⟩
                · have hz := f2 a (by omega)
                  have e : ¬ a = y := by omega
                  exact ⟨(if_neg e).trans hz.1, (if_neg e).trans hz.2⟩
                · have e : ¬ x = y := fun z => h0 (by rw [← z]; exact hwx)
                  exact ⟨(if_neg e).trans f3.1, (if_neg e).trans f3.2⟩
              · exact absurd h6 (fun z => z rfl)
            · have hbb := hLb y b (by omega) hLy
              refine lv_aload_n hx hb d_Routes_extendWays_53 rfl (lv_at hl 3 rfl) ?_
              refine va_get (D := D) (ci := 5) (v := .ref ql) (C := R_Routes) (T := T_Routes) (N := 8) hx hb ht in_Routes hown hK hP 0 rfl rfl 5 (by decide) (ht _ kl_Routes_23) (fun _ h9 => h9) rfl d_Routes_extendWays_54 ?_
              refine lv_iload_n hx hb d_Routes_extendWays_57 rfl (lv_at hl 2 rfl) ?_
              refine ri_iald hx hb hK hP 2 0 rfl rfl (j := y) (by omega) (by omega) d_Routes_extendWays_58 ?_
              refine W.eq (g2 := F0 m 59 ls [.int (bm_oI (L2 y))]) rfl ?_
              refine W.eq (g2 := F0 m 59 ls [.int (nI b)]) (congrArg (fun z => F0 m 59 ls (.int z :: [])) (show bm_oI (L2 y) = nI b by rw [hy2.1, hLy]; rfl)) ?_
              refine lv_iconst (v := (-1)) hx hb d_Routes_extendWays_59 (by decide) ?_
              refine lv_icmp_eq hx hb d_Routes_extendWays_60 (tgt := 74) (by decide) (fun h6 => ?_) (fun h6 => ?_)
              · exact absurd h6 (nI_m1 (by omega))
              · refine lv_iload hx hb d_Routes_extendWays_63 (lv_at hl 1 rfl) ?_
                refine lv_aload_n hx hb d_Routes_extendWays_65 rfl (lv_at hl 3 rfl) ?_
                refine va_get (D := D) (ci := 5) (v := .ref ql) (C := R_Routes) (T := T_Routes) (N := 8) hx hb ht in_Routes hown hK hP 0 rfl rfl 5 (by decide) (ht _ kl_Routes_23) (fun _ h9 => h9) rfl d_Routes_extendWays_66 ?_
                refine lv_iload_n hx hb d_Routes_extendWays_69 rfl (lv_at hl 2 rfl) ?_
                refine ri_iald hx hb hK hP 2 0 rfl rfl (j := y) (by omega) (by omega) d_Routes_extendWays_70 ?_
                refine W.eq (g2 := F0 m 71 ls [.int (bm_oI (L2 y)), .int (nI (lx + (wt x y)))]) rfl ?_
                refine W.eq (g2 := F0 m 71 ls [.int (nI b), .int (nI (lx + (wt x y)))]) (congrArg (fun z => F0 m 71 ls (.int z :: [.int (nI (lx + (wt x y)))])) (show bm_oI (L2 y) = nI b by rw [hy2.1, hLy]; rfl)) ?_
                refine ri_icmp_ge hx hb (by omega) (by omega) d_Routes_extendWays_71 (tgt := 93) (by decide) (fun h7 => ?_) (fun h7 => ?_)
                · refine lv_iload hx hb d_Routes_extendWays_93 (lv_at hl 1 rfl) ?_
                  refine lv_aload_n hx hb d_Routes_extendWays_95 rfl (lv_at hl 3 rfl) ?_
                  refine va_get (D := D) (ci := 5) (v := .ref ql) (C := R_Routes) (T := T_Routes) (N := 8) hx hb ht in_Routes hown hK hP 0 rfl rfl 5 (by decide) (ht _ kl_Routes_23) (fun _ h9 => h9) rfl d_Routes_extendWays_96 ?_
                  refine lv_iload_n hx hb d_Routes_extendWays_99 rfl (lv_at hl 2 rfl) ?_
                  refine ri_iald hx hb hK hP 2 0 rfl rfl (j := y) (by omega) (by omega) d_Routes_extendWays_100 ?_
                  refine W.eq (g2 := F0 m 101 ls [.int (bm_oI (L2 y)), .int (nI (lx + (wt x y)))]) rfl ?_
                  refine W.eq (g2 := F0 m 101 ls [.int (nI b), .int (nI (lx + (wt x y)))]) (congrArg (fun z => F0 m 101 ls (.int z :: [.int (nI (lx + (wt x y)))])) (show bm_oI (L2 y) = nI b by rw [hy2.1, hLy]; rfl)) ?_
                  refine ri_icmp_ne hx hb (by omega) (by omega) d_Routes_extendWays_101 (tgt := 123) (by decide) (fun h8 => ?_) (fun h8 => ?_)
                  · refine ri_iinc hx hb d_Routes_extendWays_123 hl (k := 2) rfl (by decide) rfl (fun ls hl => ?_)
                    have hl : lv_has ls 6 [(3, .int (nI (y + 1))), (5, .int (nI y)), (4, .int (nI (lx + (wt x y)))), (0, .ref h), (1, .int (nI s9)), (2, .int (nI x))] := hl
                    refine lv_goto hx hb d_Routes_extendWays_126 (tgt := 2) (by decide) ?_
                    have hl := lv_sub hl [0, 3, 4, 5] rfl
                    refine ih (y + 1) L2 H2 H locs ls (by omega) (fun a ha ha2 => ?_) (fun a ha => ?_) ?_ hP hD hS hl
                    · by_cases e : a = y
                      · subst e
                        exact ⟨hy2.1.trans (hLy.trans (eL_ge h0 hLy h7).symm), hy2.2.trans (eH_no h0 hLy h7 (fun z => by first | exact h8 z.1 | (rw [← hhop] at z; omega))).symm⟩
                      · have hz := f1 a (by omega) ha2
                        exact ⟨hz.1, hz.2⟩
                    · have hz := f2 a (by omega)
                      have e : ¬ a = y := by omega
                      exact ⟨hz.1, hz.2⟩
                    · have e : ¬ x = y := fun z => h0 (by rw [← z]; exact hwx)
                      exact ⟨f3.1, f3.2⟩
                  · refine lv_iload hx hb d_Routes_extendWays_104 (lv_at hl 0 rfl) ?_
                    refine lv_aload_n hx hb d_Routes_extendWays_106 rfl (lv_at hl 3 rfl) ?_
                    refine va_get (D := D) (ci := 5) (v := .ref qf) (C := R_Routes) (T := T_Routes) (N := 8) hx hb ht in_Routes hown hK hP 0 rfl rfl 6 (by decide) (ht _ kl_Routes_26) (fun _ h9 => h9) rfl d_Routes_extendWays_107 ?_
                    refine lv_iload_n hx hb d_Routes_extendWays_110 rfl (lv_at hl 2 rfl) ?_
                    refine ri_iald hx hb hK hP 3 0 rfl rfl (j := y) (by omega) (by omega) d_Routes_extendWays_111 ?_
                    refine W.eq (g2 := F0 m 112 ls [.int (nI (H2 y)), .int (nI y)]) rfl ?_
                    refine W.eq (g2 := F0 m 112 ls [.int (nI (Hh y)), .int (nI y)]) (congrArg (fun z => F0 m 112 ls (.int z :: [.int (nI y)])) (congrArg nI hy2.2)) ?_
                    refine ri_icmp_ge hx hb (by rw [hhop]; omega) (by omega) d_Routes_extendWays_112 (tgt := 123) (by decide) (fun h9 => ?_) (fun h9 => ?_)
                    · refine ri_iinc hx hb d_Routes_extendWays_123 hl (k := 2) rfl (by decide) rfl (fun ls hl => ?_)
                      have hl : lv_has ls 6 [(3, .int (nI (y + 1))), (5, .int (nI y)), (4, .int (nI (lx + (wt x y)))), (0, .ref h), (1, .int (nI s9)), (2, .int (nI x))] := hl
                      refine lv_goto hx hb d_Routes_extendWays_126 (tgt := 2) (by decide) ?_
                      have hl := lv_sub hl [0, 3, 4, 5] rfl
                      refine ih (y + 1) L2 H2 H locs ls (by omega) (fun a ha ha2 => ?_) (fun a ha => ?_) ?_ hP hD hS hl
                      · by_cases e : a = y
                        · subst e
                          exact ⟨hy2.1.trans (hLy.trans (eL_ge h0 hLy h7).symm), hy2.2.trans (eH_no h0 hLy h7 (fun z => by first | exact h8 z.1 | (rw [← hhop] at z; omega))).symm⟩
                        · have hz := f1 a (by omega) ha2
                          exact ⟨hz.1, hz.2⟩
                      · have hz := f2 a (by omega)
                        have e : ¬ a = y := by omega
                        exact ⟨hz.1, hz.2⟩
                      · have e : ¬ x = y := fun z => h0 (by rw [← z]; exact hwx)
                        exact ⟨f3.1, f3.2⟩
                    · refine lv_aload_n hx hb d_Routes_extendWays_115 rfl (lv_at hl 3 rfl) ?_
                      refine va_get (D := D) (ci := 5) (v := .ref qf) (C := R_Routes) (T := T_Routes) (N := 8) hx hb ht in_Routes hown hK hP 0 rfl rfl 6 (by decide) (ht _ kl_Routes_26) (fun _ h9 => h9) rfl d_Routes_extendWays_116 ?_
                      refine lv_iload_n hx hb d_Routes_extendWays_119 rfl (lv_at hl 2 rfl) ?_
                      refine lv_iload hx hb d_Routes_extendWays_120 (lv_at hl 0 rfl) ?_
                      refine ri_iast hx hb hK hP hD hS 3 0 rfl rfl (j := y) (by omega) (by omega) d_Routes_extendWays_122 (fun H locs hP hD hS => ?_)
                      rw [cN_up] at hP hD
                      have hP : va_P D kls (List.flatten [[(h, .inr (5, [.ref aS, .ref aE, .ref gm, .ref qr, .ref gw, .ref ql, .ref qf, .ref qd]))], [(gw, .inl (cG, 12, .inr (.inr (.inr (.inr (go rw))))))], [(ql, .inl (cI, 12, .inl (lI L2)))], [(qf, .inl (cI, 12, .inl (cN (bm_up1 H2 y y))))], [(qd, .inl (cZ, 12, .inl (dB Nn)))], gd cI 12 rw (gN wt)]) H := hP
                      have hD : va_D A (List.flatten [[(h, .inr (5, [.ref aS, .ref aE, .ref gm, .ref qr, .ref gw, .ref ql, .ref qf, .ref qd]))], [(gw, .inl (cG, 12, .inr (.inr (.inr (.inr (go rw))))))], [(ql, .inl (cI, 12, .inl (lI L2)))], [(qf, .inl (cI, 12, .inl (cN (bm_up1 H2 y y))))], [(qd, .inl (cZ, 12, .inl (dB Nn)))], gd cI 12 rw (gN wt)]) := hD
                      refine ri_iinc hx hb d_Routes_extendWays_123 hl (k := 2) rfl (by decide) rfl (fun ls hl => ?_)
                      have hl : lv_has ls 6 [(3, .int (nI (y + 1))), (5, .int (nI y)), (4, .int (nI (lx + (wt x y)))), (0, .ref h), (1, .int (nI s9)), (2, .int (nI x))] := hl
                      refine lv_goto hx hb d_Routes_extendWays_126 (tgt := 2) (by decide) ?_
                      have hl := lv_sub hl [0, 3, 4, 5] rfl
                      refine ih (y + 1) L2 (bm_up1 H2 y y) H locs ls (by omega) (fun a ha ha2 => ?_) (fun a ha => ?_) ?_ hP hD hS hl
                      · by_cases e : a = y
                        · subst e
                          exact ⟨hy2.1.trans (hLy.trans (eL_ge h0 hLy h7).symm), (if_pos rfl).trans (hhop.trans (eH_eq h0 hLy h8 (by rw [← hhop]; exact h9)).symm)⟩
                        · have hz := f1 a (by omega) ha2
                          exact ⟨hz.1, (if_neg e).trans hz.2⟩
                      · have hz := f2 a (by omega)
                        have e : ¬ a = y := by omega
                        exact ⟨hz.1, (if_neg e).trans hz.2⟩
                      · have e : ¬ x = y := fun z => h0 (by rw [← z]; exact hwx)
                        exact ⟨f3.1, (if_neg e).trans f3.2⟩
                · refine lv_aload_n hx hb d_Routes_extendWays_74 rfl (lv_at hl 3 rfl) ?_
                  refine va_get (D := D) (ci := 5) (v := .ref ql) (C := R_Routes) (T := T_Routes) (N := 8) hx hb ht in_Routes hown hK hP 0 rfl rfl 5 (by decide) (ht _ kl_Routes_23) (fun _ h9 => h9) rfl d_Routes_extendWays_75 ?_
                  refine lv_iload_n hx hb d_Routes_extendWays_78 rfl (lv_at hl 2 rfl) ?_
                  refine lv_iload hx hb d_Routes_extendWays_79 (lv_at hl 1 rfl) ?_
                  refine ri_iast hx hb hK hP hD hS 2 0 rfl rfl (j := y) (by omega) (by omega) d_Routes_extendWays_81 (fun H locs hP hD hS => ?_)
                  rw [lI_up] at hP hD
                  have hP : va_P D kls (List.flatten [[(h, .inr (5, [.ref aS, .ref aE, .ref gm, .ref qr, .ref gw, .ref ql, .ref qf, .ref qd]))], [(gw, .inl (cG, 12, .inr (.inr (.inr (.inr (go rw))))))], [(ql, .inl (cI, 12, .inl (lI (bm_up1 L2 y (some (lx + (wt x y)))))))], [(qf, .inl (cI, 12, .inl (cN H2)))], [(qd, .inl (cZ, 12, .inl (dB Nn)))], gd cI 12 rw (gN wt)]) H := hP
                  have hD : va_D A (List.flatten [[(h, .inr (5, [.ref aS, .ref aE, .ref gm, .ref qr, .ref gw, .ref ql, .ref qf, .ref qd]))], [(gw, .inl (cG, 12, .inr (.inr (.inr (.inr (go rw))))))], [(ql, .inl (cI, 12, .inl (lI (bm_up1 L2 y (some (lx + (wt x y)))))))], [(qf, .inl (cI, 12, .inl (cN H2)))], [(qd, .inl (cZ, 12, .inl (dB Nn)))], gd cI 12 rw (gN wt)]) := hD
                  refine lv_aload_n hx hb d_Routes_extendWays_82 rfl (lv_at hl 3 rfl) ?_
                  refine va_get (D := D) (ci := 5) (v := .ref qf) (C := R_Routes) (T := T_Routes) (N := 8) hx hb ht in_Routes hown hK hP 0 rfl rfl 6 (by decide) (ht _ kl_Routes_26) (fun _ h9 => h9) rfl d_Routes_extendWays_83 ?_
                  refine lv_iload_n hx hb d_Routes_extendWays_86 rfl (lv_at hl 2 rfl) ?_
                  refine lv_iload hx hb d_Routes_extendWays_87 (lv_at hl 0 rfl) ?_
                  refine ri_iast hx hb hK hP hD hS 3 0 rfl rfl (j := y) (by omega) (by omega) d_Routes_extendWays_89 (fun H locs hP hD hS => ?_)
                  rw [cN_up] at hP hD
                  have hP : va_P D kls (List.flatten [[(h, .inr (5, [.ref aS, .ref aE, .ref gm, .ref qr, .ref gw, .ref ql, .ref qf, .ref qd]))], [(gw, .inl (cG, 12, .inr (.inr (.inr (.inr (go rw))))))], [(ql, .inl (cI, 12, .inl (lI (bm_up1 L2 y (some (lx + (wt x y)))))))], [(qf, .inl (cI, 12, .inl (cN (bm_up1 H2 y y))))], [(qd, .inl (cZ, 12, .inl (dB Nn)))], gd cI 12 rw (gN wt)]) H := hP
                  have hD : va_D A (List.flatten [[(h, .inr (5, [.ref aS, .ref aE, .ref gm, .ref qr, .ref gw, .ref ql, .ref qf, .ref qd]))], [(gw, .inl (cG, 12, .inr (.inr (.inr (.inr (go rw))))))], [(ql, .inl (cI, 12, .inl (lI (bm_up1 L2 y (some (lx + (wt x y)))))))], [(qf, .inl (cI, 12, .inl (cN (bm_up1 H2 y y))))], [(qd, .inl (cZ, 12, .inl (dB Nn)))], gd cI 12 rw (gN wt)]) := hD
                  refine lv_goto hx hb d_Routes_extendWays_90 (tgt := 123) (by decide) ?_
                  refine ri_iinc hx hb d_Routes_extendWays_123 hl (k := 2) rfl (by decide) rfl (fun ls hl => ?_)
                  have hl : lv_has ls 6 [(3, .int (nI (y + 1))), (5, .int (nI y)), (4, .int (nI (lx + (wt x y)))), (0, .ref h), (1, .int (nI s9)), (2, .int (nI x))] := hl
                  refine lv_goto hx hb d_Routes_extendWays_126 (tgt := 2) (by decide) ?_
                  have hl := lv_sub hl [0, 3, 4, 5] rfl
                  refine ih (y + 1) (bm_up1 L2 y (some (lx + (wt x y)))) (bm_up1 H2 y y) H locs ls (by omega) (fun a ha ha2 => ?_) (fun a ha => ?_) ?_ hP hD hS hl
                  · by_cases e : a = y
                    · subst e
                      exact ⟨(if_pos rfl).trans (eL_lt h0 hLy h7).symm, (if_pos rfl).trans (hhop.trans (eH_lt h0 hLy h7).symm)⟩
                    · have hz := f1 a (by omega) ha2
                      exact ⟨(if_neg e).trans hz.1, (if_neg e).trans hz.2⟩
                  · have hz := f2 a (by omega)
                    have e : ¬ a = y := by omega
                    exact ⟨(if_neg e).trans hz.1, (if_neg e).trans hz.2⟩
                  · have e : ¬ x = y := fun z => h0 (by rw [← z]; exact hwx)
                    exact ⟨(if_neg e).trans f3.1, (if_neg e).trans f3.2⟩
  refine lv_iconst (v := nI 0) hx hb d_Routes_extendWays_0 (by decide) ?_
  refine lv_istore_n hx hb d_Routes_extendWays_1 rfl hl (by decide) rfl (fun ls hl => ?_)
  have hl : lv_has ls 6 [(3, .int (nI 0)), (0, .ref h), (1, .int (nI s9)), (2, .int (nI x))] := hl
  exact loop 12 0 L Hh s.heap [] ls (by omega) (fun a ha => absurd ha (by omega)) (fun a _ => ⟨rfl, rfl⟩) ⟨hL9, rfl⟩ hP hD hS hl
