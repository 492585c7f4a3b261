/-! Links: contracts of its methods. -/
def bm_both {α : Type} (f : Nat → Nat → α) (a b : Nat) (v : α) : Nat → Nat → α := bm_up2 (bm_up2 f a b v) b a v
/-- the cells of a Links: ls how the links are, kn the weights that the routers know -/
abbrev lk_w (cI cG : ClassId) (h g1 g2 : Nat) (r1 r2 : Nat → Nat) (ls kn : Nat → Nat → Nat) : va_W := List.flatten [[(h, .inr (2, [.ref g1, .ref g2]))], [(g1, .inl (cG, 12, .inr (.inr (.inr (.inr (go r1))))))], [(g2, .inl (cG, 12, .inr (.inr (.inr (.inr (go r2))))))], gd cI 12 r1 (gN ls), gd cI 12 r2 (gN kn)]
set_option maxHeartbeats 4000000 in
set_option maxRecDepth 100000 in
theorem c_Links_exists (l : Launch) (D : va_G) (cI cZ cJ cG : ClassId) (h g1 g2 : Nat) (r1 r2 : Nat → Nat) (lk kn : Nat → Nat → Nat) (a b : Nat) (hl1 : ∀ a b, lk a b < 2147483648) (hl2 : ∀ a b, kn a b < 2147483648) (ha : a < 12) (hb9 : b < 12) : ct_I l D kls (ty4 cI cZ cJ cG) y_Links_exists ws_Links_exists (rm_ 0 0 0 0) [.ref h, .int (nI a), .int (nI b)] (lk_w cI cG h g1 g2 r1 r2 lk kn) (fun z u => z = bI (decide (lk a b ≠ 0)) ∧ u = lk_w cI cG h g1 g2 r1 r2 lk kn) 0 0 := by
  refine ct_enterI (cc := b_Links_exists) (maxL := 3) (ret := (some .boolean)) (by decide +kernel) (Nat.le_of_ble_eq_true rfl) ?_
  intro p e s m args below meth c hx hb hml hr ht hown hlk hnm A Q hA hK hP hD hQ ls hl
  have hown : s.vm.findClass R_Links = some m.cls := hown
  have hS : va_S A s.heap s.heap [] := va_S.rf
  have hl : lv_has ls 3 [(0, .ref h), (1, .int (nI a)), (2, .int (nI b))] := hl
  refine lv_aload_n hx hb d_Links_exists_0 rfl (lv_at hl 0 rfl) ?_
  refine va_get (D := D) (ci := 2) (v := .ref g1) (C := R_Links) (T := T_Links) (N := 2) hx hb ht in_Links hown hK hP 0 rfl rfl 0 (by decide) (ht _ kl_Links_11) (fun _ h9 => h9) rfl d_Links_exists_1 ?_
  refine lv_iload_n hx hb d_Links_exists_4 rfl (lv_at hl 1 rfl) ?_
  refine ri_aald hx hb hK hP 1 3 rfl rfl (j := a) (by omega) (by omega) (go_at (by omega)) d_Links_exists_5 ?_
  refine lv_iload_n hx hb d_Links_exists_6 rfl (lv_at hl 2 rfl) ?_
  refine ri_gld hx hb hK hP 3 0 rfl rfl (i := a) (j := b) (by omega) (by omega) (by decide) d_Links_exists_7 ?_
  refine W.eq (g2 := F0 m 8 ls [.int (nI (lk a b))]) rfl ?_
  refine ri_if_eq hx hb (hl1 a b) d_Links_exists_8 (tgt := 15) (by decide) (fun h1 => ?_) (fun h1 => ?_)
  · refine lv_iconst (v := nI 0) hx hb d_Links_exists_15 (by decide) ?_
    exact ct_zret (b := false) hQ hx hb hr hlk hP hD hS hK (by omega) (by omega) d_Links_exists_16 (⟨congrArg bI (decide_eq_false (by omega)).symm, rfl⟩)
  · refine lv_iconst (v := nI 1) hx hb d_Links_exists_11 (by decide) ?_
    refine lv_goto hx hb d_Links_exists_12 (tgt := 16) (by decide) ?_
    exact ct_zret (b := true) hQ hx hb hr hlk hP hD hS hK (by omega) (by omega) d_Links_exists_16 (⟨congrArg bI (decide_eq_true h1).symm, rfl⟩)
set_option maxHeartbeats 4000000 in
set_option maxRecDepth 100000 in
theorem c_Links_isWhole (l : Launch) (D : va_G) (cI cZ cJ cG : ClassId) (h g1 g2 : Nat) (r1 r2 : Nat → Nat) (lk kn : Nat → Nat → Nat) (a b : Nat) (hl1 : ∀ a b, lk a b < 2147483648) (hl2 : ∀ a b, kn a b < 2147483648) (ha : a < 12) (hb9 : b < 12) : ct_I l D kls (ty4 cI cZ cJ cG) y_Links_isWhole ws_Links_isWhole (rm_ 0 0 0 0) [.ref h, .int (nI a), .int (nI b)] (lk_w cI cG h g1 g2 r1 r2 lk kn) (fun z u => z = bI (decide (lk a b = 1)) ∧ u = lk_w cI cG h g1 g2 r1 r2 lk kn) 0 0 := by
  refine ct_enterI (cc := b_Links_isWhole) (maxL := 3) (ret := (some .boolean)) (by decide +kernel) (Nat.le_of_ble_eq_true rfl) ?_
  intro p e s m args below meth c hx hb hml hr ht hown hlk hnm A Q hA hK hP hD hQ ls hl
  have hown : s.vm.findClass R_Links = some m.cls := hown
  have hS : va_S A s.heap s.heap [] := va_S.rf
  have hl : lv_has ls 3 [(0, .ref h), (1, .int (nI a)), (2, .int (nI b))] := hl
  refine lv_aload_n hx hb d_Links_isWhole_0 rfl (lv_at hl 0 rfl) ?_
  refine va_get (D := D) (ci := 2) (v := .ref g1) (C := R_Links) (T := T_Links) (N := 2) hx hb ht in_Links hown hK hP 0 rfl rfl 0 (by decide) (ht _ kl_Links_11) (fun _ h9 => h9) rfl d_Links_isWhole_1 ?_
  refine lv_iload_n hx hb d_Links_isWhole_4 rfl (lv_at hl 1 rfl) ?_
  refine ri_aald hx hb hK hP 1 3 rfl rfl (j := a) (by omega) (by omega) (go_at (by omega)) d_Links_isWhole_5 ?_
  refine lv_iload_n hx hb d_Links_isWhole_6 rfl (lv_at hl 2 rfl) ?_
  refine ri_gld hx hb hK hP 3 0 rfl rfl (i := a) (j := b) (by omega) (by omega) (by decide) d_Links_isWhole_7 ?_
  refine W.eq (g2 := F0 m 8 ls [.int (nI (lk a b))]) rfl ?_
  refine lv_iconst (v := nI 1) hx hb d_Links_isWhole_8 (by decide) ?_
  refine ri_icmp_ne hx hb (hl1 a b) (by decide) d_Links_isWhole_9 (tgt := 16) (by decide) (fun h1 => ?_) (fun h1 => ?_)
  · refine lv_iconst (v := nI 0) hx hb d_Links_isWhole_16 (by decide) ?_
    exact ct_zret (b := false) hQ hx hb hr hlk hP hD hS hK (by omega) (by omega) d_Links_isWhole_17 (⟨congrArg bI (decide_eq_false (by omega)).symm, rfl⟩)
  · refine lv_iconst (v := nI 1) hx hb d_Links_isWhole_12 (by decide) ?_
    refine lv_goto hx hb d_Links_isWhole_13 (tgt := 17) (by decide) ?_
    exact ct_zret (b := true) hQ hx hb hr hlk hP hD hS hK (by omega) (by omega) d_Links_isWhole_17 (⟨congrArg bI (decide_eq_true h1).symm, rfl⟩)
set_option maxHeartbeats 4000000 in
set_option maxRecDepth 100000 in
theorem c_Links_isCut (l : Launch) (D : va_G) (cI cZ cJ cG : ClassId) (h g1 g2 : Nat) (r1 r2 : Nat → Nat) (lk kn : Nat → Nat → Nat) (a b : Nat) (hl1 : ∀ a b, lk a b < 2147483648) (hl2 : ∀ a b, kn a b < 2147483648) (ha : a < 12) (hb9 : b < 12) : ct_I l D kls (ty4 cI cZ cJ cG) y_Links_isCut ws_Links_isCut (rm_ 0 0 0 0) [.ref h, .int (nI a), .int (nI b)] (lk_w cI cG h g1 g2 r1 r2 lk kn) (fun z u => z = bI (decide (lk a b = 2)) ∧ u = lk_w cI cG h g1 g2 r1 r2 lk kn) 0 0 := by
  refine ct_enterI (cc := b_Links_isCut) (maxL := 3) (ret := (some .boolean)) (by decide +kernel) (Nat.le_of_ble_eq_true rfl) ?_
  intro p e s m args below meth c hx hb hml hr ht hown hlk hnm A Q hA hK hP hD hQ ls hl
  have hown : s.vm.findClass R_Links = some m.cls := hown
  have hS : va_S A s.heap s.heap [] := va_S.rf
  have hl : lv_has ls 3 [(0, .ref h), (1, .int (nI a)), (2, .int (nI b))] := hl
  refine lv_aload_n hx hb d_Links_isCut_0 rfl (lv_at hl 0 rfl) ?_
  refine va_get (D := D) (ci := 2) (v := .ref g1) (C := R_Links) (T := T_Links) (N := 2) hx hb ht in_Links hown hK hP 0 rfl rfl 0 (by decide) (ht _ kl_Links_11) (fun _ h9 => h9) rfl d_Links_isCut_1 ?_
  refine lv_iload_n hx hb d_Links_isCut_4 rfl (lv_at hl 1 rfl) ?_
  refine ri_aald hx hb hK hP 1 3 rfl rfl (j := a) (by omega) (by omega) (go_at (by omega)) d_Links_isCut_5 ?_
  refine lv_iload_n hx hb d_Links_isCut_6 rfl (lv_at hl 2 rfl) ?_
  refine ri_gld hx hb hK hP 3 0 rfl rfl (i := a) (j := b) (by omega) (by omega) (by decide) d_Links_isCut_7 ?_
  refine W.eq (g2 := F0 m 8 ls [.int (nI (lk a b))]) rfl ?_
  refine lv_iconst (v := nI 2) hx hb d_Links_isCut_8 (by decide) ?_
  refine ri_icmp_ne hx hb (hl1 a b) (by decide) d_Links_isCut_9 (tgt := 16) (by decide) (fun h1 => ?_) (fun h1 => ?_)
  · refine lv_iconst (v := nI 0) hx hb d_Links_isCut_16 (by decide) ?_
    exact ct_zret (b := false) hQ hx hb hr hlk hP hD hS hK (by omega) (by omega) d_Links_isCut_17 (⟨congrArg bI (decide_eq_false (by omega)).symm, rfl⟩)
  · refine lv_iconst (v := nI 1) hx hb d_Links_isCut_12 (by decide) ?_
    refine lv_goto hx hb d_Links_isCut_13 (tgt := 17) (by decide) ?_
    exact ct_zret (b := true) hQ hx hb hr hlk hP hD hS hK (by omega) (by omega) d_Links_isCut_17 (⟨congrArg bI (decide_eq_true h1).symm, rfl⟩)
set_option maxHeartbeats 4000000 in
set_option maxRecDepth 100000 in
theorem c_Links_isKnown (l : Launch) (D : va_G) (cI cZ cJ cG : ClassId) (h g1 g2 : Nat) (r1 r2 : Nat → Nat) (lk kn : Nat → Nat → Nat) (a b : Nat) (hl1 : ∀ a b, lk a b < 2147483648) (hl2 : ∀ a b, kn a b < 2147483648) (ha : a < 12) (hb9 : b < 12) : ct_I l D kls (ty4 cI cZ cJ cG) y_Links_isKnown ws_Links_isKnown (rm_ 0 0 0 0) [.ref h, .int (nI a), .int (nI b)] (lk_w cI cG h g1 g2 r1 r2 lk kn) (fun z u => z = bI (decide (kn a b ≠ 0)) ∧ u = lk_w cI cG h g1 g2 r1 r2 lk kn) 0 0 := by
  refine ct_enterI (cc := b_Links_isKnown) (maxL := 3) (ret := (some .boolean)) (by decide +kernel) (Nat.le_of_ble_eq_true rfl) ?_
  intro p e s m args below meth c hx hb hml hr ht hown hlk hnm A Q hA hK hP hD hQ ls hl
  have hown : s.vm.findClass R_Links = some m.cls := hown
  have hS : va_S A s.heap s.heap [] := va_S.rf
  have hl : lv_has ls 3 [(0, .ref h), (1, .int (nI a)), (2, .int (nI b))] := hl
  refine lv_aload_n hx hb d_Links_isKnown_0 rfl (lv_at hl 0 rfl) ?_
  refine va_get (D := D) (ci := 2) (v := .ref g2) (C := R_Links) (T := T_Links) (N := 2) hx hb ht in_Links hown hK hP 0 rfl rfl 1 (by decide) (ht _ kl_Links_16) (fun _ h9 => h9) rfl d_Links_isKnown_1 ?_
  refine lv_iload_n hx hb d_Links_isKnown_4 rfl (lv_at hl 1 rfl) ?_
  refine ri_aald hx hb hK hP 2 3 rfl rfl (j := a) (by omega) (by omega) (go_at (by omega)) d_Links_isKnown_5 ?_
  refine lv_iload_n hx hb d_Links_isKnown_6 rfl (lv_at hl 2 rfl) ?_
  refine ri_gld hx hb hK hP 4 0 rfl rfl (i := a) (j := b) (by omega) (by omega) (by decide) d_Links_isKnown_7 ?_
  refine W.eq (g2 := F0 m 8 ls [.int (nI (kn a b))]) rfl ?_
  refine ri_if_eq hx hb (hl2 a b) d_Links_isKnown_8 (tgt := 15) (by decide) (fun h1 => ?_) (fun h1 => ?_)
  · refine lv_iconst (v := nI 0) hx hb d_Links_isKnown_15 (by decide) ?_
    exact ct_zret (b := false) hQ hx hb hr hlk hP hD hS hK (by omega) (by omega) d_Links_isKnown_16 (⟨congrArg bI (decide_eq_false (by omega)).symm, rfl⟩)
  · refine lv_iconst (v := nI 1) hx hb d_Links_isKnown_11 (by decide) ?_
    refine lv_goto hx hb d_Links_isKnown_12 (tgt := 16) (by decide) ?_
    exact ct_zret (b := true) hQ hx hb hr hlk hP hD hS hK (by omega) (by omega) d_Links_isKnown_16 (⟨congrArg bI (decide_eq_true h1).symm, rfl⟩)
set_option maxHeartbeats 4000000 in
set_option maxRecDepth 100000 in
theorem c_Links_knownWeight (l : Launch) (D : va_G) (cI cZ cJ cG : ClassId) (h g1 g2 : Nat) (r1 r2 : Nat → Nat) (lk kn : Nat → Nat → Nat) (a b : Nat) (ha : a < 12) (hb9 : b < 12) : ct_I l D kls (ty4 cI cZ cJ cG) y_Links_knownWeight ws_Links_knownWeight (rm_ 0 0 0 0) [.ref h, .int (nI a), .int (nI b)] (lk_w cI cG h g1 g2 r1 r2 lk kn) (fun z u => z = nI (kn a b) ∧ u = lk_w cI cG h g1 g2 r1 r2 lk kn) 0 0 := by
  refine ct_enterI (cc := b_Links_knownWeight) (maxL := 3) (ret := (some .int)) (by decide +kernel) (Nat.le_of_ble_eq_true rfl) ?_
  intro p e s m args below meth c hx hb hml hr ht hown hlk hnm A Q hA hK hP hD hQ ls hl
  have hown : s.vm.findClass R_Links = some m.cls := hown
  have hS : va_S A s.heap s.heap [] := va_S.rf
  have hl : lv_has ls 3 [(0, .ref h), (1, .int (nI a)), (2, .int (nI b))] := hl
  refine lv_aload_n hx hb d_Links_knownWeight_0 rfl (lv_at hl 0 rfl) ?_
  refine va_get (D := D) (ci := 2) (v := .ref g2) (C := R_Links) (T := T_Links) (N := 2) hx hb ht in_Links hown hK hP 0 rfl rfl 1 (by decide) (ht _ kl_Links_16) (fun _ h9 => h9) rfl d_Links_knownWeight_1 ?_
  refine lv_iload_n hx hb d_Links_knownWeight_4 rfl (lv_at hl 1 rfl) ?_
  refine ri_aald hx hb hK hP 2 3 rfl rfl (j := a) (by omega) (by omega) (go_at (by omega)) d_Links_knownWeight_5 ?_
  refine lv_iload_n hx hb d_Links_knownWeight_6 rfl (lv_at hl 2 rfl) ?_
  refine ri_gld hx hb hK hP 4 0 rfl rfl (i := a) (j := b) (by omega) (by omega) (by decide) d_Links_knownWeight_7 ?_
  refine W.eq (g2 := F0 m 8 ls [.int (nI (kn a b))]) rfl ?_
  exact ct_iret hQ hx hb hr hlk hP hD hS hK (by omega) (by omega) d_Links_knownWeight_8 (⟨rfl, rfl⟩)
set_option maxHeartbeats 4000000 in
set_option maxRecDepth 100000 in
theorem c_Links_become (l : Launch) (D : va_G) (cI cZ cJ cG : ClassId) (h g1 g2 : Nat) (r1 r2 : Nat → Nat) (lk kn : Nat → Nat → Nat) (a b v : Nat) (ha : a < 12) (hb9 : b < 12) : ct_V l D kls (ty4 cI cZ cJ cG) y_Links_become ws_Links_become (rm_ 0 0 0 0) [.ref h, .int (nI a), .int (nI b), .int (nI v)] (lk_w cI cG h g1 g2 r1 r2 lk kn) (fun u => u = lk_w cI cG h g1 g2 r1 r2 (bm_both lk a b v) kn) 0 0 := by
  refine ct_enterV (cc := b_Links_become) (maxL := 4) (ret := none) (by decide +kernel) (Nat.le_of_ble_eq_true rfl) ?_
  intro p e s m args below meth c hx hb hml hr ht hown hlk hnm A Q hA hK hP hD hQ ls hl
  have hown : s.vm.findClass R_Links = some m.cls := hown
  have hS : va_S A s.heap s.heap [] := va_S.rf
  have hl : lv_has ls 4 [(0, .ref h), (1, .int (nI a)), (2, .int (nI b)), (3, .int (nI v))] := hl
  refine lv_aload_n hx hb d_Links_become_0 rfl (lv_at hl 0 rfl) ?_
  refine va_get (D := D) (ci := 2) (v := .ref g1) (C := R_Links) (T := T_Links) (N := 2) hx hb ht in_Links hown hK hP 0 rfl rfl 0 (by decide) (ht _ kl_Links_11) (fun _ h9 => h9) rfl d_Links_become_1 ?_
  refine lv_iload_n hx hb d_Links_become_4 rfl (lv_at hl 1 rfl) ?_
  refine ri_aald hx hb hK hP 1 3 rfl rfl (j := a) (by omega) (by omega) (go_at (by omega)) d_Links_become_5 ?_
  refine lv_iload_n hx hb d_Links_become_6 rfl (lv_at hl 2 rfl) ?_
  refine lv_iload_n hx hb d_Links_become_7 rfl (lv_at hl 3 rfl) ?_
  refine ri_gst hx hb hK hP hD hS 3 0 rfl rfl (i := a) (j := b) (by omega) (by omega) (by decide) d_Links_become_8 (fun H locs hP hD hS => ?_)
  rw [gN_up] at hP hD
  have hP : va_P D kls (List.flatten [[(h, .inr (2, [.ref g1, .ref g2]))], [(g1, .inl (cG, 12, .inr (.inr (.inr (.inr (go r1))))))], [(g2, .inl (cG, 12, .inr (.inr (.inr (.inr (go r2))))))], gd cI 12 r1 (gN (bm_up2 lk a b v)), gd cI 12 r2 (gN kn)]) H := hP
  have hD : va_D A (List.flatten [[(h, .inr (2, [.ref g1, .ref g2]))], [(g1, .inl (cG, 12, .inr (.inr (.inr (.inr (go r1))))))], [(g2, .inl (cG, 12, .inr (.inr (.inr (.inr (go r2))))))], gd cI 12 r1 (gN (bm_up2 lk a b v)), gd cI 12 r2 (gN kn)]) := hD
  refine lv_aload_n hx hb d_Links_become_9 rfl (lv_at hl 0 rfl) ?_
  refine va_get (D := D) (ci := 2) (v := .ref g1) (C := R_Links) (T := T_Links) (N := 2) hx hb ht in_Links hown hK hP 0 rfl rfl 0 (by decide) (ht _ kl_Links_11) (fun _ h9 => h9) rfl d_Links_become_10 ?_
  refine lv_iload_n hx hb d_Links_become_13 rfl (lv_at hl 2 rfl) ?_
  refine ri_aald hx hb hK hP 1 3 rfl rfl (j := b) (by omega) (by omega) (go_at (by omega)) d_Links_become_14 ?_
  refine lv_iload_n hx hb d_Links_become_15 rfl (lv_at hl 1 rfl) ?_
  refine lv_iload_n hx hb d_Links_become_16 rfl (lv_at hl 3 rfl) ?_
  refine ri_gst hx hb hK hP hD hS 3 0 rfl rfl (i := b) (j := a) (by omega) (by omega) (by decide) d_Links_become_17 (fun H locs hP hD hS => ?_)
  rw [gN_up] at hP hD
  have hP : va_P D kls (List.flatten [[(h, .inr (2, [.ref g1, .ref g2]))], [(g1, .inl (cG, 12, .inr (.inr (.inr (.inr (go r1))))))], [(g2, .inl (cG, 12, .inr (.inr (.inr (.inr (go r2))))))], gd cI 12 r1 (gN (bm_up2 (bm_up2 lk a b v) b a v)), gd cI 12 r2 (gN kn)]) H := hP
  have hD : va_D A (List.flatten [[(h, .inr (2, [.ref g1, .ref g2]))], [(g1, .inl (cG, 12, .inr (.inr (.inr (.inr (go r1))))))], [(g2, .inl (cG, 12, .inr (.inr (.inr (.inr (go r2))))))], gd cI 12 r1 (gN (bm_up2 (bm_up2 lk a b v) b a v)), gd cI 12 r2 (gN kn)]) := hD
  exact ct_vret hQ hx hb hr hlk hP hD hS hK (by omega) (by omega) d_Links_become_18 (rfl)
set_option maxHeartbeats 4000000 in
set_option maxRecDepth 100000 in
theorem c_Links_sever (l : Launch) (D : va_G) (cI cZ cJ cG : ClassId) (h g1 g2 : Nat) (r1 r2 : Nat → Nat) (lk kn : Nat → Nat → Nat) (a b : Nat) (ha : a < 12) (hb9 : b < 12) : ct_V l D kls (ty4 cI cZ cJ cG) y_Links_sever ws_Links_sever (rm_ 1 23 0 0) [.ref h, .int (nI a), .int (nI b)] (lk_w cI cG h g1 g2 r1 r2 lk kn) (fun u => u = lk_w cI cG h g1 g2 r1 r2 (bm_both lk a b 2) kn) 0 0 := by
  refine ct_enterV (cc := b_Links_sever) (maxL := 3) (ret := none) (by decide +kernel) (Nat.le_of_ble_eq_true rfl) ?_
  intro p e s m args below meth c hx hb hml hr ht hown hlk hnm A Q hA hK hP hD hQ ls hl
  have hown : s.vm.findClass R_Links = some m.cls := hown
  have hS : va_S A s.heap s.heap [] := va_S.rf
  have hl : lv_has ls 3 [(0, .ref h), (1, .int (nI a)), (2, .int (nI b))] := hl
  refine lv_aload_n hx hb d_Links_sever_0 rfl (lv_at hl 0 rfl) ?_
  refine lv_iload_n hx hb d_Links_sever_1 rfl (lv_at hl 1 rfl) ?_
  refine lv_iload_n hx hb d_Links_sever_2 rfl (lv_at hl 2 rfl) ?_
  refine lv_iconst (v := nI 2) hx hb d_Links_sever_3 (by decide) ?_
  refine ct_callVV (C := R_Links) (ci := 2) (As := [.int (nI a), .int (nI b), .int (nI 2)]) (rest := []) ⟨hx, hb, hml, hown, ht⟩ (c_Links_become l D cI cZ cJ cG h g1 g2 r1 r2 lk kn a b 2 (by omega) (by omega)) (cb_V ht kc_Links_become kl_Links_19 kn_Links ki_Links_become ks_Links_become hd_Links_become ⟨Nat.le_of_ble_eq_true rfl, Nat.le_of_ble_eq_true rfl⟩) (List.mem_of_getElem? (i := 0) rfl) rfl rfl (pm_all _) hK hP hD hS hA rfl hl.1 rfl (Nat.le_of_ble_eq_true rfl) ⟨(show 0 + 0 ≤ 0 by omega), (show 0 + 0 ≤ 0 by omega)⟩ d_Links_sever_4 (fun u1 H locs hu1 hP hD hS => ?_)
  subst hu1
  refine W.widen (k := 0) (n := 0) (Nat.le_refl _) (Nat.le_refl _) ?_
  rw [List.append_nil] at hP hD
  have hP : va_P D kls (List.flatten [[(h, .inr (2, [.ref g1, .ref g2]))], [(g1, .inl (cG, 12, .inr (.inr (.inr (.inr (go r1))))))], [(g2, .inl (cG, 12, .inr (.inr (.inr (.inr (go r2))))))], gd cI 12 r1 (gN (bm_both lk a b 2)), gd cI 12 r2 (gN kn)]) H := hP
  have hD : va_D A (List.flatten [[(h, .inr (2, [.ref g1, .ref g2]))], [(g1, .inl (cG, 12, .inr (.inr (.inr (.inr (go r1))))))], [(g2, .inl (cG, 12, .inr (.inr (.inr (.inr (go r2))))))], gd cI 12 r1 (gN (bm_both lk a b 2)), gd cI 12 r2 (gN kn)]) := hD
  refine W.eq (g2 := F0 m 7 ls []) rfl ?_
  exact ct_vret hQ hx hb hr hlk hP hD hS hK (by omega) (by omega) d_Links_sever_7 (rfl)
set_option maxHeartbeats 4000000 in
set_option maxRecDepth 100000 in
theorem c_Links_make (l : Launch) (D : va_G) (cI cZ cJ cG : ClassId) (h g1 g2 : Nat) (r1 r2 : Nat → Nat) (lk kn : Nat → Nat → Nat) (a b v : Nat) (ha : a < 12) (hb9 : b < 12) : ct_V l D kls (ty4 cI cZ cJ cG) y_Links_make ws_Links_make (rm_ 1 23 0 0) [.ref h, .int (nI a), .int (nI b), .int (nI v)] (lk_w cI cG h g1 g2 r1 r2 lk kn) (fun u => u = lk_w cI cG h g1 g2 r1 r2 (bm_both lk a b 1) (bm_both kn a b v)) 0 0 := by
  refine ct_enterV (cc := b_Links_make) (maxL := 4) (ret := none) (by decide +kernel) (Nat.le_of_ble_eq_true rfl) ?_
  intro p e s m args below meth c hx hb hml hr ht hown hlk hnm A Q hA hK hP hD hQ ls hl
  have hown : s.vm.findClass R_Links = some m.cls := hown
  have hS : va_S A s.heap s.heap [] := va_S.rf
  have hl : lv_has ls 4 [(0, .ref h), (1, .int (nI a)), (2, .int (nI b)), (3, .int (nI v))] := hl
  refine lv_aload_n hx hb d_Links_make_0 rfl (lv_at hl 0 rfl) ?_
  refine lv_iload_n hx hb d_Links_make_1 rfl (lv_at hl 1 rfl) ?_
  refine lv_iload_n hx hb d_Links_make_2 rfl (lv_at hl 2 rfl) ?_
  refine lv_iconst (v := nI 1) hx hb d_Links_make_3 (by decide) ?_
  refine ct_callVV (C := R_Links) (ci := 2) (As := [.int (nI a), .int (nI b), .int (nI 1)]) (rest := []) ⟨hx, hb, hml, hown, ht⟩ (c_Links_become l D cI cZ cJ cG h g1 g2 r1 r2 lk kn a b 1 (by omega) (by omega)) (cb_V ht kc_Links_become kl_Links_19 kn_Links ki_Links_become ks_Links_become hd_Links_become ⟨Nat.le_of_ble_eq_true rfl, Nat.le_of_ble_eq_true rfl⟩) (List.mem_of_getElem? (i := 0) rfl) rfl rfl (pm_all _) hK hP hD hS hA rfl hl.1 rfl (Nat.le_of_ble_eq_true rfl) ⟨(show 0 + 0 ≤ 0 by omega), (show 0 + 0 ≤ 0 by omega)⟩ d_Links_make_4 (fun u1 H locs hu1 hP hD hS => ?_)
  subst hu1
  refine W.widen (k := 0) (n := 0) (Nat.le_refl _) (Nat.le_refl _) ?_
  rw [List.append_nil] at hP hD
  have hP : va_P D kls (List.flatten [[(h, .inr (2, [.ref g1, .ref g2]))], [(g1, .inl (cG, 12, .inr (.inr (.inr (.inr (go r1))))))], [(g2, .inl (cG, 12, .inr (.inr (.inr (.inr (go r2))))))], gd cI 12 r1 (gN (bm_both lk a b 1)), gd cI 12 r2 (gN kn)]) H := hP
  have hD : va_D A (List.flatten [[(h, .inr (2, [.ref g1, .ref g2]))], [(g1, .inl (cG, 12, .inr (.inr (.inr (.inr (go r1))))))], [(g2, .inl (cG, 12, .inr (.inr (.inr (.inr (go r2))))))], gd cI 12 r1 (gN (bm_both lk a b 1)), gd cI 12 r2 (gN kn)]) := hD
  refine W.eq (g2 := F0 m 7 ls []) rfl ?_
  refine lv_aload_n hx hb d_Links_make_7 rfl (lv_at hl 0 rfl) ?_
  refine va_get (D := D) (ci := 2) (v := .ref g2) (C := R_Links) (T := T_Links) (N := 2) hx hb ht in_Links hown hK hP 0 rfl rfl 1 (by decide) (ht _ kl_Links_16) (fun _ h9 => h9) rfl d_Links_make_8 ?_
  refine lv_iload_n hx hb d_Links_make_11 rfl (lv_at hl 1 rfl) ?_
  refine ri_aald hx hb hK hP 2 3 rfl rfl (j := a) (by omega) (by omega) (go_at (by omega)) d_Links_make_12 ?_
  refine lv_iload_n hx hb d_Links_make_13 rfl (lv_at hl 2 rfl) ?_
  refine lv_iload_n hx hb d_Links_make_14 rfl (lv_at hl 3 rfl) ?_
  refine ri_gst hx hb hK hP hD hS 4 0 rfl rfl (i := a) (j := b) (by omega) (by omega) (by decide) d_Links_make_15 (fun H locs hP hD hS => ?_)
  rw [gN_up] at hP hD
  have hP : va_P D kls (List.flatten [[(h, .inr (2, [.ref g1, .ref g2]))], [(g1, .inl (cG, 12, .inr (.inr (.inr (.inr (go r1))))))], [(g2, .inl (cG, 12, .inr (.inr (.inr (.inr (go r2))))))], gd cI 12 r1 (gN (bm_both lk a b 1)), gd cI 12 r2 (gN (bm_up2 kn a b v))]) H := hP
  have hD : va_D A (List.flatten [[(h, .inr (2, [.ref g1, .ref g2]))], [(g1, .inl (cG, 12, .inr (.inr (.inr (.inr (go r1))))))], [(g2, .inl (cG, 12, .inr (.inr (.inr (.inr (go r2))))))], gd cI 12 r1 (gN (bm_both lk a b 1)), gd cI 12 r2 (gN (bm_up2 kn a b v))]) := hD
  refine lv_aload_n hx hb d_Links_make_16 rfl (lv_at hl 0 rfl) ?_
  refine va_get (D := D) (ci := 2) (v := .ref g2) (C := R_Links) (T := T_Links) (N := 2) hx hb ht in_Links hown hK hP 0 rfl rfl 1 (by decide) (ht _ kl_Links_16) (fun _ h9 => h9) rfl d_Links_make_17 ?_
  refine lv_iload_n hx hb d_Links_make_20 rfl (lv_at hl 2 rfl) ?_
  refine ri_aald hx hb hK hP 2 3 rfl rfl (j := b) (by omega) (by omega) (go_at (by omega)) d_Links_make_21 ?_
  refine lv_iload_n hx hb d_Links_make_22 rfl (lv_at hl 1 rfl) ?_
  refine lv_iload_n hx hb d_Links_make_23 rfl (lv_at hl 3 rfl) ?_
  refine ri_gst hx hb hK hP hD hS 4 0 rfl rfl (i := b) (j := a) (by omega) (by omega) (by decide) d_Links_make_24 (fun H locs hP hD hS => ?_)
  rw [gN_up] at hP hD
  have hP : va_P D kls (List.flatten [[(h, .inr (2, [.ref g1, .ref g2]))], [(g1, .inl (cG, 12, .inr (.inr (.inr (.inr (go r1))))))], [(g2, .inl (cG, 12, .inr (.inr (.inr (.inr (go r2))))))], gd cI 12 r1 (gN (bm_both lk a b 1)), gd cI 12 r2 (gN (bm_up2 (bm_up2 kn a b v) b a v))]) H := hP
  have hD : va_D A (List.flatten [[(h, .inr (2, [.ref g1, .ref g2]))], [(g1, .inl (cG, 12, .inr (.inr (.inr (.inr (go r1))))))], [(g2, .inl (cG, 12, .inr (.inr (.inr (.inr (go r2))))))], gd cI 12 r1 (gN (bm_both lk a b 1)), gd cI 12 r2 (gN (bm_up2 (bm_up2 kn a b v) b a v))]) := hD
  exact ct_vret hQ hx hb hr hlk hP hD hS hK (by omega) (by omega) d_Links_make_25 (rfl)
set_option maxHeartbeats 4000000 in
set_option maxRecDepth 100000 in
theorem c_Links_unlearn (l : Launch) (D : va_G) (cI cZ cJ cG : ClassId) (h g1 g2 : Nat) (r1 r2 : Nat → Nat) (lk kn : Nat → Nat → Nat) (a b : Nat) (hl1 : ∀ a b, lk a b < 2147483648) (hl2 : ∀ a b, kn a b < 2147483648) (ha : a < 12) (hb9 : b < 12) : ct_V l D kls (ty4 cI cZ cJ cG) y_Links_unlearn ws_Links_unlearn (rm_ 1 23 0 0) [.ref h, .int (nI a), .int (nI b)] (lk_w cI cG h g1 g2 r1 r2 lk kn) (fun u => u = lk_w cI cG h g1 g2 r1 r2 (if bm_up2 kn a b 0 b a = 0 then bm_both lk a b 0 else lk) (bm_up2 kn a b 0)) 0 0 := by
  refine ct_enterV (cc := b_Links_unlearn) (maxL := 3) (ret := none) (by decide +kernel) (Nat.le_of_ble_eq_true rfl) ?_
  intro p e s m args below meth c hx hb hml hr ht hown hlk hnm A Q hA hK hP hD hQ ls hl
  have hown : s.vm.findClass R_Links = some m.cls := hown
  have hS : va_S A s.heap s.heap [] := va_S.rf
  have hl : lv_has ls 3 [(0, .ref h), (1, .int (nI a)), (2, .int (nI b))] := hl
  have hl3 : ∀ x y, bm_up2 kn a b 0 x y < 2147483648 := fun x y => by unfold bm_up2; have := hl2 x y; split <;> omega
  refine lv_aload_n hx hb d_Links_unlearn_0 rfl (lv_at hl 0 rfl) ?_
  refine va_get (D := D) (ci := 2) (v := .ref g2) (C := R_Links) (T := T_Links) (N := 2) hx hb ht in_Links hown hK hP 0 rfl rfl 1 (by decide) (ht _ kl_Links_16) (fun _ h9 => h9) rfl d_Links_unlearn_1 ?_
  refine lv_iload_n hx hb d_Links_unlearn_4 rfl (lv_at hl 1 rfl) ?_
  refine ri_aald hx hb hK hP 2 3 rfl rfl (j := a) (by omega) (by omega) (go_at (by omega)) d_Links_unlearn_5 ?_
  refine lv_iload_n hx hb d_Links_unlearn_6 rfl (lv_at hl 2 rfl) ?_
  refine lv_iconst (v := nI 0) hx hb d_Links_unlearn_7 (by decide) ?_
  refine ri_gst hx hb hK hP hD hS 4 0 rfl rfl (i := a) (j := b) (by omega) (by omega) (by decide) d_Links_unlearn_8 (fun H locs hP hD hS => ?_)
  rw [gN_up] at hP hD
  have hP : va_P D kls (List.flatten [[(h, .inr (2, [.ref g1, .ref g2]))], [(g1, .inl (cG, 12, .inr (.inr (.inr (.inr (go r1))))))], [(g2, .inl (cG, 12, .inr (.inr (.inr (.inr (go r2))))))], gd cI 12 r1 (gN lk), gd cI 12 r2 (gN (bm_up2 kn a b 0))]) H := hP
  have hD : va_D A (List.flatten [[(h, .inr (2, [.ref g1, .ref g2]))], [(g1, .inl (cG, 12, .inr (.inr (.inr (.inr (go r1))))))], [(g2, .inl (cG, 12, .inr (.inr (.inr (.inr (go r2))))))], gd cI 12 r1 (gN lk), gd cI 12 r2 (gN (bm_up2 kn a b 0))]) := hD
  refine lv_aload_n hx hb d_Links_unlearn_9 rfl (lv_at hl 0 rfl) ?_
  refine lv_iload_n hx hb d_Links_unlearn_10 rfl (lv_at hl 2 rfl) ?_
  refine lv_iload_n hx hb d_Links_unlearn_11 rfl (lv_at hl 1 rfl) ?_
  refine ct_rdV (C := R_Links) (ci := 2) (As := [.int (nI b), .int (nI a)]) (rest := []) ⟨hx, hb, hml, hown, ht⟩ (c_Links_isKnown l D cI cZ cJ cG h g1 g2 r1 r2 lk (bm_up2 kn a b 0) b a hl1 hl3 hb9 ha) (cb_V ht kc_Links_isKnown kl_Links_23 kn_Links ki_Links_isKnown ks_Links_isKnown hd_Links_isKnown ⟨Nat.le_of_ble_eq_true rfl, Nat.le_of_ble_eq_true rfl⟩) (List.mem_of_getElem? (i := 0) rfl) rfl rfl (pm_all _) hK hP hD hS hA rfl hl.1 rfl (Nat.le_of_ble_eq_true rfl) ⟨(show 0 + 0 ≤ 0 by omega), (show 0 + 0 ≤ 0 by omega)⟩ d_Links_unlearn_12 (fun rhr1 H locs hr1 hP hD hS => ?_)
  subst hr1
  refine ri_ifneB hx hb d_Links_unlearn_15 (tgt := 25) (by decide) (fun h1 => ?_) (fun h1 => ?_)
  · exact ct_vret hQ hx hb hr hlk hP hD hS hK (by omega) (by omega) d_Links_unlearn_25 (by rw [if_neg (of_decide_eq_true h1)])
  · refine lv_aload_n hx hb d_Links_unlearn_18 rfl (lv_at hl 0 rfl) ?_
    refine lv_iload_n hx hb d_Links_unlearn_19 rfl (lv_at hl 1 rfl) ?_
    refine lv_iload_n hx hb d_Links_unlearn_20 rfl (lv_at hl 2 rfl) ?_
    refine lv_iconst (v := nI 0) hx hb d_Links_unlearn_21 (by decide) ?_
    refine ct_callVV (C := R_Links) (ci := 2) (As := [.int (nI a), .int (nI b), .int (nI 0)]) (rest := []) ⟨hx, hb, hml, hown, ht⟩ (c_Links_become l D cI cZ cJ cG h g1 g2 r1 r2 lk (bm_up2 kn a b 0) a b 0 (by omega) (by omega)) (cb_V ht kc_Links_become kl_Links_19 kn_Links ki_Links_become ks_Links_become hd_Links_become ⟨Nat.le_of_ble_eq_true rfl, Nat.le_of_ble_eq_true rfl⟩) (List.mem_of_getElem? (i := 0) rfl) rfl rfl (pm_all _) hK hP hD hS hA rfl hl.1 rfl (Nat.le_of_ble_eq_true rfl) ⟨(show 0 + 0 ≤ 0 by omega), (show 0 + 0 ≤ 0 by omega)⟩ d_Links_unlearn_22 (fun u3 H locs hu3 hP hD hS => ?_)
    subst hu3
    refine W.widen (k := 0) (n := 0) (Nat.le_refl _) (Nat.le_refl _) ?_
    rw [List.append_nil] at hP hD
    have hP : va_P D kls (List.flatten [[(h, .inr (2, [.ref g1, .ref g2]))], [(g1, .inl (cG, 12, .inr (.inr (.inr (.inr (go r1))))))], [(g2, .inl (cG, 12, .inr (.inr (.inr (.inr (go r2))))))], gd cI 12 r1 (gN (bm_both lk a b 0)), gd cI 12 r2 (gN (bm_up2 kn a b 0))]) H := hP
    have hD : va_D A (List.flatten [[(h, .inr (2, [.ref g1, .ref g2]))], [(g1, .inl (cG, 12, .inr (.inr (.inr (.inr (go r1))))))], [(g2, .inl (cG, 12, .inr (.inr (.inr (.inr (go r2))))))], gd cI 12 r1 (gN (bm_both lk a b 0)), gd cI 12 r2 (gN (bm_up2 kn a b 0))]) := hD
    refine W.eq (g2 := F0 m 25 ls []) rfl ?_
    exact ct_vret hQ hx hb hr hlk hP hD hS hK (by omega) (by omega) d_Links_unlearn_25 (by rw [if_pos (Classical.not_not.mp (of_decide_eq_false h1))])
/-- a Links at h: lk how the links are, kn the weights that the routers know -/
def lk_R (cI cG : ClassId) (h : Nat) (lk kn : Nat → Nat → Nat) (ws : va_W) : Prop := ∃ (g1 g2 : Nat) (r1 r2 : Nat → Nat), ws = lk_w cI cG h g1 g2 r1 r2 lk kn
theorem lk_R.mem {cI cG : ClassId} {h : Nat} {lk kn : Nat → Nat → Nat} {ws : va_W} (hR : lk_R cI cG h lk kn ws) : ∃ fs, (h, Sum.inr (2, fs)) ∈ ws := by
  obtain ⟨g1, g2, r1, r2, rfl⟩ := hR
  exact ⟨_, List.mem_of_getElem? (i := 0) rfl⟩
theorem k_Links_exists (l : Launch) (D : va_G) (cI cZ cJ cG : ClassId) {h : Nat} {lk kn : Nat → Nat → Nat} {ws : va_W} (hR : lk_R cI cG h lk kn ws) (a b : Nat) (hl1 : ∀ a b, lk a b < 2147483648) (hl2 : ∀ a b, kn a b < 2147483648) (ha : a < 12) (hb9 : b < 12) : ct_I l D kls (ty4 cI cZ cJ cG) y_Links_exists ws_Links_exists (rm_ 0 0 0 0) [.ref h, .int (nI a), .int (nI b)] ws (fun z u => z = bI (decide (lk a b ≠ 0)) ∧ u = ws) 0 0 := by
  obtain ⟨g1, g2, r1, r2, rfl⟩ := hR
  exact c_Links_exists l D cI cZ cJ cG h g1 g2 r1 r2 lk kn a b hl1 hl2 ha hb9
theorem k_Links_isWhole (l : Launch) (D : va_G) (cI cZ cJ cG : ClassId) {h : Nat} {lk kn : Nat → Nat → Nat} {ws : va_W} (hR : lk_R cI cG h lk kn ws) (a b : Nat) (hl1 : ∀ a b, lk a b < 2147483648) (hl2 : ∀ a b, kn a b < 2147483648) (ha : a < 12) (hb9 : b < 12) : ct_I l D kls (ty4 cI cZ cJ cG) y_Links_isWhole ws_Links_isWhole (rm_ 0 0 0 0) [.ref h, .int (nI a), .int (nI b)] ws (fun z u => z = bI (decide (lk a b = 1)) ∧ u = ws) 0 0 := by
  obtain ⟨g1, g2, r1, r2, rfl⟩ := hR
  exact c_Links_isWhole l D cI cZ cJ cG h g1 g2 r1 r2 lk kn a b hl1 hl2 ha hb9
theorem k_Links_isCut (l : Launch) (D : va_G) (cI cZ cJ cG : ClassId) {h : Nat} {lk kn : Nat → Nat → Nat} {ws : va_W} (hR : lk_R cI cG h lk kn ws) (a b : Nat) (hl1 : ∀ a b, lk a b < 2147483648) (hl2 : ∀ a b, kn a b < 2147483648) (ha : a < 12) (hb9 : b < 12) : ct_I l D kls (ty4 cI cZ cJ cG) y_Links_isCut ws_Links_isCut (rm_ 0 0 0 0) [.ref h, .int (nI a), .int (nI b)] ws (fun z u => z = bI (decide (lk a b = 2)) ∧ u = ws) 0 0 := by
  obtain ⟨g1, g2, r1, r2, rfl⟩ := hR
  exact c_Links_isCut l D cI cZ cJ cG h g1 g2 r1 r2 lk kn a b hl1 hl2 ha hb9
theorem k_Links_isKnown (l : Launch) (D : va_G) (cI cZ cJ cG : ClassId) {h : Nat} {lk kn : Nat → Nat → Nat} {ws : va_W} (hR : lk_R cI cG h lk kn ws) (a b : Nat) (hl1 : ∀ a b, lk a b < 2147483648) (hl2 : ∀ a b, kn a b < 2147483648) (ha : a < 12) (hb9 : b < 12) : ct_I l D kls (ty4 cI cZ cJ cG) y_Links_isKnown ws_Links_isKnown (rm_ 0 0 0 0) [.ref h, .int (nI a), .int (nI b)] ws (fun z u => z = bI (decide (kn a b ≠ 0)) ∧ u = ws) 0 0 := by
  obtain ⟨g1, g2, r1, r2, rfl⟩ := hR
  exact c_Links_isKnown l D cI cZ cJ cG h g1 g2 r1 r2 lk kn a b hl1 hl2 ha hb9
theorem k_Links_knownWeight (l : Launch) (D : va_G) (cI cZ cJ cG : ClassId) {h : Nat} {lk kn : Nat → Nat → Nat} {ws : va_W} (hR : lk_R cI cG h lk kn ws) (a b : Nat) (ha : a < 12) (hb9 : b < 12) : ct_I l D kls (ty4 cI cZ cJ cG) y_Links_knownWeight ws_Links_knownWeight (rm_ 0 0 0 0) [.ref h, .int (nI a), .int (nI b)] ws (fun z u => z = nI (kn a b) ∧ u = ws) 0 0 := by
  obtain ⟨g1, g2, r1, r2, rfl⟩ := hR
  exact c_Links_knownWeight l D cI cZ cJ cG h g1 g2 r1 r2 lk kn a b ha hb9
theorem k_Links_sever (l : Launch) (D : va_G) (cI cZ cJ cG : ClassId) {h : Nat} {lk kn : Nat → Nat → Nat} {ws : va_W} (hR : lk_R cI cG h lk kn ws) (a b : Nat) (ha : a < 12) (hb9 : b < 12) : ct_V l D kls (ty4 cI cZ cJ cG) y_Links_sever ws_Links_sever (rm_ 1 23 0 0) [.ref h, .int (nI a), .int (nI b)] ws (fun u => lk_R cI cG h (bm_both lk a b 2) kn u) 0 0 := by
  obtain ⟨g1, g2, r1, r2, rfl⟩ := hR
  exact (c_Links_sever l D cI cZ cJ cG h g1 g2 r1 r2 lk kn a b ha hb9).to (fun u hu => ⟨g1, g2, r1, r2, hu⟩)
theorem k_Links_make (l : Launch) (D : va_G) (cI cZ cJ cG : ClassId) {h : Nat} {lk kn : Nat → Nat → Nat} {ws : va_W} (hR : lk_R cI cG h lk kn ws) (a b v : Nat) (ha : a < 12) (hb9 : b < 12) : ct_V l D kls (ty4 cI cZ cJ cG) y_Links_make ws_Links_make (rm_ 1 23 0 0) [.ref h, .int (nI a), .int (nI b), .int (nI v)] ws (fun u => lk_R cI cG h (bm_both lk a b 1) (bm_both kn a b v) u) 0 0 := by
  obtain ⟨g1, g2, r1, r2, rfl⟩ := hR
  exact (c_Links_make l D cI cZ cJ cG h g1 g2 r1 r2 lk kn a b v ha hb9).to (fun u hu => ⟨g1, g2, r1, r2, hu⟩)
theorem k_Links_unlearn (l : Launch) (D : va_G) (cI cZ cJ cG : ClassId) {h : Nat} {lk kn : Nat → Nat → Nat} {ws : va_W} (hR : lk_R cI cG h lk kn ws) (a b : Nat) (hl1 : ∀ a b, lk a b < 2147483648) (hl2 : ∀ a b, kn a b < 2147483648) (ha : a < 12) (hb9 : b < 12) : ct_V l D kls (ty4 cI cZ cJ cG) y_Links_unlearn ws_Links_unlearn (rm_ 1 23 0 0) [.ref h, .int (nI a), .int (nI b)] ws (fun u => lk_R cI cG h (if bm_up2 kn a b 0 b a = 0 then bm_both lk a b 0 else lk) (bm_up2 kn a b 0) u) 0 0 := by
  obtain ⟨g1, g2, r1, r2, rfl⟩ := hR
  exact (c_Links_unlearn l D cI cZ cJ cG h g1 g2 r1 r2 lk kn a b hl1 hl2 ha hb9).to (fun u hu => ⟨g1, g2, r1, r2, hu⟩)
