/-! Edges: contracts of its methods. -/
/-- the bits of the edges, as ints -/
def eN (eb : Nat → Option Nat) : Nat → Int32 := fun r => bm_em (eb r)
theorem eN_up {eb : Nat → Option Nat} {r : Nat} {x : Option Nat} : upd (eN eb) r (bm_em x) = eN (bm_up1 eb r x) := by
  funext a
  unfold upd eN bm_up1
  by_cases e : a = r
  · rw [if_pos e, if_pos e]
  · rw [if_neg e, if_neg e]
/-- the cells of an Edges -/
abbrev ed_w (cI : ClassId) (h q : Nat) (eb : Nat → Option Nat) (t n : Int32) : va_W := [(h, .inr (1, [.ref q, .int t, .int n])), (q, .inl (cI, 12, .inl (eN eb)))]
set_option maxHeartbeats 4000000 in
set_option maxRecDepth 100000 in
theorem c_Edges_isEdge (l : Launch) (D : va_G) (cI cZ cJ cG : ClassId) (h q : Nat) (eb : Nat → Option Nat) (t n : Int32) (r : Nat) (hr9 : r < 12) : ct_I l D kls (ty4 cI cZ cJ cG) y_Edges_isEdge ws_Edges_isEdge (rm_ 0 0 0 0) [.ref h, .int (nI r)] (ed_w cI h q eb t n) (fun z u => z = bI (decide (bm_em (eb r) ≠ 0)) ∧ u = ed_w cI h q eb t n) 0 0 := by
  refine ct_enterI (cc := b_Edges_isEdge) (maxL := 2) (ret := (some .boolean)) (by decide +kernel) (Nat.le_of_ble_eq_true rfl) ?_
  intro p e s m args below meth c hx hb hml hr ht hown hlk hnm A Q hA hK hP hD hQ ls hl
  have hown : s.vm.findClass R_Edges = some m.cls := hown
  have hS : va_S A s.heap s.heap [] := va_S.rf
  have hl : lv_has ls 2 [(0, .ref h), (1, .int (nI r))] := hl
  refine lv_aload_n hx hb d_Edges_isEdge_0 rfl (lv_at hl 0 rfl) ?_
  refine va_get (D := D) (ci := 1) (v := .ref q) (C := R_Edges) (T := T_Edges) (N := 3) hx hb ht in_Edges hown hK hP 0 rfl rfl 0 (by decide) (ht _ kl_Edges_9) (fun _ h9 => h9) rfl d_Edges_isEdge_1 ?_
  refine lv_iload_n hx hb d_Edges_isEdge_4 rfl (lv_at hl 1 rfl) ?_
  refine ri_iald hx hb hK hP 1 0 rfl rfl (j := r) (by omega) (by omega) d_Edges_isEdge_5 ?_
  refine lv_if_eq hx hb d_Edges_isEdge_6 (tgt := 13) (by decide) (fun h1 => ?_) (fun h1 => ?_)
  · refine lv_iconst (v := nI 0) hx hb d_Edges_isEdge_13 (by decide) ?_
    exact ct_zret (b := false) hQ hx hb hr hlk hP hD hS hK (by omega) (by omega) d_Edges_isEdge_14 (⟨congrArg bI (decide_eq_false (fun z => z h1)).symm, rfl⟩)
  · refine lv_iconst (v := nI 1) hx hb d_Edges_isEdge_9 (by decide) ?_
    refine lv_goto hx hb d_Edges_isEdge_10 (tgt := 14) (by decide) ?_
    exact ct_zret (b := true) hQ hx hb hr hlk hP hD hS hK (by omega) (by omega) d_Edges_isEdge_14 (⟨congrArg bI (decide_eq_true h1).symm, rfl⟩)
set_option maxHeartbeats 4000000 in
set_option maxRecDepth 100000 in
theorem c_Edges_isTaken (l : Launch) (D : va_G) (cI cZ cJ cG : ClassId) (h q : Nat) (eb : Nat → Option Nat) (t n : Int32) (x : Int32)  : ct_I l D kls (ty4 cI cZ cJ cG) y_Edges_isTaken ws_Edges_isTaken (rm_ 0 0 0 0) [.ref h, .int x] (ed_w cI h q eb t n) (fun z u => z = bI (decide (t &&& x ≠ 0)) ∧ u = ed_w cI h q eb t n) 0 0 := by
  refine ct_enterI (cc := b_Edges_isTaken) (maxL := 2) (ret := (some .boolean)) (by decide +kernel) (Nat.le_of_ble_eq_true rfl) ?_
  intro p e s m args below meth c hx hb hml hr ht hown hlk hnm A Q hA hK hP hD hQ ls hl
  have hown : s.vm.findClass R_Edges = some m.cls := hown
  have hS : va_S A s.heap s.heap [] := va_S.rf
  have hl : lv_has ls 2 [(0, .ref h), (1, .int x)] := hl
  refine lv_aload_n hx hb d_Edges_isTaken_0 rfl (lv_at hl 0 rfl) ?_
  refine va_get (D := D) (ci := 1) (v := .int t) (C := R_Edges) (T := T_Edges) (N := 3) hx hb ht in_Edges hown hK hP 0 rfl rfl 1 (by decide) (ht _ kl_Edges_15) (fun _ h9 => h9) rfl d_Edges_isTaken_1 ?_
  refine lv_iload_n hx hb d_Edges_isTaken_4 rfl (lv_at hl 1 rfl) ?_
  refine lv_iand hx hb d_Edges_isTaken_5 ?_
  refine lv_if_eq hx hb d_Edges_isTaken_6 (tgt := 13) (by decide) (fun h1 => ?_) (fun h1 => ?_)
  · refine lv_iconst (v := nI 0) hx hb d_Edges_isTaken_13 (by decide) ?_
    exact ct_zret (b := false) hQ hx hb hr hlk hP hD hS hK (by omega) (by omega) d_Edges_isTaken_14 (⟨congrArg bI (decide_eq_false (fun z => z h1)).symm, rfl⟩)
  · refine lv_iconst (v := nI 1) hx hb d_Edges_isTaken_9 (by decide) ?_
    refine lv_goto hx hb d_Edges_isTaken_10 (tgt := 14) (by decide) ?_
    exact ct_zret (b := true) hQ hx hb hr hlk hP hD hS hK (by omega) (by omega) d_Edges_isTaken_14 (⟨congrArg bI (decide_eq_true h1).symm, rfl⟩)
set_option maxHeartbeats 4000000 in
set_option maxRecDepth 100000 in
theorem c_Edges_bitOf (l : Launch) (D : va_G) (cI cZ cJ cG : ClassId) (h q : Nat) (eb : Nat → Option Nat) (t n : Int32) (r : Nat) (hr9 : r < 12) : ct_I l D kls (ty4 cI cZ cJ cG) y_Edges_bitOf ws_Edges_bitOf (rm_ 0 0 0 0) [.ref h, .int (nI r)] (ed_w cI h q eb t n) (fun z u => z = bm_em (eb r) ∧ u = ed_w cI h q eb t n) 0 0 := by
  refine ct_enterI (cc := b_Edges_bitOf) (maxL := 2) (ret := (some .int)) (by decide +kernel) (Nat.le_of_ble_eq_true rfl) ?_
  intro p e s m args below meth c hx hb hml hr ht hown hlk hnm A Q hA hK hP hD hQ ls hl
  have hown : s.vm.findClass R_Edges = some m.cls := hown
  have hS : va_S A s.heap s.heap [] := va_S.rf
  have hl : lv_has ls 2 [(0, .ref h), (1, .int (nI r))] := hl
  refine lv_aload_n hx hb d_Edges_bitOf_0 rfl (lv_at hl 0 rfl) ?_
  refine va_get (D := D) (ci := 1) (v := .ref q) (C := R_Edges) (T := T_Edges) (N := 3) hx hb ht in_Edges hown hK hP 0 rfl rfl 0 (by decide) (ht _ kl_Edges_9) (fun _ h9 => h9) rfl d_Edges_bitOf_1 ?_
  refine lv_iload_n hx hb d_Edges_bitOf_4 rfl (lv_at hl 1 rfl) ?_
  refine ri_iald hx hb hK hP 1 0 rfl rfl (j := r) (by omega) (by omega) d_Edges_bitOf_5 ?_
  exact ct_iret hQ hx hb hr hlk hP hD hS hK (by omega) (by omega) d_Edges_bitOf_6 (⟨rfl, rfl⟩)
set_option maxHeartbeats 4000000 in
set_option maxRecDepth 100000 in
theorem c_Edges_edgesSoFar (l : Launch) (D : va_G) (cI cZ cJ cG : ClassId) (h q : Nat) (eb : Nat → Option Nat) (t n : Int32)  : ct_I l D kls (ty4 cI cZ cJ cG) y_Edges_edgesSoFar ws_Edges_edgesSoFar (rm_ 0 0 0 0) [.ref h] (ed_w cI h q eb t n) (fun z u => z = n ∧ u = ed_w cI h q eb t n) 0 0 := by
  refine ct_enterI (cc := b_Edges_edgesSoFar) (maxL := 1) (ret := (some .int)) (by decide +kernel) (Nat.le_of_ble_eq_true rfl) ?_
  intro p e s m args below meth c hx hb hml hr ht hown hlk hnm A Q hA hK hP hD hQ ls hl
  have hown : s.vm.findClass R_Edges = some m.cls := hown
  have hS : va_S A s.heap s.heap [] := va_S.rf
  have hl : lv_has ls 1 [(0, .ref h)] := hl
  refine lv_aload_n hx hb d_Edges_edgesSoFar_0 rfl (lv_at hl 0 rfl) ?_
  refine va_get (D := D) (ci := 1) (v := .int n) (C := R_Edges) (T := T_Edges) (N := 3) hx hb ht in_Edges hown hK hP 0 rfl rfl 2 (by decide) (ht _ kl_Edges_19) (fun _ h9 => h9) rfl d_Edges_edgesSoFar_1 ?_
  exact ct_iret hQ hx hb hr hlk hP hD hS hK (by omega) (by omega) d_Edges_edgesSoFar_4 (⟨rfl, rfl⟩)
set_option maxHeartbeats 4000000 in
set_option maxRecDepth 100000 in
theorem c_Edges_make (l : Launch) (D : va_G) (cI cZ cJ cG : ClassId) (h q : Nat) (eb : Nat → Option Nat) (t n : Int32) (r : Nat) (x : Option Nat) (hr9 : r < 12) : ct_V l D kls (ty4 cI cZ cJ cG) y_Edges_make ws_Edges_make (rm_ 0 0 0 0) [.ref h, .int (nI r), .int (bm_em x)] (ed_w cI h q eb t n) (fun u => u = ed_w cI h q (bm_up1 eb r x) (t ||| bm_em x) (n + nI 1)) 0 0 := by
  refine ct_enterV (cc := b_Edges_make) (maxL := 3) (ret := none) (by decide +kernel) (Nat.le_of_ble_eq_true rfl) ?_
  intro p e s m args below meth c hx hb hml hr ht hown hlk hnm A Q hA hK hP hD hQ ls hl
  have hown : s.vm.findClass R_Edges = some m.cls := hown
  have hS : va_S A s.heap s.heap [] := va_S.rf
  have hl : lv_has ls 3 [(0, .ref h), (1, .int (nI r)), (2, .int (bm_em x))] := hl
  refine lv_aload_n hx hb d_Edges_make_0 rfl (lv_at hl 0 rfl) ?_
  refine va_get (D := D) (ci := 1) (v := .ref q) (C := R_Edges) (T := T_Edges) (N := 3) hx hb ht in_Edges hown hK hP 0 rfl rfl 0 (by decide) (ht _ kl_Edges_9) (fun _ h9 => h9) rfl d_Edges_make_1 ?_
  refine lv_iload_n hx hb d_Edges_make_4 rfl (lv_at hl 1 rfl) ?_
  refine lv_iload_n hx hb d_Edges_make_5 rfl (lv_at hl 2 rfl) ?_
  refine ri_iast hx hb hK hP hD hS 1 0 rfl rfl (j := r) (by omega) (by omega) d_Edges_make_6 (fun H locs hP hD hS => ?_)
  have hP : va_P D kls ([(h, .inr (1, [.ref q, .int t, .int n])), (q, .inl (cI, 12, .inl (upd (eN eb) r (bm_em x))))]) H := hP
  have hD : va_D A ([(h, .inr (1, [.ref q, .int t, .int n])), (q, .inl (cI, 12, .inl (upd (eN eb) r (bm_em x))))]) := hD
  refine lv_aload_n hx hb d_Edges_make_7 rfl (lv_at hl 0 rfl) ?_
  refine lv_dup hx hb d_Edges_make_8 rfl ?_
  refine va_get (D := D) (ci := 1) (v := .int t) (C := R_Edges) (T := T_Edges) (N := 3) hx hb ht in_Edges hown hK hP 0 rfl rfl 1 (by decide) (ht _ kl_Edges_15) (fun _ h9 => h9) rfl d_Edges_make_9 ?_
  refine lv_iload_n hx hb d_Edges_make_12 rfl (lv_at hl 2 rfl) ?_
  refine lv_ior hx hb d_Edges_make_13 ?_
  refine va_put (D := D) (ci := 1) (v := .int (t ||| (bm_em x))) (ty := .int) (C := R_Edges) (T := T_Edges) (N := 3) hx hb ht in_Edges t_Edges ok_Edges nm_Edges hown hK hP hD hS 0 rfl rfl 1 (by decide) (ht _ kl_Edges_15) (fun _ h9 => h9) rfl (by decide +kernel) rfl rfl (Nat.le_of_ble_eq_true rfl) d_Edges_make_14 (fun H locs hP hD hS => ?_)
  have hP : va_P D kls ([(h, .inr (1, [.ref q, .int (t ||| (bm_em x)), .int n])), (q, .inl (cI, 12, .inl (upd (eN eb) r (bm_em x))))]) H := hP
  have hD : va_D A ([(h, .inr (1, [.ref q, .int (t ||| (bm_em x)), .int n])), (q, .inl (cI, 12, .inl (upd (eN eb) r (bm_em x))))]) := hD
  refine lv_aload_n hx hb d_Edges_make_17 rfl (lv_at hl 0 rfl) ?_
  refine lv_dup hx hb d_Edges_make_18 rfl ?_
  refine va_get (D := D) (ci := 1) (v := .int n) (C := R_Edges) (T := T_Edges) (N := 3) hx hb ht in_Edges hown hK hP 0 rfl rfl 2 (by decide) (ht _ kl_Edges_19) (fun _ h9 => h9) rfl d_Edges_make_19 ?_
  refine lv_iconst (v := nI 1) hx hb d_Edges_make_22 (by decide) ?_
  refine lv_iadd hx hb d_Edges_make_23 ?_
  refine va_put (D := D) (ci := 1) (v := .int (n + (nI 1))) (ty := .int) (C := R_Edges) (T := T_Edges) (N := 3) hx hb ht in_Edges t_Edges ok_Edges nm_Edges hown hK hP hD hS 0 rfl rfl 2 (by decide) (ht _ kl_Edges_19) (fun _ h9 => h9) rfl (by decide +kernel) rfl rfl (Nat.le_of_ble_eq_true rfl) d_Edges_make_24 (fun H locs hP hD hS => ?_)
  have hP : va_P D kls ([(h, .inr (1, [.ref q, .int (t ||| (bm_em x)), .int (n + (nI 1))])), (q, .inl (cI, 12, .inl (upd (eN eb) r (bm_em x))))]) H := hP
  have hD : va_D A ([(h, .inr (1, [.ref q, .int (t ||| (bm_em x)), .int (n + (nI 1))])), (q, .inl (cI, 12, .inl (upd (eN eb) r (bm_em x))))]) := hD
  exact ct_vret hQ hx hb hr hlk hP hD hS hK (by omega) (by omega) d_Edges_make_27 (by rw [eN_up])
set_option maxHeartbeats 4000000 in
set_option maxRecDepth 100000 in
theorem c_Edges_init (l : Launch) (D : va_G) (cI cZ cJ cG : ClassId) (h : Nat)  : ct_V l D kls (ty4 cI cZ cJ cG) y_Edges_init ws_Edges_init (rm_ 1 12 1 12) [.ref h] ([(h, .inr (1, [.null, .int (nI 0), .int (nI 0)]))]) (fun u => ∃ q, u = ed_w cI h q (fun _ => none) (nI 0) (nI 0)) 1 12 := by
  refine ct_enterV (cc := b_Edges_init) (maxL := 1) (ret := none) (by decide +kernel) (Nat.le_of_ble_eq_true rfl) ?_
  intro p e s m args below meth c hx hb hml hr ht hown hlk hnm A Q hA hK hP hD hQ ls hl
  have hown : s.vm.findClass R_Edges = some m.cls := hown
  have hS : va_S A s.heap s.heap [] := va_S.rf
  have hl : lv_has ls 1 [(0, .ref h)] := hl
  refine lv_aload_n hx hb d_Edges_init_0 rfl (lv_at hl 0 rfl) ?_
  refine W.objInit hx hb hown (ht _ kl_Edges_3) (ht _ ki_objectInit) (ht _ kc_objectInit) rfl (by rw [hml]; exact hl.1) rfl d_Edges_init_1 (Nat.le_of_ble_eq_true rfl) (Nat.le_of_ble_eq_true rfl) ?_
  refine W.eq (g2 := F0 m 4 ls []) rfl ?_
  refine lv_aload_n hx hb d_Edges_init_4 rfl (lv_at hl 0 rfl) ?_
  refine lv_bipush (v := nI 12) hx hb d_Edges_init_5 (by decide) ?_
  refine ri_newi hx hb (ht _ ka_int) hK hP hD hS hA 0 rfl (by omega) (show 0 + 1 ≤ 1 by omega) (show 0 + 12 ≤ 12 by omega) d_Edges_init_7 (fun q7 H hP hD hS => ?_)
  have hP : va_P D kls ([(h, .inr (1, [.null, .int (nI 0), .int (nI 0)])), (q7, .inl (cI, 12, .inl (fun _ => 0)))]) H := hP
  have hD : va_D A ([(h, .inr (1, [.null, .int (nI 0), .int (nI 0)])), (q7, .inl (cI, 12, .inl (fun _ => 0)))]) := hD
  refine va_putF (D := D) (ci := 1) (v := .ref q7) (ty := (.array .int)) (C := R_Edges) (T := T_Edges) (N := 3) hx hb ht in_Edges t_Edges ok_Edges nm_Edges hown hK hP hD hS 0 rfl rfl 0 (by decide) (ht _ kl_Edges_9) (fun _ h9 => h9) rfl hnm rfl (by decide +kernel) rfl rfl (Nat.le_of_ble_eq_true rfl) d_Edges_init_9 (fun H locs hP hD hS => ?_)
  have hP : va_P D kls ([(h, .inr (1, [.ref q7, .int (nI 0), .int (nI 0)])), (q7, .inl (cI, 12, .inl (fun _ => 0)))]) H := hP
  have hD : va_D A ([(h, .inr (1, [.ref q7, .int (nI 0), .int (nI 0)])), (q7, .inl (cI, 12, .inl (fun _ => 0)))]) := hD
  exact ct_vret hQ hx hb hr hlk hP hD hS hK (by omega) (by omega) d_Edges_init_12 (⟨q7, rfl⟩)
