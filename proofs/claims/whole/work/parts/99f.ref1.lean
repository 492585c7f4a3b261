/-! The reference: what is asked first; advertisements, messages. -/
theorem in_rg {a b : Nat} (ha : a < 2 ^ 31) (hb : b < 2 ^ 31) (x : Int32) : decide (lN a ≤ x.toInt64 ∧ x.toInt64 ≤ lN b) = rg a ((b : Int) + 1) x := by
  unfold rg
  apply decide_eq_decide.mpr
  rw [Int64.le_iff_toInt_le, Int64.le_iff_toInt_le, Int32.toInt_toInt64, lN_toInt ha, lN_toInt hb]
  omega
theorem oI_lt {o : Option Nat} (h : ∀ b, o = some b → b < 2147483648) : bm_oI o < 0 ↔ o = none := by
  cases o with
  | none => exact ⟨fun _ => rfl, fun _ => by decide⟩
  | some b => exact ⟨fun z => absurd z (nI_pos (h b rfl)), fun z => by cases z⟩
/-- the messages, in the reference's ring -/
def mr_R (f : Nat → Int32) (ma : Nat) (M : bm_M Nat) : Prop := ma < 4000 ∧ ∀ i, i < M.2.1 → f ((ma + i) % 4000) = nI ((M.2.2 i 2 - 1) * 256 + M.2.2 i 0 * 16 + M.2.2 i 1) ∧ 1 ≤ M.2.2 i 2
theorem mr_push {f : Nat → Int32} {ma : Nat} {M : bm_M Nat} (h : mr_R f ma M) (hn : M.2.1 < 4000) (a b ad id : Nat) (hid : id = ad + 1) : mr_R (upd f ((ma + M.2.1) % 4000) (nI (ad * 256 + a * 16 + b))) ma (bm_push M (bm_row3 a b id)) := by
  refine ⟨h.1, fun i hi => ?_⟩
  have hi : i < M.2.1 + 1 := hi
  by_cases e : i = M.2.1
  · rw [e, bm_push_at]
    refine ⟨?_, by show 1 ≤ id; omega⟩
    show (if (ma + M.2.1) % 4000 = (ma + M.2.1) % 4000 then _ else _) = nI ((id - 1) * 256 + a * 16 + b)
    rw [if_pos rfl, show id - 1 = ad by omega]
  · rw [bm_push_old M _ (show i < M.2.1 by omega)]
    refine ⟨?_, (h.2 i (by omega)).2⟩
    show (if (ma + i) % 4000 = (ma + M.2.1) % 4000 then _ else f ((ma + i) % 4000)) = _
    have h1 := h.1
    rw [if_neg (by omega)]
    exact (h.2 i (by omega)).1
theorem mg_or {ad f t : Nat} (hf : f < 16) (ht : t < 16) : ((ad * 2 ^ 8) ||| (f * 2 ^ 4)) ||| t = ad * 256 + f * 16 + t := by
  have h1 := Nat.shiftLeft_add_eq_or_of_lt (i := 8) (b := f * 16 + t) (show f * 16 + t < 2 ^ 8 by omega) ad
  have h2 := Nat.shiftLeft_add_eq_or_of_lt (i := 4) (b := t) (show t < 2 ^ 4 by omega) f
  rw [Nat.shiftLeft_eq] at h1 h2
  rw [Nat.or_assoc, ← h2, show f * 2 ^ 4 + t = f * 16 + t by omega, ← h1]
  omega
theorem bm_sa_n (kn : Nat → Nat → Nat) (ex : Option Nat) (r id : Nat) (M : bm_M Nat) : ∀ j, (bm_sa kn ex r id M j).2.1 ≤ M.2.1 + j
  | 0 => Nat.le_refl _
  | j + 1 => by
    have h := bm_sa_n kn ex r id M j
    unfold bm_sa
    split
    · show (bm_sa kn ex r id M j).2.1 + 1 ≤ _
      omega
    · omega
theorem bm_ss_n (hd : Nat → Nat → Nat) (a b : Nat) (M : bm_M Nat) : ∀ j, (bm_ss hd a b M j).2.1 ≤ M.2.1 + j
  | 0 => Nat.le_refl _
  | j + 1 => by
    have h := bm_ss_n hd a b M j
    unfold bm_ss
    split
    · show (bm_ss hd a b M j).2.1 + 1 ≤ _
      omega
    · omega
theorem pkn6 {f : Nat → Nat} (hf : ∀ j, j < 6 → f j < 1024) : pkn f 6 < 2 ^ 63 := by
  rw [pkn_congr (g := fun j => if j < 6 then f j else 0) 6 (fun j hj => (if_pos hj).symm)]
  refine Nat.lt_of_lt_of_le (pkn_lt (fun j => ?_) 6) (by decide)
  show (if j < 6 then f j else 0) < 1024
  split
  · exact hf j ‹_›
  · omega
theorem told_at {f : Nat → Nat} (hf : ∀ j, j < 6 → f j < 1024) {n : Nat} (hn : n < 6) : (pkn f 6 / 2 ^ (10 * (n % 6))) &&& 1023 = f n := by
  rw [show 1023 = 2 ^ 10 - 1 from rfl, Nat.and_two_pow_sub_one_eq_mod, Nat.mod_eq_of_lt hn, Nat.pow_mul]
  rw [pkn_congr (g := fun j => if j < 6 then f j else 0) 6 (fun j hj => (if_pos hj).symm)]
  refine (pkn_at (fun j => ?_) 6 hn).trans (if_pos hn)
  show (if j < 6 then f j else 0) < 1024
  split
  · exact hf j ‹_›
  · omega
theorem told_at2 {f : Nat → Nat} (hf : ∀ j, j < 12 → f j < 1024) {n : Nat} (hn : 6 ≤ n) (hn2 : n < 12) : (pkn (fun j => f (6 + j)) 6 / 2 ^ (10 * (n % 6))) &&& 1023 = f n := by
  have h := told_at (f := fun j => f (6 + j)) (fun j hj => hf _ (by omega)) (show n - 6 < 6 by omega)
  rw [show (n - 6) % 6 = n % 6 by omega] at h
  rw [h, show 6 + (n - 6) = n by omega]
set_option maxHeartbeats 800000 in
set_option maxRecDepth 100000 in
theorem k_Ref_in (l : Launch) (D : va_G) (cI cZ cJ cG : ClassId)  (v lo hi : Int64) : ct_I l D kls (ty4 cI cZ cJ cG) y_Ref_in ws_Ref_in (rm_ 0 0 0 0) [.long v, .long lo, .long hi] ([]) (fun z u => z = bI (decide (lo ≤ v ∧ v ≤ hi)) ∧ u = []) 0 0 := by
  refine ct_enterI (cc := b_Ref_in) (maxL := 6) (ret := (some .boolean)) (by decide +kernel) (Nat.le_of_ble_eq_true rfl) ?_
  intro p e s m args below meth c hx hb hml hr ht hown hlk hnm A Q hA hK hP hD hQ ls hl
  have hown : s.vm.findClass R_Ref = some m.cls := hown
  have hS : va_S A s.heap s.heap [] := va_S.rf
  have hl : lv_has ls 6 [(0, .long v), (2, .long lo), (4, .long hi)] := hl
  refine lv_lload_n hx hb d_Ref_in_0 rfl (lv_at hl 0 rfl) ?_
  refine lv_lload_n hx hb d_Ref_in_1 rfl (lv_at hl 1 rfl) ?_
  refine ri_lcmp hx hb d_Ref_in_2 ?_
  refine lv_if_lt hx hb d_Ref_in_3 (tgt := 17) (by decide) (fun h3 => ?_) (fun h3 => ?_)
  · refine lv_iconst (v := nI 0) hx hb d_Ref_in_17 (by decide) ?_
    exact ct_zret (b := false) hQ hx hb hr hlk hP hD hS hK (by omega) (by omega) d_Ref_in_18 (⟨congrArg bI (decide_eq_false (fun z => by first | exact Int64.not_lt.mpr z.1 (lc_lt.mp h3) | exact Int64.not_lt.mpr z.2 (lc_gt.mp h10))).symm, rfl⟩)
  · refine lv_lload_n hx hb d_Ref_in_6 rfl (lv_at hl 0 rfl) ?_
    refine lv_lload hx hb d_Ref_in_7 (lv_at hl 2 rfl) ?_
    refine ri_lcmp hx hb d_Ref_in_9 ?_
    refine lv_if_gt hx hb d_Ref_in_10 (tgt := 17) (by decide) (fun h10 => ?_) (fun h10 => ?_)
    · refine lv_iconst (v := nI 0) hx hb d_Ref_in_17 (by decide) ?_
      exact ct_zret (b := false) hQ hx hb hr hlk hP hD hS hK (by omega) (by omega) d_Ref_in_18 (⟨congrArg bI (decide_eq_false (fun z => by first | exact Int64.not_lt.mpr z.1 (lc_lt.mp h3) | exact Int64.not_lt.mpr z.2 (lc_gt.mp h10))).symm, rfl⟩)
    · refine lv_iconst (v := nI 1) hx hb d_Ref_in_13 (by decide) ?_
      refine lv_goto hx hb d_Ref_in_14 (tgt := 18) (by decide) ?_
      exact ct_zret (b := true) hQ hx hb hr hlk hP hD hS hK (by omega) (by omega) d_Ref_in_18 (⟨congrArg bI (decide_eq_true ⟨Int64.not_lt.mp (fun z => h3 (lc_lt.mpr z)), Int64.not_lt.mp (fun z => h10 (lc_gt.mpr z))⟩).symm, rfl⟩)
set_option maxHeartbeats 800000 in
set_option maxRecDepth 100000 in
theorem k_Ref_isRouter (l : Launch) (D : va_G) (cI cZ cJ cG : ClassId)  (x : Int32) : ct_I l D kls (ty4 cI cZ cJ cG) y_Ref_isRouter ws_Ref_isRouter (rm_ 1 25 0 0) [.int x] ([]) (fun z u => z = bI (rg 0 12 x) ∧ u = []) 0 0 := by
  refine ct_enterI (cc := b_Ref_isRouter) (maxL := 1) (ret := (some .boolean)) (by decide +kernel) (Nat.le_of_ble_eq_true rfl) ?_
  intro p e s m args below meth c hx hb hml hr ht hown hlk hnm A Q hA hK hP hD hQ ls hl
  have hown : s.vm.findClass R_Ref = some m.cls := hown
  have hS : va_S A s.heap s.heap [] := va_S.rf
  have hl : lv_has ls 1 [(0, .int x)] := hl
  refine lv_iload_n hx hb d_Ref_isRouter_0 rfl (lv_at hl 0 rfl) ?_
  refine lv_i2l (v := x.toInt64) hx hb d_Ref_isRouter_1 rfl ?_
  refine lv_lconst (v := lN 0) hx hb d_Ref_isRouter_2 rfl ?_
  refine lv_ldc2 (v := lN 11) hx hb hown (ht _ kl_Ref_76) d_Ref_isRouter_3 ?_
  refine ct_rdS (As := [.long x.toInt64, .long (lN 0), .long (lN 11)]) (rest := []) ⟨hx, hb, hml, hown, ht⟩ (k_Ref_in l D cI cZ cJ cG (x).toInt64 (lN 0) (lN 11)) (cb_S ht kc_Ref_in kl_Ref_78 kn_Ref ki_Ref_in hd_Ref_in ⟨Nat.le_of_ble_eq_true rfl, Nat.le_of_ble_eq_true rfl⟩) (wd_ct (Bs := []) 0 rfl [] [] (by decide) rfl) hK hP hD hS hA rfl hl.1 rfl (Nat.le_of_ble_eq_true rfl) ⟨(show 0 + 0 ≤ 0 by omega), (show 0 + 0 ≤ 0 by omega)⟩ d_Ref_isRouter_6 (fun rhr101 H locs hr101 hP hD hS => ?_)
  subst hr101
  refine W.eq (g2 := F0 m 9 ls [.int (bI (rg 0 12 (x)))]) (congrArg (fun z => F0 m 9 ls (.int z :: [])) (congrArg bI (in_rg (a := 0) (b := 11) (by decide) (by decide) (x)))) ?_
  exact ct_zret (b := rg 0 12 (x)) hQ hx hb hr hlk hP hD hS hK (by omega) (by omega) d_Ref_isRouter_9 (⟨rfl, rfl⟩)
set_option maxHeartbeats 800000 in
set_option maxRecDepth 100000 in
theorem k_Ref_isGroup (l : Launch) (D : va_G) (cI cZ cJ cG : ClassId)  (x : Int32) : ct_I l D kls (ty4 cI cZ cJ cG) y_Ref_isGroup ws_Ref_isGroup (rm_ 1 25 0 0) [.int x] ([]) (fun z u => z = bI (rg 0 8 x) ∧ u = []) 0 0 := by
  refine ct_enterI (cc := b_Ref_isGroup) (maxL := 1) (ret := (some .boolean)) (by decide +kernel) (Nat.le_of_ble_eq_true rfl) ?_
  intro p e s m args below meth c hx hb hml hr ht hown hlk hnm A Q hA hK hP hD hQ ls hl
  have hown : s.vm.findClass R_Ref = some m.cls := hown
  have hS : va_S A s.heap s.heap [] := va_S.rf
  have hl : lv_has ls 1 [(0, .int x)] := hl
  refine lv_iload_n hx hb d_Ref_isGroup_0 rfl (lv_at hl 0 rfl) ?_
  refine lv_i2l (v := x.toInt64) hx hb d_Ref_isGroup_1 rfl ?_
  refine lv_lconst (v := lN 0) hx hb d_Ref_isGroup_2 rfl ?_
  refine lv_ldc2 (v := lN 7) hx hb hown (ht _ kl_Ref_86) d_Ref_isGroup_3 ?_
  refine ct_rdS (As := [.long x.toInt64, .long (lN 0), .long (lN 7)]) (rest := []) ⟨hx, hb, hml, hown, ht⟩ (k_Ref_in l D cI cZ cJ cG (x).toInt64 (lN 0) (lN 7)) (cb_S ht kc_Ref_in kl_Ref_78 kn_Ref ki_Ref_in hd_Ref_in ⟨Nat.le_of_ble_eq_true rfl, Nat.le_of_ble_eq_true rfl⟩) (wd_ct (Bs := []) 0 rfl [] [] (by decide) rfl) hK hP hD hS hA rfl hl.1 rfl (Nat.le_of_ble_eq_true rfl) ⟨(show 0 + 0 ≤ 0 by omega), (show 0 + 0 ≤ 0 by omega)⟩ d_Ref_isGroup_6 (fun rhr101 H locs hr101 hP hD hS => ?_)
  subst hr101
  refine W.eq (g2 := F0 m 9 ls [.int (bI (rg 0 8 (x)))]) (congrArg (fun z => F0 m 9 ls (.int z :: [])) (congrArg bI (in_rg (a := 0) (b := 7) (by decide) (by decide) (x)))) ?_
  exact ct_zret (b := rg 0 8 (x)) hQ hx hb hr hlk hP hD hS hK (by omega) (by omega) d_Ref_isGroup_9 (⟨rfl, rfl⟩)
def rf_isE (eb : Nat → Option Nat) (x : Int32) : Bool := rg 0 12 x && (eb x.toNatClampNeg).isSome
theorem rf_isE_n {eb : Nat → Option Nat} {r : Nat} (hr : r < 12) : rf_isE eb (nI r) = (eb r).isSome := by
  unfold rf_isE
  rw [rg_t12 hr, nI_clamp (show r < 2 ^ 31 by omega), Bool.true_and]
theorem rf_isE_f {eb : Nat → Option Nat} {x : Int32} (h : rg 0 12 x = false) : rf_isE eb x = false := by
  unfold rf_isE
  rw [h, Bool.false_and]
set_option maxHeartbeats 800000 in
set_option maxRecDepth 100000 in
theorem k_Ref_isEdge (l : Launch) (D : va_G) (cI cZ cJ cG : ClassId) {h : Nat} {qs : Nat → Nat} {cd dv ex lb lm : Int32} {ma mn ca cn na nn pk : Nat} {eb : Nat → Option Nat} (heb : ∀ r b, eb r = some b → b < 32) (x : Int32) : ct_I l D kls (ty4 cI cZ cJ cG) y_Ref_isEdge ws_Ref_isEdge (rm_ 2 45 0 0) [.ref h, .int x] (List.flatten [[rf_o h qs cd ma mn ca cn na nn pk dv ex lb lm], [(qs 0, .inl (cI, 12, .inl (lI eb)))]]) (fun z u => z = bI (rf_isE eb x) ∧ u = List.flatten [[rf_o h qs cd ma mn ca cn na nn pk dv ex lb lm], [(qs 0, .inl (cI, 12, .inl (lI eb)))]]) 0 0 := by
  refine ct_enterI (cc := b_Ref_isEdge) (maxL := 2) (ret := (some .boolean)) (by decide +kernel) (Nat.le_of_ble_eq_true rfl) ?_
  intro p e s m args below meth c hx hb hml hr ht hown hlk hnm A Q hA hK hP hD hQ ls hl
  have hown : s.vm.findClass R_Ref = some m.cls := hown
  have hS : va_S A s.heap s.heap [] := va_S.rf
  have hl : lv_has ls 2 [(0, .ref h), (1, .int x)] := hl
  refine lv_iload_n hx hb d_Ref_isEdge_0 rfl (lv_at hl 1 rfl) ?_
  refine ct_rdS (As := [.int x]) (rest := []) ⟨hx, hb, hml, hown, ht⟩ (k_Ref_isRouter l D cI cZ cJ cG (x)) (cb_S ht kc_Ref_isRouter kl_Ref_82 kn_Ref ki_Ref_isRouter hd_Ref_isRouter ⟨Nat.le_of_ble_eq_true rfl, Nat.le_of_ble_eq_true rfl⟩) (wd_ct (Bs := [[rf_o h qs cd ma mn ca cn na nn pk dv ex lb lm], [(qs 0, .inl (cI, 12, .inl (lI eb)))]]) 2 rfl [] [0, 1] (by decide) rfl) hK hP hD hS hA rfl hl.1 rfl (Nat.le_of_ble_eq_true rfl) ⟨(show 0 + 0 ≤ 0 by omega), (show 0 + 0 ≤ 0 by omega)⟩ d_Ref_isEdge_1 (fun rhr101 H locs hr101 hP hD hS => ?_)
  subst hr101
  refine ri_ifeqB hx hb d_Ref_isEdge_4 (tgt := 20) (by decide) (fun h4 => ?_) (fun h4 => ?_)
  · refine lv_iconst (v := nI 0) hx hb d_Ref_isEdge_20 (by decide) ?_
    exact ct_zret (b := false) hQ hx hb hr hlk hP hD hS hK (by omega) (by omega) d_Ref_isEdge_21 (⟨congrArg bI (by first | exact (rf_isE_f h4).symm | (rw [rf_isE_n hr9, (oI_lt (fun b z => Nat.lt_trans (heb _ b z) (by decide))).mp h13]; rfl)), rfl⟩)
  · obtain ⟨r, hr9, rfl⟩ := rg_n (k := 12) h4
    have hl : lv_has ls 2 [(0, .ref h), (1, .int (nI r))] := hl
    refine lv_aload_n hx hb d_Ref_isEdge_7 rfl (lv_at hl 0 rfl) ?_
    refine va_get (D := D) (ci := 9) (v := .ref (qs 0)) (C := R_Ref) (T := T_Ref) (N := 32) hx hb ht in_Ref hown hK hP 0 rfl rfl 1 (by decide) (ht _ kl_Ref_7) (fun _ h9 => h9) rfl d_Ref_isEdge_8 ?_
    refine lv_iload_n hx hb d_Ref_isEdge_11 rfl (lv_at hl 1 rfl) ?_
    refine ri_iald hx hb hK hP 1 0 rfl rfl (j := r) (by omega) (by omega) d_Ref_isEdge_12 ?_
    refine W.eq (g2 := F0 m 13 ls [.int (bm_oI (eb r))]) rfl ?_
    refine lv_if_lt hx hb d_Ref_isEdge_13 (tgt := 20) (by decide) (fun h13 => ?_) (fun h13 => ?_)
    · refine lv_iconst (v := nI 0) hx hb d_Ref_isEdge_20 (by decide) ?_
      exact ct_zret (b := false) hQ hx hb hr hlk hP hD hS hK (by omega) (by omega) d_Ref_isEdge_21 (⟨congrArg bI (by first | exact (rf_isE_f h4).symm | (rw [rf_isE_n hr9, (oI_lt (fun b z => Nat.lt_trans (heb _ b z) (by decide))).mp h13]; rfl)), rfl⟩)
    · refine lv_iconst (v := nI 1) hx hb d_Ref_isEdge_16 (by decide) ?_
      refine lv_goto hx hb d_Ref_isEdge_17 (tgt := 21) (by decide) ?_
      exact ct_zret (b := true) hQ hx hb hr hlk hP hD hS hK (by omega) (by omega) d_Ref_isEdge_21 (⟨congrArg bI (by rw [rf_isE_n hr9]; cases hq : eb r with | none => exact absurd ((oI_lt (fun b z => Nat.lt_trans (heb _ b z) (by decide))).mpr hq) h13 | some b => rfl), rfl⟩)
set_option maxHeartbeats 800000 in
set_option maxRecDepth 100000 in
theorem k_Ref_thrown (l : Launch) (D : va_G) (cI cZ cJ cG : ClassId) {h : Nat} {qs : Nat → Nat} {cd dv ex lb lm : Int32} {ma mn ca cn na nn pk : Nat}   : ct_I l D kls (ty4 cI cZ cJ cG) y_Ref_thrown ws_Ref_thrown (rm_ 0 0 0 0) [.ref h] (List.flatten [[rf_o h qs cd ma mn ca cn na nn pk dv ex lb lm]]) (fun z u => z = cd ∧ u = List.flatten [[rf_o h qs cd ma mn ca cn na nn pk dv ex lb lm]]) 0 0 := by
  refine ct_enterI (cc := b_Ref_thrown) (maxL := 1) (ret := (some .int)) (by decide +kernel) (Nat.le_of_ble_eq_true rfl) ?_
  intro p e s m args below meth c hx hb hml hr ht hown hlk hnm A Q hA hK hP hD hQ ls hl
  have hown : s.vm.findClass R_Ref = some m.cls := hown
  have hS : va_S A s.heap s.heap [] := va_S.rf
  have hl : lv_has ls 1 [(0, .ref h)] := hl
  refine lv_aload_n hx hb d_Ref_thrown_0 rfl (lv_at hl 0 rfl) ?_
  refine va_get (D := D) (ci := 9) (v := .int cd) (C := R_Ref) (T := T_Ref) (N := 32) hx hb ht in_Ref hown hK hP 0 rfl rfl 0 (by decide) (ht _ kl_Ref_72) (fun _ h9 => h9) rfl d_Ref_thrown_1 ?_
  exact ct_iret hQ hx hb hr hlk hP hD hS hK (by omega) (by omega) d_Ref_thrown_4 (⟨rfl, rfl⟩)
set_option maxHeartbeats 800000 in
set_option maxRecDepth 100000 in
theorem k_Ref_raise (l : Launch) (D : va_G) (cI cZ cJ cG : ClassId) {h : Nat} {qs : Nat → Nat} {cd dv ex lb lm : Int32} {ma mn ca cn na nn pk : Nat}  (x : Int32) : ct_I l D kls (ty4 cI cZ cJ cG) y_Ref_raise ws_Ref_raise (rm_ 0 0 0 0) [.ref h, .int x] (List.flatten [[rf_o h qs cd ma mn ca cn na nn pk dv ex lb lm]]) (fun z u => z = nI 0 ∧ u = List.flatten [[rf_o h qs x ma mn ca cn na nn pk dv ex lb lm]]) 0 0 := by
  refine ct_enterI (cc := b_Ref_raise) (maxL := 2) (ret := (some .int)) (by decide +kernel) (Nat.le_of_ble_eq_true rfl) ?_
  intro p e s m args below meth c hx hb hml hr ht hown hlk hnm A Q hA hK hP hD hQ ls hl
  have hown : s.vm.findClass R_Ref = some m.cls := hown
  have hS : va_S A s.heap s.heap [] := va_S.rf
  have hl : lv_has ls 2 [(0, .ref h), (1, .int x)] := hl
  refine lv_aload_n hx hb d_Ref_raise_0 rfl (lv_at hl 0 rfl) ?_
  refine lv_iload_n hx hb d_Ref_raise_1 rfl (lv_at hl 1 rfl) ?_
  refine va_put (D := D) (ci := 9) (v := .int x) (ty := .int) (C := R_Ref) (T := T_Ref) (N := 32) hx hb ht in_Ref t_Ref ok_Ref nm_Ref hown hK hP hD hS 0 rfl rfl 0 (by decide) (ht _ kl_Ref_72) (fun _ h9 => h9) rfl (by decide +kernel) rfl rfl (Nat.le_of_ble_eq_true rfl) d_Ref_raise_2 (fun H locs hP hD hS => ?_)
  have hP : va_P D kls (List.flatten [[rf_o h qs x ma mn ca cn na nn pk dv ex lb lm]]) H := hP
  have hD : va_D A (List.flatten [[rf_o h qs x ma mn ca cn na nn pk dv ex lb lm]]) := hD
  refine lv_iconst (v := nI 0) hx hb d_Ref_raise_5 (by decide) ?_
  exact ct_iret hQ hx hb hr hlk hP hD hS hK (by omega) (by omega) d_Ref_raise_6 (⟨rfl, rfl⟩)
set_option maxHeartbeats 800000 in
set_option maxRecDepth 100000 in
theorem k_Ref_told (l : Launch) (D : va_G) (cI cZ cJ cG : ClassId) {h : Nat} {qs : Nat → Nat} {cd dv ex lb lm : Int32} {ma mn ca cn na nn pk : Nat} {fL fH : Nat → Int64} (wt : Nat → Nat) (hw : ∀ j, j < 12 → wt j < 1024) (ad n : Nat) (had : ad < 1600) (hn : n < 12) (hL : fL ad = lN (pkn wt 6)) (hH : fH ad = lN (pkn (fun j => wt (6 + j)) 6)) : ct_I l D kls (ty4 cI cZ cJ cG) y_Ref_told ws_Ref_told (rm_ 0 0 0 0) [.ref h, .int (nI ad), .int (nI n)] (List.flatten [[rf_o h qs cd ma mn ca cn na nn pk dv ex lb lm], [(qs 6, .inl (cJ, 1600, .inr (.inl fL)))], [(qs 7, .inl (cJ, 1600, .inr (.inl fH)))]]) (fun z u => z = nI (wt n) ∧ u = List.flatten [[rf_o h qs cd ma mn ca cn na nn pk dv ex lb lm], [(qs 6, .inl (cJ, 1600, .inr (.inl fL)))], [(qs 7, .inl (cJ, 1600, .inr (.inl fH)))]]) 0 0 := by
  refine ct_enterI (cc := b_Ref_told) (maxL := 5) (ret := (some .int)) (by decide +kernel) (Nat.le_of_ble_eq_true rfl) ?_
  intro p e s m args below meth c hx hb hml hr ht hown hlk hnm A Q hA hK hP hD hQ ls hl
  have hown : s.vm.findClass R_Ref = some m.cls := hown
  have hS : va_S A s.heap s.heap [] := va_S.rf
  have hl : lv_has ls 5 [(0, .ref h), (1, .int (nI ad)), (2, .int (nI n))] := hl
  refine lv_iload_n hx hb d_Ref_told_0 rfl (lv_at hl 2 rfl) ?_
  refine lv_bipush (v := nI 6) hx hb d_Ref_told_1 (by decide) ?_
  refine ri_icmp_ge hx hb (by omega) (by omega) d_Ref_told_3 (tgt := 15) (by decide) (fun h3 => ?_) (fun h3 => ?_)
  · refine lv_aload_n hx hb d_Ref_told_15 rfl (lv_at hl 0 rfl) ?_
    refine va_get (D := D) (ci := 9) (v := .ref (qs 7)) (C := R_Ref) (T := T_Ref) (N := 32) hx hb ht in_Ref hown hK hP 0 rfl rfl 8 (by decide) (ht _ kl_Ref_33) (fun _ h9 => h9) rfl d_Ref_told_16 ?_
    refine lv_iload_n hx hb d_Ref_told_19 rfl (lv_at hl 1 rfl) ?_
    refine ri_lald hx hb hK hP 2 2 rfl rfl (j := ad) (by omega) (by omega) d_Ref_told_20 ?_
    refine W.eq (g2 := F0 m 21 ls [.long (lN (pkn (fun j => wt (6 + j)) 6))]) (congrArg (fun z => F0 m 21 ls (.long z :: [])) (hH)) ?_
    refine lv_lstore_n hx hb d_Ref_told_21 rfl hl (by decide) rfl (fun ls hl => ?_)
    have hl : lv_has ls 5 [(3, .long (lN (pkn (fun j => wt (6 + j)) 6))), (0, .ref h), (1, .int (nI ad)), (2, .int (nI n))] := hl
    refine lv_lload_n hx hb d_Ref_told_22 rfl (lv_at hl 0 rfl) ?_
    refine lv_bipush (v := nI 10) hx hb d_Ref_told_23 (by decide) ?_
    refine lv_iload_n hx hb d_Ref_told_25 rfl (lv_at hl 3 rfl) ?_
    refine lv_bipush (v := nI 6) hx hb d_Ref_told_26 (by decide) ?_
    refine ri_irem2 hx hb (by omega) (by omega) (by omega) d_Ref_told_28 ?_
    refine ri_imul hx hb d_Ref_told_29 ?_
    refine ri_lshr2 hx hb (by first | exact pkn6 (fun j hj => hw j (by omega)) | exact pkn6 (fun j hj => hw _ (by omega))) (by omega) d_Ref_told_30 ?_
    refine lv_ldc2 (v := lN 1023) hx hb hown (ht _ kl_Ref_90) d_Ref_told_31 ?_
    refine ri_land2 hx hb d_Ref_told_34 ?_
    refine lv_l2i (v := nI (((pkn (fun j => wt (6 + j)) 6) / 2 ^ (10 * (n % 6))) &&& 1023)) hx hb d_Ref_told_35 (lN_i _) ?_
    exact ct_iret hQ hx hb hr hlk hP hD hS hK (by omega) (by omega) d_Ref_told_36 (⟨congrArg nI (by first | exact told_at (fun j hj => hw j (by omega)) (by omega) | exact told_at2 hw (by omega) hn), rfl⟩)
  · refine lv_aload_n hx hb d_Ref_told_6 rfl (lv_at hl 0 rfl) ?_
    refine va_get (D := D) (ci := 9) (v := .ref (qs 6)) (C := R_Ref) (T := T_Ref) (N := 32) hx hb ht in_Ref hown hK hP 0 rfl rfl 7 (by decide) (ht _ kl_Ref_29) (fun _ h9 => h9) rfl d_Ref_told_7 ?_
    refine lv_iload_n hx hb d_Ref_told_10 rfl (lv_at hl 1 rfl) ?_
    refine ri_lald hx hb hK hP 1 2 rfl rfl (j := ad) (by omega) (by omega) d_Ref_told_11 ?_
    refine W.eq (g2 := F0 m 12 ls [.long (lN (pkn wt 6))]) (congrArg (fun z => F0 m 12 ls (.long z :: [])) (hL)) ?_
    refine lv_goto hx hb d_Ref_told_12 (tgt := 21) (by decide) ?_
    refine lv_lstore_n hx hb d_Ref_told_21 rfl hl (by decide) rfl (fun ls hl => ?_)
    have hl : lv_has ls 5 [(3, .long (lN (pkn wt 6))), (0, .ref h), (1, .int (nI ad)), (2, .int (nI n))] := hl
    refine lv_lload_n hx hb d_Ref_told_22 rfl (lv_at hl 0 rfl) ?_
    refine lv_bipush (v := nI 10) hx hb d_Ref_told_23 (by decide) ?_
    refine lv_iload_n hx hb d_Ref_told_25 rfl (lv_at hl 3 rfl) ?_
    refine lv_bipush (v := nI 6) hx hb d_Ref_told_26 (by decide) ?_
    refine ri_irem2 hx hb (by omega) (by omega) (by omega) d_Ref_told_28 ?_
    refine ri_imul hx hb d_Ref_told_29 ?_
    refine ri_lshr2 hx hb (by first | exact pkn6 (fun j hj => hw j (by omega)) | exact pkn6 (fun j hj => hw _ (by omega))) (by omega) d_Ref_told_30 ?_
    refine lv_ldc2 (v := lN 1023) hx hb hown (ht _ kl_Ref_90) d_Ref_told_31 ?_
    refine ri_land2 hx hb d_Ref_told_34 ?_
    refine lv_l2i (v := nI (((pkn wt 6) / 2 ^ (10 * (n % 6))) &&& 1023)) hx hb d_Ref_told_35 (lN_i _) ?_
    exact ct_iret hQ hx hb hr hlk hP hD hS hK (by omega) (by omega) d_Ref_told_36 (⟨congrArg nI (by first | exact told_at (fun j hj => hw j (by omega)) (by omega) | exact told_at2 hw (by omega) hn), rfl⟩)
set_option maxHeartbeats 800000 in
set_option maxRecDepth 100000 in
theorem k_Ref_newPlace (l : Launch) (D : va_G) (cI cZ cJ cG : ClassId) {h : Nat} {qs : Nat → Nat} {cd dv ex lb lm : Int32} {ma mn ca cn na nn pk : Nat} {uf : Nat → Bool} (n : Nat) (hn : n < 1600) (hu : ∀ k, k < 1600 → uf k = decide (k < n)) : ct_I l D kls (ty4 cI cZ cJ cG) y_Ref_newPlace ws_Ref_newPlace (rm_ 0 0 0 0) [.ref h] (List.flatten [[rf_o h qs cd ma mn ca cn na nn pk dv ex lb lm], [(qs 8, .inl (cZ, 1600, .inl (dB uf)))]]) (fun z u => z = nI n ∧ u = List.flatten [[rf_o h qs cd ma mn ca cn na nn pk dv ex lb lm], [(qs 8, .inl (cZ, 1600, .inl (dB (bm_up1 uf n true))))]]) 0 0 := by
  refine ct_enterI (cc := b_Ref_newPlace) (maxL := 2) (ret := (some .int)) (by decide +kernel) (Nat.le_of_ble_eq_true rfl) ?_
  intro p e s m args below meth c hx hb hml hr ht hown hlk hnm A Q hA hK hP hD hQ ls hl
  have hown : s.vm.findClass R_Ref = some m.cls := hown
  have hS : va_S A s.heap s.heap [] := va_S.rf
  have hl : lv_has ls 2 [(0, .ref h)] := hl
  have loop : ∀ (k j : Nat)  (H : Heap) (locs : List Loc) (ls : Array Slot), j + k = n → va_P D kls (List.flatten [[rf_o h qs cd ma mn ca cn na nn pk dv ex lb lm], [(qs 8, .inl (cZ, 1600, .inl (dB uf)))]]) H → va_D A (List.flatten [[rf_o h qs cd ma mn ca cn na nn pk dv ex lb lm], [(qs 8, .inl (cZ, 1600, .inl (dB uf)))]]) → va_S A s.heap H locs → lv_has ls 2 [(1, .int (nI j)), (0, .ref h)] → W p l e (rm_ 0 0 0 0) s m args below meth c H locs 0 0 Q (F0 m 2 ls []) := by
    intro k
    induction k with
    | zero =>
      intro j H locs ls hk hP hD hS hl
      refine lv_iload_n hx hb d_Ref_newPlace_2 rfl (lv_at hl 0 rfl) ?_
      refine lv_sipush (v := nI 1600) hx hb d_Ref_newPlace_3 (by decide) ?_
      refine ri_icmp_ge hx hb (by omega) (by omega) d_Ref_newPlace_6 (tgt := 24) (by decide) (fun h6 => ?_) (fun h6 => ?_)
      · exact absurd h6 (by omega)
      · refine lv_aload_n hx hb d_Ref_newPlace_9 rfl (lv_at hl 1 rfl) ?_
        refine va_get (D := D) (ci := 9) (v := .ref (qs 8)) (C := R_Ref) (T := T_Ref) (N := 32) hx hb ht in_Ref hown hK hP 0 rfl rfl 9 (by decide) (ht _ kl_Ref_36) (fun _ h9 => h9) rfl d_Ref_newPlace_10 ?_
        refine lv_iload_n hx hb d_Ref_newPlace_13 rfl (lv_at hl 0 rfl) ?_
        refine ri_zald hx hb hK hP 1 1 rfl rfl (j := j) (by omega) (by omega) d_Ref_newPlace_14 ?_
        refine W.eq (g2 := F0 m 15 ls [.int (bI (uf j))]) rfl ?_
        refine ri_ifeqB hx hb d_Ref_newPlace_15 (tgt := 24) (by decide) (fun h15 => ?_) (fun h15 => ?_)
        · have hj : j = n := by first | omega | (rw [hu j (by omega)] at h15; have := of_decide_eq_false h15; omega)
          subst hj
          refine lv_iload_n hx hb d_Ref_newPlace_24 rfl (lv_at hl 0 rfl) ?_
          refine lv_sipush (v := nI 1600) hx hb d_Ref_newPlace_25 (by decide) ?_
          refine ri_icmp_ne hx hb (by omega) (by omega) d_Ref_newPlace_28 (tgt := 52) (by decide) (fun h28 => ?_) (fun h28 => ?_)
          · refine lv_aload_n hx hb d_Ref_newPlace_52 rfl (lv_at hl 1 rfl) ?_
            refine va_get (D := D) (ci := 9) (v := .ref (qs 8)) (C := R_Ref) (T := T_Ref) (N := 32) hx hb ht in_Ref hown hK hP 0 rfl rfl 9 (by decide) (ht _ kl_Ref_36) (fun _ h9 => h9) rfl d_Ref_newPlace_53 ?_
            refine lv_iload_n hx hb d_Ref_newPlace_56 rfl (lv_at hl 0 rfl) ?_
            refine lv_iconst (v := nI 1) hx hb d_Ref_newPlace_57 (by decide) ?_
            refine ri_zast (x := true) hx hb hK hP hD hS 1 1 rfl rfl (j := j) (by omega) (by omega) d_Ref_newPlace_58 (fun H locs hP hD hS => ?_)
            rw [dB_up] at hP hD
            have hP : va_P D kls (List.flatten [[rf_o h qs cd ma mn ca cn na nn pk dv ex lb lm], [(qs 8, .inl (cZ, 1600, .inl (dB (bm_up1 uf j true))))]]) H := hP
            have hD : va_D A (List.flatten [[rf_o h qs cd ma mn ca cn na nn pk dv ex lb lm], [(qs 8, .inl (cZ, 1600, .inl (dB (bm_up1 uf j true))))]]) := hD
            refine lv_iload_n hx hb d_Ref_newPlace_59 rfl (lv_at hl 0 rfl) ?_
            exact ct_iret hQ hx hb hr hlk hP hD hS hK (by omega) (by omega) d_Ref_newPlace_60 (⟨rfl, rfl⟩)
          · exact absurd h28 (by omega)
        · exact absurd (of_decide_eq_true ((hu j (by omega)).symm.trans h15)) (by omega)
    | succ k ih =>
      intro j H locs ls hk hP hD hS hl
      refine lv_iload_n hx hb d_Ref_newPlace_2 rfl (lv_at hl 0 rfl) ?_
      refine lv_sipush (v := nI 1600) hx hb d_Ref_newPlace_3 (by decide) ?_
      refine ri_icmp_ge hx hb (by omega) (by omega) d_Ref_newPlace_6 (tgt := 24) (by decide) (fun h6 => ?_) (fun h6 => ?_)
      · exact absurd h6 (by omega)
      · refine lv_aload_n hx hb d_Ref_newPlace_9 rfl (lv_at hl 1 rfl) ?_
        refine va_get (D := D) (ci := 9) (v := .ref (qs 8)) (C := R_Ref) (T := T_Ref) (N := 32) hx hb ht in_Ref hown hK hP 0 rfl rfl 9 (by decide) (ht _ kl_Ref_36) (fun _ h9 => h9) rfl d_Ref_newPlace_10 ?_
        refine lv_iload_n hx hb d_Ref_newPlace_13 rfl (lv_at hl 0 rfl) ?_
        refine ri_zald hx hb hK hP 1 1 rfl rfl (j := j) (by omega) (by omega) d_Ref_newPlace_14 ?_
        refine W.eq (g2 := F0 m 15 ls [.int (bI (uf j))]) rfl ?_
        refine ri_ifeqB hx hb d_Ref_newPlace_15 (tgt := 24) (by decide) (fun h15 => ?_) (fun h15 => ?_)
        · exact absurd (of_decide_eq_false ((hu j (by omega)).symm.trans h15)) (by omega)
        · refine ri_iinc hx hb d_Ref_newPlace_18 hl (k := 0) rfl (by decide) rfl (fun ls hl => ?_)
          have hl : lv_has ls 2 [(1, .int (nI (j + 1))), (0, .ref h)] := hl
          refine lv_goto hx hb d_Ref_newPlace_21 (tgt := 2) (by decide) ?_
          exact ih (j + 1) H locs ls (by omega) hP hD hS hl
  refine lv_iconst (v := nI 0) hx hb d_Ref_newPlace_0 (by decide) ?_
  refine lv_istore_n hx hb d_Ref_newPlace_1 rfl hl (by decide) rfl (fun ls hl => ?_)
  have hl : lv_has ls 2 [(1, .int (nI 0)), (0, .ref h)] := hl
  exact loop n 0 s.heap [] ls (by omega) hP hD hS hl
set_option maxHeartbeats 800000 in
set_option maxRecDepth 100000 in
theorem k_Ref_post (l : Launch) (D : va_G) (cI cZ cJ cG : ClassId) {h : Nat} {qs : Nat → Nat} {cd dv ex lb lm : Int32} {ma ca cn na nn pk : Nat} {M : bm_M Nat} {fM : Nat → Int32} (hM : mr_R fM ma M) (hn : M.2.1 < 4000) (ad id f t : Nat) (hid : id = ad + 1) (had : ad < 1600) (hf : f < 12) (ht9 : t < 12) : ct_V l D kls (ty4 cI cZ cJ cG) y_Ref_post ws_Ref_post (rm_ 0 0 0 0) [.ref h, .int (nI ad), .int (nI f), .int (nI t)] (List.flatten [[rf_o h qs cd ma M.2.1 ca cn na nn pk dv ex lb lm], [(qs 10, .inl (cI, 4000, .inl fM))]]) (fun u => ∃ fM2, u = List.flatten [[rf_o h qs cd ma ((bm_push M (bm_row3 f t id)).2.1) ca cn na nn pk dv ex lb lm], [(qs 10, .inl (cI, 4000, .inl fM2))]] ∧ mr_R fM2 ma (bm_push M (bm_row3 f t id))) 0 0 := by
  refine ct_enterV (cc := b_Ref_post) (maxL := 4) (ret := none) (by decide +kernel) (Nat.le_of_ble_eq_true rfl) ?_
  intro p e s m args below meth c hx hb hml hr ht hown hlk hnm A Q hA hK hP hD hQ ls hl
  have hown : s.vm.findClass R_Ref = some m.cls := hown
  have hS : va_S A s.heap s.heap [] := va_S.rf
  have hl : lv_has ls 4 [(0, .ref h), (1, .int (nI ad)), (2, .int (nI f)), (3, .int (nI t))] := hl
  have hma := hM.1
  refine lv_aload_n hx hb d_Ref_post_0 rfl (lv_at hl 0 rfl) ?_
  refine va_get (D := D) (ci := 9) (v := .ref (qs 10)) (C := R_Ref) (T := T_Ref) (N := 32) hx hb ht in_Ref hown hK hP 0 rfl rfl 13 (by decide) (ht _ kl_Ref_42) (fun _ h9 => h9) rfl d_Ref_post_1 ?_
  refine lv_aload_n hx hb d_Ref_post_4 rfl (lv_at hl 0 rfl) ?_
  refine va_get (D := D) (ci := 9) (v := .int (nI ma)) (C := R_Ref) (T := T_Ref) (N := 32) hx hb ht in_Ref hown hK hP 0 rfl rfl 11 (by decide) (ht _ kl_Ref_95) (fun _ h9 => h9) rfl d_Ref_post_5 ?_
  refine lv_aload_n hx hb d_Ref_post_8 rfl (lv_at hl 0 rfl) ?_
  refine va_get (D := D) (ci := 9) (v := .int (nI M.2.1)) (C := R_Ref) (T := T_Ref) (N := 32) hx hb ht in_Ref hown hK hP 0 rfl rfl 12 (by decide) (ht _ kl_Ref_92) (fun _ h9 => h9) rfl d_Ref_post_9 ?_
  refine ri_iadd hx hb d_Ref_post_12 ?_
  refine lv_sipush (v := nI 4000) hx hb d_Ref_post_13 (by decide) ?_
  refine ri_irem2 hx hb (by omega) (by omega) (by omega) d_Ref_post_16 ?_
  refine lv_iload_n hx hb d_Ref_post_17 rfl (lv_at hl 1 rfl) ?_
  refine lv_bipush (v := nI 8) hx hb d_Ref_post_18 (by decide) ?_
  refine ri_ishl2 hx hb (by omega) d_Ref_post_20 ?_
  refine lv_iload_n hx hb d_Ref_post_21 rfl (lv_at hl 2 rfl) ?_
  refine lv_iconst (v := nI 4) hx hb d_Ref_post_22 (by decide) ?_
  refine ri_ishl2 hx hb (by omega) d_Ref_post_23 ?_
  refine ri_ior2 hx hb d_Ref_post_24 ?_
  refine lv_iload_n hx hb d_Ref_post_25 rfl (lv_at hl 3 rfl) ?_
  refine ri_ior2 hx hb d_Ref_post_26 ?_
  refine W.eq (g2 := F0 m 27 ls [.int (nI (ad * 256 + f * 16 + t)), .int (nI ((ma + M.2.1) % 4000)), .ref (qs 10)]) (congrArg (fun z => F0 m 27 ls (.int z :: [.int (nI ((ma + M.2.1) % 4000)), .ref (qs 10)])) (congrArg nI (mg_or (by omega) (by omega)))) ?_
  refine ri_iast hx hb hK hP hD hS 1 0 rfl rfl (j := (ma + M.2.1) % 4000) (by omega) (by omega) d_Ref_post_27 (fun H locs hP hD hS => ?_)
  have hP : va_P D kls (List.flatten [[rf_o h qs cd ma M.2.1 ca cn na nn pk dv ex lb lm], [(qs 10, .inl (cI, 4000, .inl (upd fM ((ma + M.2.1) % 4000) (nI (ad * 256 + f * 16 + t)))))]]) H := hP
  have hD : va_D A (List.flatten [[rf_o h qs cd ma M.2.1 ca cn na nn pk dv ex lb lm], [(qs 10, .inl (cI, 4000, .inl (upd fM ((ma + M.2.1) % 4000) (nI (ad * 256 + f * 16 + t)))))]]) := hD
  refine lv_aload_n hx hb d_Ref_post_28 rfl (lv_at hl 0 rfl) ?_
  refine lv_dup hx hb d_Ref_post_29 rfl ?_
  refine va_get (D := D) (ci := 9) (v := .int (nI M.2.1)) (C := R_Ref) (T := T_Ref) (N := 32) hx hb ht in_Ref hown hK hP 0 rfl rfl 12 (by decide) (ht _ kl_Ref_92) (fun _ h9 => h9) rfl d_Ref_post_30 ?_
  refine lv_iconst (v := nI 1) hx hb d_Ref_post_33 (by decide) ?_
  refine ri_iadd hx hb d_Ref_post_34 ?_
  refine va_put (D := D) (ci := 9) (v := .int (nI (M.2.1 + 1))) (ty := .int) (C := R_Ref) (T := T_Ref) (N := 32) hx hb ht in_Ref t_Ref ok_Ref nm_Ref hown hK hP hD hS 0 rfl rfl 12 (by decide) (ht _ kl_Ref_92) (fun _ h9 => h9) rfl (by decide +kernel) rfl rfl (Nat.le_of_ble_eq_true rfl) d_Ref_post_35 (fun H locs hP hD hS => ?_)
  have hP : va_P D kls (List.flatten [[rf_o h qs cd ma (M.2.1 + 1) ca cn na nn pk dv ex lb lm], [(qs 10, .inl (cI, 4000, .inl (upd fM ((ma + M.2.1) % 4000) (nI (ad * 256 + f * 16 + t)))))]]) H := hP
  have hD : va_D A (List.flatten [[rf_o h qs cd ma (M.2.1 + 1) ca cn na nn pk dv ex lb lm], [(qs 10, .inl (cI, 4000, .inl (upd fM ((ma + M.2.1) % 4000) (nI (ad * 256 + f * 16 + t)))))]]) := hD
  exact ct_vret hQ hx hb hr hlk hP hD hS hK (by omega) (by omega) d_Ref_post_38 (⟨_, rfl, mr_push hM hn f t ad id hid⟩)
set_option maxHeartbeats 800000 in
set_option maxRecDepth 100000 in
theorem k_Ref_sendOn (l : Launch) (D : va_G) (cI cZ cJ cG : ClassId) {h : Nat} {qs : Nat → Nat} {cd dv ex lb lm : Int32} {ma ca cn na nn pk : Nat} {M : bm_M Nat} {fM : Nat → Int32} {kn : Nat → Nat → Nat} (hM : mr_R fM ma M) (hn : M.2.1 + 12 ≤ 4000) (ad id r : Nat) (ex9 : Option Nat) (hid : id = ad + 1) (had : ad < 1600) (hr9 : r < 12) (hex : ∀ e, ex9 = some e → e < 12) : ct_V l D kls (ty4 cI cZ cJ cG) y_Ref_sendOn ws_Ref_sendOn (rm_ 1 23 0 0) [.ref h, .int (nI ad), .int (nI r), .int (bm_oI ex9)] (List.flatten [[rf_o h qs cd ma M.2.1 ca cn na nn pk dv ex lb lm], [(qs 3, .inl (cZ, 144, .inl (fl (kB kn))))], [(qs 10, .inl (cI, 4000, .inl fM))]]) (fun u => ∃ fM2, u = List.flatten [[rf_o h qs cd ma ((bm_sa kn ex9 r id M 12).2.1) ca cn na nn pk dv ex lb lm], [(qs 3, .inl (cZ, 144, .inl (fl (kB kn))))], [(qs 10, .inl (cI, 4000, .inl fM2))]] ∧ mr_R fM2 ma (bm_sa kn ex9 r id M 12)) 0 0 := by
  refine ct_enterV (cc := b_Ref_sendOn) (maxL := 5) (ret := none) (by decide +kernel) (Nat.le_of_ble_eq_true rfl) ?_
  intro p e s m args below meth c hx hb hml hr ht hown hlk hnm A Q hA hK hP hD hQ ls hl
  have hown : s.vm.findClass R_Ref = some m.cls := hown
  have hS : va_S A s.heap s.heap [] := va_S.rf
  have hl : lv_has ls 5 [(0, .ref h), (1, .int (nI ad)), (2, .int (nI r)), (3, .int (bm_oI ex9))] := hl
  have loop : ∀ (k j : Nat) (fJ : Nat → Int32) (H : Heap) (locs : List Loc) (ls : Array Slot), j + k = 12 → (mr_R fJ ma (bm_sa kn ex9 r id M j)) → va_P D kls (List.flatten [[rf_o h qs cd ma ((bm_sa kn ex9 r id M j).2.1) ca cn na nn pk dv ex lb lm], [(qs 3, .inl (cZ, 144, .inl (fl (kB kn))))], [(qs 10, .inl (cI, 4000, .inl fJ))]]) H → va_D A (List.flatten [[rf_o h qs cd ma ((bm_sa kn ex9 r id M j).2.1) ca cn na nn pk dv ex lb lm], [(qs 3, .inl (cZ, 144, .inl (fl (kB kn))))], [(qs 10, .inl (cI, 4000, .inl fJ))]]) → va_S A s.heap H locs → lv_has ls 5 [(4, .int (nI j)), (0, .ref h), (1, .int (nI ad)), (2, .int (nI r)), (3, .int (bm_oI ex9))] → W p l e (rm_ 1 23 0 0) s m args below meth c H locs 0 0 Q (F0 m 3 ls []) := by
    intro k
    induction k with
    | zero =>
      intro j fJ H locs ls hk hJ hP hD hS hl
      refine lv_iload hx hb d_Ref_sendOn_3 (lv_at hl 0 rfl) ?_
      refine lv_bipush (v := nI 12) hx hb d_Ref_sendOn_5 (by decide) ?_
      refine ri_icmp_ge hx hb (by omega) (by omega) d_Ref_sendOn_7 (tgt := 45) (by decide) (fun hc9 => ?_) (fun hc9 => ?_)
      · have hj : j = 12 := by omega
        subst hj
        exact ct_vret hQ hx hb hr hlk hP hD hS hK (by omega) (by omega) d_Ref_sendOn_45 (⟨fJ, rfl, hJ⟩)
      · exact absurd hc9 (by omega)
    | succ k ih =>
      intro j fJ H locs ls hk hJ hP hD hS hl
      refine lv_iload hx hb d_Ref_sendOn_3 (lv_at hl 0 rfl) ?_
      refine lv_bipush (v := nI 12) hx hb d_Ref_sendOn_5 (by decide) ?_
      refine ri_icmp_ge hx hb (by omega) (by omega) d_Ref_sendOn_7 (tgt := 45) (by decide) (fun hc9 => ?_) (fun hc9 => ?_)
      · exact absurd hc9 (by omega)
      · refine lv_iload hx hb d_Ref_sendOn_10 (lv_at hl 0 rfl) ?_
        refine lv_iload_n hx hb d_Ref_sendOn_12 rfl (lv_at hl 4 rfl) ?_
        refine lv_icmp_eq hx hb d_Ref_sendOn_13 (tgt := 39) (by decide) (fun he => ?_) (fun he => ?_)
        · refine ri_iinc hx hb d_Ref_sendOn_39 hl (k := 0) rfl (by decide) rfl (fun ls hl => ?_)
          have hl : lv_has ls 5 [(4, .int (nI (j + 1))), (0, .ref h), (1, .int (nI ad)), (2, .int (nI r)), (3, .int (bm_oI ex9))] := hl
          refine lv_goto hx hb d_Ref_sendOn_42 (tgt := 3) (by decide) ?_
          have hst : bm_sa kn ex9 r id M (j + 1) = bm_sa kn ex9 r id M j := if_neg (fun z => by first | exact z.1 ((bm_oI_eq (by omega) hex).mp he) | exact of_decide_eq_false hk1 z.2)
          exact ih (j + 1) fJ H locs ls (by omega) (by rw [hst]; exact hJ) (by rw [hst]; exact hP) (by rw [hst]; exact hD) hS hl
        · refine lv_aload_n hx hb d_Ref_sendOn_16 rfl (lv_at hl 1 rfl) ?_
          refine va_get (D := D) (ci := 9) (v := .ref (qs 3)) (C := R_Ref) (T := T_Ref) (N := 32) hx hb ht in_Ref hown hK hP 0 rfl rfl 4 (by decide) (ht _ kl_Ref_19) (fun _ h9 => h9) rfl d_Ref_sendOn_17 ?_
          refine lv_bipush (v := nI 12) hx hb d_Ref_sendOn_20 (by decide) ?_
          refine lv_iload_n hx hb d_Ref_sendOn_22 rfl (lv_at hl 3 rfl) ?_
          refine ri_imul hx hb d_Ref_sendOn_23 ?_
          refine lv_iload hx hb d_Ref_sendOn_24 (lv_at hl 0 rfl) ?_
          refine ri_iadd hx hb d_Ref_sendOn_26 ?_
          refine ri_zald hx hb hK hP 1 1 rfl rfl (j := (12 * r) + j) (by omega) (by omega) d_Ref_sendOn_27 ?_
          refine W.eq (g2 := F0 m 28 ls [.int (bI (decide (kn r j ≠ 0)))]) (congrArg (fun z => F0 m 28 ls (.int z :: [])) (fl_at (a := r) (b := j) (by omega))) ?_
          refine ri_ifeqB hx hb d_Ref_sendOn_28 (tgt := 39) (by decide) (fun hk1 => ?_) (fun hk1 => ?_)
          · refine ri_iinc hx hb d_Ref_sendOn_39 hl (k := 0) rfl (by decide) rfl (fun ls hl => ?_)
            have hl : lv_has ls 5 [(4, .int (nI (j + 1))), (0, .ref h), (1, .int (nI ad)), (2, .int (nI r)), (3, .int (bm_oI ex9))] := hl
            refine lv_goto hx hb d_Ref_sendOn_42 (tgt := 3) (by decide) ?_
            have hst : bm_sa kn ex9 r id M (j + 1) = bm_sa kn ex9 r id M j := if_neg (fun z => by first | exact z.1 ((bm_oI_eq (by omega) hex).mp he) | exact of_decide_eq_false hk1 z.2)
            exact ih (j + 1) fJ H locs ls (by omega) (by rw [hst]; exact hJ) (by rw [hst]; exact hP) (by rw [hst]; exact hD) hS hl
          · refine lv_aload_n hx hb d_Ref_sendOn_31 rfl (lv_at hl 1 rfl) ?_
            refine lv_iload_n hx hb d_Ref_sendOn_32 rfl (lv_at hl 2 rfl) ?_
            refine lv_iload_n hx hb d_Ref_sendOn_33 rfl (lv_at hl 3 rfl) ?_
            refine lv_iload hx hb d_Ref_sendOn_34 (lv_at hl 0 rfl) ?_
            have hst : bm_sa kn ex9 r id M (j + 1) = bm_push (bm_sa kn ex9 r id M j) (bm_row3 r j id) := if_pos ⟨fun z => he ((bm_oI_eq (by omega) hex).mpr z), of_decide_eq_true hk1⟩
            have hsz := bm_sa_n kn ex9 r id M j
            refine ct_callVV (C := R_Ref) (ci := 9) (As := [.int (nI ad), .int (nI r), .int (nI j)]) (rest := []) ⟨hx, hb, hml, hown, ht⟩ (k_Ref_post l D cI cZ cJ cG hJ (by omega) ad id r j hid had hr9 (by omega)) (cb_V ht kc_Ref_post kl_Ref_101 kn_Ref ki_Ref_post ks_Ref_post hd_Ref_post ⟨Nat.le_of_ble_eq_true rfl, Nat.le_of_ble_eq_true rfl⟩) (List.mem_of_getElem? (i := 0) rfl) rfl rfl (wd_ct (Bs := [[rf_o h qs cd ma ((bm_sa kn ex9 r id M j).2.1) ca cn na nn pk dv ex lb lm], [(qs 3, .inl (cZ, 144, .inl (fl (kB kn))))], [(qs 10, .inl (cI, 4000, .inl fJ))]]) 3 rfl [0, 2] [1] (by decide) rfl) hK hP hD hS hA rfl hl.1 rfl (Nat.le_of_ble_eq_true rfl) ⟨(show 0 + 0 ≤ 0 by omega), (show 0 + 0 ≤ 0 by omega)⟩ d_Ref_sendOn_36 (fun u105 H locs hu105 hP hD hS => ?_)
            obtain ⟨fM2, rfl, hJ2⟩ := hu105
            rw [← hst] at hJ2 hP hD
            refine W.widen (k := 0) (n := 0) (Nat.le_refl _) (Nat.le_refl _) ?_
            have hP := wd_nP (N := [[rf_o h qs cd ma ((bm_sa kn ex9 r id M (j + 1)).2.1) ca cn na nn pk dv ex lb lm], [(qs 10, .inl (cI, 4000, .inl fM2))]]) rfl 3 rfl [0, 2, 1] (by decide) hP
            have hD := wd_nD (N := [[rf_o h qs cd ma ((bm_sa kn ex9 r id M (j + 1)).2.1) ca cn na nn pk dv ex lb lm], [(qs 10, .inl (cI, 4000, .inl fM2))]]) rfl 3 rfl [0, 2, 1] (by decide) hD
            have hP : va_P D kls (List.flatten [[rf_o h qs cd ma ((bm_sa kn ex9 r id M (j + 1)).2.1) ca cn na nn pk dv ex lb lm], [(qs 3, .inl (cZ, 144, .inl (fl (kB kn))))], [(qs 10, .inl (cI, 4000, .inl fM2))]]) H := hP
            have hD : va_D A (List.flatten [[rf_o h qs cd ma ((bm_sa kn ex9 r id M (j + 1)).2.1) ca cn na nn pk dv ex lb lm], [(qs 3, .inl (cZ, 144, .inl (fl (kB kn))))], [(qs 10, .inl (cI, 4000, .inl fM2))]]) := hD
            refine W.eq (g2 := F0 m 39 ls []) rfl ?_
            refine ri_iinc hx hb d_Ref_sendOn_39 hl (k := 0) rfl (by decide) rfl (fun ls hl => ?_)
            have hl : lv_has ls 5 [(4, .int (nI (j + 1))), (0, .ref h), (1, .int (nI ad)), (2, .int (nI r)), (3, .int (bm_oI ex9))] := hl
            refine lv_goto hx hb d_Ref_sendOn_42 (tgt := 3) (by decide) ?_
            exact ih (j + 1) fM2 H locs ls (by omega) hJ2 hP hD hS hl
  refine lv_iconst (v := nI 0) hx hb d_Ref_sendOn_0 (by decide) ?_
  refine lv_istore hx hb d_Ref_sendOn_1 hl (by decide) rfl (fun ls hl => ?_)
  have hl : lv_has ls 5 [(4, .int (nI 0)), (0, .ref h), (1, .int (nI ad)), (2, .int (nI r)), (3, .int (bm_oI ex9))] := hl
  exact loop 12 0 fM s.heap [] ls (by omega) hM hP hD hS hl
