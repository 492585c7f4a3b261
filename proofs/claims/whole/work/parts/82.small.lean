/-! BitNet: its small methods. -/
/-- an int from a on, below b -/
def rg (a b : Int) (x : Int32) : Bool := decide (a ≤ x.toInt ∧ x.toInt < b)
theorem rg_n {k : Nat} {x : Int32} (h : rg 0 (k : Int) x = true) : ∃ n, n < k ∧ x = nI n := by
  have h1 := of_decide_eq_true h
  have h2 := x.toInt_lt
  refine ⟨x.toInt.toNat, by omega, ?_⟩
  apply Int32.toInt_inj.mp
  rw [nI_toInt (show x.toInt.toNat < 2 ^ 31 by omega)]
  omega
theorem rg_nI {a b : Int} {n : Nat} (h : n < 2 ^ 31) : rg a b (nI n) = decide (a ≤ (n : Int) ∧ (n : Int) < b) := by
  unfold rg
  rw [nI_toInt h]
theorem tI_lt {x y : Int32} : (x < y) = (x.toInt < y.toInt) := propext Int32.lt_iff_toInt_lt
theorem tI_le {x y : Int32} : (x ≤ y) = (x.toInt ≤ y.toInt) := propext Int32.le_iff_toInt_le
theorem tI_0 : (0 : Int32).toInt = 0 := by decide +kernel
theorem tI_1 : (nI 1).toInt = 1 := by decide +kernel
theorem tI_8 : (nI 8).toInt = 8 := by decide +kernel
theorem tI_12 : (nI 12).toInt = 12 := by decide +kernel
theorem tI_1000 : (nI 1000).toInt = 1000 := by decide +kernel
set_option maxHeartbeats 4000000 in
set_option maxRecDepth 100000 in
theorem k_Net_isRouter (l : Launch) (D : va_G) (cI cZ cJ cG : ClassId) (x : Int32)  : ct_I l D kls (ty4 cI cZ cJ cG) y_Net_isRouter ws_Net_isRouter (rm_ 0 0 0 0) [.int x] ([]) (fun z u => z = bI (rg 0 12 x) ∧ u = []) 0 0 := by
  refine ct_enterI (cc := b_Net_isRouter) (maxL := 1) (ret := (some .boolean)) (by decide +kernel) (Nat.le_of_ble_eq_true rfl) ?_
  intro p e s m args below meth c hx hb hml hr ht hown hlk hnm A Q hA hK hP hD hQ ls hl
  have hown : s.vm.findClass R_Net = some m.cls := hown
  have hS : va_S A s.heap s.heap [] := va_S.rf
  have hl : lv_has ls 1 [(0, .int x)] := hl
  refine lv_iload_n hx hb d_Net_isRouter_0 rfl (lv_at hl 0 rfl) ?_
  refine lv_if_lt hx hb d_Net_isRouter_1 (tgt := 14) (by decide) (fun h1 => ?_) (fun h1 => ?_)
  · refine lv_iconst (v := nI 0) hx hb d_Net_isRouter_14 (by decide) ?_
    exact ct_zret (b := false) hQ hx hb hr hlk hP hD hS hK (by omega) (by omega) d_Net_isRouter_15 (⟨congrArg bI (decide_eq_false (by clear hQ; simp only [tI_lt, tI_le, tI_0, tI_1, tI_8, tI_12, tI_1000] at *; omega)).symm, rfl⟩)
  · refine lv_iload_n hx hb d_Net_isRouter_4 rfl (lv_at hl 0 rfl) ?_
    refine lv_bipush (v := nI 12) hx hb d_Net_isRouter_5 (by decide) ?_
    refine lv_icmp_ge hx hb d_Net_isRouter_7 (tgt := 14) (by decide) (fun h2 => ?_) (fun h2 => ?_)
    · refine lv_iconst (v := nI 0) hx hb d_Net_isRouter_14 (by decide) ?_
      exact ct_zret (b := false) hQ hx hb hr hlk hP hD hS hK (by omega) (by omega) d_Net_isRouter_15 (⟨congrArg bI (decide_eq_false (by clear hQ; simp only [tI_lt, tI_le, tI_0, tI_1, tI_8, tI_12, tI_1000] at *; omega)).symm, rfl⟩)
    · refine lv_iconst (v := nI 1) hx hb d_Net_isRouter_10 (by decide) ?_
      refine lv_goto hx hb d_Net_isRouter_11 (tgt := 15) (by decide) ?_
      exact ct_zret (b := true) hQ hx hb hr hlk hP hD hS hK (by omega) (by omega) d_Net_isRouter_15 (⟨congrArg bI (decide_eq_true (by clear hQ; simp only [tI_lt, tI_le, tI_0, tI_1, tI_8, tI_12, tI_1000] at *; omega)).symm, rfl⟩)
set_option maxHeartbeats 4000000 in
set_option maxRecDepth 100000 in
theorem k_Net_isGroup (l : Launch) (D : va_G) (cI cZ cJ cG : ClassId) (x : Int32)  : ct_I l D kls (ty4 cI cZ cJ cG) y_Net_isGroup ws_Net_isGroup (rm_ 0 0 0 0) [.int x] ([]) (fun z u => z = bI (rg 0 8 x) ∧ u = []) 0 0 := by
  refine ct_enterI (cc := b_Net_isGroup) (maxL := 1) (ret := (some .boolean)) (by decide +kernel) (Nat.le_of_ble_eq_true rfl) ?_
  intro p e s m args below meth c hx hb hml hr ht hown hlk hnm A Q hA hK hP hD hQ ls hl
  have hown : s.vm.findClass R_Net = some m.cls := hown
  have hS : va_S A s.heap s.heap [] := va_S.rf
  have hl : lv_has ls 1 [(0, .int x)] := hl
  refine lv_iload_n hx hb d_Net_isGroup_0 rfl (lv_at hl 0 rfl) ?_
  refine lv_if_lt hx hb d_Net_isGroup_1 (tgt := 14) (by decide) (fun h1 => ?_) (fun h1 => ?_)
  · refine lv_iconst (v := nI 0) hx hb d_Net_isGroup_14 (by decide) ?_
    exact ct_zret (b := false) hQ hx hb hr hlk hP hD hS hK (by omega) (by omega) d_Net_isGroup_15 (⟨congrArg bI (decide_eq_false (by clear hQ; simp only [tI_lt, tI_le, tI_0, tI_1, tI_8, tI_12, tI_1000] at *; omega)).symm, rfl⟩)
  · refine lv_iload_n hx hb d_Net_isGroup_4 rfl (lv_at hl 0 rfl) ?_
    refine lv_bipush (v := nI 8) hx hb d_Net_isGroup_5 (by decide) ?_
    refine lv_icmp_ge hx hb d_Net_isGroup_7 (tgt := 14) (by decide) (fun h2 => ?_) (fun h2 => ?_)
    · refine lv_iconst (v := nI 0) hx hb d_Net_isGroup_14 (by decide) ?_
      exact ct_zret (b := false) hQ hx hb hr hlk hP hD hS hK (by omega) (by omega) d_Net_isGroup_15 (⟨congrArg bI (decide_eq_false (by clear hQ; simp only [tI_lt, tI_le, tI_0, tI_1, tI_8, tI_12, tI_1000] at *; omega)).symm, rfl⟩)
    · refine lv_iconst (v := nI 1) hx hb d_Net_isGroup_10 (by decide) ?_
      refine lv_goto hx hb d_Net_isGroup_11 (tgt := 15) (by decide) ?_
      exact ct_zret (b := true) hQ hx hb hr hlk hP hD hS hK (by omega) (by omega) d_Net_isGroup_15 (⟨congrArg bI (decide_eq_true (by clear hQ; simp only [tI_lt, tI_le, tI_0, tI_1, tI_8, tI_12, tI_1000] at *; omega)).symm, rfl⟩)
set_option maxHeartbeats 4000000 in
set_option maxRecDepth 100000 in
theorem k_Net_isNumberOfTurns (l : Launch) (D : va_G) (cI cZ cJ cG : ClassId) (x : Int32)  : ct_I l D kls (ty4 cI cZ cJ cG) y_Net_isNumberOfTurns ws_Net_isNumberOfTurns (rm_ 0 0 0 0) [.int x] ([]) (fun z u => z = bI (rg 1 1001 x) ∧ u = []) 0 0 := by
  refine ct_enterI (cc := b_Net_isNumberOfTurns) (maxL := 1) (ret := (some .boolean)) (by decide +kernel) (Nat.le_of_ble_eq_true rfl) ?_
  intro p e s m args below meth c hx hb hml hr ht hown hlk hnm A Q hA hK hP hD hQ ls hl
  have hown : s.vm.findClass R_Net = some m.cls := hown
  have hS : va_S A s.heap s.heap [] := va_S.rf
  have hl : lv_has ls 1 [(0, .int x)] := hl
  refine lv_iload_n hx hb d_Net_isNumberOfTurns_0 rfl (lv_at hl 0 rfl) ?_
  refine lv_iconst (v := nI 1) hx hb d_Net_isNumberOfTurns_1 (by decide) ?_
  refine lv_icmp_lt hx hb d_Net_isNumberOfTurns_2 (tgt := 16) (by decide) (fun h1 => ?_) (fun h1 => ?_)
  · refine lv_iconst (v := nI 0) hx hb d_Net_isNumberOfTurns_16 (by decide) ?_
    exact ct_zret (b := false) hQ hx hb hr hlk hP hD hS hK (by omega) (by omega) d_Net_isNumberOfTurns_17 (⟨congrArg bI (decide_eq_false (by clear hQ; simp only [tI_lt, tI_le, tI_0, tI_1, tI_8, tI_12, tI_1000] at *; omega)).symm, rfl⟩)
  · refine lv_iload_n hx hb d_Net_isNumberOfTurns_5 rfl (lv_at hl 0 rfl) ?_
    refine lv_sipush (v := nI 1000) hx hb d_Net_isNumberOfTurns_6 (by decide) ?_
    refine lv_icmp_gt hx hb d_Net_isNumberOfTurns_9 (tgt := 16) (by decide) (fun h2 => ?_) (fun h2 => ?_)
    · refine lv_iconst (v := nI 0) hx hb d_Net_isNumberOfTurns_16 (by decide) ?_
      exact ct_zret (b := false) hQ hx hb hr hlk hP hD hS hK (by omega) (by omega) d_Net_isNumberOfTurns_17 (⟨congrArg bI (decide_eq_false (by clear hQ; simp only [tI_lt, tI_le, tI_0, tI_1, tI_8, tI_12, tI_1000] at *; omega)).symm, rfl⟩)
    · refine lv_iconst (v := nI 1) hx hb d_Net_isNumberOfTurns_12 (by decide) ?_
      refine lv_goto hx hb d_Net_isNumberOfTurns_13 (tgt := 17) (by decide) ?_
      exact ct_zret (b := true) hQ hx hb hr hlk hP hD hS hK (by omega) (by omega) d_Net_isNumberOfTurns_17 (⟨congrArg bI (decide_eq_true (by clear hQ; simp only [tI_lt, tI_le, tI_0, tI_1, tI_8, tI_12, tI_1000] at *; omega)).symm, rfl⟩)
set_option maxHeartbeats 4000000 in
set_option maxRecDepth 100000 in
theorem k_Net_demand (l : Launch) (D : va_G) (cI cZ cJ cG : ClassId)   : ct_V l D kls (ty4 cI cZ cJ cG) y_Net_demand ws_Net_demand (rm_ 0 0 0 0) [.int (bI true)] ([]) (fun u => u = []) 0 0 := by
  refine ct_enterV (cc := b_Net_demand) (maxL := 1) (ret := none) (by decide +kernel) (Nat.le_of_ble_eq_true rfl) ?_
  intro p e s m args below meth c hx hb hml hr ht hown hlk hnm A Q hA hK hP hD hQ ls hl
  have hown : s.vm.findClass R_Net = some m.cls := hown
  have hS : va_S A s.heap s.heap [] := va_S.rf
  have hl : lv_has ls 1 [(0, .int (bI true))] := hl
  refine lv_iload_n hx hb d_Net_demand_0 rfl (lv_at hl 0 rfl) ?_
  refine ri_ifneB hx hb d_Net_demand_1 (tgt := 14) (by decide) (fun h1 => ?_) (fun h1 => ?_)
  · exact ct_vret hQ hx hb hr hlk hP hD hS hK (by omega) (by omega) d_Net_demand_14 (rfl)
  · exact absurd h1 (fun z => by cases z)
set_option maxHeartbeats 4000000 in
set_option maxRecDepth 100000 in
theorem k_Net_demandRoom (l : Launch) (D : va_G) (cI cZ cJ cG : ClassId)   : ct_V l D kls (ty4 cI cZ cJ cG) y_Net_demandRoom ws_Net_demandRoom (rm_ 0 0 0 0) [.int (bI true)] ([]) (fun u => u = []) 0 0 := by
  refine ct_enterV (cc := b_Net_demandRoom) (maxL := 1) (ret := none) (by decide +kernel) (Nat.le_of_ble_eq_true rfl) ?_
  intro p e s m args below meth c hx hb hml hr ht hown hlk hnm A Q hA hK hP hD hQ ls hl
  have hown : s.vm.findClass R_Net = some m.cls := hown
  have hS : va_S A s.heap s.heap [] := va_S.rf
  have hl : lv_has ls 1 [(0, .int (bI true))] := hl
  refine lv_iload_n hx hb d_Net_demandRoom_0 rfl (lv_at hl 0 rfl) ?_
  refine ri_ifneB hx hb d_Net_demandRoom_1 (tgt := 14) (by decide) (fun h1 => ?_) (fun h1 => ?_)
  · exact ct_vret hQ hx hb hr hlk hP hD hS hK (by omega) (by omega) d_Net_demandRoom_14 (rfl)
  · exact absurd h1 (fun z => by cases z)
