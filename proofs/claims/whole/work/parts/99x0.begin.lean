/-! The law: what it begins with. -/
theorem nt_lt32 {j : Nat} (h : j < 32) : j = 0 ∨ j = 1 ∨ j = 2 ∨ j = 3 ∨ j = 4 ∨ j = 5 ∨ j = 6 ∨ j = 7 ∨ j = 8 ∨ j = 9 ∨ j = 10 ∨ j = 11 ∨ j = 12 ∨ j = 13 ∨ j = 14 ∨ j = 15 ∨ j = 16 ∨ j = 17 ∨ j = 18 ∨ j = 19 ∨ j = 20 ∨ j = 21 ∨ j = 22 ∨ j = 23 ∨ j = 24 ∨ j = 25 ∨ j = 26 ∨ j = 27 ∨ j = 28 ∨ j = 29 ∨ j = 30 ∨ j = 31 := by omega
theorem ar_known {s : State} {A : Array Value} {ty : FieldType} (h : (Cond.arrayClass ty).before A s = true) : ∃ cA, ArrOfT s cA ty ∧ s.vm.findClass ("[" ++ ty.toString) = some cA := by
  obtain ⟨cA, k, comp, h1, h2, h3⟩ := Cond.arrayClass_spec h
  exact ⟨cA, fun n z => ⟨(fun q hq => by cases hq), k, h2, comp, h3⟩, h1⟩
theorem law_K {s : State} {A : Array Value} (hts : ∀ w ∈ lw_tbl, w.before A s = true) : ∃ (D : va_G) (cI cZ cJ cG : ClassId), va_K D kls (ty4 cI cZ cJ cG) s ∧ cz_Z s := by
  have ht : ∀ w ∈ tb, w.before A s = true := fun w hw => hts w (tb_in hw)
  obtain ⟨c0, i0, k0⟩ := u_known ht in_Rows (ht _ kt_Rows)
  obtain ⟨c1, i1, k1⟩ := u_known ht in_Edges (ht _ kt_Edges)
  obtain ⟨c2, i2, k2⟩ := u_known ht in_Links (ht _ kt_Links)
  obtain ⟨c3, i3, k3⟩ := u_known ht in_Stores (ht _ kt_Stores)
  obtain ⟨c4, i4, k4⟩ := u_known ht in_Control (ht _ kt_Control)
  obtain ⟨c5, i5, k5⟩ := u_known ht in_Routes (ht _ kt_Routes)
  obtain ⟨c6, i6, k6⟩ := u_known ht in_Data (ht _ kt_Data)
  obtain ⟨c7, i7, k7⟩ := u_known ht in_Groups (ht _ kt_Groups)
  obtain ⟨c8, i8, k8⟩ := u_known ht in_Net (ht _ kt_Net)
  obtain ⟨c9, i9, k9⟩ := u_known ht in_Ref (ht _ kt_Ref)
  obtain ⟨cI, a1, a2⟩ := ar_known (ht _ ka_int)
  obtain ⟨cZ, b1, b2⟩ := ar_known (ht _ ka_boolean)
  obtain ⟨cJ, e1, e2⟩ := ar_known (ht _ ka_long)
  have ho : (Cond.arrayOver (.array .int)).before A s = true := hts _ (List.mem_of_getElem? (i := 90) (by decide +kernel))
  obtain ⟨comp, cG, kG, -, g2, g3, g4⟩ := Cond.arrayOver_specA ho
  refine ⟨(fun c => [c0, c1, c2, c3, c4, c5, c6, c7, c8, c9].getD c 0, fun c => [i0, i1, i2, i3, i4, i5, i6, i7, i8, i9].getD c (fun _ => 0)), cI, cZ, cJ, cG, ⟨fun c q hq => ?_, fun k q hq => ?_⟩, ?_, ?_, ?_⟩
  · match c, hq with
    | 0, hq => cases hq; exact k0
    | 1, hq => cases hq; exact k1
    | 2, hq => cases hq; exact k2
    | 3, hq => cases hq; exact k3
    | 4, hq => cases hq; exact k4
    | 5, hq => cases hq; exact k5
    | 6, hq => cases hq; exact k6
    | 7, hq => cases hq; exact k7
    | 8, hq => cases hq; exact k8
    | 9, hq => cases hq; exact k9
    | c + 10, hq => cases hq
  · match k, hq with
    | 0, hq => cases hq; exact ⟨a1, a2⟩
    | 1, hq => cases hq; exact ⟨b1, b2⟩
    | 2, hq => cases hq; exact ⟨e1, e2⟩
    | 3, hq => cases hq; exact ⟨fun n z => ⟨(fun q hq => by cases hq), kG, g2, comp, g3⟩, g4⟩
    | k + 4, hq => cases hq
  · exact fun A2 => arrayOver_alikeB (Vm.Alike.refl s.vm) ho
  · exact va_Nw.of rfl (hts _ (List.mem_of_getElem? (i := 68) (by decide +kernel)))
  · exact va_Nw.of rfl (hts _ (List.mem_of_getElem? (i := 85) (by decide +kernel)))
theorem hd_len {y : MethodName} {n : Nat} (h : hd_ok y n) : ∀ sig, parseMethodDescriptor y.desc = some sig → n = sig.parameters.length := fun sig hs => by
  have := h.2.2
  rw [hs] at this
  exact (Option.some.inj this).symm
theorem lw_cmp {L c : Nat} (hL : L ≤ 2048) (hc : c ≤ 512) : nI L - nI 4 < nI (4 * c) ↔ L < 4 * c + 4 := by
  by_cases h : 4 ≤ L
  · have e : nI L - nI 4 = nI (L - 4) := by
      have h2 : nI L = nI (L - 4) + nI 4 := by rw [nI_add, show L - 4 + 4 = L by omega]
      rw [h2]
      exact Int32.add_sub_cancel _ _
    rw [e, nI_ltI (by omega) (by omega)]
    omega
  · refine ⟨fun _ => by omega, fun _ => ?_⟩
    have hneg : nI L - nI 4 < 0 := by
      have : L = 0 ∨ L = 1 ∨ L = 2 ∨ L = 3 := by omega
      rcases this with rfl | rfl | rfl | rfl <;> decide
    exact Int32.lt_of_lt_of_le hneg (nI_pos' (by omega))
theorem tb_out {x : Int32} (h : ∀ k, k < 21 → x ≠ nI k) : x.toInt < 0 ∨ 20 < x.toInt := by
  by_cases c : x.toInt < 0 ∨ 20 < x.toInt
  · exact c
  · obtain ⟨n, hn, e⟩ := rg_n (k := 21) (x := x) (decide_eq_true (by omega))
    exact absurd e (h n hn)
theorem nt_lt21 {j : Nat} (h : j < 21) : j = 0 ∨ j = 1 ∨ j = 2 ∨ j = 3 ∨ j = 4 ∨ j = 5 ∨ j = 6 ∨ j = 7 ∨ j = 8 ∨ j = 9 ∨ j = 10 ∨ j = 11 ∨ j = 12 ∨ j = 13 ∨ j = 14 ∨ j = 15 ∨ j = 16 ∨ j = 17 ∨ j = 18 ∨ j = 19 ∨ j = 20 := by omega
theorem lc_0 (x : Int64) : lc x x = 0 := by
  unfold lc
  rw [if_neg (Int64.lt_irrefl), if_pos rfl]
set_option maxHeartbeats 4000000 in
set_option maxRecDepth 100000 in
theorem k_Ref_thr (l : Launch) (D : va_G) (cI cZ cJ cG : ClassId) {h : Nat} {cd : Int32} {S : bm_S} {ws : va_W} (hR : rf_R cI cZ cJ h cd S ws) : ct_I l D kls (ty4 cI cZ cJ cG) y_Ref_thrown ws_Ref_thrown (rm_ 0 0 0 0) [.ref h] (ws) (fun z u => z = cd ∧ u = ws) 0 0 := by
  obtain ⟨qs, ma, ca, na, wt, fR, fN, fL, fH, uf, fM, fC, fT, fD, fX, MK, MF, rfl, -⟩ := hR
  refine ct_enterI (cc := b_Ref_thrown) (maxL := 1) (ret := (some .int)) (by decide +kernel) (Nat.le_of_ble_eq_true rfl) ?_
  intro p e s m args below meth c hx hb hml hr ht hown hlk hnm A Q hA hK hP hD hQ ls hl
  have hown : s.vm.findClass R_Ref = some m.cls := hown
  have hS : va_S A s.heap s.heap [] := va_S.rf
  have hl : lv_has ls 1 [(0, .ref h)] := hl
  refine lv_aload_n hx hb d_Ref_thrown_0 rfl (lv_at hl 0 rfl) ?_
  refine va_get (D := D) (ci := 9) (v := .int cd) (C := R_Ref) (T := T_Ref) (N := 32) hx hb ht in_Ref hown hK hP 0 rfl rfl 0 (by decide) (ht _ kl_Ref_72) (fun _ h9 => h9) rfl d_Ref_thrown_1 ?_
  exact ct_iret hQ hx hb hr hlk hP hD hS hK (by omega) (by omega) d_Ref_thrown_4 (⟨rfl, rfl⟩)
