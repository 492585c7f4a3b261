/-! BitNet.demand, BitNet.demandRoom: what they throw. -/
theorem fz_st {args args' : Array Value} {s0 s : State} (hz : fz s0 s) {O f d : String} (h : (Cond.laysStatic O f d).before args s0 = true) : (Cond.laysStatic O f d).before args' s = true := by
  obtain ⟨hz1, -, hz3⟩ := hz
  have h1 : (Cond.laysStatic O f d).before args (s0.setVm s.vm) = true := Cond.laysStatic_setVm hz1.alike h
  obtain ⟨c, k, i, fd, a, cell, hc, hf, hst, hsta, hcell, hiss, hcls, hlt, hty⟩ := Cond.laysStatic_spec h1
  have hcell' : s.heap[a]? = some cell := (hz3 a (Array.getElem?_eq_some_iff.mp hcell).1).trans hcell
  have hc' : s.vm.findClass O = some c := hc
  have hf' : s.fieldFound? O f d = some (c, k, i, fd) := hf
  simp [Cond.before, Cond.holds, Cond.value, hc', hf', hst, hsta, hcell', hiss, hcls, hlt, hty]
theorem fz_ref {args args' : Array Value} {s0 s : State} (hz : fz s0 s) {O f d : String} (h : (Cond.laysStatic O f d).before args s0 = true) (h2 : (Cond.isRef (.static O f d)).before args s0 = true) (hk : (Cond.isRef (.static O f d)).keeps = true) : (Cond.isRef (.static O f d)).before args' s = true := by
  obtain ⟨hz1, -, hz3⟩ := hz
  have h1 : (Cond.laysStatic O f d).before args (s0.setVm s.vm) = true := Cond.laysStatic_setVm hz1.alike h
  have h3 : (Cond.isRef (.static O f d)).before args (s0.setVm s.vm) = true := Cond.holds_shifted (State.Shifted.of_warmed hz1) _ [] hk h2
  obtain ⟨c, k, i, fd, a, cell, hc, hf, hst, hsta, hcell, hiss, hcls, hlt, hty⟩ := Cond.laysStatic_spec h1
  have hcell0 : s0.heap[a]? = some cell := hcell
  have hcell' : s.heap[a]? = some cell := (hz3 a (Array.getElem?_eq_some_iff.mp hcell).1).trans hcell
  have hf' : s.fieldFound? O f d = some (c, k, i, fd) := hf
  have hv : cell.slots[fd.slot]? = some cell.slots[fd.slot] := Array.getElem?_eq_getElem hlt
  have he : (Term.static O f d).eval args (s0.setVm s.vm) none [] (s0.setVm s.vm) = some cell.slots[fd.slot] := by
    simp [Term.eval, State.fieldNamed?, hf, hst, hsta, hcell0, hiss, hv]
  have he' : (Term.static O f d).eval args' s none [] s = some cell.slots[fd.slot] := by
    simp [Term.eval, State.fieldNamed?, hf', hst, hsta, hcell', hiss, hv]
  simp only [Cond.before, Cond.holds, Cond.value, he] at h3
  simp only [Cond.before, Cond.holds, Cond.value, he']
  exact h3
theorem fz_sr {args args' : Array Value} {s0 s : State} (hz : fz s0 s) {a t : String} {i : Nat} (h : (Cond.stringRef a i t).before args s0 = true) : (Cond.stringRef a i t).before args' s = true := by
  have h1 := Cond.stringRef_warmed hz.1 h
  simp only [Cond.before, Cond.holds, Cond.value] at h1 ⊢
  exact h1
/-- words that go on from s0 -/
def fz_wk : Cond → Bool
  | .laysStatic _ _ _ => true
  | .declares _ => true
  | .castable _ _ => true
  | w => goodWord w
theorem fz_word {args args' : Array Value} {s0 s : State} (hz : fz s0 s) {w : Cond} (hw : fz_wk w = true) (h : w.before args s0 = true) : w.before args' s = true := by
  have hg : goodWord w = true → w.before args' s = true := fun g => word_at hz.1 (good_of_word g) h
  cases w with
  | laysStatic O f d => exact fz_st hz h
  | declares x => exact va_Nw.use rfl (va_Nw.warmD hz.1 (va_Nw.of rfl h))
  | castable a b => exact va_Nw.use rfl (va_Nw.warmC hz.1 (va_Nw.of rfl h))
  | _ => exact hg hw
/-- what s0 must be: the tables' words, and two statics of Throwable's are references -/
def fz_0 (A0 : Array Value) (s0 : State) : Prop := (∀ w ∈ lw_tbl, w.before A0 s0 = true) ∧ (Cond.isRef (.static Bundle.tN "UNASSIGNED_STACK" Bundle.steD)).before A0 s0 = true ∧ (Cond.isRef (.static Bundle.tN "SUPPRESSED_SENTINEL" Bundle.listD)).before A0 s0 = true
theorem fz_in {A0 args : Array Value} {s0 s : State} (h0 : fz_0 A0 s0) (hz : fz s0 s) (ps : List Nat) (h : ((ps.filterMap (fun i => lw_tbl[i]?)).all fz_wk) = true) : ∀ w ∈ ps.filterMap (fun i => lw_tbl[i]?), w.before args s = true := by
  intro w hw
  have h1 := List.all_eq_true.mp h w hw
  obtain ⟨i, -, hi⟩ := List.mem_filterMap.mp hw
  exact fz_word hz h1 (h0.1 w (List.mem_of_getElem? hi))
theorem fz_own {A0 args : Array Value} {s0 s : State} (h0 : fz_0 A0 s0) (hz : fz s0 s) {L : List Cond} (ps qs : List Nat) (hL : L = ps.filterMap (fun i => lw_tbl[i]?) ++ (Cond.isRef (.static Bundle.tN "UNASSIGNED_STACK" Bundle.steD) :: Cond.isRef (.static Bundle.tN "SUPPRESSED_SENTINEL" Bundle.listD) :: qs.filterMap (fun i => lw_tbl[i]?)))
    (hp : ((ps.filterMap (fun i => lw_tbl[i]?)).all fz_wk) = true) (hq : ((qs.filterMap (fun i => lw_tbl[i]?)).all fz_wk) = true) : ∀ w ∈ L, w.before args s = true := by
  have k1 : (Cond.laysStatic Bundle.tN "UNASSIGNED_STACK" Bundle.steD) ∈ lw_tbl := List.mem_of_getElem? (i := 389) (by decide +kernel)
  have k2 : (Cond.laysStatic Bundle.tN "SUPPRESSED_SENTINEL" Bundle.listD) ∈ lw_tbl := List.mem_of_getElem? (i := 391) (by decide +kernel)
  intro w hw
  rw [hL] at hw
  rcases List.mem_append.mp hw with h | h
  · exact fz_in h0 hz ps hp w h
  · rcases List.mem_cons.mp h with h | h
    · rw [h]
      exact fz_ref hz (h0.1 _ k1) h0.2.1 (by decide)
    · rcases List.mem_cons.mp h with h | h
      · rw [h]
        exact fz_ref hz (h0.1 _ k2) h0.2.2 (by decide)
      · exact fz_in h0 hz qs hq w h
section TH
variable {p : Program} {l : Launch} {e : Env} {R : Room} {s s0 : State} {m : MethodId} {args A0 : Array Value} {below : List Frame} {meth : Method} {c : Code} {cells slots : Nat} {Q : State → Prop}
variable {cc : ByteArray} {pc nL mx mz : Nat} {ls : Array Slot} {D : va_G} {cl : List vw_C} {A : Nat → Prop} {tys : List (ClassId × FieldType)}
/-- new C("text"), thrown at once, in a method that has made nothing yet -/
theorem ct_thr {C own text : String} {ix sx ic : Nat} {post : va_W → Prop} (h0 : fz_0 A0 s0) (hfl : ∀ e : Env, l.admits e → e.platform.stackTraces = false) (hz : fz s0 s ∧ (∀ q, A q → s0.heap.size ≤ q) ∧ c.exceptionTable.isEmpty = true) (hQ : MX below (xQ C post (ct_B D cl tys A) A) args s 1 6 A = Q) (hlk : meth.locks = false) (hx : p.tables.exec = Jvm.exec) (hb : c.code = cc) (hml : c.maxLocals = nL) (hl : ls.size = nL) (hown : s.vm.findClass own = some m.cls) (hC : Bundle.fit C = true)
    (hcl : (Cond.classLink own ix C).before args s = true) (hins : (Cond.instantiable C 6).before args s = true) (hini : (Cond.initialized C).before args s = true) (hstr : (Cond.stringRef own sx text).before args s = true) (hat : ∀ w ∈ Bundle.ownAtoms own ic C ["java/lang/RuntimeException", "java/lang/Exception"], w.before args s = true) (hK : va_K D cl tys s) (hR : 1 ≤ R.cells ∧ 6 ≤ R.slots ∧ 5 < R.frames ∧ 82 ≤ R.locals) (hpost : post [])
    (d1 : decode cc pc = .ok (.new ix, 3)) (d2 : decode cc (pc + 3) = .ok (.dup, 1)) (d3 : decode cc (pc + 4) = .ok (.ldc sx, 2)) (d4 : decode cc (pc + 6) = .ok (.invokespecial ic, 3)) (d5 : decode cc (pc + 9) = .ok (.athrow, 1)) : W p l e R s m args below meth c s.heap [] 0 0 Q (F0 m pc ls []) := by
  subst hQ
  obtain ⟨cC, kC, hfc, hkC, -⟩ := Cond.instantiable_spec hins
  refine W.newcK hx hb hown hcl hins hini rfl d1 (by omega) (by omega) hfc rfl fun H' kC' hk' e1 z1 o1 => ?_
  refine W.eq (g2 := F0 m (pc + 3) ls [.ref s.heap.size]) rfl ?_
  refine lv_dup hx hb d2 rfl ?_
  obtain ⟨k9, cf9, i9, a9, -, -, -, -, -, hev⟩ := Cond.stringRef_spec hown hstr
  intro T hT X
  have hne : c.exceptionTable.toList = [] := by
    have h9 := hz.2.2
    rw [Array.isEmpty_iff] at h9
    rw [h9]
  obtain ⟨U, u1, u2, u3, u4, u5, ce, u6, u7⟩ := X.ctorThrowS hx (hfl e X.admits) (names := ["java/lang/RuntimeException", "java/lang/Exception"]) hown hC (by decide +kernel) hat (fun x hx => by cases hx) hfc hk' (a := s.heap.size) (by rw [hT]; exact e1) (Nat.le_refl _) (msg := .ref a9) rfl
    (g := F0 m (pc + 6) ls [.ref a9, .ref s.heap.size, .ref s.heap.size]) rfl (hl.trans hml.symm) rfl rfl (rest := []) rfl (by rw [hb]; exact d4) (by rw [hb]; exact d5) (fun z hz9 => by rw [hne] at hz9; cases hz9) hR.2.2.1 (by show 2 * 0 + (1 + 0) + (13 * (2 + 1) + 42) ≤ R.locals; omega) hlk
  have hst := X.ldcString hx hown hstr hev (g := F0 m (pc + 4) ls [.ref s.heap.size, .ref s.heap.size]) rfl (by rw [hb]; exact d3) U u1
  have hB : ct_B D cl tys A [] U := ⟨fun k q hk => absurd hk (by simp), va_K.moved u4.alike hK, ⟨fun i j p q hi => absurd hi (by simp), fun k q hk => absurd hk (by simp)⟩⟩
  have hF : va_F A s U := ⟨u5.2.1, fun q hq _ => by
    have h9 := Array.getElem?_eq_getElem hq
    rw [h9]
    exact State.sameButNew.old_cell u5 h9⟩
  have hcl9 : U.vm.findClass C = some ce.cls := by
    rw [u4.alike.findClass]
    exact u7.cls
  have hs9 : s.sameButNew ({ U with vm := s.vm } : State) [] 1 6 := by
    have h9 := u5
    rw [Nat.zero_add, Nat.zero_add] at h9
    exact h9
  exact ⟨U, hst, s.heap.size, u2, u3, ⟨⟨[], ce, hpost, hB, u6, hcl9, u7.vm⟩, hF⟩, u4, [], hs9, fun q hq => by cases hq⟩
end TH
set_option maxHeartbeats 4000000 in
set_option maxRecDepth 100000 in
theorem x_Net_demand (l : Launch) (s0 : State) (A0 : Array Value) (h0 : fz_0 A0 s0) (hfl : ∀ e : Env, l.admits e → e.platform.stackTraces = false) (D : va_G) (cI cZ cJ cG : ClassId) : ct_X l s0 D kls (ty4 cI cZ cJ cG) y_Net_demand ws_Net_demand (rm_ 6 82 1 6) [.int (bI false)] [] "java/lang/IllegalArgumentException" (fun u => u = []) 1 6 := by
  refine ct_enterX (cc := b_Net_demand) (maxL := 1) (ret := none) (by decide +kernel) (Nat.le_of_ble_eq_true rfl) ?_
  intro p e s m args below meth c hx hb hml hr ht hown hlk hnm A Q hA hK hP hD hQ ls hl hz
  have hown : s.vm.findClass R_Net = some m.cls := hown
  have hl : lv_has ls 1 [(0, .int (bI false))] := hl
  refine lv_iload_n hx hb d_Net_demand_0 rfl (lv_at hl 0 rfl) ?_
  refine ri_ifneB hx hb d_Net_demand_1 (tgt := 14) (by decide) (fun h1 => ?_) (fun h1 => ?_)
  · exact absurd h1 (fun z => by cases z)
  · exact ct_thr (text := "the document does not allow these arguments") h0 hfl hz hQ hlk hx hb hml hl.1 hown (by decide +kernel) (ht _ kl_Net_226) (ht _ kt_IllegalArgumentException) (ht _ kn_IllegalArgumentException) (fz_sr hz.1 (h0.1 _ (List.mem_of_getElem? (i := 402) (by decide +kernel)))) (fz_own h0 hz.1 [51, 384, 393, 396, 399, 401, 385, 386, 64, 65, 387, 392, 397, 417, 374, 418, 376, 419, 378, 388, 389, 390, 391, 380, 413, 414, 416, 380, 404, 405, 406, 407, 366, 407, 408, 409, 410, 368, 410, 411, 412, 413, 370, 403, 363, 364, 371, 372, 373, 375, 377, 379] [383, 382, 381] (by decide +kernel) (by decide +kernel) (by decide +kernel)) hK (by decide) rfl d_Net_demand_4 d_Net_demand_7 d_Net_demand_8 d_Net_demand_10 d_Net_demand_13
theorem kt_ISE9 : Cond.instantiable "java/lang/IllegalStateException" 6 ∈ tb := kt_IllegalStateException
set_option maxHeartbeats 4000000 in
set_option maxRecDepth 100000 in
theorem x_Net_demandRoom (l : Launch) (s0 : State) (A0 : Array Value) (h0 : fz_0 A0 s0) (hfl : ∀ e : Env, l.admits e → e.platform.stackTraces = false) (D : va_G) (cI cZ cJ cG : ClassId) : ct_X l s0 D kls (ty4 cI cZ cJ cG) y_Net_demandRoom ws_Net_demandRoom (rm_ 6 82 1 6) [.int (bI false)] [] "java/lang/IllegalStateException" (fun u => u = []) 1 6 := by
  refine ct_enterX (cc := b_Net_demandRoom) (maxL := 1) (ret := none) (by decide +kernel) (Nat.le_of_ble_eq_true rfl) ?_
  intro p e s m args below meth c hx hb hml hr ht hown hlk hnm A Q hA hK hP hD hQ ls hl hz
  have hown : s.vm.findClass R_Net = some m.cls := hown
  have hl : lv_has ls 1 [(0, .int (bI false))] := hl
  refine lv_iload_n hx hb d_Net_demandRoom_0 rfl (lv_at hl 0 rfl) ?_
  refine ri_ifneB hx hb d_Net_demandRoom_1 (tgt := 14) (by decide) (fun h1 => ?_) (fun h1 => ?_)
  · exact absurd h1 (fun z => by cases z)
  · exact ct_thr (text := "too much is on its way") h0 hfl hz hQ hlk hx hb hml hl.1 hown (by decide +kernel) (ht _ kl_Net_233) (ht _ kt_IllegalStateException) (ht _ kn_IllegalStateException) (fz_sr hz.1 (h0.1 _ (List.mem_of_getElem? (i := 470) (by decide +kernel)))) (fz_own h0 hz.1 [51, 384, 393, 396, 399, 401, 385, 386, 64, 65, 387, 392, 397, 417, 374, 418, 376, 419, 378, 388, 389, 390, 391, 380, 413, 414, 416, 380, 472, 473, 474, 407, 366, 407, 408, 409, 410, 368, 410, 411, 412, 413, 370, 471, 462, 463, 464, 395, 465, 466, 467, 468] [383, 382, 469] (by decide +kernel) (by decide +kernel) (by decide +kernel)) hK (by decide) rfl d_Net_demandRoom_4 d_Net_demandRoom_7 d_Net_demandRoom_8 d_Net_demandRoom_10 d_Net_demandRoom_13
