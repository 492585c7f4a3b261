/-! Integer.bitCount. -/
section LD
variable {p : Program} {l : Launch} {e : Env} {R : Room} {s : State} {m : MethodId} {args : Array Value} {below : List Frame} {meth : Method} {c : Code} {H : Heap} {locs : List Loc} {cells slots : Nat} {Q : State → Prop}
theorem ri_ldcw {cc : ByteArray} {pc : Nat} {ls : Array Slot} {rest : List Value} (hexec : p.tables.exec = Jvm.exec) (hb : c.code = cc) {own : String} {index : Nat} {v : Int32} (hown : s.vm.findClass own = some m.cls) (hconst : (Jvm.Cond.constant own index v).before args s = true) (hdg : decode cc pc = .ok (.ldc_w index, 3)) (k : W p l e R s m args below meth c H locs cells slots Q (F0 m (pc + 3) ls (.int v :: rest))) : W p l e R s m args below meth c H locs cells slots Q (F0 m pc ls rest) := by
  intro T hT X
  obtain ⟨t, a, b⟩ := k T hT X
  exact ⟨t, X.ldcWInt hexec hown hconst (g := F0 m pc ls rest) rfl (by rw [hb]; exact hdg) t a, b⟩
end LD
def R_Integer : String := "java/lang/Integer"
abbrev b_Integer_bitCount : ByteArray := prog_15_method_49_code
def y_Integer_bitCount : MethodName := ⟨R_Integer, "bitCount", "(I)I"⟩
abbrev ws_Integer_bitCount : List Cond := Cond.code y_Integer_bitCount b_Integer_bitCount 1 (some .int) :: tb
theorem hd_Integer_bitCount : hd_ok y_Integer_bitCount 1 := by unfold hd_ok; decide +kernel
theorem kc_Integer_bitCount : Cond.code y_Integer_bitCount b_Integer_bitCount 1 (some .int) ∈ tb := tb_of 816 (by decide +kernel) (by decide +kernel)
theorem ki_Integer_bitCount : Cond.static y_Integer_bitCount ∈ tb := tb_of 815 (by decide +kernel) (by decide +kernel)
theorem d_Integer_bitCount_0 : decode b_Integer_bitCount 0 = .ok (.iload_n 0, 1) := by decide +kernel
theorem d_Integer_bitCount_1 : decode b_Integer_bitCount 1 = .ok (.iload_n 0, 1) := by decide +kernel
theorem d_Integer_bitCount_2 : decode b_Integer_bitCount 2 = .ok (.iconst 1, 1) := by decide +kernel
theorem d_Integer_bitCount_3 : decode b_Integer_bitCount 3 = .ok (.iushr, 1) := by decide +kernel
theorem d_Integer_bitCount_4 : decode b_Integer_bitCount 4 = .ok (.ldc_w 265, 3) := by decide +kernel
theorem d_Integer_bitCount_7 : decode b_Integer_bitCount 7 = .ok (.iand, 1) := by decide +kernel
theorem d_Integer_bitCount_8 : decode b_Integer_bitCount 8 = .ok (.isub, 1) := by decide +kernel
theorem d_Integer_bitCount_9 : decode b_Integer_bitCount 9 = .ok (.istore_n 0, 1) := by decide +kernel
theorem d_Integer_bitCount_10 : decode b_Integer_bitCount 10 = .ok (.iload_n 0, 1) := by decide +kernel
theorem d_Integer_bitCount_11 : decode b_Integer_bitCount 11 = .ok (.ldc_w 266, 3) := by decide +kernel
theorem d_Integer_bitCount_14 : decode b_Integer_bitCount 14 = .ok (.iand, 1) := by decide +kernel
theorem d_Integer_bitCount_15 : decode b_Integer_bitCount 15 = .ok (.iload_n 0, 1) := by decide +kernel
theorem d_Integer_bitCount_16 : decode b_Integer_bitCount 16 = .ok (.iconst 2, 1) := by decide +kernel
theorem d_Integer_bitCount_17 : decode b_Integer_bitCount 17 = .ok (.iushr, 1) := by decide +kernel
theorem d_Integer_bitCount_18 : decode b_Integer_bitCount 18 = .ok (.ldc_w 266, 3) := by decide +kernel
theorem d_Integer_bitCount_21 : decode b_Integer_bitCount 21 = .ok (.iand, 1) := by decide +kernel
theorem d_Integer_bitCount_22 : decode b_Integer_bitCount 22 = .ok (.iadd, 1) := by decide +kernel
theorem d_Integer_bitCount_23 : decode b_Integer_bitCount 23 = .ok (.istore_n 0, 1) := by decide +kernel
theorem d_Integer_bitCount_24 : decode b_Integer_bitCount 24 = .ok (.iload_n 0, 1) := by decide +kernel
theorem d_Integer_bitCount_25 : decode b_Integer_bitCount 25 = .ok (.iload_n 0, 1) := by decide +kernel
theorem d_Integer_bitCount_26 : decode b_Integer_bitCount 26 = .ok (.iconst 4, 1) := by decide +kernel
theorem d_Integer_bitCount_27 : decode b_Integer_bitCount 27 = .ok (.iushr, 1) := by decide +kernel
theorem d_Integer_bitCount_28 : decode b_Integer_bitCount 28 = .ok (.iadd, 1) := by decide +kernel
theorem d_Integer_bitCount_29 : decode b_Integer_bitCount 29 = .ok (.ldc_w 267, 3) := by decide +kernel
theorem d_Integer_bitCount_32 : decode b_Integer_bitCount 32 = .ok (.iand, 1) := by decide +kernel
theorem d_Integer_bitCount_33 : decode b_Integer_bitCount 33 = .ok (.istore_n 0, 1) := by decide +kernel
theorem d_Integer_bitCount_34 : decode b_Integer_bitCount 34 = .ok (.iload_n 0, 1) := by decide +kernel
theorem d_Integer_bitCount_35 : decode b_Integer_bitCount 35 = .ok (.iload_n 0, 1) := by decide +kernel
theorem d_Integer_bitCount_36 : decode b_Integer_bitCount 36 = .ok (.bipush 8, 2) := by decide +kernel
theorem d_Integer_bitCount_38 : decode b_Integer_bitCount 38 = .ok (.iushr, 1) := by decide +kernel
theorem d_Integer_bitCount_39 : decode b_Integer_bitCount 39 = .ok (.iadd, 1) := by decide +kernel
theorem d_Integer_bitCount_40 : decode b_Integer_bitCount 40 = .ok (.istore_n 0, 1) := by decide +kernel
theorem d_Integer_bitCount_41 : decode b_Integer_bitCount 41 = .ok (.iload_n 0, 1) := by decide +kernel
theorem d_Integer_bitCount_42 : decode b_Integer_bitCount 42 = .ok (.iload_n 0, 1) := by decide +kernel
theorem d_Integer_bitCount_43 : decode b_Integer_bitCount 43 = .ok (.bipush 16, 2) := by decide +kernel
theorem d_Integer_bitCount_45 : decode b_Integer_bitCount 45 = .ok (.iushr, 1) := by decide +kernel
theorem d_Integer_bitCount_46 : decode b_Integer_bitCount 46 = .ok (.iadd, 1) := by decide +kernel
theorem d_Integer_bitCount_47 : decode b_Integer_bitCount 47 = .ok (.istore_n 0, 1) := by decide +kernel
theorem d_Integer_bitCount_48 : decode b_Integer_bitCount 48 = .ok (.iload_n 0, 1) := by decide +kernel
theorem d_Integer_bitCount_49 : decode b_Integer_bitCount 49 = .ok (.bipush 63, 2) := by decide +kernel
theorem d_Integer_bitCount_51 : decode b_Integer_bitCount 51 = .ok (.iand, 1) := by decide +kernel
theorem d_Integer_bitCount_52 : decode b_Integer_bitCount 52 = .ok (.ireturn, 1) := by decide +kernel
set_option maxHeartbeats 4000000 in
set_option maxRecDepth 100000 in
theorem k_Integer_bitCount (l : Launch) (D : va_G) (cI cZ cJ cG : ClassId)  (x : Int32) : ct_I l D kls (ty4 cI cZ cJ cG) y_Integer_bitCount ws_Integer_bitCount (rm_ 0 0 0 0) [.int x] ([]) (fun z u => z = bm_pop x 32 ∧ u = []) 0 0 := by
  refine ct_enterI (cc := b_Integer_bitCount) (maxL := 1) (ret := (some .int)) (by decide +kernel) (Nat.le_of_ble_eq_true rfl) ?_
  intro p e s m args below meth c hx hb hml hr ht hown hlk hnm A Q hA hK hP hD hQ ls hl
  have hown : s.vm.findClass R_Integer = some m.cls := hown
  have hS : va_S A s.heap s.heap [] := va_S.rf
  have hl : lv_has ls 1 [(0, .int x)] := hl
  refine lv_iload_n hx hb d_Integer_bitCount_0 rfl (lv_at hl 0 rfl) ?_
  refine lv_iload_n hx hb d_Integer_bitCount_1 rfl (lv_at hl 0 rfl) ?_
  refine lv_iconst (v := nI 1) hx hb d_Integer_bitCount_2 (by decide) ?_
  refine lv_iushr (v := us x 1) hx hb d_Integer_bitCount_3 rfl ?_
  refine ri_ldcw hx hb hown (ht _ kl_Integer_265) d_Integer_bitCount_4 ?_
  refine lv_iand hx hb d_Integer_bitCount_7 ?_
  refine lv_isub hx hb d_Integer_bitCount_8 ?_
  refine W.eq (g2 := F0 m 9 ls [.int (jb1 x)]) (congrArg (fun z => F0 m 9 ls (.int z :: [])) (rfl)) ?_
  refine lv_istore_n hx hb d_Integer_bitCount_9 rfl hl (by decide) rfl (fun ls hl => ?_)
  have hl : lv_has ls 1 [(0, .int (jb1 x))] := hl
  refine lv_iload_n hx hb d_Integer_bitCount_10 rfl (lv_at hl 0 rfl) ?_
  refine ri_ldcw hx hb hown (ht _ kl_Integer_266) d_Integer_bitCount_11 ?_
  refine lv_iand hx hb d_Integer_bitCount_14 ?_
  refine lv_iload_n hx hb d_Integer_bitCount_15 rfl (lv_at hl 0 rfl) ?_
  refine lv_iconst (v := nI 2) hx hb d_Integer_bitCount_16 (by decide) ?_
  refine lv_iushr (v := us (jb1 x) 2) hx hb d_Integer_bitCount_17 rfl ?_
  refine ri_ldcw hx hb hown (ht _ kl_Integer_266) d_Integer_bitCount_18 ?_
  refine lv_iand hx hb d_Integer_bitCount_21 ?_
  refine lv_iadd hx hb d_Integer_bitCount_22 ?_
  refine W.eq (g2 := F0 m 23 ls [.int (jb2 (jb1 x))]) (congrArg (fun z => F0 m 23 ls (.int z :: [])) (rfl)) ?_
  refine lv_istore_n hx hb d_Integer_bitCount_23 rfl hl (by decide) rfl (fun ls hl => ?_)
  have hl : lv_has ls 1 [(0, .int (jb2 (jb1 x)))] := hl
  refine lv_iload_n hx hb d_Integer_bitCount_24 rfl (lv_at hl 0 rfl) ?_
  refine lv_iload_n hx hb d_Integer_bitCount_25 rfl (lv_at hl 0 rfl) ?_
  refine lv_iconst (v := nI 4) hx hb d_Integer_bitCount_26 (by decide) ?_
  refine lv_iushr (v := us (jb2 (jb1 x)) 4) hx hb d_Integer_bitCount_27 rfl ?_
  refine lv_iadd hx hb d_Integer_bitCount_28 ?_
  refine ri_ldcw hx hb hown (ht _ kl_Integer_267) d_Integer_bitCount_29 ?_
  refine lv_iand hx hb d_Integer_bitCount_32 ?_
  refine W.eq (g2 := F0 m 33 ls [.int (jb3 (jb2 (jb1 x)))]) (congrArg (fun z => F0 m 33 ls (.int z :: [])) (rfl)) ?_
  refine lv_istore_n hx hb d_Integer_bitCount_33 rfl hl (by decide) rfl (fun ls hl => ?_)
  have hl : lv_has ls 1 [(0, .int (jb3 (jb2 (jb1 x))))] := hl
  refine lv_iload_n hx hb d_Integer_bitCount_34 rfl (lv_at hl 0 rfl) ?_
  refine lv_iload_n hx hb d_Integer_bitCount_35 rfl (lv_at hl 0 rfl) ?_
  refine lv_bipush (v := nI 8) hx hb d_Integer_bitCount_36 (by decide) ?_
  refine lv_iushr (v := us (jb3 (jb2 (jb1 x))) 8) hx hb d_Integer_bitCount_38 rfl ?_
  refine lv_iadd hx hb d_Integer_bitCount_39 ?_
  refine W.eq (g2 := F0 m 40 ls [.int (jb4 (jb3 (jb2 (jb1 x))))]) (congrArg (fun z => F0 m 40 ls (.int z :: [])) (rfl)) ?_
  refine lv_istore_n hx hb d_Integer_bitCount_40 rfl hl (by decide) rfl (fun ls hl => ?_)
  have hl : lv_has ls 1 [(0, .int (jb4 (jb3 (jb2 (jb1 x)))))] := hl
  refine lv_iload_n hx hb d_Integer_bitCount_41 rfl (lv_at hl 0 rfl) ?_
  refine lv_iload_n hx hb d_Integer_bitCount_42 rfl (lv_at hl 0 rfl) ?_
  refine lv_bipush (v := nI 16) hx hb d_Integer_bitCount_43 (by decide) ?_
  refine lv_iushr (v := us (jb4 (jb3 (jb2 (jb1 x)))) 16) hx hb d_Integer_bitCount_45 rfl ?_
  refine lv_iadd hx hb d_Integer_bitCount_46 ?_
  refine W.eq (g2 := F0 m 47 ls [.int (jb5 (jb4 (jb3 (jb2 (jb1 x)))))]) (congrArg (fun z => F0 m 47 ls (.int z :: [])) (rfl)) ?_
  refine lv_istore_n hx hb d_Integer_bitCount_47 rfl hl (by decide) rfl (fun ls hl => ?_)
  have hl : lv_has ls 1 [(0, .int (jb5 (jb4 (jb3 (jb2 (jb1 x))))))] := hl
  refine lv_iload_n hx hb d_Integer_bitCount_48 rfl (lv_at hl 0 rfl) ?_
  refine lv_bipush (v := nI 63) hx hb d_Integer_bitCount_49 (by decide) ?_
  refine lv_iand hx hb d_Integer_bitCount_51 ?_
  exact ct_iret hQ hx hb hr hlk hP hD hS hK (by omega) (by omega) d_Integer_bitCount_52 (⟨jb_pop x, rfl⟩)
