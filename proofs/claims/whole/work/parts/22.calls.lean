/-! Calls that change nothing; blocks put back in order. -/
abbrev ty4 (cI cZ cJ cG : ClassId) : List (ClassId × FieldType) := [(cI, .int), (cZ, .boolean), (cJ, .long), (cG, .array .int)]
theorem pm_all (ws : va_W) : ws.Perm (ws ++ []) := by rw [List.append_nil]
theorem wd_ct {Bs : List va_W} {wc : va_W} (n : Nat) (hn : Bs.length = n) (isC isR : List Nat) (h : (isC ++ isR).Perm (List.range n)) (hC : (wd_pk isC Bs).flatten = wc) : Bs.flatten.Perm (wc ++ (wd_pk isR Bs).flatten) := by
  subst hn
  subst hC
  exact wd_cut isC isR h
theorem wd_nP {D : va_G} {cl : List vw_C} {H : Heap} {N R : List va_W} {u : va_W} (hN : N.flatten = u) (n : Nat) (hn : (N ++ R).length = n) (is : List Nat) (h : is.Perm (List.range n)) (hP : va_P D cl (u ++ R.flatten) H) : va_P D cl (wd_pk is (N ++ R)).flatten H := by
  subst hN
  subst hn
  rw [← List.flatten_append] at hP
  exact wd_Pp (wd_perm is h) hP
theorem wd_nD {A : Nat → Prop} {N R : List va_W} {u : va_W} (hN : N.flatten = u) (n : Nat) (hn : (N ++ R).length = n) (is : List Nat) (h : is.Perm (List.range n)) (hD : va_D A (u ++ R.flatten)) : va_D A (wd_pk is (N ++ R)).flatten := by
  subst hN
  subst hn
  rw [← List.flatten_append] at hD
  exact wd_Dp (wd_perm is h) hD
theorem wd_1 (B : va_W) : List.flatten [B] = B := by simp
theorem wd_mem {Bs : List va_W} {B : va_W} {x : Nat × va_E} (k : Nat) (hk : Bs[k]? = some B) (h : x ∈ B) : x ∈ Bs.flatten := List.mem_flatten.mpr ⟨B, List.mem_of_getElem? hk, h⟩
section CR
variable {p : Program} {l : Launch} {e : Env} {R : Room} {s : State} {m : MethodId} {args : Array Value} {below : List Frame} {meth : Method} {c : Code} {H : Heap} {locs : List Loc} {cells slots : Nat} {Q : State → Prop}
variable {cc bytes : ByteArray} {pc nL maxL n index ci b : Nat} {ls : Array Slot} {rest st0 As : List Value} {D : va_G} {cl : List vw_C} {A : Nat → Prop} {tys : List (ClassId × FieldType)} {ws wc wr : va_W} {H0 : Heap} {own C host : String} {y : MethodName} {Ts wy : List Cond} {rm : Room} {ret : Option FieldType} {fs : List Value} {q : vw_C}
theorem ct_rdV {φ : Int32 → Prop} (S : CallFix p m c cc nL s args Ts own) (hM : ct_I l D cl tys y wy rm (.ref b :: As) wc (fun r u => φ r ∧ u = wc) 0 0) (cw : CallW R s args own C index y bytes maxL ret wy rm 0 0 n) (he : (b, Sum.inr (ci, fs)) ∈ ws) (hc : cl[ci]? = some q) (hq : q.1 = C) (hp : ws.Perm (wc ++ wr)) (hK : va_K D cl tys s) (hP : va_P D cl ws H) (hD : va_D A ws) (hS : va_S A H0 H locs) (hA : ∀ q, H0.size ≤ q → A q) (hn : As.length = n) (hl : ls.size = nL) (hst : st0 = As.reverse ++ .ref b :: rest) (hW : (rest.map fun v => v.category).sum ≤ 8) (hf : cells + 0 ≤ R.cells ∧ slots + 0 ≤ R.slots) (hd : decode cc pc = .ok (.invokevirtual index, 3)) (kk : ∀ (r : Int32) (H1 : Heap) (locs1 : List Loc), φ r → va_P D cl ws H1 → va_D A ws → va_S A H0 H1 locs1 → W p l e R s m args below meth c H1 locs1 cells slots Q (F0 m (pc + 3) ls (.int r :: rest))) : W p l e R s m args below meth c H locs cells slots Q (F0 m pc ls st0) :=
  ct_callVI S hM cw he hc hq hp hK hP hD hS hA hn hl hst hW hf hd (fun r u H1 locs1 hpo hP1 hD1 hS1 => by
    obtain ⟨h1, rfl⟩ := hpo
    exact kk r H1 locs1 h1 (wd_Pp hp.symm hP1) (wd_Dp hp.symm hD1) hS1)
theorem ct_rdS {φ : Int32 → Prop} (S : CallFix p m c cc nL s args Ts own) (hM : ct_I l D cl tys y wy rm As wc (fun r u => φ r ∧ u = wc) 0 0) (cw : CallB R s args own index y bytes maxL ret wy rm 0 0 n ∧ (Cond.static y).before args s = true) (hp : ws.Perm (wc ++ wr)) (hK : va_K D cl tys s) (hP : va_P D cl ws H) (hD : va_D A ws) (hS : va_S A H0 H locs) (hA : ∀ q, H0.size ≤ q → A q) (hn : As.length = n) (hl : ls.size = nL) (hst : st0 = As.reverse ++ rest) (hW : (rest.map fun v => v.category).sum ≤ 8) (hf : cells + 0 ≤ R.cells ∧ slots + 0 ≤ R.slots) (hd : decode cc pc = .ok (.invokestatic index, 3)) (kk : ∀ (r : Int32) (H1 : Heap) (locs1 : List Loc), φ r → va_P D cl ws H1 → va_D A ws → va_S A H0 H1 locs1 → W p l e R s m args below meth c H1 locs1 cells slots Q (F0 m (pc + 3) ls (.int r :: rest))) : W p l e R s m args below meth c H locs cells slots Q (F0 m pc ls st0) :=
  ct_callSI S hM cw hp hK hP hD hS hA hn hl hst hW hf hd (fun r u H1 locs1 hpo hP1 hD1 hS1 => by
    obtain ⟨h1, rfl⟩ := hpo
    exact kk r H1 locs1 h1 (wd_Pp hp.symm hP1) (wd_Dp hp.symm hD1) hS1)
theorem ri_newi {cA : ClassId} (hx : p.tables.exec = Jvm.exec) (hb : c.code = cc) (harr : (Cond.arrayClass .int).before args s = true) (hK : va_K D cl tys s) (hP : va_P D cl ws H) (hD : va_D A ws) (hS : va_S A H0 H locs) (hA : ∀ q, H0.size ≤ q → A q) (t0 : Nat) (ht : tys[t0]? = some (cA, .int)) {N' : Nat} (hN : N' < 134217728) (hc : cells + 1 ≤ R.cells) (hs : slots + N' ≤ R.slots) (hd : decode cc pc = .ok (.newarray .int, 2))
    (kk : ∀ (q : Nat) (H1 : Heap), va_P D cl (ws ++ [(q, .inl (cA, N', .inl (fun _ => 0)))]) H1 → va_D A (ws ++ [(q, .inl (cA, N', .inl (fun _ => 0)))]) → va_S A H0 H1 locs → W p l e R s m args below meth c H1 locs (cells + 1) (slots + N') Q (F0 m (pc + 2) ls (.ref q :: rest))) : W p l e R s m args below meth c H locs cells slots Q (F0 m pc ls (.int (nI N') :: rest)) := by
  refine va_newa hx hb (atype := .int) harr rfl hK hP hD hS hA (a0 := (N', .inl (fun _ => 0))) (fun _ => rfl) (nI_pos (show N' < 2 ^ 31 by omega)) (nI_clamp (show N' < 2 ^ 31 by omega)) (show N' * 4 ≤ 536870912 by omega) hc hs hd (fun q cA' H1 hK1 hP1 hD1 hS1 => ?_)
  have e1 : s.vm.findClass ("[" ++ FieldType.int.toString) = some cA := (hK.2 t0 _ ht).2
  have e2 : s.vm.findClass ("[" ++ FieldType.int.toString) = some cA' := (hK1.2 tys.length (cA', .int) (by rw [List.getElem?_append_right (Nat.le_refl _), Nat.sub_self]; rfl)).2
  have e : cA' = cA := Option.some.inj (e2.symm.trans e1)
  subst e
  exact kk q H1 hP1 hD1 hS1
theorem ri_copy {a : Nat} (hx : p.tables.exec = Jvm.exec) (hb : c.code = cc) (hml : c.maxLocals = ls.size) (hown : s.vm.findClass own = some m.cls) (hlink : (Cond.methodLink own index arraycopyName).before args s = true) (hnat : (Cond.native arraycopyName).before args s = true) (hstat : (Cond.static arraycopyName).before args s = true) (hini : (Cond.initialized "java/lang/System").before args s = true)
    (hK : va_K D cl tys s) (hP : va_P D cl ws H) (hD : va_D A ws) (hS : va_S A H0 H locs) (q0 q1 t0 : Nat) {a0 : Nat} {c0 : ClassId} {n0 n1 : Nat} {f g : Nat → Int32} (ha0 : ws[q0]? = some (a0, .inl (c0, n0, .inl f))) (ha1 : ws[q1]? = some (a, .inl (c0, n1, .inl g))) (ht0 : tys[t0]? = some (c0, .int))
    {sp dp k : Nat} (h4 : sp + k ≤ n0) (h5 : dp + k ≤ n1) (h6 : n0 < 2147483648) (h7 : n1 < 2147483648) (hframes : 1 ≤ R.frames) (hlocals : (rest.map fun v => v.category).sum + 18 ≤ R.locals) (hd : decode cc pc = .ok (.invokestatic index, 3))
    (kk : ∀ (H1 : Heap) (locs1 : List Loc), va_P D cl (ws.set q1 (a, .inl (c0, n1, .inl (va_cpy f g sp dp k)))) H1 → va_D A (ws.set q1 (a, .inl (c0, n1, .inl (va_cpy f g sp dp k)))) → va_S A H0 H1 locs1 → W p l e R s m args below meth c H1 locs1 cells slots Q (F0 m (pc + 3) ls rest)) : W p l e R s m args below meth c H locs cells slots Q (F0 m pc ls (.int (nI k) :: .int (nI dp) :: .ref a :: .int (nI sp) :: .ref a0 :: rest)) := by
  have e1 : (nI sp).toNatClampNeg = sp := nI_clamp (show sp < 2 ^ 31 by omega)
  have e2 : (nI dp).toNatClampNeg = dp := nI_clamp (show dp < 2 ^ 31 by omega)
  have e3 : (nI k).toNatClampNeg = k := nI_clamp (show k < 2 ^ 31 by omega)
  refine va_copyi hx hb hml hown hlink hnat hstat hini hK hP hD hS q0 q1 t0 t0 ha0 ha1 ht0 ht0 rfl (nI_pos (show sp < 2 ^ 31 by omega)) (nI_pos (show dp < 2 ^ 31 by omega)) (nI_pos (show k < 2 ^ 31 by omega)) (by rw [e1, e3]; exact h4) (by rw [e2, e3]; exact h5) (fun _ _ => rfl) hframes hlocals hd ?_
  rw [e1, e2, e3]
  exact kk
end CR
section CX
variable {l : Launch} {D : va_G} {cl : List vw_C} {tys : List (ClassId × FieldType)} {y : MethodName} {wy : List Cond} {rm : Room} {av : List Value} {wc : va_W} {mc ms : Nat}
/-- a contract says less -/
theorem ct_I.to {p1 p2 : Int32 → va_W → Prop} (h : ct_I l D cl tys y wy rm av wc p1 mc ms) (k : ∀ r u, p1 r u → p2 r u) : ct_I l D cl tys y wy rm av wc p2 mc ms := by
  intro sz p e a1 a2 a3 s m args below h1 h2 h3 h4
  obtain ⟨n, o, b1, b2, b3, ⟨⟨⟨r, u, q1, q2, q3⟩, q4⟩, q5⟩⟩ := h sz p e a1 a2 a3 s m args below h1 h2 h3 h4
  exact ⟨n, o, b1, b2, b3, ⟨⟨⟨r, u, q1, k r u q2, q3⟩, q4⟩, q5⟩⟩
theorem ct_V.to {p1 p2 : va_W → Prop} (h : ct_V l D cl tys y wy rm av wc p1 mc ms) (k : ∀ u, p1 u → p2 u) : ct_V l D cl tys y wy rm av wc p2 mc ms := by
  intro sz p e a1 a2 a3 s m args below h1 h2 h3 h4
  obtain ⟨n, o, b1, b2, b3, ⟨⟨⟨u, q1, q2, q3⟩, q4⟩, q5⟩⟩ := h sz p e a1 a2 a3 s m args below h1 h2 h3 h4
  exact ⟨n, o, b1, b2, b3, ⟨⟨⟨u, q1, k u q2, q3⟩, q4⟩, q5⟩⟩
end CX
