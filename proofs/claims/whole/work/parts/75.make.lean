/-! What constructors ask besides: the class of arrays of int[] is there, and two nest words. -/
def wd_n9 : Cond := .methodLinkNest R_Net 9 y_Edges_init R_Net
def wd_n18 : Cond := .methodLinkNest R_Net 18 y_Links_init R_Net
def cz_Z (U : State) : Prop := (∀ A : Array Value, (Cond.arrayOver (.array .int)).before A U = true) ∧ va_Nw wd_n9 U ∧ va_Nw wd_n18 U
theorem cz_same {u U : State} (h : u.vm = U.vm) (hZ : cz_Z u) : cz_Z U := ⟨fun A => arrayOver_alikeB (by rw [h]; exact Vm.Alike.refl U.vm) (hZ.1 A), va_Nw.same rfl h hZ.2.1, va_Nw.same rfl h hZ.2.2⟩
theorem cz_warm {u U : State} (h : u.WarmedH U.vm) (hZ : cz_Z u) : cz_Z U := ⟨fun A => arrayOver_alikeB h.alike (hZ.1 A), va_Nw.warmM h hZ.2.1, va_Nw.warmM h hZ.2.2⟩
def cz_Pc (D : va_G) (cl : List vw_C) (tys : List (ClassId × FieldType)) (av : List Value) (wc : va_W) (sz : Nat) : Array Value → State → Prop := va_Pc av (fun U => (U.heap.size = sz ∧ va_P D cl wc U.heap ∧ va_K D cl tys U ∧ va_D (fun _ => True) wc) ∧ cz_Z U)
/-- a contract like ct_V, of a method that asks cz_Z too -/
def ct_N (l : Launch) (D : va_G) (cl : List vw_C) (tys : List (ClassId × FieldType)) (y : MethodName) (ws : List Cond) (rm : Room) (av : List Value) (wc : va_W) (post : va_W → Prop) (mc ms : Nat) : Prop :=
  ∀ sz : Nat, Met l y ws rm (cz_Pc D cl tys av wc sz) (va_Qv post (ct_B D cl tys (va_A wc sz)) (va_A wc sz)) mc ms (va_A wc sz)
theorem cz_blind {D : va_G} {cl : List vw_C} {tys : List (ClassId × FieldType)} {av : List Value} {wc : va_W} {sz : Nat} : FrameBlind (cz_Pc D cl tys av wc sz) := by
  intro a U g mk q
  obtain ⟨q0, ⟨q1, qP, qK, qD⟩, qZ⟩ := q
  exact ⟨q0, ⟨q1, qP, va_K.moved (u := U) (U := U.calling g mk a) (Vm.Alike.refl U.vm) qK, qD⟩, cz_same (u := U) (U := U.calling g mk a) rfl qZ⟩
section CZ
variable {l : Launch} {D : va_G} {cl : List vw_C} {tys : List (ClassId × FieldType)} {y : MethodName} {ws' : List Cond} {rm : Room} {av : List Value} {wc : va_W} {mc ms : Nat} {cc : ByteArray} {maxL : Nat} {ret : Option FieldType}
def cz_body (l : Launch) (D : va_G) (cl : List vw_C) (tys : List (ClassId × FieldType)) (y : MethodName) (ws' : List Cond) (rm : Room) (av : List Value) (wc : va_W) (mc ms : Nat) (cc : ByteArray) (maxL : Nat) (ret : Option FieldType) (Qk : (Nat → Prop) → Array Value → State → Outcome → State → Prop) : Prop :=
  ∀ {p : Program} {e : Env} {s : State} {m : MethodId} {args : Array Value} {below : List Frame} {meth : Method} {c : Code}, p.tables.exec = Jvm.exec → c.code = cc → c.maxLocals = maxL → meth.sig.returnType = ret → (∀ w ∈ ws', w.before args s = true) → s.vm.findClass y.cls = some m.cls → meth.locks = false → meth.name = y.name →
      ∀ (A : Nat → Prop) (Q : State → Prop), (∀ q, s.heap.size ≤ q → A q) → va_K D cl tys s → va_P D cl wc s.heap → va_D A wc → MQ below (Qk A) args s mc ms A = Q → ∀ ls : Array Slot, lv_has ls maxL (lv_args 0 av) → cz_Z s → W p l e rm s m args below meth c s.heap [] 0 0 Q (F0 m 0 ls [])
theorem ct_enterN {post : va_W → Prop} (hy : plainName y.cls = true) (hle : (lg_sl av).length ≤ maxL) (body : cz_body l D cl tys y ws' rm av wc mc ms cc maxL ret (fun A => va_Qv post (ct_B D cl tys A) A)) : ct_N l D cl tys y (Cond.code y cc maxL ret :: ws') rm av wc post mc ms := by
  intro sz
  refine Met.ofW (cc := cc) (maxL := maxL) (ret := ret) hy rfl ?_
  intro p e s m args below meth c s₁ B hml hv
  obtain ⟨rfl, ⟨hsz, hP, hK, hD0⟩, hZ⟩ := hv
  subst hsz
  rw [lg_entry_eq]
  exact body B.exec B.bytes hml B.returns (fun w h => atoms_spec (ws := Cond.code y cc maxL ret :: ws') B.pre w (List.mem_cons_of_mem _ h)) (findClass_of_methodNamed B.named) B.notSynchronized (name_of_methodNamed B.named B.method).1 (va_A wc s.heap.size) _ (fun q h => Or.inr h) hK hP (hD0.self (sz := s.heap.size)) rfl _ (lv_entry av (n := maxL) hle) hZ
end CZ
section CY
variable {p : Program} {l : Launch} {e : Env} {R : Room} {s : State} {m : MethodId} {args : Array Value} {below : List Frame} {meth : Method} {c : Code} {H : Heap} {locs : List Loc} {cells slots : Nat} {Q : State → Prop}
variable {cc bytes : ByteArray} {pc nL maxL n index ci b mc ms : Nat} {ls : Array Slot} {rest st0 As : List Value} {D : va_G} {cl : List vw_C} {A : Nat → Prop} {tys : List (ClassId × FieldType)} {ws wc wr : va_W} {H0 : Heap} {own host : String} {y : MethodName} {Ts wy : List Cond} {rm : Room}
theorem cz_pre (hp : ws.Perm (wc ++ wr)) (hK : va_K D cl tys s) (hP : va_P D cl ws H) (hD : va_D A ws) (hZ : cz_Z s) {av : List Value} : ∀ U : State, U.heap = H → s.WarmedH U.vm → cz_Pc D cl tys av wc H.size av.toArray U := by
  intro U hU hW
  exact ⟨rfl, ⟨by rw [hU], by rw [hU]; exact wd_Pl (wd_Pp hp hP), va_K.moved hW.alike hK, (wd_Dl (wd_Dp hp hD)).weaken (fun _ _ _ _ => trivial)⟩, cz_warm hW hZ⟩
theorem ct_callN {post : va_W → Prop} (hZ : cz_Z s) (S : CallFix p m c cc nL s args Ts own) (hM : ct_N l D cl tys y wy rm (.ref b :: As) wc post mc ms) (cw : CallB R s args own index y bytes maxL none wy rm mc ms n ∧ y.name = "<init>" ∧ (Cond.instanceMethod y).before args s = true) (hp : ws.Perm (wc ++ wr)) (hK : va_K D cl tys s) (hP : va_P D cl ws H) (hD : va_D A ws) (hS : va_S A H0 H locs) (hA : ∀ q, H0.size ≤ q → A q) (hn : As.length = n) (hl : ls.size = nL) (hst : st0 = As.reverse ++ .ref b :: rest) (hW : (rest.map fun v => v.category).sum ≤ 8) (hf : cells + mc ≤ R.cells ∧ slots + ms ≤ R.slots) (hd : decode cc pc = .ok (.invokespecial index, 3)) (kk : ∀ (u : va_W) (H1 : Heap) (locs1 : List Loc), post u → va_P D cl (u ++ wr) H1 → va_D A (u ++ wr) → va_S A H0 H1 locs1 → W p l e R s m args below meth c H1 locs1 (cells + mc) (slots + ms) Q (F0 m (pc + 3) ls rest)) : W p l e R s m args below meth c H locs cells slots Q (F0 m pc ls st0) :=
  ct_goV (va_runI (As := As) (rest := rest) S (hM H.size) cw ⟨cz_blind, cz_pre hp hK hP hD hZ⟩ rfl hn hl hst (lv_room hW) hd hf) hp hK hP hD hS hA kk
theorem ct_callNN {post : va_W → Prop} (hZ : cz_Z s) (S : CallFix p m c cc nL s args Ts own) (hM : ct_N l D cl tys y wy rm (.ref b :: As) wc post mc ms) (cw : va_CN R s args own index y host bytes maxL none wy rm mc ms n ∧ y.name = "<init>" ∧ (Cond.instanceMethod y).before args s = true) (hp : ws.Perm (wc ++ wr)) (hK : va_K D cl tys s) (hP : va_P D cl ws H) (hD : va_D A ws) (hS : va_S A H0 H locs) (hA : ∀ q, H0.size ≤ q → A q) (hn : As.length = n) (hl : ls.size = nL) (hst : st0 = As.reverse ++ .ref b :: rest) (hW : (rest.map fun v => v.category).sum ≤ 8) (hf : cells + mc ≤ R.cells ∧ slots + ms ≤ R.slots) (hd : decode cc pc = .ok (.invokespecial index, 3)) (kk : ∀ (u : va_W) (H1 : Heap) (locs1 : List Loc), post u → va_P D cl (u ++ wr) H1 → va_D A (u ++ wr) → va_S A H0 H1 locs1 → W p l e R s m args below meth c H1 locs1 (cells + mc) (slots + ms) Q (F0 m (pc + 3) ls rest)) : W p l e R s m args below meth c H locs cells slots Q (F0 m pc ls st0) :=
  ct_goV (va_runIN (As := As) (rest := rest) S (hM H.size) cw ⟨cz_blind, cz_pre hp hK hP hD hZ⟩ rfl hn hl hst (lv_room hW) hd hf) hp hK hP hD hS hA kk
theorem ri_newz {cA : ClassId} (hx : p.tables.exec = Jvm.exec) (hb : c.code = cc) (harr : (Cond.arrayClass .boolean).before args s = true) (hK : va_K D cl tys s) (hP : va_P D cl ws H) (hD : va_D A ws) (hS : va_S A H0 H locs) (hA : ∀ q, H0.size ≤ q → A q) (t0 : Nat) (ht : tys[t0]? = some (cA, .boolean)) {N' : Nat} (hN : N' < 134217728) (hc : cells + 1 ≤ R.cells) (hs : slots + N' ≤ R.slots) (hd : decode cc pc = .ok (.newarray .boolean, 2))
    (kk : ∀ (q : Nat) (H1 : Heap), va_P D cl (ws ++ [(q, .inl (cA, N', .inl (fun _ => 0)))]) H1 → va_D A (ws ++ [(q, .inl (cA, N', .inl (fun _ => 0)))]) → va_S A H0 H1 locs → W p l e R s m args below meth c H1 locs (cells + 1) (slots + N') Q (F0 m (pc + 2) ls (.ref q :: rest))) : W p l e R s m args below meth c H locs cells slots Q (F0 m pc ls (.int (nI N') :: rest)) := by
  refine va_newa hx hb (atype := .boolean) harr rfl hK hP hD hS hA (a0 := (N', .inl (fun _ => 0))) (fun _ => rfl) (nI_pos (show N' < 2 ^ 31 by omega)) (nI_clamp (show N' < 2 ^ 31 by omega)) (show N' * 1 ≤ 536870912 by omega) hc hs hd (fun q cA' H1 hK1 hP1 hD1 hS1 => ?_)
  have e1 : s.vm.findClass ("[" ++ FieldType.boolean.toString) = some cA := (hK.2 t0 _ ht).2
  have e2 : s.vm.findClass ("[" ++ FieldType.boolean.toString) = some cA' := (hK1.2 tys.length (cA', .boolean) (by rw [List.getElem?_append_right (Nat.le_refl _), Nat.sub_self]; rfl)).2
  have e : cA' = cA := Option.some.inj (e2.symm.trans e1)
  subst e
  exact kk q H1 hP1 hD1 hS1
theorem ri_outer (c : ClassId) (N h0 : Nat) : ∀ i : Nat, Jvm.Free.Multi.outerC c N h0 i = arrV c N (fun j => va_rf (if j < i then some (h0 + 1 + j) else none))
  | 0 => by
    show ({ cls := c, slots := Array.replicate N .null, vm := .none } : Cell) = _
    rw [arrV_new]
    refine congrArg (arrV c N) (funext fun j => ?_)
    rw [if_neg (by omega)]
    rfl
  | i + 1 => by
    show (Jvm.Free.Multi.outerC c N h0 i).setSlot i (.ref (h0 + 1 + i)) = _
    rw [ri_outer c N h0 i, arrV_store]
    refine congrArg (arrV c N) (funext fun j => ?_)
    by_cases e : j = i
    · subst e
      simp [updV, va_rf]
    · by_cases h : j < i
      · simp [updV, e, h, Nat.lt_succ_of_lt h]
      · simp [updV, e, h, show ¬ j < i + 1 by omega]
/-- new int[12][k] -/
theorem ri_mna {cI cZ cJ cG : ClassId} {k : Nat} (hx : p.tables.exec = Jvm.exec) (hb : c.code = cc) (hown : s.vm.findClass own = some m.cls) (hclink : (Cond.classLink own index "[[I").before args s = true) (hover : (Cond.arrayOver (.array .int)).before args s = true) (harr : (Cond.arrayClass .int).before args s = true) (hK : va_K D cl (ty4 cI cZ cJ cG) s) (hP : va_P D cl ws H) (hD : va_D A ws) (hS : va_S A H0 H locs) (hA : ∀ q, H0.size ≤ q → A q) (hk : k < 1000) (hc : cells + 13 ≤ R.cells) (hs : slots + (12 + 12 * k) ≤ R.slots) (hd : decode cc pc = .ok (.multianewarray index 2, 4))
    (kk : ∀ (q : Nat) (ra : Nat → Nat) (H1 : Heap), va_P D cl (ws ++ ([(q, .inl (cG, 12, .inr (.inr (.inr (.inr (go ra))))))] ++ gd cI k ra (fun _ _ => 0))) H1 → va_D A (ws ++ ([(q, .inl (cG, 12, .inr (.inr (.inr (.inr (go ra))))))] ++ gd cI k ra (fun _ _ => 0))) → va_S A H0 H1 locs → W p l e R s m args below meth c H1 locs (cells + 13) (slots + (12 + 12 * k)) Q (F0 m (pc + 4) ls (.ref q :: rest))) : W p l e R s m args below meth c H locs cells slots Q (F0 m pc ls (.int (nI k) :: .int (nI 12) :: rest)) := by
  intro T hT Xs
  have e12 : (nI 12).toNatClampNeg = 12 := by decide +kernel
  have ek : (nI k).toNatClampNeg = k := nI_clamp (show k < 2 ^ 31 by omega)
  obtain ⟨vm₁, cA, comp, -, fA, fC, -, -, X', step⟩ := Xs.multianewarray2F hx hown hclink hover harr (g := F0 m pc ls (.int (nI k) :: .int (nI 12) :: rest)) rfl (by rw [hb]; exact hd) rfl (by decide +kernel) (nI_pos (show k < 2 ^ 31 by omega)) (by rw [e12]; decide) (by rw [ek]; show k * 4 ≤ 536870912; omega) (by rw [ek]; omega) rfl rfl (by rw [e12]; exact hc) (by rw [e12, ek]; exact hs)
  have g1 : s.vm.findClass ("[" ++ FieldType.int.toString) = some cI := (hK.2 0 (cI, .int) rfl).2
  have g2 : s.vm.findClass ("[" ++ (FieldType.array FieldType.int).toString) = some cG := (hK.2 3 (cG, .array .int) rfl).2
  have ec : cA = cG := Option.some.inj (fA.symm.trans g2)
  have ed : comp = cI := Option.some.inj (fC.symm.trans g1)
  subst ec
  subst ed
  rw [e12, ek] at X' step
  generalize hF : Jvm.Free.Multi.fill (T.setVm vm₁) cA comp 12 k (defaultValue .int) 12 = F at X' step
  have hTh : (T.setVm vm₁).heap = H := hT
  obtain ⟨f1, f2, -, -⟩ := Jvm.Free.Multi.fill_facts (T.setVm vm₁) cA comp 12 k (defaultValue .int) 12
  rw [hF, hTh] at f1 f2
  have hold : ∀ x : Nat, x < H.size → F.heap[x]? = H[x]? := fun x hx => by
    have := Jvm.Free.Multi.fill_old (T.setVm vm₁) cA comp 12 k (defaultValue .int) (a := x) (by rw [hTh]; exact hx) 12
    rw [hF, hTh] at this
    exact this
  have hrow : ∀ j : Nat, j < 12 → F.heap[H.size + 1 + j]? = some (vp_cell comp (k, .inl (fun _ => 0))) := fun j hj => by
    have := Jvm.Free.Multi.fill_inner (T.setVm vm₁) cA comp 12 k (defaultValue .int) 12 j hj
    rw [hF, hTh] at this
    rw [this]
    exact congrArg some ((arrV_new ..).trans rfl)
  rw [ri_outer] at f2
  have hlt : ∀ q ∈ ws, q.1 < H.size := fun q hq => by
    obtain ⟨i, hi⟩ := List.getElem?_of_mem hq
    exact (hP i q hi).lt
  obtain ⟨d1, d2⟩ := wd_D.mp hD
  have hP1 : va_P D cl (ws ++ ([(H.size, .inl (cA, 12, .inr (.inr (.inr (.inr (go (fun i => H.size + 1 + i)))))))] ++ gd comp k (fun i => H.size + 1 + i) (fun _ _ => 0))) F.heap := by
    refine wd_P.mpr fun q hq => ?_
    rcases List.mem_append.mp hq with h | h
    · exact (wd_P.mp hP q h).kept (hold q.1 (hlt q h))
    · rcases List.mem_append.mp h with h | h
      · cases List.mem_singleton.mp h
        exact f2
      · obtain ⟨i, hi, rfl⟩ := List.mem_map.mp h
        exact hrow i (List.mem_range.mp hi)
  have hD1 : va_D A (ws ++ ([(H.size, .inl (cA, 12, .inr (.inr (.inr (.inr (go (fun i => H.size + 1 + i)))))))] ++ gd comp k (fun i => H.size + 1 + i) (fun _ _ => 0))) := by
    refine wd_D.mpr ⟨?_, fun q hq => ?_⟩
    · rw [List.map_append, List.map_append]
      refine List.nodup_append.mpr ⟨d1, ?_, ?_⟩
      · refine List.nodup_append.mpr ⟨List.nodup_cons.mpr ⟨List.not_mem_nil, List.nodup_nil⟩, ?_, ?_⟩
        · unfold gd
          rw [List.map_map]
          refine List.pairwise_map.mpr (List.nodup_range.imp (fun {a b} hab e => hab ?_))
          have e : H.size + 1 + a = H.size + 1 + b := e
          omega
        · intro a ha b hb e
          rw [List.mem_singleton.mp ha] at e
          obtain ⟨q, hq, rfl⟩ := List.mem_map.mp hb
          obtain ⟨i, hi, rfl⟩ := List.mem_map.mp hq
          have e : H.size = H.size + 1 + i := e
          omega
      · intro a ha b hb e
        obtain ⟨q, hq, rfl⟩ := List.mem_map.mp ha
        have h1 := hlt q hq
        rcases List.mem_append.mp hb with h | h
        · rw [List.mem_singleton.mp h] at e
          have e : q.1 = H.size := e
          omega
        · obtain ⟨q2, hq2, rfl⟩ := List.mem_map.mp h
          obtain ⟨i, hi, rfl⟩ := List.mem_map.mp hq2
          have e : q.1 = H.size + 1 + i := e
          omega
    · rcases List.mem_append.mp hq with h | h
      · exact d2 q h
      · rcases List.mem_append.mp h with h | h
        · cases List.mem_singleton.mp h
          exact hA _ hS.1
        · obtain ⟨i, hi, rfl⟩ := List.mem_map.mp h
          have h9 := hS.1
          exact hA _ (show H0.size ≤ H.size + 1 + i by omega)
  have hS1 : va_S A H0 F.heap locs := by
    have h9 := hS.1
    exact ⟨by omega, fun q hq hn => (hold q (by omega)).trans (hS.2.1 q hq hn), hS.2.2⟩
  obtain ⟨t, a, b⟩ := kk H.size (fun i => H.size + 1 + i) F.heap hP1 hD1 hS1 F rfl (by
    rw [show cells + 13 = cells + 1 + 12 by omega, show slots + (12 + 12 * k) = slots + 12 + 12 * k by omega]
    exact X')
  exact ⟨t, step t (by rw [hT]; exact a), b⟩
end CY
