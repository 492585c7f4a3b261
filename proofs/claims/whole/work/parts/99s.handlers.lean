/-! Methods that catch: contracts, calls of them, and a call that throws under a handler. -/
theorem MetH.ofW {l : Launch} {y : MethodName} {ws ws' : List Cond} {rm : Room} {Pc : Array Value → State → Prop} {Qc : Array Value → State → Outcome → State → Prop} {mc ms : Nat} {free : Addr → Prop} {cc : ByteArray} {maxL : Nat} {ret : Option FieldType} {hs : List (Nat × Nat × Nat × Nat)}
    (hy : plainName y.cls = true) (hw : ws = Cond.codeWith y cc maxL ret hs :: ws')
    (body : ∀ p e s m args below meth c s₁, BodyLoose p l y (headSpec ws rm) cc maxL ret e s m args below meth c s₁ → c.maxLocals = maxL → c.exceptionTable.toList = tableOf hs → Pc args s →
      W p l e (headSpec ws rm).room s m args below meth c s.heap [] 0 0 (MQ below Qc args s mc ms free) (entryFrame m args maxL)) : Met l y ws rm Pc Qc mc ms free := by
  refine MetFree.of_bodyS (code := cc) (maxLocals := maxL) (ret := ret) hy ?_ ?_
  · intro args s m h hn
    obtain ⟨m', meth, c, hn', h1, h2, h3, h4, h5, h6, h7, -⟩ := Cond.codeWith_spec (atoms_spec (ws := ws) h _ (by rw [hw]; exact List.mem_cons_self))
    cases hn.symm.trans hn'
    exact ⟨meth, c, h1, h2, h3, h4, h6, h7⟩
  · intro p e s m args below meth c s₁ B hml hP _
    have hh0 : s₁.heap = s.heap := by rw [B.state]; rfl
    have X := Stand.of_body B
    obtain ⟨m', meth', c', hn', h1, h2, -, -, h5, -⟩ := Cond.codeWith_spec (atoms_spec (ws := ws) B.pre _ (by rw [hw]; exact List.mem_cons_self))
    cases B.named.symm.trans hn'
    cases B.method.symm.trans h1
    cases X.code.symm.trans h2
    obtain ⟨t, a1, o, b1, b2, b3⟩ := body p e s m args below meth c s₁ B hml (by rw [← h5, table_eq]) hP s₁ hh0 X
    exact ⟨t, o, a1, b1, b2, ⟨b3.1, b3.2⟩⟩
/-- y, which catches what it may meet, answers an int r and leaves the cells u -/
def ct_H (l : Launch) (s0 : State) (D : va_G) (cl : List vw_C) (tys : List (ClassId × FieldType)) (y : MethodName) (ws : List Cond) (rm : Room) (av : List Value) (wc : va_W) (post : Int32 → va_W → Prop) (mc ms : Nat) : Prop :=
  ∀ sz : Nat, Met l y ws rm (tz_Pc s0 D cl tys av wc sz) (va_Qi post (ct_B D cl tys (va_A wc sz)) (va_A wc sz)) mc ms (va_A wc sz)
section HE
variable {l : Launch} {s0 : State} {D : va_G} {cl : List vw_C} {tys : List (ClassId × FieldType)} {y : MethodName} {ws' : List Cond} {rm : Room} {av : List Value} {wc : va_W} {mc ms : Nat} {cc : ByteArray} {maxL : Nat} {ret : Option FieldType} {hs : List (Nat × Nat × Nat × Nat)}
theorem ct_enterH {post : Int32 → va_W → Prop} (hy : plainName y.cls = true) (hle : (lg_sl av).length ≤ maxL)
    (body : ∀ {p : Program} {e : Env} {s : State} {m : MethodId} {args : Array Value} {below : List Frame} {meth : Method} {c : Code}, p.tables.exec = Jvm.exec → c.code = cc → c.maxLocals = maxL → meth.sig.returnType = ret → (∀ w ∈ ws', w.before args s = true) → s.vm.findClass y.cls = some m.cls → meth.locks = false → meth.name = y.name →
      ∀ (A : Nat → Prop) (Q : State → Prop), (∀ q, s.heap.size ≤ q → A q) → va_K D cl tys s → va_P D cl wc s.heap → va_D A wc → MQ below (va_Qi post (ct_B D cl tys A) A) args s mc ms A = Q → ∀ ls : Array Slot, lv_has ls maxL (lv_args 0 av) → (fz s0 s ∧ ∀ q, A q → s0.heap.size ≤ q) → c.exceptionTable.toList = tableOf hs → W p l e rm s m args below meth c s.heap [] 0 0 Q (F0 m 0 ls [])) :
    ct_H l s0 D cl tys y (Cond.codeWith y cc maxL ret hs :: ws') rm av wc post mc ms := by
  intro sz
  refine MetH.ofW (cc := cc) (maxL := maxL) (ret := ret) (hs := hs) hy rfl ?_
  intro p e s m args below meth c s₁ B hml htab hv
  obtain ⟨rfl, ⟨hsz, hP, hK, hD0⟩, hZ, hw⟩ := hv
  subst hsz
  rw [lg_entry_eq]
  have hat := fun w h => atoms_spec (ws := Cond.codeWith y cc maxL ret hs :: ws') B.pre w h
  exact body B.exec B.bytes hml B.returns (fun w h => hat w (List.mem_cons_of_mem _ h)) (findClass_of_methodNamed B.named) B.notSynchronized (name_of_methodNamed B.named B.method).1 (va_A wc s.heap.size) _ (fun q h => Or.inr h) hK hP (hD0.self (sz := s.heap.size)) rfl _ (lv_entry av (n := maxL) hle)
    ⟨hZ, fun q hq => hq.elim (fun ⟨k, e, hk⟩ => hw (q, e) (List.mem_of_getElem? hk)) (fun h => Nat.le_trans hZ.2.1 h)⟩ htab
end HE
section HV
variable {p : Program} {l : Launch} {e : Env} {R : Room} {s : State} {m : MethodId} {args : Array Value} {below : List Frame} {meth : Method} {c : Code} {T : State} {locs : List Loc} {cells slots : Nat}
theorem callVX (X : Stand p l e R s m args below meth c T locs cells slots) (hexec : p.tables.exec = Jvm.exec) {own C : String} {index : Nat} {y : MethodName} {bytes : ByteArray} {maxL : Nat} {ret : Option FieldType}
    (hown : s.vm.findClass own = some m.cls) (hlink : (Cond.methodLink own index y).before args s = true) (hinst : (Cond.instanceMethod y).before args s = true) (hsel : (Cond.selects C y y).before args s = true)
    (hcode : (Cond.code y bytes maxL ret).before args s = true) (hy : y.cls ≠ "java/lang/invoke/MethodHandle" ∧ y.cls ≠ "java/lang/invoke/VarHandle")
    {W : Nat} {Pre : Pt → Array Value → Prop} {Post : Pt → Array Value → Nat → Pt → Prop} (hK : BackX l R p e below s args y 3 W Pre Post)
    {b : Addr} {cellB : Cell} (hcell : T.heap[b]? = some cellB) (hobj : cellB.vm.isStatics = false) (hcls : s.vm.findClass C = some cellB.cls)
    {g : JFrame} (hg : g.method = m) (hsize : g.locals.size = c.maxLocals) {argsL rest : List Value} (hlen : ∀ sig, parseMethodDescriptor y.desc = some sig → argsL.length = sig.parameters.length)
    (hstack : g.stack = argsL.reverse ++ .ref b :: rest) (hW : 2 * g.monitorRoom + (rest.map fun v => v.category).sum ≤ W) (hdg : decode c.code g.pc = .ok (.invokevirtual index, 3))
    (hpre : ∀ vm₁, s.WarmedH vm₁ → Pre ⟨T.setVm vm₁, locs, cells, slots⟩ (Value.ref b :: argsL).toArray) :
    ∃ (x : Nat) (vm₁ : Vm) (B : Pt), s.WarmedH vm₁ ∧ Stand p l e R s m args below meth c B.U B.locs B.cells B.slots ∧ Post ⟨T.setVm vm₁, locs, cells, slots⟩ (Value.ref b :: argsL).toArray x B ∧
      Steps p.tables e below (T.setTop g) ((B.U.setTop { g with stack := rest }).pushFrame (.throwing x)) := by
  obtain ⟨mk, methM, hnamed, hmethM, hstM, habM⟩ := Cond.instanceMethod_spec hinst
  obtain ⟨methM', cM, hmethM', -, -, -, -, -, -, hsigM⟩ := Cond.code_spec hnamed hcode
  cases hmethM.symm.trans hmethM'
  obtain ⟨c2, r2, m2, q1, q2, q3, q4, kP, hkP, hkPi⟩ := Cond.selects_spec hsel
  cases hcls.symm.trans q1
  cases (State.methodFound?_of_named hnamed hy).symm.trans q2
  cases hnamed.symm.trans q3
  have hselP : selectMethod e.platform s.vm cellB.cls mk = .method mk := by rw [Launch.admits_selectMethod X.admits]; exact q4
  obtain ⟨vm₁, X₁, hstep₁⟩ := X.invokevirtual hexec hown hlink hnamed hmethM hstM hkP hkPi hy (a := b) (cell := cellB) hcell
    (fun z h => by rw [h] at hobj; cases hobj) hselP hmethM habM hkP hkPi (g := g) hg (argsL := argsL) (rest := rest) (hlen _ hsigM) hstack hdg
  obtain ⟨x, B, X', hpost, hsteps⟩ := hK m meth c ⟨T.setVm vm₁, locs, cells, slots⟩ { g with stack := rest } (.invokevirtual index) mk (Value.ref b :: argsL).toArray X₁ hg hsize hdg hW (X₁.named hnamed) (hpre vm₁ X₁.warmed)
  exact ⟨x, vm₁, B, X₁.warmed, X', hpost, hstep₁ _ fun acts => by rw [doInvoke_state]; exact hsteps⟩
end HV
section HC
variable {p : Program} {l : Launch} {e : Env} {R : Room} {s s0 : State} {m : MethodId} {args : Array Value} {below : List Frame} {meth : Method} {c : Code} {H : Heap} {locs : List Loc} {cells slots : Nat} {Q : State → Prop}
variable {cc bytes : ByteArray} {pc nL maxL n index ci b mc ms : Nat} {ls : Array Slot} {rest st0 As fs : List Value} {D : va_G} {cl : List vw_C} {q9 : vw_C} {A : Nat → Prop} {tys : List (ClassId × FieldType)} {ws wc wr : va_W} {own Cr : String} {y : MethodName} {Ts wy : List Cond} {rm : Room} {ret : Option FieldType}
theorem tz_pre2 (hz : fz s0 s ∧ ∀ q, A q → s0.heap.size ≤ q) (hp : ws.Perm (wc ++ wr)) (hK : va_K D cl tys s) (hP : va_P D cl ws H) (hD : va_D A ws) (hS : va_S A s.heap H locs) {av : List Value} : ∀ U : State, U.heap = H → s.WarmedH U.vm → tz_Pc s0 D cl tys av wc H.size av.toArray U := by
  intro U hU hW
  obtain ⟨⟨z1, z2, z3⟩, hA⟩ := hz
  refine ⟨rfl, ⟨by rw [hU], by rw [hU]; exact wd_Pl (wd_Pp hp hP), va_K.moved hW.alike hK, (wd_Dl (wd_Dp hp hD)).weaken (fun _ _ _ _ => trivial)⟩, ⟨State.WarmedH.trans z1 hW, by rw [hU]; exact Nat.le_trans z2 hS.1, fun q hq => ?_⟩, fun q hq => ?_⟩
  · rw [hU, hS.2.1 q (Nat.lt_of_lt_of_le hq z2) (fun a => absurd (hA q a) (by omega))]
    exact z3 q hq
  · exact hA _ ((wd_D.mp hD).2 q (hp.mem_iff.mpr (List.mem_append.mpr (Or.inl hq))))
/-- a virtual callee throws, and the caller catches it -/
theorem ct_catchV {C : String} {post : va_W → Prop} (hz : fz s0 s ∧ ∀ q, A q → s0.heap.size ≤ q) (S : CallFix p m c cc nL s args Ts own) (hM : ct_X l s0 D cl tys y wy rm (.ref b :: As) wc C post mc ms) (cw : CallW R s args own Cr index y bytes maxL ret wy rm mc ms n) (he : (b, Sum.inr (ci, fs)) ∈ ws) (hc : cl[ci]? = some q9) (hq : q9.1 = Cr) (hp : ws.Perm (wc ++ wr)) (hK : va_K D cl tys s) (hP : va_P D cl ws H) (hD : va_D A ws) (hS : va_S A s.heap H locs) (hA : ∀ q, s.heap.size ≤ q → A q) (hn : As.length = n) (hl : ls.size = nL) (hst : st0 = As.reverse ++ .ref b :: rest) (hW : (rest.map fun v => v.category).sum ≤ 8) (hf : cells + mc ≤ R.cells ∧ slots + ms ≤ R.slots) (hd : decode cc pc = .ok (.invokevirtual index, 3))
    (pre : List ExceptionTableEntry) (x : ExceptionTableEntry) (rest9 : List ExceptionTableEntry) (hsplit : c.exceptionTable.toList = pre ++ x :: rest9) (hcov : covers x pc = true) (h0 : x.catchType ≠ 0) (hlink : (Cond.classLink own x.catchType C).before args s = true)
    (hpass : ∀ thrown : ClassId, e.platform.magicAccessors = ({} : Platform).magicAccessors → s.vm.findClass own = some m.cls → s.vm.findClass C = some thrown → ∀ z ∈ pre, RowPassed e.platform s m.cls pc thrown z)
    (kk : ∀ (a : Nat) (u : va_W) (H1 : Heap) (locs1 : List Loc), post u → va_P D cl (u ++ wr) H1 → va_D A (u ++ wr) → va_S A s.heap H1 locs1 → W p l e R s m args below meth c H1 locs1 (cells + mc) (slots + ms) Q (F0 m x.handlerPc ls [.ref a])) : W p l e R s m args below meth c H locs cells slots Q (F0 m pc ls st0) := by
  have hF := wd_free hp hD hS hA
  obtain ⟨cellB, hcB, hoB, hclB⟩ := ct_recv hK hP hc he
  subst hq
  intro T hT X
  obtain ⟨⟨hrc, hrs, hfr, hlo, hws, hcw, hcode, hini, hy, hlen, hli⟩, hin, hse⟩ := cw
  obtain ⟨hx, hb, hml, ho, -⟩ := S
  have hB : BackX l R p e below s args y 3 8 (PreOf R mc ms (tz_Pc s0 D cl tys (.ref b :: As) wc H.size)) (PostX (xQ C post (ct_B D cl tys (va_A wc H.size)) (va_A wc H.size)) mc ms (va_A wc H.size)) := backX_of (bytes := bytes) (maxL := maxL) (ret := ret) (hM H.size) tz_blind hrc hrs hfr hlo hws hcw (fun a' U hW => word_at hW (Or.inl (by first | rfl | simp [Cond.onTables, Cond.keeps, Cond.steady])) hini)
  obtain ⟨a, vm₁, ⟨U', l2, c2, s2⟩, hW₁, X', ⟨g', mk, t, L, e1, e2, hq, h1, hL, h2, h3⟩, st⟩ := callVX X hx (C := q9.1) (bytes := bytes) (maxL := maxL) (ret := ret) ho hli hin hse hcode hy hB (by rw [hT]; exact hcB) hoB hclB (g := F0 m pc ls st0) rfl (hl.trans hml.symm) (argsL := As) (rest := rest) (fun sig h => hn.trans (hlen sig h)) hst (lv_room hW) (by rw [hb]; exact hd)
    (fun vm₁ hW₁ => ⟨hf.1, hf.2, tz_pre2 hz hp hK hP hD hS (T.setVm vm₁) hT hW₁⟩)
  dsimp only [Pt.U, Pt.locs, Pt.cells, Pt.slots] at X' e1 e2 h1 h2 h3 st
  subst h1; subst h2; subst h3
  obtain ⟨⟨u, ce, hpo, ⟨hP1, hK1, hD1⟩, hce, hcl, hvm⟩, hz1, hk1⟩ := hq
  have hT1 : ((T.setVm vm₁).calling g' mk (Value.ref b :: As).toArray).heap = H := hT
  rw [hT1] at hz1 hk1
  rw [← e1] at hP1 hz1 hk1 hce
  rw [← e2] at hcl
  obtain ⟨hP2, hD2⟩ := wd_join hp hP hD hk1 hF hP1 hD1
  have hS2 : va_S A s.heap U'.heap (locs ++ L) := ⟨Nat.le_trans hS.1 hz1, fun q h1 h2 => by rw [hk1 q (Nat.lt_of_lt_of_le h1 hS.1) (fun z => h2 (hF q z))]; exact hS.2.1 q h1 h2, fun q hq => by
      rcases List.mem_append.mp hq with h | h
      · exact hS.2.2 q h
      · exact hF _ (hL q h)⟩
  have hcl0 : s.vm.findClass C = some ce.cls := by
    rw [← X'.warmed.alike.findClass]
    exact hcl
  have hpl : e.platform.magicAccessors = ({} : Platform).magicAccessors := by rw [X'.admits.platform]
  obtain ⟨hend, hk0⟩ := X'.catches_of_link ho h0 hlink hcl0 (Vm.assignable_self s.vm ce.cls)
  obtain ⟨vm', XV, st2⟩ := X'.thenCaughtThrough a (g := { F0 m pc ls st0 with stack := rest }) rfl st hce (by rw [hvm]; rfl) hk0 pre x rest9 hsplit (hpass _ hpl ho hcl0) hcov hend
  obtain ⟨t2, a1, b1⟩ := kk a u U'.heap (locs ++ L) hpo hP2 hD2 hS2 (U'.setVm vm') rfl XV
  exact ⟨t2, st2.trans a1, b1⟩
/-- a call of a method that catches -/
theorem ct_callSH {post : Int32 → va_W → Prop} {hs : List (Nat × Nat × Nat × Nat)} (hz : fz s0 s ∧ ∀ q, A q → s0.heap.size ≤ q) (S : CallFix p m c cc nL s args Ts own) (hM : ct_H l s0 D cl tys y wy rm As wc post mc ms)
    (hrc : rm.cells = mc) (hrs : rm.slots = ms) (hfr : rm.frames + 1 ≤ R.frames) (hlo : 8 + (maxL + 11) + rm.locals ≤ R.locals) (hws : ∀ w ∈ wy, ∀ a' U, s.WarmedH U.vm → w.before a' U = true) (hcw : Cond.codeWith y bytes maxL ret hs ∈ wy) (hcode : (Cond.codeWith y bytes maxL ret hs).before args s = true) (hini : (Cond.initialized y.cls).before args s = true) (hy : y.cls ≠ "java/lang/invoke/MethodHandle" ∧ y.cls ≠ "java/lang/invoke/VarHandle") (hlen : ∀ sig, parseMethodDescriptor y.desc = some sig → n = sig.parameters.length) (hli : (Cond.methodLink own index y).before args s = true) (hstt : (Cond.static y).before args s = true)
    (hp : ws.Perm (wc ++ wr)) (hK : va_K D cl tys s) (hP : va_P D cl ws H) (hD : va_D A ws) (hS : va_S A s.heap H locs) (hA : ∀ q, s.heap.size ≤ q → A q) (hn : As.length = n) (hl : ls.size = nL) (hst : st0 = As.reverse ++ rest) (hW : (rest.map fun v => v.category).sum ≤ 8) (hf : cells + mc ≤ R.cells ∧ slots + ms ≤ R.slots) (hd : decode cc pc = .ok (.invokestatic index, 3))
    (kk : ∀ (r : Int32) (u : va_W) (H1 : Heap) (locs1 : List Loc), post r u → va_P D cl (u ++ wr) H1 → va_D A (u ++ wr) → va_S A s.heap H1 locs1 → W p l e R s m args below meth c H1 locs1 (cells + mc) (slots + ms) Q (F0 m (pc + 3) ls (.int r :: rest))) : W p l e R s m args below meth c H locs cells slots Q (F0 m pc ls st0) := by
  refine ct_goI (wc := wc) (a := As.toArray) (rest := rest) ?_ hp hK hP hD hS hA kk
  obtain ⟨hx, hb, hml, ho, -⟩ := S
  have hB : Back l R p e below s args y 3 8 (PreOf R mc ms (tz_Pc s0 D cl tys As wc H.size)) (PostOf (va_Qi post (ct_B D cl tys (va_A wc H.size)) (va_A wc H.size)) mc ms (va_A wc H.size)) := by
    refine Back.of_freeWith (handlers := hs) (S := headSpec wy rm) (P := tz_Pc s0 D cl tys As wc H.size) (K := fun _ _ _ _ _ => True) (Q := fun a st o t => va_Qi post (ct_B D cl tys (va_A wc H.size)) (va_A wc H.size) a st o t ∧ ∃ L, FrameEnd st o t L mc ms ∧ ∀ q ∈ L, va_A wc H.size q.base) (bytes := bytes) (maxL := maxL) (ret := ret)
      (E := fun a st o t L k n => k = mc ∧ n = ms ∧ ∀ q ∈ L, va_A wc H.size q.base) (hM H.size) hfr hlo ?_ ?_ (fun _ _ _ _ _ _ _ _ _ => trivial) ?_ ?_
    · intro m meth c A a X hp
      exact ⟨atoms_intro fun w hw => hws w hw _ _ X.warmed, hws _ hcw _ _ X.warmed, word_at X.warmed (Or.inl (by first | rfl | simp [Cond.onTables, Cond.keeps, Cond.steady])) hini, by rw [show (headSpec wy rm).room.cells = mc from hrc]; exact hp.1, by rw [show (headSpec wy rm).room.slots = ms from hrs]; exact hp.2.1⟩
    · intro m meth c A a g mk X hp
      exact tz_blind _ _ _ _ hp.2.2
    · intro a st o t ⟨hq, L, hF, hL⟩
      exact ⟨L, mc, ms, hF, rfl, rfl, hL⟩
    · intro m meth c A a g mk v t L k n X hp hq hF ⟨e1, e2, hL⟩
      subst e1; subst e2
      exact ⟨g, mk, t, L, rfl, rfl, hq.1, rfl, hL, rfl, rfl⟩
  intro T hT X
  obtain ⟨mk, methM, cM, hnamed, hmethM, -, -, -, -, -, -, hsigM⟩ := Cond.codeWith_spec hcode
  obtain ⟨v, vm₁, ⟨U', l2, c2, s2⟩, hW₁, X', ⟨g', mk', t, L, e1, e2, hq, h1, hL, h2, h3⟩, st⟩ := X.staticBack hx ho hli hstt hini hnamed hmethM hsigM hy hB (g := F0 m pc ls st0) rfl (hl.trans hml.symm) (Steps.refl _) (argsL := As) (rest := rest) (fun sig h => hn.trans (hlen sig h)) hst (lv_room hW) (by rw [hb]; exact hd)
    (fun vm₁ hW₁ => ⟨hf.1, hf.2, tz_pre2 hz hp hK hP hD hS (T.setVm vm₁) hT hW₁⟩)
  dsimp only [Pt.U, Pt.locs, Pt.cells, Pt.slots] at X' e1 e2 h1 h2 h3 st
  subst h1; subst h2; subst h3
  exact ⟨v, (T.setVm vm₁).calling g' mk' As.toArray, t, U', L, hT, X', hL, e1, e2, hq, fun target h => st.trans h⟩
end HC
