/-! Methods that throw: contracts, calls of them. -/
def MetX (l : Launch) (y : MethodName) (ws : List Cond) (rm : Room) (Pc : Array Value → State → Prop) (Qx : Array Value → State → Nat → State → Prop) (mc ms : Nat) (free : Addr → Prop) : Prop :=
  MetFree l y (headSpec ws rm) Pc (fun _ _ _ _ _ => True) (fun a st o t => ∃ x : Nat, o = .threw x ∧ Qx a st x t ∧ st.WarmedH t.vm ∧ ∃ L, st.sameButNew ({ t with vm := st.vm } : State) L mc ms ∧ ∀ q ∈ L, free q.base)
def MX (below : List Frame) (Qx : Array Value → State → Nat → State → Prop) (a : Array Value) (s : State) (mc ms : Nat) (free : Addr → Prop) : State → Prop := fun t =>
  ∃ x : Nat, t.status = .running ∧ Ended t below (.threw x) ∧ Qx a s x t ∧ s.WarmedH t.vm ∧ ∃ L, s.sameButNew ({ t with vm := s.vm } : State) L mc ms ∧ ∀ q ∈ L, free q.base
theorem MetX.ofW {l : Launch} {y : MethodName} {ws ws' : List Cond} {rm : Room} {Pc : Array Value → State → Prop} {Qx : Array Value → State → Nat → State → Prop} {mc ms : Nat} {free : Addr → Prop} {cc : ByteArray} {maxL : Nat} {ret : Option FieldType}
    (hy : plainName y.cls = true) (hw : ws = Cond.code y cc maxL ret :: ws')
    (body : ∀ p e s m args below meth c s₁, BodyLoose p l y (headSpec ws rm) cc maxL ret e s m args below meth c s₁ → c.maxLocals = maxL → Pc args s →
      W p l e (headSpec ws rm).room s m args below meth c s.heap [] 0 0 (MX below Qx args s mc ms free) (entryFrame m args maxL)) : MetX l y ws rm Pc Qx mc ms free := by
  refine MetFree.of_bodyS (code := cc) (maxLocals := maxL) (ret := ret) hy ?_ ?_
  · intro args s m h hn
    obtain ⟨meth, c, h1, h2, h3, h4, h5, h6, -, -⟩ := Cond.code_spec hn (atoms_spec (ws := ws) h _ (by rw [hw]; exact List.mem_cons_self))
    exact ⟨meth, c, h1, h2, h3, h4, h5, h6⟩
  · intro p e s m args below meth c s₁ B hml hP _
    have hh0 : s₁.heap = s.heap := by rw [B.state]; rfl
    obtain ⟨t, a1, x, b1, b2, b3⟩ := body p e s m args below meth c s₁ B hml hP s₁ hh0 (Stand.of_body B)
    exact ⟨t, .threw x, a1, b1, b2, x, rfl, b3⟩
def BackX (l : Launch) (R : Room) (p : Program) (e : Env) (below : List Frame) (s : State) (sargs : Array Value) (y : MethodName) (len W : Nat) (Pre : Pt → Array Value → Prop) (Post : Pt → Array Value → Nat → Pt → Prop) : Prop :=
  ∀ (m : MethodId) (meth : Method) (c : Code) (A : Pt) (g : JFrame) (ig : Instr) (mk : MethodId) (a : Array Value),
    Stand p l e R s m sargs below meth c A.U A.locs A.cells A.slots → g.method = m → g.locals.size = c.maxLocals → decode c.code g.pc = .ok (ig, len) →
    2 * g.monitorRoom + (g.stack.map fun v => v.category).sum ≤ W → A.U.methodNamed? y = some mk → Pre A a →
    ∃ (x : Nat) (B : Pt), Stand p l e R s m sargs below meth c B.U B.locs B.cells B.slots ∧ Post A a x B ∧
      Steps p.tables e below (doInvoke e (A.U.setTop g) [] mk a).1 ((B.U.setTop g).pushFrame (.throwing x))
def PostX (Qx : Array Value → State → Nat → State → Prop) (mc ms : Nat) (free : Addr → Prop) : Pt → Array Value → Nat → Pt → Prop := fun A a x B =>
  ∃ (g : JFrame) (mk : MethodId) (t : State) (L : List Loc), B.U.heap = t.heap ∧ B.U.vm = t.vm ∧ Qx a (A.U.calling g mk a) x t ∧ B.locs = A.locs ++ L ∧ (∀ q ∈ L, free q.base) ∧ B.cells = A.cells + mc ∧ B.slots = A.slots + ms
section XB
variable {l : Launch} {R : Room} {p : Program} {e : Env} {below : List Frame} {s : State} {sargs : Array Value} {y : MethodName} {len W : Nat}
theorem backX_of {ws : List Cond} {rm : Room} {Pc : Array Value → State → Prop} {Qx : Array Value → State → Nat → State → Prop} {mc ms : Nat} {free : Addr → Prop} {bytes : ByteArray} {maxL : Nat} {ret : Option FieldType}
    (hM : MetX l y ws rm Pc Qx mc ms free) (hblind : FrameBlind Pc) (hrc : rm.cells = mc) (hrs : rm.slots = ms)
    (hframes : rm.frames + 1 ≤ R.frames) (hlocals : W + (maxL + 11) + rm.locals ≤ R.locals)
    (hws : ∀ w ∈ ws, ∀ a' U, s.WarmedH U.vm → w.before a' U = true) (hcode : Cond.code y bytes maxL ret ∈ ws) (hinit : ∀ a' U, s.WarmedH U.vm → (Cond.initialized y.cls).before a' U = true) :
    BackX l R p e below s sargs y len W (PreOf R mc ms Pc) (PostX Qx mc ms free) := by
  intro m meth c A g ig mk a X hg hsize hdg hW hn hp
  obtain ⟨U, Ls, c0, s0⟩ := A
  obtain ⟨hp1, hp2, hp3⟩ := hp
  dsimp only [Pt.U, Pt.locs, Pt.cells, Pt.slots] at X hn hp1 hp2 hp3 ⊢
  have h1 : (headSpec ws rm).pre.before a U = true := atoms_intro fun w hw => hws w hw _ _ X.warmed
  have h2 : (Cond.code y bytes maxL ret).before a U = true := hws _ hcode _ _ X.warmed
  have h3 : (Cond.initialized y.cls).before a U = true := hinit _ _ X.warmed
  have h4 : c0 + (headSpec ws rm).room.cells ≤ R.cells := by rw [show (headSpec ws rm).room.cells = mc from hrc]; exact hp1
  have h5 : s0 + (headSpec ws rm).room.slots ≤ R.slots := by rw [show (headSpec ws rm).room.slots = ms from hrs]; exact hp2
  have h6 : (headSpec ws rm).room.locals = rm.locals := rfl
  obtain ⟨methY, cY, hmY, hcY, -, hlY, -, -, -, -⟩ := Cond.code_spec hn h2
  obtain ⟨kY, hkY, -⟩ := className_of_methodNamed hn
  have hinitY : kY.init = .initialized := Cond.initialized_spec (findClass_of_methodNamed hn) hkY h3
  have h : At U g.method c below := by rw [hg]; exact X.here
  have happ : (headSpec ws rm).appliesLoose y e.platform (U.calling g mk a) = true :=
    Spec.appliesLoose_calling (g := g) h hdg hn hkY hinitY
      (X.room_calling (g := g) (R' := (headSpec ws rm).room) hsize hmY hcY hframes (by rw [hlY]; omega) h4 h5) h1
  obtain ⟨mid, hmid⟩ := h.above
  have hfr : (U.setTop g).frames = (.java g :: mid) ++ below := by rw [State.frames_setTop' g h.top, hmid]; rfl
  obtain ⟨o, s₂, hsteps, -, hend, hq⟩ := Steps.callFree hM p X.admits X.cas X.clock (acts := []) hfr happ (hblind _ _ _ _ hp3) trivial
  obtain ⟨x, rfl, hqx, hW₂, L, hsame, hL⟩ := hq
  rw [State.frames_setTop' g h.top, X.tail] at hend
  obtain ⟨T', X', -, -, ht⟩ := X.outOfThrown hg (mk := mk) (a := a) hend hW₂ hsame
  refine ⟨x, ⟨T', Ls ++ L, c0 + mc, s0 + ms⟩, X', ⟨g, mk, s₂, L, ?_, ?_, hqx, rfl, hL, rfl, rfl⟩, ?_⟩
  · rw [ht]
    rfl
  · rw [ht]
    rfl
  · show Steps p.tables e below _ ((T'.setTop g).pushFrame (.throwing x))
    rw [← ht]
    exact hsteps
end XB
section XC
variable {p : Program} {l : Launch} {e : Env} {R : Room} {s : State} {m : MethodId} {args : Array Value} {below : List Frame} {meth : Method} {c : Code} {T : State} {locs : List Loc} {cells slots : Nat}
theorem callSX (X : Stand p l e R s m args below meth c T locs cells slots) (hexec : p.tables.exec = Jvm.exec) {own : String} {index : Nat} {y : MethodName} {bytes : ByteArray} {maxL : Nat} {ret : Option FieldType}
    (hown : s.vm.findClass own = some m.cls) (hlink : (Cond.methodLink own index y).before args s = true) (hstat : (Cond.static y).before args s = true) (hinit : (Cond.initialized y.cls).before args s = true)
    (hcode : (Cond.code y bytes maxL ret).before args s = true) (hy : y.cls ≠ "java/lang/invoke/MethodHandle" ∧ y.cls ≠ "java/lang/invoke/VarHandle")
    {W : Nat} {Pre : Pt → Array Value → Prop} {Post : Pt → Array Value → Nat → Pt → Prop} (hK : BackX l R p e below s args y 3 W Pre Post)
    {g : JFrame} (hg : g.method = m) (hsize : g.locals.size = c.maxLocals) {argsL rest : List Value} (hlen : ∀ sig, parseMethodDescriptor y.desc = some sig → argsL.length = sig.parameters.length)
    (hstack : g.stack = argsL.reverse ++ rest) (hW : 2 * g.monitorRoom + (rest.map fun v => v.category).sum ≤ W) (hdg : decode c.code g.pc = .ok (.invokestatic index, 3))
    (hpre : ∀ vm₁, s.WarmedH vm₁ → Pre ⟨T.setVm vm₁, locs, cells, slots⟩ argsL.toArray) :
    ∃ (x : Nat) (vm₁ : Vm) (B : Pt), s.WarmedH vm₁ ∧ Stand p l e R s m args below meth c B.U B.locs B.cells B.slots ∧ Post ⟨T.setVm vm₁, locs, cells, slots⟩ argsL.toArray x B ∧
      Steps p.tables e below (T.setTop g) ((B.U.setTop { g with stack := rest }).pushFrame (.throwing x)) := by
  obtain ⟨mk, hnamed⟩ := Cond.code_named hcode
  obtain ⟨methM, cM, hmethM, -, -, -, -, -, -, hsigM⟩ := Cond.code_spec hnamed hcode
  have hstatic : methM.isStatic = true := Cond.static_spec hnamed hmethM hstat
  obtain ⟨kP, hkP, -⟩ := className_of_methodNamed hnamed
  have hinitP : kP.init = .initialized := Cond.initialized_spec (findClass_of_methodNamed hnamed) hkP hinit
  obtain ⟨vm₁, X₁, hstep₁⟩ := X.invokestatic hexec hown hlink hnamed hmethM hstatic hkP hinitP hy (g := g) hg (argsL := argsL) (rest := rest) (hlen _ hsigM) hstack hdg
  obtain ⟨x, B, X', hpost, hsteps⟩ := hK m meth c ⟨T.setVm vm₁, locs, cells, slots⟩ { g with stack := rest } (.invokestatic index) mk argsL.toArray X₁ hg hsize hdg hW (X₁.named hnamed) (hpre vm₁ X₁.warmed)
  exact ⟨x, vm₁, B, X₁.warmed, X', hpost, hstep₁ _ fun acts => by rw [doInvoke_state]; exact hsteps⟩
end XC
/-- all that was there at s0 is as it was, and nothing is colder -/
def fz (s0 U : State) : Prop := s0.WarmedH U.vm ∧ s0.heap.size ≤ U.heap.size ∧ ∀ q : Nat, q < s0.heap.size → U.heap[q]? = s0.heap[q]?
def tz_Pc (s0 : State) (D : va_G) (cl : List vw_C) (tys : List (ClassId × FieldType)) (av : List Value) (wc : va_W) (sz : Nat) : Array Value → State → Prop := va_Pc av (fun U => (U.heap.size = sz ∧ va_P D cl wc U.heap ∧ va_K D cl tys U ∧ va_D (fun _ => True) wc) ∧ fz s0 U ∧ ∀ q ∈ wc, s0.heap.size ≤ q.1)
/-- what stands behind a throw: an object of class C was thrown, the cells are u -/
def xQ (C : String) (post : va_W → Prop) (B : va_W → State → Prop) (A : Nat → Prop) : Array Value → State → Nat → State → Prop := fun _ st x t => (∃ (u : va_W) (ce : Cell), post u ∧ B u t ∧ t.heap[x]? = some ce ∧ t.vm.findClass C = some ce.cls ∧ ce.vm = .none) ∧ va_F A st t
/-- y throws a C -/
def ct_X (l : Launch) (s0 : State) (D : va_G) (cl : List vw_C) (tys : List (ClassId × FieldType)) (y : MethodName) (ws : List Cond) (rm : Room) (av : List Value) (wc : va_W) (C : String) (post : va_W → Prop) (mc ms : Nat) : Prop :=
  ∀ sz : Nat, MetX l y ws rm (tz_Pc s0 D cl tys av wc sz) (xQ C post (ct_B D cl tys (va_A wc sz)) (va_A wc sz)) mc ms (va_A wc sz)
theorem tz_blind {s0 : State} {D : va_G} {cl : List vw_C} {tys : List (ClassId × FieldType)} {av : List Value} {wc : va_W} {sz : Nat} : FrameBlind (tz_Pc s0 D cl tys av wc sz) := by
  intro a U g mk q
  obtain ⟨q0, ⟨q1, qP, qK, qD⟩, qZ, qw⟩ := q
  exact ⟨q0, ⟨q1, qP, va_K.moved (u := U) (U := U.calling g mk a) (Vm.Alike.refl U.vm) qK, qD⟩, qZ, qw⟩
section XE
variable {l : Launch} {s0 : State} {D : va_G} {cl : List vw_C} {tys : List (ClassId × FieldType)} {y : MethodName} {ws' : List Cond} {rm : Room} {av : List Value} {wc : va_W} {mc ms : Nat} {cc : ByteArray} {maxL : Nat} {ret : Option FieldType}
def tz_body (l : Launch) (s0 : State) (D : va_G) (cl : List vw_C) (tys : List (ClassId × FieldType)) (y : MethodName) (ws' : List Cond) (rm : Room) (av : List Value) (wc : va_W) (mc ms : Nat) (cc : ByteArray) (maxL : Nat) (ret : Option FieldType) (Qk : (Nat → Prop) → Array Value → State → Nat → State → Prop) : Prop :=
  ∀ {p : Program} {e : Env} {s : State} {m : MethodId} {args : Array Value} {below : List Frame} {meth : Method} {c : Code}, p.tables.exec = Jvm.exec → c.code = cc → c.maxLocals = maxL → meth.sig.returnType = ret → (∀ w ∈ ws', w.before args s = true) → s.vm.findClass y.cls = some m.cls → meth.locks = false → meth.name = y.name →
      ∀ (A : Nat → Prop) (Q : State → Prop), (∀ q, s.heap.size ≤ q → A q) → va_K D cl tys s → va_P D cl wc s.heap → va_D A wc → MX below (Qk A) args s mc ms A = Q → ∀ ls : Array Slot, lv_has ls maxL (lv_args 0 av) → fz s0 s ∧ (∀ q, A q → s0.heap.size ≤ q) ∧ c.exceptionTable.isEmpty = true → W p l e rm s m args below meth c s.heap [] 0 0 Q (F0 m 0 ls [])
theorem ct_enterX {C : String} {post : va_W → Prop} (hy : plainName y.cls = true) (hle : (lg_sl av).length ≤ maxL) (body : tz_body l s0 D cl tys y ws' rm av wc mc ms cc maxL ret (fun A => xQ C post (ct_B D cl tys A) A)) : ct_X l s0 D cl tys y (Cond.code y cc maxL ret :: ws') rm av wc C post mc ms := by
  intro sz
  refine MetX.ofW (cc := cc) (maxL := maxL) (ret := ret) hy rfl ?_
  intro p e s m args below meth c s₁ B hml hv
  obtain ⟨rfl, ⟨hsz, hP, hK, hD0⟩, hZ, hw⟩ := hv
  subst hsz
  rw [lg_entry_eq]
  have hat := fun w h => atoms_spec (ws := Cond.code y cc maxL ret :: ws') B.pre w h
  exact body B.exec B.bytes hml B.returns (fun w h => hat w (List.mem_cons_of_mem _ h)) (findClass_of_methodNamed B.named) B.notSynchronized (name_of_methodNamed B.named B.method).1 (va_A wc s.heap.size) _ (fun q h => Or.inr h) hK hP (hD0.self (sz := s.heap.size)) rfl _ (lv_entry av (n := maxL) hle)
    ⟨hZ, fun q hq => hq.elim (fun ⟨k, e, hk⟩ => hw (q, e) (List.mem_of_getElem? hk)) (fun h => Nat.le_trans hZ.2.1 h), B.noHandlers (hat _ List.mem_cons_self)⟩
end XE
section XD
variable {p : Program} {l : Launch} {e : Env} {R : Room} {s s0 : State} {m : MethodId} {args : Array Value} {below : List Frame} {meth : Method} {c : Code} {H : Heap} {locs : List Loc} {cells slots : Nat} {Q : State → Prop}
variable {cc bytes : ByteArray} {pc nL maxL n index ci b mc ms mx mz : Nat} {ls : Array Slot} {rest st0 As : List Value} {D : va_G} {cl : List vw_C} {A : Nat → Prop} {tys : List (ClassId × FieldType)} {ws wc wr : va_W} {own : String} {y : MethodName} {Ts wy : List Cond} {rm : Room} {ret : Option FieldType}
theorem tz_pre (hz : fz s0 s ∧ (∀ q, A q → s0.heap.size ≤ q) ∧ c.exceptionTable.isEmpty = true) (hp : ws.Perm (wc ++ wr)) (hK : va_K D cl tys s) (hP : va_P D cl ws H) (hD : va_D A ws) (hS : va_S A s.heap H locs) {av : List Value} : ∀ U : State, U.heap = H → s.WarmedH U.vm → tz_Pc s0 D cl tys av wc H.size av.toArray U := by
  intro U hU hW
  obtain ⟨⟨z1, z2, z3⟩, hA, -⟩ := hz
  refine ⟨rfl, ⟨by rw [hU], by rw [hU]; exact wd_Pl (wd_Pp hp hP), va_K.moved hW.alike hK, (wd_Dl (wd_Dp hp hD)).weaken (fun _ _ _ _ => trivial)⟩, ⟨State.WarmedH.trans z1 hW, by rw [hU]; exact Nat.le_trans z2 hS.1, fun q hq => ?_⟩, fun q hq => ?_⟩
  · rw [hU, hS.2.1 q (Nat.lt_of_lt_of_le hq z2) (fun a => absurd (hA q a) (by omega))]
    exact z3 q hq
  · exact hA _ ((wd_D.mp hD).2 q (hp.mem_iff.mpr (List.mem_append.mpr (Or.inl hq))))
/-- a static callee throws, and so does the caller -/
theorem ct_throwS {C : String} {post post2 : va_W → Prop} (hz : fz s0 s ∧ (∀ q, A q → s0.heap.size ≤ q) ∧ c.exceptionTable.isEmpty = true) (hQ : MX below (xQ C post2 (ct_B D cl tys A) A) args s mx mz A = Q) (hlk : meth.locks = false) (S : CallFix p m c cc nL s args Ts own) (hM : ct_X l s0 D cl tys y wy rm As wc C post mc ms) (cw : CallB R s args own index y bytes maxL ret wy rm mc ms n ∧ (Cond.static y).before args s = true) (hp : ws.Perm (wc ++ wr)) (hK : va_K D cl tys s) (hP : va_P D cl ws H) (hD : va_D A ws) (hS : va_S A s.heap H locs) (hA : ∀ q, s.heap.size ≤ q → A q) (hn : As.length = n) (hl : ls.size = nL) (hst : st0 = As.reverse ++ rest) (hW : (rest.map fun v => v.category).sum ≤ 8) (hf : cells + mc ≤ R.cells ∧ slots + ms ≤ R.slots) (hm : cells + mc ≤ mx ∧ slots + ms ≤ mz) (hd : decode cc pc = .ok (.invokestatic index, 3))
    (kk : ∀ u : va_W, post u → post2 (u ++ wr)) : W p l e R s m args below meth c H locs cells slots Q (F0 m pc ls st0) := by
  have hF := wd_free hp hD hS hA
  subst hQ
  intro T hT X
  obtain ⟨⟨hrc, hrs, hfr, hlo, hws, hcw, hcode, hini, hy, hlen, hli⟩, hstt⟩ := cw
  obtain ⟨hx, hb, hml, ho, -⟩ := S
  have hB : BackX l R p e below s args y 3 8 (PreOf R mc ms (tz_Pc s0 D cl tys As wc H.size)) (PostX (xQ C post (ct_B D cl tys (va_A wc H.size)) (va_A wc H.size)) mc ms (va_A wc H.size)) := backX_of (bytes := bytes) (maxL := maxL) (ret := ret) (hM H.size) tz_blind hrc hrs hfr hlo hws hcw (fun a' U hW => word_at hW (Or.inl (by first | rfl | simp [Cond.onTables, Cond.keeps, Cond.steady])) hini)
  obtain ⟨x, vm₁, ⟨U', l2, c2, s2⟩, hW₁, X', ⟨g', mk, t, L, e1, e2, hq, h1, hL, h2, h3⟩, st⟩ := callSX X hx (bytes := bytes) (maxL := maxL) (ret := ret) ho hli hstt hini hcode hy hB (g := F0 m pc ls st0) rfl (hl.trans hml.symm) (argsL := As) (rest := rest) (fun sig h => hn.trans (hlen sig h)) hst (lv_room hW) (by rw [hb]; exact hd)
    (fun vm₁ hW₁ => ⟨hf.1, hf.2, tz_pre hz hp hK hP hD hS (T.setVm vm₁) hT hW₁⟩)
  dsimp only [Pt.U, Pt.locs, Pt.cells, Pt.slots] at X' e1 e2 h1 h2 h3 st
  subst h1; subst h2; subst h3
  obtain ⟨⟨u, ce, hpo, ⟨hP1, hK1, hD1⟩, hce, hcl, hvm⟩, hz1, hk1⟩ := hq
  have hT1 : ((T.setVm vm₁).calling g' mk As.toArray).heap = H := hT
  rw [hT1] at hz1 hk1
  rw [← e1] at hP1 hz1 hk1 hce
  rw [← e2] at hcl
  obtain ⟨hP2, hD2⟩ := wd_join hp hP hD hk1 hF hP1 hD1
  have hS2 : va_S A s.heap U'.heap (locs ++ L) := ⟨Nat.le_trans hS.1 hz1, fun q h1 h2 => by rw [hk1 q (Nat.lt_of_lt_of_le h1 hS.1) (fun z => h2 (hF q z))]; exact hS.2.1 q h1 h2, fun q hq => by
      rcases List.mem_append.mp hq with h | h
      · exact hS.2.2 q h
      · exact hF _ (hL q h)⟩
  have X2 := stand_widen X' hm.1 hm.2
  obtain ⟨st2, r1, r2, r3, r4⟩ := X2.leaveThrown x (g := { F0 m pc ls st0 with stack := rest }) rfl rfl rfl (fun z hz9 => by
    have : c.exceptionTable.toList = [] := by
      have h9 := hz.2.2
      rw [Array.isEmpty_iff] at h9
      rw [h9]
    rw [this] at hz9
    cases hz9) hlk
  refine ⟨_, st.trans st2, x, r1, r2, ⟨⟨u ++ wr, ce, kk u hpo, ⟨hP2, va_K.moved r3.alike hK, hD2⟩, hce, hcl, hvm⟩, hS2.F rfl⟩, r3, _, r4, hS2.2.2⟩
end XD
