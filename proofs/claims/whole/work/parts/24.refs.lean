/-! Methods that answer a reference. -/
def ct_QA (post : Nat → va_W → Prop) (D : va_G) (cl : List vw_C) (tys : List (ClassId × FieldType)) (A : Nat → Prop) : Array Value → State → Outcome → State → Prop := va_Qr (fun z : Nat × va_W => post z.1 z.2) (fun z a t => a = z.1 ∧ ct_B D cl tys A z.2 t) A
def ct_A (l : Launch) (D : va_G) (cl : List vw_C) (tys : List (ClassId × FieldType)) (y : MethodName) (ws : List Cond) (rm : Room) (av : List Value) (wc : va_W) (post : Nat → va_W → Prop) (mc ms : Nat) : Prop :=
  ∀ sz : Nat, Met l y ws rm (ct_Pc D cl tys av wc sz) (ct_QA post D cl tys (va_A wc sz)) mc ms (va_A wc sz)
theorem ct_enterA {l : Launch} {D : va_G} {cl : List vw_C} {tys : List (ClassId × FieldType)} {y : MethodName} {ws' : List Cond} {rm : Room} {av : List Value} {wc : va_W} {mc ms : Nat} {cc : ByteArray} {maxL : Nat} {ret : Option FieldType} {post : Nat → va_W → Prop} (hy : plainName y.cls = true) (hle : (lg_sl av).length ≤ maxL) (body : ct_body l D cl tys y ws' rm av wc mc ms cc maxL ret (fun A => ct_QA post D cl tys A)) : ct_A l D cl tys y (Cond.code y cc maxL ret :: ws') rm av wc post mc ms := ct_enter (Qk := fun A => ct_QA post D cl tys A) hy hle body
section CA
variable {p : Program} {l : Launch} {e : Env} {R : Room} {s : State} {m : MethodId} {args : Array Value} {below : List Frame} {meth : Method} {c : Code} {H : Heap} {locs : List Loc} {cells slots : Nat} {Q : State → Prop}
variable {cc bytes : ByteArray} {pc nL maxL mc ms n index ci b : Nat} {ls : Array Slot} {rest st0 As : List Value} {D : va_G} {cl : List vw_C} {A : Nat → Prop} {tys : List (ClassId × FieldType)} {ws wc wr u : va_W} {H0 : Heap} {own C host : String} {y : MethodName} {Ts wy : List Cond} {rm : Room} {ret : Option FieldType} {fs : List Value} {q : vw_C}
theorem ct_aret {post : Nat → va_W → Prop} {v : Nat} {t : FieldType} (hQ : MQ below (ct_QA post D cl tys A) args s mc ms A = Q) (hx : p.tables.exec = Jvm.exec) (hb : c.code = cc) (hr : meth.sig.returnType = some (.array t)) (hk : meth.locks = false) (hP : va_P D cl u H) (hD : va_D A u) (hS : va_S A s.heap H locs) (hK : va_K D cl tys s) (h1 : cells ≤ mc) (h2 : slots ≤ ms) (hd : decode cc pc = .ok (.areturn, 1)) (hp : post v u) :
    W p l e R s m args below meth c H locs cells slots Q (F0 m pc ls [.ref v]) := by
  subst hQ
  exact W.widen h1 h2 (W.aret hx hb hr (Or.inr ⟨t, rfl⟩) (Or.inr ⟨v, rfl⟩) (fun t ht hW => ⟨⟨(v, u), v, rfl, hp, rfl, by rw [ht]; exact hP, va_K.moved hW.alike hK, hD⟩, hS.F ht⟩) hS.2.2 hd hk)
theorem ct_callVA {post : Nat → va_W → Prop} (S : CallFix p m c cc nL s args Ts own) (hM : ct_A l D cl tys y wy rm (.ref b :: As) wc post mc ms) (cw : CallW R s args own C index y bytes maxL ret wy rm mc ms n) (he : (b, Sum.inr (ci, fs)) ∈ ws) (hc : cl[ci]? = some q) (hq : q.1 = C) (hp : ws.Perm (wc ++ wr)) (hK : va_K D cl tys s) (hP : va_P D cl ws H) (hD : va_D A ws) (hS : va_S A H0 H locs) (hA : ∀ q, H0.size ≤ q → A q) (hn : As.length = n) (hl : ls.size = nL) (hst : st0 = As.reverse ++ .ref b :: rest) (hW : (rest.map fun v => v.category).sum ≤ 8) (hf : cells + mc ≤ R.cells ∧ slots + ms ≤ R.slots) (hd : decode cc pc = .ok (.invokevirtual index, 3))
    (kk : ∀ (r : Nat) (u : va_W) (H1 : Heap) (locs1 : List Loc), post r u → va_P D cl (u ++ wr) H1 → va_D A (u ++ wr) → va_S A H0 H1 locs1 → W p l e R s m args below meth c H1 locs1 (cells + mc) (slots + ms) Q (F0 m (pc + 3) ls (.ref r :: rest))) : W p l e R s m args below meth c H locs cells slots Q (F0 m pc ls st0) := by
  have hF := wd_free hp hD hS hA
  refine va_callr (post := fun z : Nat × va_W => post z.1 z.2) (B := fun z a t => a = z.1 ∧ ct_B D cl tys (va_A wc H.size) z.2 t) (va_runV (As := As) (rest := rest) S (hM H.size) cw ⟨ct_blind, hq ▸ ct_recv hK hP hc he, ct_pre hp hK hP hD⟩ rfl hn hl hst (lv_room hW) hd hf) hS (fun q _ h => hF q h) hF (fun z ra t H1 locs1 ht hvm hpo hB hz hk hS1 => ?_)
  obtain ⟨rfl, hP1, hK1, hD1⟩ := hB
  rw [ht] at hP1
  obtain ⟨hP2, hD2⟩ := wd_join hp hP hD hk hF hP1 hD1
  exact kk z.1 z.2 H1 locs1 hpo hP2 hD2 hS1
end CA
