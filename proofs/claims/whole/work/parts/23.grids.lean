/-! Grids: twelve rows of ints, a block of cells; reads and writes by row and column. -/
/-- twelve rows of k ints: row i at ra i, what stands in it M i -/
def gd (cI : ClassId) (k : Nat) (ra : Nat → Nat) (M : Nat → Nat → Int32) : va_W := (List.range 12).map (fun i => (ra i, .inl (cI, k, .inl (M i))))
/-- what the outer array holds -/
def go (ra : Nat → Nat) : Nat → Option Nat := fun i => if i < 12 then some (ra i) else none
theorem go_at {ra : Nat → Nat} {i : Nat} (h : i < 12) : go ra i = some (ra i) := if_pos h
theorem gd_mem {cI : ClassId} {k : Nat} {ra : Nat → Nat} {M : Nat → Nat → Int32} {i : Nat} (h : i < 12) : (ra i, Sum.inl (cI, k, Sum.inl (M i))) ∈ gd cI k ra M := List.mem_map.mpr ⟨i, List.mem_range.mpr h, rfl⟩
theorem gd_fst {cI : ClassId} {k : Nat} {ra : Nat → Nat} {M M' : Nat → Nat → Int32} : (gd cI k ra M).map (fun q => q.1) = (gd cI k ra M').map (fun q => q.1) := by
  unfold gd
  rw [List.map_map, List.map_map]
  rfl
/-- a world in which one cell is told anew -/
theorem wd_upd {D : va_G} {cl : List vw_C} {A : Nat → Prop} {ws ws' : va_W} {H H1 : Heap} {x : Nat × va_E} (hP : va_P D cl ws H) (hD : va_D A ws) (hf : ws'.map (fun q => q.1) = ws.map (fun q => q.1)) (hm : x ∈ ws') (hx : va_at D cl x H1) (ho : ∀ q ∈ ws', q.1 ≠ x.1 → q ∈ ws) (hH : ∀ q : Nat, q ≠ x.1 → H1[q]? = H[q]?) : va_P D cl ws' H1 ∧ va_D A ws' := by
  obtain ⟨d1, d2⟩ := wd_D.mp hD
  have hD' : va_D A ws' := wd_D.mpr ⟨by rw [hf]; exact d1, fun q hq => by
    have h1 : q.1 ∈ ws'.map (fun q => q.1) := List.mem_map.mpr ⟨q, hq, rfl⟩
    rw [hf] at h1
    obtain ⟨q2, h2, h3⟩ := List.mem_map.mp h1
    rw [← h3]
    exact d2 q2 h2⟩
  refine ⟨wd_P.mpr fun q hq => ?_, hD'⟩
  by_cases e : q.1 = x.1
  · obtain ⟨i, hi⟩ := List.getElem?_of_mem hq
    obtain ⟨j, hj⟩ := List.getElem?_of_mem hm
    have e2 := hD'.1 i j q x hi hj e
    subst e2
    cases Option.some.inj (hi.symm.trans hj)
    exact hx
  · exact (wd_P.mp hP q (ho q hq e)).kept (hH q.1 e)
theorem fl_fst {Bs : List va_W} {B B' : va_W} (kb : Nat) (hB : Bs[kb]? = some B) (h : B'.map (fun q => q.1) = B.map (fun q => q.1)) : (Bs.set kb B').flatten.map (fun q => q.1) = Bs.flatten.map (fun q => q.1) := by
  rw [List.map_flatten, List.map_flatten, List.map_set, h]
  congr 1
  apply List.ext_getElem?
  intro i
  rw [List.getElem?_set]
  by_cases e : kb = i
  · subst e
    rw [if_pos rfl, List.length_map, if_pos (List.getElem?_eq_some_iff.mp hB).1, List.getElem?_map, hB]
    rfl
  · rw [if_neg e]
theorem fl_old {Bs : List va_W} {B' : va_W} {kb : Nat} {q : Nat × va_E} (h : q ∈ (Bs.set kb B').flatten) : q ∈ B' ∨ q ∈ Bs.flatten := by
  obtain ⟨B, hB, hq⟩ := List.mem_flatten.mp h
  obtain ⟨i, hi⟩ := List.getElem?_of_mem hB
  rw [List.getElem?_set] at hi
  by_cases e : kb = i
  · subst e
    rw [if_pos rfl] at hi
    split at hi
    · cases hi
      exact Or.inl hq
    · cases hi
  · rw [if_neg e] at hi
    exact Or.inr (List.mem_flatten.mpr ⟨B, List.mem_of_getElem? hi, hq⟩)
section GR
variable {p : Program} {l : Launch} {e : Env} {R : Room} {s : State} {m : MethodId} {args : Array Value} {below : List Frame} {meth : Method} {c : Code} {H : Heap} {locs : List Loc} {cells slots : Nat} {Q : State → Prop}
variable {cc : ByteArray} {pc : Nat} {ls : Array Slot} {rest : List Value} {D : va_G} {cl : List vw_C} {A : Nat → Prop} {tys : List (ClassId × FieldType)} {H0 : Heap} {Bs : List va_W} {cI : ClassId} {k i j : Nat} {ra : Nat → Nat} {M : Nat → Nat → Int32}
theorem ri_gld (hx : p.tables.exec = Jvm.exec) (hb : c.code = cc) (hK : va_K D cl tys s) (hP : va_P D cl Bs.flatten H) (kb t0 : Nat) (hB : Bs[kb]? = some (gd cI k ra M)) (ht : tys[t0]? = some (cI, .int)) (hi : i < 12) (hj : j < k) (hk : k < 2147483648) (hd : decode cc pc = .ok (.iaload, 1)) (kk : W p l e R s m args below meth c H locs cells slots Q (F0 m (pc + 1) ls (.int (M i j) :: rest))) : W p l e R s m args below meth c H locs cells slots Q (F0 m pc ls (.int (nI j) :: .ref (ra i) :: rest)) := by
  obtain ⟨q0, hq⟩ := List.getElem?_of_mem (wd_mem kb hB (gd_mem (cI := cI) (k := k) (M := M) hi))
  exact ri_iald hx hb hK hP q0 t0 hq ht hj hk hd kk
theorem ri_gst (hx : p.tables.exec = Jvm.exec) (hb : c.code = cc) (hK : va_K D cl tys s) (hP : va_P D cl Bs.flatten H) (hD : va_D A Bs.flatten) (hS : va_S A H0 H locs) (kb t0 : Nat) (hB : Bs[kb]? = some (gd cI k ra M)) (ht : tys[t0]? = some (cI, .int)) {x : Int32} (hi : i < 12) (hj : j < k) (hk : k < 2147483648) (hd : decode cc pc = .ok (.iastore, 1))
    (kk : ∀ (H1 : Heap) (locs1 : List Loc), va_P D cl (Bs.set kb (gd cI k ra (bm_up2 M i j x))).flatten H1 → va_D A (Bs.set kb (gd cI k ra (bm_up2 M i j x))).flatten → va_S A H0 H1 locs1 → W p l e R s m args below meth c H1 locs1 cells slots Q (F0 m (pc + 1) ls rest)) : W p l e R s m args below meth c H locs cells slots Q (F0 m pc ls (.int x :: .int (nI j) :: .ref (ra i) :: rest)) := by
  have hm := wd_mem kb hB (gd_mem (cI := cI) (k := k) (M := M) hi)
  obtain ⟨q0, hq⟩ := List.getElem?_of_mem hm
  have hcl : (nI j).toNatClampNeg = j := nI_clamp (show j < 2 ^ 31 by omega)
  have hin : vp_in (nI j) k := vp_in_nI hj hk
  refine W.iast hx hb (hP q0 _ hq) ((hK.2 t0 _ ht).1 k (fun j => .int (M i j))) (fun q => by cases q) (by show ¬ (nI j < 0 ∨ (arrV _ _ _).slots.size ≤ _); rw [arrV_size]; exact hin) rfl rfl hd fun H1 e1 z oq => ?_
  have hnew : H1[ra i]? = some (vp_cell cI (k, .inl (bm_up2 M i j x i))) := by
    rw [e1, hcl]
    show some ((arrV cI k (fun j => Value.int (M i j))).setSlot j (.int x)) = _
    rw [arrV_store]
    show some (arrV cI k _) = some (arrV cI k (fun y => Value.int (bm_up2 M i j x i y)))
    refine congrArg some (congrArg (arrV cI k) (funext fun y => ?_))
    unfold updV bm_up2
    by_cases e : y = j
    · rw [if_pos e, if_pos ⟨rfl, e⟩]
    · rw [if_neg e, if_neg (fun q => e q.2)]
  have hkb : kb < Bs.length := (List.getElem?_eq_some_iff.mp hB).1
  have ho : ∀ q ∈ (Bs.set kb (gd cI k ra (bm_up2 M i j x))).flatten, q.1 ≠ ra i → q ∈ Bs.flatten := by
    intro q hq2 hqa
    rcases fl_old hq2 with h | h
    · obtain ⟨i2, hi2, rfl⟩ := List.mem_map.mp h
      have hi3 : i2 < 12 := List.mem_range.mp hi2
      have hne : i2 ≠ i := fun z => hqa (by rw [z])
      have : bm_up2 M i j x i2 = M i2 := by
        funext y
        unfold bm_up2
        rw [if_neg (fun q => hne q.1)]
      show (ra i2, Sum.inl (cI, k, Sum.inl (bm_up2 M i j x i2))) ∈ _
      rw [this]
      exact wd_mem kb hB (gd_mem (cI := cI) (k := k) (M := M) hi3)
    · exact h
  obtain ⟨hP1, hD1⟩ := wd_upd (ws' := (Bs.set kb (gd cI k ra (bm_up2 M i j x))).flatten) (x := (ra i, Sum.inl (cI, k, Sum.inl (bm_up2 M i j x i)))) hP hD (fl_fst kb hB gd_fst) (wd_mem kb (by rw [List.getElem?_set, if_pos rfl, if_pos hkb]) (gd_mem hi)) hnew ho oq
  exact kk H1 _ hP1 hD1 (hS.put z oq (hD.2 q0 _ hq))
end GR
/-- a grid of naturals -/
def gN (f : Nat → Nat → Nat) : Nat → Nat → Int32 := fun i j => nI (f i j)
theorem gN_up {f : Nat → Nat → Nat} {i j v : Nat} : bm_up2 (gN f) i j (nI v) = gN (bm_up2 f i j v) := by
  funext a b
  show (if a = i ∧ b = j then nI v else nI (f a b)) = nI (if a = i ∧ b = j then v else f a b)
  by_cases e : a = i ∧ b = j
  · rw [if_pos e, if_pos e]
  · rw [if_neg e, if_neg e]
