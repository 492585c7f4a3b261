/-! Worlds in blocks: a world is a list of lists of cells; a callee takes some of the blocks and gives others back; the rest stays. -/
theorem wd_P {D : va_G} {cl : List vw_C} {ws : va_W} {H : Heap} : va_P D cl ws H ↔ ∀ q ∈ ws, va_at D cl q H := by
  constructor
  · intro h q hq
    obtain ⟨k, hk⟩ := List.getElem?_of_mem hq
    exact h k q hk
  · intro h k q hk
    exact h q (List.mem_of_getElem? hk)
theorem wd_D {A : Nat → Prop} {ws : va_W} : va_D A ws ↔ (ws.map (fun q => q.1)).Nodup ∧ ∀ q ∈ ws, A q.1 := by
  constructor
  · intro h
    refine ⟨?_, fun q hq => ?_⟩
    · rw [List.nodup_iff_pairwise_ne, List.pairwise_iff_getElem]
      intro i j hi hj hij he
      rw [List.length_map] at hi hj
      rw [List.getElem_map, List.getElem_map] at he
      have := h.1 i j ws[i] ws[j] (List.getElem?_eq_getElem hi) (List.getElem?_eq_getElem hj) he
      omega
    · obtain ⟨k, hk⟩ := List.getElem?_of_mem hq
      exact h.2 k q hk
  · intro h
    refine ⟨fun i j p q hi hj he => ?_, fun k q hk => h.2 q (List.mem_of_getElem? hk)⟩
    have h1 := h.1
    rw [List.nodup_iff_pairwise_ne, List.pairwise_iff_getElem] at h1
    obtain ⟨hi', rfl⟩ := List.getElem?_eq_some_iff.mp hi
    obtain ⟨hj', rfl⟩ := List.getElem?_eq_some_iff.mp hj
    rcases Nat.lt_trichotomy i j with hl | hl | hl
    · exact absurd (by rw [List.getElem_map, List.getElem_map]; exact he) (h1 i j (by rw [List.length_map]; exact hi') (by rw [List.length_map]; exact hj') hl)
    · exact hl
    · exact absurd (by rw [List.getElem_map, List.getElem_map]; exact he.symm) (h1 j i (by rw [List.length_map]; exact hj') (by rw [List.length_map]; exact hi') hl)
theorem wd_Pp {D : va_G} {cl : List vw_C} {ws ws' : va_W} {H : Heap} (hp : ws.Perm ws') (h : va_P D cl ws H) : va_P D cl ws' H := wd_P.mpr fun q hq => wd_P.mp h q (hp.mem_iff.mpr hq)
theorem wd_Dp {A : Nat → Prop} {ws ws' : va_W} (hp : ws.Perm ws') (h : va_D A ws) : va_D A ws' := by
  obtain ⟨h1, h2⟩ := wd_D.mp h
  exact wd_D.mpr ⟨(hp.map _).nodup h1, fun q hq => h2 q (hp.mem_iff.mpr hq)⟩
theorem wd_Pl {D : va_G} {cl : List vw_C} {wc wr : va_W} {H : Heap} (h : va_P D cl (wc ++ wr) H) : va_P D cl wc H := wd_P.mpr fun q hq => wd_P.mp h q (List.mem_append_left _ hq)
theorem wd_Dl {A : Nat → Prop} {wc wr : va_W} (h : va_D A (wc ++ wr)) : va_D A wc := by
  obtain ⟨h1, h2⟩ := wd_D.mp h
  rw [List.map_append] at h1
  exact wd_D.mpr ⟨(List.nodup_append.mp h1).1, fun q hq => h2 q (List.mem_append_left _ hq)⟩
def wd_pk (is : List Nat) (Bs : List va_W) : List va_W := is.map (fun i => Bs.getD i [])
theorem wd_perm {Bs : List va_W} (is : List Nat) (h : is.Perm (List.range Bs.length)) : Bs.flatten.Perm (wd_pk is Bs).flatten := by
  have h1 := h.map (fun i => Bs.getD i [])
  have h2 : (List.range Bs.length).map (fun i => Bs.getD i []) = Bs := by
    apply List.ext_getElem
    · simp
    · intro i h3 h4
      simp [List.getD_eq_getElem?_getD, h4]
  rw [h2] at h1
  exact h1.symm.flatten
/-- the callee's blocks isC, the rest's isR -/
theorem wd_cut {Bs : List va_W} (isC isR : List Nat) (h : (isC ++ isR).Perm (List.range Bs.length)) : Bs.flatten.Perm ((wd_pk isC Bs).flatten ++ (wd_pk isR Bs).flatten) := by
  have h1 := wd_perm (isC ++ isR) h
  unfold wd_pk at h1 ⊢
  rw [List.map_append, List.flatten_append] at h1
  exact h1
theorem wd_free {A0 : Nat → Prop} {ws wc wr : va_W} {H0 H : Heap} {locs : List Loc} (hp : ws.Perm (wc ++ wr)) (hD : va_D A0 ws) (hS : va_S A0 H0 H locs) (hA : ∀ q, H0.size ≤ q → A0 q) : ∀ q, va_A wc H.size q → A0 q := by
  intro q h
  rcases h with ⟨k, e, h⟩ | h
  · exact (wd_D.mp hD).2 (q, e) (hp.mem_iff.mpr (List.mem_append_left _ (List.mem_of_getElem? h)))
  · exact hA q (Nat.le_trans hS.1 h)
theorem wd_join {A0 : Nat → Prop} {D : va_G} {cl : List vw_C} {ws wc wr w1 : va_W} {H H1 : Heap} (hp : ws.Perm (wc ++ wr)) (hP : va_P D cl ws H) (hD : va_D A0 ws) (hk : ∀ q : Nat, q < H.size → ¬ va_A wc H.size q → H1[q]? = H[q]?) (hF : ∀ q, va_A wc H.size q → A0 q) (hP1 : va_P D cl w1 H1) (hD1 : va_D (va_A wc H.size) w1) : va_P D cl (w1 ++ wr) H1 ∧ va_D A0 (w1 ++ wr) := by
  have hP2 := wd_P.mp (wd_Pp hp hP)
  obtain ⟨hn, hA⟩ := wd_D.mp (wd_Dp hp hD)
  rw [List.map_append] at hn
  obtain ⟨hn1, hn2, hdis⟩ := List.nodup_append.mp hn
  obtain ⟨hm1, hm2⟩ := wd_D.mp hD1
  have apart : ∀ q ∈ wr, q.1 < H.size ∧ ¬ va_A wc H.size q.1 := by
    intro q hq
    have hl := (hP2 q (List.mem_append_right _ hq)).lt
    refine ⟨hl, fun h => ?_⟩
    rcases h with ⟨k, e, h⟩ | h
    · exact hdis q.1 (List.mem_map.mpr ⟨(q.1, e), List.mem_of_getElem? h, rfl⟩) q.1 (List.mem_map.mpr ⟨q, hq, rfl⟩) rfl
    · omega
  refine ⟨wd_P.mpr fun q hq => ?_, wd_D.mpr ⟨?_, fun q hq => ?_⟩⟩
  · rcases List.mem_append.mp hq with h | h
    · exact wd_P.mp hP1 q h
    · exact (hP2 q (List.mem_append_right _ h)).kept (hk q.1 (apart q h).1 (apart q h).2)
  · rw [List.map_append, List.nodup_append]
    refine ⟨hm1, hn2, fun a ha b hb hab => ?_⟩
    obtain ⟨p, hp1, rfl⟩ := List.mem_map.mp ha
    obtain ⟨q, hq1, rfl⟩ := List.mem_map.mp hb
    exact (apart q hq1).2 (hab ▸ hm2 p hp1)
  · rcases List.mem_append.mp hq with h | h
    · exact hF _ (hm2 q h)
    · exact hA q (List.mem_append_right _ h)
/-- what stands in an array is what stands below its length -/
theorem wd_arr {n : Nat} {f g : Nat → Int32} (cA : ClassId) (h : ∀ j, j < n → f j = g j) : vp_cell cA (n, .inl f) = vp_cell cA (n, .inl g) := by
  show arrV cA n (fun j => .int (f j)) = arrV cA n (fun j => .int (g j))
  unfold arrV
  congr 1
  congr 1
  funext j
  show Value.int (f j.val) = Value.int (g j.val)
  rw [h j.val j.isLt]
theorem wd_arrL {n : Nat} {f g : Nat → Int64} (cA : ClassId) (h : ∀ j, j < n → f j = g j) : vp_cell cA (n, .inr (.inl f)) = vp_cell cA (n, .inr (.inl g)) := by
  show arrV cA n (fun j => .long (f j)) = arrV cA n (fun j => .long (g j))
  unfold arrV
  congr 1
  congr 1
  funext j
  show Value.long (f j.val) = Value.long (g j.val)
  rw [h j.val j.isLt]
/-- the cells of a world told again: each address keeps its place, what stands there is the same -/
def wd_eqc (x y : Nat × va_E) : Prop := x.1 = y.1 ∧ (x.2 = y.2 ∨ ∃ cA a b, x.2 = .inl (cA, a) ∧ y.2 = .inl (cA, b) ∧ vp_cell cA a = vp_cell cA b)
theorem wd_eqc.rf (x : Nat × va_E) : wd_eqc x x := ⟨rfl, Or.inl rfl⟩
theorem wd_eqc.i {q n : Nat} {cA : ClassId} {f g : Nat → Int32} (h : ∀ j, j < n → f j = g j) : wd_eqc (q, .inl (cA, n, .inl f)) (q, .inl (cA, n, .inl g)) := ⟨rfl, Or.inr ⟨cA, _, _, rfl, rfl, wd_arr cA h⟩⟩
theorem wd_eqc.l {q n : Nat} {cA : ClassId} {f g : Nat → Int64} (h : ∀ j, j < n → f j = g j) : wd_eqc (q, .inl (cA, n, .inr (.inl f))) (q, .inl (cA, n, .inr (.inl g))) := ⟨rfl, Or.inr ⟨cA, _, _, rfl, rfl, wd_arrL cA h⟩⟩
theorem wd_at {D : va_G} {cl : List vw_C} {x y : Nat × va_E} {H : Heap} (h : wd_eqc x y) (k : va_at D cl x H) : va_at D cl y H := by
  obtain ⟨a, e⟩ := x
  obtain ⟨b, f⟩ := y
  obtain ⟨h1, h2⟩ := h
  simp only at h1 h2
  subst h1
  rcases h2 with rfl | ⟨cA, u, v, rfl, rfl, h3⟩
  · exact k
  · show H[a]? = some (vp_cell cA v)
    rw [← h3]
    exact k
theorem wd_put1 {D : va_G} {cl : List vw_C} {A : Nat → Prop} {ws : va_W} {H : Heap} {x y : Nat × va_E} (k : Nat) (hP : va_P D cl ws H) (hD : va_D A ws) (hk : ws[k]? = some x) (h : wd_eqc x y) : va_P D cl (ws.set k y) H ∧ va_D A (ws.set k y) := by
  obtain ⟨hl, -⟩ := List.getElem?_eq_some_iff.mp hk
  have ad : ∀ (i : Nat) (q : Nat × va_E), (ws.set k y)[i]? = some q → ∃ q', ws[i]? = some q' ∧ q'.1 = q.1 ∧ wd_eqc q' q := by
    intro i q hi
    rw [List.getElem?_set] at hi
    by_cases e : k = i
    · subst e
      rw [if_pos rfl, if_pos hl] at hi
      cases hi
      exact ⟨x, hk, h.1, h⟩
    · rw [if_neg e] at hi
      exact ⟨q, hi, rfl, wd_eqc.rf q⟩
  refine ⟨fun i q hi => ?_, fun i j p q hi hj he => ?_, fun i q hi => ?_⟩
  · obtain ⟨q', h1, -, h3⟩ := ad i q hi
    exact wd_at h3 (hP i q' h1)
  · obtain ⟨p', h1, h2, -⟩ := ad i p hi
    obtain ⟨q', h3, h4, -⟩ := ad j q hj
    exact hD.1 i j p' q' h1 h3 (by rw [h2, h4]; exact he)
  · obtain ⟨q', h1, h2, -⟩ := ad i q hi
    rw [← h2]
    exact hD.2 i q' h1
