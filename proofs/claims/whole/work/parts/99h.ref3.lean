/-! The reference: its view, its next hops, its masks. -/
/-- a phase of Floyd-Warshall that is done in place: the rows below x, and of row x those below y -/
def pz (k : Nat) (F : Nat → Nat → Nat) (x y : Nat) : Nat → Nat → Nat := fun a b => if b < 12 ∧ (a < x ∨ (a = x ∧ b < y)) then bn_ph k F a b else F a b
theorem pz_00 (k : Nat) (F : Nat → Nat → Nat) : pz k F 0 0 = F := by
  funext a b
  exact if_neg (by omega)
theorem pz_row (k : Nat) (F : Nat → Nat → Nat) (x : Nat) : pz k F x 12 = pz k F (x + 1) 0 := by
  funext a b
  show (if b < 12 ∧ (a < x ∨ (a = x ∧ b < 12)) then _ else _) = (if b < 12 ∧ (a < x + 1 ∨ (a = x + 1 ∧ b < 0)) then _ else _)
  by_cases h : b < 12 ∧ (a < x ∨ (a = x ∧ b < 12))
  · rw [if_pos h, if_pos (by omega)]
  · rw [if_neg h, if_neg (by omega)]
theorem pz_end (k : Nat) (F : Nat → Nat → Nat) {a b : Nat} (ha : a < 12) (hb : b < 12) : pz k F 12 0 a b = bn_ph k F a b := if_pos (by omega)
theorem ph_ck {k : Nat} {F : Nat → Nat → Nat} (h : F k k = 0) (a : Nat) : bn_ph k F a k = F a k := by
  unfold bn_ph
  rw [if_neg (by omega)]
theorem ph_kr {k : Nat} {F : Nat → Nat → Nat} (h : F k k = 0) (b : Nat) : bn_ph k F k b = F k b := by
  unfold bn_ph
  rw [if_neg (by omega)]
theorem pz_xk {k : Nat} {F : Nat → Nat → Nat} (h : F k k = 0) (x y : Nat) : pz k F x y x k = F x k := by
  unfold pz
  split
  · exact ph_ck h x
  · rfl
theorem pz_ky {k : Nat} {F : Nat → Nat → Nat} (h : F k k = 0) (x y : Nat) : pz k F x y k y = F k y := by
  unfold pz
  split
  · exact ph_kr h y
  · rfl
theorem pz_xy {k : Nat} {F : Nat → Nat → Nat} (x y : Nat) : pz k F x y x y = F x y := if_neg (by omega)
theorem pz_up {k : Nat} {F : Nat → Nat → Nat} {x y : Nat} (hy : y < 12) (h : F x k + F k y < F x y) : bm_up2 (pz k F x y) x y (F x k + F k y) = pz k F x (y + 1) := by
  funext a b
  show (if a = x ∧ b = y then _ else (if b < 12 ∧ (a < x ∨ (a = x ∧ b < y)) then _ else _)) = (if b < 12 ∧ (a < x ∨ (a = x ∧ b < y + 1)) then _ else _)
  by_cases e : a = x ∧ b = y
  · rw [if_pos e, if_pos (by omega), e.1, e.2]
    exact (if_pos h).symm
  · rw [if_neg e]
    by_cases h2 : b < 12 ∧ (a < x ∨ (a = x ∧ b < y))
    · rw [if_pos h2, if_pos (by omega)]
    · rw [if_neg h2, if_neg (by omega)]
theorem pz_no {k : Nat} {F : Nat → Nat → Nat} {x y : Nat} (hy : y < 12) (h : ¬ F x k + F k y < F x y) : pz k F x y = pz k F x (y + 1) := by
  funext a b
  show (if b < 12 ∧ (a < x ∨ (a = x ∧ b < y)) then _ else _) = (if b < 12 ∧ (a < x ∨ (a = x ∧ b < y + 1)) then _ else _)
  by_cases e : a = x ∧ b = y
  · rw [if_neg (by omega), if_pos (by omega), e.1, e.2]
    exact (if_neg h).symm
  · by_cases h2 : b < 12 ∧ (a < x ∨ (a = x ∧ b < y))
    · rw [if_pos h2, if_pos (by omega)]
    · rw [if_neg h2, if_neg (by omega)]
section VW
variable {Ad hd : Nat → Nat → Nat} {r x y : Nat}
theorem vw_x0 (hx : x < 12) (hy : y < 12) (h0 : ∀ j, Ad 0 j = 0) (h : hd r x = 0) : 0 = vw0 Ad hd r x y := by
  unfold vw0
  rw [if_pos ⟨hx, hy⟩, h, h0]
  split <;> rfl
theorem vw_y0 (hx : x < 12) (hy : y < 12) (h0 : ∀ j, Ad 0 j = 0) (h : hd r y = 0) : 0 = vw0 Ad hd r x y := by
  unfold vw0
  rw [if_pos ⟨hx, hy⟩, h, h0, if_pos rfl]
theorem vw_t0 (hx : x < 12) (hy : y < 12) (h : Ad (hd r y) (2 + x) = 0) : 0 = vw0 Ad hd r x y := by
  unfold vw0
  rw [if_pos ⟨hx, hy⟩, if_pos h]
theorem vw_t (hx : x < 12) (hy : y < 12) (h : Ad (hd r y) (2 + x) ≠ 0) : Ad (hd r x) (2 + y) = vw0 Ad hd r x y := by
  unfold vw0
  rw [if_pos ⟨hx, hy⟩, if_neg h]
end VW
theorem f0_d {w : Nat → Nat → Nat} {x y : Nat} (h : x = y) : 0 = bn_f0 w x y := (if_pos h).symm
theorem f0_w {w : Nat → Nat → Nat} {x y : Nat} (h : x ≠ y) (k : 0 < w x y) : w x y = bn_f0 w x y := ((if_neg h).trans (if_pos k)).symm
theorem f0_n {w : Nat → Nat → Nat} {x y : Nat} (h : x ≠ y) (k : w x y = 0) : 1000000 = bn_f0 w x y := ((if_neg h).trans (if_neg (by omega))).symm
theorem em_of {o : Option Nat} (h : ¬ bm_oI o < 0) : nI 1 <<< (bm_oI o &&& 31) = bm_em o := by
  cases o with
  | none => exact absurd (by decide) h
  | some b => rfl
theorem or_0 (x : Int32) : x ||| bm_em none = x := Int32.or_zero

set_option maxHeartbeats 800000 in
set_option maxRecDepth 100000 in
theorem k_Ref_view (l : Launch) (D : va_G) (cI cZ cJ cG : ClassId) {h : Nat} {qs : Nat → Nat} {cd dv ex lb lm : Int32} {ma mn ca cn na nn pk : Nat} {T1 : bm_M Nat} {hd : Nat → Nat → Nat} {fL fH : Nat → Int64} {MK MF : Nat → Nat → Int32} (hAd : ∀ k, k + 1 < T1.2.1 → fL k = lN (pkn (fun j => T1.2.2 (k + 1) (2 + j)) 6) ∧ fH k = lN (pkn (fun j => T1.2.2 (k + 1) (2 + (6 + j))) 6)) (h00 : ∀ j, T1.2.2 0 j = 0) (hA9 : T1.2.1 ≤ 1600) (hA1 : ∀ i j, i < T1.2.1 → j < 12 → T1.2.2 i (2 + j) ≤ 1000) (r : Nat) (hr9 : r < 12) (hh : ∀ x, x < 12 → hd r x < T1.2.1) (hdg : ∀ x, vw0 T1.2.2 hd r x x = 0) (hw9 : ∀ x y, vw0 T1.2.2 hd r x y ≤ 1023) : ct_V l D kls (ty4 cI cZ cJ cG) y_Ref_view ws_Ref_view (rm_ 1 24 0 0) [.ref h, .int (nI r)] (List.flatten [[rf_o h qs cd ma mn ca cn na nn pk dv ex lb lm], [(qs 6, .inl (cJ, 1600, .inr (.inl fL)))], [(qs 7, .inl (cJ, 1600, .inr (.inl fH)))], [(qs 9, .inl (cI, 144, .inl (fl (sI hd))))], [(qs 18, .inl (cI, 144, .inl (fl MK)))], [(qs 19, .inl (cI, 144, .inl (fl MF)))]]) (fun u => u = List.flatten [[rf_o h qs cd ma mn ca cn na nn pk dv ex lb lm], [(qs 6, .inl (cJ, 1600, .inr (.inl fL)))], [(qs 7, .inl (cJ, 1600, .inr (.inl fH)))], [(qs 9, .inl (cI, 144, .inl (fl (sI hd))))], [(qs 18, .inl (cI, 144, .inl (fl (gN (vw0 T1.2.2 hd r)))))], [(qs 19, .inl (cI, 144, .inl (fl (gN (bn_far (vw0 T1.2.2 hd r))))))]]) 0 0 := by
  refine ct_enterV (cc := b_Ref_view) (maxL := 7) (ret := none) (by decide +kernel) (Nat.le_of_ble_eq_true rfl) ?_
  intro p e s m args below meth c hx hb hml hr ht hown hlk hnm A Q hA hK hP hD hQ ls hl
  have hown : s.vm.findClass R_Ref = some m.cls := hown
  have hS : va_S A s.heap s.heap [] := va_S.rf
  have hl : lv_has ls 7 [(0, .ref h), (1, .int (nI r))] := hl
  have hLd : ∀ x, x < 12 → hd r x ≠ 0 → fL (hd r x - 1) = lN (pkn (fun j => T1.2.2 (hd r x) (2 + j)) 6) ∧ fH (hd r x - 1) = lN (pkn (fun j => T1.2.2 (hd r x) (2 + (6 + j))) 6) := fun x hx9 hz => by
    have h1 := hh x hx9
    have h2 := hAd (hd r x - 1) (by omega)
    rw [show hd r x - 1 + 1 = hd r x by omega] at h2
    exact h2
  have hFI := bn_FI_all (w := vw0 T1.2.2 hd r) hdg hw9
  have ly : ∀ (kq : Nat), ∀ (hkq : kq < 12), ∀ (x : Nat), ∀ (hx9 : x < 12), ∀ (K : ∀ (H : Heap) (locs : List Loc) (ls : Array Slot), va_P D kls (List.flatten [[rf_o h qs cd ma mn ca cn na nn pk dv ex lb lm], [(qs 6, .inl (cJ, 1600, .inr (.inl fL)))], [(qs 7, .inl (cJ, 1600, .inr (.inl fH)))], [(qs 9, .inl (cI, 144, .inl (fl (sI hd))))], [(qs 18, .inl (cI, 144, .inl (fl (gN (vw0 T1.2.2 hd r)))))], [(qs 19, .inl (cI, 144, .inl (fl (gN (pz kq (bn_fw (bn_f0 (vw0 T1.2.2 hd r)) kq) x 12)))))]]) H → va_D A (List.flatten [[rf_o h qs cd ma mn ca cn na nn pk dv ex lb lm], [(qs 6, .inl (cJ, 1600, .inr (.inl fL)))], [(qs 7, .inl (cJ, 1600, .inr (.inl fH)))], [(qs 9, .inl (cI, 144, .inl (fl (sI hd))))], [(qs 18, .inl (cI, 144, .inl (fl (gN (vw0 T1.2.2 hd r)))))], [(qs 19, .inl (cI, 144, .inl (fl (gN (pz kq (bn_fw (bn_f0 (vw0 T1.2.2 hd r)) kq) x 12)))))]]) → va_S A s.heap H locs → lv_has ls 7 [(3, .int (nI x)), (2, .int (nI kq)), (0, .ref h), (1, .int (nI r))] → W p l e (rm_ 1 24 0 0) s m args below meth c H locs 0 0 Q (F0 m 221 ls [])), ∀ (k y : Nat)  (H : Heap) (locs : List Loc) (ls : Array Slot), y + k = 12 → va_P D kls (List.flatten [[rf_o h qs cd ma mn ca cn na nn pk dv ex lb lm], [(qs 6, .inl (cJ, 1600, .inr (.inl fL)))], [(qs 7, .inl (cJ, 1600, .inr (.inl fH)))], [(qs 9, .inl (cI, 144, .inl (fl (sI hd))))], [(qs 18, .inl (cI, 144, .inl (fl (gN (vw0 T1.2.2 hd r)))))], [(qs 19, .inl (cI, 144, .inl (fl (gN (pz kq (bn_fw (bn_f0 (vw0 T1.2.2 hd r)) kq) x y)))))]]) H → va_D A (List.flatten [[rf_o h qs cd ma mn ca cn na nn pk dv ex lb lm], [(qs 6, .inl (cJ, 1600, .inr (.inl fL)))], [(qs 7, .inl (cJ, 1600, .inr (.inl fH)))], [(qs 9, .inl (cI, 144, .inl (fl (sI hd))))], [(qs 18, .inl (cI, 144, .inl (fl (gN (vw0 T1.2.2 hd r)))))], [(qs 19, .inl (cI, 144, .inl (fl (gN (pz kq (bn_fw (bn_f0 (vw0 T1.2.2 hd r)) kq) x y)))))]]) → va_S A s.heap H locs → lv_has ls 7 [(4, .int (nI y)), (3, .int (nI x)), (2, .int (nI kq)), (0, .ref h), (1, .int (nI r))] → W p l e (rm_ 1 24 0 0) s m args below meth c H locs 0 0 Q (F0 m 151 ls []) := by
    intro kq hkq x hx9 K
    intro k
    induction k with
    | zero =>
      intro y H locs ls hk hP hD hS hl
      refine lv_iload hx hb d_Ref_view_151 (lv_at hl 0 rfl) ?_
      refine lv_bipush (v := nI 12) hx hb d_Ref_view_153 (by decide) ?_
      refine ri_icmp_ge hx hb (by omega) (by omega) d_Ref_view_155 (tgt := 221) (by decide) (fun hc9 => ?_) (fun hc9 => ?_)
      · have hy : y = 12 := by omega
        subst hy
        exact K H locs ls hP hD hS (lv_sub hl [1, 2, 3, 4] rfl)
      · exact absurd hc9 (by omega)
    | succ k ih =>
      intro y H locs ls hk hP hD hS hl
      refine lv_iload hx hb d_Ref_view_151 (lv_at hl 0 rfl) ?_
      refine lv_bipush (v := nI 12) hx hb d_Ref_view_153 (by decide) ?_
      refine ri_icmp_ge hx hb (by omega) (by omega) d_Ref_view_155 (tgt := 221) (by decide) (fun hc9 => ?_) (fun hc9 => ?_)
      · exact absurd hc9 (by omega)
      · have hFk := hFI kq (by omega)
        have b1 := hFk.1 x kq
        have b2 := hFk.1 kq y
        have b3 := hFk.1 x y
        have hkk := hFk.2.1 kq
        refine lv_aload_n hx hb d_Ref_view_158 rfl (lv_at hl 3 rfl) ?_
        refine va_get (D := D) (ci := 9) (v := .ref (qs 19)) (C := R_Ref) (T := T_Ref) (N := 32) hx hb ht in_Ref hown hK hP 0 rfl rfl 31 (by decide) (ht _ kl_Ref_69) (fun _ h9 => h9) rfl d_Ref_view_159 ?_
        refine lv_bipush (v := nI 12) hx hb d_Ref_view_162 (by decide) ?_
        refine lv_iload_n hx hb d_Ref_view_164 rfl (lv_at hl 1 rfl) ?_
        refine ri_imul hx hb d_Ref_view_165 ?_
        refine lv_iload_n hx hb d_Ref_view_166 rfl (lv_at hl 2 rfl) ?_
        refine ri_iadd hx hb d_Ref_view_167 ?_
        refine ri_iald hx hb hK hP 5 0 rfl rfl (j := (12 * x) + kq) (by omega) (by omega) d_Ref_view_168 ?_
        refine W.eq (g2 := F0 m 169 ls [.int (nI ((pz kq (bn_fw (bn_f0 (vw0 T1.2.2 hd r)) kq) x y) x kq))]) (congrArg (fun z => F0 m 169 ls (.int z :: [])) (fl_at (a := x) (b := kq) (by omega))) ?_
        refine W.eq (g2 := F0 m 169 ls [.int (nI (bn_fw (bn_f0 (vw0 T1.2.2 hd r)) kq x kq))]) (congrArg (fun z => F0 m 169 ls (.int z :: [])) (congrArg nI (pz_xk hkk x y))) ?_
        refine lv_aload_n hx hb d_Ref_view_169 rfl (lv_at hl 3 rfl) ?_
        refine va_get (D := D) (ci := 9) (v := .ref (qs 19)) (C := R_Ref) (T := T_Ref) (N := 32) hx hb ht in_Ref hown hK hP 0 rfl rfl 31 (by decide) (ht _ kl_Ref_69) (fun _ h9 => h9) rfl d_Ref_view_170 ?_
        refine lv_bipush (v := nI 12) hx hb d_Ref_view_173 (by decide) ?_
        refine lv_iload_n hx hb d_Ref_view_175 rfl (lv_at hl 2 rfl) ?_
        refine ri_imul hx hb d_Ref_view_176 ?_
        refine lv_iload hx hb d_Ref_view_177 (lv_at hl 0 rfl) ?_
        refine ri_iadd hx hb d_Ref_view_179 ?_
        refine ri_iald hx hb hK hP 5 0 rfl rfl (j := (12 * kq) + y) (by omega) (by omega) d_Ref_view_180 ?_
        refine W.eq (g2 := F0 m 181 ls [.int (nI ((pz kq (bn_fw (bn_f0 (vw0 T1.2.2 hd r)) kq) x y) kq y)), .int (nI (bn_fw (bn_f0 (vw0 T1.2.2 hd r)) kq x kq))]) (congrArg (fun z => F0 m 181 ls (.int z :: [.int (nI (bn_fw (bn_f0 (vw0 T1.2.2 hd r)) kq x kq))])) (fl_at (a := kq) (b := y) (by omega))) ?_
        refine W.eq (g2 := F0 m 181 ls [.int (nI (bn_fw (bn_f0 (vw0 T1.2.2 hd r)) kq kq y)), .int (nI (bn_fw (bn_f0 (vw0 T1.2.2 hd r)) kq x kq))]) (congrArg (fun z => F0 m 181 ls (.int z :: [.int (nI (bn_fw (bn_f0 (vw0 T1.2.2 hd r)) kq x kq))])) (congrArg nI (pz_ky hkk x y))) ?_
        refine ri_iadd hx hb d_Ref_view_181 ?_
        refine lv_istore hx hb d_Ref_view_182 hl (by decide) rfl (fun ls hl => ?_)
        have hl : lv_has ls 7 [(5, .int (nI ((bn_fw (bn_f0 (vw0 T1.2.2 hd r)) kq x kq) + (bn_fw (bn_f0 (vw0 T1.2.2 hd r)) kq kq y)))), (4, .int (nI y)), (3, .int (nI x)), (2, .int (nI kq)), (0, .ref h), (1, .int (nI r))] := hl
        refine lv_iload hx hb d_Ref_view_184 (lv_at hl 0 rfl) ?_
        refine lv_aload_n hx hb d_Ref_view_186 rfl (lv_at hl 4 rfl) ?_
        refine va_get (D := D) (ci := 9) (v := .ref (qs 19)) (C := R_Ref) (T := T_Ref) (N := 32) hx hb ht in_Ref hown hK hP 0 rfl rfl 31 (by decide) (ht _ kl_Ref_69) (fun _ h9 => h9) rfl d_Ref_view_187 ?_
        refine lv_bipush (v := nI 12) hx hb d_Ref_view_190 (by decide) ?_
        refine lv_iload_n hx hb d_Ref_view_192 rfl (lv_at hl 2 rfl) ?_
        refine ri_imul hx hb d_Ref_view_193 ?_
        refine lv_iload hx hb d_Ref_view_194 (lv_at hl 1 rfl) ?_
        refine ri_iadd hx hb d_Ref_view_196 ?_
        refine ri_iald hx hb hK hP 5 0 rfl rfl (j := (12 * x) + y) (by omega) (by omega) d_Ref_view_197 ?_
        refine W.eq (g2 := F0 m 198 ls [.int (nI ((pz kq (bn_fw (bn_f0 (vw0 T1.2.2 hd r)) kq) x y) x y)), .int (nI ((bn_fw (bn_f0 (vw0 T1.2.2 hd r)) kq x kq) + (bn_fw (bn_f0 (vw0 T1.2.2 hd r)) kq kq y)))]) (congrArg (fun z => F0 m 198 ls (.int z :: [.int (nI ((bn_fw (bn_f0 (vw0 T1.2.2 hd r)) kq x kq) + (bn_fw (bn_f0 (vw0 T1.2.2 hd r)) kq kq y)))])) (fl_at (a := x) (b := y) (by omega))) ?_
        refine W.eq (g2 := F0 m 198 ls [.int (nI (bn_fw (bn_f0 (vw0 T1.2.2 hd r)) kq x y)), .int (nI ((bn_fw (bn_f0 (vw0 T1.2.2 hd r)) kq x kq) + (bn_fw (bn_f0 (vw0 T1.2.2 hd r)) kq kq y)))]) (congrArg (fun z => F0 m 198 ls (.int z :: [.int (nI ((bn_fw (bn_f0 (vw0 T1.2.2 hd r)) kq x kq) + (bn_fw (bn_f0 (vw0 T1.2.2 hd r)) kq kq y)))])) (congrArg nI (pz_xy x y))) ?_
        refine ri_icmp_ge hx hb (by omega) (by omega) d_Ref_view_198 (tgt := 215) (by decide) (fun h198 => ?_) (fun h198 => ?_)
        · refine ri_iinc hx hb d_Ref_view_215 hl (k := 1) rfl (by decide) rfl (fun ls hl => ?_)
          have hl : lv_has ls 7 [(4, .int (nI (y + 1))), (5, .int (nI ((bn_fw (bn_f0 (vw0 T1.2.2 hd r)) kq x kq) + (bn_fw (bn_f0 (vw0 T1.2.2 hd r)) kq kq y)))), (3, .int (nI x)), (2, .int (nI kq)), (0, .ref h), (1, .int (nI r))] := hl
          refine lv_goto hx hb d_Ref_view_218 (tgt := 151) (by decide) ?_
          rw [pz_no (by omega) (by omega)] at hP hD
          exact ih (y + 1) H locs ls (by omega) hP hD hS (lv_sub hl [0, 2, 3, 4, 5] rfl)
        · refine lv_aload_n hx hb d_Ref_view_201 rfl (lv_at hl 4 rfl) ?_
          refine va_get (D := D) (ci := 9) (v := .ref (qs 19)) (C := R_Ref) (T := T_Ref) (N := 32) hx hb ht in_Ref hown hK hP 0 rfl rfl 31 (by decide) (ht _ kl_Ref_69) (fun _ h9 => h9) rfl d_Ref_view_202 ?_
          refine lv_bipush (v := nI 12) hx hb d_Ref_view_205 (by decide) ?_
          refine lv_iload_n hx hb d_Ref_view_207 rfl (lv_at hl 2 rfl) ?_
          refine ri_imul hx hb d_Ref_view_208 ?_
          refine lv_iload hx hb d_Ref_view_209 (lv_at hl 1 rfl) ?_
          refine ri_iadd hx hb d_Ref_view_211 ?_
          refine lv_iload hx hb d_Ref_view_212 (lv_at hl 0 rfl) ?_
          refine ri_iast hx hb hK hP hD hS 5 0 rfl rfl (j := (12 * x) + y) (by omega) (by omega) d_Ref_view_214 (fun H locs hP hD hS => ?_)
          rw [fl_up (a := x) (b := y) (show y < 12 by omega)] at hP hD
          rw [gN_up] at hP hD
          have hP : va_P D kls (List.flatten [[rf_o h qs cd ma mn ca cn na nn pk dv ex lb lm], [(qs 6, .inl (cJ, 1600, .inr (.inl fL)))], [(qs 7, .inl (cJ, 1600, .inr (.inl fH)))], [(qs 9, .inl (cI, 144, .inl (fl (sI hd))))], [(qs 18, .inl (cI, 144, .inl (fl (gN (vw0 T1.2.2 hd r)))))], [(qs 19, .inl (cI, 144, .inl (fl (gN (bm_up2 (pz kq (bn_fw (bn_f0 (vw0 T1.2.2 hd r)) kq) x y) x y ((bn_fw (bn_f0 (vw0 T1.2.2 hd r)) kq x kq) + (bn_fw (bn_f0 (vw0 T1.2.2 hd r)) kq kq y)))))))]]) H := hP
          have hD : va_D A (List.flatten [[rf_o h qs cd ma mn ca cn na nn pk dv ex lb lm], [(qs 6, .inl (cJ, 1600, .inr (.inl fL)))], [(qs 7, .inl (cJ, 1600, .inr (.inl fH)))], [(qs 9, .inl (cI, 144, .inl (fl (sI hd))))], [(qs 18, .inl (cI, 144, .inl (fl (gN (vw0 T1.2.2 hd r)))))], [(qs 19, .inl (cI, 144, .inl (fl (gN (bm_up2 (pz kq (bn_fw (bn_f0 (vw0 T1.2.2 hd r)) kq) x y) x y ((bn_fw (bn_f0 (vw0 T1.2.2 hd r)) kq x kq) + (bn_fw (bn_f0 (vw0 T1.2.2 hd r)) kq kq y)))))))]]) := hD
          refine ri_iinc hx hb d_Ref_view_215 hl (k := 1) rfl (by decide) rfl (fun ls hl => ?_)
          have hl : lv_has ls 7 [(4, .int (nI (y + 1))), (5, .int (nI ((bn_fw (bn_f0 (vw0 T1.2.2 hd r)) kq x kq) + (bn_fw (bn_f0 (vw0 T1.2.2 hd r)) kq kq y)))), (3, .int (nI x)), (2, .int (nI kq)), (0, .ref h), (1, .int (nI r))] := hl
          refine lv_goto hx hb d_Ref_view_218 (tgt := 151) (by decide) ?_
          rw [pz_up (by omega) h198] at hP hD
          exact ih (y + 1) H locs ls (by omega) hP hD hS (lv_sub hl [0, 2, 3, 4, 5] rfl)
  have lx : ∀ (kq : Nat), ∀ (hkq : kq < 12), ∀ (K : ∀ (H : Heap) (locs : List Loc) (ls : Array Slot), va_P D kls (List.flatten [[rf_o h qs cd ma mn ca cn na nn pk dv ex lb lm], [(qs 6, .inl (cJ, 1600, .inr (.inl fL)))], [(qs 7, .inl (cJ, 1600, .inr (.inl fH)))], [(qs 9, .inl (cI, 144, .inl (fl (sI hd))))], [(qs 18, .inl (cI, 144, .inl (fl (gN (vw0 T1.2.2 hd r)))))], [(qs 19, .inl (cI, 144, .inl (fl (gN (pz kq (bn_fw (bn_f0 (vw0 T1.2.2 hd r)) kq) 12 0)))))]]) H → va_D A (List.flatten [[rf_o h qs cd ma mn ca cn na nn pk dv ex lb lm], [(qs 6, .inl (cJ, 1600, .inr (.inl fL)))], [(qs 7, .inl (cJ, 1600, .inr (.inl fH)))], [(qs 9, .inl (cI, 144, .inl (fl (sI hd))))], [(qs 18, .inl (cI, 144, .inl (fl (gN (vw0 T1.2.2 hd r)))))], [(qs 19, .inl (cI, 144, .inl (fl (gN (pz kq (bn_fw (bn_f0 (vw0 T1.2.2 hd r)) kq) 12 0)))))]]) → va_S A s.heap H locs → lv_has ls 7 [(2, .int (nI kq)), (0, .ref h), (1, .int (nI r))] → W p l e (rm_ 1 24 0 0) s m args below meth c H locs 0 0 Q (F0 m 227 ls [])), ∀ (k x : Nat)  (H : Heap) (locs : List Loc) (ls : Array Slot), x + k = 12 → va_P D kls (List.flatten [[rf_o h qs cd ma mn ca cn na nn pk dv ex lb lm], [(qs 6, .inl (cJ, 1600, .inr (.inl fL)))], [(qs 7, .inl (cJ, 1600, .inr (.inl fH)))], [(qs 9, .inl (cI, 144, .inl (fl (sI hd))))], [(qs 18, .inl (cI, 144, .inl (fl (gN (vw0 T1.2.2 hd r)))))], [(qs 19, .inl (cI, 144, .inl (fl (gN (pz kq (bn_fw (bn_f0 (vw0 T1.2.2 hd r)) kq) x 0)))))]]) H → va_D A (List.flatten [[rf_o h qs cd ma mn ca cn na nn pk dv ex lb lm], [(qs 6, .inl (cJ, 1600, .inr (.inl fL)))], [(qs 7, .inl (cJ, 1600, .inr (.inl fH)))], [(qs 9, .inl (cI, 144, .inl (fl (sI hd))))], [(qs 18, .inl (cI, 144, .inl (fl (gN (vw0 T1.2.2 hd r)))))], [(qs 19, .inl (cI, 144, .inl (fl (gN (pz kq (bn_fw (bn_f0 (vw0 T1.2.2 hd r)) kq) x 0)))))]]) → va_S A s.heap H locs → lv_has ls 7 [(3, .int (nI x)), (2, .int (nI kq)), (0, .ref h), (1, .int (nI r))] → W p l e (rm_ 1 24 0 0) s m args below meth c H locs 0 0 Q (F0 m 142 ls []) := by
    intro kq hkq K
    intro k
    induction k with
    | zero =>
      intro x H locs ls hk hP hD hS hl
      refine lv_iload_n hx hb d_Ref_view_142 rfl (lv_at hl 0 rfl) ?_
      refine lv_bipush (v := nI 12) hx hb d_Ref_view_143 (by decide) ?_
      refine ri_icmp_ge hx hb (by omega) (by omega) d_Ref_view_145 (tgt := 227) (by decide) (fun hc9 => ?_) (fun hc9 => ?_)
      · have hx9 : x = 12 := by omega
        subst hx9
        exact K H locs ls hP hD hS (lv_sub hl [1, 2, 3] rfl)
      · exact absurd hc9 (by omega)
    | succ k ih =>
      intro x H locs ls hk hP hD hS hl
      refine lv_iload_n hx hb d_Ref_view_142 rfl (lv_at hl 0 rfl) ?_
      refine lv_bipush (v := nI 12) hx hb d_Ref_view_143 (by decide) ?_
      refine ri_icmp_ge hx hb (by omega) (by omega) d_Ref_view_145 (tgt := 227) (by decide) (fun hc9 => ?_) (fun hc9 => ?_)
      · exact absurd hc9 (by omega)
      · refine lv_iconst (v := nI 0) hx hb d_Ref_view_148 (by decide) ?_
        refine lv_istore hx hb d_Ref_view_149 hl (by decide) rfl (fun ls hl => ?_)
        have hl : lv_has ls 7 [(4, .int (nI 0)), (3, .int (nI x)), (2, .int (nI kq)), (0, .ref h), (1, .int (nI r))] := hl
        refine ly kq hkq x (by omega) (fun H locs ls hP hD hS hl => ?_) 12 0 H locs ls (by omega) hP hD hS (lv_sub hl [0, 1, 2, 3, 4] rfl)
        rw [pz_row] at hP hD
        refine ri_iinc hx hb d_Ref_view_221 hl (k := 0) rfl (by decide) rfl (fun ls hl => ?_)
        have hl : lv_has ls 7 [(3, .int (nI (x + 1))), (2, .int (nI kq)), (0, .ref h), (1, .int (nI r))] := hl
        refine lv_goto hx hb d_Ref_view_224 (tgt := 142) (by decide) ?_
        exact ih (x + 1) H locs ls (by omega) hP hD hS (lv_sub hl [0, 1, 2, 3] rfl)
  have lk9 : ∀ (k kq : Nat)  (H : Heap) (locs : List Loc) (ls : Array Slot), kq + k = 12 → va_P D kls (List.flatten [[rf_o h qs cd ma mn ca cn na nn pk dv ex lb lm], [(qs 6, .inl (cJ, 1600, .inr (.inl fL)))], [(qs 7, .inl (cJ, 1600, .inr (.inl fH)))], [(qs 9, .inl (cI, 144, .inl (fl (sI hd))))], [(qs 18, .inl (cI, 144, .inl (fl (gN (vw0 T1.2.2 hd r)))))], [(qs 19, .inl (cI, 144, .inl (fl (gN (bn_fw (bn_f0 (vw0 T1.2.2 hd r)) kq)))))]]) H → va_D A (List.flatten [[rf_o h qs cd ma mn ca cn na nn pk dv ex lb lm], [(qs 6, .inl (cJ, 1600, .inr (.inl fL)))], [(qs 7, .inl (cJ, 1600, .inr (.inl fH)))], [(qs 9, .inl (cI, 144, .inl (fl (sI hd))))], [(qs 18, .inl (cI, 144, .inl (fl (gN (vw0 T1.2.2 hd r)))))], [(qs 19, .inl (cI, 144, .inl (fl (gN (bn_fw (bn_f0 (vw0 T1.2.2 hd r)) kq)))))]]) → va_S A s.heap H locs → lv_has ls 7 [(2, .int (nI kq)), (0, .ref h), (1, .int (nI r))] → W p l e (rm_ 1 24 0 0) s m args below meth c H locs 0 0 Q (F0 m 134 ls []) := by
    intro k
    induction k with
    | zero =>
      intro kq H locs ls hk hP hD hS hl
      refine lv_iload_n hx hb d_Ref_view_134 rfl (lv_at hl 0 rfl) ?_
      refine lv_bipush (v := nI 12) hx hb d_Ref_view_135 (by decide) ?_
      refine ri_icmp_ge hx hb (by omega) (by omega) d_Ref_view_137 (tgt := 233) (by decide) (fun hc9 => ?_) (fun hc9 => ?_)
      · have hk9 : kq = 12 := by omega
        subst hk9
        exact ct_vret hQ hx hb hr hlk hP hD hS hK (by omega) (by omega) d_Ref_view_233 (rfl)
      · exact absurd hc9 (by omega)
    | succ k ih =>
      intro kq H locs ls hk hP hD hS hl
      refine lv_iload_n hx hb d_Ref_view_134 rfl (lv_at hl 0 rfl) ?_
      refine lv_bipush (v := nI 12) hx hb d_Ref_view_135 (by decide) ?_
      refine ri_icmp_ge hx hb (by omega) (by omega) d_Ref_view_137 (tgt := 233) (by decide) (fun hc9 => ?_) (fun hc9 => ?_)
      · exact absurd hc9 (by omega)
      · refine lv_iconst (v := nI 0) hx hb d_Ref_view_140 (by decide) ?_
        refine lv_istore_n hx hb d_Ref_view_141 rfl hl (by decide) rfl (fun ls hl => ?_)
        have hl : lv_has ls 7 [(3, .int (nI 0)), (2, .int (nI kq)), (0, .ref h), (1, .int (nI r))] := hl
        rw [← pz_00 kq (bn_fw (bn_f0 (vw0 T1.2.2 hd r)) kq)] at hP hD
        refine lx kq (by omega) (fun H locs ls hP hD hS hl => ?_) 12 0 H locs ls (by omega) hP hD hS (lv_sub hl [0, 1, 2, 3] rfl)
        obtain ⟨hP, hD⟩ := wd_put1 5 hP hD rfl (wd_eqc.i (g := fl (gN (bn_fw (bn_f0 (vw0 T1.2.2 hd r)) (kq + 1)))) (fun i hi => congrArg nI (pz_end kq (bn_fw (bn_f0 (vw0 T1.2.2 hd r)) kq) (show i / 12 < 12 by omega) (show i % 12 < 12 by omega))))
        have hP : va_P D kls (List.flatten [[rf_o h qs cd ma mn ca cn na nn pk dv ex lb lm], [(qs 6, .inl (cJ, 1600, .inr (.inl fL)))], [(qs 7, .inl (cJ, 1600, .inr (.inl fH)))], [(qs 9, .inl (cI, 144, .inl (fl (sI hd))))], [(qs 18, .inl (cI, 144, .inl (fl (gN (vw0 T1.2.2 hd r)))))], [(qs 19, .inl (cI, 144, .inl (fl (gN (bn_fw (bn_f0 (vw0 T1.2.2 hd r)) (kq + 1))))))]]) H := hP
        have hD : va_D A (List.flatten [[rf_o h qs cd ma mn ca cn na nn pk dv ex lb lm], [(qs 6, .inl (cJ, 1600, .inr (.inl fL)))], [(qs 7, .inl (cJ, 1600, .inr (.inl fH)))], [(qs 9, .inl (cI, 144, .inl (fl (sI hd))))], [(qs 18, .inl (cI, 144, .inl (fl (gN (vw0 T1.2.2 hd r)))))], [(qs 19, .inl (cI, 144, .inl (fl (gN (bn_fw (bn_f0 (vw0 T1.2.2 hd r)) (kq + 1))))))]]) := hD
        refine ri_iinc hx hb d_Ref_view_227 hl (k := 0) rfl (by decide) rfl (fun ls hl => ?_)
        have hl : lv_has ls 7 [(2, .int (nI (kq + 1))), (0, .ref h), (1, .int (nI r))] := hl
        refine lv_goto hx hb d_Ref_view_230 (tgt := 134) (by decide) ?_
        exact ih (kq + 1) H locs ls (by omega) hP hD hS (lv_sub hl [0, 1, 2] rfl)
  have iy : ∀ (x : Nat), ∀ (hx9 : x < 12), ∀ (K : ∀ (MK MF : Nat → Nat → Int32) (H : Heap) (locs : List Loc) (ls : Array Slot), va_P D kls (List.flatten [[rf_o h qs cd ma mn ca cn na nn pk dv ex lb lm], [(qs 6, .inl (cJ, 1600, .inr (.inl fL)))], [(qs 7, .inl (cJ, 1600, .inr (.inl fH)))], [(qs 9, .inl (cI, 144, .inl (fl (sI hd))))], [(qs 18, .inl (cI, 144, .inl (fl MK)))], [(qs 19, .inl (cI, 144, .inl (fl MF)))]]) H → va_D A (List.flatten [[rf_o h qs cd ma mn ca cn na nn pk dv ex lb lm], [(qs 6, .inl (cJ, 1600, .inr (.inl fL)))], [(qs 7, .inl (cJ, 1600, .inr (.inl fH)))], [(qs 9, .inl (cI, 144, .inl (fl (sI hd))))], [(qs 18, .inl (cI, 144, .inl (fl MK)))], [(qs 19, .inl (cI, 144, .inl (fl MF)))]]) → va_S A s.heap H locs → lv_has ls 7 [(2, .int (nI x)), (0, .ref h), (1, .int (nI r))] → (∀ a b, a < x + 1 → b < 12 → MK a b = nI (vw0 T1.2.2 hd r a b) ∧ MF a b = nI (bn_f0 (vw0 T1.2.2 hd r) a b)) → W p l e (rm_ 1 24 0 0) s m args below meth c H locs 0 0 Q (F0 m 126 ls [])), ∀ (k y : Nat) (MK : Nat → Nat → Int32) (MF : Nat → Nat → Int32) (H : Heap) (locs : List Loc) (ls : Array Slot), y + k = 12 → (∀ a b, a < x → b < 12 → MK a b = nI (vw0 T1.2.2 hd r a b) ∧ MF a b = nI (bn_f0 (vw0 T1.2.2 hd r) a b)) → (∀ b, b < y → MK x b = nI (vw0 T1.2.2 hd r x b) ∧ MF x b = nI (bn_f0 (vw0 T1.2.2 hd r) x b)) → va_P D kls (List.flatten [[rf_o h qs cd ma mn ca cn na nn pk dv ex lb lm], [(qs 6, .inl (cJ, 1600, .inr (.inl fL)))], [(qs 7, .inl (cJ, 1600, .inr (.inl fH)))], [(qs 9, .inl (cI, 144, .inl (fl (sI hd))))], [(qs 18, .inl (cI, 144, .inl (fl MK)))], [(qs 19, .inl (cI, 144, .inl (fl MF)))]]) H → va_D A (List.flatten [[rf_o h qs cd ma mn ca cn na nn pk dv ex lb lm], [(qs 6, .inl (cJ, 1600, .inr (.inl fL)))], [(qs 7, .inl (cJ, 1600, .inr (.inl fH)))], [(qs 9, .inl (cI, 144, .inl (fl (sI hd))))], [(qs 18, .inl (cI, 144, .inl (fl MK)))], [(qs 19, .inl (cI, 144, .inl (fl MF)))]]) → va_S A s.heap H locs → lv_has ls 7 [(3, .int (nI y)), (2, .int (nI x)), (0, .ref h), (1, .int (nI r))] → W p l e (rm_ 1 24 0 0) s m args below meth c H locs 0 0 Q (F0 m 10 ls []) := by
    intro x hx9 K
    intro k
    induction k with
    | zero =>
      intro y MK MF H locs ls hk hs1 hs2 hP hD hS hl
      refine lv_iload_n hx hb d_Ref_view_10 rfl (lv_at hl 0 rfl) ?_
      refine lv_bipush (v := nI 12) hx hb d_Ref_view_11 (by decide) ?_
      refine ri_icmp_ge hx hb (by omega) (by omega) d_Ref_view_13 (tgt := 126) (by decide) (fun hc9 => ?_) (fun hc9 => ?_)
      · refine K MK MF H locs ls hP hD hS (lv_sub hl [1, 2, 3] rfl) (fun a b ha hb9 => ?_)
        by_cases e : a = x
        · subst e; exact hs2 b (by omega)
        · exact hs1 a b (by omega) hb9
      · exact absurd hc9 (by omega)
    | succ k ih =>
      intro y MK MF H locs ls hk hs1 hs2 hP hD hS hl
      refine lv_iload_n hx hb d_Ref_view_10 rfl (lv_at hl 0 rfl) ?_
      refine lv_bipush (v := nI 12) hx hb d_Ref_view_11 (by decide) ?_
      refine ri_icmp_ge hx hb (by omega) (by omega) d_Ref_view_13 (tgt := 126) (by decide) (fun hc9 => ?_) (fun hc9 => ?_)
      · exact absurd hc9 (by omega)
      · have hhx := hh x (by omega)
        have hhy := hh y (by omega)
        have hwxy := hw9 x y
        have hx12 : x < 12 := by omega
        have hy12 : y < 12 := by omega
        refine lv_aload_n hx hb d_Ref_view_16 rfl (lv_at hl 2 rfl) ?_
        refine va_get (D := D) (ci := 9) (v := .ref (qs 9)) (C := R_Ref) (T := T_Ref) (N := 32) hx hb ht in_Ref hown hK hP 0 rfl rfl 10 (by decide) (ht _ kl_Ref_39) (fun _ h9 => h9) rfl d_Ref_view_17 ?_
        refine lv_bipush (v := nI 12) hx hb d_Ref_view_20 (by decide) ?_
        refine lv_iload_n hx hb d_Ref_view_22 rfl (lv_at hl 3 rfl) ?_
        refine ri_imul hx hb d_Ref_view_23 ?_
        refine lv_iload_n hx hb d_Ref_view_24 rfl (lv_at hl 1 rfl) ?_
        refine ri_iadd hx hb d_Ref_view_25 ?_
        refine ri_iald hx hb hK hP 3 0 rfl rfl (j := (12 * r) + x) (by omega) (by omega) d_Ref_view_26 ?_
        refine W.eq (g2 := F0 m 27 ls [.int (sI hd r x)]) (congrArg (fun z => F0 m 27 ls (.int z :: [])) (fl_at (a := r) (b := x) (by omega))) ?_
        refine lv_istore hx hb d_Ref_view_27 hl (by decide) rfl (fun ls hl => ?_)
        have hl : lv_has ls 7 [(4, .int (sI hd r x)), (3, .int (nI y)), (2, .int (nI x)), (0, .ref h), (1, .int (nI r))] := hl
        refine lv_aload_n hx hb d_Ref_view_29 rfl (lv_at hl 3 rfl) ?_
        refine va_get (D := D) (ci := 9) (v := .ref (qs 9)) (C := R_Ref) (T := T_Ref) (N := 32) hx hb ht in_Ref hown hK hP 0 rfl rfl 10 (by decide) (ht _ kl_Ref_39) (fun _ h9 => h9) rfl d_Ref_view_30 ?_
        refine lv_bipush (v := nI 12) hx hb d_Ref_view_33 (by decide) ?_
        refine lv_iload_n hx hb d_Ref_view_35 rfl (lv_at hl 4 rfl) ?_
        refine ri_imul hx hb d_Ref_view_36 ?_
        refine lv_iload_n hx hb d_Ref_view_37 rfl (lv_at hl 1 rfl) ?_
        refine ri_iadd hx hb d_Ref_view_38 ?_
        refine ri_iald hx hb hK hP 3 0 rfl rfl (j := (12 * r) + y) (by omega) (by omega) d_Ref_view_39 ?_
        refine W.eq (g2 := F0 m 40 ls [.int (sI hd r y)]) (congrArg (fun z => F0 m 40 ls (.int z :: [])) (fl_at (a := r) (b := y) (by omega))) ?_
        refine lv_istore hx hb d_Ref_view_40 hl (by decide) rfl (fun ls hl => ?_)
        have hl : lv_has ls 7 [(5, .int (sI hd r y)), (4, .int (sI hd r x)), (3, .int (nI y)), (2, .int (nI x)), (0, .ref h), (1, .int (nI r))] := hl
        refine lv_iload hx hb d_Ref_view_42 (lv_at hl 1 rfl) ?_
        refine lv_if_lt hx hb d_Ref_view_44 (tgt := 62) (by decide) (fun h44 => ?_) (fun h44 => ?_)
        · refine lv_iconst (v := nI 0) hx hb d_Ref_view_62 (by decide) ?_
          refine lv_goto hx hb d_Ref_view_63 (tgt := 73) (by decide) ?_
          refine W.eq (g2 := F0 m 73 ls [.int (nI (vw0 T1.2.2 hd r x y))]) (congrArg (fun z => F0 m 73 ls (.int z :: [])) (congrArg nI (by first | exact vw_x0 hx12 hy12 h00 ((sI_lt (show hd r x < 2000 by omega)).mp h44) | exact vw_y0 hx12 hy12 h00 ((sI_lt (show hd r y < 2000 by omega)).mp h49) | exact vw_t0 hx12 hy12 h59 | exact vw_t hx12 hy12 h59))) ?_
          refine lv_istore hx hb d_Ref_view_73 hl (by decide) rfl (fun ls hl => ?_)
          have hl : lv_has ls 7 [(6, .int (nI (vw0 T1.2.2 hd r x y))), (5, .int (sI hd r y)), (4, .int (sI hd r x)), (3, .int (nI y)), (2, .int (nI x)), (0, .ref h), (1, .int (nI r))] := hl
          refine lv_aload_n hx hb d_Ref_view_75 rfl (lv_at hl 5 rfl) ?_
          refine va_get (D := D) (ci := 9) (v := .ref (qs 18)) (C := R_Ref) (T := T_Ref) (N := 32) hx hb ht in_Ref hown hK hP 0 rfl rfl 30 (by decide) (ht _ kl_Ref_66) (fun _ h9 => h9) rfl d_Ref_view_76 ?_
          refine lv_bipush (v := nI 12) hx hb d_Ref_view_79 (by decide) ?_
          refine lv_iload_n hx hb d_Ref_view_81 rfl (lv_at hl 4 rfl) ?_
          refine ri_imul hx hb d_Ref_view_82 ?_
          refine lv_iload_n hx hb d_Ref_view_83 rfl (lv_at hl 3 rfl) ?_
          refine ri_iadd hx hb d_Ref_view_84 ?_
          refine lv_iload hx hb d_Ref_view_85 (lv_at hl 0 rfl) ?_
          refine ri_iast hx hb hK hP hD hS 4 0 rfl rfl (j := (12 * x) + y) (by omega) (by omega) d_Ref_view_87 (fun H locs hP hD hS => ?_)
          rw [fl_up (a := x) (b := y) (show y < 12 by omega)] at hP hD
          have hP : va_P D kls (List.flatten [[rf_o h qs cd ma mn ca cn na nn pk dv ex lb lm], [(qs 6, .inl (cJ, 1600, .inr (.inl fL)))], [(qs 7, .inl (cJ, 1600, .inr (.inl fH)))], [(qs 9, .inl (cI, 144, .inl (fl (sI hd))))], [(qs 18, .inl (cI, 144, .inl (fl (bm_up2 MK x y (nI (vw0 T1.2.2 hd r x y))))))], [(qs 19, .inl (cI, 144, .inl (fl MF)))]]) H := hP
          have hD : va_D A (List.flatten [[rf_o h qs cd ma mn ca cn na nn pk dv ex lb lm], [(qs 6, .inl (cJ, 1600, .inr (.inl fL)))], [(qs 7, .inl (cJ, 1600, .inr (.inl fH)))], [(qs 9, .inl (cI, 144, .inl (fl (sI hd))))], [(qs 18, .inl (cI, 144, .inl (fl (bm_up2 MK x y (nI (vw0 T1.2.2 hd r x y))))))], [(qs 19, .inl (cI, 144, .inl (fl MF)))]]) := hD
          refine lv_aload_n hx hb d_Ref_view_88 rfl (lv_at hl 5 rfl) ?_
          refine va_get (D := D) (ci := 9) (v := .ref (qs 19)) (C := R_Ref) (T := T_Ref) (N := 32) hx hb ht in_Ref hown hK hP 0 rfl rfl 31 (by decide) (ht _ kl_Ref_69) (fun _ h9 => h9) rfl d_Ref_view_89 ?_
          refine lv_bipush (v := nI 12) hx hb d_Ref_view_92 (by decide) ?_
          refine lv_iload_n hx hb d_Ref_view_94 rfl (lv_at hl 4 rfl) ?_
          refine ri_imul hx hb d_Ref_view_95 ?_
          refine lv_iload_n hx hb d_Ref_view_96 rfl (lv_at hl 3 rfl) ?_
          refine ri_iadd hx hb d_Ref_view_97 ?_
          refine lv_iload_n hx hb d_Ref_view_98 rfl (lv_at hl 4 rfl) ?_
          refine lv_iload_n hx hb d_Ref_view_99 rfl (lv_at hl 3 rfl) ?_
          refine ri_icmp_ne hx hb (by omega) (by omega) d_Ref_view_100 (tgt := 107) (by decide) (fun h100 => ?_) (fun h100 => ?_)
          · refine lv_iload hx hb d_Ref_view_107 (lv_at hl 0 rfl) ?_
            refine ri_if_le hx hb (by omega) d_Ref_view_109 (tgt := 117) (by decide) (fun h109 => ?_) (fun h109 => ?_)
            · refine lv_ldc (v := nI 1000000) hx hb hown (ht _ kl_Ref_135) d_Ref_view_117 ?_
              refine W.eq (g2 := F0 m 119 ls [.int (nI (bn_f0 (vw0 T1.2.2 hd r) x y)), .int (nI ((12 * x) + y)), .ref (qs 19)]) (congrArg (fun z => F0 m 119 ls (.int z :: [.int (nI ((12 * x) + y)), .ref (qs 19)])) (congrArg nI (by first | exact f0_d h100 | exact f0_w h100 h109 | exact f0_n h100 (by omega)))) ?_
              refine ri_iast hx hb hK hP hD hS 5 0 rfl rfl (j := (12 * x) + y) (by omega) (by omega) d_Ref_view_119 (fun H locs hP hD hS => ?_)
              rw [fl_up (a := x) (b := y) (show y < 12 by omega)] at hP hD
              have hP : va_P D kls (List.flatten [[rf_o h qs cd ma mn ca cn na nn pk dv ex lb lm], [(qs 6, .inl (cJ, 1600, .inr (.inl fL)))], [(qs 7, .inl (cJ, 1600, .inr (.inl fH)))], [(qs 9, .inl (cI, 144, .inl (fl (sI hd))))], [(qs 18, .inl (cI, 144, .inl (fl (bm_up2 MK x y (nI (vw0 T1.2.2 hd r x y))))))], [(qs 19, .inl (cI, 144, .inl (fl (bm_up2 MF x y (nI (bn_f0 (vw0 T1.2.2 hd r) x y))))))]]) H := hP
              have hD : va_D A (List.flatten [[rf_o h qs cd ma mn ca cn na nn pk dv ex lb lm], [(qs 6, .inl (cJ, 1600, .inr (.inl fL)))], [(qs 7, .inl (cJ, 1600, .inr (.inl fH)))], [(qs 9, .inl (cI, 144, .inl (fl (sI hd))))], [(qs 18, .inl (cI, 144, .inl (fl (bm_up2 MK x y (nI (vw0 T1.2.2 hd r x y))))))], [(qs 19, .inl (cI, 144, .inl (fl (bm_up2 MF x y (nI (bn_f0 (vw0 T1.2.2 hd r) x y))))))]]) := hD
              refine ri_iinc hx hb d_Ref_view_120 hl (k := 3) rfl (by decide) rfl (fun ls hl => ?_)
              have hl : lv_has ls 7 [(3, .int (nI (y + 1))), (6, .int (nI (vw0 T1.2.2 hd r x y))), (5, .int (sI hd r y)), (4, .int (sI hd r x)), (2, .int (nI x)), (0, .ref h), (1, .int (nI r))] := hl
              refine lv_goto hx hb d_Ref_view_123 (tgt := 10) (by decide) ?_
              refine ih (y + 1) _ _ H locs ls (by omega) (fun a b ha hb9 => ?_) (fun b hb9 => ?_) hP hD hS (lv_sub hl [0, 4, 5, 6] rfl)
              · show (if _ then _ else _) = _ ∧ (if _ then _ else _) = _
                rw [if_neg (by omega), if_neg (by omega)]
                exact hs1 a b ha hb9
              · show (if _ then _ else _) = _ ∧ (if _ then _ else _) = _
                by_cases e : b = y
                · subst e
                  rw [if_pos ⟨rfl, rfl⟩, if_pos ⟨rfl, rfl⟩]
                  exact ⟨rfl, rfl⟩
                · rw [if_neg (fun z => e z.2), if_neg (fun z => e z.2)]
                  exact hs2 b (by omega)
            · refine lv_iload hx hb d_Ref_view_112 (lv_at hl 0 rfl) ?_
              refine lv_goto hx hb d_Ref_view_114 (tgt := 119) (by decide) ?_
              refine W.eq (g2 := F0 m 119 ls [.int (nI (bn_f0 (vw0 T1.2.2 hd r) x y)), .int (nI ((12 * x) + y)), .ref (qs 19)]) (congrArg (fun z => F0 m 119 ls (.int z :: [.int (nI ((12 * x) + y)), .ref (qs 19)])) (congrArg nI (by first | exact f0_d h100 | exact f0_w h100 h109 | exact f0_n h100 (by omega)))) ?_
              refine ri_iast hx hb hK hP hD hS 5 0 rfl rfl (j := (12 * x) + y) (by omega) (by omega) d_Ref_view_119 (fun H locs hP hD hS => ?_)
              rw [fl_up (a := x) (b := y) (show y < 12 by omega)] at hP hD
              have hP : va_P D kls (List.flatten [[rf_o h qs cd ma mn ca cn na nn pk dv ex lb lm], [(qs 6, .inl (cJ, 1600, .inr (.inl fL)))], [(qs 7, .inl (cJ, 1600, .inr (.inl fH)))], [(qs 9, .inl (cI, 144, .inl (fl (sI hd))))], [(qs 18, .inl (cI, 144, .inl (fl (bm_up2 MK x y (nI (vw0 T1.2.2 hd r x y))))))], [(qs 19, .inl (cI, 144, .inl (fl (bm_up2 MF x y (nI (bn_f0 (vw0 T1.2.2 hd r) x y))))))]]) H := hP
              have hD : va_D A (List.flatten [[rf_o h qs cd ma mn ca cn na nn pk dv ex lb lm], [(qs 6, .inl (cJ, 1600, .inr (.inl fL)))], [(qs 7, .inl (cJ, 1600, .inr (.inl fH)))], [(qs 9, .inl (cI, 144, .inl (fl (sI hd))))], [(qs 18, .inl (cI, 144, .inl (fl (bm_up2 MK x y (nI (vw0 T1.2.2 hd r x y))))))], [(qs 19, .inl (cI, 144, .inl (fl (bm_up2 MF x y (nI (bn_f0 (vw0 T1.2.2 hd r) x y))))))]]) := hD
              refine ri_iinc hx hb d_Ref_view_120 hl (k := 3) rfl (by decide) rfl (fun ls hl => ?_)
              have hl : lv_has ls 7 [(3, .int (nI (y + 1))), (6, .int (nI (vw0 T1.2.2 hd r x y))), (5, .int (sI hd r y)), (4, .int (sI hd r x)), (2, .int (nI x)), (0, .ref h), (1, .int (nI r))] := hl
              refine lv_goto hx hb d_Ref_view_123 (tgt := 10) (by decide) ?_
              refine ih (y + 1) _ _ H locs ls (by omega) (fun a b ha hb9 => ?_) (fun b hb9 => ?_) hP hD hS (lv_sub hl [0, 4, 5, 6] rfl)
              · show (if _ then _ else _) = _ ∧ (if _ then _ else _) = _
                rw [if_neg (by omega), if_neg (by omega)]
                exact hs1 a b ha hb9
              · show (if _ then _ else _) = _ ∧ (if _ then _ else _) = _
                by_cases e : b = y
                · subst e
                  rw [if_pos ⟨rfl, rfl⟩, if_pos ⟨rfl, rfl⟩]
                  exact ⟨rfl, rfl⟩
                · rw [if_neg (fun z => e z.2), if_neg (fun z => e z.2)]
                  exact hs2 b (by omega)
          · refine lv_iconst (v := nI 0) hx hb d_Ref_view_103 (by decide) ?_
            refine lv_goto hx hb d_Ref_view_104 (tgt := 119) (by decide) ?_
            refine W.eq (g2 := F0 m 119 ls [.int (nI (bn_f0 (vw0 T1.2.2 hd r) x y)), .int (nI ((12 * x) + y)), .ref (qs 19)]) (congrArg (fun z => F0 m 119 ls (.int z :: [.int (nI ((12 * x) + y)), .ref (qs 19)])) (congrArg nI (by first | exact f0_d h100 | exact f0_w h100 h109 | exact f0_n h100 (by omega)))) ?_
            refine ri_iast hx hb hK hP hD hS 5 0 rfl rfl (j := (12 * x) + y) (by omega) (by omega) d_Ref_view_119 (fun H locs hP hD hS => ?_)
            rw [fl_up (a := x) (b := y) (show y < 12 by omega)] at hP hD
            have hP : va_P D kls (List.flatten [[rf_o h qs cd ma mn ca cn na nn pk dv ex lb lm], [(qs 6, .inl (cJ, 1600, .inr (.inl fL)))], [(qs 7, .inl (cJ, 1600, .inr (.inl fH)))], [(qs 9, .inl (cI, 144, .inl (fl (sI hd))))], [(qs 18, .inl (cI, 144, .inl (fl (bm_up2 MK x y (nI (vw0 T1.2.2 hd r x y))))))], [(qs 19, .inl (cI, 144, .inl (fl (bm_up2 MF x y (nI (bn_f0 (vw0 T1.2.2 hd r) x y))))))]]) H := hP
            have hD : va_D A (List.flatten [[rf_o h qs cd ma mn ca cn na nn pk dv ex lb lm], [(qs 6, .inl (cJ, 1600, .inr (.inl fL)))], [(qs 7, .inl (cJ, 1600, .inr (.inl fH)))], [(qs 9, .inl (cI, 144, .inl (fl (sI hd))))], [(qs 18, .inl (cI, 144, .inl (fl (bm_up2 MK x y (nI (vw0 T1.2.2 hd r x y))))))], [(qs 19, .inl (cI, 144, .inl (fl (bm_up2 MF x y (nI (bn_f0 (vw0 T1.2.2 hd r) x y))))))]]) := hD
            refine ri_iinc hx hb d_Ref_view_120 hl (k := 3) rfl (by decide) rfl (fun ls hl => ?_)
            have hl : lv_has ls 7 [(3, .int (nI (y + 1))), (6, .int (nI (vw0 T1.2.2 hd r x y))), (5, .int (sI hd r y)), (4, .int (sI hd r x)), (2, .int (nI x)), (0, .ref h), (1, .int (nI r))] := hl
            refine lv_goto hx hb d_Ref_view_123 (tgt := 10) (by decide) ?_
            refine ih (y + 1) _ _ H locs ls (by omega) (fun a b ha hb9 => ?_) (fun b hb9 => ?_) hP hD hS (lv_sub hl [0, 4, 5, 6] rfl)
            · show (if _ then _ else _) = _ ∧ (if _ then _ else _) = _
              rw [if_neg (by omega), if_neg (by omega)]
              exact hs1 a b ha hb9
            · show (if _ then _ else _) = _ ∧ (if _ then _ else _) = _
              by_cases e : b = y
              · subst e
                rw [if_pos ⟨rfl, rfl⟩, if_pos ⟨rfl, rfl⟩]
                exact ⟨rfl, rfl⟩
              · rw [if_neg (fun z => e z.2), if_neg (fun z => e z.2)]
                exact hs2 b (by omega)
        · refine lv_iload hx hb d_Ref_view_47 (lv_at hl 0 rfl) ?_
          refine lv_if_lt hx hb d_Ref_view_49 (tgt := 62) (by decide) (fun h49 => ?_) (fun h49 => ?_)
          · refine lv_iconst (v := nI 0) hx hb d_Ref_view_62 (by decide) ?_
            refine lv_goto hx hb d_Ref_view_63 (tgt := 73) (by decide) ?_
            refine W.eq (g2 := F0 m 73 ls [.int (nI (vw0 T1.2.2 hd r x y))]) (congrArg (fun z => F0 m 73 ls (.int z :: [])) (congrArg nI (by first | exact vw_x0 hx12 hy12 h00 ((sI_lt (show hd r x < 2000 by omega)).mp h44) | exact vw_y0 hx12 hy12 h00 ((sI_lt (show hd r y < 2000 by omega)).mp h49) | exact vw_t0 hx12 hy12 h59 | exact vw_t hx12 hy12 h59))) ?_
            refine lv_istore hx hb d_Ref_view_73 hl (by decide) rfl (fun ls hl => ?_)
            have hl : lv_has ls 7 [(6, .int (nI (vw0 T1.2.2 hd r x y))), (5, .int (sI hd r y)), (4, .int (sI hd r x)), (3, .int (nI y)), (2, .int (nI x)), (0, .ref h), (1, .int (nI r))] := hl
            refine lv_aload_n hx hb d_Ref_view_75 rfl (lv_at hl 5 rfl) ?_
            refine va_get (D := D) (ci := 9) (v := .ref (qs 18)) (C := R_Ref) (T := T_Ref) (N := 32) hx hb ht in_Ref hown hK hP 0 rfl rfl 30 (by decide) (ht _ kl_Ref_66) (fun _ h9 => h9) rfl d_Ref_view_76 ?_
            refine lv_bipush (v := nI 12) hx hb d_Ref_view_79 (by decide) ?_
            refine lv_iload_n hx hb d_Ref_view_81 rfl (lv_at hl 4 rfl) ?_
            refine ri_imul hx hb d_Ref_view_82 ?_
            refine lv_iload_n hx hb d_Ref_view_83 rfl (lv_at hl 3 rfl) ?_
            refine ri_iadd hx hb d_Ref_view_84 ?_
            refine lv_iload hx hb d_Ref_view_85 (lv_at hl 0 rfl) ?_
            refine ri_iast hx hb hK hP hD hS 4 0 rfl rfl (j := (12 * x) + y) (by omega) (by omega) d_Ref_view_87 (fun H locs hP hD hS => ?_)
            rw [fl_up (a := x) (b := y) (show y < 12 by omega)] at hP hD
            have hP : va_P D kls (List.flatten [[rf_o h qs cd ma mn ca cn na nn pk dv ex lb lm], [(qs 6, .inl (cJ, 1600, .inr (.inl fL)))], [(qs 7, .inl (cJ, 1600, .inr (.inl fH)))], [(qs 9, .inl (cI, 144, .inl (fl (sI hd))))], [(qs 18, .inl (cI, 144, .inl (fl (bm_up2 MK x y (nI (vw0 T1.2.2 hd r x y))))))], [(qs 19, .inl (cI, 144, .inl (fl MF)))]]) H := hP
            have hD : va_D A (List.flatten [[rf_o h qs cd ma mn ca cn na nn pk dv ex lb lm], [(qs 6, .inl (cJ, 1600, .inr (.inl fL)))], [(qs 7, .inl (cJ, 1600, .inr (.inl fH)))], [(qs 9, .inl (cI, 144, .inl (fl (sI hd))))], [(qs 18, .inl (cI, 144, .inl (fl (bm_up2 MK x y (nI (vw0 T1.2.2 hd r x y))))))], [(qs 19, .inl (cI, 144, .inl (fl MF)))]]) := hD
            refine lv_aload_n hx hb d_Ref_view_88 rfl (lv_at hl 5 rfl) ?_
            refine va_get (D := D) (ci := 9) (v := .ref (qs 19)) (C := R_Ref) (T := T_Ref) (N := 32) hx hb ht in_Ref hown hK hP 0 rfl rfl 31 (by decide) (ht _ kl_Ref_69) (fun _ h9 => h9) rfl d_Ref_view_89 ?_
            refine lv_bipush (v := nI 12) hx hb d_Ref_view_92 (by decide) ?_
            refine lv_iload_n hx hb d_Ref_view_94 rfl (lv_at hl 4 rfl) ?_
            refine ri_imul hx hb d_Ref_view_95 ?_
            refine lv_iload_n hx hb d_Ref_view_96 rfl (lv_at hl 3 rfl) ?_
            refine ri_iadd hx hb d_Ref_view_97 ?_
            refine lv_iload_n hx hb d_Ref_view_98 rfl (lv_at hl 4 rfl) ?_
            refine lv_iload_n hx hb d_Ref_view_99 rfl (lv_at hl 3 rfl) ?_
            refine ri_icmp_ne hx hb (by omega) (by omega) d_Ref_view_100 (tgt := 107) (by decide) (fun h100 => ?_) (fun h100 => ?_)
            · refine lv_iload hx hb d_Ref_view_107 (lv_at hl 0 rfl) ?_
              refine ri_if_le hx hb (by omega) d_Ref_view_109 (tgt := 117) (by decide) (fun h109 => ?_) (fun h109 => ?_)
              · refine lv_ldc (v := nI 1000000) hx hb hown (ht _ kl_Ref_135) d_Ref_view_117 ?_
                refine W.eq (g2 := F0 m 119 ls [.int (nI (bn_f0 (vw0 T1.2.2 hd r) x y)), .int (nI ((12 * x) + y)), .ref (qs 19)]) (congrArg (fun z => F0 m 119 ls (.int z :: [.int (nI ((12 * x) + y)), .ref (qs 19)])) (congrArg nI (by first | exact f0_d h100 | exact f0_w h100 h109 | exact f0_n h100 (by omega)))) ?_
                refine ri_iast hx hb hK hP hD hS 5 0 rfl rfl (j := (12 * x) + y) (by omega) (by omega) d_Ref_view_119 (fun H locs hP hD hS => ?_)
                rw [fl_up (a := x) (b := y) (show y < 12 by omega)] at hP hD
                have hP : va_P D kls (List.flatten [[rf_o h qs cd ma mn ca cn na nn pk dv ex lb lm], [(qs 6, .inl (cJ, 1600, .inr (.inl fL)))], [(qs 7, .inl (cJ, 1600, .inr (.inl fH)))], [(qs 9, .inl (cI, 144, .inl (fl (sI hd))))], [(qs 18, .inl (cI, 144, .inl (fl (bm_up2 MK x y (nI (vw0 T1.2.2 hd r x y))))))], [(qs 19, .inl (cI, 144, .inl (fl (bm_up2 MF x y (nI (bn_f0 (vw0 T1.2.2 hd r) x y))))))]]) H := hP
                have hD : va_D A (List.flatten [[rf_o h qs cd ma mn ca cn na nn pk dv ex lb lm], [(qs 6, .inl (cJ, 1600, .inr (.inl fL)))], [(qs 7, .inl (cJ, 1600, .inr (.inl fH)))], [(qs 9, .inl (cI, 144, .inl (fl (sI hd))))], [(qs 18, .inl (cI, 144, .inl (fl (bm_up2 MK x y (nI (vw0 T1.2.2 hd r x y))))))], [(qs 19, .inl (cI, 144, .inl (fl (bm_up2 MF x y (nI (bn_f0 (vw0 T1.2.2 hd r) x y))))))]]) := hD
                refine ri_iinc hx hb d_Ref_view_120 hl (k := 3) rfl (by decide) rfl (fun ls hl => ?_)
                have hl : lv_has ls 7 [(3, .int (nI (y + 1))), (6, .int (nI (vw0 T1.2.2 hd r x y))), (5, .int (sI hd r y)), (4, .int (sI hd r x)), (2, .int (nI x)), (0, .ref h), (1, .int (nI r))] := hl
                refine lv_goto hx hb d_Ref_view_123 (tgt := 10) (by decide) ?_
                refine ih (y + 1) _ _ H locs ls (by omega) (fun a b ha hb9 => ?_) (fun b hb9 => ?_) hP hD hS (lv_sub hl [0, 4, 5, 6] rfl)
                · show (if _ then _ else _) = _ ∧ (if _ then _ else _) = _
                  rw [if_neg (by omega), if_neg (by omega)]
                  exact hs1 a b ha hb9
                · show (if _ then _ else _) = _ ∧ (if _ then _ else _) = _
                  by_cases e : b = y
                  · subst e
                    rw [if_pos ⟨rfl, rfl⟩, if_pos ⟨rfl, rfl⟩]
                    exact ⟨rfl, rfl⟩
                  · rw [if_neg (fun z => e z.2), if_neg (fun z => e z.2)]
                    exact hs2 b (by omega)
              · refine lv_iload hx hb d_Ref_view_112 (lv_at hl 0 rfl) ?_
                refine lv_goto hx hb d_Ref_view_114 (tgt := 119) (by decide) ?_
                refine W.eq (g2 := F0 m 119 ls [.int (nI (bn_f0 (vw0 T1.2.2 hd r) x y)), .int (nI ((12 * x) + y)), .ref (qs 19)]) (congrArg (fun z => F0 m 119 ls (.int z :: [.int (nI ((12 * x) + y)), .ref (qs 19)])) (congrArg nI (by first | exact f0_d h100 | exact f0_w h100 h109 | exact f0_n h100 (by omega)))) ?_
                refine ri_iast hx hb hK hP hD hS 5 0 rfl rfl (j := (12 * x) + y) (by omega) (by omega) d_Ref_view_119 (fun H locs hP hD hS => ?_)
                rw [fl_up (a := x) (b := y) (show y < 12 by omega)] at hP hD
                have hP : va_P D kls (List.flatten [[rf_o h qs cd ma mn ca cn na nn pk dv ex lb lm], [(qs 6, .inl (cJ, 1600, .inr (.inl fL)))], [(qs 7, .inl (cJ, 1600, .inr (.inl fH)))], [(qs 9, .inl (cI, 144, .inl (fl (sI hd))))], [(qs 18, .inl (cI, 144, .inl (fl (bm_up2 MK x y (nI (vw0 T1.2.2 hd r x y))))))], [(qs 19, .inl (cI, 144, .inl (fl (bm_up2 MF x y (nI (bn_f0 (vw0 T1.2.2 hd r) x y))))))]]) H := hP
                have hD : va_D A (List.flatten [[rf_o h qs cd ma mn ca cn na nn pk dv ex lb lm], [(qs 6, .inl (cJ, 1600, .inr (.inl fL)))], [(qs 7, .inl (cJ, 1600, .inr (.inl fH)))], [(qs 9, .inl (cI, 144, .inl (fl (sI hd))))], [(qs 18, .inl (cI, 144, .inl (fl (bm_up2 MK x y (nI (vw0 T1.2.2 hd r x y))))))], [(qs 19, .inl (cI, 144, .inl (fl (bm_up2 MF x y (nI (bn_f0 (vw0 T1.2.2 hd r) x y))))))]]) := hD
                refine ri_iinc hx hb d_Ref_view_120 hl (k := 3) rfl (by decide) rfl (fun ls hl => ?_)
                have hl : lv_has ls 7 [(3, .int (nI (y + 1))), (6, .int (nI (vw0 T1.2.2 hd r x y))), (5, .int (sI hd r y)), (4, .int (sI hd r x)), (2, .int (nI x)), (0, .ref h), (1, .int (nI r))] := hl
                refine lv_goto hx hb d_Ref_view_123 (tgt := 10) (by decide) ?_
                refine ih (y + 1) _ _ H locs ls (by omega) (fun a b ha hb9 => ?_) (fun b hb9 => ?_) hP hD hS (lv_sub hl [0, 4, 5, 6] rfl)
                · show (if _ then _ else _) = _ ∧ (if _ then _ else _) = _
                  rw [if_neg (by omega), if_neg (by omega)]
                  exact hs1 a b ha hb9
                · show (if _ then _ else _) = _ ∧ (if _ then _ else _) = _
                  by_cases e : b = y
                  · subst e
                    rw [if_pos ⟨rfl, rfl⟩, if_pos ⟨rfl, rfl⟩]
                    exact ⟨rfl, rfl⟩
                  · rw [if_neg (fun z => e z.2), if_neg (fun z => e z.2)]
                    exact hs2 b (by omega)
            · refine lv_iconst (v := nI 0) hx hb d_Ref_view_103 (by decide) ?_
              refine lv_goto hx hb d_Ref_view_104 (tgt := 119) (by decide) ?_
              refine W.eq (g2 := F0 m 119 ls [.int (nI (bn_f0 (vw0 T1.2.2 hd r) x y)), .int (nI ((12 * x) + y)), .ref (qs 19)]) (congrArg (fun z => F0 m 119 ls (.int z :: [.int (nI ((12 * x) + y)), .ref (qs 19)])) (congrArg nI (by first | exact f0_d h100 | exact f0_w h100 h109 | exact f0_n h100 (by omega)))) ?_
              refine ri_iast hx hb hK hP hD hS 5 0 rfl rfl (j := (12 * x) + y) (by omega) (by omega) d_Ref_view_119 (fun H locs hP hD hS => ?_)
              rw [fl_up (a := x) (b := y) (show y < 12 by omega)] at hP hD
              have hP : va_P D kls (List.flatten [[rf_o h qs cd ma mn ca cn na nn pk dv ex lb lm], [(qs 6, .inl (cJ, 1600, .inr (.inl fL)))], [(qs 7, .inl (cJ, 1600, .inr (.inl fH)))], [(qs 9, .inl (cI, 144, .inl (fl (sI hd))))], [(qs 18, .inl (cI, 144, .inl (fl (bm_up2 MK x y (nI (vw0 T1.2.2 hd r x y))))))], [(qs 19, .inl (cI, 144, .inl (fl (bm_up2 MF x y (nI (bn_f0 (vw0 T1.2.2 hd r) x y))))))]]) H := hP
              have hD : va_D A (List.flatten [[rf_o h qs cd ma mn ca cn na nn pk dv ex lb lm], [(qs 6, .inl (cJ, 1600, .inr (.inl fL)))], [(qs 7, .inl (cJ, 1600, .inr (.inl fH)))], [(qs 9, .inl (cI, 144, .inl (fl (sI hd))))], [(qs 18, .inl (cI, 144, .inl (fl (bm_up2 MK x y (nI (vw0 T1.2.2 hd r x y))))))], [(qs 19, .inl (cI, 144, .inl (fl (bm_up2 MF x y (nI (bn_f0 (vw0 T1.2.2 hd r) x y))))))]]) := hD
              refine ri_iinc hx hb d_Ref_view_120 hl (k := 3) rfl (by decide) rfl (fun ls hl => ?_)
              have hl : lv_has ls 7 [(3, .int (nI (y + 1))), (6, .int (nI (vw0 T1.2.2 hd r x y))), (5, .int (sI hd r y)), (4, .int (sI hd r x)), (2, .int (nI x)), (0, .ref h), (1, .int (nI r))] := hl
              refine lv_goto hx hb d_Ref_view_123 (tgt := 10) (by decide) ?_
              refine ih (y + 1) _ _ H locs ls (by omega) (fun a b ha hb9 => ?_) (fun b hb9 => ?_) hP hD hS (lv_sub hl [0, 4, 5, 6] rfl)
              · show (if _ then _ else _) = _ ∧ (if _ then _ else _) = _
                rw [if_neg (by omega), if_neg (by omega)]
                exact hs1 a b ha hb9
              · show (if _ then _ else _) = _ ∧ (if _ then _ else _) = _
                by_cases e : b = y
                · subst e
                  rw [if_pos ⟨rfl, rfl⟩, if_pos ⟨rfl, rfl⟩]
                  exact ⟨rfl, rfl⟩
                · rw [if_neg (fun z => e z.2), if_neg (fun z => e z.2)]
                  exact hs2 b (by omega)
          · refine lv_aload_n hx hb d_Ref_view_52 rfl (lv_at hl 4 rfl) ?_
            refine lv_iload hx hb d_Ref_view_53 (lv_at hl 0 rfl) ?_
            have hnx : hd r x ≠ 0 := fun z => h44 ((sI_lt (show hd r x < 2000 by omega)).mpr z)
            have hny : hd r y ≠ 0 := fun z => h49 ((sI_lt (show hd r y < 2000 by omega)).mpr z)
            have hb1 := hA1 (hd r y) x hhy (by omega)
            refine W.eq (g2 := F0 m 55 ls [.int (nI (hd r y - 1)), .ref h]) (congrArg (fun z => F0 m 55 ls (.int z :: [.ref h])) (sI_at hny)) ?_
            refine lv_iload_n hx hb d_Ref_view_55 rfl (lv_at hl 3 rfl) ?_
            refine ct_rdV (C := R_Ref) (ci := 9) (As := [.int (nI (hd r y - 1)), .int (nI x)]) (rest := []) ⟨hx, hb, hml, hown, ht⟩ (k_Ref_told l D cI cZ cJ cG (fun j => T1.2.2 (hd r y) (2 + j)) (fun j hj => Nat.lt_of_le_of_lt (hA1 (hd r y) j (hh y (by omega)) hj) (by decide)) (hd r y - 1) x (by omega) (by omega) (hLd y (by omega) hny).1 (hLd y (by omega) hny).2) (cb_V ht kc_Ref_told kl_Ref_132 kn_Ref ki_Ref_told ks_Ref_told hd_Ref_told ⟨Nat.le_of_ble_eq_true rfl, Nat.le_of_ble_eq_true rfl⟩) (List.mem_of_getElem? (i := 0) rfl) rfl rfl (wd_ct (Bs := [[rf_o h qs cd ma mn ca cn na nn pk dv ex lb lm], [(qs 6, .inl (cJ, 1600, .inr (.inl fL)))], [(qs 7, .inl (cJ, 1600, .inr (.inl fH)))], [(qs 9, .inl (cI, 144, .inl (fl (sI hd))))], [(qs 18, .inl (cI, 144, .inl (fl MK)))], [(qs 19, .inl (cI, 144, .inl (fl MF)))]]) 6 rfl [0, 1, 2] [3, 4, 5] (by decide) rfl) hK hP hD hS hA rfl hl.1 rfl (Nat.le_of_ble_eq_true rfl) ⟨(show 0 + 0 ≤ 0 by omega), (show 0 + 0 ≤ 0 by omega)⟩ d_Ref_view_56 (fun rhr116 H locs hr116 hP hD hS => ?_)
            subst hr116
            refine W.eq (g2 := F0 m 59 ls [.int (nI (T1.2.2 (hd r y) (2 + x)))]) rfl ?_
            refine ri_if_ne hx hb (by omega) d_Ref_view_59 (tgt := 66) (by decide) (fun h59 => ?_) (fun h59 => ?_)
            · refine lv_aload_n hx hb d_Ref_view_66 rfl (lv_at hl 4 rfl) ?_
              refine lv_iload hx hb d_Ref_view_67 (lv_at hl 1 rfl) ?_
              refine W.eq (g2 := F0 m 69 ls [.int (nI (hd r x - 1)), .ref h]) (congrArg (fun z => F0 m 69 ls (.int z :: [.ref h])) (sI_at hnx)) ?_
              refine lv_iload_n hx hb d_Ref_view_69 rfl (lv_at hl 2 rfl) ?_
              refine ct_rdV (C := R_Ref) (ci := 9) (As := [.int (nI (hd r x - 1)), .int (nI y)]) (rest := []) ⟨hx, hb, hml, hown, ht⟩ (k_Ref_told l D cI cZ cJ cG (fun j => T1.2.2 (hd r x) (2 + j)) (fun j hj => Nat.lt_of_le_of_lt (hA1 (hd r x) j (hh x (by omega)) hj) (by decide)) (hd r x - 1) y (by omega) (by omega) (hLd x (by omega) hnx).1 (hLd x (by omega) hnx).2) (cb_V ht kc_Ref_told kl_Ref_132 kn_Ref ki_Ref_told ks_Ref_told hd_Ref_told ⟨Nat.le_of_ble_eq_true rfl, Nat.le_of_ble_eq_true rfl⟩) (List.mem_of_getElem? (i := 0) rfl) rfl rfl (wd_ct (Bs := [[rf_o h qs cd ma mn ca cn na nn pk dv ex lb lm], [(qs 6, .inl (cJ, 1600, .inr (.inl fL)))], [(qs 7, .inl (cJ, 1600, .inr (.inl fH)))], [(qs 9, .inl (cI, 144, .inl (fl (sI hd))))], [(qs 18, .inl (cI, 144, .inl (fl MK)))], [(qs 19, .inl (cI, 144, .inl (fl MF)))]]) 6 rfl [0, 1, 2] [3, 4, 5] (by decide) rfl) hK hP hD hS hA rfl hl.1 rfl (Nat.le_of_ble_eq_true rfl) ⟨(show 0 + 0 ≤ 0 by omega), (show 0 + 0 ≤ 0 by omega)⟩ d_Ref_view_70 (fun rhr118 H locs hr118 hP hD hS => ?_)
              subst hr118
              refine W.eq (g2 := F0 m 73 ls [.int (nI (T1.2.2 (hd r x) (2 + y)))]) rfl ?_
              refine W.eq (g2 := F0 m 73 ls [.int (nI (vw0 T1.2.2 hd r x y))]) (congrArg (fun z => F0 m 73 ls (.int z :: [])) (congrArg nI (by first | exact vw_x0 hx12 hy12 h00 ((sI_lt (show hd r x < 2000 by omega)).mp h44) | exact vw_y0 hx12 hy12 h00 ((sI_lt (show hd r y < 2000 by omega)).mp h49) | exact vw_t0 hx12 hy12 h59 | exact vw_t hx12 hy12 h59))) ?_
              refine lv_istore hx hb d_Ref_view_73 hl (by decide) rfl (fun ls hl => ?_)
              have hl : lv_has ls 7 [(6, .int (nI (vw0 T1.2.2 hd r x y))), (5, .int (sI hd r y)), (4, .int (sI hd r x)), (3, .int (nI y)), (2, .int (nI x)), (0, .ref h), (1, .int (nI r))] := hl
              refine lv_aload_n hx hb d_Ref_view_75 rfl (lv_at hl 5 rfl) ?_
              refine va_get (D := D) (ci := 9) (v := .ref (qs 18)) (C := R_Ref) (T := T_Ref) (N := 32) hx hb ht in_Ref hown hK hP 0 rfl rfl 30 (by decide) (ht _ kl_Ref_66) (fun _ h9 => h9) rfl d_Ref_view_76 ?_
              refine lv_bipush (v := nI 12) hx hb d_Ref_view_79 (by decide) ?_
              refine lv_iload_n hx hb d_Ref_view_81 rfl (lv_at hl 4 rfl) ?_
              refine ri_imul hx hb d_Ref_view_82 ?_
              refine lv_iload_n hx hb d_Ref_view_83 rfl (lv_at hl 3 rfl) ?_
              refine ri_iadd hx hb d_Ref_view_84 ?_
              refine lv_iload hx hb d_Ref_view_85 (lv_at hl 0 rfl) ?_
              refine ri_iast hx hb hK hP hD hS 4 0 rfl rfl (j := (12 * x) + y) (by omega) (by omega) d_Ref_view_87 (fun H locs hP hD hS => ?_)
              rw [fl_up (a := x) (b := y) (show y < 12 by omega)] at hP hD
              have hP : va_P D kls (List.flatten [[rf_o h qs cd ma mn ca cn na nn pk dv ex lb lm], [(qs 6, .inl (cJ, 1600, .inr (.inl fL)))], [(qs 7, .inl (cJ, 1600, .inr (.inl fH)))], [(qs 9, .inl (cI, 144, .inl (fl (sI hd))))], [(qs 18, .inl (cI, 144, .inl (fl (bm_up2 MK x y (nI (vw0 T1.2.2 hd r x y))))))], [(qs 19, .inl (cI, 144, .inl (fl MF)))]]) H := hP
              have hD : va_D A (List.flatten [[rf_o h qs cd ma mn ca cn na nn pk dv ex lb lm], [(qs 6, .inl (cJ, 1600, .inr (.inl fL)))], [(qs 7, .inl (cJ, 1600, .inr (.inl fH)))], [(qs 9, .inl (cI, 144, .inl (fl (sI hd))))], [(qs 18, .inl (cI, 144, .inl (fl (bm_up2 MK x y (nI (vw0 T1.2.2 hd r x y))))))], [(qs 19, .inl (cI, 144, .inl (fl MF)))]]) := hD
              refine lv_aload_n hx hb d_Ref_view_88 rfl (lv_at hl 5 rfl) ?_
              refine va_get (D := D) (ci := 9) (v := .ref (qs 19)) (C := R_Ref) (T := T_Ref) (N := 32) hx hb ht in_Ref hown hK hP 0 rfl rfl 31 (by decide) (ht _ kl_Ref_69) (fun _ h9 => h9) rfl d_Ref_view_89 ?_
              refine lv_bipush (v := nI 12) hx hb d_Ref_view_92 (by decide) ?_
              refine lv_iload_n hx hb d_Ref_view_94 rfl (lv_at hl 4 rfl) ?_
              refine ri_imul hx hb d_Ref_view_95 ?_
              refine lv_iload_n hx hb d_Ref_view_96 rfl (lv_at hl 3 rfl) ?_
              refine ri_iadd hx hb d_Ref_view_97 ?_
              refine lv_iload_n hx hb d_Ref_view_98 rfl (lv_at hl 4 rfl) ?_
              refine lv_iload_n hx hb d_Ref_view_99 rfl (lv_at hl 3 rfl) ?_
              refine ri_icmp_ne hx hb (by omega) (by omega) d_Ref_view_100 (tgt := 107) (by decide) (fun h100 => ?_) (fun h100 => ?_)
              · refine lv_iload hx hb d_Ref_view_107 (lv_at hl 0 rfl) ?_
                refine ri_if_le hx hb (by omega) d_Ref_view_109 (tgt := 117) (by decide) (fun h109 => ?_) (fun h109 => ?_)
                · refine lv_ldc (v := nI 1000000) hx hb hown (ht _ kl_Ref_135) d_Ref_view_117 ?_
                  refine W.eq (g2 := F0 m 119 ls [.int (nI (bn_f0 (vw0 T1.2.2 hd r) x y)), .int (nI ((12 * x) + y)), .ref (qs 19)]) (congrArg (fun z => F0 m 119 ls (.int z :: [.int (nI ((12 * x) + y)), .ref (qs 19)])) (congrArg nI (by first | exact f0_d h100 | exact f0_w h100 h109 | exact f0_n h100 (by omega)))) ?_
                  refine ri_iast hx hb hK hP hD hS 5 0 rfl rfl (j := (12 * x) + y) (by omega) (by omega) d_Ref_view_119 (fun H locs hP hD hS => ?_)
                  rw [fl_up (a := x) (b := y) (show y < 12 by omega)] at hP hD
                  have hP : va_P D kls (List.flatten [[rf_o h qs cd ma mn ca cn na nn pk dv ex lb lm], [(qs 6, .inl (cJ, 1600, .inr (.inl fL)))], [(qs 7, .inl (cJ, 1600, .inr (.inl fH)))], [(qs 9, .inl (cI, 144, .inl (fl (sI hd))))], [(qs 18, .inl (cI, 144, .inl (fl (bm_up2 MK x y (nI (vw0 T1.2.2 hd r x y))))))], [(qs 19, .inl (cI, 144, .inl (fl (bm_up2 MF x y (nI (bn_f0 (vw0 T1.2.2 hd r) x y))))))]]) H := hP
                  have hD : va_D A (List.flatten [[rf_o h qs cd ma mn ca cn na nn pk dv ex lb lm], [(qs 6, .inl (cJ, 1600, .inr (.inl fL)))], [(qs 7, .inl (cJ, 1600, .inr (.inl fH)))], [(qs 9, .inl (cI, 144, .inl (fl (sI hd))))], [(qs 18, .inl (cI, 144, .inl (fl (bm_up2 MK x y (nI (vw0 T1.2.2 hd r x y))))))], [(qs 19, .inl (cI, 144, .inl (fl (bm_up2 MF x y (nI (bn_f0 (vw0 T1.2.2 hd r) x y))))))]]) := hD
                  refine ri_iinc hx hb d_Ref_view_120 hl (k := 3) rfl (by decide) rfl (fun ls hl => ?_)
                  have hl : lv_has ls 7 [(3, .int (nI (y + 1))), (6, .int (nI (vw0 T1.2.2 hd r x y))), (5, .int (sI hd r y)), (4, .int (sI hd r x)), (2, .int (nI x)), (0, .ref h), (1, .int (nI r))] := hl
                  refine lv_goto hx hb d_Ref_view_123 (tgt := 10) (by decide) ?_
                  refine ih (y + 1) _ _ H locs ls (by omega) (fun a b ha hb9 => ?_) (fun b hb9 => ?_) hP hD hS (lv_sub hl [0, 4, 5, 6] rfl)
                  · show (if _ then _ else _) = _ ∧ (if _ then _ else _) = _
                    rw [if_neg (by omega), if_neg (by omega)]
                    exact hs1 a b ha hb9
                  · show (if _ then _ else _) = _ ∧ (if _ then _ else _) = _
                    by_cases e : b = y
                    · subst e
                      rw [if_pos ⟨rfl, rfl⟩, if_pos ⟨rfl, rfl⟩]
                      exact ⟨rfl, rfl⟩
                    · rw [if_neg (fun z => e z.2), if_neg (fun z => e z.2)]
                      exact hs2 b (by omega)
                · refine lv_iload hx hb d_Ref_view_112 (lv_at hl 0 rfl) ?_
                  refine lv_goto hx hb d_Ref_view_114 (tgt := 119) (by decide) ?_
                  refine W.eq (g2 := F0 m 119 ls [.int (nI (bn_f0 (vw0 T1.2.2 hd r) x y)), .int (nI ((12 * x) + y)), .ref (qs 19)]) (congrArg (fun z => F0 m 119 ls (.int z :: [.int (nI ((12 * x) + y)), .ref (qs 19)])) (congrArg nI (by first | exact f0_d h100 | exact f0_w h100 h109 | exact f0_n h100 (by omega)))) ?_
                  refine ri_iast hx hb hK hP hD hS 5 0 rfl rfl (j := (12 * x) + y) (by omega) (by omega) d_Ref_view_119 (fun H locs hP hD hS => ?_)
                  rw [fl_up (a := x) (b := y) (show y < 12 by omega)] at hP hD
                  have hP : va_P D kls (List.flatten [[rf_o h qs cd ma mn ca cn na nn pk dv ex lb lm], [(qs 6, .inl (cJ, 1600, .inr (.inl fL)))], [(qs 7, .inl (cJ, 1600, .inr (.inl fH)))], [(qs 9, .inl (cI, 144, .inl (fl (sI hd))))], [(qs 18, .inl (cI, 144, .inl (fl (bm_up2 MK x y (nI (vw0 T1.2.2 hd r x y))))))], [(qs 19, .inl (cI, 144, .inl (fl (bm_up2 MF x y (nI (bn_f0 (vw0 T1.2.2 hd r) x y))))))]]) H := hP
                  have hD : va_D A (List.flatten [[rf_o h qs cd ma mn ca cn na nn pk dv ex lb lm], [(qs 6, .inl (cJ, 1600, .inr (.inl fL)))], [(qs 7, .inl (cJ, 1600, .inr (.inl fH)))], [(qs 9, .inl (cI, 144, .inl (fl (sI hd))))], [(qs 18, .inl (cI, 144, .inl (fl (bm_up2 MK x y (nI (vw0 T1.2.2 hd r x y))))))], [(qs 19, .inl (cI, 144, .inl (fl (bm_up2 MF x y (nI (bn_f0 (vw0 T1.2.2 hd r) x y))))))]]) := hD
                  refine ri_iinc hx hb d_Ref_view_120 hl (k := 3) rfl (by decide) rfl (fun ls hl => ?_)
                  have hl : lv_has ls 7 [(3, .int (nI (y + 1))), (6, .int (nI (vw0 T1.2.2 hd r x y))), (5, .int (sI hd r y)), (4, .int (sI hd r x)), (2, .int (nI x)), (0, .ref h), (1, .int (nI r))] := hl
                  refine lv_goto hx hb d_Ref_view_123 (tgt := 10) (by decide) ?_
                  refine ih (y + 1) _ _ H locs ls (by omega) (fun a b ha hb9 => ?_) (fun b hb9 => ?_) hP hD hS (lv_sub hl [0, 4, 5, 6] rfl)
                  · show (if _ then _ else _) = _ ∧ (if _ then _ else _) = _
                    rw [if_neg (by omega), if_neg (by omega)]
                    exact hs1 a b ha hb9
                  · show (if _ then _ else _) = _ ∧ (if _ then _ else _) = _
                    by_cases e : b = y
                    · subst e
                      rw [if_pos ⟨rfl, rfl⟩, if_pos ⟨rfl, rfl⟩]
                      exact ⟨rfl, rfl⟩
                    · rw [if_neg (fun z => e z.2), if_neg (fun z => e z.2)]
                      exact hs2 b (by omega)
              · refine lv_iconst (v := nI 0) hx hb d_Ref_view_103 (by decide) ?_
                refine lv_goto hx hb d_Ref_view_104 (tgt := 119) (by decide) ?_
                refine W.eq (g2 := F0 m 119 ls [.int (nI (bn_f0 (vw0 T1.2.2 hd r) x y)), .int (nI ((12 * x) + y)), .ref (qs 19)]) (congrArg (fun z => F0 m 119 ls (.int z :: [.int (nI ((12 * x) + y)), .ref (qs 19)])) (congrArg nI (by first | exact f0_d h100 | exact f0_w h100 h109 | exact f0_n h100 (by omega)))) ?_
                refine ri_iast hx hb hK hP hD hS 5 0 rfl rfl (j := (12 * x) + y) (by omega) (by omega) d_Ref_view_119 (fun H locs hP hD hS => ?_)
                rw [fl_up (a := x) (b := y) (show y < 12 by omega)] at hP hD
                have hP : va_P D kls (List.flatten [[rf_o h qs cd ma mn ca cn na nn pk dv ex lb lm], [(qs 6, .inl (cJ, 1600, .inr (.inl fL)))], [(qs 7, .inl (cJ, 1600, .inr (.inl fH)))], [(qs 9, .inl (cI, 144, .inl (fl (sI hd))))], [(qs 18, .inl (cI, 144, .inl (fl (bm_up2 MK x y (nI (vw0 T1.2.2 hd r x y))))))], [(qs 19, .inl (cI, 144, .inl (fl (bm_up2 MF x y (nI (bn_f0 (vw0 T1.2.2 hd r) x y))))))]]) H := hP
                have hD : va_D A (List.flatten [[rf_o h qs cd ma mn ca cn na nn pk dv ex lb lm], [(qs 6, .inl (cJ, 1600, .inr (.inl fL)))], [(qs 7, .inl (cJ, 1600, .inr (.inl fH)))], [(qs 9, .inl (cI, 144, .inl (fl (sI hd))))], [(qs 18, .inl (cI, 144, .inl (fl (bm_up2 MK x y (nI (vw0 T1.2.2 hd r x y))))))], [(qs 19, .inl (cI, 144, .inl (fl (bm_up2 MF x y (nI (bn_f0 (vw0 T1.2.2 hd r) x y))))))]]) := hD
                refine ri_iinc hx hb d_Ref_view_120 hl (k := 3) rfl (by decide) rfl (fun ls hl => ?_)
                have hl : lv_has ls 7 [(3, .int (nI (y + 1))), (6, .int (nI (vw0 T1.2.2 hd r x y))), (5, .int (sI hd r y)), (4, .int (sI hd r x)), (2, .int (nI x)), (0, .ref h), (1, .int (nI r))] := hl
                refine lv_goto hx hb d_Ref_view_123 (tgt := 10) (by decide) ?_
                refine ih (y + 1) _ _ H locs ls (by omega) (fun a b ha hb9 => ?_) (fun b hb9 => ?_) hP hD hS (lv_sub hl [0, 4, 5, 6] rfl)
                · show (if _ then _ else _) = _ ∧ (if _ then _ else _) = _
                  rw [if_neg (by omega), if_neg (by omega)]
                  exact hs1 a b ha hb9
                · show (if _ then _ else _) = _ ∧ (if _ then _ else _) = _
                  by_cases e : b = y
                  · subst e
                    rw [if_pos ⟨rfl, rfl⟩, if_pos ⟨rfl, rfl⟩]
                    exact ⟨rfl, rfl⟩
                  · rw [if_neg (fun z => e z.2), if_neg (fun z => e z.2)]
                    exact hs2 b (by omega)
            · refine lv_iconst (v := nI 0) hx hb d_Ref_view_62 (by decide) ?_
              refine lv_goto hx hb d_Ref_view_63 (tgt := 73) (by decide) ?_
              refine W.eq (g2 := F0 m 73 ls [.int (nI (vw0 T1.2.2 hd r x y))]) (congrArg (fun z => F0 m 73 ls (.int z :: [])) (congrArg nI (by first | exact vw_x0 hx12 hy12 h00 ((sI_lt (show hd r x < 2000 by omega)).mp h44) | exact vw_y0 hx12 hy12 h00 ((sI_lt (show hd r y < 2000 by omega)).mp h49) | exact vw_t0 hx12 hy12 h59 | exact vw_t hx12 hy12 h59))) ?_
              refine lv_istore hx hb d_Ref_view_73 hl (by decide) rfl (fun ls hl => ?_)
              have hl : lv_has ls 7 [(6, .int (nI (vw0 T1.2.2 hd r x y))), (5, .int (sI hd r y)), (4, .int (sI hd r x)), (3, .int (nI y)), (2, .int (nI x)), (0, .ref h), (1, .int (nI r))] := hl
              refine lv_aload_n hx hb d_Ref_view_75 rfl (lv_at hl 5 rfl) ?_
              refine va_get (D := D) (ci := 9) (v := .ref (qs 18)) (C := R_Ref) (T := T_Ref) (N := 32) hx hb ht in_Ref hown hK hP 0 rfl rfl 30 (by decide) (ht _ kl_Ref_66) (fun _ h9 => h9) rfl d_Ref_view_76 ?_
              refine lv_bipush (v := nI 12) hx hb d_Ref_view_79 (by decide) ?_
              refine lv_iload_n hx hb d_Ref_view_81 rfl (lv_at hl 4 rfl) ?_
              refine ri_imul hx hb d_Ref_view_82 ?_
              refine lv_iload_n hx hb d_Ref_view_83 rfl (lv_at hl 3 rfl) ?_
              refine ri_iadd hx hb d_Ref_view_84 ?_
              refine lv_iload hx hb d_Ref_view_85 (lv_at hl 0 rfl) ?_
              refine ri_iast hx hb hK hP hD hS 4 0 rfl rfl (j := (12 * x) + y) (by omega) (by omega) d_Ref_view_87 (fun H locs hP hD hS => ?_)
              rw [fl_up (a := x) (b := y) (show y < 12 by omega)] at hP hD
              have hP : va_P D kls (List.flatten [[rf_o h qs cd ma mn ca cn na nn pk dv ex lb lm], [(qs 6, .inl (cJ, 1600, .inr (.inl fL)))], [(qs 7, .inl (cJ, 1600, .inr (.inl fH)))], [(qs 9, .inl (cI, 144, .inl (fl (sI hd))))], [(qs 18, .inl (cI, 144, .inl (fl (bm_up2 MK x y (nI (vw0 T1.2.2 hd r x y))))))], [(qs 19, .inl (cI, 144, .inl (fl MF)))]]) H := hP
              have hD : va_D A (List.flatten [[rf_o h qs cd ma mn ca cn na nn pk dv ex lb lm], [(qs 6, .inl (cJ, 1600, .inr (.inl fL)))], [(qs 7, .inl (cJ, 1600, .inr (.inl fH)))], [(qs 9, .inl (cI, 144, .inl (fl (sI hd))))], [(qs 18, .inl (cI, 144, .inl (fl (bm_up2 MK x y (nI (vw0 T1.2.2 hd r x y))))))], [(qs 19, .inl (cI, 144, .inl (fl MF)))]]) := hD
              refine lv_aload_n hx hb d_Ref_view_88 rfl (lv_at hl 5 rfl) ?_
              refine va_get (D := D) (ci := 9) (v := .ref (qs 19)) (C := R_Ref) (T := T_Ref) (N := 32) hx hb ht in_Ref hown hK hP 0 rfl rfl 31 (by decide) (ht _ kl_Ref_69) (fun _ h9 => h9) rfl d_Ref_view_89 ?_
              refine lv_bipush (v := nI 12) hx hb d_Ref_view_92 (by decide) ?_
              refine lv_iload_n hx hb d_Ref_view_94 rfl (lv_at hl 4 rfl) ?_
              refine ri_imul hx hb d_Ref_view_95 ?_
              refine lv_iload_n hx hb d_Ref_view_96 rfl (lv_at hl 3 rfl) ?_
              refine ri_iadd hx hb d_Ref_view_97 ?_
              refine lv_iload_n hx hb d_Ref_view_98 rfl (lv_at hl 4 rfl) ?_
              refine lv_iload_n hx hb d_Ref_view_99 rfl (lv_at hl 3 rfl) ?_
              refine ri_icmp_ne hx hb (by omega) (by omega) d_Ref_view_100 (tgt := 107) (by decide) (fun h100 => ?_) (fun h100 => ?_)
              · refine lv_iload hx hb d_Ref_view_107 (lv_at hl 0 rfl) ?_
                refine ri_if_le hx hb (by omega) d_Ref_view_109 (tgt := 117) (by decide) (fun h109 => ?_) (fun h109 => ?_)
                · refine lv_ldc (v := nI 1000000) hx hb hown (ht _ kl_Ref_135) d_Ref_view_117 ?_
                  refine W.eq (g2 := F0 m 119 ls [.int (nI (bn_f0 (vw0 T1.2.2 hd r) x y)), .int (nI ((12 * x) + y)), .ref (qs 19)]) (congrArg (fun z => F0 m 119 ls (.int z :: [.int (nI ((12 * x) + y)), .ref (qs 19)])) (congrArg nI (by first | exact f0_d h100 | exact f0_w h100 h109 | exact f0_n h100 (by omega)))) ?_
                  refine ri_iast hx hb hK hP hD hS 5 0 rfl rfl (j := (12 * x) + y) (by omega) (by omega) d_Ref_view_119 (fun H locs hP hD hS => ?_)
                  rw [fl_up (a := x) (b := y) (show y < 12 by omega)] at hP hD
                  have hP : va_P D kls (List.flatten [[rf_o h qs cd ma mn ca cn na nn pk dv ex lb lm], [(qs 6, .inl (cJ, 1600, .inr (.inl fL)))], [(qs 7, .inl (cJ, 1600, .inr (.inl fH)))], [(qs 9, .inl (cI, 144, .inl (fl (sI hd))))], [(qs 18, .inl (cI, 144, .inl (fl (bm_up2 MK x y (nI (vw0 T1.2.2 hd r x y))))))], [(qs 19, .inl (cI, 144, .inl (fl (bm_up2 MF x y (nI (bn_f0 (vw0 T1.2.2 hd r) x y))))))]]) H := hP
                  have hD : va_D A (List.flatten [[rf_o h qs cd ma mn ca cn na nn pk dv ex lb lm], [(qs 6, .inl (cJ, 1600, .inr (.inl fL)))], [(qs 7, .inl (cJ, 1600, .inr (.inl fH)))], [(qs 9, .inl (cI, 144, .inl (fl (sI hd))))], [(qs 18, .inl (cI, 144, .inl (fl (bm_up2 MK x y (nI (vw0 T1.2.2 hd r x y))))))], [(qs 19, .inl (cI, 144, .inl (fl (bm_up2 MF x y (nI (bn_f0 (vw0 T1.2.2 hd r) x y))))))]]) := hD
                  refine ri_iinc hx hb d_Ref_view_120 hl (k := 3) rfl (by decide) rfl (fun ls hl => ?_)
                  have hl : lv_has ls 7 [(3, .int (nI (y + 1))), (6, .int (nI (vw0 T1.2.2 hd r x y))), (5, .int (sI hd r y)), (4, .int (sI hd r x)), (2, .int (nI x)), (0, .ref h), (1, .int (nI r))] := hl
                  refine lv_goto hx hb d_Ref_view_123 (tgt := 10) (by decide) ?_
                  refine ih (y + 1) _ _ H locs ls (by omega) (fun a b ha hb9 => ?_) (fun b hb9 => ?_) hP hD hS (lv_sub hl [0, 4, 5, 6] rfl)
                  · show (if _ then _ else _) = _ ∧ (if _ then _ else _) = _
                    rw [if_neg (by omega), if_neg (by omega)]
                    exact hs1 a b ha hb9
                  · show (if _ then _ else _) = _ ∧ (if _ then _ else _) = _
                    by_cases e : b = y
                    · subst e
                      rw [if_pos ⟨rfl, rfl⟩, if_pos ⟨rfl, rfl⟩]
                      exact ⟨rfl, rfl⟩
                    · rw [if_neg (fun z => e z.2), if_neg (fun z => e z.2)]
                      exact hs2 b (by omega)
                · refine lv_iload hx hb d_Ref_view_112 (lv_at hl 0 rfl) ?_
                  refine lv_goto hx hb d_Ref_view_114 (tgt := 119) (by decide) ?_
                  refine W.eq (g2 := F0 m 119 ls [.int (nI (bn_f0 (vw0 T1.2.2 hd r) x y)), .int (nI ((12 * x) + y)), .ref (qs 19)]) (congrArg (fun z => F0 m 119 ls (.int z :: [.int (nI ((12 * x) + y)), .ref (qs 19)])) (congrArg nI (by first | exact f0_d h100 | exact f0_w h100 h109 | exact f0_n h100 (by omega)))) ?_
                  refine ri_iast hx hb hK hP hD hS 5 0 rfl rfl (j := (12 * x) + y) (by omega) (by omega) d_Ref_view_119 (fun H locs hP hD hS => ?_)
                  rw [fl_up (a := x) (b := y) (show y < 12 by omega)] at hP hD
                  have hP : va_P D kls (List.flatten [[rf_o h qs cd ma mn ca cn na nn pk dv ex lb lm], [(qs 6, .inl (cJ, 1600, .inr (.inl fL)))], [(qs 7, .inl (cJ, 1600, .inr (.inl fH)))], [(qs 9, .inl (cI, 144, .inl (fl (sI hd))))], [(qs 18, .inl (cI, 144, .inl (fl (bm_up2 MK x y (nI (vw0 T1.2.2 hd r x y))))))], [(qs 19, .inl (cI, 144, .inl (fl (bm_up2 MF x y (nI (bn_f0 (vw0 T1.2.2 hd r) x y))))))]]) H := hP
                  have hD : va_D A (List.flatten [[rf_o h qs cd ma mn ca cn na nn pk dv ex lb lm], [(qs 6, .inl (cJ, 1600, .inr (.inl fL)))], [(qs 7, .inl (cJ, 1600, .inr (.inl fH)))], [(qs 9, .inl (cI, 144, .inl (fl (sI hd))))], [(qs 18, .inl (cI, 144, .inl (fl (bm_up2 MK x y (nI (vw0 T1.2.2 hd r x y))))))], [(qs 19, .inl (cI, 144, .inl (fl (bm_up2 MF x y (nI (bn_f0 (vw0 T1.2.2 hd r) x y))))))]]) := hD
                  refine ri_iinc hx hb d_Ref_view_120 hl (k := 3) rfl (by decide) rfl (fun ls hl => ?_)
                  have hl : lv_has ls 7 [(3, .int (nI (y + 1))), (6, .int (nI (vw0 T1.2.2 hd r x y))), (5, .int (sI hd r y)), (4, .int (sI hd r x)), (2, .int (nI x)), (0, .ref h), (1, .int (nI r))] := hl
                  refine lv_goto hx hb d_Ref_view_123 (tgt := 10) (by decide) ?_
                  refine ih (y + 1) _ _ H locs ls (by omega) (fun a b ha hb9 => ?_) (fun b hb9 => ?_) hP hD hS (lv_sub hl [0, 4, 5, 6] rfl)
                  · show (if _ then _ else _) = _ ∧ (if _ then _ else _) = _
                    rw [if_neg (by omega), if_neg (by omega)]
                    exact hs1 a b ha hb9
                  · show (if _ then _ else _) = _ ∧ (if _ then _ else _) = _
                    by_cases e : b = y
                    · subst e
                      rw [if_pos ⟨rfl, rfl⟩, if_pos ⟨rfl, rfl⟩]
                      exact ⟨rfl, rfl⟩
                    · rw [if_neg (fun z => e z.2), if_neg (fun z => e z.2)]
                      exact hs2 b (by omega)
              · refine lv_iconst (v := nI 0) hx hb d_Ref_view_103 (by decide) ?_
                refine lv_goto hx hb d_Ref_view_104 (tgt := 119) (by decide) ?_
                refine W.eq (g2 := F0 m 119 ls [.int (nI (bn_f0 (vw0 T1.2.2 hd r) x y)), .int (nI ((12 * x) + y)), .ref (qs 19)]) (congrArg (fun z => F0 m 119 ls (.int z :: [.int (nI ((12 * x) + y)), .ref (qs 19)])) (congrArg nI (by first | exact f0_d h100 | exact f0_w h100 h109 | exact f0_n h100 (by omega)))) ?_
                refine ri_iast hx hb hK hP hD hS 5 0 rfl rfl (j := (12 * x) + y) (by omega) (by omega) d_Ref_view_119 (fun H locs hP hD hS => ?_)
                rw [fl_up (a := x) (b := y) (show y < 12 by omega)] at hP hD
                have hP : va_P D kls (List.flatten [[rf_o h qs cd ma mn ca cn na nn pk dv ex lb lm], [(qs 6, .inl (cJ, 1600, .inr (.inl fL)))], [(qs 7, .inl (cJ, 1600, .inr (.inl fH)))], [(qs 9, .inl (cI, 144, .inl (fl (sI hd))))], [(qs 18, .inl (cI, 144, .inl (fl (bm_up2 MK x y (nI (vw0 T1.2.2 hd r x y))))))], [(qs 19, .inl (cI, 144, .inl (fl (bm_up2 MF x y (nI (bn_f0 (vw0 T1.2.2 hd r) x y))))))]]) H := hP
                have hD : va_D A (List.flatten [[rf_o h qs cd ma mn ca cn na nn pk dv ex lb lm], [(qs 6, .inl (cJ, 1600, .inr (.inl fL)))], [(qs 7, .inl (cJ, 1600, .inr (.inl fH)))], [(qs 9, .inl (cI, 144, .inl (fl (sI hd))))], [(qs 18, .inl (cI, 144, .inl (fl (bm_up2 MK x y (nI (vw0 T1.2.2 hd r x y))))))], [(qs 19, .inl (cI, 144, .inl (fl (bm_up2 MF x y (nI (bn_f0 (vw0 T1.2.2 hd r) x y))))))]]) := hD
                refine ri_iinc hx hb d_Ref_view_120 hl (k := 3) rfl (by decide) rfl (fun ls hl => ?_)
                have hl : lv_has ls 7 [(3, .int (nI (y + 1))), (6, .int (nI (vw0 T1.2.2 hd r x y))), (5, .int (sI hd r y)), (4, .int (sI hd r x)), (2, .int (nI x)), (0, .ref h), (1, .int (nI r))] := hl
                refine lv_goto hx hb d_Ref_view_123 (tgt := 10) (by decide) ?_
                refine ih (y + 1) _ _ H locs ls (by omega) (fun a b ha hb9 => ?_) (fun b hb9 => ?_) hP hD hS (lv_sub hl [0, 4, 5, 6] rfl)
                · show (if _ then _ else _) = _ ∧ (if _ then _ else _) = _
                  rw [if_neg (by omega), if_neg (by omega)]
                  exact hs1 a b ha hb9
                · show (if _ then _ else _) = _ ∧ (if _ then _ else _) = _
                  by_cases e : b = y
                  · subst e
                    rw [if_pos ⟨rfl, rfl⟩, if_pos ⟨rfl, rfl⟩]
                    exact ⟨rfl, rfl⟩
                  · rw [if_neg (fun z => e z.2), if_neg (fun z => e z.2)]
                    exact hs2 b (by omega)
  have ix : ∀ (k x : Nat) (MK : Nat → Nat → Int32) (MF : Nat → Nat → Int32) (H : Heap) (locs : List Loc) (ls : Array Slot), x + k = 12 → (∀ a b, a < x → b < 12 → MK a b = nI (vw0 T1.2.2 hd r a b) ∧ MF a b = nI (bn_f0 (vw0 T1.2.2 hd r) a b)) → va_P D kls (List.flatten [[rf_o h qs cd ma mn ca cn na nn pk dv ex lb lm], [(qs 6, .inl (cJ, 1600, .inr (.inl fL)))], [(qs 7, .inl (cJ, 1600, .inr (.inl fH)))], [(qs 9, .inl (cI, 144, .inl (fl (sI hd))))], [(qs 18, .inl (cI, 144, .inl (fl MK)))], [(qs 19, .inl (cI, 144, .inl (fl MF)))]]) H → va_D A (List.flatten [[rf_o h qs cd ma mn ca cn na nn pk dv ex lb lm], [(qs 6, .inl (cJ, 1600, .inr (.inl fL)))], [(qs 7, .inl (cJ, 1600, .inr (.inl fH)))], [(qs 9, .inl (cI, 144, .inl (fl (sI hd))))], [(qs 18, .inl (cI, 144, .inl (fl MK)))], [(qs 19, .inl (cI, 144, .inl (fl MF)))]]) → va_S A s.heap H locs → lv_has ls 7 [(2, .int (nI x)), (0, .ref h), (1, .int (nI r))] → W p l e (rm_ 1 24 0 0) s m args below meth c H locs 0 0 Q (F0 m 2 ls []) := by
    intro k
    induction k with
    | zero =>
      intro x MK MF H locs ls hk hs hP hD hS hl
      refine lv_iload_n hx hb d_Ref_view_2 rfl (lv_at hl 0 rfl) ?_
      refine lv_bipush (v := nI 12) hx hb d_Ref_view_3 (by decide) ?_
      refine ri_icmp_ge hx hb (by omega) (by omega) d_Ref_view_5 (tgt := 132) (by decide) (fun hc9 => ?_) (fun hc9 => ?_)
      · refine lv_iconst (v := nI 0) hx hb d_Ref_view_132 (by decide) ?_
        refine lv_istore_n hx hb d_Ref_view_133 rfl hl (by decide) rfl (fun ls hl => ?_)
        have hl : lv_has ls 7 [(2, .int (nI 0)), (0, .ref h), (1, .int (nI r))] := hl
        obtain ⟨hP, hD⟩ := wd_put1 4 hP hD rfl (wd_eqc.i (g := fl (gN (vw0 T1.2.2 hd r))) (fun i hi => (hs (i / 12) (i % 12) (by omega) (by omega)).1))
        obtain ⟨hP, hD⟩ := wd_put1 5 hP hD rfl (wd_eqc.i (g := fl (gN (bn_f0 (vw0 T1.2.2 hd r)))) (fun i hi => (hs (i / 12) (i % 12) (by omega) (by omega)).2))
        exact lk9 12 0 H locs ls (by omega) hP hD hS (lv_sub hl [0, 1, 2] rfl)
      · exact absurd hc9 (by omega)
    | succ k ih =>
      intro x MK MF H locs ls hk hs hP hD hS hl
      refine lv_iload_n hx hb d_Ref_view_2 rfl (lv_at hl 0 rfl) ?_
      refine lv_bipush (v := nI 12) hx hb d_Ref_view_3 (by decide) ?_
      refine ri_icmp_ge hx hb (by omega) (by omega) d_Ref_view_5 (tgt := 132) (by decide) (fun hc9 => ?_) (fun hc9 => ?_)
      · exact absurd hc9 (by omega)
      · refine lv_iconst (v := nI 0) hx hb d_Ref_view_8 (by decide) ?_
        refine lv_istore_n hx hb d_Ref_view_9 rfl hl (by decide) rfl (fun ls hl => ?_)
        have hl : lv_has ls 7 [(3, .int (nI 0)), (2, .int (nI x)), (0, .ref h), (1, .int (nI r))] := hl
        refine iy x (by omega) (fun MK MF H locs ls hP hD hS hl hs9 => ?_) 12 0 MK MF H locs ls (by omega) hs (fun b hb9 => absurd hb9 (by omega)) hP hD hS (lv_sub hl [0, 1, 2, 3] rfl)
        refine ri_iinc hx hb d_Ref_view_126 hl (k := 0) rfl (by decide) rfl (fun ls hl => ?_)
        have hl : lv_has ls 7 [(2, .int (nI (x + 1))), (0, .ref h), (1, .int (nI r))] := hl
        refine lv_goto hx hb d_Ref_view_129 (tgt := 2) (by decide) ?_
        exact ih (x + 1) MK MF H locs ls (by omega) hs9 hP hD hS (lv_sub hl [0, 1, 2] rfl)
  refine lv_iconst (v := nI 0) hx hb d_Ref_view_0 (by decide) ?_
  refine lv_istore_n hx hb d_Ref_view_1 rfl hl (by decide) rfl (fun ls hl => ?_)
  have hl : lv_has ls 7 [(2, .int (nI 0)), (0, .ref h), (1, .int (nI r))] := hl
  exact ix 12 0 MK MF s.heap [] ls (by omega) (fun a b ha => absurd ha (by omega)) hP hD hS hl
