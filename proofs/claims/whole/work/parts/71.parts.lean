/-! Data: what it asks of the routes. -/
theorem fl_two (X Y Z : List va_W) : List.flatten (List.flatten X :: List.flatten Y :: Z) = List.flatten (X ++ Y ++ Z) := by simp
/-- the masks of r by its store -/
def bm_mkr (Ad hd : Nat → Nat → Nat) (eb : Nat → Option Nat) (r : Nat) : Nat → Int32 := fun n => bm_mask (vw0 Ad hd r) eb r n 12
/-- a Routes whose masks, where they are said to be of now, are right -/
def rt_R (cI cZ cG : ClassId) (h aS aE : Nat) (Ad hd : Nat → Nat → Nat) (ch : Nat → Nat) (eb : Nat → Option Nat) (es : Nat) (wR : va_W) : Prop := ∃ mk ra, ro_R cI cZ cG h aS aE mk ra wR ∧ bm_cache Ad hd ch eb es mk ra
theorem rt_R.mem {cI cZ cG : ClassId} {h aS aE : Nat} {Ad hd : Nat → Nat → Nat} {ch : Nat → Nat} {eb : Nat → Option Nat} {es : Nat} {ws : va_W} (hR : rt_R cI cZ cG h aS aE Ad hd ch eb es ws) : ∃ fs, (h, Sum.inr (5, fs)) ∈ ws := by
  obtain ⟨mk, ra, hR, -⟩ := hR
  exact hR.mem
/-- what the reckoning of masks asks -/
def rt_ok (T1 : bm_M Nat) (hd : Nat → Nat → Nat) (ch : Nat → Nat) (es : Nat) : Prop := (∀ r, r < 12 → ch r + es < 2147483648) ∧ (∀ r x, r < 12 → x < 12 → hd r x < T1.2.1) ∧ (∀ i j, i < T1.2.1 → j < 12 → T1.2.2 i (2 + j) ≤ 1000) ∧ (∀ r, r < 12 → ∀ x, vw0 T1.2.2 hd r x x = 0) ∧ ∀ r, r < 12 → ∀ a b, vw0 T1.2.2 hd r a b ≤ 1023
theorem bm_would_le (mk : Nat → Int32) (left : Int32) : ∀ n, bm_would mk left n ≤ n
  | 0 => Nat.le_refl _
  | n + 1 => by
    have := bm_would_le mk left n
    unfold bm_would
    split <;> omega
set_option maxHeartbeats 4000000 in
set_option maxRecDepth 100000 in
theorem k_Data_partsOf (l : Launch) (D : va_G) (cI cZ cJ cG : ClassId) {h aL aE aR aP aC : Nat} {Dd : bm_D} {ws : va_W} {aS : Nat} {wR : va_W} {T1 : bm_M Nat} {hd : Nat → Nat → Nat} {ch : Nat → Nat} {wS : va_W} {eb : Nat → Option Nat} {t9 : Int32} {es : Nat} {wE : va_W} (hR : da_R cI h aL aE aR aP aC Dd ws) (kR : rt_R cI cZ cG aR aS aE T1.2.2 hd ch eb es wR) (kS : so_R cI cG aS T1 hd ch wS) (kE : ed_R cI aE eb t9 (nI es) wE) (hok : rt_ok T1 hd ch es) (r : Nat) (set : Int32) (hr9 : r < 12) : ct_I l D kls (ty4 cI cZ cJ cG) y_Data_partsOf ws_Data_partsOf (rm_ 5 115 0 0) [.ref h, .int (nI r), .int set] (List.flatten [ws, wR, wS, wE]) (fun z u => z = nI (bm_would (bm_mkr T1.2.2 hd eb r) (set &&& ((bm_em (eb r)) ^^^ (-1))) 12) ∧ ∃ wR2, u = List.flatten [ws, wR2, wS, wE] ∧ rt_R cI cZ cG aR aS aE T1.2.2 hd ch eb es wR2) 0 0 := by
  obtain ⟨wP, wC, rfl, kP, kC⟩ := hR
  obtain ⟨fsP, mP⟩ := kP.mem
  obtain ⟨fsC, mC⟩ := kC.mem
  have bP9 := kP.n
  have bC9 := kC.n
  obtain ⟨fsR, mR⟩ := kR.mem
  obtain ⟨fsE, mE⟩ := kE.mem
  refine ct_enterI (cc := b_Data_partsOf) (maxL := 7) (ret := (some .int)) (by decide +kernel) (Nat.le_of_ble_eq_true rfl) ?_
  intro p e s m args below meth c hx hb hml hr ht hown hlk hnm A Q hA hK hP hD hQ ls hl
  have hown : s.vm.findClass R_Data = some m.cls := hown
  have hS : va_S A s.heap s.heap [] := va_S.rf
  have hl : lv_has ls 7 [(0, .ref h), (1, .int (nI r)), (2, .int set)] := hl
  rw [fl_exp] at hP hD
  have hP : va_P D kls (List.flatten [[(h, .inr (6, [.ref aL, .ref aE, .ref aR, .ref aP, .ref aC, .int Dd.2.2.1, .int Dd.2.2.2.1, .int Dd.2.2.2.2]))], wP, wC, wR, wS, wE]) s.heap := hP
  have hD : va_D A (List.flatten [[(h, .inr (6, [.ref aL, .ref aE, .ref aR, .ref aP, .ref aC, .int Dd.2.2.1, .int Dd.2.2.2.1, .int Dd.2.2.2.2]))], wP, wC, wR, wS, wE]) := hD
  refine lv_iload_n hx hb d_Data_partsOf_0 rfl (lv_at hl 2 rfl) ?_
  refine lv_aload_n hx hb d_Data_partsOf_1 rfl (lv_at hl 0 rfl) ?_
  refine va_get (D := D) (ci := 6) (v := .ref aE) (C := R_Data) (T := T_Data) (N := 8) hx hb ht in_Data hown hK hP 0 rfl rfl 1 (by decide) (ht _ kl_Data_27) (fun _ h9 => h9) rfl d_Data_partsOf_2 ?_
  refine lv_iload_n hx hb d_Data_partsOf_5 rfl (lv_at hl 1 rfl) ?_
  refine ct_rdV (C := R_Edges) (ci := 1) (As := [.int (nI r)]) (rest := [.int set]) ⟨hx, hb, hml, hown, ht⟩ (k_Edges_bitOf l D cI cZ cJ cG kE r hr9) (cb_V ht kc_Edges_bitOf kl_Data_78 kn_Edges ki_Edges_bitOf ks_Edges_bitOf hd_Edges_bitOf ⟨Nat.le_of_ble_eq_true rfl, Nat.le_of_ble_eq_true rfl⟩) (wd_mem 5 rfl mE) rfl rfl (wd_ct (Bs := [[(h, .inr (6, [.ref aL, .ref aE, .ref aR, .ref aP, .ref aC, .int Dd.2.2.1, .int Dd.2.2.2.1, .int Dd.2.2.2.2]))], wP, wC, wR, wS, wE]) 6 rfl [5] [0, 1, 2, 3, 4] (by decide) (wd_1 _)) hK hP hD hS hA rfl hl.1 rfl (Nat.le_of_ble_eq_true rfl) ⟨(show 0 + 0 ≤ 0 by omega), (show 0 + 0 ≤ 0 by omega)⟩ d_Data_partsOf_6 (fun rhr1 H locs hr1 hP hD hS => ?_)
  subst hr1
  refine lv_iconst (v := (-1)) hx hb d_Data_partsOf_9 (by decide) ?_
  refine lv_ixor hx hb d_Data_partsOf_10 ?_
  refine lv_iand hx hb d_Data_partsOf_11 ?_
  refine lv_istore_n hx hb d_Data_partsOf_12 rfl hl (by decide) rfl (fun ls hl => ?_)
  have hl : lv_has ls 7 [(3, .int (set &&& ((bm_em (eb r)) ^^^ ((-1))))), (0, .ref h), (1, .int (nI r)), (2, .int set)] := hl
  refine lv_aload_n hx hb d_Data_partsOf_13 rfl (lv_at hl 1 rfl) ?_
  refine va_get (D := D) (ci := 6) (v := .ref aR) (C := R_Data) (T := T_Data) (N := 8) hx hb ht in_Data hown hK hP 0 rfl rfl 2 (by decide) (ht _ kl_Data_31) (fun _ h9 => h9) rfl d_Data_partsOf_14 ?_
  refine lv_iload_n hx hb d_Data_partsOf_17 rfl (lv_at hl 2 rfl) ?_
  obtain ⟨mk8, ra8, kR8, hca8⟩ := kR
  refine ct_callVA (C := R_Routes) (ci := 5) (As := [.int (nI r)]) (rest := []) ⟨hx, hb, hml, hown, ht⟩ (k_Routes_masksOf l D cI cZ cJ cG kR8 kS kE hca8 r hr9 (hok.1 r hr9) (fun x hx => hok.2.1 r x hr9 hx) hok.2.2.1 (hok.2.2.2.1 r hr9) (hok.2.2.2.2 r hr9)) (cb_V ht kc_Routes_masksOf kl_Data_83 kn_Routes ki_Routes_masksOf ks_Routes_masksOf hd_Routes_masksOf ⟨Nat.le_of_ble_eq_true rfl, Nat.le_of_ble_eq_true rfl⟩) (wd_mem 3 rfl mR) rfl rfl (wd_ct (Bs := [[(h, .inr (6, [.ref aL, .ref aE, .ref aR, .ref aP, .ref aC, .int Dd.2.2.1, .int Dd.2.2.2.1, .int Dd.2.2.2.2]))], wP, wC, wR, wS, wE]) 6 rfl [3, 4, 5] [0, 1, 2] (by decide) rfl) hK hP hD hS hA rfl hl.1 rfl (Nat.le_of_ble_eq_true rfl) ⟨(show 0 + 0 ≤ 0 by omega), (show 0 + 0 ≤ 0 by omega)⟩ d_Data_partsOf_18 (fun ru2 u2 H locs hu2 hP hD hS => ?_)
  obtain ⟨gm, qr, gw, ql, qf, qd, rm, rw, mk, ra, M, L, Hh, Nn, rfl, rfl, hca, hmk⟩ := hu2
  refine W.widen (k := 0) (n := 0) (Nat.le_refl _) (Nat.le_refl _) ?_
  have hP := wd_nP (N := [[(aR, .inr (5, [.ref aS, .ref aE, .ref gm, .ref qr, .ref gw, .ref ql, .ref qf, .ref qd]))], [(gm, .inl (cG, 12, .inr (.inr (.inr (.inr (go rm))))))], [(qr, .inl (cI, 12, .inl (cN ra)))], [(gw, .inl (cG, 12, .inr (.inr (.inr (.inr (go rw))))))], [(ql, .inl (cI, 12, .inl (lI L)))], [(qf, .inl (cI, 12, .inl (cN Hh)))], [(qd, .inl (cZ, 12, .inl (dB Nn)))], gd cI 12 rm mk, gd cI 12 rw M, wS, wE]) (by rw [fl_exp]; rfl) 14 rfl [0, 1, 2, 3, 4, 5, 6, 11, 7, 8, 9, 10, 12, 13] (by decide) hP
  have hD := wd_nD (N := [[(aR, .inr (5, [.ref aS, .ref aE, .ref gm, .ref qr, .ref gw, .ref ql, .ref qf, .ref qd]))], [(gm, .inl (cG, 12, .inr (.inr (.inr (.inr (go rm))))))], [(qr, .inl (cI, 12, .inl (cN ra)))], [(gw, .inl (cG, 12, .inr (.inr (.inr (.inr (go rw))))))], [(ql, .inl (cI, 12, .inl (lI L)))], [(qf, .inl (cI, 12, .inl (cN Hh)))], [(qd, .inl (cZ, 12, .inl (dB Nn)))], gd cI 12 rm mk, gd cI 12 rw M, wS, wE]) (by rw [fl_exp]; rfl) 14 rfl [0, 1, 2, 3, 4, 5, 6, 11, 7, 8, 9, 10, 12, 13] (by decide) hD
  have hP : va_P D kls (List.flatten [[(aR, .inr (5, [.ref aS, .ref aE, .ref gm, .ref qr, .ref gw, .ref ql, .ref qf, .ref qd]))], [(gm, .inl (cG, 12, .inr (.inr (.inr (.inr (go rm))))))], [(qr, .inl (cI, 12, .inl (cN ra)))], [(gw, .inl (cG, 12, .inr (.inr (.inr (.inr (go rw))))))], [(ql, .inl (cI, 12, .inl (lI L)))], [(qf, .inl (cI, 12, .inl (cN Hh)))], [(qd, .inl (cZ, 12, .inl (dB Nn)))], [(h, .inr (6, [.ref aL, .ref aE, .ref aR, .ref aP, .ref aC, .int Dd.2.2.1, .int Dd.2.2.2.1, .int Dd.2.2.2.2]))], gd cI 12 rm mk, gd cI 12 rw M, wS, wE, wP, wC]) H := hP
  have hD : va_D A (List.flatten [[(aR, .inr (5, [.ref aS, .ref aE, .ref gm, .ref qr, .ref gw, .ref ql, .ref qf, .ref qd]))], [(gm, .inl (cG, 12, .inr (.inr (.inr (.inr (go rm))))))], [(qr, .inl (cI, 12, .inl (cN ra)))], [(gw, .inl (cG, 12, .inr (.inr (.inr (.inr (go rw))))))], [(ql, .inl (cI, 12, .inl (lI L)))], [(qf, .inl (cI, 12, .inl (cN Hh)))], [(qd, .inl (cZ, 12, .inl (dB Nn)))], [(h, .inr (6, [.ref aL, .ref aE, .ref aR, .ref aP, .ref aC, .int Dd.2.2.1, .int Dd.2.2.2.1, .int Dd.2.2.2.2]))], gd cI 12 rm mk, gd cI 12 rw M, wS, wE, wP, wC]) := hD
  refine W.eq (g2 := F0 m 21 ls [.ref (rm r)]) rfl ?_
  refine lv_astore hx hb d_Data_partsOf_21 hl (by decide) rfl (fun ls hl => ?_)
  have hl : lv_has ls 7 [(4, .ref (rm r)), (3, .int (set &&& ((bm_em (eb r)) ^^^ ((-1))))), (0, .ref h), (1, .int (nI r)), (2, .int set)] := hl
  refine lv_iconst (v := nI 0) hx hb d_Data_partsOf_23 (by decide) ?_
  refine lv_istore hx hb d_Data_partsOf_24 hl (by decide) rfl (fun ls hl => ?_)
  have hl : lv_has ls 7 [(5, .int (nI 0)), (4, .ref (rm r)), (3, .int (set &&& ((bm_em (eb r)) ^^^ ((-1))))), (0, .ref h), (1, .int (nI r)), (2, .int set)] := hl
  refine lv_iconst (v := nI 0) hx hb d_Data_partsOf_26 (by decide) ?_
  refine lv_istore hx hb d_Data_partsOf_27 hl (by decide) rfl (fun ls hl => ?_)
  have hl : lv_has ls 7 [(6, .int (nI 0)), (5, .int (nI 0)), (4, .ref (rm r)), (3, .int (set &&& ((bm_em (eb r)) ^^^ ((-1))))), (0, .ref h), (1, .int (nI r)), (2, .int set)] := hl
  have loop : ∀ (k j : Nat)  (H : Heap) (locs : List Loc) (ls : Array Slot), j + k = 12 → va_P D kls (List.flatten [[(aR, .inr (5, [.ref aS, .ref aE, .ref gm, .ref qr, .ref gw, .ref ql, .ref qf, .ref qd]))], [(gm, .inl (cG, 12, .inr (.inr (.inr (.inr (go rm))))))], [(qr, .inl (cI, 12, .inl (cN ra)))], [(gw, .inl (cG, 12, .inr (.inr (.inr (.inr (go rw))))))], [(ql, .inl (cI, 12, .inl (lI L)))], [(qf, .inl (cI, 12, .inl (cN Hh)))], [(qd, .inl (cZ, 12, .inl (dB Nn)))], [(h, .inr (6, [.ref aL, .ref aE, .ref aR, .ref aP, .ref aC, .int Dd.2.2.1, .int Dd.2.2.2.1, .int Dd.2.2.2.2]))], gd cI 12 rm mk, gd cI 12 rw M, wS, wE, wP, wC]) H → va_D A (List.flatten [[(aR, .inr (5, [.ref aS, .ref aE, .ref gm, .ref qr, .ref gw, .ref ql, .ref qf, .ref qd]))], [(gm, .inl (cG, 12, .inr (.inr (.inr (.inr (go rm))))))], [(qr, .inl (cI, 12, .inl (cN ra)))], [(gw, .inl (cG, 12, .inr (.inr (.inr (.inr (go rw))))))], [(ql, .inl (cI, 12, .inl (lI L)))], [(qf, .inl (cI, 12, .inl (cN Hh)))], [(qd, .inl (cZ, 12, .inl (dB Nn)))], [(h, .inr (6, [.ref aL, .ref aE, .ref aR, .ref aP, .ref aC, .int Dd.2.2.1, .int Dd.2.2.2.1, .int Dd.2.2.2.2]))], gd cI 12 rm mk, gd cI 12 rw M, wS, wE, wP, wC]) → va_S A s.heap H locs → lv_has ls 7 [(6, .int (nI j)), (5, .int (nI (bm_would (bm_mkr T1.2.2 hd eb r) (set &&& ((bm_em (eb r)) ^^^ (-1))) j))), (4, .ref (rm r)), (3, .int (set &&& ((bm_em (eb r)) ^^^ (-1)))), (0, .ref h), (1, .int (nI r)), (2, .int set)] → W p l e (rm_ 5 115 0 0) s m args below meth c H locs 0 0 Q (F0 m 29 ls []) := by
    intro k
    induction k with
    | zero =>
      intro j H locs ls hk hP hD hS hl
      refine lv_iload hx hb d_Data_partsOf_29 (lv_at hl 0 rfl) ?_
      refine lv_bipush (v := nI 12) hx hb d_Data_partsOf_31 (by decide) ?_
      refine ri_icmp_ge hx hb (by omega) (by omega) d_Data_partsOf_33 (tgt := 55) (by decide) (fun hc9 => ?_) (fun hc9 => ?_)
      · have hj : j = 12 := by omega
        subst hj
        refine lv_iload hx hb d_Data_partsOf_55 (lv_at hl 1 rfl) ?_
        have hP := wd_rP 14 rfl [7, 12, 13, 0, 1, 2, 3, 4, 5, 6, 8, 9, 10, 11] (by decide) hP
        have hD := wd_rD 14 rfl [7, 12, 13, 0, 1, 2, 3, 4, 5, 6, 8, 9, 10, 11] (by decide) hD
        exact ct_iret hQ hx hb hr hlk hP hD hS hK (by omega) (by omega) d_Data_partsOf_57 (⟨rfl, ro_w cI cZ cG aR aS aE gm qr gw ql qf qd rm rw mk ra M L Hh Nn, by rw [fl_two]; rfl, ⟨mk, ra, ⟨gm, qr, gw, ql, qf, qd, rm, rw, M, L, Hh, Nn, rfl⟩, hca⟩⟩)
      · exact absurd hc9 (by omega)
    | succ k ih =>
      intro j H locs ls hk hP hD hS hl
      refine lv_iload hx hb d_Data_partsOf_29 (lv_at hl 0 rfl) ?_
      refine lv_bipush (v := nI 12) hx hb d_Data_partsOf_31 (by decide) ?_
      refine ri_icmp_ge hx hb (by omega) (by omega) d_Data_partsOf_33 (tgt := 55) (by decide) (fun hc9 => ?_) (fun hc9 => ?_)
      · exact absurd hc9 (by omega)
      · refine lv_iload_n hx hb d_Data_partsOf_36 rfl (lv_at hl 3 rfl) ?_
        refine lv_aload hx hb d_Data_partsOf_37 (lv_at hl 2 rfl) ?_
        refine lv_iload hx hb d_Data_partsOf_39 (lv_at hl 0 rfl) ?_
        refine ri_gld hx hb hK hP 8 0 rfl rfl (i := r) (j := j) hr9 (by omega) (by decide) d_Data_partsOf_41 ?_
        refine W.eq (g2 := F0 m 42 ls [.int (mk r j), .int (set &&& ((bm_em (eb r)) ^^^ (-1)))]) rfl ?_
        refine W.eq (g2 := F0 m 42 ls [.int (bm_mkr T1.2.2 hd eb r j), .int (set &&& ((bm_em (eb r)) ^^^ (-1)))]) (congrArg (fun z => F0 m 42 ls (.int z :: [.int (set &&& ((bm_em (eb r)) ^^^ (-1)))])) (hmk j (by omega))) ?_
        refine lv_iand hx hb d_Data_partsOf_42 ?_
        refine lv_if_eq hx hb d_Data_partsOf_43 (tgt := 49) (by decide) (fun h1 => ?_) (fun h1 => ?_)
        · refine ri_iinc hx hb d_Data_partsOf_49 hl (k := 0) rfl (by decide) rfl (fun ls hl => ?_)
          have hl : lv_has ls 7 [(6, .int (nI (j + 1))), (5, .int (nI (bm_would (bm_mkr T1.2.2 hd eb r) (set &&& ((bm_em (eb r)) ^^^ (-1))) j))), (4, .ref (rm r)), (3, .int (set &&& ((bm_em (eb r)) ^^^ (-1)))), (0, .ref h), (1, .int (nI r)), (2, .int set)] := hl
          refine lv_goto hx hb d_Data_partsOf_52 (tgt := 29) (by decide) ?_
          have hst : bm_would (bm_mkr T1.2.2 hd eb r) (set &&& ((bm_em (eb r)) ^^^ (-1))) (j + 1) = bm_would (bm_mkr T1.2.2 hd eb r) (set &&& ((bm_em (eb r)) ^^^ (-1))) j := if_pos h1
          exact ih (j + 1) H locs ls (by omega) hP hD hS (by rw [hst]; exact hl)
        · refine ri_iinc hx hb d_Data_partsOf_46 hl (k := 1) rfl (by decide) rfl (fun ls hl => ?_)
          have hl : lv_has ls 7 [(5, .int (nI (bm_would (bm_mkr T1.2.2 hd eb r) (set &&& ((bm_em (eb r)) ^^^ (-1))) j + 1))), (6, .int (nI j)), (4, .ref (rm r)), (3, .int (set &&& ((bm_em (eb r)) ^^^ (-1)))), (0, .ref h), (1, .int (nI r)), (2, .int set)] := hl
          refine ri_iinc hx hb d_Data_partsOf_49 hl (k := 1) rfl (by decide) rfl (fun ls hl => ?_)
          have hl : lv_has ls 7 [(6, .int (nI (j + 1))), (5, .int (nI (bm_would (bm_mkr T1.2.2 hd eb r) (set &&& ((bm_em (eb r)) ^^^ (-1))) j + 1))), (4, .ref (rm r)), (3, .int (set &&& ((bm_em (eb r)) ^^^ (-1)))), (0, .ref h), (1, .int (nI r)), (2, .int set)] := hl
          refine lv_goto hx hb d_Data_partsOf_52 (tgt := 29) (by decide) ?_
          have hst : bm_would (bm_mkr T1.2.2 hd eb r) (set &&& ((bm_em (eb r)) ^^^ (-1))) (j + 1) = bm_would (bm_mkr T1.2.2 hd eb r) (set &&& ((bm_em (eb r)) ^^^ (-1))) j + 1 := if_neg h1
          exact ih (j + 1) H locs ls (by omega) hP hD hS (by rw [hst]; exact hl)
  exact loop 12 0 H locs ls (by omega) hP hD hS hl
set_option maxHeartbeats 4000000 in
set_option maxRecDepth 100000 in
theorem k_Data_hasRoomFor (l : Launch) (D : va_G) (cI cZ cJ cG : ClassId) {h aL aE aR aP aC : Nat} {Dd : bm_D} {ws : va_W} {aS : Nat} {wR : va_W} {T1 : bm_M Nat} {hd : Nat → Nat → Nat} {ch : Nat → Nat} {wS : va_W} {eb : Nat → Option Nat} {t9 : Int32} {es : Nat} {wE : va_W} (hR : da_R cI h aL aE aR aP aC Dd ws) (kR : rt_R cI cZ cG aR aS aE T1.2.2 hd ch eb es wR) (kS : so_R cI cG aS T1 hd ch wS) (kE : ed_R cI aE eb t9 (nI es) wE) (hok : rt_ok T1 hd ch es) (r : Nat) (set : Int32) (hr9 : r < 12) : ct_I l D kls (ty4 cI cZ cJ cG) y_Data_hasRoomFor ws_Data_hasRoomFor (rm_ 6 141 0 0) [.ref h, .int (nI r), .int set] (List.flatten [ws, wR, wS, wE]) (fun z u => z = bI (decide (Dd.1.2.1 < 900 ∧ Dd.2.1.2.1 + bm_would (bm_mkr T1.2.2 hd eb r) (set &&& ((bm_em (eb r)) ^^^ (-1))) 12 ≤ 4000)) ∧ ∃ wR2, u = List.flatten [ws, wR2, wS, wE] ∧ rt_R cI cZ cG aR aS aE T1.2.2 hd ch eb es wR2) 0 0 := by
  have hR9 := hR
  obtain ⟨wP, wC, rfl, kP, kC⟩ := hR
  obtain ⟨fsP, mP⟩ := kP.mem
  obtain ⟨fsC, mC⟩ := kC.mem
  have bP9 := kP.n
  have bC9 := kC.n
  obtain ⟨fsR, mR⟩ := kR.mem
  obtain ⟨fsE, mE⟩ := kE.mem
  refine ct_enterI (cc := b_Data_hasRoomFor) (maxL := 3) (ret := (some .boolean)) (by decide +kernel) (Nat.le_of_ble_eq_true rfl) ?_
  intro p e s m args below meth c hx hb hml hr ht hown hlk hnm A Q hA hK hP hD hQ ls hl
  have hown : s.vm.findClass R_Data = some m.cls := hown
  have hS : va_S A s.heap s.heap [] := va_S.rf
  have hl : lv_has ls 3 [(0, .ref h), (1, .int (nI r)), (2, .int set)] := hl
  have hwo := bm_would_le (bm_mkr T1.2.2 hd eb r) (set &&& ((bm_em (eb r)) ^^^ (-1))) 12
  rw [fl_exp] at hP hD
  have hP : va_P D kls (List.flatten [[(h, .inr (6, [.ref aL, .ref aE, .ref aR, .ref aP, .ref aC, .int Dd.2.2.1, .int Dd.2.2.2.1, .int Dd.2.2.2.2]))], wP, wC, wR, wS, wE]) s.heap := hP
  have hD : va_D A (List.flatten [[(h, .inr (6, [.ref aL, .ref aE, .ref aR, .ref aP, .ref aC, .int Dd.2.2.1, .int Dd.2.2.2.1, .int Dd.2.2.2.2]))], wP, wC, wR, wS, wE]) := hD
  refine lv_aload_n hx hb d_Data_hasRoomFor_0 rfl (lv_at hl 0 rfl) ?_
  refine va_get (D := D) (ci := 6) (v := .ref aP) (C := R_Data) (T := T_Data) (N := 8) hx hb ht in_Data hown hK hP 0 rfl rfl 3 (by decide) (ht _ kl_Data_14) (fun _ h9 => h9) rfl d_Data_hasRoomFor_1 ?_
  refine ct_rdV (C := R_Rows) (ci := 0) (As := []) (rest := []) ⟨hx, hb, hml, hown, ht⟩ (k_Rows_size l D cI cZ cJ cG kP) (cb_V ht kc_Rows_size kl_Data_35 kn_Rows ki_Rows_size ks_Rows_size hd_Rows_size ⟨Nat.le_of_ble_eq_true rfl, Nat.le_of_ble_eq_true rfl⟩) (wd_mem 1 rfl mP) rfl rfl (wd_ct (Bs := [[(h, .inr (6, [.ref aL, .ref aE, .ref aR, .ref aP, .ref aC, .int Dd.2.2.1, .int Dd.2.2.2.1, .int Dd.2.2.2.2]))], wP, wC, wR, wS, wE]) 6 rfl [1] [0, 2, 3, 4, 5] (by decide) (wd_1 _)) hK hP hD hS hA rfl hl.1 rfl (Nat.le_of_ble_eq_true rfl) ⟨(show 0 + 0 ≤ 0 by omega), (show 0 + 0 ≤ 0 by omega)⟩ d_Data_hasRoomFor_4 (fun rhr1 H locs hr1 hP hD hS => ?_)
  subst hr1
  refine lv_sipush (v := nI 900) hx hb d_Data_hasRoomFor_7 (by decide) ?_
  refine ri_icmp_ge hx hb (by omega) (by omega) d_Data_hasRoomFor_10 (tgt := 37) (by decide) (fun h1 => ?_) (fun h1 => ?_)
  · refine lv_iconst (v := nI 0) hx hb d_Data_hasRoomFor_37 (by decide) ?_
    exact ct_zret (b := false) hQ hx hb hr hlk hP hD hS hK (by omega) (by omega) d_Data_hasRoomFor_38 (⟨congrArg bI (decide_eq_false (fun z => by omega)).symm, wR, by rw [fl_exp]; rfl, kR⟩)
  · refine lv_aload_n hx hb d_Data_hasRoomFor_13 rfl (lv_at hl 0 rfl) ?_
    refine va_get (D := D) (ci := 6) (v := .ref aC) (C := R_Data) (T := T_Data) (N := 8) hx hb ht in_Data hown hK hP 0 rfl rfl 4 (by decide) (ht _ kl_Data_20) (fun _ h9 => h9) rfl d_Data_hasRoomFor_14 ?_
    refine ct_rdV (C := R_Rows) (ci := 0) (As := []) (rest := []) ⟨hx, hb, hml, hown, ht⟩ (k_Rows_size l D cI cZ cJ cG kC) (cb_V ht kc_Rows_size kl_Data_35 kn_Rows ki_Rows_size ks_Rows_size hd_Rows_size ⟨Nat.le_of_ble_eq_true rfl, Nat.le_of_ble_eq_true rfl⟩) (wd_mem 2 rfl mC) rfl rfl (wd_ct (Bs := [[(h, .inr (6, [.ref aL, .ref aE, .ref aR, .ref aP, .ref aC, .int Dd.2.2.1, .int Dd.2.2.2.1, .int Dd.2.2.2.2]))], wP, wC, wR, wS, wE]) 6 rfl [2] [0, 1, 3, 4, 5] (by decide) (wd_1 _)) hK hP hD hS hA rfl hl.1 rfl (Nat.le_of_ble_eq_true rfl) ⟨(show 0 + 0 ≤ 0 by omega), (show 0 + 0 ≤ 0 by omega)⟩ d_Data_hasRoomFor_17 (fun rhr3 H locs hr3 hP hD hS => ?_)
    subst hr3
    refine lv_aload_n hx hb d_Data_hasRoomFor_20 rfl (lv_at hl 0 rfl) ?_
    refine lv_iload_n hx hb d_Data_hasRoomFor_21 rfl (lv_at hl 1 rfl) ?_
    refine lv_iload_n hx hb d_Data_hasRoomFor_22 rfl (lv_at hl 2 rfl) ?_
    refine ct_callVI (C := R_Data) (ci := 6) (As := [.int (nI r), .int set]) (rest := [.int (nI Dd.2.1.2.1)]) ⟨hx, hb, hml, hown, ht⟩ (k_Data_partsOf l D cI cZ cJ cG hR9 kR kS kE hok r set hr9) (cb_V ht kc_Data_partsOf kl_Data_53 kn_Data ki_Data_partsOf ks_Data_partsOf hd_Data_partsOf ⟨Nat.le_of_ble_eq_true rfl, Nat.le_of_ble_eq_true rfl⟩) (List.mem_of_getElem? (i := 0) rfl) rfl rfl (wd_ct (Bs := [[(h, .inr (6, [.ref aL, .ref aE, .ref aR, .ref aP, .ref aC, .int Dd.2.2.1, .int Dd.2.2.2.1, .int Dd.2.2.2.2]))], wP, wC, wR, wS, wE]) 6 rfl [0, 1, 2, 3, 4, 5] [] (by decide) (by show List.flatten _ = _; rw [fl_exp]; rfl)) hK hP hD hS hA rfl hl.1 rfl (Nat.le_of_ble_eq_true rfl) ⟨(show 0 + 0 ≤ 0 by omega), (show 0 + 0 ≤ 0 by omega)⟩ d_Data_hasRoomFor_23 (fun ru4 u4 H locs hu4 hP hD hS => ?_)
    obtain ⟨rfl, wR2, rfl, kR2⟩ := hu4
    refine W.widen (k := 0) (n := 0) (Nat.le_refl _) (Nat.le_refl _) ?_
    have hP := wd_nP (N := [[(h, .inr (6, [.ref aL, .ref aE, .ref aR, .ref aP, .ref aC, .int Dd.2.2.1, .int Dd.2.2.2.1, .int Dd.2.2.2.2]))], wP, wC, wR2, wS, wE]) (by rw [fl_exp]; rfl) 6 rfl [0, 1, 2, 3, 4, 5] (by decide) hP
    have hD := wd_nD (N := [[(h, .inr (6, [.ref aL, .ref aE, .ref aR, .ref aP, .ref aC, .int Dd.2.2.1, .int Dd.2.2.2.1, .int Dd.2.2.2.2]))], wP, wC, wR2, wS, wE]) (by rw [fl_exp]; rfl) 6 rfl [0, 1, 2, 3, 4, 5] (by decide) hD
    have hP : va_P D kls (List.flatten [[(h, .inr (6, [.ref aL, .ref aE, .ref aR, .ref aP, .ref aC, .int Dd.2.2.1, .int Dd.2.2.2.1, .int Dd.2.2.2.2]))], wP, wC, wR2, wS, wE]) H := hP
    have hD : va_D A (List.flatten [[(h, .inr (6, [.ref aL, .ref aE, .ref aR, .ref aP, .ref aC, .int Dd.2.2.1, .int Dd.2.2.2.1, .int Dd.2.2.2.2]))], wP, wC, wR2, wS, wE]) := hD
    refine W.eq (g2 := F0 m 26 ls [.int (nI (bm_would (bm_mkr T1.2.2 hd eb r) (set &&& ((bm_em (eb r)) ^^^ (-1))) 12)), .int (nI Dd.2.1.2.1)]) rfl ?_
    refine ri_iadd hx hb d_Data_hasRoomFor_26 ?_
    refine lv_sipush (v := nI 4000) hx hb d_Data_hasRoomFor_27 (by decide) ?_
    refine ri_icmp_gt hx hb (by omega) (by omega) d_Data_hasRoomFor_30 (tgt := 37) (by decide) (fun h2 => ?_) (fun h2 => ?_)
    · refine lv_iconst (v := nI 0) hx hb d_Data_hasRoomFor_37 (by decide) ?_
      exact ct_zret (b := false) hQ hx hb hr hlk hP hD hS hK (by omega) (by omega) d_Data_hasRoomFor_38 (⟨congrArg bI (decide_eq_false (fun z => by omega)).symm, wR2, by rw [fl_exp]; rfl, kR2⟩)
    · refine lv_iconst (v := nI 1) hx hb d_Data_hasRoomFor_33 (by decide) ?_
      refine lv_goto hx hb d_Data_hasRoomFor_34 (tgt := 38) (by decide) ?_
      exact ct_zret (b := true) hQ hx hb hr hlk hP hD hS hK (by omega) (by omega) d_Data_hasRoomFor_38 (⟨congrArg bI (decide_eq_true ⟨by omega, by omega⟩).symm, wR2, by rw [fl_exp]; rfl, kR2⟩)
