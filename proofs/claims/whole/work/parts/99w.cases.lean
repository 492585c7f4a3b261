/-! Each call, once: the class and the reference go on alike. -/
def oV (l : Launch) (s0 : State) (D : va_G) (cI cZ cJ cG : ClassId) (h h2 : Nat) (S : bm_S) (c : Nat) (yL : MethodName) (wL : List Cond) (mL : Nat) (yR : MethodName) (wR : List Cond) (mR : Nat) (xs : List Value) (ws wr : va_W) : Prop :=
  ∃ (k : Nat) (S2 : bm_S) (mc ms F L F2 L2 : Nat), k ≤ 2 ∧ iV S2 (c + 1) ∧ (mc + bc S ≤ bc S2 + 1 ∧ ms + bs S ≤ bs S2 + 6) ∧ (F + 1 ≤ 11 ∧ 8 + (mL + 11) + L ≤ 428) ∧ (F2 + 1 ≤ 11 ∧ 8 + (mR + 11) + L2 ≤ 428) ∧
    ct_H l s0 D kls (ty4 cI cZ cJ cG) yL wL (rm_ F L mc ms) (.ref h :: xs) (List.flatten [ws]) (fun z u => z = nI k ∧ ∃ u2, nt_R cI cZ cG h S2 u2 ∧ u = List.flatten [u2]) mc ms ∧ ct_V l D kls (ty4 cI cZ cJ cG) yR wR (rm_ F2 L2 0 0) (.ref h2 :: xs) wr (fun u => rf_R cI cZ cJ h2 (nI k) S2 u) 0 0
abbrev ow (cJ : ClassId) (qo : Nat) (f : Nat → Int64) : va_W := [(qo, .inl (cJ, 1, .inr (.inl f)))]
def oI (l : Launch) (s0 : State) (D : va_G) (cI cZ cJ cG : ClassId) (h h2 qo : Nat) (fo : Nat → Int64) (S : bm_S) (c : Nat) (yL : MethodName) (wL : List Cond) (mL : Nat) (yR : MethodName) (wR : List Cond) (mR : Nat) (xs : List Value) (ws wr : va_W) : Prop :=
  ∃ (k : Nat) (v : Int32) (S2 : bm_S) (mc ms F L F2 L2 : Nat), k ≤ 2 ∧ iV S2 (c + 1) ∧ (mc + bc S ≤ bc S2 + 1 ∧ ms + bs S ≤ bs S2 + 6) ∧ (F + 1 ≤ 11 ∧ 8 + (mL + 11) + L ≤ 428) ∧ (F2 + 1 ≤ 11 ∧ 8 + (mR + 11) + L2 ≤ 428) ∧
    ct_H l s0 D kls (ty4 cI cZ cJ cG) yL wL (rm_ F L mc ms) (.ref h :: (xs ++ [.ref qo])) (List.flatten [ow cJ qo fo, ws]) (fun z u => z = nI k ∧ ∃ f2 u2, (k = 0 → f2 0 = v.toInt64) ∧ nt_R cI cZ cG h S2 u2 ∧ u = List.flatten [ow cJ qo f2, u2]) mc ms ∧ ct_I l D kls (ty4 cI cZ cJ cG) yR wR (rm_ F2 L2 0 0) (.ref h2 :: xs) wr (fun z u => (k = 0 → z = v) ∧ rf_R cI cZ cJ h2 (nI k) S2 u) 0 0
theorem ct_H.to {l : Launch} {s0 : State} {D : va_G} {cl : List vw_C} {tys : List (ClassId × FieldType)} {y : MethodName} {wy : List Cond} {rm : Room} {av : List Value} {wc : va_W} {mc ms : Nat} {p1 p2 : Int32 → va_W → Prop} (h : ct_H l s0 D cl tys y wy rm av wc p1 mc ms) (k : ∀ r u, p1 r u → p2 r u) : ct_H l s0 D cl tys y wy rm av wc p2 mc ms := by
  intro sz p e a1 a2 a3 s m args below h1 h2 h3 h4
  obtain ⟨n, o, b1, b2, b3, ⟨⟨⟨r, u, q1, q2, q3⟩, q4⟩, q5⟩⟩ := h sz p e a1 a2 a3 s m args below h1 h2 h3 h4
  exact ⟨n, o, b1, b2, b3, ⟨⟨⟨r, u, q1, k r u q2, q3⟩, q4⟩, q5⟩⟩
theorem cost_0 {S S2 : bm_S} (h1 : bc S2 = bc S) (h2 : bs S2 = bs S) : 0 + bc S ≤ bc S2 + 1 ∧ 0 + bs S ≤ bs S2 + 6 := by omega
theorem cost_1 (S : bm_S) : 1 + bc S ≤ bc S + 1 ∧ 6 + bs S ≤ bs S + 6 := by omega
/-- from what a wrapper says to what the law wants -/
theorem wr_i {cI cZ cJ cG : ClassId} {h qo : Nat} {fo : Nat → Int64} {S2 : bm_S} {v : Int32} {post : Int32 → va_W → Prop} (hp : ∀ r u, post r u → r = v ∧ nt_R cI cZ cG h S2 u) : ∀ (z : Int32) (u : va_W), (z = nI 0 ∧ ∃ r u2, post r u2 ∧ u = List.flatten [[(qo, .inl (cJ, 1, .inr (.inl (vp_updL fo 0 r.toInt64))))], u2]) → (z = nI 0 ∧ ∃ f2 u2, (0 = 0 → f2 0 = v.toInt64) ∧ nt_R cI cZ cG h S2 u2 ∧ u = List.flatten [ow cJ qo f2, u2]) := by
  rintro z u ⟨hz, r, u2, hpo, hu⟩
  obtain ⟨h1, h2⟩ := hp r u2 hpo
  exact ⟨hz, _, u2, fun _ => by rw [h1]; exact if_pos rfl, h2, hu⟩
theorem wr_x {cI cZ cJ cG : ClassId} {h qo k : Nat} {fo : Nat → Int64} {S2 : bm_S} {v : Int32} (hk : k ≠ 0) : ∀ (z : Int32) (u : va_W), (z = nI k ∧ ∃ u2, nt_R cI cZ cG h S2 u2 ∧ u = List.flatten [[(qo, .inl (cJ, 1, .inr (.inl fo)))], u2]) → (z = nI k ∧ ∃ f2 u2, (k = 0 → f2 0 = v.toInt64) ∧ nt_R cI cZ cG h S2 u2 ∧ u = List.flatten [ow cJ qo f2, u2]) := by
  rintro z u ⟨hz, u2, hpo, hu⟩
  exact ⟨hz, fo, u2, fun e => absurd e hk, hpo, hu⟩
theorem rg_12 {x y : Int32} (h : ¬ (rg 0 12 x = false ∨ rg 0 12 y = false)) : ∃ r o, r < 12 ∧ o < 12 ∧ x = nI r ∧ y = nI o := by
  have h1 : rg 0 12 x = true := by cases q : rg 0 12 x with | true => rfl | false => exact absurd (Or.inl q) h
  have h2 : rg 0 12 y = true := by cases q : rg 0 12 y with | true => rfl | false => exact absurd (Or.inr q) h
  obtain ⟨r, hr, hx⟩ := rg_n (k := 12) h1
  obtain ⟨o, ho, hy⟩ := rg_n (k := 12) h2
  exact ⟨r, o, hr, ho, hx, hy⟩
theorem rg_1000 {x : Int32} (h : rg 1 1001 x = true) : ∃ n, 1 ≤ n ∧ n ≤ 1000 ∧ x = nI n := by
  have h1 := of_decide_eq_true h
  exact ⟨x.toInt.toNat, by omega, by omega, Int32.toInt_inj.mp (by rw [nI_toInt (show x.toInt.toNat < 2 ^ 31 by omega)]; omega)⟩
theorem rg_pk {x : Int32} {m : Nat} (hm : m ≤ 900) (h : rg 1 ((m : Int) + 1) x = true) : ∃ n, 1 ≤ n ∧ n ≤ m ∧ x = nI n := by
  have h1 := of_decide_eq_true h
  exact ⟨x.toInt.toNat, by omega, by omega, Int32.toInt_inj.mp (by rw [nI_toInt (show x.toInt.toNat < 2 ^ 31 by omega)]; omega)⟩
theorem rg_tf {a b : Int} {x : Int32} (h : ¬ rg a b x = false) : rg a b x = true := by cases q : rg a b x with | true => rfl | false => exact absurd q h
theorem cost_G {S S2 : bm_S} (hT : S2.T = S.T) (hD : S2.D = S.D) (hG : S.G.2.2.2.1.1 ≤ S2.G.2.2.2.1.1) : (S2.G.2.2.2.1.1 - S.G.2.2.2.1.1) + bc S ≤ bc S2 + 1 ∧ 2 * 3 * (S2.G.2.2.2.1.1 - S.G.2.2.2.1.1) + bs S ≤ bs S2 + 6 := by
  unfold bc bs
  rw [hT, hD]
  omega
theorem cost_D {S S2 : bm_S} (hT : S2.T = S.T) (hG : S2.G = S.G) (h1 : S.D.1.1 ≤ S2.D.1.1) (h2 : S.D.2.1.1 ≤ S2.D.2.1.1) : (S2.D.1.1 - S.D.1.1) + (S2.D.2.1.1 - S.D.2.1.1) + bc S ≤ bc S2 + 1 ∧ 2 * 2 * (S2.D.1.1 - S.D.1.1) + 2 * 5 * (S2.D.2.1.1 - S.D.2.1.1) + bs S ≤ bs S2 + 6 := by
  unfold bc bs
  rw [hT, hG]
  omega
set_option maxHeartbeats 800000 in
theorem cs_edge (l : Launch) (s0 : State) (A0 : Array Value) (h0 : fz_0 A0 s0) (hnc : nc_0 A0 s0) (hfl : ∀ e : Env, l.admits e → e.platform.stackTraces = false) (D : va_G) (cI cZ cJ cG : ClassId) {h h2 c : Nat} {S : bm_S} {cd : Int32} {ws wr : va_W} (hR : nt_R cI cZ cG h S ws) (hr : rf_R cI cZ cJ h2 cd S wr) (hv : iV S c) (hc : c < 512) (x y : Int32) : oV l s0 D cI cZ cJ cG h h2 S c y_Law_edge wh_edge 4 y_Ref_edge ws_Ref_edge 4 [.int x, .int y] ws wr := by
  have hi := hv.ri (Nat.le_of_lt hc)
  have hsi := hv.si (Nat.le_of_lt hc)
  by_cases hA : ∃ r b, x = nI r ∧ y = nI b ∧ r < 12 ∧ b < 32 ∧ S.eb r = none ∧ ∀ k, k < 12 → S.eb k ≠ some b
  · obtain ⟨r, b, rfl, rfl, hr9, hb9, hne, hnt⟩ := hA
    exact ⟨0, bm_edge r b S, 0, 0, 2, 44, 2, 45, by decide, hv.edge hr9 hb9 hne, (cost_0 rfl rfl), ⟨Nat.le_of_ble_eq_true rfl, Nat.le_of_ble_eq_true rfl⟩, ⟨Nat.le_of_ble_eq_true rfl, Nat.le_of_ble_eq_true rfl⟩, k_Law_edge l s0 D cI cZ cJ cG (nt_mem hR) (nI r) (nI b) (k_Net_edge l D cI cZ cJ cG hR r b hr9 hb9 ((em_0 (fun b z => hv.1.1 r b z)).mpr hne) ((hv.1.2.1 b hb9).mpr hnt)), k_Ref_edge l D cI cZ cJ cG hr hi r b hr9 hb9 hne hnt⟩
  · have hno : ¬ ∃ r b, x = nI r ∧ y = nI b ∧ r < 12 ∧ b < 32 ∧ bm_em (S.eb r) = 0 ∧ S.tk &&& bm_em (some b) = 0 := fun ⟨r, b, q1, q2, q3, q4, q5, q6⟩ => hA ⟨r, b, q1, q2, q3, q4, (em_0 (fun b z => hv.1.1 r b z)).mp q5, (hv.1.2.1 b q4).mp q6⟩
    exact ⟨1, S, 1, 6, 8, 124, 2, 45, by decide, hv.more, cost_1 S, ⟨Nat.le_of_ble_eq_true rfl, Nat.le_of_ble_eq_true rfl⟩, ⟨Nat.le_of_ble_eq_true rfl, Nat.le_of_ble_eq_true rfl⟩, x_Law_edge l s0 D cI cZ cJ cG (nt_mem hR) x y A0 hnc (x_Net_edge l s0 A0 h0 hfl D cI cZ cJ cG hR x y hno), n_Ref_edge l D cI cZ cJ cG hr hi x y hA⟩
set_option maxHeartbeats 800000 in
theorem cs_link (l : Launch) (s0 : State) (A0 : Array Value) (h0 : fz_0 A0 s0) (hnc : nc_0 A0 s0) (hfl : ∀ e : Env, l.admits e → e.platform.stackTraces = false) (D : va_G) (cI cZ cJ cG : ClassId) {h h2 c : Nat} {S : bm_S} {cd : Int32} {ws wr : va_W} (hR : nt_R cI cZ cG h S ws) (hr : rf_R cI cZ cJ h2 cd S wr) (hv : iV S c) (hc : c < 512) (x y z9 : Int32) : oV l s0 D cI cZ cJ cG h h2 S c y_Law_link wh_link 5 y_Ref_link ws_Ref_link 6 [.int x, .int y, .int z9] ws wr := by
  have hi := hv.ri (Nat.le_of_lt hc)
  have hsi := hv.si (Nat.le_of_lt hc)
  have hta := hv.2.2.1.2.2.2.1
  by_cases hm : S.T.2.2.1.2.1 < 2000
  · have hlr : bm_lroom S := ⟨hm, by omega⟩
    by_cases hA : ∃ r o v, x = nI r ∧ y = nI o ∧ z9 = nI v ∧ r < 12 ∧ o < 12 ∧ r ≠ o ∧ 1 ≤ v ∧ v ≤ 1000 ∧ S.lk r o = 0
    · obtain ⟨r, o, v, rfl, rfl, rfl, hr9, ho9, hro, hv1, hv2, hex⟩ := hA
      have hV := hv.link hc hr9 ho9 hro hv2 hm
      have hL := hv.2.1.link (r := r) (o := o) hro hv2
      exact ⟨0, bm_lnk r o v S, bm_gc S.T (bm_greet (bm_both S.kn r o v) (min r o) (max r o) S.T), bm_gs S.T (bm_greet (bm_both S.kn r o v) (min r o) (max r o) S.T), 8, 188, 3, 73, by decide, hV, (cost_T (S := S) (S2 := bm_lnk r o v S) rfl rfl (bm_greet_le _ _ _ _)), ⟨Nat.le_of_ble_eq_true rfl, Nat.le_of_ble_eq_true rfl⟩, ⟨Nat.le_of_ble_eq_true rfl, Nat.le_of_ble_eq_true rfl⟩, k_Law_link l s0 D cI cZ cJ cG (nt_mem hR) (nI r) (nI o) (nI v) (k_Net_link l D cI cZ cJ cG hR hsi r o v hr9 ho9 hro hv1 hv2 hlr hex hL.2.1 hL.1 hV.2.2.1.cap), k_Ref_link l D cI cZ cJ cG hr hi r o hr9 ho9 v hro hv1 hv2 hm hex hL.2.1⟩
    · skip
      exact ⟨2, S, 1, 6, 8, 125, 3, 73, by decide, hv.more, cost_1 S, ⟨Nat.le_of_ble_eq_true rfl, Nat.le_of_ble_eq_true rfl⟩, ⟨Nat.le_of_ble_eq_true rfl, Nat.le_of_ble_eq_true rfl⟩, x_Law_link l s0 D cI cZ cJ cG (nt_mem hR) x y z9 A0 hnc (x_Net_link l s0 A0 h0 hfl D cI cZ cJ cG hR hsi x y z9 hlr hA), n_Ref_link l D cI cZ cJ cG hr hi x y z9 hm hA⟩
  · skip
    exact ⟨1, S, 1, 6, 8, 125, 3, 73, by decide, hv.more, cost_1 S, ⟨Nat.le_of_ble_eq_true rfl, Nat.le_of_ble_eq_true rfl⟩, ⟨Nat.le_of_ble_eq_true rfl, Nat.le_of_ble_eq_true rfl⟩, x_Law_link_room l s0 D cI cZ cJ cG (nt_mem hR) x y z9 A0 hnc (x_Net_link_room l s0 A0 h0 hfl D cI cZ cJ cG hR x y z9 (by omega) (fun z => hm z.1)), n_Ref_link_room l D cI cZ cJ cG hr hi x y z9 (by omega)⟩
set_option maxHeartbeats 800000 in
theorem cs_cut (l : Launch) (s0 : State) (A0 : Array Value) (h0 : fz_0 A0 s0) (hnc : nc_0 A0 s0) (hfl : ∀ e : Env, l.admits e → e.platform.stackTraces = false) (D : va_G) (cI cZ cJ cG : ClassId) {h h2 c : Nat} {S : bm_S} {cd : Int32} {ws wr : va_W} (hR : nt_R cI cZ cG h S ws) (hr : rf_R cI cZ cJ h2 cd S wr) (hv : iV S c) (hc : c < 512) (x y : Int32) : oV l s0 D cI cZ cJ cG h h2 S c y_Law_cut wh_cut 4 y_Ref_cut ws_Ref_cut 3 [.int x, .int y] ws wr := by
  have hi := hv.ri (Nat.le_of_lt hc)
  have hsi := hv.si (Nat.le_of_lt hc)
  by_cases hA : ∃ r o, x = nI r ∧ y = nI o ∧ r < 12 ∧ o < 12 ∧ S.lk r o = 1
  · obtain ⟨r, o, rfl, rfl, hr9, ho9, hw⟩ := hA
    exact ⟨0, bm_cut r o S, 0, 0, 3, 67, 2, 45, by decide, hv.cut hw, (cost_0 rfl rfl), ⟨Nat.le_of_ble_eq_true rfl, Nat.le_of_ble_eq_true rfl⟩, ⟨Nat.le_of_ble_eq_true rfl, Nat.le_of_ble_eq_true rfl⟩, k_Law_cut l s0 D cI cZ cJ cG (nt_mem hR) (nI r) (nI o) (k_Net_cut l D cI cZ cJ cG hR hsi r o hr9 ho9 hw), k_Ref_cut l D cI cZ cJ cG hr hi r o hr9 ho9 hw⟩
  · skip
    exact ⟨1, S, 1, 6, 8, 124, 2, 45, by decide, hv.more, cost_1 S, ⟨Nat.le_of_ble_eq_true rfl, Nat.le_of_ble_eq_true rfl⟩, ⟨Nat.le_of_ble_eq_true rfl, Nat.le_of_ble_eq_true rfl⟩, x_Law_cut l s0 D cI cZ cJ cG (nt_mem hR) x y A0 hnc (x_Net_cut l s0 A0 h0 hfl D cI cZ cJ cG hR hsi x y hA), n_Ref_cut l D cI cZ cJ cG hr hi x y hA⟩
set_option maxHeartbeats 800000 in
theorem cs_notice (l : Launch) (s0 : State) (A0 : Array Value) (h0 : fz_0 A0 s0) (hnc : nc_0 A0 s0) (hfl : ∀ e : Env, l.admits e → e.platform.stackTraces = false) (D : va_G) (cI cZ cJ cG : ClassId) {h h2 c : Nat} {S : bm_S} {cd : Int32} {ws wr : va_W} (hR : nt_R cI cZ cG h S ws) (hr : rf_R cI cZ cJ h2 cd S wr) (hv : iV S c) (hc : c < 512) (x y : Int32) : oV l s0 D cI cZ cJ cG h h2 S c y_Law_notice wh_notice 4 y_Ref_notice ws_Ref_notice 3 [.int x, .int y] ws wr := by
  have hi := hv.ri (Nat.le_of_lt hc)
  have hsi := hv.si (Nat.le_of_lt hc)
  have hta := hv.2.2.1.2.2.2.1
  by_cases hm : S.T.2.2.1.2.1 < 2000
  · have hlr : bm_lroom S := ⟨hm, by omega⟩
    by_cases hA : ∃ r o, x = nI r ∧ y = nI o ∧ r < 12 ∧ o < 12 ∧ S.kn r o ≠ 0 ∧ S.lk r o = 2
    · obtain ⟨r, o, rfl, rfl, hr9, ho9, hkw, hcu⟩ := hA
      have hV := hv.notice hc hr9 hcu hm
      exact ⟨0, bm_noti r o S, bm_gc S.T (bm_adv (bm_nkn r o S) r S.T), bm_gs S.T (bm_adv (bm_nkn r o S) r S.T), 7, 165, 3, 73, by decide, hV, (cost_T (S := S) (S2 := bm_noti r o S) rfl rfl (bm_adv_le _ _ _)), ⟨Nat.le_of_ble_eq_true rfl, Nat.le_of_ble_eq_true rfl⟩, ⟨Nat.le_of_ble_eq_true rfl, Nat.le_of_ble_eq_true rfl⟩, k_Law_notice l s0 D cI cZ cJ cG (nt_mem hR) (nI r) (nI o) (k_Net_notice l D cI cZ cJ cG hR hsi r o hr9 ho9 hlr hkw hcu hV.2.1.2.1 hV.2.1.1 hV.2.2.1.cap), k_Ref_notice l D cI cZ cJ cG hr hi r o hr9 ho9 hm hkw hcu hV.2.1.2.1⟩
    · skip
      exact ⟨2, S, 1, 6, 8, 124, 3, 73, by decide, hv.more, cost_1 S, ⟨Nat.le_of_ble_eq_true rfl, Nat.le_of_ble_eq_true rfl⟩, ⟨Nat.le_of_ble_eq_true rfl, Nat.le_of_ble_eq_true rfl⟩, x_Law_notice l s0 D cI cZ cJ cG (nt_mem hR) x y A0 hnc (x_Net_notice l s0 A0 h0 hfl D cI cZ cJ cG hR hsi x y hlr hA), n_Ref_notice l D cI cZ cJ cG hr hi x y hm hA⟩
  · skip
    exact ⟨1, S, 1, 6, 8, 124, 3, 73, by decide, hv.more, cost_1 S, ⟨Nat.le_of_ble_eq_true rfl, Nat.le_of_ble_eq_true rfl⟩, ⟨Nat.le_of_ble_eq_true rfl, Nat.le_of_ble_eq_true rfl⟩, x_Law_notice_room l s0 D cI cZ cJ cG (nt_mem hR) x y A0 hnc (x_Net_notice_room l s0 A0 h0 hfl D cI cZ cJ cG hR x y (by omega) (fun z => hm z.1)), n_Ref_notice_room l D cI cZ cJ cG hr hi x y (by omega)⟩
set_option maxHeartbeats 800000 in
theorem cs_step (l : Launch) (s0 : State) (A0 : Array Value) (h0 : fz_0 A0 s0) (hnc : nc_0 A0 s0) (hfl : ∀ e : Env, l.admits e → e.platform.stackTraces = false) (D : va_G) (cI cZ cJ cG : ClassId) {h h2 c qo : Nat} {fo : Nat → Int64} {S : bm_S} {cd : Int32} {ws wr : va_W} (hR : nt_R cI cZ cG h S ws) (hr : rf_R cI cZ cJ h2 cd S wr) (hv : iV S c) (hc : c < 512) (x : Int32) : oI l s0 D cI cZ cJ cG h h2 qo fo S c y_Law_step wh_step 4 y_Ref_step ws_Ref_step 3 [.int x] ws wr := by
  have hi := hv.ri (Nat.le_of_lt hc)
  have hsi := hv.si (Nat.le_of_lt hc)
  by_cases hm : S.T.2.2.1.2.1 < 3900
  · by_cases hA : rg 1 1001 x = false
    · skip
      exact ⟨2, 0, S, 1, 6, 8, 124, 3, 72, by decide, hv.more, cost_1 S, ⟨Nat.le_of_ble_eq_true rfl, Nat.le_of_ble_eq_true rfl⟩, ⟨Nat.le_of_ble_eq_true rfl, Nat.le_of_ble_eq_true rfl⟩, (x_Law_step l s0 D cI cZ cJ cG (nt_mem hR) x A0 hnc (x_Net_step l s0 A0 h0 hfl D cI cZ cJ cG hR x hm hA)).to (wr_x (by decide)), (n_Ref_step l D cI cZ cJ cG hr hi x hm hA).to (fun z u q => ⟨fun e => absurd e (by decide), q⟩)⟩
    · obtain ⟨n, hn1, hn2, rfl⟩ := rg_1000 (rg_tf hA)
      obtain ⟨d, hd1, hd2, hd3⟩ := ex_d (bm_sgo S) n
      have hV := hv.stp (d := d) (by omega) hd2
      have hq : ∀ j, j ≤ n → (∀ i, i < j → bm_sgo S i) → bm_ok (bm_sj S j).1 ∧ bm_cap (bm_sj S j).1 ∧ bm_gc S.T (bm_sj S j).1 ≤ bm_gc S.T (bm_sj S d).1 ∧ bm_gs S.T (bm_sj S j).1 ≤ bm_gs S.T (bm_sj S d).1 := fun j hj hg => by
        have hjd := le_d hd3 hj hg
        have q := hv.2.2.1.step j (by omega) hg
        exact ⟨q.1.1, ⟨by rw [q.2.2.1]; exact hsi.2.2.2.1.1, Nat.le_trans q.2.1.2.1 (by decide)⟩, bm_gc_le (bm_sj_le S j) (sj_mono S d j hjd), bm_gs_le (bm_sj_le S j) (sj_mono S d j hjd)⟩
      exact ⟨0, (nI d), bm_stp d S, bm_gc S.T (bm_sj S d).1, bm_gs S.T (bm_sj S d).1, 8, 190, 3, 72, by decide, hV, (cost_T (S := S) (S2 := bm_stp d S) rfl rfl (bm_sj_le S d)), ⟨Nat.le_of_ble_eq_true rfl, Nat.le_of_ble_eq_true rfl⟩, ⟨Nat.le_of_ble_eq_true rfl, Nat.le_of_ble_eq_true rfl⟩, (k_Law_step l s0 D cI cZ cJ cG (nt_mem hR) (nI n) (k_Net_step l D cI cZ cJ cG hR n hn1 hn2 hm hsi.2.1 hsi.2.2.1 (bm_gc S.T (bm_sj S d).1) (bm_gs S.T (bm_sj S d).1) hq)).to (wr_i (v := (nI d)) (S2 := bm_stp d S) (fun r u q => by obtain ⟨d2, h1, h2, h3, h4, h5⟩ := q; have e := un_d (go := bm_sgo S) h2 h3 h4 hd1 hd2 hd3; rw [← e]; exact ⟨h1, h5⟩)), (k_Ref_step l D cI cZ cJ cG hr hi n hn1 hn2 hm (fun j hj hg => (hq j hj hg).1)).to (fun z u q => by obtain ⟨d2, h1, h2, h3, h4, h5⟩ := q; have e := un_d (go := bm_sgo S) h2 h3 h4 hd1 hd2 hd3; rw [← e]; exact ⟨fun _ => h1, h5⟩)⟩
  · skip
    exact ⟨1, 0, S, 1, 6, 8, 124, 3, 72, by decide, hv.more, cost_1 S, ⟨Nat.le_of_ble_eq_true rfl, Nat.le_of_ble_eq_true rfl⟩, ⟨Nat.le_of_ble_eq_true rfl, Nat.le_of_ble_eq_true rfl⟩, (x_Law_step_room l s0 D cI cZ cJ cG (nt_mem hR) x A0 hnc (x_Net_step_room l s0 A0 h0 hfl D cI cZ cJ cG hR x (by omega))).to (wr_x (by decide)), (n_Ref_step_room l D cI cZ cJ cG hr hi x (by omega)).to (fun z u q => ⟨fun e => absurd e (by decide), q⟩)⟩
set_option maxHeartbeats 800000 in
theorem cs_mask (l : Launch) (s0 : State) (A0 : Array Value) (h0 : fz_0 A0 s0) (hnc : nc_0 A0 s0) (hfl : ∀ e : Env, l.admits e → e.platform.stackTraces = false) (D : va_G) (cI cZ cJ cG : ClassId) {h h2 c qo : Nat} {fo : Nat → Int64} {S : bm_S} {cd : Int32} {ws wr : va_W} (hR : nt_R cI cZ cG h S ws) (hr : rf_R cI cZ cJ h2 cd S wr) (hv : iV S c) (hc : c < 512) (x y : Int32) : oI l s0 D cI cZ cJ cG h h2 qo fo S c y_Law_mask wh_mask 5 y_Ref_mask ws_Ref_mask 3 [.int x, .int y] ws wr := by
  have hi := hv.ri (Nat.le_of_lt hc)
  have hsi := hv.si (Nat.le_of_lt hc)
  by_cases hA : rg 0 12 x = false ∨ rg 0 12 y = false
  · skip
    exact ⟨1, 0, S, 1, 6, 8, 124, 2, 50, by decide, hv.more, cost_1 S, ⟨Nat.le_of_ble_eq_true rfl, Nat.le_of_ble_eq_true rfl⟩, ⟨Nat.le_of_ble_eq_true rfl, Nat.le_of_ble_eq_true rfl⟩, (x_Law_mask l s0 D cI cZ cJ cG (nt_mem hR) x y A0 hnc (x_Net_mask l s0 A0 h0 hfl D cI cZ cJ cG hR x y hA)).to (wr_x (by decide)), (n_Ref_mask l D cI cZ cJ cG hr hi x y hA).to (fun z u q => ⟨fun e => absurd e (by decide), q⟩)⟩
  · obtain ⟨r, o, hr9, ho9, rfl, rfl⟩ := rg_12 hA
    exact ⟨0, (bm_mkr S.T.1.2.2 S.T.2.1 S.eb r o), S, 0, 0, 6, 137, 2, 50, by decide, hv.more, (cost_0 rfl rfl), ⟨Nat.le_of_ble_eq_true rfl, Nat.le_of_ble_eq_true rfl⟩, ⟨Nat.le_of_ble_eq_true rfl, Nat.le_of_ble_eq_true rfl⟩, (k_Law_mask l s0 D cI cZ cJ cG (nt_mem hR) (nI r) (nI o) (k_Net_mask l D cI cZ cJ cG hR hsi r o hr9 ho9)).to (wr_i (v := (bm_mkr S.T.1.2.2 S.T.2.1 S.eb r o)) (S2 := S) (fun r u q => ⟨q.1, q.2⟩)), (k_Ref_mask l D cI cZ cJ cG hr hi r o hr9 ho9).to (fun z u q => ⟨fun _ => q.1, q.2⟩)⟩
set_option maxHeartbeats 800000 in
theorem cs_distance (l : Launch) (s0 : State) (A0 : Array Value) (h0 : fz_0 A0 s0) (hnc : nc_0 A0 s0) (hfl : ∀ e : Env, l.admits e → e.platform.stackTraces = false) (D : va_G) (cI cZ cJ cG : ClassId) {h h2 c qo : Nat} {fo : Nat → Int64} {S : bm_S} {cd : Int32} {ws wr : va_W} (hR : nt_R cI cZ cG h S ws) (hr : rf_R cI cZ cJ h2 cd S wr) (hv : iV S c) (hc : c < 512) (x y : Int32) : oI l s0 D cI cZ cJ cG h h2 qo fo S c y_Law_distance wh_distance 5 y_Ref_distance ws_Ref_distance 3 [.int x, .int y] ws wr := by
  have hi := hv.ri (Nat.le_of_lt hc)
  have hsi := hv.si (Nat.le_of_lt hc)
  by_cases hA : rg 0 12 x = false ∨ rg 0 12 y = false
  · skip
    exact ⟨1, 0, S, 1, 6, 8, 124, 2, 50, by decide, hv.more, cost_1 S, ⟨Nat.le_of_ble_eq_true rfl, Nat.le_of_ble_eq_true rfl⟩, ⟨Nat.le_of_ble_eq_true rfl, Nat.le_of_ble_eq_true rfl⟩, (x_Law_distance l s0 D cI cZ cJ cG (nt_mem hR) x y A0 hnc (x_Net_distance l s0 A0 h0 hfl D cI cZ cJ cG hR x y hA)).to (wr_x (by decide)), (n_Ref_distance l D cI cZ cJ cG hr hi x y hA).to (fun z u q => ⟨fun e => absurd e (by decide), q⟩)⟩
  · obtain ⟨r, o, hr9, ho9, rfl, rfl⟩ := rg_12 hA
    exact ⟨0, (bm_oI (bn_len (vw0 S.T.1.2.2 S.T.2.1 r) r o)), S, 0, 0, 5, 115, 2, 50, by decide, hv.more, (cost_0 rfl rfl), ⟨Nat.le_of_ble_eq_true rfl, Nat.le_of_ble_eq_true rfl⟩, ⟨Nat.le_of_ble_eq_true rfl, Nat.le_of_ble_eq_true rfl⟩, (k_Law_distance l s0 D cI cZ cJ cG (nt_mem hR) (nI r) (nI o) (k_Net_distance l D cI cZ cJ cG hR hsi r o hr9 ho9)).to (wr_i (v := (bm_oI (bn_len (vw0 S.T.1.2.2 S.T.2.1 r) r o))) (S2 := S) (fun r u q => ⟨q.1, q.2⟩)), (k_Ref_distance l D cI cZ cJ cG hr hi r o hr9 ho9).to (fun z u q => ⟨fun _ => q.1, q.2⟩)⟩
set_option maxHeartbeats 800000 in
theorem cs_alternate (l : Launch) (s0 : State) (A0 : Array Value) (h0 : fz_0 A0 s0) (hnc : nc_0 A0 s0) (hfl : ∀ e : Env, l.admits e → e.platform.stackTraces = false) (D : va_G) (cI cZ cJ cG : ClassId) {h h2 c qo : Nat} {fo : Nat → Int64} {S : bm_S} {cd : Int32} {ws wr : va_W} (hR : nt_R cI cZ cG h S ws) (hr : rf_R cI cZ cJ h2 cd S wr) (hv : iV S c) (hc : c < 512) (x y : Int32) : oI l s0 D cI cZ cJ cG h h2 qo fo S c y_Law_alternate wh_alternate 5 y_Ref_alternate ws_Ref_alternate 5 [.int x, .int y] ws wr := by
  have hi := hv.ri (Nat.le_of_lt hc)
  have hsi := hv.si (Nat.le_of_lt hc)
  by_cases hA : rg 0 12 x = false ∨ rg 0 12 y = false
  · skip
    exact ⟨1, 0, S, 1, 6, 8, 124, 2, 50, by decide, hv.more, cost_1 S, ⟨Nat.le_of_ble_eq_true rfl, Nat.le_of_ble_eq_true rfl⟩, ⟨Nat.le_of_ble_eq_true rfl, Nat.le_of_ble_eq_true rfl⟩, (x_Law_alternate l s0 D cI cZ cJ cG (nt_mem hR) x y A0 hnc (x_Net_alternate l s0 A0 h0 hfl D cI cZ cJ cG hR x y hA)).to (wr_x (by decide)), (n_Ref_alternate l D cI cZ cJ cG hr hi x y hA).to (fun z u q => ⟨fun e => absurd e (by decide), q⟩)⟩
  · obtain ⟨r, o, hr9, ho9, rfl, rfl⟩ := rg_12 hA
    exact ⟨0, (bm_oI (bm_alt (vw0 S.T.1.2.2 S.T.2.1 r) r o)), S, 0, 0, 5, 118, 2, 50, by decide, hv.more, (cost_0 rfl rfl), ⟨Nat.le_of_ble_eq_true rfl, Nat.le_of_ble_eq_true rfl⟩, ⟨Nat.le_of_ble_eq_true rfl, Nat.le_of_ble_eq_true rfl⟩, (k_Law_alternate l s0 D cI cZ cJ cG (nt_mem hR) (nI r) (nI o) (k_Net_alternate l D cI cZ cJ cG hR hsi r o hr9 ho9)).to (wr_i (v := (bm_oI (bm_alt (vw0 S.T.1.2.2 S.T.2.1 r) r o))) (S2 := S) (fun r u q => ⟨q.1, q.2⟩)), (k_Ref_alternate l D cI cZ cJ cG hr hi r o hr9 ho9).to (fun z u q => ⟨fun _ => q.1, q.2⟩)⟩
set_option maxHeartbeats 800000 in
theorem cs_stored (l : Launch) (s0 : State) (A0 : Array Value) (h0 : fz_0 A0 s0) (hnc : nc_0 A0 s0) (hfl : ∀ e : Env, l.admits e → e.platform.stackTraces = false) (D : va_G) (cI cZ cJ cG : ClassId) {h h2 c qo : Nat} {fo : Nat → Int64} {S : bm_S} {cd : Int32} {ws wr : va_W} (hR : nt_R cI cZ cG h S ws) (hr : rf_R cI cZ cJ h2 cd S wr) (hv : iV S c) (hc : c < 512) (x y : Int32) : oI l s0 D cI cZ cJ cG h h2 qo fo S c y_Law_stored wh_stored 5 y_Ref_stored ws_Ref_stored 3 [.int x, .int y] ws wr := by
  have hi := hv.ri (Nat.le_of_lt hc)
  have hsi := hv.si (Nat.le_of_lt hc)
  by_cases hA : rg 0 12 x = false ∨ rg 0 12 y = false
  · skip
    exact ⟨1, 0, S, 1, 6, 8, 124, 2, 45, by decide, hv.more, cost_1 S, ⟨Nat.le_of_ble_eq_true rfl, Nat.le_of_ble_eq_true rfl⟩, ⟨Nat.le_of_ble_eq_true rfl, Nat.le_of_ble_eq_true rfl⟩, (x_Law_stored l s0 D cI cZ cJ cG (nt_mem hR) x y A0 hnc (x_Net_stored l s0 A0 h0 hfl D cI cZ cJ cG hR x y hA)).to (wr_x (by decide)), (n_Ref_stored l D cI cZ cJ cG hr hi x y hA).to (fun z u q => ⟨fun e => absurd e (by decide), q⟩)⟩
  · obtain ⟨r, o, hr9, ho9, rfl, rfl⟩ := rg_12 hA
    exact ⟨0, (nI (S.T.1.2.2 (S.T.2.1 r o) 1)), S, 0, 0, 4, 88, 2, 45, by decide, hv.more, (cost_0 rfl rfl), ⟨Nat.le_of_ble_eq_true rfl, Nat.le_of_ble_eq_true rfl⟩, ⟨Nat.le_of_ble_eq_true rfl, Nat.le_of_ble_eq_true rfl⟩, (k_Law_stored l s0 D cI cZ cJ cG (nt_mem hR) (nI r) (nI o) (k_Net_stored l D cI cZ cJ cG hR hsi r o hr9 ho9)).to (wr_i (v := (nI (S.T.1.2.2 (S.T.2.1 r o) 1))) (S2 := S) (fun r u q => ⟨q.1, by rw [q.2]; exact hR⟩)), (k_Ref_stored l D cI cZ cJ cG hr hi r o hr9 ho9).to (fun z u q => ⟨fun _ => q.1, q.2⟩)⟩
set_option maxHeartbeats 800000 in
theorem cs_ingress (l : Launch) (s0 : State) (A0 : Array Value) (h0 : fz_0 A0 s0) (hnc : nc_0 A0 s0) (hfl : ∀ e : Env, l.admits e → e.platform.stackTraces = false) (D : va_G) (cI cZ cJ cG : ClassId) {h h2 c : Nat} {S : bm_S} {cd : Int32} {ws wr : va_W} (hR : nt_R cI cZ cG h S ws) (hr : rf_R cI cZ cJ h2 cd S wr) (hv : iV S c) (hc : c < 512) (x y : Int32) : oV l s0 D cI cZ cJ cG h h2 S c y_Law_ingress wh_ingress 4 y_Ref_ingress ws_Ref_ingress 4 [.int x, .int y] ws wr := by
  have hi := hv.ri (Nat.le_of_lt hc)
  have hsi := hv.si (Nat.le_of_lt hc)
  have hE := isE_eq hv y
  by_cases hA : ∃ g, g < 8 ∧ x = nI g ∧ rf_isE S.eb y = true ∧ rf_idle S g
  · obtain ⟨g, hg, rfl, hy, hid⟩ := hA
    obtain ⟨e9, b, he, rfl, hee⟩ := rf_isE_of hy
    exact ⟨0, bm_ingr g e9 S, 0, 0, 3, 64, 3, 66, by decide, hv.ingr he (by rw [hee]; exact fun z => by cases z), (cost_0 rfl rfl), ⟨Nat.le_of_ble_eq_true rfl, Nat.le_of_ble_eq_true rfl⟩, ⟨Nat.le_of_ble_eq_true rfl, Nat.le_of_ble_eq_true rfl⟩, k_Law_ingress l s0 D cI cZ cJ cG (nt_mem hR) (nI g) (nI e9) (k_Net_ingress l D cI cZ cJ cG hR hi.2.2.2.2.2.2.2.2 g e9 hg he (by rw [hee]; exact em_ne (hv.1.1 _ b hee)) ((hv.2.2.2.2.idle hg).mpr hid)), k_Ref_ingress l D cI cZ cJ cG hr hi g hg e9 b he hee hid⟩
  · have hno : ¬ ∃ g, g < 8 ∧ x = nI g ∧ bm_isE S y = true ∧ bm_idle S g := fun ⟨g, q1, q2, q3, q4⟩ => hA ⟨g, q1, q2, hE ▸ q3, (hv.2.2.2.2.idle q1).mp q4⟩
    exact ⟨1, S, 1, 6, 8, 124, 3, 66, by decide, hv.more, cost_1 S, ⟨Nat.le_of_ble_eq_true rfl, Nat.le_of_ble_eq_true rfl⟩, ⟨Nat.le_of_ble_eq_true rfl, Nat.le_of_ble_eq_true rfl⟩, x_Law_ingress l s0 D cI cZ cJ cG (nt_mem hR) x y A0 hnc (x_Net_ingress l s0 A0 h0 hfl D cI cZ cJ cG hR hi.2.2.2.2.2.2.2.2 x y hno), n_Ref_ingress l D cI cZ cJ cG hr hi x y hA⟩
set_option maxHeartbeats 800000 in
theorem cs_join (l : Launch) (s0 : State) (A0 : Array Value) (h0 : fz_0 A0 s0) (hnc : nc_0 A0 s0) (hfl : ∀ e : Env, l.admits e → e.platform.stackTraces = false) (D : va_G) (cI cZ cJ cG : ClassId) {h h2 c qo : Nat} {fo : Nat → Int64} {S : bm_S} {cd : Int32} {ws wr : va_W} (hR : nt_R cI cZ cG h S ws) (hr : rf_R cI cZ cJ h2 cd S wr) (hv : iV S c) (hc : c < 512) (x y z9 : Int32) : oI l s0 D cI cZ cJ cG h h2 qo fo S c y_Law_join wh_join 6 y_Ref_join ws_Ref_join 8 [.int x, .int y, .int z9] ws wr := by
  have hi := hv.ri (Nat.le_of_lt hc)
  have hsi := hv.si (Nat.le_of_lt hc)
  by_cases hA : ∃ e9 g nx, e9 < 12 ∧ g < 8 ∧ x = nI e9 ∧ y = nI g ∧ S.eb e9 ≠ none ∧ (z9 = 1 ∨ z9 = -1) ∧ nI (S.G.2.2.1 e9 g) + z9 = nI nx ∧ nx ≤ 100
  · obtain ⟨e9, g, nx, he, hg, rfl, rfl, hne, hdl, hsum, hnx⟩ := hA
    obtain ⟨b, hee⟩ : ∃ b, S.eb e9 = some b := by cases hq : S.eb e9 with | none => exact absurd hq hne | some b => exact ⟨b, rfl⟩
    have hem : bm_em (S.eb e9) ≠ 0 := by rw [hee]; exact em_ne (hv.1.1 _ b hee)
    by_cases hj : bm_jroom S e9 g nx
    · have hle := rec_le S.eb e9 g nx S.G
      exact ⟨0, (nI nx), bm_joi e9 g nx S, (bm_rec S.eb e9 g nx S.G).2.2.2.1.1 - S.G.2.2.2.1.1, 2 * 3 * ((bm_rec S.eb e9 g nx S.G).2.2.2.1.1 - S.G.2.2.2.1.1), 6, 144, 3, 66, by decide, hv.joi hg hnx hj, (cost_G (S := S) (S2 := bm_joi e9 g nx S) rfl rfl hle), ⟨Nat.le_of_ble_eq_true rfl, Nat.le_of_ble_eq_true rfl⟩, ⟨Nat.le_of_ble_eq_true rfl, Nat.le_of_ble_eq_true rfl⟩, (k_Law_join l s0 D cI cZ cJ cG (nt_mem hR) (nI e9) (nI g) z9 (k_Net_join l D cI cZ cJ cG hR hi.2.2.2.2.2.2.2.2 e9 g nx z9 he hg hem hdl hsum hnx hj)).to (wr_i (v := (nI nx)) (S2 := bm_joi e9 g nx S) (fun r u q => ⟨q.1, q.2⟩)), (k_Ref_join l D cI cZ cJ cG hr hi g hg e9 b he hee nx z9 hdl hsum hnx hj).to (fun z u q => ⟨fun _ => q.1, q.2⟩)⟩
    · skip
      exact ⟨1, 0, S, 1, 6, 8, 126, 3, 66, by decide, hv.more, cost_1 S, ⟨Nat.le_of_ble_eq_true rfl, Nat.le_of_ble_eq_true rfl⟩, ⟨Nat.le_of_ble_eq_true rfl, Nat.le_of_ble_eq_true rfl⟩, (x_Law_join_room l s0 D cI cZ cJ cG (nt_mem hR) (nI e9) (nI g) z9 A0 hnc (x_Net_join_room l s0 A0 h0 hfl D cI cZ cJ cG hR hi.2.2.2.2.2.2.2.2 e9 g nx z9 he hg hem hdl hsum hnx hj)).to (wr_x (by decide)), (n_Ref_join_room l D cI cZ cJ cG hr hi g hg e9 b he hee nx z9 hdl hsum hnx hj).to (fun z u q => ⟨fun e => absurd e (by decide), q⟩)⟩
  · have hno : ¬ ∃ e9 g nx, e9 < 12 ∧ g < 8 ∧ x = nI e9 ∧ y = nI g ∧ bm_em (S.eb e9) ≠ 0 ∧ (z9 = 1 ∨ z9 = -1) ∧ nI (S.G.2.2.1 e9 g) + z9 = nI nx ∧ nx ≤ 100 := fun ⟨e9, g, nx, q1, q2, q3, q4, q5, q6⟩ => hA ⟨e9, g, nx, q1, q2, q3, q4, fun z => q5 ((em_0 (fun b z => hv.1.1 _ b z)).mpr z), q6⟩
    exact ⟨2, 0, S, 1, 6, 8, 126, 3, 66, by decide, hv.more, cost_1 S, ⟨Nat.le_of_ble_eq_true rfl, Nat.le_of_ble_eq_true rfl⟩, ⟨Nat.le_of_ble_eq_true rfl, Nat.le_of_ble_eq_true rfl⟩, (x_Law_join l s0 D cI cZ cJ cG (nt_mem hR) x y z9 A0 hnc (x_Net_join l s0 A0 h0 hfl D cI cZ cJ cG hR hi.2.2.2.2.2.2.2.2 x y z9 hno)).to (wr_x (by decide)), (n_Ref_join l D cI cZ cJ cG hr hi x y z9 hA).to (fun z u q => ⟨fun e => absurd e (by decide), q⟩)⟩
set_option maxHeartbeats 800000 in
theorem cs_report (l : Launch) (s0 : State) (A0 : Array Value) (h0 : fz_0 A0 s0) (hnc : nc_0 A0 s0) (hfl : ∀ e : Env, l.admits e → e.platform.stackTraces = false) (D : va_G) (cI cZ cJ cG : ClassId) {h h2 c : Nat} {S : bm_S} {cd : Int32} {ws wr : va_W} (hR : nt_R cI cZ cG h S ws) (hr : rf_R cI cZ cJ h2 cd S wr) (hv : iV S c) (hc : c < 512) (x : Int32) : oV l s0 D cI cZ cJ cG h h2 S c y_Law_report wh_report 3 y_Ref_report ws_Ref_report 3 [.int x] ws wr := by
  have hi := hv.ri (Nat.le_of_lt hc)
  have hsi := hv.si (Nat.le_of_lt hc)
  have hE := isE_eq hv x
  by_cases hm : S.G.2.2.2.1.2.1 < 3900
  · by_cases hA : rf_isE S.eb x = false
    · skip
      exact ⟨2, S, 1, 6, 8, 123, 3, 66, by decide, hv.more, cost_1 S, ⟨Nat.le_of_ble_eq_true rfl, Nat.le_of_ble_eq_true rfl⟩, ⟨Nat.le_of_ble_eq_true rfl, Nat.le_of_ble_eq_true rfl⟩, x_Law_report l s0 D cI cZ cJ cG (nt_mem hR) x A0 hnc (x_Net_report l s0 A0 h0 hfl D cI cZ cJ cG hR x hm (hE.trans hA)), n_Ref_report l D cI cZ cJ cG hr hi x hm hA⟩
    · obtain ⟨e9, b, he, rfl, hee⟩ := rf_isE_of (show rf_isE S.eb x = true by cases q : rf_isE S.eb x with | true => rfl | false => exact absurd q hA)
      have hV := hv.rep e9 hm
      exact ⟨0, bm_rep e9 S, (bm_tellA S.eb e9 S.G 8).2.2.2.1.1 - S.G.2.2.2.1.1, 2 * 3 * ((bm_tellA S.eb e9 S.G 8).2.2.2.1.1 - S.G.2.2.2.1.1), 6, 139, 3, 66, by decide, hV, (cost_G (S := S) (S2 := bm_rep e9 S) rfl rfl (bm_tellA_le S.eb e9 S.G 8 0 (by omega))), ⟨Nat.le_of_ble_eq_true rfl, Nat.le_of_ble_eq_true rfl⟩, ⟨Nat.le_of_ble_eq_true rfl, Nat.le_of_ble_eq_true rfl⟩, k_Law_report l s0 D cI cZ cJ cG (nt_mem hR) (nI e9) (k_Net_report l D cI cZ cJ cG hR hi.2.2.2.2.2.2.2.2 e9 he (by rw [hee]; exact em_ne (hv.1.1 _ b hee)) hm (Nat.le_trans hV.2.2.2.2.2.2.2.2.2.1.2.1 (by decide))), k_Ref_report l D cI cZ cJ cG hr hi e9 b he hee hm⟩
  · skip
    exact ⟨1, S, 1, 6, 8, 123, 3, 66, by decide, hv.more, cost_1 S, ⟨Nat.le_of_ble_eq_true rfl, Nat.le_of_ble_eq_true rfl⟩, ⟨Nat.le_of_ble_eq_true rfl, Nat.le_of_ble_eq_true rfl⟩, x_Law_report_room l s0 D cI cZ cJ cG (nt_mem hR) x A0 hnc (x_Net_report_room l s0 A0 h0 hfl D cI cZ cJ cG hR x (by omega)), n_Ref_report_room l D cI cZ cJ cG hr hi x (by omega)⟩
set_option maxHeartbeats 800000 in
theorem cs_carry (l : Launch) (s0 : State) (A0 : Array Value) (h0 : fz_0 A0 s0) (hnc : nc_0 A0 s0) (hfl : ∀ e : Env, l.admits e → e.platform.stackTraces = false) (D : va_G) (cI cZ cJ cG : ClassId) {h h2 c qo : Nat} {fo : Nat → Int64} {S : bm_S} {cd : Int32} {ws wr : va_W} (hR : nt_R cI cZ cG h S ws) (hr : rf_R cI cZ cJ h2 cd S wr) (hv : iV S c) (hc : c < 512) (x : Int32) : oI l s0 D cI cZ cJ cG h h2 qo fo S c y_Law_carry wh_carry 4 y_Ref_carry ws_Ref_carry 6 [.int x] ws wr := by
  have hi := hv.ri (Nat.le_of_lt hc)
  have hsi := hv.si (Nat.le_of_lt hc)
  by_cases hm1 : x = -1
  · subst hm1
    exact ⟨0, (nI (if S.G.2.2.2.1.2.1 = 0 then 0 else 1)), bm_close S, 0, 0, 4, 87, 1, 25, by decide, hv.close, (cost_0 (by unfold bc; rw [show (bm_close S).G = bm_glose S.G from rfl, glose_1]; rfl) (by unfold bs; rw [show (bm_close S).G = bm_glose S.G from rfl, glose_1]; rfl)), ⟨Nat.le_of_ble_eq_true rfl, Nat.le_of_ble_eq_true rfl⟩, ⟨Nat.le_of_ble_eq_true rfl, Nat.le_of_ble_eq_true rfl⟩, (k_Law_carry_lose l s0 D cI cZ cJ cG (nt_mem hR) (-1) (k_Net_carry_lose l D cI cZ cJ cG hR (fun hp => hv.2.2.2.2.hq 0 hp))).to (wr_i (v := (nI (if S.G.2.2.2.1.2.1 = 0 then 0 else 1))) (S2 := bm_close S) (fun r u q => ⟨q.1, q.2⟩)), (k_Ref_carry_lose l D cI cZ cJ cG hr hi).to (fun z u q => ⟨fun _ => q.1, q.2⟩)⟩
  · by_cases hA : rg 1 1001 x = false
    · skip
      exact ⟨1, 0, S, 1, 6, 8, 124, 1, 25, by decide, hv.more, cost_1 S, ⟨Nat.le_of_ble_eq_true rfl, Nat.le_of_ble_eq_true rfl⟩, ⟨Nat.le_of_ble_eq_true rfl, Nat.le_of_ble_eq_true rfl⟩, (x_Law_carry l s0 D cI cZ cJ cG (nt_mem hR) x A0 hnc (x_Net_carry l s0 A0 h0 hfl D cI cZ cJ cG hR x hm1 hA)).to (wr_x (by decide)), (n_Ref_carry l D cI cZ cJ cG hr hi x hm1 hA).to (fun z u q => ⟨fun e => absurd e (by decide), q⟩)⟩
    · obtain ⟨n, hn1, hn2, rfl⟩ := rg_1000 (rg_tf hA)
      obtain ⟨d, hd1, hd2, hd3⟩ := ex_d (fun j => 0 < (bm_git S.G j).2.2.2.1.2.1) n
      exact ⟨0, (nI d), bm_cry d S, 0, 0, 4, 90, 1, 25, by decide, hv.cry hd2, (cost_0 (by unfold bc; rw [show (bm_cry d S).G = bm_git S.G d from rfl, git_1]; rfl) (by unfold bs; rw [show (bm_cry d S).G = bm_git S.G d from rfl, git_1]; rfl)), ⟨Nat.le_of_ble_eq_true rfl, Nat.le_of_ble_eq_true rfl⟩, ⟨Nat.le_of_ble_eq_true rfl, Nat.le_of_ble_eq_true rfl⟩, (k_Law_carry l s0 D cI cZ cJ cG (nt_mem hR) (nI n) (k_Net_carry l D cI cZ cJ cG hR n hn1 hn2 (fun j hj => hv.2.2.2.2.hq j hj))).to (wr_i (v := (nI d)) (S2 := bm_cry d S) (fun r u q => by obtain ⟨d2, h1, h2, h3, h4, h5⟩ := q; have e := un_d (go := fun j => 0 < (bm_git S.G j).2.2.2.1.2.1) h2 h3 (h4.elim Or.inl (fun z => Or.inr (by omega))) hd1 hd2 hd3; rw [← e]; exact ⟨h1, h5⟩)), (k_Ref_carry l D cI cZ cJ cG hr hi n hn1 hn2).to (fun z u q => by obtain ⟨d2, h1, h2, h3, h4, h5⟩ := q; have e := un_d (go := fun j => 0 < (bm_git S.G j).2.2.2.1.2.1) h2 h3 (h4.elim Or.inl (fun z => Or.inr (by omega))) hd1 hd2 hd3; rw [← e]; exact ⟨fun _ => h1, h5⟩)⟩
set_option maxHeartbeats 800000 in
theorem cs_bits (l : Launch) (s0 : State) (A0 : Array Value) (h0 : fz_0 A0 s0) (hnc : nc_0 A0 s0) (hfl : ∀ e : Env, l.admits e → e.platform.stackTraces = false) (D : va_G) (cI cZ cJ cG : ClassId) {h h2 c qo : Nat} {fo : Nat → Int64} {S : bm_S} {cd : Int32} {ws wr : va_W} (hR : nt_R cI cZ cG h S ws) (hr : rf_R cI cZ cJ h2 cd S wr) (hv : iV S c) (hc : c < 512) (x : Int32) : oI l s0 D cI cZ cJ cG h h2 qo fo S c y_Law_bits wh_bits 4 y_Ref_bits ws_Ref_bits 2 [.int x] ws wr := by
  have hi := hv.ri (Nat.le_of_lt hc)
  have hsi := hv.si (Nat.le_of_lt hc)
  by_cases hA : rg 0 8 x = false
  · skip
    exact ⟨1, 0, S, 1, 6, 8, 123, 2, 45, by decide, hv.more, cost_1 S, ⟨Nat.le_of_ble_eq_true rfl, Nat.le_of_ble_eq_true rfl⟩, ⟨Nat.le_of_ble_eq_true rfl, Nat.le_of_ble_eq_true rfl⟩, (x_Law_bits l s0 D cI cZ cJ cG (nt_mem hR) x A0 hnc (x_Net_bits l s0 A0 h0 hfl D cI cZ cJ cG hR x hA)).to (wr_x (by decide)), (n_Ref_bits l D cI cZ cJ cG hr hi x hA).to (fun z u q => ⟨fun e => absurd e (by decide), q⟩)⟩
  · obtain ⟨g, hg, rfl⟩ := rg_n (k := 8) (rg_tf hA)
    exact ⟨0, (S.G.2.1 g), S, 0, 0, 2, 42, 2, 45, by decide, hv.more, (cost_0 rfl rfl), ⟨Nat.le_of_ble_eq_true rfl, Nat.le_of_ble_eq_true rfl⟩, ⟨Nat.le_of_ble_eq_true rfl, Nat.le_of_ble_eq_true rfl⟩, (k_Law_bits l s0 D cI cZ cJ cG (nt_mem hR) (nI g) (k_Net_bits l D cI cZ cJ cG hR g hg)).to (wr_i (v := (S.G.2.1 g)) (S2 := S) (fun r u q => ⟨q.1, by rw [q.2]; exact hR⟩)), (k_Ref_bits l D cI cZ cJ cG hr hi g hg (fun z => hv.2.2.2.2.2.2.2.2.2.2.2.2 g hg z)).to (fun z u q => ⟨fun _ => q.1, q.2⟩)⟩
theorem parts_1 (mk : Nat → Int32) (p r h : Nat) (Z : Int32 × bm_D) : ∀ n, (bm_parts mk p r h Z n).2.1.1 = Z.2.1.1
  | 0 => rfl
  | n + 1 => by
    unfold bm_parts
    split
    · exact parts_1 mk p r h Z n
    · refine Eq.trans ?_ (parts_1 mk p r h Z n)
      unfold bm_on
      split <;> rfl
theorem handle_1 (eb : Nat → Option Nat) (mk : Nat → Int32) (p r : Nat) (set : Int32) (h : Nat) (D : bm_D) : (bm_handle eb mk p r set h D).1.1 = D.1.1 := (parts_1 _ _ _ _ _ 12).trans (bm_own_1 _ _ _).1
theorem start_1 (eb : Nat → Option Nat) (mk : Nat → Int32) (r : Nat) (set : Int32) (D : bm_D) : D.1.1 ≤ (bm_start eb mk r set D).1.1 := by
  have := handle_1 eb mk (D.1.2.1 + 1) r set 0 (bm_push D.1 (fun _ => 0), D.2)
  show D.1.1 ≤ (bm_handle eb mk (D.1.2.1 + 1) r set 0 (bm_push D.1 (fun _ => 0), D.2)).1.1
  rw [this]
  exact bm_push_le _ _
theorem start_2 (eb : Nat → Option Nat) (mk : Nat → Int32) (r : Nat) (set : Int32) (D : bm_D) : D.2.1.1 ≤ (bm_start eb mk r set D).2.1.1 := bm_handle_le eb mk (D.1.2.1 + 1) r set 0 (bm_push D.1 (fun _ => 0), D.2)
set_option maxHeartbeats 800000 in
theorem cs_send (l : Launch) (s0 : State) (A0 : Array Value) (h0 : fz_0 A0 s0) (hnc : nc_0 A0 s0) (hfl : ∀ e : Env, l.admits e → e.platform.stackTraces = false) (D : va_G) (cI cZ cJ cG : ClassId) {h h2 c qo : Nat} {fo : Nat → Int64} {S : bm_S} {cd : Int32} {ws wr : va_W} (hR : nt_R cI cZ cG h S ws) (hr : rf_R cI cZ cJ h2 cd S wr) (hv : iV S c) (hc : c < 512) (x y : Int32) : oI l s0 D cI cZ cJ cG h h2 qo fo S c y_Law_send wh_send 5 y_Ref_send ws_Ref_send 3 [.int x, .int y] ws wr := by
  have hi := hv.ri (Nat.le_of_lt hc)
  have hsi := hv.si (Nat.le_of_lt hc)
  have hpk := hv.2.2.2.1.1
  by_cases hA : ∃ r g, x = nI r ∧ y = nI g ∧ r < 12 ∧ g < 8 ∧ S.G.1 g = some r
  · obtain ⟨r, g, rfl, rfl, hr9, hg, hig⟩ := hA
    obtain ⟨b, hee⟩ : ∃ b, S.eb r = some b := by cases hq : S.eb r with | none => exact absurd hq (hv.2.2.2.2.2.2.2.2.1 g r hg hig) | some b => exact ⟨b, rfl⟩
    by_cases hrm : bm_room S r (S.G.2.1 g)
    · skip
      have hV := hv.send hc hr9 (set := (S.G.2.1 g)) hrm
      have hD1 : S.D.1.1 ≤ (bm_start S.eb (bm_mkr S.T.1.2.2 S.T.2.1 S.eb r) r (S.G.2.1 g) S.D).1.1 := start_1 S.eb _ r (S.G.2.1 g) S.D
      have hD2 : S.D.2.1.1 ≤ (bm_start S.eb (bm_mkr S.T.1.2.2 S.T.2.1 S.eb r) r (S.G.2.1 g) S.D).2.1.1 := start_2 S.eb _ r (S.G.2.1 g) S.D
      exact ⟨0, (nI (S.D.1.2.1 + 1)), bm_send r (S.G.2.1 g) S, ((bm_start S.eb (bm_mkr S.T.1.2.2 S.T.2.1 S.eb r) r (S.G.2.1 g) S.D).1.1 - S.D.1.1) + ((bm_start S.eb (bm_mkr S.T.1.2.2 S.T.2.1 S.eb r) r (S.G.2.1 g) S.D).2.1.1 - S.D.2.1.1), 2 * 2 * ((bm_start S.eb (bm_mkr S.T.1.2.2 S.T.2.1 S.eb r) r (S.G.2.1 g) S.D).1.1 - S.D.1.1) + 2 * 5 * ((bm_start S.eb (bm_mkr S.T.1.2.2 S.T.2.1 S.eb r) r (S.G.2.1 g) S.D).2.1.1 - S.D.2.1.1), 8, 190, 4, 99, by decide, hV, (cost_D (S := S) (S2 := bm_send r (S.G.2.1 g) S) rfl rfl hD1 hD2), ⟨Nat.le_of_ble_eq_true rfl, Nat.le_of_ble_eq_true rfl⟩, ⟨Nat.le_of_ble_eq_true rfl, Nat.le_of_ble_eq_true rfl⟩, (k_Law_send l s0 D cI cZ cJ cG (nt_mem hR) (nI r) (nI g) (k_Net_send l D cI cZ cJ cG hR hsi r g (S.G.2.1 g) hr9 hg hig rfl hrm (Nat.le_trans hv.2.2.2.1.2.2.1.2.1 (by decide)) (Nat.le_trans hV.2.2.2.1.2.2.2.1.2.1 (by decide)))).to (wr_i (v := (nI (S.D.1.2.1 + 1))) (S2 := bm_send r (S.G.2.1 g) S) (fun r u q => ⟨q.1, q.2⟩)), (k_Ref_send l D cI cZ cJ cG hr hi r g b (S.G.2.1 g) hr9 hg hee hig rfl hrm).to (fun z u q => ⟨fun _ => q.1, q.2⟩)⟩
    · skip
      exact ⟨1, 0, S, 1, 6, 8, 190, 4, 99, by decide, hv.more, cost_1 S, ⟨Nat.le_of_ble_eq_true rfl, Nat.le_of_ble_eq_true rfl⟩, ⟨Nat.le_of_ble_eq_true rfl, Nat.le_of_ble_eq_true rfl⟩, (x_Law_send_room l s0 D cI cZ cJ cG (nt_mem hR) (nI r) (nI g) A0 hnc (x_Net_send_room l s0 A0 h0 hfl D cI cZ cJ cG hR hsi r g (S.G.2.1 g) hr9 hg hig rfl hrm)).to (wr_x (by decide)), (n_Ref_send_room l D cI cZ cJ cG hr hi r g b (S.G.2.1 g) hr9 hg hee hig rfl hrm).to (fun z u q => ⟨fun e => absurd e (by decide), q⟩)⟩
  · skip
    exact ⟨2, 0, S, 1, 6, 8, 125, 4, 99, by decide, hv.more, cost_1 S, ⟨Nat.le_of_ble_eq_true rfl, Nat.le_of_ble_eq_true rfl⟩, ⟨Nat.le_of_ble_eq_true rfl, Nat.le_of_ble_eq_true rfl⟩, (x_Law_send l s0 D cI cZ cJ cG (nt_mem hR) x y A0 hnc (x_Net_send l s0 A0 h0 hfl D cI cZ cJ cG hR hi.2.2.2.2.2.2.2.2 x y hA)).to (wr_x (by decide)), (n_Ref_send l D cI cZ cJ cG hr hi x y (by omega) (fun ⟨r, g, q1, q2, q3, q4, q5, q6⟩ => hA ⟨r, g, q1, q2, q3, q4, q6⟩)).to (fun z u q => ⟨fun e => absurd e (by decide), q⟩)⟩
set_option maxHeartbeats 800000 in
theorem cs_sendBits (l : Launch) (s0 : State) (A0 : Array Value) (h0 : fz_0 A0 s0) (hnc : nc_0 A0 s0) (hfl : ∀ e : Env, l.admits e → e.platform.stackTraces = false) (D : va_G) (cI cZ cJ cG : ClassId) {h h2 c qo : Nat} {fo : Nat → Int64} {S : bm_S} {cd : Int32} {ws wr : va_W} (hR : nt_R cI cZ cG h S ws) (hr : rf_R cI cZ cJ h2 cd S wr) (hv : iV S c) (hc : c < 512) (x y : Int32) : oI l s0 D cI cZ cJ cG h h2 qo fo S c y_Law_sendBits wh_sendBits 5 y_Ref_sendBits ws_Ref_sendBits 3 [.int x, .int y] ws wr := by
  have hi := hv.ri (Nat.le_of_lt hc)
  have hsi := hv.si (Nat.le_of_lt hc)
  have hpk := hv.2.2.2.1.1
  by_cases hA : rg 0 12 x = false
  · skip
    exact ⟨2, 0, S, 1, 6, 8, 124, 4, 99, by decide, hv.more, cost_1 S, ⟨Nat.le_of_ble_eq_true rfl, Nat.le_of_ble_eq_true rfl⟩, ⟨Nat.le_of_ble_eq_true rfl, Nat.le_of_ble_eq_true rfl⟩, (x_Law_sendBits l s0 D cI cZ cJ cG (nt_mem hR) x y A0 hnc (x_Net_sendBits l s0 A0 h0 hfl D cI cZ cJ cG hR x y hA)).to (wr_x (by decide)), (n_Ref_sendBits l D cI cZ cJ cG hr hi x y (by omega) hA).to (fun z u q => ⟨fun e => absurd e (by decide), q⟩)⟩
  · obtain ⟨r, hr9, rfl⟩ := rg_n (k := 12) (rg_tf hA)
    by_cases hrm : bm_room S r y
    · skip
      have hV := hv.send hc hr9 (set := y) hrm
      have hD1 : S.D.1.1 ≤ (bm_start S.eb (bm_mkr S.T.1.2.2 S.T.2.1 S.eb r) r y S.D).1.1 := start_1 S.eb _ r y S.D
      have hD2 : S.D.2.1.1 ≤ (bm_start S.eb (bm_mkr S.T.1.2.2 S.T.2.1 S.eb r) r y S.D).2.1.1 := start_2 S.eb _ r y S.D
      exact ⟨0, (nI (S.D.1.2.1 + 1)), bm_send r y S, ((bm_start S.eb (bm_mkr S.T.1.2.2 S.T.2.1 S.eb r) r y S.D).1.1 - S.D.1.1) + ((bm_start S.eb (bm_mkr S.T.1.2.2 S.T.2.1 S.eb r) r y S.D).2.1.1 - S.D.2.1.1), 2 * 2 * ((bm_start S.eb (bm_mkr S.T.1.2.2 S.T.2.1 S.eb r) r y S.D).1.1 - S.D.1.1) + 2 * 5 * ((bm_start S.eb (bm_mkr S.T.1.2.2 S.T.2.1 S.eb r) r y S.D).2.1.1 - S.D.2.1.1), 8, 189, 4, 99, by decide, hV, (cost_D (S := S) (S2 := bm_send r y S) rfl rfl hD1 hD2), ⟨Nat.le_of_ble_eq_true rfl, Nat.le_of_ble_eq_true rfl⟩, ⟨Nat.le_of_ble_eq_true rfl, Nat.le_of_ble_eq_true rfl⟩, (k_Law_sendBits l s0 D cI cZ cJ cG (nt_mem hR) (nI r) y (k_Net_sendBits l D cI cZ cJ cG hR hsi r y hr9 hrm (Nat.le_trans hv.2.2.2.1.2.2.1.2.1 (by decide)) (Nat.le_trans hV.2.2.2.1.2.2.2.1.2.1 (by decide)))).to (wr_i (v := (nI (S.D.1.2.1 + 1))) (S2 := bm_send r y S) (fun r u q => ⟨q.1, q.2⟩)), (k_Ref_sendBits l D cI cZ cJ cG hr hi r y hr9 hrm).to (fun z u q => ⟨fun _ => q.1, q.2⟩)⟩
    · skip
      exact ⟨1, 0, S, 1, 6, 8, 189, 4, 99, by decide, hv.more, cost_1 S, ⟨Nat.le_of_ble_eq_true rfl, Nat.le_of_ble_eq_true rfl⟩, ⟨Nat.le_of_ble_eq_true rfl, Nat.le_of_ble_eq_true rfl⟩, (x_Law_sendBits_room l s0 D cI cZ cJ cG (nt_mem hR) (nI r) y A0 hnc (x_Net_sendBits_room l s0 A0 h0 hfl D cI cZ cJ cG hR hsi r y hr9 hrm)).to (wr_x (by decide)), (n_Ref_sendBits_room l D cI cZ cJ cG hr hi r y hr9 hrm).to (fun z u q => ⟨fun e => absurd e (by decide), q⟩)⟩
set_option maxHeartbeats 800000 in
theorem cs_move (l : Launch) (s0 : State) (A0 : Array Value) (h0 : fz_0 A0 s0) (hnc : nc_0 A0 s0) (hfl : ∀ e : Env, l.admits e → e.platform.stackTraces = false) (D : va_G) (cI cZ cJ cG : ClassId) {h h2 c qo : Nat} {fo : Nat → Int64} {S : bm_S} {cd : Int32} {ws wr : va_W} (hR : nt_R cI cZ cG h S ws) (hr : rf_R cI cZ cJ h2 cd S wr) (hv : iV S c) (hc : c < 512) (x : Int32) : oI l s0 D cI cZ cJ cG h h2 qo fo S c y_Law_move wh_move 4 y_Ref_move ws_Ref_move 8 [.int x] ws wr := by
  have hi := hv.ri (Nat.le_of_lt hc)
  have hsi := hv.si (Nat.le_of_lt hc)
  by_cases hm1 : x = -1
  · subst hm1
    exact ⟨0, (nI (if S.D.2.1.2.1 = 0 then 0 else 1)), bm_mlose S, 0, 0, 4, 87, 3, 77, by decide, hv.mlose, (cost_0 (by unfold bc; rw [show (bm_mlose S).D = bm_dlose S.D from rfl, (dlose_1 _).1, (dlose_1 _).2]; rfl) (by unfold bs; rw [show (bm_mlose S).D = bm_dlose S.D from rfl, (dlose_1 _).1, (dlose_1 _).2]; rfl)), ⟨Nat.le_of_ble_eq_true rfl, Nat.le_of_ble_eq_true rfl⟩, ⟨Nat.le_of_ble_eq_true rfl, Nat.le_of_ble_eq_true rfl⟩, (k_Law_move_lose l s0 D cI cZ cJ cG (nt_mem hR) (-1) (k_Net_move_lose l D cI cZ cJ cG hR)).to (wr_i (v := (nI (if S.D.2.1.2.1 = 0 then 0 else 1))) (S2 := bm_mlose S) (fun r u q => ⟨q.1, q.2⟩)), (k_Ref_move_lose l D cI cZ cJ cG hr hi).to (fun z u q => ⟨fun _ => q.1, q.2⟩)⟩
  · by_cases hm : S.D.2.1.2.1 < 3900
    · by_cases hA : rg 1 1001 x = false
      · skip
        exact ⟨2, 0, S, 1, 6, 8, 124, 3, 77, by decide, hv.more, cost_1 S, ⟨Nat.le_of_ble_eq_true rfl, Nat.le_of_ble_eq_true rfl⟩, ⟨Nat.le_of_ble_eq_true rfl, Nat.le_of_ble_eq_true rfl⟩, (x_Law_move l s0 D cI cZ cJ cG (nt_mem hR) x A0 hnc (x_Net_move l s0 A0 h0 hfl D cI cZ cJ cG hR x hm1 hm hA)).to (wr_x (by decide)), (n_Ref_move l D cI cZ cJ cG hr hi x hm1 hm hA).to (fun z u q => ⟨fun e => absurd e (by decide), q⟩)⟩
      · obtain ⟨n, hn1, hn2, rfl⟩ := rg_1000 (rg_tf hA)
        obtain ⟨d, hd1, hd2, hd3⟩ := ex_d (bm_dgo S) n
        have hV := hv.mv (Nat.le_of_lt hc) (d := d) hd2
        have hq : ∀ j, j ≤ n → (∀ i, i < j → bm_dgo S i) → (0 < (bm_dj S j).2.1.2.1 → bm_cok (bm_dj S j)) ∧ (bm_dj S j).2.1.1 ≤ 50000 ∧ (bm_dj S j).2.1.1 - S.D.2.1.1 ≤ (bm_dj S d).2.1.1 - S.D.2.1.1 ∧ 2 * 5 * ((bm_dj S j).2.1.1 - S.D.2.1.1) ≤ 2 * 5 * ((bm_dj S d).2.1.1 - S.D.2.1.1) := fun j hj hg => by
          have hjd := le_d hd3 hj hg
          have q := hv.2.2.2.1.mv (Nat.le_of_lt hc) j hg
          have hmo := dj_mono S d j hjd
          have hpk := hv.2.2.2.1.1
          exact ⟨fun hp => (q.1.dst (S := S) (by rw [q.2.1]; omega) hp q.2.2).2.2.2, Nat.le_trans q.1.2.1.2.1 (by decide), by omega, by omega⟩
        have hD0 := bm_dj_le S d
        have hD1 := dj_1 S d
        have hcost : (bm_dj S d).2.1.1 - S.D.2.1.1 + bc S ≤ bc (bm_mv d S) + 1 ∧ 2 * 5 * ((bm_dj S d).2.1.1 - S.D.2.1.1) + bs S ≤ bs (bm_mv d S) + 6 := by
          have e1 : (bm_mv d S).D = bm_dj S d := rfl
          have e2 : (bm_mv d S).T = S.T := rfl
          have e3 : (bm_mv d S).G = S.G := rfl
          unfold bc bs
          rw [e1, e2, e3, hD1]
          omega
        exact ⟨0, (nI d), bm_mv d S, (bm_dj S d).2.1.1 - S.D.2.1.1, 2 * 5 * ((bm_dj S d).2.1.1 - S.D.2.1.1), 8, 191, 3, 77, by decide, hV, hcost, ⟨Nat.le_of_ble_eq_true rfl, Nat.le_of_ble_eq_true rfl⟩, ⟨Nat.le_of_ble_eq_true rfl, Nat.le_of_ble_eq_true rfl⟩, (k_Law_move l s0 D cI cZ cJ cG (nt_mem hR) (nI n) (k_Net_move l D cI cZ cJ cG hR n hn1 hn2 hm hsi ((bm_dj S d).2.1.1 - S.D.2.1.1) (2 * 5 * ((bm_dj S d).2.1.1 - S.D.2.1.1)) hq)).to (wr_i (v := (nI d)) (S2 := bm_mv d S) (fun r u q => by obtain ⟨d2, h1, h2, h3, h4, h5⟩ := q; have e := un_d (go := bm_dgo S) h2 h3 h4 hd1 hd2 hd3; rw [← e]; exact ⟨h1, h5⟩)), (k_Ref_move l D cI cZ cJ cG hr hi n hn1 hn2 hm).to (fun z u q => by obtain ⟨d2, h1, h2, h3, h4, h5⟩ := q; have e := un_d (go := bm_dgo S) h2 h3 h4 hd1 hd2 hd3; rw [← e]; exact ⟨fun _ => h1, h5⟩)⟩
    · skip
      exact ⟨1, 0, S, 1, 6, 8, 124, 3, 77, by decide, hv.more, cost_1 S, ⟨Nat.le_of_ble_eq_true rfl, Nat.le_of_ble_eq_true rfl⟩, ⟨Nat.le_of_ble_eq_true rfl, Nat.le_of_ble_eq_true rfl⟩, (x_Law_move_room l s0 D cI cZ cJ cG (nt_mem hR) x A0 hnc (x_Net_move_room l s0 A0 h0 hfl D cI cZ cJ cG hR x hm1 (by omega))).to (wr_x (by decide)), (n_Ref_move_room l D cI cZ cJ cG hr hi x hm1 (by omega)).to (fun z u q => ⟨fun e => absurd e (by decide), q⟩)⟩
set_option maxHeartbeats 800000 in
theorem cs_delivered (l : Launch) (s0 : State) (A0 : Array Value) (h0 : fz_0 A0 s0) (hnc : nc_0 A0 s0) (hfl : ∀ e : Env, l.admits e → e.platform.stackTraces = false) (D : va_G) (cI cZ cJ cG : ClassId) {h h2 c qo : Nat} {fo : Nat → Int64} {S : bm_S} {cd : Int32} {ws wr : va_W} (hR : nt_R cI cZ cG h S ws) (hr : rf_R cI cZ cJ h2 cd S wr) (hv : iV S c) (hc : c < 512) (x : Int32) : oI l s0 D cI cZ cJ cG h h2 qo fo S c y_Law_delivered wh_delivered 4 y_Ref_delivered ws_Ref_delivered 2 [.int x] ws wr := by
  have hi := hv.ri (Nat.le_of_lt hc)
  have hsi := hv.si (Nat.le_of_lt hc)
  have hpk := hi.2.2.2.2.2.2.2.1
  by_cases hA : rg 1 ((S.D.1.2.1 : Int) + 1) x = false
  · skip
    exact ⟨1, 0, S, 1, 6, 8, 123, 2, 46, by decide, hv.more, cost_1 S, ⟨Nat.le_of_ble_eq_true rfl, Nat.le_of_ble_eq_true rfl⟩, ⟨Nat.le_of_ble_eq_true rfl, Nat.le_of_ble_eq_true rfl⟩, (x_Law_delivered l s0 D cI cZ cJ cG (nt_mem hR) x A0 hnc (x_Net_delivered l s0 A0 h0 hfl D cI cZ cJ cG hR x hA)).to (wr_x (by decide)), (n_Ref_delivered l D cI cZ cJ cG hr hi x hA).to (fun z u q => ⟨fun e => absurd e (by decide), q⟩)⟩
  · obtain ⟨p9, hp1, hp2, rfl⟩ := rg_pk hpk (rg_tf hA)
    exact ⟨0, (S.D.1.2.2 (p9 - 1) 0), S, 0, 0, 4, 87, 2, 46, by decide, hv.more, (cost_0 rfl rfl), ⟨Nat.le_of_ble_eq_true rfl, Nat.le_of_ble_eq_true rfl⟩, ⟨Nat.le_of_ble_eq_true rfl, Nat.le_of_ble_eq_true rfl⟩, (k_Law_delivered l s0 D cI cZ cJ cG (nt_mem hR) (nI p9) (k_Net_delivered l D cI cZ cJ cG hR p9 hp1 hp2)).to (wr_i (v := (S.D.1.2.2 (p9 - 1) 0)) (S2 := S) (fun r u q => ⟨q.1, by rw [q.2]; exact hR⟩)), (k_Ref_delivered l D cI cZ cJ cG hr hi p9 hp1 hp2).to (fun z u q => ⟨fun _ => q.1, q.2⟩)⟩
set_option maxHeartbeats 800000 in
theorem cs_crossings (l : Launch) (s0 : State) (A0 : Array Value) (h0 : fz_0 A0 s0) (hnc : nc_0 A0 s0) (hfl : ∀ e : Env, l.admits e → e.platform.stackTraces = false) (D : va_G) (cI cZ cJ cG : ClassId) {h h2 c qo : Nat} {fo : Nat → Int64} {S : bm_S} {cd : Int32} {ws wr : va_W} (hR : nt_R cI cZ cG h S ws) (hr : rf_R cI cZ cJ h2 cd S wr) (hv : iV S c) (hc : c < 512) (x : Int32) : oI l s0 D cI cZ cJ cG h h2 qo fo S c y_Law_crossings wh_crossings 4 y_Ref_crossings ws_Ref_crossings 2 [.int x] ws wr := by
  have hi := hv.ri (Nat.le_of_lt hc)
  have hsi := hv.si (Nat.le_of_lt hc)
  have hpk := hi.2.2.2.2.2.2.2.1
  by_cases hA : rg 1 ((S.D.1.2.1 : Int) + 1) x = false
  · skip
    exact ⟨1, 0, S, 1, 6, 8, 123, 2, 46, by decide, hv.more, cost_1 S, ⟨Nat.le_of_ble_eq_true rfl, Nat.le_of_ble_eq_true rfl⟩, ⟨Nat.le_of_ble_eq_true rfl, Nat.le_of_ble_eq_true rfl⟩, (x_Law_crossings l s0 D cI cZ cJ cG (nt_mem hR) x A0 hnc (x_Net_crossings l s0 A0 h0 hfl D cI cZ cJ cG hR x hA)).to (wr_x (by decide)), (n_Ref_crossings l D cI cZ cJ cG hr hi x hA).to (fun z u q => ⟨fun e => absurd e (by decide), q⟩)⟩
  · obtain ⟨p9, hp1, hp2, rfl⟩ := rg_pk hpk (rg_tf hA)
    exact ⟨0, (S.D.1.2.2 (p9 - 1) 1), S, 0, 0, 4, 87, 2, 46, by decide, hv.more, (cost_0 rfl rfl), ⟨Nat.le_of_ble_eq_true rfl, Nat.le_of_ble_eq_true rfl⟩, ⟨Nat.le_of_ble_eq_true rfl, Nat.le_of_ble_eq_true rfl⟩, (k_Law_crossings l s0 D cI cZ cJ cG (nt_mem hR) (nI p9) (k_Net_crossings l D cI cZ cJ cG hR p9 hp1 hp2)).to (wr_i (v := (S.D.1.2.2 (p9 - 1) 1)) (S2 := S) (fun r u q => ⟨q.1, by rw [q.2]; exact hR⟩)), (k_Ref_crossings l D cI cZ cJ cG hr hi p9 hp1 hp2).to (fun z u q => ⟨fun _ => q.1, q.2⟩)⟩
