/-! What every run of calls keeps, all of it; what it costs. -/
def iV (S : bm_S) (c : Nat) : Prop := iE S.eb S.tk S.es c ∧ iL S.lk S.kn ∧ iT S.T c ∧ iD S.D c ∧ iG S.eb S.G
theorem iV.more {S : bm_S} {c : Nat} (h : iV S c) : iV S (c + 1) := ⟨⟨h.1.1, h.1.2.1, Nat.le_succ_of_le h.1.2.2⟩, h.2.1, h.2.2.1.more, h.2.2.2.1.more, h.2.2.2.2⟩
theorem iV.e1 {S : bm_S} {c : Nat} (h : iV S c) : iE S.eb S.tk S.es (c + 1) := h.more.1
theorem iV.si {S : bm_S} {c : Nat} (h : iV S c) (hc : c ≤ 512) : bm_si S := ⟨h.2.2.1.1.1, h.2.1.2.1, h.2.1.1, h.2.2.1.cap, h.2.2.1.rt hc h.1.2.2, fun r _ a b => vw_sym _ _ r a b⟩
theorem iV.ri {S : bm_S} {c : Nat} (h : iV S c) (hc : c ≤ 512) : rf_i S := ⟨h.si hc, h.1.1, h.2.2.1.1.2.1, by have := h.2.2.1.2.2.2.1; omega, h.2.2.1.2.2.2.2.1, h.2.2.2.1.2.1, h.2.2.2.2.2.2.2.2.2.2.1, by have := h.2.2.2.1.1; omega, h.2.2.2.2.gi⟩
theorem iV_0 : iV bm_S0 0 := by
  refine ⟨⟨fun r b z => absurd (show (none : Option Nat) = some b from z) (fun y => by cases y), fun b hb => ⟨fun _ k _ z => absurd (show (none : Option Nat) = some b from z) (fun y => by cases y), fun _ => Int32.zero_and⟩, Nat.le_refl _⟩, ⟨fun _ _ => Nat.zero_le _, fun _ _ => Nat.zero_le _, fun _ _ => rfl, fun _ => rfl, fun _ => rfl⟩, ?_, ?_, ?_⟩
  · refine ⟨⟨⟨fun a b _ _ => Nat.one_pos, fun i hi => ⟨show 0 < 12 by decide, Nat.zero_le _, fun j _ => Nat.zero_le _⟩, fun i hi => absurd (show i < 0 from hi) (by omega), Nat.one_pos, by decide⟩, fun _ => rfl, fun _ _ _ _ => Or.inl rfl, fun _ _ => rfl, fun i hi hi2 => absurd (show i < 1 from hi2) (by omega), fun i j hi hi2 => absurd (show i < 1 from hi2) (by omega), fun i hi hi2 => absurd (show i < 1 from hi) (by omega)⟩, ⟨by decide, by decide, by decide⟩, ⟨by decide, by decide, by decide⟩, Nat.le_refl _, Nat.zero_le _, fun _ => Nat.le_refl _⟩
  · exact ⟨Nat.le_refl _, Nat.zero_le _, ⟨by decide, by decide, by decide⟩, ⟨by decide, by decide, by decide⟩, fun i hi => absurd (show i < 0 from hi) (by omega)⟩
  · refine ⟨fun _ _ => Nat.zero_le _, fun _ _ => rfl, fun _ _ => rfl, fun a b hab => ?_, fun g e hg he => ?_, ⟨by decide, by decide, by decide⟩, Nat.zero_le _, fun i hi => absurd (show i < 0 from hi) (by omega), fun _ _ _ => rfl⟩
    · have hab : (if a < 8 then none else some 0) = some b := hab
      split at hab
      · cases hab
      · cases hab
        decide
    · have he : (if g < 8 then none else some 0) = some e := he
      rw [if_pos hg] at he
      cases he
theorem iG.eb {eb eb2 : Nat → Option Nat} {G : bm_G} (h : iG eb G) (k : ∀ e, eb e ≠ none → eb2 e ≠ none) : iG eb2 G := ⟨h.1, h.2.1, h.2.2.1, h.2.2.2.1, fun g e hg he => k e (h.2.2.2.2.1 g e hg he), h.2.2.2.2.2⟩
theorem iV.edge {S : bm_S} {c : Nat} (h : iV S c) {r b : Nat} (hr : r < 12) (hb : b < 32) (hn : S.eb r = none) : iV (bm_edge r b S) (c + 1) := by
  refine ⟨h.1.edge hr hb hn, h.2.1, h.2.2.1.more, h.2.2.2.1.more, h.2.2.2.2.eb (fun e he => ?_)⟩
  show (if e = r then some b else S.eb e) ≠ none
  split
  · exact fun z => by cases z
  · exact he
theorem iV.link {S : bm_S} {c : Nat} (h : iV S c) (hc : c < 512) {r o v : Nat} (hr : r < 12) (ho : o < 12) (hro : r ≠ o) (hv : v ≤ 1000) (hm : S.T.2.2.1.2.1 < 2000) : iV (bm_lnk r o v S) (c + 1) :=
  ⟨h.e1, h.2.1.link hro hv, h.2.2.1.link hc (by omega) (by omega) (h.2.1.link hro hv).2.1 (h.2.1.link hro hv).2.2.2.2 hm, h.2.2.2.1.more, h.2.2.2.2⟩
theorem iV.cut {S : bm_S} {c : Nat} (h : iV S c) {r o : Nat} (hw : S.lk r o = 1) : iV (bm_cut r o S) (c + 1) :=
  ⟨h.e1, h.2.1.cut (fun z => by rw [z, h.2.1.2.2.2.1] at hw; cases hw), h.2.2.1.more, h.2.2.2.1.more, h.2.2.2.2⟩
theorem iV.notice {S : bm_S} {c : Nat} (h : iV S c) (hc : c < 512) {r o : Nat} (hr : r < 12) (hw : S.lk r o = 2) (hm : S.T.2.2.1.2.1 < 2000) : iV (bm_noti r o S) (c + 1) := by
  have k := h.2.1.notice (r := r) (o := o) (fun z => by rw [z, h.2.1.2.2.2.1] at hw; cases hw)
  exact ⟨h.e1, k, h.2.2.1.notice hc hr k.2.1 k.2.2.2.2 hm, h.2.2.2.1.more, h.2.2.2.2⟩
theorem iV.stp {S : bm_S} {c : Nat} (h : iV S c) {d : Nat} (hd : d ≤ 1000) (hg : ∀ i, i < d → bm_sgo S i) : iV (bm_stp d S) (c + 1) := ⟨h.e1, h.2.1, h.2.2.1.stp hd hg, h.2.2.2.1.more, h.2.2.2.2⟩
theorem iV.ingr {S : bm_S} {c : Nat} (h : iV S c) {g e : Nat} (he : e < 12) (hee : S.eb e ≠ none) : iV (bm_ingr g e S) (c + 1) := ⟨h.e1, h.2.1, h.2.2.1.more, h.2.2.2.1.more, h.2.2.2.2.appoint he hee⟩
theorem iV.joi {S : bm_S} {c : Nat} (h : iV S c) {e g nx : Nat} (hg : g < 8) (hnx : nx ≤ 100) (hr : bm_jroom S e g nx) : iV (bm_joi e g nx S) (c + 1) := ⟨h.e1, h.2.1, h.2.2.1.more, h.2.2.2.1.more, h.2.2.2.2.rec hg hnx hr⟩
theorem iV.rep {S : bm_S} {c : Nat} (h : iV S c) (e : Nat) (hn : S.G.2.2.2.1.2.1 < 3900) : iV (bm_rep e S) (c + 1) := ⟨h.e1, h.2.1, h.2.2.1.more, h.2.2.2.1.more, h.2.2.2.2.tellA e (by omega) 8 (Nat.le_refl _)⟩
theorem iV.cry {S : bm_S} {c : Nat} (h : iV S c) {d : Nat} (hg : ∀ j, j < d → 0 < (bm_git S.G j).2.2.2.1.2.1) : iV (bm_cry d S) (c + 1) := ⟨h.e1, h.2.1, h.2.2.1.more, h.2.2.2.1.more, h.2.2.2.2.git d hg⟩
theorem iV.close {S : bm_S} {c : Nat} (h : iV S c) : iV (bm_close S) (c + 1) := ⟨h.e1, h.2.1, h.2.2.1.more, h.2.2.2.1.more, h.2.2.2.2.lose⟩
theorem iV.send {S : bm_S} {c : Nat} (h : iV S c) (hc : c < 512) {r : Nat} (hr : r < 12) {set : Int32} (hrm : bm_room S r set) : iV (bm_send r set S) (c + 1) := ⟨h.e1, h.2.1, h.2.2.1.more, h.2.2.2.1.start hc h.1.1 (bm_mkr S.T.1.2.2 S.T.2.1 S.eb r) hr set hrm.2, h.2.2.2.2⟩
theorem iV.mv {S : bm_S} {c : Nat} (h : iV S c) (hc : c ≤ 512) {d : Nat} (hg : ∀ j, j < d → bm_dgo S j) : iV (bm_mv d S) (c + 1) := ⟨h.e1, h.2.1, h.2.2.1.more, h.2.2.2.1.move hc hg, h.2.2.2.2⟩
theorem iV.mlose {S : bm_S} {c : Nat} (h : iV S c) : iV (bm_mlose S) (c + 1) := ⟨h.e1, h.2.1, h.2.2.1.more, h.2.2.2.1.lose, h.2.2.2.2⟩
/-! ### what it costs -/
def bc (S : bm_S) : Nat := S.T.1.1 + S.T.2.2.1.1 + S.D.1.1 + S.D.2.1.1 + S.G.2.2.2.1.1
def bs (S : bm_S) : Nat := 28 * S.T.1.1 + 6 * S.T.2.2.1.1 + 4 * S.D.1.1 + 10 * S.D.2.1.1 + 6 * S.G.2.2.2.1.1
theorem iV.bcs {S : bm_S} {c : Nat} (h : iV S c) : bc S ≤ 40960 ∧ bs S ≤ 442368 := by
  have h1 := h.2.2.1.2.1.2.1
  have h2 := h.2.2.1.2.2.1.2.1
  have h3 := h.2.2.2.1.2.2.1.2.1
  have h4 := h.2.2.2.1.2.2.2.1.2.1
  have h5 := h.2.2.2.2.2.2.2.2.2.1.2.1
  unfold bc bs
  omega
theorem cost_T {S S2 : bm_S} (hD : S2.D = S.D) (hG : S2.G = S.G) (hT : bm_le S.T S2.T) : bm_gc S.T S2.T + bc S ≤ bc S2 + 1 ∧ bm_gs S.T S2.T + bs S ≤ bs S2 + 6 := by
  obtain ⟨h1, h2⟩ := hT
  unfold bm_gc bm_gs bc bs
  rw [hD, hG]
  omega
theorem ex_d (go : Nat → Prop) : ∀ n, ∃ d, d ≤ n ∧ (∀ j, j < d → go j) ∧ (d = n ∨ ¬ go d)
  | 0 => ⟨0, Nat.le_refl _, fun j hj => absurd hj (by omega), Or.inl rfl⟩
  | n + 1 => by
    obtain ⟨d, h1, h2, h3⟩ := ex_d go n
    by_cases e : go d
    · rcases h3 with h3 | h3
      · refine ⟨d + 1, by omega, fun j hj => ?_, Or.inl (by omega)⟩
        by_cases e2 : j = d
        · rw [e2]
          exact e
        · exact h2 j (by omega)
      · exact absurd e h3
    · exact ⟨d, by omega, h2, Or.inr e⟩
theorem un_d {go : Nat → Prop} {n d e : Nat} (h1 : d ≤ n) (h2 : ∀ j, j < d → go j) (h3 : d = n ∨ ¬ go d) (k1 : e ≤ n) (k2 : ∀ j, j < e → go j) (k3 : e = n ∨ ¬ go e) : d = e := by
  by_cases c : d < e
  · rcases h3 with h3 | h3
    · omega
    · exact absurd (k2 d c) h3
  · by_cases c2 : e < d
    · rcases k3 with k3 | k3
      · omega
      · exact absurd (h2 e c2) k3
    · omega
theorem le_d {go : Nat → Prop} {n d j : Nat} (h3 : d = n ∨ ¬ go d) (hj : j ≤ n) (k2 : ∀ i, i < j → go i) : j ≤ d := by
  by_cases c : d < j
  · rcases h3 with h3 | h3
    · omega
    · exact absurd (k2 d c) h3
  · omega
theorem sj_mono (S : bm_S) : ∀ d j, j ≤ d → bm_le (bm_sj S j).1 (bm_sj S d).1
  | 0, j, hj => by
    rw [show j = 0 by omega]
    exact bm_le.rf _
  | d + 1, j, hj => by
    by_cases e : j = d + 1
    · rw [e]
      exact bm_le.rf _
    · exact (sj_mono S d j (by omega)).tr (bm_del_le S.lk S.kn (bm_sj S d))
theorem dj_mono (S : bm_S) : ∀ d j, j ≤ d → (bm_dj S j).2.1.1 ≤ (bm_dj S d).2.1.1
  | 0, j, hj => by
    rw [show j = 0 by omega]
    exact Nat.le_refl _
  | d + 1, j, hj => by
    by_cases e : j = d + 1
    · rw [e]
      exact Nat.le_refl _
    · exact Nat.le_trans (dj_mono S d j (by omega)) (bm_dst_le S (bm_dj S d))
theorem dst_1 (S : bm_S) (D : bm_D) : (bm_dst S D).1.1 = D.1.1 := by
  unfold bm_dst bm_ddel
  split
  · unfold bm_handle bm_loses
    show (bm_parts _ _ _ _ _ 12).2.1.1 = D.1.1
    have : ∀ (mk : Nat → Int32) (p r h : Nat) (Z : Int32 × bm_D) (n : Nat), (bm_parts mk p r h Z n).2.1.1 = Z.2.1.1 := by
      intro mk p r h Z n
      induction n with
      | zero => rfl
      | succ n ih =>
        unfold bm_parts
        split
        · exact ih
        · refine Eq.trans ?_ ih
          unfold bm_on
          split <;> rfl
    rw [this]
    exact (bm_own_1 _ _ _).1
  · rfl
theorem dj_1 (S : bm_S) : ∀ j, (bm_dj S j).1.1 = S.D.1.1
  | 0 => rfl
  | j + 1 => (dst_1 S (bm_dj S j)).trans (dj_1 S j)
theorem rec_le (eb : Nat → Option Nat) (e g nx : Nat) (G : bm_G) : G.2.2.2.1.1 ≤ (bm_rec eb e g nx G).2.2.2.1.1 := by
  unfold bm_rec
  split
  · exact bm_push_le _ _
  · exact Nat.le_refl _
theorem git_1 (G : bm_G) : ∀ j, (bm_git G j).2.2.2.1.1 = G.2.2.2.1.1
  | 0 => rfl
  | j + 1 => git_1 G j
theorem glose_1 (G : bm_G) : (bm_glose G).2.2.2.1.1 = G.2.2.2.1.1 := by
  unfold bm_glose
  split <;> rfl
theorem dlose_1 (D : bm_D) : (bm_dlose D).1.1 = D.1.1 ∧ (bm_dlose D).2.1.1 = D.2.1.1 := by
  unfold bm_dlose
  split
  · exact ⟨rfl, rfl⟩
  · exact ⟨rfl, rfl⟩
theorem isE_eq {S : bm_S} {c : Nat} (h : iV S c) (x : Int32) : bm_isE S x = rf_isE S.eb x := by
  unfold bm_isE rf_isE
  congr 1
  cases hq : S.eb x.toNatClampNeg with
  | none => rfl
  | some b => exact decide_eq_true (em_ne (h.1.1 _ b hq))
theorem same_iff {hd : Nat → Nat → Nat} {a b n : Nat} : bm_same hd a b n = true ↔ ∀ k, k < n → hd a k = hd b k := by
  refine ⟨fun q k hk => ?_, bm_same_t n⟩
  by_cases e : hd a k = hd b k
  · exact e
  · rw [bm_same_f e n hk] at q
    cases q
theorem settled_eq {S : bm_S} {c : Nat} (h : iV S c) : sq S 12 0 0 ↔ (S.T.2.2.1.2.1 = 0 ∧ bm_agree S.lk S.T.2.1) := by
  have key : ∀ a b n, a < 12 → b < 12 → n ≤ 12 → (bm_same S.T.2.1 a b n = true ↔ ∀ k, k < n → S.T.1.2.2 (S.T.2.1 a k) 1 = S.T.1.2.2 (S.T.2.1 b k) 1) := by
    intro a b n ha hb hn
    rw [same_iff]
    exact ⟨fun q k hk => (h.2.2.1.1.same ha hb (by omega)).mpr (q k hk), fun q k hk => (h.2.2.1.1.same ha hb (by omega)).mp (q k hk)⟩
  constructor
  · intro q
    refine ⟨q.1, fun a b hab hb hl => (key a b 12 (by omega) hb (Nat.le_refl _)).mpr (fun k hk => q.2 a b k (by omega) hb hk hl (by omega))⟩
  · intro q
    refine ⟨q.1, fun x y z hx hy hz hl _ => ?_⟩
    by_cases e : x = y
    · rw [e]
    · by_cases c2 : x < y
      · exact (key x y 12 hx hy (Nat.le_refl _)).mp (q.2 x y c2 hy hl) z hz
      · exact ((key y x 12 hy hx (Nat.le_refl _)).mp (q.2 y x (by omega) hx (by rw [h.2.1.2.2.1 y x]; exact hl)) z hz).symm
