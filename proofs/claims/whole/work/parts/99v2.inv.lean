/-! What every run of calls keeps: packets and copies, groups and notes, edges. -/
def cp_row (np : Nat) (row : Nat → Int32) : Prop := ∃ pk f t hp : Nat, (row 0 = nI pk ∧ row 1 = nI f ∧ row 2 = nI t ∧ row 4 = nI hp) ∧ f < 12 ∧ t < 12 ∧ 1 ≤ pk ∧ pk ≤ np ∧ hp ≤ 255
def iP (np : Nat) (D : bm_D) : Prop := capok D.1 ∧ capok D.2.1 ∧ ∀ i, i < D.2.1.2.1 → cp_row np (D.2.1.2.2 i)
theorem cp_row.mono {np nq : Nat} (hn : np ≤ nq) {row : Nat → Int32} (h : cp_row np row) : cp_row nq row := by
  obtain ⟨a, b, c, d, h1, h2, h3, h4, h5, h6⟩ := h
  exact ⟨a, b, c, d, h1, h2, h3, h4, by omega, h6⟩
theorem iP.on {np : Nat} {D : bm_D} (h : iP np D) {p r m : Nat} (part : Int32) {hp : Nat} (hp1 : 1 ≤ p) (hp2 : p ≤ np) (hr : r < 12) (hm : m < 12) (hh : hp ≤ 255) (hn : D.2.1.2.1 < 4096) : iP np (bm_on p r m part hp D) := by
  unfold bm_on
  split
  · exact h
  · refine ⟨h.1, h.2.1.push hn _, fun i hi => ?_⟩
    have hi : i < D.2.1.2.1 + 1 := hi
    show cp_row np ((bm_push D.2.1 _).2.2 i)
    by_cases e : i = D.2.1.2.1
    · rw [e, bm_push_at]
      exact ⟨p, r, m, hp + 1, ⟨rfl, rfl, rfl, rfl⟩, hr, hm, hp1, hp2, by omega⟩
    · rw [bm_push_old D.2.1 _ (show i < D.2.1.2.1 by omega)]
      exact h.2.2 i (by omega)
theorem iP.parts {np : Nat} {D : bm_D} (h : iP np D) (mk : Nat → Int32) {p r : Nat} (left : Int32) {hp : Nat} (hp1 : 1 ≤ p) (hp2 : p ≤ np) (hr : r < 12) (hh : hp ≤ 255) (hn : D.2.1.2.1 + 12 ≤ 4096) : ∀ n, n ≤ 12 → iP np (bm_parts mk p r hp (left, D) n).2
  | 0, _ => h
  | n + 1, hj => by
    have h1 := (parts_would mk p r hp left D n).1
    have h2 := would_le mk left n
    unfold bm_parts
    split
    · exact iP.parts h mk left hp1 hp2 hr hh hn n (by omega)
    · exact (iP.parts h mk left hp1 hp2 hr hh hn n (by omega)).on _ hp1 hp2 hr (by omega) hh (by omega)
theorem iP.own {np : Nat} {D : bm_D} (h : iP np D) (own : Int32) (p : Nat) : iP np (bm_own own p D) := by
  unfold bm_own
  split
  · exact h
  · exact h
theorem iP.handle {np : Nat} {D : bm_D} (h : iP np D) (eb : Nat → Option Nat) (mk : Nat → Int32) {p r : Nat} (set : Int32) {hp : Nat} (hp1 : 1 ≤ p) (hp2 : p ≤ np) (hr : r < 12) (hh : hp ≤ 255) (hn : D.2.1.2.1 + 12 ≤ 4096) : iP np (bm_handle eb mk p r set hp D) := by
  have h1 := (h.own (set &&& bm_em (eb r)) p).parts mk (set &&& ((set &&& bm_em (eb r)) ^^^ (-1))) hp1 hp2 hr hh (by rw [(bm_own_1 _ _ _).2.2]; exact hn) 12 (Nat.le_refl _)
  exact h1
theorem iP.drop {np : Nat} {D : bm_D} (h : iP np D) : iP np (bm_dropD D) := ⟨h.1, h.2.1.drop, fun i hi => by
  have hi : i < D.2.1.2.1 - 1 := hi
  exact h.2.2 (i + 1) (by omega)⟩
theorem iP.dst {S : bm_S} {D : bm_D} (h : iP D.1.2.1 D) (hp9 : D.1.2.1 ≤ 900) (hn0 : 0 < D.2.1.2.1) (hn : D.2.1.2.1 ≤ 4000) : iP D.1.2.1 (bm_dst S D) ∧ (bm_dst S D).1.2.1 = D.1.2.1 ∧ (bm_dst S D).2.1.2.1 ≤ D.2.1.2.1 + 11 ∧ bm_cok D := by
  obtain ⟨pk, f, t, hp, hrow, hf, ht, hp1, hp2, hh⟩ := h.2.2 0 hn0
  have hd : (bm_dropD D).2.1.2.1 = D.2.1.2.1 - 1 := rfl
  have hd2 : (bm_dropD D).1.2.1 = D.1.2.1 := rfl
  rw [bm_dst_at S hrow (by omega) (by omega) (by omega) (by omega)]
  have hc : bm_cok D := ⟨pk, f, t, hp, hrow, hf, ht, hp1, hp2, by omega, by omega⟩
  unfold bm_ddel
  split
  · refine ⟨h.drop.handle S.eb _ _ hp1 hp2 ht hh (by omega), handle_np _ _ _ _ _ _ _, ?_, hc⟩
    have := handle_n S.eb (bm_mkr S.T.1.2.2 S.T.2.1 S.eb t) pk t (D.2.1.2.2 0 3) hp (bm_dropD D)
    omega
  · refine ⟨h.drop, rfl, ?_, hc⟩
    show D.2.1.2.1 - 1 ≤ _
    omega
/-- packets and copies -/
def iD (D : bm_D) (c : Nat) : Prop := D.1.2.1 ≤ c ∧ D.2.1.2.1 ≤ 4000 ∧ iP D.1.2.1 D
theorem iD.more {D : bm_D} {c : Nat} (h : iD D c) : iD D (c + 1) := ⟨Nat.le_succ_of_le h.1, h.2⟩
theorem iD.mv {S : bm_S} {c : Nat} (h : iD S.D c) (hc : c ≤ 512) : ∀ j, (∀ i, i < j → bm_dgo S i) → iP (bm_dj S j).1.2.1 (bm_dj S j) ∧ (bm_dj S j).1.2.1 = S.D.1.2.1 ∧ (bm_dj S j).2.1.2.1 ≤ 4000
  | 0, _ => ⟨h.2.2, rfl, h.2.1⟩
  | j + 1, hg => by
    obtain ⟨q1, q2, q3⟩ := iD.mv h hc j (fun i hi => hg i (by omega))
    obtain ⟨g1, g2⟩ := hg j (by omega)
    have h1 := h.1
    obtain ⟨k1, k2, k3, -⟩ := q1.dst (S := S) (by omega) g1 q3
    refine ⟨?_, k2.trans q2, ?_⟩
    · show iP (bm_dst S (bm_dj S j)).1.2.1 (bm_dst S (bm_dj S j))
      rw [k2]
      exact k1
    · show (bm_dst S (bm_dj S j)).2.1.2.1 ≤ 4000
      omega
theorem iD.move {S : bm_S} {c : Nat} (h : iD S.D c) (hc : c ≤ 512) {d : Nat} (hg : ∀ i, i < d → bm_dgo S i) : iD (bm_dj S d) (c + 1) := by
  obtain ⟨q1, q2, q3⟩ := h.mv hc d hg
  exact ⟨by rw [q2]; have := h.1; omega, q3, q1⟩
theorem iD.lose {D : bm_D} {c : Nat} (h : iD D c) : iD (bm_dlose D) (c + 1) := by
  unfold bm_dlose
  split
  · exact h.more
  · exact ⟨Nat.le_succ_of_le h.1, Nat.le_trans (Nat.sub_le _ _) h.2.1, h.2.2.drop⟩
theorem start_n {eb : Nat → Option Nat} (heb : ∀ r b, eb r = some b → b < 32) (mk : Nat → Int32) (r : Nat) (set : Int32) (D : bm_D) : (bm_start eb mk r set D).2.1.2.1 ≤ D.2.1.2.1 + bm_would mk (set &&& ((bm_em (eb r)) ^^^ (-1))) 12 := by
  have h := (parts_would mk (D.1.2.1 + 1) r 0 (set &&& ((set &&& bm_em (eb r)) ^^^ (-1))) (bm_own (set &&& bm_em (eb r)) (D.1.2.1 + 1) (bm_push D.1 (fun _ => 0), D.2)) 12).1
  rw [(bm_own_1 _ _ _).2.2, ref_clr set (fun b z => heb r b z)] at h
  refine Nat.le_trans ?_ h
  show (bm_parts mk (D.1.2.1 + 1) r 0 (set &&& ((set &&& bm_em (eb r)) ^^^ (-1)), bm_own (set &&& bm_em (eb r)) (D.1.2.1 + 1) (bm_push D.1 (fun _ => 0), D.2)) 12).2.2.1.2.1 ≤ _
  rw [ref_clr set (fun b z => heb r b z)]
  exact Nat.le_refl _
theorem iD.start {D : bm_D} {c : Nat} (h : iD D c) (hc : c < 512) {eb : Nat → Option Nat} (heb : ∀ r b, eb r = some b → b < 32) (mk : Nat → Int32) {r : Nat} (hr : r < 12) (set : Int32) (hrm : D.2.1.2.1 + bm_would mk (set &&& ((bm_em (eb r)) ^^^ (-1))) 12 ≤ 4000) : iD (bm_start eb mk r set D) (c + 1) := by
  have h1 := h.1
  have h2 := h.2.1
  have hn := Nat.le_trans (start_n heb mk r set D) hrm
  have hE : iP (D.1.2.1 + 1) (bm_push D.1 (fun _ => (0 : Int32)), D.2) := ⟨h.2.2.1.push (by omega) _, h.2.2.2.1, fun i hi => (h.2.2.2.2 i hi).mono (Nat.le_succ _)⟩
  have hz : (bm_push D.1 (fun _ => (0 : Int32)), D.2).1.2.1 = D.1.2.1 + 1 := rfl
  have hz2 : (bm_push D.1 (fun _ => (0 : Int32)), D.2).2.1.2.1 = D.2.1.2.1 := rfl
  have hs : bm_start eb mk r set D = bm_handle eb mk (D.1.2.1 + 1) r set 0 (bm_push D.1 (fun _ => (0 : Int32)), D.2) := rfl
  rw [hs] at hn ⊢
  generalize (bm_push D.1 (fun _ => (0 : Int32)), D.2) = E at hE hz hz2 hn
  have hnp : (bm_handle eb mk (D.1.2.1 + 1) r set 0 E).1.2.1 = D.1.2.1 + 1 := (handle_np eb mk (D.1.2.1 + 1) r set 0 E).trans hz
  have hh := hE.handle eb mk (p := D.1.2.1 + 1) set (hp := 0) (by omega) (Nat.le_refl _) hr (by omega) (by omega)
  generalize bm_handle eb mk (D.1.2.1 + 1) r set 0 E = F at hn hnp hh
  exact ⟨by omega, hn, by rw [hnp]; exact hh⟩
/-! ### groups -/
def cntN (f : Nat → Nat → Int32) (g : Nat) : Nat → Nat
  | 0 => 0
  | n + 1 => cntN f g n + (if f n 0 = nI g then 1 else 0)
theorem cntN_le (f : Nat → Nat → Int32) (g : Nat) : ∀ n, cntN f g n ≤ n
  | 0 => Nat.le_refl _
  | n + 1 => by
    have := cntN_le f g n
    unfold cntN
    split <;> omega
theorem cntN_congr {f f2 : Nat → Nat → Int32} {g : Nat} : ∀ n, (∀ i, i < n → f i = f2 i) → cntN f g n = cntN f2 g n
  | 0, _ => rfl
  | n + 1, h => by
    unfold cntN
    rw [cntN_congr n (fun i hi => h i (by omega)), h n (by omega)]
theorem cntN_0 {f : Nat → Nat → Int32} {g : Nat} : ∀ n, cntN f g n = 0 ↔ ∀ i, i < n → f i 0 ≠ nI g
  | 0 => ⟨fun _ i hi => absurd hi (by omega), fun _ => rfl⟩
  | n + 1 => by
    have ih := cntN_0 (f := f) (g := g) n
    unfold cntN
    constructor
    · intro h i hi
      by_cases e : f n 0 = nI g
      · rw [if_pos e] at h
        omega
      · by_cases e2 : i = n
        · rw [e2]
          exact e
        · rw [if_neg e] at h
          exact ih.mp (by omega) i (by omega)
    · intro h
      rw [if_neg (h n (by omega)), ih.mpr (fun i hi => h i (by omega))]
theorem cntN_front (f : Nat → Nat → Int32) (g : Nat) : ∀ n, cntN f g (n + 1) = (if f 0 0 = nI g then 1 else 0) + cntN (fun i => f (i + 1)) g n
  | 0 => by
    show 0 + (if f 0 0 = nI g then 1 else 0) = (if f 0 0 = nI g then 1 else 0) + 0
    omega
  | n + 1 => by
    show cntN f g (n + 1) + (if f (n + 1) 0 = nI g then 1 else 0) = (if f 0 0 = nI g then 1 else 0) + (cntN (fun i => f (i + 1)) g n + (if f (n + 1) 0 = nI g then 1 else 0))
    rw [cntN_front f g n]
    omega
def iG (eb : Nat → Option Nat) (G : bm_G) : Prop := (∀ a b, G.2.2.1 a b ≤ 100) ∧ (∀ g, g < 8 → G.2.2.2.2 g = cntN G.2.2.2.1.2.2 g G.2.2.2.1.2.1) ∧ (∀ g, 8 ≤ g → G.2.2.2.2 g = 0) ∧ (∀ a b, G.1 a = some b → b < 12) ∧ (∀ g e, g < 8 → G.1 g = some e → eb e ≠ none) ∧ capok G.2.2.2.1 ∧ G.2.2.2.1.2.1 ≤ 4000 ∧
  (∀ i, i < G.2.2.2.1.2.1 → ∃ g, g < 8 ∧ G.2.2.2.1.2.2 i 0 = nI g ∧ G.1 g ≠ none) ∧ ∀ g, g < 8 → G.1 g = none → G.2.1 g = 0
theorem nI_8 {a b : Nat} (ha : a < 8) (hb : b < 8) : nI a = nI b ↔ a = b := nI_eq (by omega) (by omega)
theorem iG.tell {eb : Nat → Option Nat} {G : bm_G} (h : iG eb G) {e g : Nat} (hg : g < 8) (hi : G.1 g ≠ none) (hn : G.2.2.2.1.2.1 < 4000) : iG eb (bm_tell eb e g G) := by
  obtain ⟨h1, h2, h3, h4, h5, h6, h7, h8, h9⟩ := h
  refine ⟨h1, fun k hk => ?_, fun k hk => ?_, h4, h5, h6.push (by omega) _, ?_, fun i hi9 => ?_, h9⟩
  · show (if k = g then G.2.2.2.2 g + 1 else G.2.2.2.2 k) = cntN (bm_push G.2.2.2.1 (bm_ntrow eb G.2.2.1 e g)).2.2 k (G.2.2.2.1.2.1 + 1)
    unfold cntN
    rw [bm_push_at, cntN_congr (f2 := G.2.2.2.1.2.2) _ (fun i hi9 => bm_push_old _ _ hi9), ← h2 k hk]
    show _ = _ + (if nI g = nI k then 1 else 0)
    by_cases c : k = g
    · rw [if_pos c, if_pos (by rw [c]), c]
    · rw [if_neg c, if_neg (fun z => c ((nI_8 hg hk).mp z).symm)]
      rfl
  · show (if k = g then _ else G.2.2.2.2 k) = 0
    rw [if_neg (by omega)]
    exact h3 k hk
  · show G.2.2.2.1.2.1 + 1 ≤ 4000
    omega
  · have hi9 : i < G.2.2.2.1.2.1 + 1 := hi9
    show ∃ k, k < 8 ∧ (bm_push G.2.2.2.1 _).2.2 i 0 = nI k ∧ _
    by_cases c : i = G.2.2.2.1.2.1
    · rw [c, bm_push_at]
      exact ⟨g, hg, rfl, hi⟩
    · rw [bm_push_old _ _ (show i < G.2.2.2.1.2.1 by omega)]
      exact h8 i (by omega)
theorem iG.tellA {eb : Nat → Option Nat} {G : bm_G} (h : iG eb G) (e : Nat) (hn : G.2.2.2.1.2.1 + 8 ≤ 4000) : ∀ n, n ≤ 8 → iG eb (bm_tellA eb e G n)
  | 0, _ => h
  | n + 1, hj => by
    have h1 := tellA_n eb e G n
    unfold bm_tellA
    split
    · rename_i hne
      exact (iG.tellA h e hn n (by omega)).tell (by omega) (by rw [(bm_tellA_1 eb e G n).1]; exact hne) (by omega)
    · exact iG.tellA h e hn n (by omega)
theorem iG.count {eb : Nat → Option Nat} {G : bm_G} (h : iG eb G) (e g : Nat) {nx : Nat} (hnx : nx ≤ 100) : iG eb (bm_count e g nx G) := by
  refine ⟨fun a b => ?_, h.2⟩
  show (if a = e ∧ b = g then nx else G.2.2.1 a b) ≤ 100
  split
  · exact hnx
  · exact h.1 a b
theorem iG.rec {eb : Nat → Option Nat} {G : bm_G} (h : iG eb G) {e g : Nat} {nx : Nat} (hg : g < 8) (hnx : nx ≤ 100) (hr : G.2.2.2.1.2.1 < 4000 ∨ ¬ bm_news G.1 G.2.2.1 e g nx) : iG eb (bm_rec eb e g nx G) := by
  unfold bm_rec
  split
  · rename_i hb
    have hw := bP_of hb
    exact (h.count e g hnx).tell hg hw.1 (hr.resolve_right (fun z => z hw))
  · exact h.count e g hnx
theorem iG.drop {eb : Nat → Option Nat} {G : bm_G} (h : iG eb G) (hn : 0 < G.2.2.2.1.2.1) : ∃ g, g < 8 ∧ G.2.2.2.1.2.2 0 0 = nI g ∧ 0 < G.2.2.2.2 g ∧ bm_gof G = g ∧ G.1 g ≠ none ∧ iG eb (bm_gdrop g G) := by
  obtain ⟨h1, h2, h3, h4, h5, h6, h7, h8, h9⟩ := h
  obtain ⟨g, hg, hr, hi⟩ := h8 0 hn
  have hcnt : ∀ k, cntN G.2.2.2.1.2.2 k G.2.2.2.1.2.1 = (if G.2.2.2.1.2.2 0 0 = nI k then 1 else 0) + cntN (fun i => G.2.2.2.1.2.2 (i + 1)) k (G.2.2.2.1.2.1 - 1) := fun k => by
    rw [← cntN_front, show G.2.2.2.1.2.1 - 1 + 1 = G.2.2.2.1.2.1 by omega]
  have hpos : 0 < G.2.2.2.2 g := by
    rw [h2 g hg, hcnt g, if_pos hr]
    omega
  refine ⟨g, hg, hr, hpos, ?_, hi, h1, fun k hk => ?_, fun k hk => ?_, h4, h5, h6.drop, ?_, fun i hi9 => ?_, h9⟩
  · unfold bm_gof
    rw [hr]
    exact nI_clamp (by omega)
  · show (if k = g then G.2.2.2.2 g - 1 else G.2.2.2.2 k) = cntN (fun i => G.2.2.2.1.2.2 (i + 1)) k (G.2.2.2.1.2.1 - 1)
    have q := hcnt k
    rw [← h2 k hk, hr] at q
    by_cases c : k = g
    · rw [if_pos c]
      rw [if_pos (by rw [c]), c] at q
      rw [c]
      omega
    · rw [if_neg c]
      rw [if_neg (fun z => c ((nI_8 hg hk).mp z).symm)] at q
      omega
  · show (if k = g then _ else G.2.2.2.2 k) = 0
    rw [if_neg (by omega)]
    exact h3 k hk
  · show G.2.2.2.1.2.1 - 1 ≤ 4000
    omega
  · have hi9 : i < G.2.2.2.1.2.1 - 1 := hi9
    exact h8 (i + 1) (by omega)
theorem iG.del {eb : Nat → Option Nat} {G : bm_G} (h : iG eb G) (hn : 0 < G.2.2.2.1.2.1) : iG eb (bm_gdel G) := by
  obtain ⟨g, hg, hr, hp, hgo, hi, q⟩ := h.drop hn
  unfold bm_gdel
  rw [hgo]
  obtain ⟨q1, q2, q3, q4, q5, q6, q7, q8, q9⟩ := q
  refine ⟨q1, q2, q3, q4, q5, q6, q7, q8, fun k hk hk2 => ?_⟩
  show (if k = g then _ else G.2.1 k) = 0
  rw [if_neg (fun z => hi (by rw [← z]; exact hk2))]
  exact q9 k hk hk2
theorem iG.lose {eb : Nat → Option Nat} {G : bm_G} (h : iG eb G) : iG eb (bm_glose G) := by
  unfold bm_glose
  split
  · exact h
  · obtain ⟨g, hg, hr, hp, hgo, hi, q⟩ := h.drop (by omega)
    rw [hgo]
    exact q
theorem git_0 (G : bm_G) : ∀ j i, i ≤ j → (bm_git G i).2.2.2.1.2.1 = 0 → (bm_git G j).2.2.2.1.2.1 = 0
  | 0, i, hi, h => by
    rw [show i = 0 by omega] at h
    exact h
  | j + 1, i, hi, h => by
    by_cases e : i = j + 1
    · rw [e] at h
      exact h
    · have := git_0 G j i (by omega) h
      show (bm_git G j).2.2.2.1.2.1 - 1 = 0
      omega
theorem iG.git {eb : Nat → Option Nat} {G : bm_G} (h : iG eb G) : ∀ j, (∀ i, i < j → 0 < (bm_git G i).2.2.2.1.2.1) → iG eb (bm_git G j)
  | 0, _ => h
  | j + 1, hg => (iG.git h j (fun i hi => hg i (by omega))).del (hg j (by omega))
theorem iG.hq {eb : Nat → Option Nat} {G : bm_G} (h : iG eb G) (j : Nat) (hj : 0 < (bm_git G j).2.2.2.1.2.1) : ∃ g, g < 8 ∧ (bm_git G j).2.2.2.1.2.2 0 0 = nI g ∧ 0 < (bm_git G j).2.2.2.2 g := by
  have hpos : ∀ i, i < j → 0 < (bm_git G i).2.2.2.1.2.1 := fun i hi => Nat.pos_of_ne_zero (fun z => by
    have := git_0 G j i (by omega) z
    omega)
  obtain ⟨g, hg, hr, hp, -⟩ := (h.git j hpos).drop hj
  exact ⟨g, hg, hr, hp⟩
theorem iG.appoint {eb : Nat → Option Nat} {G : bm_G} (h : iG eb G) {g e : Nat} (he : e < 12) (hee : eb e ≠ none) : iG eb (bm_appoint g e G) := by
  obtain ⟨h1, h2, h3, h4, h5, h6, h7, h8, h9⟩ := h
  refine ⟨h1, h2, h3, fun a b hab => ?_, fun k x hk hx => ?_, h6, h7, fun i hi => ?_, fun k hk hk2 => ?_⟩
  · have hab : (if a = g then some e else G.1 a) = some b := hab
    split at hab
    · cases hab
      exact he
    · exact h4 a b hab
  · have hx : (if k = g then some e else G.1 k) = some x := hx
    split at hx
    · cases hx
      exact hee
    · exact h5 k x hk hx
  · obtain ⟨k, hk, hr, hi2⟩ := h8 i hi
    refine ⟨k, hk, hr, ?_⟩
    show (if k = g then some e else G.1 k) ≠ none
    split
    · exact fun z => by cases z
    · exact hi2
  · have hk2 : (if k = g then some e else G.1 k) = none := hk2
    show (if k = g then 0 else G.2.1 k) = 0
    split at hk2
    · cases hk2
    · rename_i c
      rw [if_neg c]
      exact h9 k hk hk2
theorem iG.gi {S : bm_S} (h : iG S.eb S.G) : bm_gi S := by
  obtain ⟨h1, h2, h3, h4, h5, h6, h7, h8, h9⟩ := h
  refine ⟨h1, fun g => ?_, h4, Nat.le_trans h6.2.1 (by decide)⟩
  by_cases c : g < 8
  · rw [h2 g c]
    have := cntN_le S.G.2.2.2.1.2.2 g S.G.2.2.2.1.2.1
    omega
  · rw [h3 g (by omega)]
    omega
theorem iG.idle {S : bm_S} (h : iG S.eb S.G) {g : Nat} (hg : g < 8) : bm_idle S g ↔ rf_idle S g := by
  unfold bm_idle rf_idle
  rw [h.2.1 g hg, cntN_0]
/-! ### edges -/
def iE (eb : Nat → Option Nat) (tk : Int32) (es c : Nat) : Prop := (∀ r b, eb r = some b → b < 32) ∧ (∀ b, b < 32 → (tk &&& bm_em (some b) = 0 ↔ ∀ k, k < 12 → eb k ≠ some b)) ∧ es ≤ c
theorem em_bit {b k : Nat} (hb : b < 32) : (bm_em (some b)).toBitVec.getLsbD k = decide (k = b) := by
  have he : (bm_em (some b)).toBitVec = BitVec.twoPow 32 b := by
    show ((1 : Int32) <<< (nI b &&& 31)).toBitVec = _
    rw [nI_m31 hb, Int32.toBitVec_shiftLeft]
    unfold nI
    rw [Int32.toBitVec_ofNat', sm32 b hb, BitVec.shiftLeft_eq', BitVec.toNat_ofNat, Nat.mod_eq_of_lt (show b < 2 ^ 32 by omega)]
    rfl
  rw [he, BitVec.getLsbD_twoPow]
  by_cases c : k = b
  · rw [c]
    simp [hb]
  · simp only [c, decide_false]
    simp [show ¬ b = k from fun z => c z.symm]
theorem and_em0 (x : Int32) {b : Nat} (hb : b < 32) : x &&& bm_em (some b) = 0 ↔ x.toBitVec.getLsbD b = false := by
  rw [and_em x hb]
  by_cases c : x.toBitVec.getLsbD b = true
  · rw [if_pos c, c]
    exact ⟨fun z => absurd z (em_ne hb), fun z => by cases z⟩
  · rw [if_neg c]
    exact ⟨fun _ => by simpa using c, fun _ => rfl⟩
theorem iE.edge {eb : Nat → Option Nat} {tk : Int32} {es c : Nat} (h : iE eb tk es c) {r b : Nat} (hr : r < 12) (hb : b < 32) (hn : eb r = none) : iE (bm_up1 eb r (some b)) (tk ||| bm_em (some b)) (es + 1) (c + 1) := by
  obtain ⟨h1, h2, h3⟩ := h
  refine ⟨fun x y hxy => ?_, fun b2 hb2 => ?_, by omega⟩
  · have hxy : (if x = r then some b else eb x) = some y := hxy
    split at hxy
    · cases hxy
      exact hb
    · exact h1 x y hxy
  · have k := h2 b2 hb2
    rw [and_em0 _ hb2] at k ⊢
    rw [Int32.toBitVec_or, BitVec.getLsbD_or, em_bit hb, Bool.or_eq_false_iff, k]
    constructor
    · rintro ⟨q1, q2⟩ x hx hxe
      have hxe : (if x = r then some b else eb x) = some b2 := hxe
      split at hxe
      · cases hxe
        exact of_decide_eq_false q2 rfl
      · exact q1 x hx hxe
    · intro q
      refine ⟨fun x hx hxe => ?_, decide_eq_false (fun z => ?_)⟩
      · refine q x hx ?_
        show (if x = r then some b else eb x) = some b2
        rw [if_neg (fun z => by rw [z, hn] at hxe; cases hxe)]
        exact hxe
      · refine q r hr ?_
        show (if r = r then some b else eb r) = some b2
        rw [if_pos rfl, z]
theorem em_0 {o : Option Nat} (h : ∀ b, o = some b → b < 32) : bm_em o = 0 ↔ o = none := by
  cases o with
  | none => exact ⟨fun _ => rfl, fun _ => rfl⟩
  | some b => exact ⟨fun z => absurd z (em_ne (h b rfl)), fun z => by cases z⟩
