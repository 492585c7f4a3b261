/-! Groups: what the operations do. ingress, heard, receivers, notes (rows: group, bit, is in), notes of each group -/
noncomputable def bP (p : Prop) : Bool := @decide p (Classical.propDecidable p)
theorem bP_t {p : Prop} (h : p) : bP p = true := by
  unfold bP
  exact @decide_eq_true p (Classical.propDecidable p) h
theorem bP_f {p : Prop} (h : ¬ p) : bP p = false := by
  unfold bP
  exact @decide_eq_false p (Classical.propDecidable p) h
theorem bP_of {p : Prop} (h : bP p = true) : p := by
  by_cases e : p
  · exact e
  · rw [bP_f e] at h
    cases h
theorem bP_no {p : Prop} (h : bP p = false) : ¬ p := fun e => by
  rw [bP_t e] at h
  cases h
abbrev bm_G : Type := (Nat → Option Nat) × (Nat → Int32) × (Nat → Nat → Nat) × bm_M Int32 × (Nat → Nat)
def bm_ntrow (eb : Nat → Option Nat) (rc : Nat → Nat → Nat) (e g : Nat) : Nat → Int32 := bm_row3 (nI g) (bm_em (eb e)) (bI (decide (0 < rc e g)))
def bm_tell (eb : Nat → Option Nat) (e g : Nat) (G : bm_G) : bm_G := (G.1, G.2.1, G.2.2.1, bm_push G.2.2.2.1 (bm_ntrow eb G.2.2.1 e g), bm_up1 G.2.2.2.2 g (G.2.2.2.2 g + 1))
def bm_tellA (eb : Nat → Option Nat) (e : Nat) (G : bm_G) : Nat → bm_G
  | 0 => G
  | g + 1 => if G.1 g ≠ none then bm_tell eb e g (bm_tellA eb e G g) else bm_tellA eb e G g
def bm_news (ing : Nat → Option Nat) (rc : Nat → Nat → Nat) (e g nx : Nat) : Prop := ing g ≠ none ∧ ¬ (0 < rc e g ↔ 0 < nx)
def bm_count (e g nx : Nat) (G : bm_G) : bm_G := (G.1, G.2.1, bm_up2 G.2.2.1 e g nx, G.2.2.2.1, G.2.2.2.2)
noncomputable def bm_rec (eb : Nat → Option Nat) (e g nx : Nat) (G : bm_G) : bm_G := if bP (bm_news G.1 G.2.2.1 e g nx) = true then bm_tell eb e g (bm_count e g nx G) else bm_count e g nx G
def bm_gdrop (g : Nat) (G : bm_G) : bm_G := (G.1, G.2.1, G.2.2.1, bm_drop G.2.2.2.1, bm_up1 G.2.2.2.2 g (G.2.2.2.2 g - 1))
def bm_gof (G : bm_G) : Nat := (G.2.2.2.1.2.2 0 0).toNatClampNeg
/-- the oldest note is taken in -/
def bm_gdel (G : bm_G) : bm_G := (G.1, bm_up1 G.2.1 (bm_gof G) (if G.2.2.2.1.2.2 0 2 = nI 1 then G.2.1 (bm_gof G) ||| G.2.2.2.1.2.2 0 1 else G.2.1 (bm_gof G) &&& (G.2.2.2.1.2.2 0 1 ^^^ (-1))), (bm_gdrop (bm_gof G) G).2.2)
def bm_appoint (g e : Nat) (G : bm_G) : bm_G := (bm_up1 G.1 g (some e), bm_up1 G.2.1 g 0, G.2.2.1, G.2.2.2.1, G.2.2.2.2)
/-- notes are of groups that have an ingress; their numbers -/
def bm_gok (G : bm_G) : Prop := (∀ i, i < G.2.2.2.1.2.1 → ∃ g, g < 8 ∧ G.2.2.2.1.2.2 i 0 = nI g) ∧ (∀ g e, G.1 g = some e → e < 12) ∧ (∀ e g, G.2.2.1 e g ≤ 100) ∧ (∀ g, G.2.2.2.2 g ≤ G.2.2.2.1.2.1) ∧ (0 < G.2.2.2.1.2.1 → 0 < G.2.2.2.2 (bm_gof G))
theorem bm_tellA_1 (eb : Nat → Option Nat) (e : Nat) (G : bm_G) : ∀ n, (bm_tellA eb e G n).1 = G.1 ∧ (bm_tellA eb e G n).2.1 = G.2.1 ∧ (bm_tellA eb e G n).2.2.1 = G.2.2.1
  | 0 => ⟨rfl, rfl, rfl⟩
  | n + 1 => by
    unfold bm_tellA
    split
    · exact bm_tellA_1 eb e G n
    · exact bm_tellA_1 eb e G n
theorem bm_tellA_le (eb : Nat → Option Nat) (e : Nat) (G : bm_G) : ∀ (n j : Nat), j ≤ n → (bm_tellA eb e G j).2.2.2.1.1 ≤ (bm_tellA eb e G n).2.2.2.1.1
  | 0, j, h => by
    rw [show j = 0 by omega]
    exact Nat.le_refl _
  | n + 1, j, h => by
    by_cases c : j = n + 1
    · rw [c]
      exact Nat.le_refl _
    · refine Nat.le_trans (bm_tellA_le eb e G n j (by omega)) ?_
      show _ ≤ (if G.1 n ≠ none then bm_tell eb e n (bm_tellA eb e G n) else bm_tellA eb e G n).2.2.2.1.1
      split
      · exact bm_push_le _ _
      · exact Nat.le_refl _
