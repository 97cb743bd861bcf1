/-! the law's room, and what its walks use again and again -/
abbrev rmL : Room := { frames := 21, cells := 600258, slots := 7292426, locals := 10902 }
theorem LST.row9 {μ : Mem} {s n p : Nat} {z : Int} (h : LST μ s n z) (hp : p < n) : (0 ≤ μ 50 (4 * p) ∧ μ 50 (4 * p) ≤ 3) ∧ (0 ≤ μ 50 (4 * p + 1) ∧ μ 50 (4 * p + 1) ≤ 9) ∧ (0 ≤ μ 50 (4 * p + 2) ∧ μ 50 (4 * p + 2) ≤ 255) ∧ (0 ≤ μ 50 (4 * p + 3) ∧ μ 50 (4 * p + 3) ≤ 1) := by
  have h1 := (h.2.2.2.1.POK9 h.1).2 p hp
  exact ⟨h1.1, h1.2.1, h1.2.2, PL1_led h.2.2.2.1 hp h.1⟩
theorem LST.way9 {μ : Mem} {s n p w : Nat} {z : Int} (h : LST μ s n z) (hp : p < n) (hw : w < 3) : μ 51 (3 * p + w) = bits μ p (w : Int) ∧ 0 ≤ μ 51 (3 * p + w) ∧ μ 51 (3 * p + w) ≤ 255 := by
  have h1 := (h.2.2.2.1.2.2.2.2.2 p hp).2.2.2.2.2.bits9 hw
  have h2 := bits_rng h.1 (p := p) (by have := h.2.2.2.1.2.2.2.1; omega) (w : Int)
  rw [← h1.2]
  exact ⟨rfl, h2⟩
