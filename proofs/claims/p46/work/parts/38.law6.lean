/-! the law's room, and what its walks use again and again -/
abbrev rmL : Room := { frames := 21, cells := 600258, slots := 7292426, locals := 10902 }
theorem LST.row9 {μ : Mem} {s n p : Nat} {z : Int} (h : LST μ s n z) (hp : p < n) : (0 ≤ μ 50 (4 * p) ∧ μ 50 (4 * p) ≤ 3) ∧ (0 ≤ μ 50 (4 * p + 1) ∧ μ 50 (4 * p + 1) ≤ 9) ∧ (0 ≤ μ 50 (4 * p + 2) ∧ μ 50 (4 * p + 2) ≤ 255) ∧ (0 ≤ μ 50 (4 * p + 3) ∧ μ 50 (4 * p + 3) ≤ 1) := by
  have h1 := (h.2.2.2.1.POK9 h.1).2 p hp
  exact ⟨h1.1, h1.2.1, h1.2.2, PL1_led h.2.2.2.1 hp h.1⟩
theorem LST.way9 {μ : Mem} {s n p w : Nat} {z : Int} (h : LST μ s n z) (hp : p < n) (hw : w < 3) : μ 51 (3 * p + w) = bits μ p (w : Int) ∧ 0 ≤ μ 51 (3 * p + w) ∧ μ 51 (3 * p + w) ≤ 255 := by
  have h1 := (h.2.2.2.1.2.2.2.2.2 p hp).2.2.2.2.2.bits9 hw
  have h2 := bits_rng h.1 (p := p) (by have := h.2.2.2.1.2.2.2.1; omega) (w : Int)
  rw [← h1.2]
  exact ⟨rfl, h2⟩
theorem totT_rng9 {μ : Mem} (hW : WF μ) {p r : Nat} (hp : p < 6) (hr : r < 8) : 0 ≤ totT μ 0 p r ∧ totT μ 0 p r ≤ 30000 := by
  unfold totT
  have h1 := hW.pl hp
  have h2 := dly_rng hW hr (μ (6 + 2 * 0) r)
  have h3 := mul_rng (a := μ (37 + p) 0) (b := dly μ r (μ (6 + 2 * 0) r)) (A := 3) (B := 10000) (by omega) (by omega)
  split <;> omega
theorem tot_rng {μ : Mem} {s n : Nat} (hW : WF μ) (hL : PL μ 0) (h : REL μ s n) : 0 ≤ tot μ 0 ∧ tot μ 0 ≤ 2000000 := by
  have h5 := h.2.2.2.1
  have h4 := h.2.2.1
  unfold tot
  rw [h.2.1]
  have g := sm_rng (totP μ 0) 240000 n (fun p hp => by
    unfold totP
    rw [h.1]
    have := sm_rng (totT μ 0 p) 30000 s (fun r hr => totT_rng9 hW (by omega) (by omega))
    omega)
  omega
theorem LST_WB {μ : Mem} {s n : Nat} {z : Int} (h : LST μ s n z) : WB μ := by
  intro p hp
  have hR := h.2.2.2.1
  rw [hR.2.1] at hp
  have hpl := hR.2.2.2.2.2 p hp
  have hc := hpl.2.2.2.2.1
  obtain ⟨w, hw⟩ := nat_of hc.1
  have hb := hpl.2.2.2.2.2.bits9 (w := w) (by omega)
  rw [hw, hb.1]
  exact (hpl.2.2.2.2.2.2 w (by omega)).2.2
