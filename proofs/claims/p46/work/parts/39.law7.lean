/-! the law's own run: what its walk reads -/
theorem rgc_is {i : Int} (h : 0 ≤ i ∧ i < 3) : rgc i = 103 ∨ rgc i = 114 ∨ rgc i = 122 := by
  rcases (show i = 0 ∨ i = 1 ∨ i = 2 by omega) with rfl | rfl | rfl <;> decide
theorem lcs_same {μ ν : Mem} {s n p : Nat} (h1 : ν 49 = μ 49) (h2 : ν 50 = μ 50) : lcs ν s n p = lcs μ s n p := by
  unfold lcs
  refine sm_congr s (fun r hr => ?_)
  unfold lcT lld
  rw [h1, h2]
theorem RI_fact {μ0 ν ξ : Mem} {rule l z : Int} {k s n : Nat} (h : RI μ0 ν ξ rule k l z s n) : WF ξ ∧ pcn ξ = n ∧ POK ν n ∧ ROK ν s ∧ (∀ q, q < n → lcs ν s n q = cst ξ 0 q (ξ (5 + 2 * 0) q)) ∧
    (∀ q w, q < n → w < 3 → lcs (upM ν 50 (4 * q + 2) (ν 51 (3 * q + w))) s n q = cst ξ 0 q (w : Int) ∧ ν 51 (3 * q + w) = bits ξ q (w : Int) ∧ 0 ≤ ν 51 (3 * q + w) ∧ ν 51 (3 * q + w) ≤ 255) ∧
    (∀ q, q < n → ν 50 (4 * q + 2) = bits ξ q (bsF ξ 0 q 0) ∧ ν 50 (4 * q + 3) = ξ (37 + q) 2 ∧ (0 ≤ ν 50 (4 * q + 3) ∧ ν 50 (4 * q + 3) ≤ 1)) ∧
    ∀ q, q < n → bst ξ 0 q = bsF ξ 0 q 3 ∧ (ξ (37 + q) 2 = 0 → gn ξ 0 q = cst ξ 0 q (ξ (5 + 2 * 0) q) - cst ξ 0 q (bsF ξ 0 q 3)) ∧ (ξ (37 + q) 2 ≠ 0 → gn ξ 0 q = 0) := by
  have hm := h.2.2.1
  have hR := hm.2.2.2.1
  have h5 := hR.2.2.2.1
  have hE : E49 ξ (mx ξ ν) := mx_E49
  have hWξ : WF ξ := (mx_E49').WF9 hm.1
  have hag : AG ξ (mx ξ ν) 0 := hE.AG9 (by omega)
  have e49 : mx ξ ν 49 = ν 49 := mx_hi (by omega)
  have e50 : mx ξ ν 50 = ν 50 := mx_hi (by omega)
  have e51 : mx ξ ν 51 = ν 51 := mx_hi (by omega)
  have e5 : mx ξ ν (5 + 2 * 0) = ξ (5 + 2 * 0) := mx_lo (by omega)
  refine ⟨hWξ, by rw [← hE.AB9.pcn9]; exact hR.2.1, ?_, ?_, fun q hq => ?_, fun q w hq hw => ?_, fun q hq => ?_, fun q hq => ?_⟩
  · have := hR.POK9 hm.1
    unfold POK at *
    rw [e50] at this
    exact this
  · have := hR.ROK9 hm.1
    unfold ROK at *
    rw [e49] at this
    exact this
  · have := lcs_own hm.1 hm.2.1 hR hq
    rw [lcs_same e49 e50, hag.cst9 hWξ (by omega), e5] at this
    exact this
  · have g := lcs_by hm.1 hm.2.1 hR hq hw
    have g2 := hm.way9 hq hw
    rw [← mx_up (by omega), e51, hag.cst9 hWξ (by omega), lcs_same (μ := upM ν 50 (4 * q + 2) (ν 51 (3 * q + w))) (mx_hi (by omega)) (mx_hi (by omega))] at g
    rw [e51, hE.AB9.bits9 (by omega)] at g2
    exact ⟨g, g2⟩
  · have g := hR.2.2.2.2.2 q hq
    have g2 := PL1_led hR hq hm.1
    obtain ⟨g3, g4, g5, g6, -⟩ := g
    rw [e50, hE.AB9.bits9 (by omega), e5] at g5
    have e37 : mx ξ ν (37 + q) = ξ (37 + q) := mx_lo (by omega)
    rw [e50, e37] at g6
    rw [e50] at g2
    exact ⟨g5, g6, g2⟩
  · have g := bst_3 hR hq
    rw [hag.bst9 hWξ (by omega), hag.bsF9 hWξ (by omega)] at g
    have ga := ask_led hR hq
    have e37 : mx ξ ν (37 + q) = ξ (37 + q) := mx_lo (by omega)
    rw [hag.ask9 (by omega), e37] at ga
    refine ⟨g, fun e => ?_, fun e => ?_⟩
    · unfold gn
      rw [ga, if_pos e, if_pos rfl, g]
    · unfold gn
      rw [ga, if_neg e, if_neg (by omega)]
theorem cg_none {ξ : Mem} {n : Nat} (h : cgF ξ 0 n ≤ 0) : ∀ j, j < n → gn ξ 0 j ≤ 0 := by
  intro j hj
  rcases (show gn ξ 0 j ≤ 0 ∨ 0 < gn ξ 0 j by omega) with e | e
  · exact e
  · have := cg_mono (μ := ξ) n hj
    rw [cgF_y e] at this
    have := cgF_rng ξ 0 j
    omega
theorem cg_some {ξ : Mem} {n : Nat} (h : 0 < cgF ξ 0 n) : ∃ j, j < n ∧ 0 < gn ξ 0 j := by
  obtain ⟨k, k1, k2, -⟩ := cg_hit (μ := ξ) (n := 0) (by omega) n h
  exact ⟨k, k1, k2⟩
theorem FG_ge {ξ : Mem} {n P : Nat} {nx : Int} (hn : 1 ≤ n ∧ n ≤ 5) (hP : P ≤ n) (hp : pcn ξ = n) (h : FG ξ 0 P nx) (hc : 0 < cgF ξ 0 n) : ∃ c : Nat, c < n ∧ nx = (c : Int) := by
  rcases h with ⟨-, h⟩ | ⟨k, h1, h2, h3, h4⟩
  · obtain ⟨j, j1, j2⟩ := cg_some hc
    obtain ⟨i, i1, i2⟩ := mod_hit (P := P) hn (by omega) j1
    have := h i (by rw [hp]; exact i1)
    rw [hp, i2] at this
    omega
  · exact ⟨_, by rw [hp]; exact Nat.mod_lt _ (by omega), h3⟩
theorem MG_ge {ξ : Mem} {n : Nat} (hW : WF ξ) (hn : n ≤ 6) (hc : 0 < cgF ξ 0 n) : ∃ c : Nat, c < n ∧ (mgF ξ 0 n).1 = (c : Int) := by
  have r := mgF_rng hW (y := 0) n hn
  rcases (show (mgF ξ 0 n).1 < 0 ∨ 0 ≤ (mgF ξ 0 n).1 by omega) with e | e
  · have e2 := (mgF_gn ξ 0 n).1 e
    obtain ⟨j, j1, j2⟩ := cg_some hc
    have := mg_pos hW n hn j j1
    omega
  · obtain ⟨c, hc⟩ := nat_of e
    exact ⟨c, by omega, hc⟩
