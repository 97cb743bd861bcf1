/-! memories that agree on the board and on one play -/
def AG (μ ν : Mem) (y : Nat) : Prop := (∀ c, (c = 1 ∨ (21 ≤ c ∧ c < 49)) → ν c = μ c) ∧ ν (5 + 2 * y) = μ (5 + 2 * y) ∧ ν (6 + 2 * y) = μ (6 + 2 * y) ∧ ν (2 + y) 2 = μ (2 + y) 2
def AB (μ ν : Mem) : Prop := ∀ c, (c = 1 ∨ (21 ≤ c ∧ c < 49)) → ν c = μ c
theorem AB.WF9 {μ ν : Mem} (h : AB μ ν) (hW : WF μ) : WF ν := by
  obtain ⟨h1, h2, h3, h4, h5, h6⟩ := hW
  refine ⟨by rw [h 1 (by omega)]; exact h1, by rw [h 1 (by omega)]; exact h2, fun q hq => ?_, fun q hq k hk => ?_, fun r hr => ?_, fun r hr x hx => ?_⟩
  · rw [h (37 + q) (by omega)]; exact h3 q hq
  · rw [h (43 + q) (by omega)]; exact h4 q hq k hk
  · rw [h (21 + r) (by omega)]; exact h5 r hr
  · rw [h (29 + r) (by omega)]; exact h6 r hr x hx
theorem AB.rc9 {μ ν : Mem} (h : AB μ ν) : rc ν = rc μ := by unfold rc; rw [h 1 (by omega)]
theorem AB.pcn9 {μ ν : Mem} (h : AB μ ν) : pcn ν = pcn μ := by unfold pcn; rw [h 1 (by omega)]
theorem AB.bits9 {μ ν : Mem} (h : AB μ ν) {p : Nat} (hp : p < 6) (w : Int) : bits ν p w = bits μ p w := by
  unfold bits
  rw [h (37 + p) (by omega), h (43 + p) (by omega)]
theorem AB.dly9 {μ ν : Mem} (h : AB μ ν) {r : Nat} (hr : r < 8) (x : Int) : dly ν r x = dly μ r x := by
  unfold dly
  rw [h (29 + r) (by omega)]
theorem AG.ask9 {μ ν : Mem} {y : Nat} (h : AG μ ν y) {p : Nat} (hp : p < 6) : ask ν y p = ask μ y p := by
  unfold ask
  rw [h.1 (37 + p) (by omega), h.2.1]
theorem AG.PB9 {μ ν : Mem} {y : Nat} (h : AG μ ν y) (hB : PB μ y) : PB ν y := by
  obtain ⟨-, h2, h3, h4⟩ := h
  obtain ⟨g1, g2, g3⟩ := hB
  exact ⟨fun q hq => by rw [h2]; exact g1 q hq, fun r hr => by rw [h3]; exact g2 r hr, by rw [h4]; exact g3⟩
theorem AG.PL9 {μ ν : Mem} {y : Nat} (h : AG μ ν y) (hW : WF μ) (hL : PL μ y) : PL ν y := by
  obtain ⟨h1, h2, h3, h4⟩ := h
  have hab : AB μ ν := h1
  have h6 := hW.pc6
  obtain ⟨g1, g2, g3⟩ := hL
  refine ⟨fun q hq => by rw [h2]; exact g1 q hq, fun r hr => ?_, by rw [h4]; exact g3⟩
  rw [h3, g2 r hr, hab.rc9, hab.pcn9]
  split
  · apply sm_congr
    intro i hi
    unfold tw
    rw [h2, hab.bits9 (by omega), hab (37 + i) (by omega)]
  · rfl
/-! numbering of the plays: every player has three ways, and has chosen one -/
def LW (μ : Mem) : Prop := ∀ p, p < pcn μ → μ (37 + p) 3 = 3 ∧ 0 ≤ μ (5 + 2 * 0) p ∧ μ (5 + 2 * 0) p < 3
def sz (μ : Mem) (p : Nat) : Int := if ask μ 0 p = 1 then 3 else 1
theorem sz_rng (μ : Mem) (p : Nat) : 1 ≤ sz μ p ∧ sz μ p ≤ 3 := by unfold sz; split <;> omega
/-- the product of the sizes of the last i players -/
def pdI (μ : Mem) : Nat → Int
  | 0 => 1
  | i + 1 => pdI μ i * sz μ (pcn μ - 1 - i)
theorem pdI_s (μ : Mem) (i : Nat) : pdI μ (i + 1) = pdI μ i * sz μ (pcn μ - 1 - i) := rfl
theorem p3_s (n : Nat) : ((3 ^ (n + 1) : Nat) : Int) = 3 * ((3 ^ n : Nat) : Int) := by
  rw [Nat.pow_succ]
  omega
theorem pdI_rng (μ : Mem) : ∀ i : Nat, 1 ≤ pdI μ i ∧ pdI μ i ≤ ((3 ^ i : Nat) : Int)
  | 0 => by simp [pdI]
  | i + 1 => by
    have h1 := pdI_rng μ i
    have h3 := p3_s i
    rw [pdI_s]
    have h2 := sz_rng μ (pcn μ - 1 - i)
    rcases (show sz μ (pcn μ - 1 - i) = 1 ∨ sz μ (pcn μ - 1 - i) = 3 by unfold sz; split <;> simp) with e | e <;> rw [e] <;> omega
theorem pdI_rng6 (μ : Mem) {i : Nat} (h : i ≤ 6) : 1 ≤ pdI μ i ∧ pdI μ i ≤ 729 := by
  have h1 := pdI_rng μ i
  have h2 : 3 ^ i ≤ 3 ^ 6 := Nat.pow_le_pow_right (by omega) h
  omega
/-- one player's rows of the numbering -/
def Nu (μ ν : Mem) (p : Nat) : Prop := ν 9 p = sz μ p ∧ ν 10 p = pdI μ (pcn μ - 1 - p) ∧ (ask μ 0 p = 1 → ∀ w : Nat, w < 3 → ν 11 (5 * p + w) = (w : Int) ∧ ν 12 (5 * p + w) = (w : Int)) ∧ (ask μ 0 p ≠ 1 → ν 11 (5 * p) = μ (5 + 2 * 0) p)
def NBl (μ ν : Mem) (i : Nat) : Prop := (∀ c, c ≠ 3 → c ≠ 4 → c ≠ 9 → c ≠ 10 → c ≠ 11 → c ≠ 12 → ν c = μ c) ∧ (∀ j, j ≠ 2 → ν 3 j = μ 3 j) ∧ ν 3 2 = μ 2 2 ∧ (∀ j, j ≠ 11 → ν 4 j = μ 4 j) ∧ ν 4 11 = pdI μ i ∧ ∀ p, p < pcn μ → pcn μ ≤ p + i → Nu μ ν p
/-- behind the admitting -/
def ADM (μ ν : Mem) (p : Nat) (w : Int) : Prop := (∀ c, c ≠ 9 → c ≠ 11 → c ≠ 12 → ν c = μ c) ∧ (∀ j, j ≠ p → ν 9 j = μ 9 j) ∧ ν 9 p = μ 9 p + 1 ∧ (∀ j, j ≠ 5 * p + (μ 9 p).toNat → ν 11 j = μ 11 j) ∧ ν 11 (5 * p + (μ 9 p).toNat) = w ∧ (∀ j, (w < 0 ∨ j ≠ 5 * p + w.toNat) → ν 12 j = μ 12 j) ∧ (0 ≤ w → ν 12 (5 * p + w.toNat) = μ 9 p)
/-- the ways of one player admitted, the first w of them -/
def ADl (μ ν : Mem) (p w : Nat) : Prop := (∀ c, c ≠ 9 → c ≠ 11 → c ≠ 12 → ν c = μ c) ∧ (∀ j, j ≠ p → ν 9 j = μ 9 j) ∧ ν 9 p = (w : Int) ∧ (∀ j, (j < 5 * p ∨ 5 * p + 5 ≤ j) → ν 11 j = μ 11 j ∧ ν 12 j = μ 12 j) ∧ ∀ v : Nat, v < w → ν 11 (5 * p + v) = (v : Int) ∧ ν 12 (5 * p + v) = (v : Int)
theorem ADl_0 {μ : Mem} {p : Nat} (h : μ 9 p = 0) : ADl μ μ p 0 := ⟨fun _ _ _ _ => rfl, fun _ _ => rfl, h, fun _ _ => ⟨rfl, rfl⟩, fun v hv => by omega⟩
theorem ADl_s {μ ν ξ : Mem} {p w : Nat} (h : ADl μ ν p w) (hw : w < 5) (hA : ADM ν ξ p (w : Int)) : ADl μ ξ p (w + 1) := by
  obtain ⟨h1, h2, h3, h4, h5⟩ := h
  obtain ⟨a1, a2, a3, a4, a5, a6, a7⟩ := hA
  have e : (ν 9 p).toNat = w := by omega
  have e2 : ((w : Int)).toNat = w := by omega
  rw [e] at a4 a5
  rw [e2] at a6 a7
  refine ⟨fun c c1 c2 c3 => by rw [a1 c c1 c2 c3, h1 c c1 c2 c3], fun j hj => by rw [a2 j hj, h2 j hj], by rw [a3, h3]; omega, fun j hj => ⟨by rw [a4 j (by omega)]; exact (h4 j hj).1, by rw [a6 j (by omega)]; exact (h4 j hj).2⟩, fun v hv => ?_⟩
  by_cases e3 : v = w
  · subst e3
    exact ⟨a5, by rw [a7 (by omega), h3]⟩
  · have := h5 v (by omega)
    exact ⟨by rw [a4 _ (by omega)]; exact this.1, by rw [a6 _ (by omega)]; exact this.2⟩
theorem NBl_AG {μ ν : Mem} {i : Nat} (h : NBl μ ν i) : AG μ ν 0 := ⟨fun c hc => h.1 c (by omega) (by omega) (by omega) (by omega) (by omega) (by omega), h.1 _ (by omega) (by omega) (by omega) (by omega) (by omega) (by omega), h.1 _ (by omega) (by omega) (by omega) (by omega) (by omega) (by omega), by rw [h.1 (2 + 0) (by omega) (by omega) (by omega) (by omega) (by omega) (by omega)]⟩
/-- one player's turn of the numbering: from ν by zero, stride, ways, count -/
theorem NBl_s {μ ν ν1 ν2 ξ : Mem} {i p : Nat} (h : NBl μ ν i) (hp : p + i + 1 = pcn μ) (hch : μ (5 + 2 * 0) p ≤ 4) (e1 : ν1 = upM ν 9 p 0) (e2 : ν2 = upM ν1 10 p (pdI μ i))
    (hX : (ask μ 0 p = 1 ∧ ADl ν2 ξ p 3) ∨ (ask μ 0 p ≠ 1 ∧ ADM ν2 ξ p (μ (5 + 2 * 0) p))) : ξ 4 11 = pdI μ i ∧ ξ 9 p = sz μ p ∧ NBl μ (upM ξ 4 11 (pdI μ i * sz μ p)) (i + 1) := by
  obtain ⟨h1, h2, h3, h4, h5, h6⟩ := h
  have n : ∀ c, c ≠ 9 → c ≠ 10 → ν2 c = ν c := fun c c1 c2 => by rw [e2, upM_off c2, e1, upM_off c1]
  have n9 : ∀ j, j ≠ p → ν2 9 j = ν 9 j := fun j hj => by rw [e2, upM_off (by omega), e1, upM_ne (Or.inr hj)]
  have n9p : ν2 9 p = 0 := by rw [e2, upM_off (by omega), e1, upM_self]
  have n10 : ∀ j, j ≠ p → ν2 10 j = ν 10 j := fun j hj => by rw [e2, upM_ne (Or.inr hj), e1, upM_off (by omega)]
  have n10p : ν2 10 p = pdI μ i := by rw [e2, upM_self]
  -- what ξ is
  have x : (∀ c, c ≠ 9 → c ≠ 11 → c ≠ 12 → ξ c = ν2 c) ∧ (∀ j, j ≠ p → ξ 9 j = ν2 9 j) ∧ ξ 9 p = sz μ p ∧ (∀ j, (j < 5 * p ∨ 5 * p + 5 ≤ j) → ξ 11 j = ν2 11 j) ∧ (∀ j, ask μ 0 p = 1 → (j < 5 * p ∨ 5 * p + 5 ≤ j) → ξ 12 j = ν2 12 j) ∧ (ask μ 0 p = 1 → ∀ w : Nat, w < 3 → ξ 11 (5 * p + w) = (w : Int) ∧ ξ 12 (5 * p + w) = (w : Int)) ∧ (ask μ 0 p ≠ 1 → ξ 11 (5 * p) = μ (5 + 2 * 0) p) := by
    rcases hX with ⟨a, x1, x2, x3, x4, x5⟩ | ⟨a, x1, x2, x3, x4, x5, x6, x7⟩
    · exact ⟨x1, x2, by rw [x3]; unfold sz; rw [if_pos a]; rfl, fun j hj => (x4 j hj).1, fun j _ hj => (x4 j hj).2, fun _ => x5, fun q => absurd a q⟩
    · rw [n9p] at x3 x4 x5
      refine ⟨x1, x2, by rw [x3]; unfold sz; rw [if_neg a]; rfl, fun j hj => x4 j (by simp; omega), fun j q => absurd q a, fun q => absurd q a, fun _ => ?_⟩
      exact x5
  obtain ⟨x1, x2, x3, x4, x5, x6, x7⟩ := x
  have k0 : ∀ c, c ≠ 4 → upM ξ 4 11 (pdI μ i * sz μ p) c = ξ c := fun c hc => upM_off hc
  have ei : pcn μ - 1 - i = p := by omega
  refine ⟨by rw [x1 4 (by omega) (by omega) (by omega), n 4 (by omega) (by omega)]; exact h5, x3, fun c c1 c2 c3 c4 c5 c6 => ?_, fun j hj => ?_, ?_, fun j hj => ?_, ?_, fun q hq1 hq2 => ?_⟩
  · rw [k0 c c2, x1 c c3 c5 c6, n c c3 c4]; exact h1 c c1 c2 c3 c4 c5 c6
  · rw [k0 3 (by omega), x1 3 (by omega) (by omega) (by omega), n 3 (by omega) (by omega)]; exact h2 j hj
  · rw [k0 3 (by omega), x1 3 (by omega) (by omega) (by omega), n 3 (by omega) (by omega)]; exact h3
  · rw [upM_ne (Or.inr hj), x1 4 (by omega) (by omega) (by omega), n 4 (by omega) (by omega)]; exact h4 j hj
  · rw [upM_self, pdI_s, ei]
  · unfold Nu
    rw [k0 9 (by omega), k0 10 (by omega), k0 11 (by omega), k0 12 (by omega)]
    by_cases e : q = p
    · subst e
      refine ⟨x3, by rw [x1 10 (by omega) (by omega) (by omega), n10p, show pcn μ - 1 - q = i by omega], x6, x7⟩
    · have hq := h6 q hq1 (by omega)
      refine ⟨by rw [x2 q e, n9 q e]; exact hq.1, by rw [x1 10 (by omega) (by omega) (by omega), n10 q e]; exact hq.2.1, fun a w hw => ?_, fun a => ?_⟩
      · have g := hq.2.2.1 a w hw
        refine ⟨by rw [x4 _ (by omega), n 11 (by omega) (by omega)]; exact g.1, ?_⟩
        rcases hX with ⟨b, -⟩ | ⟨b, y1, y2, y3, y4, y5, y6, y7⟩
        · rw [x5 _ b (by omega), n 12 (by omega) (by omega)]; exact g.2
        · rw [y6 _ (Or.inr (by omega)), n 12 (by omega) (by omega)]; exact g.2
      · rw [x4 _ (by omega), n 11 (by omega) (by omega)]; exact hq.2.2.2 a

def NB (μ ν : Mem) : Prop := NBl μ ν (pcn μ)
/-! a play's number and its ways -/
def st (μ : Mem) (p : Nat) : Int := pdI μ (pcn μ - 1 - p)
def dg (μ : Mem) (k : Int) (p : Nat) : Int := k / st μ p % sz μ p
def wyk (μ : Mem) (k : Int) (p : Nat) : Int := if ask μ 0 p = 1 then dg μ k p else μ (5 + 2 * 0) p
theorem st_pos (μ : Mem) (p : Nat) : 1 ≤ st μ p := (pdI_rng μ _).1
theorem dg_rng (μ : Mem) (k : Int) (p : Nat) : 0 ≤ dg μ k p ∧ dg μ k p < sz μ p := by
  have h := sz_rng μ p
  exact ⟨Int.emod_nonneg _ (by omega), Int.emod_lt_of_pos _ (by omega)⟩
/-- pdI over more players is a multiple -/
theorem pdI_mul (μ : Mem) (a : Nat) : ∀ d : Nat, ∃ m : Int, 1 ≤ m ∧ pdI μ (a + d) = pdI μ a * m
  | 0 => ⟨1, by omega, by rw [Int.mul_one]; rfl⟩
  | d + 1 => by
    obtain ⟨m, h1, h2⟩ := pdI_mul μ a d
    have h3 := sz_rng μ (pcn μ - 1 - (a + d))
    refine ⟨m * sz μ (pcn μ - 1 - (a + d)), ?_, ?_⟩
    · have := Int.mul_le_mul h1 h3.1 (by omega) (by omega)
      omega
    · rw [← Nat.add_assoc, pdI_s, h2, Int.mul_assoc]
/-- the play with one player's way changed -/
theorem dg_set {μ : Mem} {k w : Int} {p : Nat} (hp : p < pcn μ) (hk : 0 ≤ k ∧ k < pdI μ (pcn μ)) (hw : 0 ≤ w ∧ w < sz μ p) :
    (0 ≤ k + (w - dg μ k p) * st μ p ∧ k + (w - dg μ k p) * st μ p < pdI μ (pcn μ)) ∧ dg μ (k + (w - dg μ k p) * st μ p) p = w ∧ ∀ q, q < pcn μ → q ≠ p → dg μ (k + (w - dg μ k p) * st μ p) q = dg μ k q := by
  have hs := st_pos μ p
  have hz := sz_rng μ p
  have hd := dg_rng μ k p
  -- k = (A * sz + dg) * st + low
  have hlo := Int.emod_nonneg k (show st μ p ≠ 0 by omega)
  have hlo2 := Int.emod_lt_of_pos k (show 0 < st μ p by omega)
  have e1 : st μ p * (k / st μ p) + k % st μ p = k := Int.mul_ediv_add_emod k (st μ p)
  have e2 : sz μ p * (k / st μ p / sz μ p) + dg μ k p = k / st μ p := Int.mul_ediv_add_emod (k / st μ p) (sz μ p)
  obtain ⟨s, hs0⟩ : ∃ s, s = st μ p := ⟨_, rfl⟩
  obtain ⟨z, hz0⟩ : ∃ z, z = sz μ p := ⟨_, rfl⟩
  obtain ⟨B, hB⟩ : ∃ B, B = k / st μ p := ⟨_, rfl⟩
  obtain ⟨a, ha⟩ : ∃ a, a = k / st μ p / sz μ p := ⟨_, rfl⟩
  obtain ⟨lo, hl0⟩ : ∃ lo, lo = k % st μ p := ⟨_, rfl⟩
  obtain ⟨d, hd0⟩ : ∃ d, d = dg μ k p := ⟨_, rfl⟩
  rw [← hB, ← hl0, ← hs0] at e1
  rw [← ha, ← hB, ← hz0, ← hd0] at e2
  rw [← hl0] at hlo hlo2
  rw [← hs0] at hs hlo2 ⊢
  rw [← hz0] at hz hd hw
  rw [← hd0] at hd ⊢
  have ek : k = s * (z * a + d) + lo := by rw [e2]; omega
  have ek' : k + (w - d) * s = s * (z * a + w) + lo := by
    rw [ek, Int.mul_add, Int.mul_add, Int.sub_mul, Int.mul_comm w s, Int.mul_comm d s]
    omega
  rw [ek']
  have q1 : ∀ x : Int, (s * x + lo) / s = x := fun x => by
    rw [Int.add_comm, Int.add_mul_ediv_left _ _ (by omega), Int.ediv_eq_zero_of_lt hlo hlo2]
    omega
  have q2 : ∀ x : Int, 0 ≤ x ∧ x < z → (z * a + x) / z = a ∧ (z * a + x) % z = x := fun x hx => by
    refine ⟨?_, ?_⟩
    · rw [Int.add_comm, Int.add_mul_ediv_left _ _ (by omega), Int.ediv_eq_zero_of_lt hx.1 hx.2]
      omega
    · rw [Int.add_comm, Int.add_mul_emod_self_left, Int.emod_eq_of_lt hx.1 hx.2]
  -- the higher part: s * z * a ≤ k
  have hsz : pdI μ (pcn μ - 1 - p + 1) = s * z := by
    rw [pdI_s, hs0, hz0]
    unfold st
    rw [show pcn μ - 1 - (pcn μ - 1 - p) = p by omega]
  obtain ⟨M, hM1, hM2⟩ := pdI_mul μ (pcn μ - 1 - p + 1) p
  rw [show pcn μ - 1 - p + 1 + p = pcn μ by omega, hsz] at hM2
  have ha0 : 0 ≤ a := by rw [ha]; exact Int.ediv_nonneg (Int.ediv_nonneg hk.1 (by omega)) (by omega)
  have hsz1 : 1 ≤ s * z := by
    have := Int.mul_le_mul hs hz.1 (by omega) (by omega)
    omega
  have haM : a < M := by
    have h1 : s * z * a ≤ k := by
      rw [ek, Int.mul_add, ← Int.mul_assoc]
      have := Int.mul_nonneg (show 0 ≤ s by omega) hd.1
      omega
    have h2 : s * z * a < s * z * M := by omega
    exact Int.lt_of_mul_lt_mul_left h2 (by omega)
  have hzw : s * w + lo < s * z := by
    have : s * (w + 1) ≤ s * z := Int.mul_le_mul_of_nonneg_left (by omega) (by omega)
    rw [Int.mul_add] at this
    omega
  refine ⟨⟨?_, ?_⟩, ?_, ?_⟩
  · have h1 := Int.mul_nonneg (show 0 ≤ s by omega) (show 0 ≤ z * a + w from by have := Int.mul_nonneg (show 0 ≤ z by omega) ha0; omega)
    omega
  · rw [hM2, Int.mul_add, ← Int.mul_assoc]
    have h1 : s * z * (a + 1) ≤ s * z * M := Int.mul_le_mul_of_nonneg_left (by omega) (by omega)
    rw [Int.mul_add] at h1
    omega
  · unfold dg
    rw [← hs0, ← hz0, q1, (q2 w hw).2]
  · intro q hq hqp
    unfold dg
    rcases (show q < p ∨ p < q by omega) with h | h
    · -- a higher digit: its stride is a multiple of s * z
      obtain ⟨m, hm1, hm2⟩ := pdI_mul μ (pcn μ - 1 - p + 1) (p - q - 1)
      rw [show pcn μ - 1 - p + 1 + (p - q - 1) = pcn μ - 1 - q by omega, hsz] at hm2
      have e : st μ q = s * z * m := hm2
      rw [e]
      congr 1
      have g : ∀ x : Int, 0 ≤ x ∧ x < z → (s * (z * a + x) + lo) / (s * z * m) = a / m := fun x hx => by
        rw [Int.mul_assoc, ← Int.ediv_ediv_of_nonneg (by omega), q1, ← Int.ediv_ediv_of_nonneg (by omega), (q2 x hx).1]
      rw [g w hw, ek, g d hd]
    · -- a lower digit: s is a multiple of its stride times its size
      obtain ⟨m, hm1, hm2⟩ := pdI_mul μ (pcn μ - 1 - q + 1) (q - p - 1)
      rw [show pcn μ - 1 - q + 1 + (q - p - 1) = pcn μ - 1 - p by omega, pdI_s, show pcn μ - 1 - (pcn μ - 1 - q) = q by omega] at hm2
      have e : s = st μ q * sz μ q * m := by rw [hs0]; exact hm2
      have hsq := st_pos μ q
      have g : k + (w - d) * s = k + st μ q * (sz μ q * m * (w - d)) := by
        rw [e, Int.mul_comm (w - d), Int.mul_assoc (st μ q * sz μ q), Int.mul_assoc (st μ q), Int.mul_assoc (sz μ q)]
      rw [← ek', g, Int.add_mul_ediv_left _ _ (by omega), Int.mul_assoc, Int.add_mul_emod_self_left]
/-! the potential: what a change to a cheaper way takes from it -/
def LD (μ : Mem) (π : Nat → Int) (r : Nat) : Int := sm (pcn μ) (fun p => tz (bits μ p (π p)) r)
def dsum (μ : Mem) (r L : Nat) : Int := sm L (fun x => dly μ r ((x : Int) + 1))
def phT (μ : Mem) (m : Int) (π : Nat → Int) (r : Nat) : Int := dsum μ r (LD μ π r).toNat + μ (21 + r) 5 * m * LD μ π r
def phi (μ : Mem) (m : Int) (π : Nat → Int) : Int := sm (rc μ) (phT μ m π)
def EV (μ : Mem) (m : Int) : Prop := ∀ p, p < pcn μ → μ (37 + p) 0 = 1 ∧ μ (37 + p) 1 = m
/-- the play shown is the k-th -/
def SHP (μ ξ : Mem) (k : Int) : Prop := AB μ ξ ∧ (∀ q, q < pcn μ → ξ (5 + 2 * 1) q = wyk μ k q) ∧ PL ξ 1
theorem LD_rng (μ : Mem) (π : Nat → Int) (r : Nat) : 0 ≤ LD μ π r ∧ LD μ π r ≤ (pcn μ : Int) := by
  have h := sm_rng (fun p => tz (bits μ p (π p)) r) 1 (pcn μ) (fun i _ => by have := tz_01 (bits μ i (π i)) r; omega)
  unfold LD
  omega
theorem LD_congr {μ : Mem} {π π' : Nat → Int} (h : ∀ q, q < pcn μ → π' q = π q) (r : Nat) : LD μ π' r = LD μ π r := sm_congr _ (fun i hi => by rw [h i hi])
theorem LD_set {μ : Mem} {π π' : Nat → Int} {p : Nat} {w : Int} (hp : p < pcn μ) (h1 : π' p = w) (h : ∀ q, q < pcn μ → q ≠ p → π' q = π q) (r : Nat) : LD μ π' r = LD μ π r + tz (bits μ p w) r - tz (bits μ p (π p)) r := by
  have e := LD_congr (μ := μ) (π := fun q => if q = p then w else π q) (π' := π') (fun q hq => by
    by_cases e : q = p
    · subst e; rw [if_pos rfl]; exact h1
    · rw [if_neg e]; exact h q hq e) r
  rw [e]
  have e2 := sm_upd (f := fun q => tz (bits μ q (π q)) r) (g := fun q => tz (bits μ q (if q = p then w else π q)) r) (p := p) (pcn μ) (fun i hi => by simp [hi])
  unfold LD
  rw [e2, if_pos hp]
  simp
  omega
theorem sm_diff {f f' g g' : Nat → Int} : ∀ n : Nat, (∀ i, i < n → f' i - f i = g' i - g i) → sm n f' - sm n f = sm n g' - sm n g
  | 0, _ => rfl
  | n + 1, h => by
    have h1 := sm_diff n (fun i hi => h i (by omega))
    have h2 := h n (by omega)
    rw [sm_s, sm_s, sm_s, sm_s]
    omega
theorem dsum_s (μ : Mem) (r L : Nat) : dsum μ r (L + 1) = dsum μ r L + dly μ r ((L : Int) + 1) := rfl
theorem SHP.ld9 {μ ξ : Mem} {k m : Int} (hW : WF μ) (hE : EV μ m) (h : SHP μ ξ k) {r : Nat} (hr : r < rc μ) : ξ (6 + 2 * 1) r = LD μ (wyk μ k) r := by
  obtain ⟨h1, h2, h3⟩ := h
  have h8 := hW.rc8
  have h6 := hW.pc6
  rw [h3.2.1 r (by omega), h1.rc9, if_pos hr, h1.pcn9]
  apply sm_congr
  intro i hi
  unfold tw
  rw [h1.bits9 (by omega), h2 i hi, h1 (37 + i) (by omega), (hE i hi).1]
  have := tz_01 (bits μ i (wyk μ k i)) r
  split <;> omega
theorem SHP.cstT9 {μ ξ : Mem} {k m : Int} (hW : WF μ) (hE : EV μ m) (h : SHP μ ξ k) {p r : Nat} (hp : p < pcn μ) (hr : r < rc μ) (w : Int) :
    cstT ξ 1 p w r = if tz (bits μ p w) r = 1 then dly μ r (LD μ (wyk μ k) r + (if tz (bits μ p (wyk μ k p)) r = 1 then 0 else 1)) + μ (21 + r) 5 * m else 0 := by
  have h8 := hW.rc8
  have h6 := hW.pc6
  have e := h.ld9 hW hE hr
  obtain ⟨h1, h2, h3⟩ := h
  unfold cstT
  rw [h1.bits9 (by omega), e, h2 p hp, h1.bits9 (by omega), h1.dly9 (by omega), h1 (37 + p) (by omega), h1 (21 + r) (by omega), (hE p hp).1, (hE p hp).2]
theorem ph_step {μ ξ : Mem} {k m : Int} (hW : WF μ) (hE : EV μ m) (h : SHP μ ξ k) {p : Nat} (hp : p < pcn μ) {w : Int} {π' : Nat → Int} (h1 : π' p = w) (h2 : ∀ q, q < pcn μ → q ≠ p → π' q = wyk μ k q) :
    phi μ m π' - phi μ m (wyk μ k) = cst ξ 1 p w - cst ξ 1 p (wyk μ k p) := by
  unfold phi cst
  rw [h.1.rc9]
  apply sm_diff
  intro r hr
  have g := LD_rng μ (wyk μ k) r
  rw [h.cstT9 hW hE hp hr, h.cstT9 hW hE hp hr]
  unfold phT
  rw [LD_set hp h1 h2 r]
  have ha := tz_01 (bits μ p (wyk μ k p)) r
  have hb := tz_01 (bits μ p w) r
  -- a way that is on the resource counts there
  have hge : tz (bits μ p (wyk μ k p)) r = 1 → 1 ≤ LD μ (wyk μ k) r := fun e => by
    have e2 := LD_set (μ := μ) (π := wyk μ k) (π' := fun q => if q = p then -1 else wyk μ k q) (p := p) (w := -1) hp (if_pos rfl) (fun q _ hq => if_neg hq) r
    have g2 := LD_rng μ (fun q => if q = p then -1 else wyk μ k q) r
    have e3 : tz (bits μ p (-1)) r = 0 := by unfold bits; rw [if_pos (by omega), tz_0]
    omega
  generalize LD μ (wyk μ k) r = L at g hge ⊢
  generalize tz (bits μ p (wyk μ k p)) r = a at ha hge ⊢
  generalize tz (bits μ p w) r = b at hb ⊢
  generalize μ (21 + r) 5 * m = t
  rcases ha with rfl | rfl <;> rcases hb with rfl | rfl
  · rw [if_neg (by omega), show L + 0 - 0 = L by omega]
    omega
  · rw [if_pos rfl, if_neg (by omega), if_neg (by omega), show (L + 1 - 0).toNat = L.toNat + 1 by omega, dsum_s, show ((L.toNat : Nat) : Int) = L by omega, show L + 1 - 0 = L + 1 by omega, Int.mul_add]
    omega
  · have := hge rfl
    rw [if_neg (by omega), if_pos rfl, if_pos rfl, show L.toNat = (L + 0 - 1).toNat + 1 by omega, dsum_s, show (((L + 0 - 1).toNat : Nat) : Int) = L - 1 by omega, show L - 1 + 1 = L by omega, show L + 0 - 1 = L - 1 by omega, show L + 0 = L by omega, Int.mul_sub]
    omega
  · rw [if_pos rfl, if_pos rfl, show L + 1 - 1 = L by omega]
    omega
theorem wyk_set {μ : Mem} {k w : Int} {p : Nat} (hp : p < pcn μ) (hk : 0 ≤ k ∧ k < pdI μ (pcn μ)) (ha : ask μ 0 p = 1) (hw : 0 ≤ w ∧ w < 3) :
    wyk μ (k + (w - dg μ k p) * st μ p) p = w ∧ ∀ q, q < pcn μ → q ≠ p → wyk μ (k + (w - dg μ k p) * st μ p) q = wyk μ k q := by
  have hz : sz μ p = 3 := by unfold sz; rw [if_pos ha]
  obtain ⟨-, h2, h3⟩ := dg_set hp hk (w := w) (by omega)
  refine ⟨by unfold wyk; rw [if_pos ha]; exact h2, fun q hq hqp => ?_⟩
  unfold wyk
  rw [h3 q hq hqp]
-- bits of the moves
theorem tz_lt {x : Int} {j : Nat} (hx : 0 ≤ x ∧ x < ((2 ^ j : Nat) : Int)) : tz x j = 0 := by
  unfold tz
  rw [Nat.div_eq_of_lt (by omega)]
  rfl
theorem tz_add {x : Int} {j n : Nat} (hx : 0 ≤ x) (h : j < n) : tz (x + ((2 ^ n : Nat) : Int)) j = tz x j := by
  unfold tz
  obtain ⟨a, rfl⟩ := nat_of hx
  rw [← Int.natCast_add, Int.toNat_natCast, Int.toNat_natCast, show n = j + (1 + (n - j - 1)) by omega, Nat.pow_add, Nat.pow_add, Nat.add_mul_div_left _ _ (Nat.two_pow_pos j)]
  have : (a / 2 ^ j + 2 ^ 1 * 2 ^ (n - j - 1)) % 2 = a / 2 ^ j % 2 := by
    rw [Nat.pow_one, Nat.add_mul_mod_self_left]
  rw [this]
theorem mv_bit0 {μ : Mem} {y j : Nat} (h : mvT μ y j = 0) : ∀ n : Nat, tz (sm n (mvT μ y)) j = 0
  | 0 => tz_0 j
  | n + 1 => by
    have h1 := mv_bit0 h n
    have h2 := mv_rng μ y n
    rw [sm_s]
    rcases mvT_b μ y n with e | e
    · rw [e, Int.add_zero]; exact h1
    · rw [e]
      rcases (show j < n ∨ j = n ∨ n < j by omega) with g | g | g
      · rw [tz_add h2.1 g]; exact h1
      · subst g
        have := p2_p j
        omega
      · apply tz_lt
        have h3 := p2_s n
        have h4 : 2 ^ (n + 1) ≤ 2 ^ j := Nat.pow_le_pow_right (by omega) g
        omega
theorem mv_some {μ : Mem} {y : Nat} : ∀ n : Nat, sm n (mvT μ y) ≠ 0 → ∃ j, j < n ∧ mvT μ y j ≠ 0
  | 0, h => absurd rfl h
  | n + 1, h => by
    by_cases e : mvT μ y n = 0
    · rw [sm_s, e, Int.add_zero] at h
      obtain ⟨j, h1, h2⟩ := mv_some n h
      exact ⟨j, by omega, h2⟩
    · exact ⟨n, by omega, e⟩
theorem mv_bitn {μ : Mem} {y j : Nat} : ∀ n : Nat, n ≤ j → tz (sm n (mvT μ y)) j = 0 := fun n h => by
  apply tz_lt
  have h1 := mv_rng μ y n
  have h4 : 2 ^ n ≤ 2 ^ j := Nat.pow_le_pow_right (by omega) h
  omega
theorem mvT_nz {μ : Mem} {y j : Nat} (h : mvT μ y j ≠ 0) : ask μ y (j / 5) = 1 ∧ ((j % 5 : Nat) : Int) < μ (37 + j / 5) 3 ∧ cst μ y (j / 5) ((j % 5 : Nat) : Int) < cst μ y (j / 5) (μ (5 + 2 * y) (j / 5)) := by
  by_cases g : ask μ y (j / 5) = 1 ∧ ((j % 5 : Nat) : Int) < μ (37 + j / 5) 3 ∧ cst μ y (j / 5) ((j % 5 : Nat) : Int) < cst μ y (j / 5) (μ (5 + 2 * y) (j / 5))
  · exact g
  · exact absurd (by unfold mvT; rw [dif_neg g]) h
/-- a move of the k-th play leads to a play of less potential -/
theorem mv_down {μ ξ : Mem} {k m : Int} (hW : WF μ) (hL : LW μ) (hE : EV μ m) (h : SHP μ ξ k) (hk : 0 ≤ k ∧ k < pdI μ (pcn μ)) {j : Nat} (hj : j < 5 * pcn μ) (hm : mvT ξ 1 j ≠ 0) :
    j / 5 < pcn μ ∧ ask μ 0 (j / 5) = 1 ∧ j % 5 < 3 ∧ (0 ≤ k + (((j % 5 : Nat) : Int) - dg μ k (j / 5)) * st μ (j / 5) ∧ k + (((j % 5 : Nat) : Int) - dg μ k (j / 5)) * st μ (j / 5) < pdI μ (pcn μ)) ∧
    phi μ m (wyk μ (k + (((j % 5 : Nat) : Int) - dg μ k (j / 5)) * st μ (j / 5))) < phi μ m (wyk μ k) := by
  obtain ⟨g1, g2, g3⟩ := mvT_nz hm
  have hp : j / 5 < pcn μ := by omega
  have h6 := hW.pc6
  have hl := hL (j / 5) hp
  obtain ⟨f1, f2, f3⟩ := h
  have ha : ask μ 0 (j / 5) = 1 := by
    unfold ask at g1 ⊢
    rw [f1 (37 + j / 5) (by omega)] at g1
    split at g1
    · rw [if_pos ⟨by omega, hl.2.1⟩]
    · omega
  rw [f1 (37 + j / 5) (by omega), hl.1] at g2
  have hz : sz μ (j / 5) = 3 := by unfold sz; rw [if_pos ha]
  obtain ⟨s1, s2⟩ := wyk_set hp hk ha (w := ((j % 5 : Nat) : Int)) (by omega)
  have hd := dg_set hp hk (w := ((j % 5 : Nat) : Int)) (by omega)
  refine ⟨hp, ha, by omega, hd.1, ?_⟩
  have e := ph_step hW hE ⟨f1, f2, f3⟩ hp s1 s2
  rw [f2 (j / 5) hp] at g3
  omega
/-- there is a play of least potential -/
theorem least_ex (f : Nat → Int) : ∀ n : Nat, 0 < n → ∃ k, k < n ∧ ∀ i, i < n → f k ≤ f i
  | 0, h => by omega
  | n + 1, _ => by
    by_cases h : 0 < n
    · obtain ⟨k, h1, h2⟩ := least_ex f n h
      by_cases e : f k ≤ f n
      · exact ⟨k, by omega, fun i hi => by rcases (show i < n ∨ i = n by omega) with q | q; exact h2 i q; rw [q]; exact e⟩
      · exact ⟨n, by omega, fun i hi => by rcases (show i < n ∨ i = n by omega) with q | q; have := h2 i q; omega; rw [q]; exact Int.le_refl _⟩
    · exact ⟨0, by omega, fun i hi => by rw [show i = 0 by omega]; exact Int.le_refl _⟩
