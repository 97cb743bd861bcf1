/-! making: resources, players, ways -/
theorem ceil_eq {y x : Int} (hy : 0 ≤ y) (hx : 1 ≤ x) : (y + x - 1) / x = y / x + (if y % x = 0 then 0 else 1) := by
  have h1 := Int.emod_nonneg y (show x ≠ 0 by omega)
  have h2 := Int.emod_lt_of_pos y (show 0 < x by omega)
  have h3 := Int.mul_ediv_add_emod y x
  obtain ⟨q, hq⟩ : ∃ q, q = y / x := ⟨_, rfl⟩
  obtain ⟨m, hm⟩ : ∃ m, m = y % x := ⟨_, rfl⟩
  rw [← hq, ← hm] at h3
  rw [← hm] at h1 h2 ⊢
  rw [← hq]
  by_cases e : m = 0
  · rw [if_pos e, show y + x - 1 = (x - 1) + x * q by omega, Int.add_mul_ediv_left _ _ (by omega), Int.ediv_eq_zero_of_lt (by omega) (by omega)]
    omega
  · rw [if_neg e, show y + x - 1 = (m - 1) + x * (q + 1) by rw [Int.mul_add]; omega, Int.add_mul_ediv_left _ _ (by omega), Int.ediv_eq_zero_of_lt (by omega) (by omega)]
    omega
theorem grw_ldq {k a b x : Int} (hk : 0 ≤ k ∧ k < 4) (ha : 0 ≤ a) (hx : 1 ≤ x) : b + grw (kdc k) a x = ldq k a b x := by
  unfold ldq grw
  rw [if_neg (show ¬ x = 0 by omega)]
  rcases (show k = 0 ∨ k = 1 ∨ k = 2 ∨ k = 3 by omega) with rfl | rfl | rfl | rfl
  · rfl
  · rfl
  · rfl
  · show b + (100 * a + x - 1) / x = b + (100 * a / x + (if 100 * a % x = 0 then 0 else 1))
    rw [ceil_eq (by omega) hx]
theorem ldq_rng {k a b x : Int} (hk : 0 ≤ k ∧ k < 4) (ha : 0 ≤ a ∧ a ≤ 20) (hb : 0 ≤ b ∧ b ≤ 100) (hx : 0 ≤ x ∧ x ≤ 18) : 0 ≤ ldq k a b x ∧ ldq k a b x ≤ 10000 := by
  unfold ldq
  have h1 := mul_rng (a := a) (b := x) (A := 20) (B := 18) ha hx
  have h2 := mul_rng (a := a * x) (b := x) (A := 360) (B := 18) ⟨h1.1, by omega⟩ hx
  split
  · omega
  · split
    · omega
    · split
      · omega
      · split
        · omega
        · have h3 : 0 ≤ 100 * a / x := Int.ediv_nonneg (by omega) (by omega)
          have h4 : 100 * a / x ≤ 100 * a := Int.ediv_le_self _ (by omega)
          split <;> omega
/-- a play that nobody has touched -/
def PF (μ : Mem) (y : Nat) : Prop := (∀ p, p < 6 → μ (5 + 2 * y) p = -1) ∧ (∀ r, r < 8 → μ (6 + 2 * y) r = 0) ∧ μ (2 + y) 2 = 0
theorem bits_no {μ : Mem} {p : Nat} : bits μ p (-1) = 0 := if_pos (Or.inl (by omega))
theorem PF_PL {μ : Mem} {y : Nat} (hW : WF μ) (h : PF μ y) : PL μ y := by
  have h6 := hW.pc6
  refine ⟨fun p hp => by rw [h.1 p hp]; omega, fun r hr => ?_, h.2.2⟩
  rw [h.2.1 r hr]
  have e : sm (pcn μ) (tw μ y r) = 0 := by
    have := sm_congr (f := tw μ y r) (g := fun _ => 0) (pcn μ) (fun i hi => by
      unfold tw
      rw [h.1 i (by omega), bits_no, if_neg (by rw [tz_0]; omega)])
    rw [this]
    have g : ∀ m, sm m (fun _ => (0 : Int)) = 0 := fun m => by
      induction m with
      | zero => rfl
      | succ m ih => rw [sm_s, ih]; rfl
    exact g _
  rw [e]
  split <;> rfl
theorem PF_same {μ ν : Mem} {y : Nat} (e5 : ν (5 + 2 * y) = μ (5 + 2 * y)) (e6 : ν (6 + 2 * y) = μ (6 + 2 * y)) (e2 : ν (2 + y) = μ (2 + y)) (h : PF μ y) : PF ν y := by
  unfold PF
  rw [e5, e6, e2]
  exact h
/-- behind r resources -/
def F1 (ν : Mem) (r : Nat) : Prop := WF ν ∧ ν 1 2 = (r : Int) ∧ ν 1 3 = 0 ∧ PF ν 0 ∧ PF ν 1 ∧ (∀ p, p < 6 → ν (37 + p) 2 = 0 ∧ ν (37 + p) 3 = 0) ∧ (∀ q, q < 8 → ν (21 + q) 5 = 0 ∧ ν (29 + q) 0 = 0) ∧ ν 0 6 = 1 ∧ ∀ q, q < r → RL1 ν q
theorem WF49 {μ ν : Mem} (h : E49 μ ν) (hW : WF μ) : WF ν := h.WF9 hW
theorem F1_s {ν ν1 ν2 ν3 ν4 ν5 : Mem} {r : Nat} {k a b : Int} (h : F1 ν r) (hr : r < 5) (hk : 0 ≤ k ∧ k < 4) (ha : 0 ≤ a ∧ a ≤ 20) (hb : 0 ≤ b ∧ b ≤ 100) (e1 : ν1 = upM ν 49 (4 * r) k) (e2 : ν2 = upM ν1 49 (4 * r + 1) a) (e3 : ν3 = upM ν2 49 (4 * r + 2) b) (e4 : ν4 = upM ν3 49 (4 * r + 3) 0) (hp : RPut ν4 ν5 r (kdc k) a b) : F1 ν5 (r + 1) := by
  obtain ⟨hW, h12, h13, hf0, hf1, hpl, hrs, hz, hrl⟩ := h
  obtain ⟨p1, p2, p3, p4, p5, p6, p7, p8, p9⟩ := hp
  have o4 : ∀ c, c ≠ 49 → ν4 c = ν c := fun c hc => by rw [e4, upM_off hc, e3, upM_off hc, e2, upM_off hc, e1, upM_off hc]
  have k0 : ν4 49 (4 * r) = k := by rw [e4, upM_ne (by omega), e3, upM_ne (by omega), e2, upM_ne (by omega), e1, upM_self]
  have k1 : ν4 49 (4 * r + 1) = a := by rw [e4, upM_ne (by omega), e3, upM_ne (by omega), e2, upM_self]
  have k2 : ν4 49 (4 * r + 2) = b := by rw [e4, upM_ne (by omega), e3, upM_self]
  have k3 : ν4 49 (4 * r + 3) = 0 := by rw [e4, upM_self]
  have k49 : ∀ j, j < 4 * r → ν4 49 j = ν 49 j := fun j hj => by rw [e4, upM_ne (by omega), e3, upM_ne (by omega), e2, upM_ne (by omega), e1, upM_ne (by omega)]
  have o : ∀ c, c ≠ 49 → c ≠ 1 → c ≠ 21 + r → c ≠ 29 + r → ν5 c = ν c := fun c h0 h1 h2 h3 => by rw [p1 c h1 h2 h3, o4 c h0]
  have o49 : ν5 49 = ν4 49 := p1 49 (by omega) (by omega) (by omega)
  have hd : ∀ x : Nat, x ≤ 18 → ν5 (29 + r) x = ldq k a b (x : Int) := fun x hx => by
    rcases (show x = 0 ∨ 1 ≤ x by omega) with e | e
    · subst e
      rw [p9 0 (Or.inl rfl), o4 (29 + r) (by omega), (hrs r (by omega)).2]
      rfl
    · rw [p8 x e hx]
      exact grw_ldq hk ha.1 (by omega)
  have e215 : ν5 (21 + r) 5 = 0 := by rw [p7 5 (by omega), o4 (21 + r) (by omega), (hrs r (by omega)).1]
  have hWn : WF ν5 := by
    obtain ⟨w1, w2, w3, w4, w5, w6⟩ := hW
    refine ⟨by rw [p3, o4 1 (by omega), h12]; omega, by rw [p2 3 (by omega), o4 1 (by omega), h13]; omega, fun q hq => by rw [o (37 + q) (by omega) (by omega) (by omega) (by omega)]; exact w3 q hq, fun q hq j hj => by rw [o (43 + q) (by omega) (by omega) (by omega) (by omega)]; exact w4 q hq j hj, fun q hq => ?_, fun q hq x hx => ?_⟩
    · by_cases e : q = r
      · subst e; rw [e215]; omega
      · rw [o (21 + q) (by omega) (by omega) (by omega) (by omega)]; exact w5 q hq
    · by_cases e : q = r
      · subst e
        rw [hd x (by omega)]
        exact ldq_rng hk ha hb (by omega)
      · rw [o (29 + q) (by omega) (by omega) (by omega) (by omega)]; exact w6 q hq x hx
  refine ⟨hWn, by rw [p3, o4 1 (by omega), h12]; omega, by rw [p2 3 (by omega), o4 1 (by omega)]; exact h13, PF_same (o _ (by omega) (by omega) (by omega) (by omega)) (o _ (by omega) (by omega) (by omega) (by omega)) (o _ (by omega) (by omega) (by omega) (by omega)) hf0, PF_same (o _ (by omega) (by omega) (by omega) (by omega)) (o _ (by omega) (by omega) (by omega) (by omega)) (o _ (by omega) (by omega) (by omega) (by omega)) hf1, fun p hp => by rw [o (37 + p) (by omega) (by omega) (by omega) (by omega)]; exact hpl p hp, fun q hq => ?_, by rw [o 0 (by omega) (by omega) (by omega) (by omega)]; exact hz, fun q hq => ?_⟩
  · by_cases e : q = r
    · subst e
      exact ⟨e215, by rw [hd 0 (by omega)]; rfl⟩
    · rw [o (21 + q) (by omega) (by omega) (by omega) (by omega), o (29 + q) (by omega) (by omega) (by omega) (by omega)]
      exact hrs q hq
  · by_cases e : q = r
    · subst e
      unfold RL1
      rw [o49, k0, k1, k2, k3, e215]
      exact ⟨⟨hk.1, by omega⟩, ha, hb, rfl, hd⟩
    · exact RL1_same (hrl q (by omega)) (fun j hj => by rw [o49, k49 _ (by omega)]) (by rw [o (21 + q) (by omega) (by omega) (by omega) (by omega)]) (o _ (by omega) (by omega) (by omega) (by omega))
/-- behind p players, all of them with their ways -/
def F2 (ν : Mem) (s p : Nat) : Prop := WF ν ∧ rc ν = s ∧ ν 1 3 = (p : Int) ∧ PL ν 0 ∧ PF ν 1 ∧ (∀ q, p ≤ q → q < 6 → ν (5 + 2 * 0) q = -1 ∧ ν (37 + q) 2 = 0 ∧ ν (37 + q) 3 = 0) ∧ (∀ q, q < s → RL1 ν q) ∧ (∀ q, q < p → PL1 ν q) ∧ ν 0 6 = 1
theorem F2_0 {ν : Mem} {s : Nat} (h : F1 ν s) : F2 ν s 0 := by
  obtain ⟨hW, h12, h13, hf0, hf1, hpl, hrs, hz, hrl⟩ := h
  exact ⟨hW, by unfold rc; rw [h12]; omega, h13, PF_PL hW hf0, hf1, fun q _ hq => ⟨hf0.1 q hq, hpl q hq⟩, hrl, fun q hq => by omega, hz⟩
/-- player p at work: w ways -/
def F3 (ν : Mem) (s p w : Nat) (f st : Int) : Prop := WF ν ∧ rc ν = s ∧ ν 1 3 = (p : Int) + 1 ∧ PL ν 0 ∧ PF ν 1 ∧ (∀ q, p + 1 ≤ q → q < 6 → ν (5 + 2 * 0) q = -1 ∧ ν (37 + q) 2 = 0 ∧ ν (37 + q) 3 = 0) ∧ (∀ q, q < s → RL1 ν q) ∧ (∀ q, q < p → PL1 ν q) ∧ ν 0 6 = 1 ∧
  (ν 50 (4 * p) = ν (37 + p) 0 ∧ ν 50 (4 * p + 1) = ν (37 + p) 1 ∧ ν (37 + p) 2 = 0 ∧ ν (37 + p) 3 = (w : Int) ∧ ν (5 + 2 * 0) p = (if w = 0 then -1 else 0) ∧ ∀ j : Nat, j < w → ν 51 (3 * p + j) = f + (j : Int) * st % 1 ∧ ν (43 + p) j = ν 51 (3 * p + j))
