/-! making: resources, players, ways -/
theorem ceil_eq {y x : Int} (hy : 0 ≤ y) (hx : 1 ≤ x) : (y + x - 1) / x = y / x + (if y % x = 0 then 0 else 1) := by
  have h1 := Int.emod_nonneg y (show x ≠ 0 by omega)
  have h2 := Int.emod_lt_of_pos y (show 0 < x by omega)
  have h3 := Int.mul_ediv_add_emod y x
  obtain ⟨q, hq⟩ : ∃ q, q = y / x := ⟨_, rfl⟩
  obtain ⟨m, hm⟩ : ∃ m, m = y % x := ⟨_, rfl⟩
  rw [← hq, ← hm] at h3
  rw [← hm] at h1 h2 ⊢
  rw [← hq]
  by_cases e : m = 0
  · rw [if_pos e, show y + x - 1 = (x - 1) + x * q by omega, Int.add_mul_ediv_left _ _ (by omega), Int.ediv_eq_zero_of_lt (by omega) (by omega)]
    omega
  · rw [if_neg e, show y + x - 1 = (m - 1) + x * (q + 1) by rw [Int.mul_add]; omega, Int.add_mul_ediv_left _ _ (by omega), Int.ediv_eq_zero_of_lt (by omega) (by omega)]
    omega
theorem grw_ldq {k a b x : Int} (hk : 0 ≤ k ∧ k < 4) (ha : 0 ≤ a) (hx : 1 ≤ x) : b + grw (kdc k) a x = ldq k a b x := by
  unfold ldq grw
  rw [if_neg (show ¬ x = 0 by omega)]
  rcases (show k = 0 ∨ k = 1 ∨ k = 2 ∨ k = 3 by omega) with rfl | rfl | rfl | rfl
  · rfl
  · rfl
  · rfl
  · show b + (100 * a + x - 1) / x = b + (100 * a / x + (if 100 * a % x = 0 then 0 else 1))
    rw [ceil_eq (by omega) hx]
theorem ldq_rng {k a b x : Int} (hk : 0 ≤ k ∧ k < 4) (ha : 0 ≤ a ∧ a ≤ 20) (hb : 0 ≤ b ∧ b ≤ 100) (hx : 0 ≤ x ∧ x ≤ 18) : 0 ≤ ldq k a b x ∧ ldq k a b x ≤ 10000 := by
  unfold ldq
  have h1 := mul_rng (a := a) (b := x) (A := 20) (B := 18) ha hx
  have h2 := mul_rng (a := a * x) (b := x) (A := 360) (B := 18) ⟨h1.1, by omega⟩ hx
  split
  · omega
  · split
    · omega
    · split
      · omega
      · split
        · omega
        · have h3 : 0 ≤ 100 * a / x := Int.ediv_nonneg (by omega) (by omega)
          have h4 : 100 * a / x ≤ 100 * a := Int.ediv_le_self _ (by omega)
          split <;> omega
/-- a play that nobody has touched -/
def PF (μ : Mem) (y : Nat) : Prop := (∀ p, p < 6 → μ (5 + 2 * y) p = -1) ∧ (∀ r, r < 8 → μ (6 + 2 * y) r = 0) ∧ μ (2 + y) 2 = 0
theorem bits_no {μ : Mem} {p : Nat} : bits μ p (-1) = 0 := if_pos (Or.inl (by omega))
theorem PF_PL {μ : Mem} {y : Nat} (hW : WF μ) (h : PF μ y) : PL μ y := by
  have h6 := hW.pc6
  refine ⟨fun p hp => by rw [h.1 p hp]; omega, fun r hr => ?_, h.2.2⟩
  rw [h.2.1 r hr]
  have e : sm (pcn μ) (tw μ y r) = 0 := by
    have := sm_congr (f := tw μ y r) (g := fun _ => 0) (pcn μ) (fun i hi => by
      unfold tw
      rw [h.1 i (by omega), bits_no, if_neg (by rw [tz_0]; omega)])
    rw [this]
    have g : ∀ m, sm m (fun _ => (0 : Int)) = 0 := fun m => by
      induction m with
      | zero => rfl
      | succ m ih => rw [sm_s, ih]; rfl
    exact g _
  rw [e]
  split <;> rfl
theorem PF_same {μ ν : Mem} {y : Nat} (e5 : ν (5 + 2 * y) = μ (5 + 2 * y)) (e6 : ν (6 + 2 * y) = μ (6 + 2 * y)) (e2 : ν (2 + y) = μ (2 + y)) (h : PF μ y) : PF ν y := by
  unfold PF
  rw [e5, e6, e2]
  exact h
/-- behind r resources -/
def F1 (ν : Mem) (r : Nat) : Prop := WF ν ∧ ν 1 2 = (r : Int) ∧ ν 1 3 = 0 ∧ PF ν 0 ∧ PF ν 1 ∧ (∀ p, p < 6 → ν (37 + p) 2 = 0 ∧ ν (37 + p) 3 = 0) ∧ (∀ q, q < 8 → ν (21 + q) 5 = 0 ∧ ν (29 + q) 0 = 0) ∧ ν 0 6 = 1 ∧ ∀ q, q < r → RL1 ν q
theorem WF49 {μ ν : Mem} (h : E49 μ ν) (hW : WF μ) : WF ν := h.WF9 hW
theorem F1_s {ν ν1 ν2 ν3 ν4 ν5 : Mem} {r : Nat} {k a b : Int} (h : F1 ν r) (hr : r < 5) (hk : 0 ≤ k ∧ k < 4) (ha : 0 ≤ a ∧ a ≤ 20) (hb : 0 ≤ b ∧ b ≤ 100) (e1 : ν1 = upM ν 49 (4 * r) k) (e2 : ν2 = upM ν1 49 (4 * r + 1) a) (e3 : ν3 = upM ν2 49 (4 * r + 2) b) (e4 : ν4 = upM ν3 49 (4 * r + 3) 0) (hp : RPut ν4 ν5 r (kdc k) a b) : F1 ν5 (r + 1) := by
  obtain ⟨hW, h12, h13, hf0, hf1, hpl, hrs, hz, hrl⟩ := h
  obtain ⟨p1, p2, p3, p4, p5, p6, p7, p8, p9⟩ := hp
  have o4 : ∀ c, c ≠ 49 → ν4 c = ν c := fun c hc => by rw [e4, upM_off hc, e3, upM_off hc, e2, upM_off hc, e1, upM_off hc]
  have k0 : ν4 49 (4 * r) = k := by rw [e4, upM_ne (by omega), e3, upM_ne (by omega), e2, upM_ne (by omega), e1, upM_self]
  have k1 : ν4 49 (4 * r + 1) = a := by rw [e4, upM_ne (by omega), e3, upM_ne (by omega), e2, upM_self]
  have k2 : ν4 49 (4 * r + 2) = b := by rw [e4, upM_ne (by omega), e3, upM_self]
  have k3 : ν4 49 (4 * r + 3) = 0 := by rw [e4, upM_self]
  have k49 : ∀ j, j < 4 * r → ν4 49 j = ν 49 j := fun j hj => by rw [e4, upM_ne (by omega), e3, upM_ne (by omega), e2, upM_ne (by omega), e1, upM_ne (by omega)]
  have o : ∀ c, c ≠ 49 → c ≠ 1 → c ≠ 21 + r → c ≠ 29 + r → ν5 c = ν c := fun c h0 h1 h2 h3 => by rw [p1 c h1 h2 h3, o4 c h0]
  have o49 : ν5 49 = ν4 49 := p1 49 (by omega) (by omega) (by omega)
  have hd : ∀ x : Nat, x ≤ 18 → ν5 (29 + r) x = ldq k a b (x : Int) := fun x hx => by
    rcases (show x = 0 ∨ 1 ≤ x by omega) with e | e
    · subst e
      rw [p9 0 (Or.inl rfl), o4 (29 + r) (by omega), (hrs r (by omega)).2]
      rfl
    · rw [p8 x e hx]
      exact grw_ldq hk ha.1 (by omega)
  have e215 : ν5 (21 + r) 5 = 0 := by rw [p7 5 (by omega), o4 (21 + r) (by omega), (hrs r (by omega)).1]
  have hWn : WF ν5 := by
    obtain ⟨w1, w2, w3, w4, w5, w6⟩ := hW
    refine ⟨by rw [p3, o4 1 (by omega), h12]; omega, by rw [p2 3 (by omega), o4 1 (by omega), h13]; omega, fun q hq => by rw [o (37 + q) (by omega) (by omega) (by omega) (by omega)]; exact w3 q hq, fun q hq j hj => by rw [o (43 + q) (by omega) (by omega) (by omega) (by omega)]; exact w4 q hq j hj, fun q hq => ?_, fun q hq x hx => ?_⟩
    · by_cases e : q = r
      · subst e; rw [e215]; omega
      · rw [o (21 + q) (by omega) (by omega) (by omega) (by omega)]; exact w5 q hq
    · by_cases e : q = r
      · subst e
        rw [hd x (by omega)]
        exact ldq_rng hk ha hb (by omega)
      · rw [o (29 + q) (by omega) (by omega) (by omega) (by omega)]; exact w6 q hq x hx
  refine ⟨hWn, by rw [p3, o4 1 (by omega), h12]; omega, by rw [p2 3 (by omega), o4 1 (by omega)]; exact h13, PF_same (o _ (by omega) (by omega) (by omega) (by omega)) (o _ (by omega) (by omega) (by omega) (by omega)) (o _ (by omega) (by omega) (by omega) (by omega)) hf0, PF_same (o _ (by omega) (by omega) (by omega) (by omega)) (o _ (by omega) (by omega) (by omega) (by omega)) (o _ (by omega) (by omega) (by omega) (by omega)) hf1, fun p hp => by rw [o (37 + p) (by omega) (by omega) (by omega) (by omega)]; exact hpl p hp, fun q hq => ?_, by rw [o 0 (by omega) (by omega) (by omega) (by omega)]; exact hz, fun q hq => ?_⟩
  · by_cases e : q = r
    · subst e
      exact ⟨e215, by rw [hd 0 (by omega)]; rfl⟩
    · rw [o (21 + q) (by omega) (by omega) (by omega) (by omega), o (29 + q) (by omega) (by omega) (by omega) (by omega)]
      exact hrs q hq
  · by_cases e : q = r
    · subst e
      unfold RL1
      rw [o49, k0, k1, k2, k3, e215]
      exact ⟨⟨hk.1, by omega⟩, ha, hb, rfl, hd⟩
    · exact RL1_same (hrl q (by omega)) (fun j hj => by rw [o49, k49 _ (by omega)]) (by rw [o (21 + q) (by omega) (by omega) (by omega) (by omega)]) (o _ (by omega) (by omega) (by omega) (by omega))
/-- behind p players, all of them with their ways -/
def F2 (ν : Mem) (s p : Nat) : Prop := WF ν ∧ rc ν = s ∧ ν 1 3 = (p : Int) ∧ PL ν 0 ∧ PF ν 1 ∧ (∀ q, p ≤ q → q < 6 → ν (5 + 2 * 0) q = -1 ∧ ν (37 + q) 2 = 0 ∧ ν (37 + q) 3 = 0) ∧ (∀ q, q < s → RL1 ν q) ∧ (∀ q, q < p → PL1 ν q) ∧ ν 0 6 = 1
theorem F2_0 {ν : Mem} {s : Nat} (h : F1 ν s) : F2 ν s 0 := by
  obtain ⟨hW, h12, h13, hf0, hf1, hpl, hrs, hz, hrl⟩ := h
  exact ⟨hW, by unfold rc; rw [h12]; omega, h13, PF_PL hW hf0, hf1, fun q _ hq => ⟨hf0.1 q hq, hpl q hq⟩, hrl, fun q hq => by omega, hz⟩
theorem tw_same {μ ν : Mem} {y r i : Nat} (e5 : ν (5 + 2 * y) i = μ (5 + 2 * y) i) (e37 : ν (37 + i) = μ (37 + i)) (e43 : ν (43 + i) = μ (43 + i)) : tw ν y r i = tw μ y r i := by
  unfold tw bits
  rw [e5, e37, e43]
theorem tw_no {μ : Mem} {y r i : Nat} (h : μ (5 + 2 * y) i = -1) : tw μ y r i = 0 := by
  unfold tw
  rw [h, bits_no, if_neg (by rw [tz_0]; omega)]
theorem PL_sum {μ ν : Mem} {y : Nat} (e5 : ν (5 + 2 * y) = μ (5 + 2 * y)) (e6 : ν (6 + 2 * y) = μ (6 + 2 * y)) (e2 : ν (2 + y) = μ (2 + y)) (er : rc ν = rc μ) (es : ∀ r, sm (pcn ν) (tw ν y r) = sm (pcn μ) (tw μ y r)) (h : PL μ y) : PL ν y := by
  refine ⟨fun p hp => by rw [e5]; exact h.1 p hp, fun r hr => ?_, by rw [e2]; exact h.2.2⟩
  rw [e6, er, es]
  exact h.2.1 r hr
theorem PL1_s2 {μ ν : Mem} {p : Nat} (h : PL1 μ p) (e50 : ∀ j, j < 4 → ν 50 (4 * p + j) = μ 50 (4 * p + j)) (e5 : ν (5 + 2 * 0) p = μ (5 + 2 * 0) p) (e37 : ν (37 + p) = μ (37 + p)) (e43 : ν (43 + p) = μ (43 + p)) (e51 : ∀ w, w < 3 → ν 51 (3 * p + w) = μ 51 (3 * p + w)) (er : rc ν = rc μ) : PL1 ν p := by
  obtain ⟨h1, h2, h3, h4, h5, h6, h7⟩ := h
  have a0 := e50 0 (by omega)
  have a1 := e50 1 (by omega)
  have a2 := e50 2 (by omega)
  have a3 := e50 3 (by omega)
  rw [Nat.add_zero] at a0
  refine ⟨by rw [a0, e37]; exact h1, by rw [a1, e37]; exact h2, ?_, by rw [a3, e37]; exact h4, by rw [e5]; exact h5, by rw [e37]; exact h6, fun w hw => by rw [e51 w hw, e43, er]; exact h7 w hw⟩
  have eb : bits ν p (ν (5 + 2 * 0) p) = bits μ p (μ (5 + 2 * 0) p) := by unfold bits; rw [e5, e37, e43]
  rw [a2, eb]
  exact h3
/-- player p at work: w ways, g says which -/
def F3 (ν : Mem) (s p w : Nat) (c : Int) (g : Nat → Int) : Prop := WF ν ∧ rc ν = s ∧ ν 1 3 = (p : Int) + 1 ∧ PL ν 0 ∧ PF ν 1 ∧ (∀ q, p + 1 ≤ q → q < 6 → ν (5 + 2 * 0) q = -1 ∧ ν (37 + q) 2 = 0 ∧ ν (37 + q) 3 = 0) ∧ (∀ q, q < s → RL1 ν q) ∧ (∀ q, q < p → PL1 ν q) ∧ ν 0 6 = 1 ∧
  (ν 50 (4 * p) = ν (37 + p) 0 ∧ ν 50 (4 * p + 1) = ν (37 + p) 1) ∧ ν (37 + p) 2 = 0 ∧ ν (37 + p) 3 = (w : Int) ∧ ν (5 + 2 * 0) p = c ∧ ∀ j : Nat, j < w → ν 51 (3 * p + j) = g j ∧ ν (43 + p) j = g j
theorem F3_0 {ν ν1 ν2 ν3 : Mem} {s p : Nat} {w m : Int} (h : F2 ν s p) (hp : p < 5) (hw : 1 ≤ w ∧ w ≤ 3) (hm : 0 ≤ m ∧ m ≤ 9) (e1 : ν1 = upM ν 50 (4 * p) w) (e2 : ν2 = upM ν1 50 (4 * p + 1) m) (hP : PPut ν2 ν3 p w m) (g : Nat → Int) : F3 ν3 s p 0 (-1) g := by
  obtain ⟨hW, hrc, h13, hL, hf1, hno, hrl, hpl, hz⟩ := h
  obtain ⟨p1, p2, p3, p4, p5, p6⟩ := hP
  have o2 : ∀ c, c ≠ 50 → ν2 c = ν c := fun c hc => by rw [e2, upM_off hc, e1, upM_off hc]
  have o : ∀ c, c ≠ 50 → c ≠ 1 → c ≠ 37 + p → ν3 c = ν c := fun c h0 h1 h2 => by rw [p1 c h1 h2, o2 c h0]
  have o50 : ν3 50 = ν2 50 := p1 50 (by omega) (by omega)
  have k0 : ν2 50 (4 * p) = w := by rw [e2, upM_ne (by omega), e1, upM_self]
  have k1 : ν2 50 (4 * p + 1) = m := by rw [e2, upM_self]
  have kk : ∀ j, j < 4 * p → ν2 50 j = ν 50 j := fun j hj => by rw [e2, upM_ne (by omega), e1, upM_ne (by omega)]
  have hn := hno p (by omega) (by omega)
  have q2 : ∀ j, 1 < j → ν3 (37 + p) j = ν (37 + p) j := fun j hj => by rw [p6 j hj, o2 (37 + p) (by omega)]
  have e12 : ν3 1 2 = ν 1 2 := by rw [p2 2 (by omega), o2 1 (by omega)]
  have e13 : ν3 1 3 = (p : Int) + 1 := by rw [p3, o2 1 (by omega), h13]
  have er : rc ν3 = rc ν := by unfold rc; rw [e12]
  have epc : pcn ν3 = p + 1 := by unfold pcn; rw [e13]; omega
  have epc0 : pcn ν = p := by unfold pcn; rw [h13]; omega
  have hWn : WF ν3 := by
    obtain ⟨w1, w2, w3, w4, w5, w6⟩ := hW
    refine ⟨by rw [e12]; exact w1, by rw [e13]; omega, fun q hq => ?_, fun q hq j hj => by rw [o (43 + q) (by omega) (by omega) (by omega)]; exact w4 q hq j hj, fun q hq => by rw [o (21 + q) (by omega) (by omega) (by omega)]; exact w5 q hq, fun q hq x hx => by rw [o (29 + q) (by omega) (by omega) (by omega)]; exact w6 q hq x hx⟩
    by_cases e : q = p
    · rw [e, p4, p5, q2 2 (by omega), q2 3 (by omega), hn.2.1, hn.2.2]
      omega
    · rw [o (37 + q) (by omega) (by omega) (by omega)]; exact w3 q hq
  have e5 : ν3 (5 + 2 * 0) = ν (5 + 2 * 0) := o _ (by omega) (by omega) (by omega)
  have hLn : PL ν3 0 := PL_sum e5 (o _ (by omega) (by omega) (by omega)) (o _ (by omega) (by omega) (by omega)) er (fun r => by
    rw [epc, epc0, sm_s, tw_no (by rw [e5]; exact hn.1), Int.add_zero]
    exact sm_congr p (fun i hi => tw_same (by rw [e5]) (o _ (by omega) (by omega) (by omega)) (o _ (by omega) (by omega) (by omega)))) hL
  refine ⟨hWn, by rw [er]; exact hrc, e13, hLn, PF_same (o _ (by omega) (by omega) (by omega)) (o _ (by omega) (by omega) (by omega)) (o _ (by omega) (by omega) (by omega)) hf1, fun q h1 h2 => ?_, fun q hq => ?_, fun q hq => ?_, by rw [o 0 (by omega) (by omega) (by omega)]; exact hz, ⟨by rw [o50, k0, p4], by rw [o50, k1, p5]⟩, by rw [q2 2 (by omega)]; exact hn.2.1, by rw [q2 3 (by omega)]; exact hn.2.2, by rw [e5]; exact hn.1, fun j hj => absurd hj (by omega)⟩
  · rw [e5, o (37 + q) (by omega) (by omega) (by omega)]
    exact hno q (by omega) h2
  · have h8 := hW.rc8
    exact RL1_same (hrl q hq) (fun j hj => by rw [o 49 (by omega) (by omega) (by omega)]) (by rw [o (21 + q) (by omega) (by omega) (by omega)]) (o _ (by omega) (by omega) (by omega))
  · exact PL1_s2 (hpl q hq) (fun j hj => by rw [o50, kk _ (by omega)]) (by rw [e5]) (o _ (by omega) (by omega) (by omega)) (o _ (by omega) (by omega) (by omega)) (fun w hw => by rw [o 51 (by omega) (by omega) (by omega)]) er
def chW (w : Nat) : Int := if w = 0 then -1 else 0
theorem F3_w {ν ν1 ν2 : Mem} {s p w : Nat} {b : Int} {g : Nat → Int} (h : F3 ν s p w (chW w) g) (hs : s ≤ 5) (hp : p < 5) (hw : w < 3) (hb : b = g w) (hb2 : 0 ≤ b ∧ b ≤ 255) (e1 : ν1 = upM ν 51 (3 * p + w) b) (hP : WPut ν1 ν2 p w b) : F3 ν2 s p (w + 1) (chW w) g := by
  obtain ⟨hW, hrc, h13, hL, hf1, hno, hrl, hpl, hz, ⟨a1, a2⟩, a3, a4, a5, a6⟩ := h
  obtain ⟨ν4, e4, e2⟩ := hP
  have o : ∀ c, c ≠ 51 → c ≠ 43 + p → c ≠ 37 + p → ν2 c = ν c := fun c h0 h1 h2 => by rw [e2, upM_off h2, e4, upM_off h1, e1, upM_off h0]
  have k37 : ∀ j, j ≠ 3 → ν2 (37 + p) j = ν (37 + p) j := fun j hj => by rw [e2, upM_ne (by omega), e4, upM_off (by omega), e1, upM_off (by omega)]
  have k373 : ν2 (37 + p) 3 = (w : Int) + 1 := by rw [e2, upM_self]
  have k43 : ∀ j, j ≠ w → ν2 (43 + p) j = ν (43 + p) j := fun j hj => by rw [e2, upM_off (by omega), e4, upM_ne (by omega), e1, upM_off (by omega)]
  have k43w : ν2 (43 + p) w = b := by rw [e2, upM_off (by omega), e4, upM_self]
  have k51 : ∀ j, j ≠ 3 * p + w → ν2 51 j = ν 51 j := fun j hj => by rw [e2, upM_off (by omega), e4, upM_off (by omega), e1, upM_ne (by omega)]
  have k51w : ν2 51 (3 * p + w) = b := by rw [e2, upM_off (by omega), e4, upM_off (by omega), e1, upM_self]
  have e11 : ν2 1 = ν 1 := o 1 (by omega) (by omega) (by omega)
  have er : rc ν2 = rc ν := by unfold rc; rw [e11]
  have epc : pcn ν2 = pcn ν := by unfold pcn; rw [e11]
  have e5 : ν2 (5 + 2 * 0) = ν (5 + 2 * 0) := o _ (by omega) (by omega) (by omega)
  have hWn : WF ν2 := by
    obtain ⟨w1, w2, w3, w4, w5, w6⟩ := hW
    refine ⟨by rw [e11]; exact w1, by rw [e11]; exact w2, fun q hq => ?_, fun q hq j hj => ?_, fun q hq => by rw [o (21 + q) (by omega) (by omega) (by omega)]; exact w5 q hq, fun q hq x hx => by rw [o (29 + q) (by omega) (by omega) (by omega)]; exact w6 q hq x hx⟩
    · by_cases e : q = p
      · have := w3 p (by omega)
        rw [e, k37 0 (by omega), k37 1 (by omega), k37 2 (by omega), k373]
        omega
      · rw [o (37 + q) (by omega) (by omega) (by omega)]; exact w3 q hq
    · by_cases e : q = p
      · rw [e]
        by_cases e9 : j = w
        · rw [e9, k43w]; exact hb2
        · rw [k43 j e9]; exact w4 p (by omega) j hj
      · rw [o (43 + q) (by omega) (by omega) (by omega)]; exact w4 q hq j hj
  have h6 := hW.pc6.1
  have etw : ∀ r i, i < 6 → tw ν2 0 r i = tw ν 0 r i := fun r i hi => by
    by_cases e : i = p
    · rw [e]
      unfold chW at a5
      by_cases e9 : w = 0
      · rw [if_pos e9] at a5
        rw [tw_no a5, tw_no (by rw [e5]; exact a5)]
      · rw [if_neg e9] at a5
        have eb : bits ν2 p 0 = bits ν p 0 := by
          unfold bits
          rw [k373, a4, if_neg (by omega), if_neg (by omega)]
          exact k43 _ (by omega)
        unfold tw
        rw [e5, a5, eb, k37 0 (by omega)]
    · exact tw_same (by rw [e5]) (o _ (by omega) (by omega) (by omega)) (o _ (by omega) (by omega) (by omega))
  have hLn : PL ν2 0 := PL_sum e5 (o _ (by omega) (by omega) (by omega)) (o _ (by omega) (by omega) (by omega)) er (fun r => by
    rw [epc]
    exact sm_congr _ (fun i hi => etw r i (by omega))) hL
  refine ⟨hWn, by rw [er]; exact hrc, by rw [e11]; exact h13, hLn, PF_same (o _ (by omega) (by omega) (by omega)) (o _ (by omega) (by omega) (by omega)) (o _ (by omega) (by omega) (by omega)) hf1, fun q h1 h2 => ?_, fun q hq => ?_, fun q hq => ?_, by rw [o 0 (by omega) (by omega) (by omega)]; exact hz, ⟨by rw [o 50 (by omega) (by omega) (by omega), k37 0 (by omega)]; exact a1, by rw [o 50 (by omega) (by omega) (by omega), k37 1 (by omega)]; exact a2⟩, by rw [k37 2 (by omega)]; exact a3, by rw [k373]; omega, by rw [e5]; exact a5, fun j hj => ?_⟩
  · rw [e5, o (37 + q) (by omega) (by omega) (by omega)]
    exact hno q h1 h2
  · exact RL1_same (hrl q hq) (fun j hj => by rw [o 49 (by omega) (by omega) (by omega)]) (by rw [o (21 + q) (by omega) (by omega) (by omega)]) (o _ (by omega) (by omega) (by omega))
  · exact PL1_s2 (hpl q hq) (fun j hj => by rw [o 50 (by omega) (by omega) (by omega)]) (by rw [e5]) (o _ (by omega) (by omega) (by omega)) (o _ (by omega) (by omega) (by omega)) (fun w hw => by rw [k51 _ (by omega)]) er
  · by_cases e : j = w
    · rw [e, k51w, k43w]
      exact ⟨hb, hb⟩
    · rw [k51 _ (by omega), k43 _ e]
      exact a6 j (by omega)
theorem F3_t {ν ν1 : Mem} {s p w : Nat} {c : Int} {g : Nat → Int} (h : F3 ν s p w c g) (hp : p < 5) (hT : TK ν ν1 0 p 0) : F3 ν1 s p w 0 g := by
  obtain ⟨hW, hrc, h13, hL, hf1, hno, hrl, hpl, hz, ⟨a1, a2⟩, a3, a4, a5, a6⟩ := h
  have h8 := hW.rc8
  have o : ∀ c, c ≠ 5 → c ≠ 6 → ν1 c = ν c := fun c h1 h2 => hT.1 c (by omega) (by omega)
  refine ⟨hT.WF9 (by omega) hW, by rw [hT.rc9]; exact hrc, by rw [o 1 (by omega) (by omega)]; exact h13, hT.PL9 (by omega) hW (by unfold pcn; rw [h13]; omega) (by omega) hL, PF_same (o _ (by omega) (by omega)) (o _ (by omega) (by omega)) (o _ (by omega) (by omega)) hf1, fun q h1 h2 => ?_, fun q hq => ?_, fun q hq => ?_, by rw [o 0 (by omega) (by omega)]; exact hz, ⟨by rw [o 50 (by omega) (by omega), o (37 + p) (by omega) (by omega)]; exact a1, by rw [o 50 (by omega) (by omega), o (37 + p) (by omega) (by omega)]; exact a2⟩, by rw [o (37 + p) (by omega) (by omega)]; exact a3, by rw [o (37 + p) (by omega) (by omega)]; exact a4, hT.2.2.1, fun j hj => by rw [o 51 (by omega) (by omega), o (43 + p) (by omega) (by omega)]; exact a6 j hj⟩
  · rw [hT.2.1 q (by omega), o (37 + q) (by omega) (by omega)]
    exact hno q h1 h2
  · exact RL1_same (hrl q hq) (fun j hj => by rw [o 49 (by omega) (by omega)]) (by rw [o (21 + q) (by omega) (by omega)]) (o _ (by omega) (by omega))
  · exact PL1_s2 (hpl q hq) (fun j hj => by rw [o 50 (by omega) (by omega)]) (hT.2.1 q (by omega)) (o _ (by omega) (by omega)) (o _ (by omega) (by omega)) (fun w hw => by rw [o 51 (by omega) (by omega)]) hT.rc9
theorem F3_s {ν ν1 ν3 : Mem} {s p w : Nat} {b : Int} {g : Nat → Int} (h : F3 ν s p w (chW w) g) (hs : s ≤ 5) (hp : p < 5) (hw : w < 3) (hb : b = g w) (hb2 : 0 ≤ b ∧ b ≤ 255) (e1 : ν1 = upM ν 51 (3 * p + w) b) (hq : ∃ ν2, WPut ν1 ν2 p (ν1 (37 + p) 3).toNat b ∧ ((ν1 (37 + p) 3 = 0 ∧ TK ν2 ν3 0 p 0) ∨ (ν1 (37 + p) 3 ≠ 0 ∧ ν3 = ν2))) : F3 ν3 s p (w + 1) (chW (w + 1)) g := by
  obtain ⟨ν2, hP, hT⟩ := hq
  have e3 : ν1 (37 + p) 3 = (w : Int) := by rw [e1, upM_off (by omega)]; exact h.2.2.2.2.2.2.2.2.2.2.2.1
  rw [e3] at hP hT
  rw [Int.toNat_natCast] at hP
  have h2 := F3_w h hs hp hw hb hb2 e1 hP
  have ec : chW (w + 1) = 0 := if_neg (by omega)
  rw [ec]
  rcases hT with ⟨e, hT⟩ | ⟨e, hT⟩
  · exact F3_t h2 hp hT
  · rw [hT]
    have e0 : chW w = 0 := if_neg (by omega)
    rw [e0] at h2
    exact h2
theorem F2_s {ν ν1 ν2 : Mem} {s p : Nat} {b : Int} {g : Nat → Int} (h : F3 ν s p 3 0 g) (hp : p < 5) (hg : ∀ j, j < 3 → 1 ≤ g j ∧ g j < ((2 ^ s : Nat) : Int)) (hb : b = ν 51 (3 * p)) (e1 : ν1 = upM ν 50 (4 * p + 2) b) (e2 : ν2 = upM ν1 50 (4 * p + 3) 0) : F2 ν2 s (p + 1) := by
  obtain ⟨hW, hrc, h13, hL, hf1, hno, hrl, hpl, hz, ⟨a1, a2⟩, a3, a4, a5, a6⟩ := h
  have hE : E49 ν ν2 := fun c hc => by rw [e2, upM_off (by omega), e1, upM_off (by omega)]
  have o : ∀ c, c ≠ 50 → ν2 c = ν c := fun c h0 => by rw [e2, upM_off h0, e1, upM_off h0]
  have kk : ∀ j, j < 4 * p + 2 → ν2 50 j = ν 50 j := fun j hj => by rw [e2, upM_ne (by omega), e1, upM_ne (by omega)]
  have k2 : ν2 50 (4 * p + 2) = b := by rw [e2, upM_ne (by omega), e1, upM_self]
  have k3 : ν2 50 (4 * p + 3) = 0 := by rw [e2, upM_self]
  have h8 := hW.rc8
  have er : rc ν2 = rc ν := by unfold rc; rw [o 1 (by omega)]
  refine ⟨hE.WF9 hW, by rw [er]; exact hrc, by rw [o 1 (by omega), h13]; omega, hE.PL9 (by omega) hW hL, PF_same (o _ (by omega)) (o _ (by omega)) (o _ (by omega)) hf1, fun q h1 h2 => ?_, fun q hq => ?_, fun q hq => ?_, by rw [o 0 (by omega)]; exact hz⟩
  · rw [o (5 + 2 * 0) (by omega), o (37 + q) (by omega)]
    exact hno q h1 h2
  · exact RL1_same (hrl q hq) (fun j hj => by rw [o 49 (by omega)]) (by rw [o (21 + q) (by omega)]) (o _ (by omega))
  · by_cases e : q = p
    · rw [e]
      have hbt : bits ν2 p (ν2 (5 + 2 * 0) p) = ν (43 + p) 0 := by
        unfold bits
        rw [o (5 + 2 * 0) (by omega), o (37 + p) (by omega), o (43 + p) (by omega), a5, a4, if_neg (by omega)]
        rfl
      have a60 := a6 0 (by omega)
      rw [Nat.add_zero] at a60
      refine ⟨by rw [kk _ (by omega), o (37 + p) (by omega)]; exact a1, by rw [kk _ (by omega), o (37 + p) (by omega)]; exact a2, by rw [k2, hbt, hb, a60.1, a60.2], by rw [k3, o (37 + p) (by omega)]; exact a3.symm, by rw [o (5 + 2 * 0) (by omega), a5]; omega, by rw [o (37 + p) (by omega)]; exact a4, fun w hw => ?_⟩
      rw [o 51 (by omega), o (43 + p) (by omega), (a6 w hw).1, (a6 w hw).2, er, hrc]
      exact ⟨rfl, hg w hw⟩
    · exact PL1_s2 (hpl q (by omega)) (fun j hj => by rw [kk _ (by omega)]) (by rw [o (5 + 2 * 0) (by omega)]) (o _ (by omega)) (o _ (by omega)) (fun w hw => by rw [o 51 (by omega)]) er
theorem F2_LST {ν : Mem} {s n : Nat} (h : F2 ν s n) (hs : 2 ≤ s ∧ s ≤ 5) (hn : 1 ≤ n ∧ n ≤ 5) : LST ν s n 1 := by
  obtain ⟨hW, hrc, h13, hL, hf1, hno, hrl, hpl, hz⟩ := h
  exact ⟨hW, hL, PF_PL hW hf1, ⟨hrc, by unfold pcn; rw [h13]; omega, hs, hn, hrl, hpl⟩, hz, by omega, by omega⟩
def wyF (f st al : Int) (j : Nat) : Int := 1 + (f - 1 + (j : Int) * st) % al
theorem wyF_rng {f st al : Int} (h : 0 < al) (j : Nat) : 1 ≤ wyF f st al j ∧ wyF f st al j ≤ al := by
  unfold wyF
  have h1 := Int.emod_nonneg (f - 1 + (j : Int) * st) (show al ≠ 0 by omega)
  have h2 := Int.emod_lt_of_pos (f - 1 + (j : Int) * st) h
  omega
theorem all_of {s : Nat} (hs : 2 ≤ s ∧ s ≤ 5) : ((2 ^ s : Nat) : Int) - 1 = 3 ∨ ((2 ^ s : Nat) : Int) - 1 = 7 ∨ ((2 ^ s : Nat) : Int) - 1 = 15 ∨ ((2 ^ s : Nat) : Int) - 1 = 31 := by
  rcases (show s = 2 ∨ s = 3 ∨ s = 4 ∨ s = 5 by omega) with rfl | rfl | rfl | rfl <;> decide
/-- cases that a search by cases shall not see -/
def or4 (x : Int) : Prop := x = 3 ∨ x = 7 ∨ x = 15 ∨ x = 31
def or2 (x : Int) : Prop := x = 1 ∨ x = 2
theorem or4_of {s : Nat} (hs : 2 ≤ s ∧ s ≤ 5) : or4 (((2 ^ s : Nat) : Int) - 1) := all_of hs
theorem or4.rng9 {x : Int} (h : or4 x) : 3 ≤ x ∧ x ≤ 31 := by
  rcases h with rfl | rfl | rfl | rfl <;> omega
theorem or2_of {x : Int} (h : 1 ≤ x ∧ x ≤ 2) : or2 x := by
  unfold or2
  omega
theorem wyF_ne {f st al : Int} (hal : or4 al) (hst : or2 st) {i j : Nat} (hi : i < j) (hj : j < 3) : wyF f st al i ≠ wyF f st al j := by
  unfold wyF
  rcases (show (i = 0 ∧ j = 1) ∨ (i = 0 ∧ j = 2) ∨ (i = 1 ∧ j = 2) by omega) with ⟨rfl, rfl⟩ | ⟨rfl, rfl⟩ | ⟨rfl, rfl⟩ <;> rcases hal with rfl | rfl | rfl | rfl <;> rcases hst with rfl | rfl <;> omega
theorem kdc_is {k : Int} (hk : 0 ≤ k ∧ k < 4) : kdc k = 99 ∨ kdc k = 108 ∨ kdc k = 113 ∨ kdc k = 115 := by
  rcases (show k = 0 ∨ k = 1 ∨ k = 2 ∨ k = 3 by omega) with rfl | rfl | rfl | rfl <;> decide
theorem cst_no {μ : Mem} {y p : Nat} (h : μ (5 + 2 * y) p = -1) : cst μ y p (μ (5 + 2 * y) p) = 0 := by
  unfold cst
  have e : ∀ n, sm n (cstT μ y p (μ (5 + 2 * y) p)) = 0 := fun n => by
    induction n with
    | zero => rfl
    | succ n ih => rw [sm_s, ih, cstT_n (by rw [h, bits_no, tz_0]; omega)]; rfl
  exact e _
