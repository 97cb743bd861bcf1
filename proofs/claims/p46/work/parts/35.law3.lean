/-! what an act leaves -/
def E49 (μ ν : Mem) : Prop := ∀ c, c < 49 → ν c = μ c
theorem E49.AG9 {μ ν : Mem} (h : E49 μ ν) {y : Nat} (hy : y < 2) : AG μ ν y := ⟨fun c hc => h c (by omega), h _ (by omega), h _ (by omega), by rw [h (2 + y) (by omega)]⟩
theorem E49.AB9 {μ ν : Mem} (h : E49 μ ν) : AB μ ν := fun c hc => h c (by omega)
theorem E49_arr {μ : Mem} {c j : Nat} {x : Int} (hc : 49 ≤ c) : E49 μ (upM μ c j x) := fun c' h => upM_off (by omega)
theorem AG.cst9 {μ ν : Mem} {y : Nat} (h : AG μ ν y) (hW : WF μ) {p : Nat} (hp : p < 6) (w : Int) : cst ν y p w = cst μ y p w := by
  have hab : AB μ ν := h.1
  have h8 := hW.rc8
  unfold cst
  rw [hab.rc9]
  refine sm_congr _ (fun r hr => ?_)
  unfold cstT
  rw [hab.bits9 hp, hab.bits9 hp, hab.dly9 (by omega), h.2.1, h.2.2.1, h.1 (37 + p) (by omega), h.1 (21 + r) (by omega)]
theorem AG.bsF9 {μ ν : Mem} {y : Nat} (h : AG μ ν y) (hW : WF μ) {p : Nat} (hp : p < 6) : ∀ n, bsF ν y p n = bsF μ y p n
  | 0 => by show ν (5 + 2 * y) p = μ (5 + 2 * y) p; rw [h.2.1]
  | n + 1 => by
    show (if _ then _ else _) = (if _ then _ else _)
    rw [AG.bsF9 h hW hp n, h.cst9 hW hp, h.cst9 hW hp]
theorem AG.bst9 {μ ν : Mem} {y : Nat} (h : AG μ ν y) (hW : WF μ) {p : Nat} (hp : p < 6) : bst ν y p = bst μ y p := by
  unfold bst
  rw [h.bsF9 hW hp, h.1 (37 + p) (by omega)]
theorem AG.gn9 {μ ν : Mem} {y : Nat} (h : AG μ ν y) (hW : WF μ) {p : Nat} (hp : p < 6) : gn ν y p = gn μ y p := by
  unfold gn
  rw [h.ask9 hp, h.cst9 hW hp, h.cst9 hW hp, h.bst9 hW hp, h.2.1]
theorem AG.mgF9 {μ ν : Mem} {y : Nat} (h : AG μ ν y) (hW : WF μ) : ∀ n, n ≤ 6 → mgF ν y n = mgF μ y n
  | 0, _ => rfl
  | n + 1, hn => by
    show (if _ then _ else _) = (if _ then _ else _)
    rw [AG.mgF9 h hW n (by omega), h.gn9 hW (by omega)]
theorem AG.cgF9 {μ ν : Mem} {y : Nat} (h : AG μ ν y) (hW : WF μ) : ∀ n, n ≤ 6 → cgF ν y n = cgF μ y n
  | 0, _ => rfl
  | n + 1, hn => by
    show _ + (if _ then _ else _) = _ + (if _ then _ else _)
    rw [AG.cgF9 h hW n (by omega), h.gn9 hW (by omega)]
theorem E49.WF9 {μ ν : Mem} (h : E49 μ ν) (hW : WF μ) : WF ν := h.AB9.WF9 hW
theorem E49.PL9 {μ ν : Mem} (h : E49 μ ν) {y : Nat} (hy : y < 2) (hW : WF μ) (hL : PL μ y) : PL ν y := (h.AG9 hy).PL9 hW hL
theorem WF_toll {μ : Mem} {r : Nat} {x : Int} (h : WF μ) (hr : r < 8) (hx : 0 ≤ x ∧ x ≤ 9999) : WF (upM μ (21 + r) 5 x) := by
  obtain ⟨h1, h2, h3, h4, h5, h6⟩ := h
  refine ⟨by rw [upM_off (by omega)]; exact h1, by rw [upM_off (by omega)]; exact h2, fun q hq => by rw [upM_off (by omega)]; exact h3 q hq, fun q hq k hk => by rw [upM_off (by omega)]; exact h4 q hq k hk, fun q hq => ?_, fun q hq k hk => by rw [upM_off (by omega)]; exact h6 q hq k hk⟩
  by_cases e : q = r
  · subst e; rw [upM_self]; exact hx
  · rw [upM_off (by omega)]; exact h5 q hq
theorem WF_mind {μ : Mem} {p : Nat} {x : Int} (h : WF μ) (hp : p < 6) (hx : 0 ≤ x ∧ x ≤ 9) : WF (upM μ (37 + p) 1 x) := by
  obtain ⟨h1, h2, h3, h4, h5, h6⟩ := h
  refine ⟨by rw [upM_off (by omega)]; exact h1, by rw [upM_off (by omega)]; exact h2, fun q hq => ?_, fun q hq k hk => by rw [upM_off (by omega)]; exact h4 q hq k hk, fun q hq => by rw [upM_off (by omega)]; exact h5 q hq, fun q hq k hk => by rw [upM_off (by omega)]; exact h6 q hq k hk⟩
  have g := h3 q hq
  by_cases e : q = p
  · subst e; rw [upM_self, upM_ne (by omega), upM_ne (by omega), upM_ne (by omega)]; omega
  · rw [upM_off (by omega)]; exact g
theorem WF_led {μ : Mem} {p : Nat} {x : Int} (h : WF μ) (hp : p < 6) (hx : 0 ≤ x ∧ x ≤ 1) : WF (upM μ (37 + p) 2 x) := by
  obtain ⟨h1, h2, h3, h4, h5, h6⟩ := h
  refine ⟨by rw [upM_off (by omega)]; exact h1, by rw [upM_off (by omega)]; exact h2, fun q hq => ?_, fun q hq k hk => by rw [upM_off (by omega)]; exact h4 q hq k hk, fun q hq => by rw [upM_off (by omega)]; exact h5 q hq, fun q hq k hk => by rw [upM_off (by omega)]; exact h6 q hq k hk⟩
  have g := h3 q hq
  by_cases e : q = p
  · subst e; rw [upM_self, upM_ne (by omega), upM_ne (by omega), upM_ne (by omega)]; omega
  · rw [upM_off (by omega)]; exact g
theorem PL_same {μ ν : Mem} {y : Nat} (hW : WF μ) (e1 : ν 1 = μ 1) (e5 : ν (5 + 2 * y) = μ (5 + 2 * y)) (e6 : ν (6 + 2 * y) = μ (6 + 2 * y)) (e2 : ν (2 + y) 2 = μ (2 + y) 2) (e37 : ∀ p, p < 6 → ν (37 + p) 0 = μ (37 + p) 0 ∧ ν (37 + p) 3 = μ (37 + p) 3) (e43 : ∀ p, p < 6 → ν (43 + p) = μ (43 + p)) (h : PL μ y) : PL ν y := by
  have h6 := hW.pc6
  have er : rc ν = rc μ := by unfold rc; rw [e1]
  have ep : pcn ν = pcn μ := by unfold pcn; rw [e1]
  refine ⟨fun p hp => by rw [e5]; exact h.1 p hp, fun r hr => ?_, by rw [e2]; exact h.2.2⟩
  rw [e6, h.2.1 r hr, er, ep]
  have e : sm (pcn μ) (tw μ y r) = sm (pcn μ) (tw ν y r) := sm_congr _ (fun i hi => by
    unfold tw bits
    rw [(e37 i (by omega)).1, (e37 i (by omega)).2, e5, e43 i (by omega)])
  rw [e]
theorem RL1_same {μ ν : Mem} {r : Nat} (h : RL1 μ r) (e49 : ∀ j, j < 4 → ν 49 (4 * r + j) = μ 49 (4 * r + j)) (e21 : ν (21 + r) 5 = μ (21 + r) 5) (e29 : ν (29 + r) = μ (29 + r)) : RL1 ν r := by
  have k0 : ν 49 (4 * r) = μ 49 (4 * r) := e49 0 (by omega)
  unfold RL1
  rw [k0, e49 1 (by omega), e49 2 (by omega), e49 3 (by omega), e21, e29]
  exact h
theorem PL1_same {μ ν : Mem} {p : Nat} (h : PL1 μ p) (e50 : ∀ j, j < 4 → ν 50 (4 * p + j) = μ 50 (4 * p + j)) (e5 : ν (5 + 2 * 0) p = μ (5 + 2 * 0) p) (e37 : ν (37 + p) = μ (37 + p)) (e43 : ν (43 + p) = μ (43 + p)) (e51 : ν 51 = μ 51) (er : rc ν = rc μ) : PL1 ν p := by
  have k0 : ν 50 (4 * p) = μ 50 (4 * p) := e50 0 (by omega)
  have kb : ∀ w, bits ν p w = bits μ p w := fun w => by unfold bits; rw [e37, e43]
  unfold PL1 PW1
  rw [k0, e50 1 (by omega), e50 2 (by omega), e50 3 (by omega), kb, e5, e37, e43, e51, er]
  exact h
theorem PL1_led {μ : Mem} {s n p : Nat} (h : REL μ s n) (hp : p < n) (hW : WF μ) : 0 ≤ μ 50 (4 * p + 3) ∧ μ 50 (4 * p + 3) ≤ 1 := by
  have h1 := h.2.2.2.2.2 p hp
  have h2 := hW.pl (p := p) (by have := h.2.2.2.1; omega)
  rw [h1.2.2.2.1]
  omega
theorem LST_take {μ ν : Mem} {s n p : Nat} {z w b : Int} (h : LST μ s n z) (hp : p < n) (hw : 0 ≤ w ∧ w ≤ 2) (hT : TK μ ν 0 p w) (hb : b = bits μ p w) : LST (upM ν 50 (4 * p + 2) b) s n z := by
  obtain ⟨hW, hL, hL1, hR, hz, hz1, hz2⟩ := h
  have h5 := hR.2.2.2.1
  have h4 := hR.2.2.1
  have hWν : WF ν := hT.WF9 (by omega) hW
  have hLν : PL ν 0 := hT.PL9 (by omega) hW (by rw [hR.2.1]; exact hp) (by omega) hL
  have e49 : E49 ν (upM ν 50 (4 * p + 2) b) := E49_arr (by omega)
  have o : ∀ c, c ≠ 50 → c ≠ 5 → c ≠ 6 → upM ν 50 (4 * p + 2) b c = μ c := fun c h1 h2 h3 => by rw [upM_off h1, hT.1 c h2 h3]
  have hL1ν : PL ν 1 := PL_same hW (hT.1 1 (by omega) (by omega)) (hT.1 _ (by omega) (by omega)) (hT.1 _ (by omega) (by omega)) (by rw [hT.1 (2 + 1) (by omega) (by omega)]) (fun q hq => by rw [hT.1 (37 + q) (by omega) (by omega)]; exact ⟨rfl, rfl⟩) (fun q hq => hT.1 _ (by omega) (by omega)) hL1
  have er : rc (upM ν 50 (4 * p + 2) b) = rc μ := by unfold rc; rw [o 1 (by omega) (by omega) (by omega)]
  refine ⟨e49.WF9 hWν, e49.PL9 (by omega) hWν hLν, e49.PL9 (by omega) hWν hL1ν, ⟨by rw [er]; exact hR.1, by unfold pcn; rw [o 1 (by omega) (by omega) (by omega)]; exact hR.2.1, h4, h5, fun r hr => ?_, fun q hq => ?_⟩, by rw [o 0 (by omega) (by omega) (by omega)]; exact hz, hz1, hz2⟩
  · exact RL1_same (hR.2.2.2.2.1 r hr) (fun j hj => by rw [o 49 (by omega) (by omega) (by omega)]) (by rw [o (21 + r) (by omega) (by omega) (by omega)]) (o _ (by omega) (by omega) (by omega))
  · have g := hR.2.2.2.2.2 q hq
    by_cases e : q = p
    · subst e
      obtain ⟨g1, g2, g3, g4, g5, g6⟩ := g
      have k5 : upM ν 50 (4 * q + 2) b (5 + 2 * 0) q = w := by rw [upM_off (by omega), hT.2.2.1]
      have k37 : upM ν 50 (4 * q + 2) b (37 + q) = μ (37 + q) := o _ (by omega) (by omega) (by omega)
      have k43 : upM ν 50 (4 * q + 2) b (43 + q) = μ (43 + q) := o _ (by omega) (by omega) (by omega)
      have k51 : upM ν 50 (4 * q + 2) b 51 = μ 51 := o _ (by omega) (by omega) (by omega)
      have k50 : ∀ j, j ≠ 4 * q + 2 → upM ν 50 (4 * q + 2) b 50 j = μ 50 j := fun j hj => by rw [upM_ne (Or.inr hj), hT.1 50 (by omega) (by omega)]
      refine ⟨by rw [k50 _ (by omega), k37]; exact g1, by rw [k50 _ (by omega), k37]; exact g2, ?_, by rw [k50 _ (by omega), k37]; exact g4, by rw [k5]; exact hw, ?_⟩
      · have kb : bits (upM ν 50 (4 * q + 2) b) q w = bits μ q w := by unfold bits; rw [k37, k43]
        rw [upM_self, k5, kb]
        exact hb
      · unfold PW1
        rw [k37, k43, k51, er]
        exact g6
    · refine PL1_same g (fun j hj => by rw [upM_ne (by omega), hT.1 50 (by omega) (by omega)]) (by rw [upM_off (by omega), hT.2.1 q e]) (o _ (by omega) (by omega) (by omega)) (o _ (by omega) (by omega) (by omega)) (o _ (by omega) (by omega) (by omega)) er
theorem LST_toll {μ : Mem} {s n r : Nat} {z x : Int} (h : LST μ s n z) (hr : r < s) (hx : 0 ≤ x ∧ x ≤ 9999) : LST (upM (upM μ (21 + r) 5 x) 49 (4 * r + 3) x) s n z := by
  obtain ⟨hW, hL, hL1, hR, hz, hz1, hz2⟩ := h
  have h5 := hR.2.2.2.1
  have h4 := hR.2.2.1
  have hWν : WF (upM μ (21 + r) 5 x) := WF_toll hW (by omega) hx
  have e49 : E49 (upM μ (21 + r) 5 x) (upM (upM μ (21 + r) 5 x) 49 (4 * r + 3) x) := E49_arr (by omega)
  have o : ∀ c, c ≠ 49 → c ≠ 21 + r → upM (upM μ (21 + r) 5 x) 49 (4 * r + 3) x c = μ c := fun c h1 h2 => by rw [upM_off h1, upM_off h2]
  have er : rc (upM (upM μ (21 + r) 5 x) 49 (4 * r + 3) x) = rc μ := by unfold rc; rw [o 1 (by omega) (by omega)]
  have pl : ∀ y, y < 2 → PL μ y → PL (upM (upM μ (21 + r) 5 x) 49 (4 * r + 3) x) y := fun y hy hl => PL_same hW (o 1 (by omega) (by omega)) (o _ (by omega) (by omega)) (o _ (by omega) (by omega)) (by rw [o (2 + y) (by omega) (by omega)]) (fun q hq => by rw [o (37 + q) (by omega) (by omega)]; exact ⟨rfl, rfl⟩) (fun q hq => o _ (by omega) (by omega)) hl
  refine ⟨e49.WF9 hWν, pl 0 (by omega) hL, pl 1 (by omega) hL1, ⟨by rw [er]; exact hR.1, by unfold pcn; rw [o 1 (by omega) (by omega)]; exact hR.2.1, h4, h5, fun q hq => ?_, fun q hq => ?_⟩, by rw [o 0 (by omega) (by omega)]; exact hz, hz1, hz2⟩
  · have g := hR.2.2.2.2.1 q hq
    by_cases e : q = r
    · subst e
      obtain ⟨g1, g2, g3, g4, g5⟩ := g
      have k49 : ∀ j, j ≠ 4 * q + 3 → upM (upM μ (21 + q) 5 x) 49 (4 * q + 3) x 49 j = μ 49 j := fun j hj => by rw [upM_ne (Or.inr hj), upM_off (by omega)]
      unfold RL1
      rw [k49 (4 * q) (by omega), k49 (4 * q + 1) (by omega), k49 (4 * q + 2) (by omega), o (29 + q) (by omega) (by omega)]
      refine ⟨g1, g2, g3, ?_, g5⟩
      rw [upM_self, upM_off (by omega), upM_self]
    · exact RL1_same g (fun j hj => by rw [upM_ne (by omega), upM_off (by omega)]) (by rw [o (21 + q) (by omega) (by omega)]) (o _ (by omega) (by omega))
  · exact PL1_same (hR.2.2.2.2.2 q hq) (fun j hj => by rw [o 50 (by omega) (by omega)]) (by rw [o (5 + 2 * 0) (by omega) (by omega)]) (o _ (by omega) (by omega)) (o _ (by omega) (by omega)) (o _ (by omega) (by omega)) er
theorem LST_pl {μ : Mem} {s n p k : Nat} {z x : Int} (h : LST μ s n z) (hp : p < n) (hk : (k = 1 ∧ 0 ≤ x ∧ x ≤ 9) ∨ (k = 2 ∧ 0 ≤ x ∧ x ≤ 1)) {j : Nat} (hj : (k = 1 ∧ j = 4 * p + 1) ∨ (k = 2 ∧ j = 4 * p + 3)) : LST (upM (upM μ (37 + p) k x) 50 j x) s n z := by
  obtain ⟨hW, hL, hL1, hR, hz, hz1, hz2⟩ := h
  have h5 := hR.2.2.2.1
  have h4 := hR.2.2.1
  have hWν : WF (upM μ (37 + p) k x) := by
    rcases hk with ⟨rfl, hx⟩ | ⟨rfl, hx⟩
    · exact WF_mind hW (by omega) hx
    · exact WF_led hW (by omega) hx
  have e49 : E49 (upM μ (37 + p) k x) (upM (upM μ (37 + p) k x) 50 j x) := E49_arr (by omega)
  have o : ∀ c, c ≠ 50 → c ≠ 37 + p → upM (upM μ (37 + p) k x) 50 j x c = μ c := fun c h1 h2 => by rw [upM_off h1, upM_off h2]
  have o37 : ∀ i, i ≠ k → upM (upM μ (37 + p) k x) 50 j x (37 + p) i = μ (37 + p) i := fun i hi => by rw [upM_off (by omega), upM_ne (Or.inr hi)]
  have o37k : upM (upM μ (37 + p) k x) 50 j x (37 + p) k = x := by rw [upM_off (by omega), upM_self]
  have o50 : ∀ i, i ≠ j → upM (upM μ (37 + p) k x) 50 j x 50 i = μ 50 i := fun i hi => by rw [upM_ne (Or.inr hi), upM_off (by omega)]
  have er : rc (upM (upM μ (37 + p) k x) 50 j x) = rc μ := by unfold rc; rw [o 1 (by omega) (by omega)]
  have pl : ∀ y, y < 2 → PL μ y → PL (upM (upM μ (37 + p) k x) 50 j x) y := fun y hy hl => PL_same hW (o 1 (by omega) (by omega)) (o _ (by omega) (by omega)) (o _ (by omega) (by omega)) (by rw [o (2 + y) (by omega) (by omega)]) (fun q hq => by
    by_cases e : q = p
    · subst e; exact ⟨o37 0 (by omega), o37 3 (by omega)⟩
    · rw [o (37 + q) (by omega) (by omega)]; exact ⟨rfl, rfl⟩) (fun q hq => o _ (by omega) (by omega)) hl
  refine ⟨e49.WF9 hWν, pl 0 (by omega) hL, pl 1 (by omega) hL1, ⟨by rw [er]; exact hR.1, by unfold pcn; rw [o 1 (by omega) (by omega)]; exact hR.2.1, h4, h5, fun q hq => ?_, fun q hq => ?_⟩, by rw [o 0 (by omega) (by omega)]; exact hz, hz1, hz2⟩
  · exact RL1_same (hR.2.2.2.2.1 q hq) (fun j hj => by rw [o 49 (by omega) (by omega)]) (by rw [o (21 + q) (by omega) (by omega)]) (o _ (by omega) (by omega))
  · have g := hR.2.2.2.2.2 q hq
    by_cases e : q = p
    · subst e
      obtain ⟨g1, g2, g3, g4, g5, g6⟩ := g
      have kb : ∀ w, bits (upM (upM μ (37 + q) k x) 50 j x) q w = bits μ q w := fun w => by unfold bits; rw [o37 3 (by omega), o (43 + q) (by omega) (by omega)]
      have k5 : upM (upM μ (37 + q) k x) 50 j x (5 + 2 * 0) = μ (5 + 2 * 0) := o _ (by omega) (by omega)
      refine ⟨by rw [o50 _ (by omega), o37 0 (by omega)]; exact g1, ?_, by rw [o50 _ (by omega), kb, k5]; exact g3, ?_, by rw [k5]; exact g5, ?_⟩
      · rcases hk with ⟨rfl, hx⟩ | ⟨rfl, hx⟩
        · rw [o37k, show 4 * q + 1 = j by omega, upM_self]
        · rw [o50 _ (by omega), o37 1 (by omega)]; exact g2
      · rcases hk with ⟨rfl, hx⟩ | ⟨rfl, hx⟩
        · rw [o50 _ (by omega), o37 2 (by omega)]; exact g4
        · rw [o37k, show 4 * q + 3 = j by omega, upM_self]
      · unfold PW1
        rw [o37 3 (by omega), o (43 + q) (by omega) (by omega), o 51 (by omega) (by omega), er]
        exact g6
    · exact PL1_same g (fun i hi => o50 _ (by omega)) (by rw [o (5 + 2 * 0) (by omega) (by omega)]) (o _ (by omega) (by omega)) (o _ (by omega) (by omega)) (o _ (by omega) (by omega)) er
/-- the law's own tolls made the margins, the first r -/
def TL (μ ξ : Mem) (r : Nat) : Prop := (∀ c, c ≠ 49 → ξ c = μ c) ∧ (∀ q, q < r → ξ 49 (4 * q + 3) = mtl μ q) ∧ ∀ j, (∀ q, q < r → j ≠ 4 * q + 3) → ξ 49 j = μ 49 j
theorem TL_0 {μ : Mem} : TL μ μ 0 := ⟨fun _ _ => rfl, fun q hq => by omega, fun _ _ => rfl⟩
theorem TL_s {μ ξ : Mem} {r : Nat} {x : Int} (h : TL μ ξ r) (hx : x = mtl μ r) : TL μ (upM ξ 49 (4 * r + 3) x) (r + 1) := by
  refine ⟨fun c hc => by rw [upM_off hc]; exact h.1 c hc, fun q hq => ?_, fun j hj => ?_⟩
  · by_cases e : q = r
    · subst e; rw [upM_self]; exact hx
    · rw [upM_ne (by omega)]; exact h.2.1 q (by omega)
  · rw [upM_ne (Or.inr (hj r (by omega)))]
    exact h.2.2 j (fun q hq => hj q (by omega))
theorem TL_st {μ ξ : Mem} {s n r : Nat} {z : Int} (h : LST μ s n z) (hT : TL μ ξ r) : WF ξ ∧ PL ξ 0 ∧ PL ξ 1 ∧ rc ξ = s ∧ pcn ξ = n ∧ POK ξ n ∧ (∀ q, q < 8 → mtl ξ q = mtl μ q) ∧ ∀ q, q < s → lld ξ n q = μ (6 + 2 * 0) q ∧ (ξ 49 (4 * q) = μ 49 (4 * q) ∧ ξ 49 (4 * q + 1) = μ 49 (4 * q + 1) ∧ ξ 49 (4 * q + 2) = μ 49 (4 * q + 2)) := by
  obtain ⟨hW, hL, hL1, hR, hz, hz1, hz2⟩ := h
  have o := hT.1
  have hag : ∀ y, y < 2 → AG μ ξ y := fun y hy => ⟨fun c hc => o c (by omega), o _ (by omega), o _ (by omega), by rw [o (2 + y) (by omega)]⟩
  have hab : AB μ ξ := (hag 0 (by omega)).1
  have hPO : POK ξ n := by
    have := hR.POK9 hW
    unfold POK
    rw [o 50 (by omega)]
    exact this
  refine ⟨hab.WF9 hW, (hag 0 (by omega)).PL9 hW hL, (hag 1 (by omega)).PL9 hW hL1, by rw [hab.rc9]; exact hR.1, by rw [hab.pcn9]; exact hR.2.1, hPO, fun q hq => ?_, fun q hq => ⟨?_, hT.2.2 _ (fun k _ => by omega), hT.2.2 _ (fun k _ => by omega), hT.2.2 _ (fun k _ => by omega)⟩⟩
  · unfold mtl mrg
    rw [hab.dly9 hq, hab.dly9 hq, o (6 + 2 * 0) (by omega)]
  · rw [← lld_ld hW hL hR hq]
    unfold lld
    rw [o 50 (by omega)]
theorem LST_tb {μ ξ ν : Mem} {s n : Nat} {z : Int} (h : LST μ s n z) (hT : TL μ ξ s) (hB : TB ξ ν s) : LST ν s n z := by
  obtain ⟨w1, w2, w3, w4, w5, w6, w7, w8⟩ := TL_st h hT
  obtain ⟨hW, hL, hL1, hR, hz, hz1, hz2⟩ := h
  have h5 := hR.2.2.2.1
  have h4 := hR.2.2.1
  have o := hB.1
  have oo : ∀ c, c ≠ 49 → ¬ (21 ≤ c ∧ c < 21 + s) → ν c = μ c := fun c h1 h2 => by rw [o c h2, hT.1 c h1]
  have hWν : WF ν := TB_WF w1 w2 hB (by omega)
  have er : rc ν = rc μ := by unfold rc; rw [oo 1 (by omega) (by omega)]
  have pl : ∀ y, y < 2 → PL μ y → PL ν y := fun y hy hl => PL_same hW (oo 1 (by omega) (by omega)) (oo _ (by omega) (by omega)) (oo _ (by omega) (by omega)) (by rw [oo (2 + y) (by omega) (by omega)]) (fun q hq => by rw [oo (37 + q) (by omega) (by omega)]; exact ⟨rfl, rfl⟩) (fun q hq => oo _ (by omega) (by omega)) hl
  refine ⟨hWν, pl 0 (by omega) hL, pl 1 (by omega) hL1, ⟨by rw [er]; exact hR.1, by unfold pcn; rw [oo 1 (by omega) (by omega)]; exact hR.2.1, h4, h5, fun q hq => ?_, fun q hq => ?_⟩, by rw [oo 0 (by omega) (by omega)]; exact hz, hz1, hz2⟩
  · obtain ⟨g1, g2, g3, g4, g5⟩ := hR.2.2.2.2.1 q hq
    obtain ⟨-, k0, k1, k2⟩ := w8 q hq
    unfold RL1
    rw [o 49 (by omega), k0, k1, k2, oo (29 + q) (by omega) (by omega)]
    refine ⟨g1, g2, g3, ?_, g5⟩
    rw [(hB.2 q hq).2, hT.2.1 q hq, w7 q (by omega)]
  · exact PL1_same (hR.2.2.2.2.2 q hq) (fun j hj => by rw [oo 50 (by omega) (by omega)]) (by rw [oo (5 + 2 * 0) (by omega) (by omega)]) (oo _ (by omega) (by omega)) (oo _ (by omega) (by omega)) (oo _ (by omega) (by omega)) er
