theorem p2_8 {n : Nat} (h : n ≤ 8) : 1 ≤ ((2 ^ n : Nat) : Int) ∧ ((2 ^ n : Nat) : Int) ≤ 256 := by
  have h1 : 2 ^ n ≤ 2 ^ 8 := Nat.pow_le_pow_right (by omega) h
  have h2 := Nat.two_pow_pos n
  omega
theorem FG_rng {μ : Mem} {y s : Nat} {z : Int} (h : FG μ y s z) : -1 ≤ z ∧ z < (pcn μ : Int) ∨ z = -1 := by
  rcases h with ⟨h, -⟩ | ⟨k, h1, h2, h3, h4⟩
  · omega
  · have := Nat.mod_lt (s + k) (show pcn μ > 0 by omega)
    omega
theorem FG_none {μ : Mem} {y : Nat} {z : Int} (h : FG μ y 0 z) (hz : z < 0) : ∀ j, j < pcn μ → gn μ y j ≤ 0 := by
  rcases h with ⟨-, h⟩ | ⟨k, h1, h2, h3, h4⟩
  · intro j hj
    have := h j hj
    rw [Nat.zero_add, Nat.mod_eq_of_lt hj] at this
    exact this
  · omega
theorem FG_some {μ : Mem} {y : Nat} {z : Int} (h : FG μ y 0 z) (hz : 0 ≤ z) : ∃ j, j < pcn μ ∧ 0 < gn μ y j := by
  rcases h with ⟨h, -⟩ | ⟨k, h1, h2, h3, h4⟩
  · omega
  · exact ⟨_, Nat.mod_lt _ (by omega), h2⟩
theorem mgF_gn (μ : Mem) (y : Nat) : ∀ n : Nat, ((mgF μ y n).1 < 0 → (mgF μ y n).2 = 0) ∧ ∀ k : Nat, (mgF μ y n).1 = (k : Int) → gn μ y k = (mgF μ y n).2
  | 0 => ⟨fun _ => rfl, fun k h => by have h9 : (-1 : Int) = (k : Int) := h; omega⟩
  | n + 1 => by
    have h1 := mgF_gn μ y n
    by_cases e : (mgF μ y n).2 < gn μ y n
    · rw [mgF_y e]
      refine ⟨fun h => ?_, fun k h => ?_⟩
      · simp only at h; omega
      · simp only at h ⊢
        rw [show k = n by omega]
    · rw [mgF_n (by omega)]
      exact h1
def mtl (μ : Mem) (r : Nat) : Int := min 9999 (mrg μ r (μ (6 + 2 * 0) r))
/-- the first n tolls made the margins -/
def TB (μ ν : Mem) (n : Nat) : Prop := (∀ c, ¬ (21 ≤ c ∧ c < 21 + n) → ν c = μ c) ∧ ∀ r, r < n → (∀ j, j ≠ 5 → ν (21 + r) j = μ (21 + r) j) ∧ ν (21 + r) 5 = mtl μ r
theorem TB_0 {μ : Mem} : TB μ μ 0 := ⟨fun _ _ => rfl, fun r hr => by omega⟩
theorem TB_s {μ ν : Mem} {n : Nat} {z : Int} (h : TB μ ν n) (hn : n < 8) (hz : z = mtl μ n) : TB μ (upM ν (21 + n) 5 z) (n + 1) := by
  refine ⟨fun c hc => ?_, fun r hr => ?_⟩
  · rw [upM_off (by omega)]; exact h.1 c (by omega)
  · by_cases e : r = n
    · subst e
      refine ⟨fun j hj => ?_, ?_⟩
      · rw [upM_ne (by omega), h.1 (21 + r) (by omega)]
      · rw [upM_self]; exact hz
    · have := h.2 r (by omega)
      refine ⟨fun j hj => ?_, ?_⟩
      · rw [upM_ne (by omega)]; exact this.1 j hj
      · rw [upM_ne (by omega)]; exact this.2
theorem mrg_rng2 {μ : Mem} (hW : WF μ) {r : Nat} (hr : r < 8) {x : Int} (hx : 0 ≤ x ∧ x ≤ 18) : 0 ≤ mrg μ r x ∧ mrg μ r x ≤ 2147483647 := by
  have h1 := mrg_rng hx (dly_rng hW hr x) (dly_rng hW hr (x - 1))
  unfold mrg
  split <;> omega
theorem TB_WF {μ ν : Mem} {n : Nat} (hW : WF μ) (hL : PL μ 0) (h : TB μ ν n) (hn : n ≤ 8) : WF ν := by
  obtain ⟨h1, h2, h3, h4, h5, h6⟩ := id hW
  have o := h.1
  refine ⟨by rw [o 1 (by omega)]; exact h1, by rw [o 1 (by omega)]; exact h2, fun q hq => ?_, fun q hq k hk => ?_, fun r hr => ?_, fun r hr x hx => ?_⟩
  · rw [o (37 + q) (by omega)]; exact h3 q hq
  · rw [o (43 + q) (by omega)]; exact h4 q hq k hk
  · by_cases e : r < n
    · rw [(h.2 r e).2]
      have h7 := BL_rng hW hL.2.1 hr
      have h8 := mrg_rng2 hW hr h7
      unfold mtl
      omega
    · rw [o (21 + r) (by omega)]; exact h5 r hr
  · rw [o (29 + r) (by omega)]; exact h6 r hr x hx
theorem TB_mrg {μ ν : Mem} {n : Nat} (h : TB μ ν n) (hn : n < 8) {x : Int} : mrg ν n x = mrg μ n x := by
  unfold mrg dly
  rw [h.1 (29 + n) (by omega)]
-- runs
/-- the next to change: what nextToChange answers, and leaves -/
def NX (μ ν : Mem) (rule last q : Int) : Prop := (rule = 103 ∧ ν = μ ∧ q = (mgF μ 0 (pcn μ)).1) ∨ (rule = 114 ∧ ν = μ ∧ FG μ 0 (last + 1).toNat q) ∨
  (rule = 122 ∧ ((cgF μ 0 (pcn μ) < 1 ∧ ν = μ ∧ q = -1) ∨ (1 ≤ cgF μ 0 (pcn μ) ∧ ν = upM μ 0 6 (μ 0 6 * 48271 % 2147483647) ∧ GA μ 0 (μ 0 6 * 48271 % 2147483647 % cgF μ 0 (pcn μ)) q)))
theorem gn_up {μ : Mem} {x : Int} {y p : Nat} : gn (upM μ 0 6 x) y p = gn μ y p := by
  have e : ∀ c, c ≠ 0 → upM μ 0 6 x c = μ c := fun c hc => upM_off hc
  have hbits : ∀ w, bits (upM μ 0 6 x) p w = bits μ p w := fun w => by unfold bits; rw [e (37 + p) (by omega), e (43 + p) (by omega)]
  have hc : ∀ w, cst (upM μ 0 6 x) y p w = cst μ y p w := fun w => by
    unfold cst rc
    rw [e 1 (by omega)]
    congr 1
    funext r
    unfold cstT dly
    rw [hbits, e (6 + 2 * y) (by omega), e (5 + 2 * y) (by omega), hbits, e (37 + p) (by omega), e (21 + r) (by omega), e (29 + r) (by omega)]
  have hbs : ∀ n, bsF (upM μ 0 6 x) y p n = bsF μ y p n := fun n => by
    induction n with
    | zero => show upM μ 0 6 x (5 + 2 * y) p = _; rw [e (5 + 2 * y) (by omega)]; rfl
    | succ n ih => show (if _ then _ else _) = (if _ then _ else _); rw [ih, hc, hc]
  unfold gn ask bst
  rw [hc, hbs, e (37 + p) (by omega), e (5 + 2 * y) (by omega), hc]
theorem WF_z {μ : Mem} {x : Int} (h : WF μ) : WF (upM μ 0 6 x) := by
  have e : ∀ c, c ≠ 0 → upM μ 0 6 x c = μ c := fun c hc => upM_off hc
  obtain ⟨h1, h2, h3, h4, h5, h6⟩ := h
  refine ⟨by rw [e 1 (by omega)]; exact h1, by rw [e 1 (by omega)]; exact h2, fun q hq => ?_, fun q hq k hk => ?_, fun r hr => ?_, fun r hr x hx => ?_⟩
  · rw [e (37 + q) (by omega)]; exact h3 q hq
  · rw [e (43 + q) (by omega)]; exact h4 q hq k hk
  · rw [e (21 + r) (by omega)]; exact h5 r hr
  · rw [e (29 + r) (by omega)]; exact h6 r hr x hx
theorem PL_z {μ : Mem} {x : Int} {y : Nat} (h : PL μ y) : PL (upM μ 0 6 x) y := by
  have e : ∀ c, c ≠ 0 → upM μ 0 6 x c = μ c := fun c hc => upM_off hc
  obtain ⟨h1, h2, h3⟩ := h
  refine ⟨fun q hq => by rw [e (5 + 2 * y) (by omega)]; exact h1 q hq, fun r hr => ?_, by rw [e (2 + y) (by omega)]; exact h3⟩
  have := h2 r hr
  unfold rc pcn tw bits at *
  rw [e (6 + 2 * y) (by omega), e 1 (by omega), this]
  congr 2
  funext p
  rw [e (5 + 2 * y) (by omega), e (37 + p) (by omega), e (43 + p) (by omega)]
theorem NX_WF {μ ν : Mem} {rule last q : Int} (hN : NX μ ν rule last q) (hW : WF μ) (hL : PL μ 0) : WF ν ∧ PL ν 0 ∧ pcn ν = pcn μ := by
  rcases hN with ⟨-, rfl, -⟩ | ⟨-, rfl, -⟩ | ⟨-, ⟨-, rfl, -⟩ | ⟨-, rfl, -⟩⟩
  · exact ⟨hW, hL, rfl⟩
  · exact ⟨hW, hL, rfl⟩
  · exact ⟨hW, hL, rfl⟩
  · exact ⟨WF_z hW, PL_z hL, by unfold pcn; rw [upM_off (by omega)]⟩
theorem NX_rng {μ ν : Mem} {rule last q : Int} (hN : NX μ ν rule last q) (hW : WF μ) : -1 ≤ q ∧ q < 6 ∧ (0 ≤ q → q < (pcn μ : Int)) := by
  have h6 := hW.pc6
  rcases hN with ⟨-, -, h⟩ | ⟨-, -, h⟩ | ⟨-, ⟨-, -, h⟩ | ⟨-, -, h⟩⟩
  · have := mgF_rng hW (y := 0) (pcn μ) (by omega)
    omega
  · have := FG_rng h
    omega
  · omega
  · rcases h with ⟨h, -⟩ | ⟨k, h1, h2, h3, h4⟩ <;> omega
/-- k changes of a run: who changed last, and the memory behind -/
def RS (rule : Int) : Nat → Mem → Int → Mem → Prop
  | 0, μ, last, ν => last = -1 ∧ ν = μ
  | k + 1, μ, last, ν => ∃ (l : Int) (ξ ξ1 : Mem), RS rule k μ l ξ ∧ NX ξ ξ1 rule l last ∧ 0 ≤ last ∧ TK ξ1 ν 0 last.toNat (bst ξ1 0 last.toNat)
def zOK (μ : Mem) : Prop := 1 ≤ μ 0 6 ∧ μ 0 6 ≤ 2147483646
theorem RS_ok {rule : Int} {μ : Mem} (hW : WF μ) (hL : PL μ 0) (hz : zOK μ) : ∀ (k : Nat) (last : Int) (ν : Mem), RS rule k μ last ν → WF ν ∧ PL ν 0 ∧ pcn ν = pcn μ ∧ -1 ≤ last ∧ last < 6 ∧ (0 ≤ ν 0 6 ∧ ν 0 6 ≤ 2147483646)
  | 0, last, ν, h => by
    obtain ⟨rfl, rfl⟩ := h
    exact ⟨hW, hL, rfl, by omega, by omega, by unfold zOK at hz; omega⟩
  | k + 1, last, ν, h => by
    obtain ⟨l, ξ, ξ1, h1, h2, h3, h4⟩ := h
    obtain ⟨g1, g2, g3, g4, g5, g6⟩ := RS_ok hW hL hz k l ξ h1
    obtain ⟨f1, f2, f3⟩ := NX_WF h2 g1 g2
    have f4 := NX_rng h2 g1
    have h6 := g1.pc6
    have hl : last.toNat < pcn ξ1 := by omega
    have hb := bst_rng f1 (p := last.toNat) (by omega) (f2.PB9 f1)
    refine ⟨h4.WF9 (by omega) f1, h4.PL9 (by omega) f1 hl hb f2, by rw [h4.pcn9, f3, g3], by omega, by omega, ?_⟩
    rw [h4.1 0 (by omega) (by omega)]
    rcases h2 with ⟨-, rfl, -⟩ | ⟨-, rfl, -⟩ | ⟨-, ⟨-, rfl, -⟩ | ⟨-, rfl, -⟩⟩
    · exact g6
    · exact g6
    · exact g6
    · rw [upM_self]; omega
theorem cgF_up {μ : Mem} {x : Int} {y : Nat} : ∀ n, cgF (upM μ 0 6 x) y n = cgF μ y n
  | 0 => rfl
  | n + 1 => by
    show _ + (if _ then _ else _) = _ + (if _ then _ else _)
    rw [cgF_up n, gn_up]
theorem GA_up {μ : Mem} {x n z : Int} {y : Nat} (h : GA (upM μ 0 6 x) y n z) : GA μ y n z := by
  have e : pcn (upM μ 0 6 x) = pcn μ := by unfold pcn; rw [upM_off (by omega)]
  unfold GA at *
  rw [e] at h
  rcases h with ⟨h1, h2⟩ | ⟨k, h1, h2, h3, h4⟩
  · exact Or.inl ⟨h1, fun j hj hg => by have := h2 j hj (by rw [gn_up]; exact hg); rw [cgF_up] at this; exact this⟩
  · exact Or.inr ⟨k, h1, by rw [gn_up] at h2; exact h2, by rw [cgF_up] at h3; exact h3, h4⟩
/-- what run answers, and leaves -/
def RUN (μ ν : Mem) (rule m z : Int) : Prop := (z = m ∧ ∃ l, RS rule m.toNat μ l ν) ∨ ∃ (n : Nat) (l : Int) (ξ : Mem), (n : Int) < m ∧ z = (n : Int) ∧ RS rule n μ l ξ ∧ NX ξ ν rule l (-1)
theorem RS_0 {rule : Int} {μ : Mem} : RS rule 0 μ (-1) μ := ⟨rfl, rfl⟩
theorem RS_s {rule last l : Int} {k : Nat} {μ ν ξ ξ1 : Mem} (h1 : RS rule k μ l ξ) (h2 : NX ξ ξ1 rule l last) (h3 : 0 ≤ last) (h4 : TK ξ1 ν 0 last.toNat (bst ξ1 0 last.toNat)) : RS rule (k + 1) μ last ν := ⟨l, ξ, ξ1, h1, h2, h3, h4⟩
