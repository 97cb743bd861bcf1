theorem cstT_y {μ : Mem} {y p r : Nat} {w : Int} (h : tz (bits μ p w) r = 1) : cstT μ y p w r = dly μ r (μ (6 + 2 * y) r + (if tz (bits μ p (μ (5 + 2 * y) p)) r = 1 then 0 else μ (37 + p) 0)) + μ (21 + r) 5 * μ (37 + p) 1 := if_pos h
theorem cstT_n {μ : Mem} {y p r : Nat} {w : Int} (h : ¬ tz (bits μ p w) r = 1) : cstT μ y p w r = 0 := if_neg h
theorem nar_c {k : Int} (h : 0 ≤ k ∧ k ≤ 65535) : narrow .char (.int (iZ k)) = .int (iZ k) ∧ fits .char (.int (iZ k)) = true := kx_chr (iZ k) (by rw [iZ_toInt (by omega)]; exact h.1) (by rw [iZ_toInt (by omega)]; exact h.2)
/-- behind putResource -/
def RPut (μ ν : Mem) (r : Nat) (k a b : Int) : Prop := (∀ c, c ≠ 1 → c ≠ 21 + r → c ≠ 29 + r → ν c = μ c) ∧ (∀ j, j ≠ 2 → ν 1 j = μ 1 j) ∧ ν 1 2 = μ 1 2 + 1 ∧ ν (21 + r) 0 = a ∧ ν (21 + r) 1 = b ∧ ν (21 + r) 2 = k ∧ (∀ j, 2 < j → ν (21 + r) j = μ (21 + r) j) ∧ (∀ j, 1 ≤ j → j ≤ 18 → ν (29 + r) j = b + grw k a (j : Int)) ∧ ∀ j, (j = 0 ∨ 18 < j) → ν (29 + r) j = μ (29 + r) j
theorem RPut_of {μ μ1 μ2 μ3 μ4 μ5 : Mem} {r : Nat} {k a b : Int} (hr : r < 8) (h0 : μ 1 2 = (r : Int)) (e1 : μ1 = upM μ (21 + r) 2 k) (e2 : μ2 = upM μ1 (21 + r) 0 a) (e3 : μ3 = upM μ2 (21 + r) 1 b) (hF : FD μ3 μ4 r 18) (e5 : μ5 = upM μ4 1 2 (μ 1 2 + 1)) : RPut μ μ5 r k a b := by
  obtain ⟨f1, f2, f3⟩ := hF
  have g : ∀ c, c ≠ 21 + r → μ3 c = μ c := fun c hc => by rw [e3, upM_off hc, e2, upM_off hc, e1, upM_off hc]
  have g0 : μ3 (21 + r) 0 = a := by rw [e3, upM_ne (by omega), e2, upM_self]
  have g1 : μ3 (21 + r) 1 = b := by rw [e3, upM_self]
  have g2 : μ3 (21 + r) 2 = k := by rw [e3, upM_ne (by omega), e2, upM_ne (by omega), e1, upM_self]
  have g3 : ∀ j, 2 < j → μ3 (21 + r) j = μ (21 + r) j := fun j hj => by rw [e3, upM_ne (by omega), e2, upM_ne (by omega), e1, upM_ne (by omega)]
  have h4 : μ4 (21 + r) = μ3 (21 + r) := f1 _ (by omega)
  refine ⟨fun c h1 h2 h3 => ?_, fun j hj => ?_, ?_, ?_, ?_, ?_, fun j hj => ?_, fun j hj1 hj2 => ?_, fun j hj => ?_⟩
  · rw [e5, upM_off h1, f1 c h3, g c h2]
  · rw [e5, upM_ne (by omega), f1 1 (by omega), g 1 (by omega)]
  · rw [e5, upM_self]
  · rw [e5, upM_ne (by omega), h4, g0]
  · rw [e5, upM_ne (by omega), h4, g1]
  · rw [e5, upM_ne (by omega), h4, g2]
  · rw [e5, upM_ne (by omega), h4, g3 j hj]
  · rw [e5, upM_ne (by omega), f2 j hj1 hj2, g0, g1, g2]
  · rw [e5, upM_ne (by omega), f3 j hj, g (29 + r) (by omega)]
/-- behind putPlayer -/
def PPut (μ ν : Mem) (p : Nat) (w m : Int) : Prop := (∀ c, c ≠ 1 → c ≠ 37 + p → ν c = μ c) ∧ (∀ j, j ≠ 3 → ν 1 j = μ 1 j) ∧ ν 1 3 = μ 1 3 + 1 ∧ ν (37 + p) 0 = w ∧ ν (37 + p) 1 = m ∧ ∀ j, 1 < j → ν (37 + p) j = μ (37 + p) j
theorem PPut_of {μ μ1 μ2 μ3 : Mem} {p : Nat} {w m : Int} (hp : p < 6) (h0 : μ 1 3 = (p : Int)) (e1 : μ1 = upM μ (37 + p) 0 w) (e2 : μ2 = upM μ1 (37 + p) 1 m) (e3 : μ3 = upM μ2 1 3 (μ 1 3 + 1)) : PPut μ μ3 p w m := by
  refine ⟨fun c h1 h2 => ?_, fun j hj => ?_, ?_, ?_, ?_, fun j hj => ?_⟩
  · rw [e3, upM_off h1, e2, upM_off h2, e1, upM_off h2]
  · rw [e3, upM_ne (by omega), e2, upM_ne (by omega), e1, upM_ne (by omega)]
  · rw [e3, upM_self]
  · rw [e3, upM_ne (by omega), e2, upM_ne (by omega), e1, upM_self]
  · rw [e3, upM_ne (by omega), e2, upM_self]
  · rw [e3, upM_ne (by omega), e2, upM_ne (by omega), e1, upM_ne (by omega)]
/-- what a player's going to another way puts on a resource -/
def tkd (μ : Mem) (y p : Nat) (w : Int) (j : Nat) : Int := (if tz (bits μ p w) j = 1 then μ (37 + p) 0 else 0) - (if tz (bits μ p (μ (5 + 2 * y) p)) j = 1 then μ (37 + p) 0 else 0)
def TKl (μ ν : Mem) (y p : Nat) (w : Int) (r : Nat) : Prop := (∀ c, c ≠ 6 + 2 * y → ν c = μ c) ∧ ∀ j, ν (6 + 2 * y) j = μ (6 + 2 * y) j + if j < r then tkd μ y p w j else 0
def TK (μ ν : Mem) (y p : Nat) (w : Int) : Prop := (∀ c, c ≠ 5 + 2 * y → c ≠ 6 + 2 * y → ν c = μ c) ∧ (∀ j, j ≠ p → ν (5 + 2 * y) j = μ (5 + 2 * y) j) ∧ ν (5 + 2 * y) p = w ∧ ∀ j, ν (6 + 2 * y) j = μ (6 + 2 * y) j + if j < rc μ then tkd μ y p w j else 0
theorem TKl_0 {μ : Mem} {y p : Nat} {w : Int} : TKl μ μ y p w 0 := ⟨fun _ _ => rfl, fun j => by simp⟩
theorem TKl_s {μ ν ν' : Mem} {y p r : Nat} {w : Int} (h : TKl μ ν y p w r) (h1 : ∀ c j, (c ≠ 6 + 2 * y ∨ j ≠ r) → ν' c j = ν c j) (h2 : ν' (6 + 2 * y) r = ν (6 + 2 * y) r + tkd μ y p w r) : TKl μ ν' y p w (r + 1) := by
  refine ⟨fun c hc => ?_, fun j => ?_⟩
  · rw [← h.1 c hc]
    exact funext fun j => h1 c j (Or.inl hc)
  · by_cases e : j = r
    · subst e
      rw [h2, h.2 j, if_neg (by omega), if_pos (by omega)]
      omega
    · rw [h1 _ _ (Or.inr e), h.2 j]
      by_cases e2 : j < r
      · rw [if_pos e2, if_pos (by omega)]
      · rw [if_neg e2, if_neg (by omega)]
theorem TK_of {μ ν : Mem} {y p r : Nat} {w : Int} (h : TKl μ ν y p w r) (hr : r = rc μ) : TK μ (upM ν (5 + 2 * y) p w) y p w := by
  refine ⟨fun c h1 h2 => by rw [upM_off h1]; exact h.1 c h2, fun j hj => by rw [upM_ne (Or.inr hj), h.1 _ (by omega)], upM_self, fun j => ?_⟩
  rw [upM_ne (Or.inl (by omega)), h.2 j, hr]
/-- behind putWay's own writes -/
def WPut (μ ν : Mem) (p n : Nat) (b : Int) : Prop := ∃ μ1, μ1 = upM μ (43 + p) n b ∧ ν = upM μ1 (37 + p) 3 ((n : Int) + 1)
theorem WPut_WF {μ μ1 μ2 : Mem} {p n : Nat} {b : Int} (h : WF μ) (hp : p < 6) (hb : 0 ≤ b ∧ b ≤ 255) (hn : n < 5) (e1 : μ1 = upM μ (43 + p) n b) (e2 : μ2 = upM μ1 (37 + p) 3 ((n : Int) + 1)) : WF μ2 := by
  have o : ∀ c, c ≠ 37 + p → c ≠ 43 + p → μ2 c = μ c := fun c h1 h2 => by rw [e2, upM_off h1, e1, upM_off h2]
  have w : ∀ q k, q < 6 → (μ2 (43 + q) k = μ (43 + q) k ∨ μ2 (43 + q) k = b) := fun q k hq => by
    rw [e2, upM_ne (by omega), e1]
    unfold upM
    split
    · exact Or.inr rfl
    · exact Or.inl rfl
  obtain ⟨h1, h2, h3, h4, h5, h6⟩ := h
  refine ⟨by rw [o 1 (by omega) (by omega)]; exact h1, by rw [o 1 (by omega) (by omega)]; exact h2, fun q hq => ?_, fun q hq k hk => ?_, fun r hr => by rw [o (21 + r) (by omega) (by omega)]; exact h5 r hr, fun r hr x hx => by rw [o (29 + r) (by omega) (by omega)]; exact h6 r hr x hx⟩
  · by_cases e : q = p
    · subst e
      have g := h3 q hq
      have k0 : ∀ j, j ≠ 3 → μ2 (37 + q) j = μ (37 + q) j := fun j hj => by rw [e2, upM_ne (Or.inr hj), e1, upM_ne (by omega)]
      have k3 : μ2 (37 + q) 3 = (n : Int) + 1 := by rw [e2, upM_self]
      rw [k0 0 (by omega), k0 1 (by omega), k0 2 (by omega), k3]
      omega
    · have k0 : μ2 (37 + q) = μ (37 + q) := by rw [e2, upM_off (by omega), e1, upM_off (by omega)]
      rw [k0]
      exact h3 q hq
  · rcases w q k hq with e | e <;> rw [e]
    · exact h4 q hq k hk
    · exact hb
def ask (μ : Mem) (y p : Nat) : Int := if μ (37 + p) 2 = 0 ∧ 0 ≤ μ (5 + 2 * y) p then 1 else 0
theorem ask_01 (μ : Mem) (y p : Nat) : ask μ y p = 0 ∨ ask μ y p = 1 := by
  unfold ask
  split <;> omega
def bsF (μ : Mem) (y p : Nat) : Nat → Int
  | 0 => μ (5 + 2 * y) p
  | n + 1 => if cst μ y p (n : Int) < cst μ y p (bsF μ y p n) then (n : Int) else bsF μ y p n
theorem bsF_y {μ : Mem} {y p n : Nat} (h : cst μ y p (n : Int) < cst μ y p (bsF μ y p n)) : bsF μ y p (n + 1) = (n : Int) := if_pos h
theorem bsF_n {μ : Mem} {y p n : Nat} (h : cst μ y p (bsF μ y p n) ≤ cst μ y p (n : Int)) : bsF μ y p (n + 1) = bsF μ y p n := if_neg (by omega)
def bst (μ : Mem) (y p : Nat) : Int := bsF μ y p (μ (37 + p) 3).toNat
theorem bsF_rng {μ : Mem} {y p : Nat} (hB : -1 ≤ μ (5 + 2 * y) p ∧ μ (5 + 2 * y) p ≤ 4) : ∀ n : Nat, n ≤ 5 → -1 ≤ bsF μ y p n ∧ bsF μ y p n ≤ 4
  | 0, _ => hB
  | n + 1, h => by
    have h1 := bsF_rng hB n (by omega)
    show -1 ≤ (if _ then _ else _) ∧ (if _ then _ else _) ≤ (4 : Int)
    split <;> omega
theorem bst_rng {μ : Mem} (hW : WF μ) {y p : Nat} (hp : p < 6) (hB : PB μ y) : -1 ≤ bst μ y p ∧ bst μ y p ≤ 4 := bsF_rng (hB.1 p hp) _ (by have := hW.pl hp; omega)
def gn (μ : Mem) (y p : Nat) : Int := if ask μ y p = 1 then cst μ y p (μ (5 + 2 * y) p) - cst μ y p (bst μ y p) else 0
theorem gn_rng {μ : Mem} (hW : WF μ) {y p : Nat} (hp : p < 6) : -800000 ≤ gn μ y p ∧ gn μ y p ≤ 800000 := by
  have h1 := cst_rng hW (y := y) hp (μ (5 + 2 * y) p)
  have h2 := cst_rng hW (y := y) hp (bst μ y p)
  unfold gn
  split <;> omega
def FG (μ : Mem) (y s : Nat) (z : Int) : Prop := (z = -1 ∧ ∀ j, j < pcn μ → gn μ y ((s + j) % pcn μ) ≤ 0) ∨ ∃ k, k < pcn μ ∧ 0 < gn μ y ((s + k) % pcn μ) ∧ z = (((s + k) % pcn μ : Nat) : Int) ∧ ∀ j, j < k → gn μ y ((s + j) % pcn μ) ≤ 0
def mgF (μ : Mem) (y : Nat) : Nat → Int × Int
  | 0 => (-1, 0)
  | n + 1 => if (mgF μ y n).2 < gn μ y n then ((n : Int), gn μ y n) else mgF μ y n
theorem mgF_y {μ : Mem} {y n : Nat} (h : (mgF μ y n).2 < gn μ y n) : mgF μ y (n + 1) = ((n : Int), gn μ y n) := if_pos h
theorem mgF_n {μ : Mem} {y n : Nat} (h : gn μ y n ≤ (mgF μ y n).2) : mgF μ y (n + 1) = mgF μ y n := if_neg (by omega)
theorem mgF_rng {μ : Mem} (hW : WF μ) {y : Nat} : ∀ n : Nat, n ≤ 6 → 0 ≤ (mgF μ y n).2 ∧ (mgF μ y n).2 ≤ 800000 ∧ -1 ≤ (mgF μ y n).1 ∧ (mgF μ y n).1 < (n : Int)
  | 0, _ => by simp [mgF]
  | n + 1, h => by
    have h1 := mgF_rng hW (y := y) n (by omega)
    have h2 := gn_rng hW (y := y) (p := n) (by omega)
    by_cases e : (mgF μ y n).2 < gn μ y n
    · rw [mgF_y e]
      simp only
      omega
    · rw [mgF_n (by omega)]
      omega
def cgF (μ : Mem) (y : Nat) : Nat → Int
  | 0 => 0
  | n + 1 => cgF μ y n + if 0 < gn μ y n then 1 else 0
theorem cgF_y {μ : Mem} {y n : Nat} (h : 0 < gn μ y n) : cgF μ y (n + 1) = cgF μ y n + 1 := by
  show _ + (if _ then _ else _) = _
  rw [if_pos h]
theorem cgF_n {μ : Mem} {y n : Nat} (h : gn μ y n ≤ 0) : cgF μ y (n + 1) = cgF μ y n := by
  show _ + (if _ then _ else _) = _
  rw [if_neg (by omega)]
  omega
theorem cgF_rng (μ : Mem) (y : Nat) : ∀ n : Nat, 0 ≤ cgF μ y n ∧ cgF μ y n ≤ (n : Int)
  | 0 => by simp [cgF]
  | n + 1 => by
    have h1 := cgF_rng μ y n
    by_cases e : 0 < gn μ y n
    · rw [cgF_y e]; omega
    · rw [cgF_n (by omega)]; omega
def GA (μ : Mem) (y : Nat) (n z : Int) : Prop := (z = -1 ∧ ∀ j, j < pcn μ → 0 < gn μ y j → cgF μ y j ≠ n) ∨ ∃ k, k < pcn μ ∧ 0 < gn μ y k ∧ cgF μ y k = n ∧ z = (k : Int)
