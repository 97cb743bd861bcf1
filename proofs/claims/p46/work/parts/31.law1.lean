/-! the law's own numbers -/
def ldq (k a b x : Int) : Int := if x = 0 then 0 else b + (if k = 0 then 0 else if k = 1 then a * x else if k = 2 then a * x * x else 100 * a / x + (if 100 * a % x = 0 then 0 else 1))
def lld (μ : Mem) (n r : Nat) : Int := sm n (fun p => tz (μ 50 (4 * p + 2)) r * μ 50 (4 * p))
def lcT (μ : Mem) (n p r : Nat) : Int := if tz (μ 50 (4 * p + 2)) r = 1 then ldq (μ 49 (4 * r)) (μ 49 (4 * r + 1)) (μ 49 (4 * r + 2)) (lld μ n r) + μ 49 (4 * r + 3) * μ 50 (4 * p + 1) else 0
def lcs (μ : Mem) (s n p : Nat) : Int := sm s (lcT μ n p)
def ltT (μ : Mem) (n r : Nat) : Int := lld μ n r * ldq (μ 49 (4 * r)) (μ 49 (4 * r + 1)) (μ 49 (4 * r + 2)) (lld μ n r)
def ltt (μ : Mem) (s n : Nat) : Int := sm s (ltT μ n)
theorem lcT_y {μ : Mem} {n p r : Nat} (h : tz (μ 50 (4 * p + 2)) r = 1) : lcT μ n p r = ldq (μ 49 (4 * r)) (μ 49 (4 * r + 1)) (μ 49 (4 * r + 2)) (lld μ n r) + μ 49 (4 * r + 3) * μ 50 (4 * p + 1) := if_pos h
theorem lcT_n {μ : Mem} {n p r : Nat} (h : ¬ tz (μ 50 (4 * p + 2)) r = 1) : lcT μ n p r = 0 := if_neg h
/-- what stands in the law's arrays is in range -/
def POK (μ : Mem) (n : Nat) : Prop := n ≤ 6 ∧ ∀ q, q < n → (0 ≤ μ 50 (4 * q) ∧ μ 50 (4 * q) ≤ 3) ∧ (0 ≤ μ 50 (4 * q + 1) ∧ μ 50 (4 * q + 1) ≤ 9) ∧ (0 ≤ μ 50 (4 * q + 2) ∧ μ 50 (4 * q + 2) ≤ 255)
def ROK (μ : Mem) (s : Nat) : Prop := s ≤ 5 ∧ ∀ r, r < s → (0 ≤ μ 49 (4 * r) ∧ μ 49 (4 * r) ≤ 3) ∧ (0 ≤ μ 49 (4 * r + 1) ∧ μ 49 (4 * r + 1) ≤ 20) ∧ (0 ≤ μ 49 (4 * r + 2) ∧ μ 49 (4 * r + 2) ≤ 100) ∧ (0 ≤ μ 49 (4 * r + 3) ∧ μ 49 (4 * r + 3) ≤ 9999)
theorem lld_rng {μ : Mem} {n : Nat} (h : POK μ n) (r : Nat) : 0 ≤ lld μ n r ∧ lld μ n r ≤ 18 := by
  have h1 := sm_rng (fun p => tz (μ 50 (4 * p + 2)) r * μ 50 (4 * p)) 3 n (fun i hi => by
    have h2 := (h.2 i hi).1
    rcases tz_01 (μ 50 (4 * i + 2)) r with e | e <;> rw [e] <;> omega)
  have h2 := h.1
  unfold lld
  omega
theorem POK.up9 {μ : Mem} {n p : Nat} {b : Int} (h : POK μ n) (hb : 0 ≤ b ∧ b ≤ 255) : POK (upM μ 50 (4 * p + 2) b) n := by
  refine ⟨h.1, fun q hq => ?_⟩
  have h2 := h.2 q hq
  rw [upM_ne (by omega), upM_ne (by omega)]
  refine ⟨h2.1, h2.2.1, ?_⟩
  by_cases e : q = p
  · subst e; rw [upM_self]; exact hb
  · rw [upM_ne (by omega)]; exact h2.2.2
theorem ROK.up9 {μ : Mem} {s c j : Nat} {b : Int} (h : ROK μ s) (hc : c ≠ 49) : ROK (upM μ c j b) s := by
  refine ⟨h.1, fun r hr => ?_⟩
  rw [upM_off (Ne.symm hc)]
  exact h.2 r hr
theorem upM_back {μ : Mem} {c j : Nat} {x : Int} : upM (upM μ c j x) c j (μ c j) = μ := by
  funext c' j'
  unfold upM
  split
  · rename_i h; rw [h.1, h.2]
  · rfl
theorem upM_id {μ : Mem} {c j : Nat} {x : Int} (h : μ c j = x) : upM μ c j x = μ := by
  funext c' j'
  unfold upM
  split
  · rename_i h2; rw [h2.1, h2.2, h]
  · rfl
