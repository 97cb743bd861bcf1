/-! what the calls answer, as numbers of the memory -/
def tz (b : Int) (r : Nat) : Int := ((b.toNat / 2 ^ r % 2 : Nat) : Int)
theorem tz_01 (b : Int) (r : Nat) : tz b r = 0 ∨ tz b r = 1 := by
  unfold tz
  generalize b.toNat / 2 ^ r = n
  omega
theorem tz_0 (r : Nat) : tz 0 r = 0 := by
  unfold tz
  simp
def sm : Nat → (Nat → Int) → Int
  | 0, _ => 0
  | n + 1, f => sm n f + f n
theorem sm_0 (f : Nat → Int) : sm 0 f = 0 := rfl
theorem sm_s (n : Nat) (f : Nat → Int) : sm (n + 1) f = sm n f + f n := rfl
theorem sm_rng (f : Nat → Int) (M : Int) : ∀ n : Nat, (∀ i, i < n → 0 ≤ f i ∧ f i ≤ M) → 0 ≤ sm n f ∧ sm n f ≤ (n : Int) * M
  | 0, _ => by simp [sm]
  | n + 1, h => by
    have h1 := sm_rng f M n (fun i hi => h i (by omega))
    have h2 := h n (by omega)
    rw [sm_s]
    have e : ((n + 1 : Nat) : Int) * M = (n : Int) * M + M := by
      rw [Int.natCast_add, Int.add_mul]; simp
    rw [e]
    omega
theorem sm_congr {f g : Nat → Int} : ∀ n : Nat, (∀ i, i < n → f i = g i) → sm n f = sm n g
  | 0, _ => rfl
  | n + 1, h => by rw [sm_s, sm_s, sm_congr n (fun i hi => h i (by omega)), h n (by omega)]
/-- a player's way as bits -/
def bits (μ : Mem) (p : Nat) (w : Int) : Int := if w < 0 ∨ μ (37 + p) 3 ≤ w then 0 else μ (43 + p) w.toNat
def dly (μ : Mem) (r : Nat) (x : Int) : Int := if x < 0 ∨ 18 < x then 0 else μ (29 + r) x.toNat
def rc (μ : Mem) : Nat := (μ 1 2).toNat
def pcn (μ : Mem) : Nat := (μ 1 3).toNat
def cstT (μ : Mem) (y p : Nat) (w : Int) (r : Nat) : Int := if tz (bits μ p w) r = 1 then dly μ r (μ (6 + 2 * y) r + (if tz (bits μ p (μ (5 + 2 * y) p)) r = 1 then 0 else μ (37 + p) 0)) + μ (21 + r) 5 * μ (37 + p) 1 else 0
def cst (μ : Mem) (y p : Nat) (w : Int) : Int := sm (rc μ) (cstT μ y p w)
/-- the board is as it must be -/
def WF (μ : Mem) : Prop := (0 ≤ μ 1 2 ∧ μ 1 2 ≤ 8) ∧ (0 ≤ μ 1 3 ∧ μ 1 3 ≤ 6) ∧ (∀ p, p < 6 → 1 ≤ μ (37 + p) 0 ∧ μ (37 + p) 0 ≤ 3 ∧ 0 ≤ μ (37 + p) 1 ∧ μ (37 + p) 1 ≤ 9 ∧ 0 ≤ μ (37 + p) 2 ∧ μ (37 + p) 2 ≤ 1 ∧ 0 ≤ μ (37 + p) 3 ∧ μ (37 + p) 3 ≤ 5) ∧
  (∀ p, p < 6 → ∀ w, w < 5 → 0 ≤ μ (43 + p) w ∧ μ (43 + p) w ≤ 255) ∧ (∀ r, r < 8 → 0 ≤ μ (21 + r) 5 ∧ μ (21 + r) 5 ≤ 9999) ∧ (∀ r, r < 8 → ∀ x, x < 19 → 0 ≤ μ (29 + r) x ∧ μ (29 + r) x ≤ 10000)
/-- a play is as it must be, nothing closed -/
def PB (μ : Mem) (y : Nat) : Prop := (∀ p, p < 6 → -1 ≤ μ (5 + 2 * y) p ∧ μ (5 + 2 * y) p ≤ 4) ∧ (∀ r, r < 8 → -1000 ≤ μ (6 + 2 * y) r ∧ μ (6 + 2 * y) r ≤ 1000) ∧ μ (2 + y) 2 = 0
theorem WF.rc8 {μ : Mem} (h : WF μ) : rc μ ≤ 8 ∧ μ 1 2 = (rc μ : Int) := by
  have := h.1
  unfold rc
  omega
theorem WF.pc6 {μ : Mem} (h : WF μ) : pcn μ ≤ 6 ∧ μ 1 3 = (pcn μ : Int) := by
  have := h.2.1
  unfold pcn
  omega
theorem WF.pl {μ : Mem} (h : WF μ) {p : Nat} (hp : p < 6) : 1 ≤ μ (37 + p) 0 ∧ μ (37 + p) 0 ≤ 3 ∧ 0 ≤ μ (37 + p) 1 ∧ μ (37 + p) 1 ≤ 9 ∧ 0 ≤ μ (37 + p) 2 ∧ μ (37 + p) 2 ≤ 1 ∧ 0 ≤ μ (37 + p) 3 ∧ μ (37 + p) 3 ≤ 5 := h.2.2.1 p hp
theorem WF.wy {μ : Mem} (h : WF μ) {p w : Nat} (hp : p < 6) (hw : w < 5) : 0 ≤ μ (43 + p) w ∧ μ (43 + p) w ≤ 255 := h.2.2.2.1 p hp w hw
theorem WF.tl {μ : Mem} (h : WF μ) {r : Nat} (hr : r < 8) : 0 ≤ μ (21 + r) 5 ∧ μ (21 + r) 5 ≤ 9999 := h.2.2.2.2.1 r hr
theorem WF.dl {μ : Mem} (h : WF μ) {r x : Nat} (hr : r < 8) (hx : x < 19) : 0 ≤ μ (29 + r) x ∧ μ (29 + r) x ≤ 10000 := h.2.2.2.2.2 r hr x hx
theorem bits_rng {μ : Mem} (h : WF μ) {p : Nat} (hp : p < 6) (w : Int) : 0 ≤ bits μ p w ∧ bits μ p w ≤ 255 := by
  unfold bits
  have h1 := h.pl hp
  split
  · omega
  · exact h.wy hp (by omega)
theorem dly_rng {μ : Mem} (h : WF μ) {r : Nat} (hr : r < 8) (x : Int) : 0 ≤ dly μ r x ∧ dly μ r x ≤ 10000 := by
  unfold dly
  split
  · omega
  · exact h.dl hr (by omega)
theorem mul_rng {a b A B : Int} (ha : 0 ≤ a ∧ a ≤ A) (hb : 0 ≤ b ∧ b ≤ B) : 0 ≤ a * b ∧ a * b ≤ A * B :=
  ⟨Int.mul_nonneg ha.1 hb.1, Int.mul_le_mul ha.2 hb.2 hb.1 (by omega)⟩
theorem cstT_rng {μ : Mem} (h : WF μ) {y p r : Nat} (hp : p < 6) (hr : r < 8) (w : Int) : 0 ≤ cstT μ y p w r ∧ cstT μ y p w r ≤ 100000 := by
  unfold cstT
  split
  · have h1 := h.tl hr
    have h2 := h.pl hp
    have h3 := mul_rng (a := μ (21 + r) 5) (b := μ (37 + p) 1) (A := 9999) (B := 9) ⟨h1.1, h1.2⟩ ⟨h2.2.2.1, h2.2.2.2.1⟩
    have h4 := dly_rng h hr (μ (6 + 2 * y) r + (if tz (bits μ p (μ (5 + 2 * y) p)) r = 1 then 0 else μ (37 + p) 0))
    omega
  · omega
theorem cst_rng {μ : Mem} (h : WF μ) {y p : Nat} (hp : p < 6) (w : Int) : 0 ≤ cst μ y p w ∧ cst μ y p w ≤ 800000 := by
  have h1 := h.rc8
  have h2 := sm_rng (cstT μ y p w) 100000 (rc μ) (fun i hi => cstT_rng h hp (by omega) w)
  unfold cst
  omega
theorem smc_rng {μ : Mem} (h : WF μ) {y p n : Nat} (hp : p < 6) (hn : n ≤ 8) (w : Int) : 0 ≤ sm n (cstT μ y p w) ∧ sm n (cstT μ y p w) ≤ 800000 := by
  have h2 := sm_rng (cstT μ y p w) 100000 n (fun i hi => cstT_rng h hp (by omega) w)
  omega
-- bits of ints
theorem s_l9 : ∀ n, n < 32 → ((nI n &&& 31).toBitVec.smod 32).toNat = n := by decide +kernel
theorem nat_of {b : Int} (h : 0 ≤ b) : ∃ n : Nat, b = (n : Int) := Int.eq_ofNat_of_zero_le h
theorem iZ_shr {b : Int} {r : Nat} (hb : 0 ≤ b ∧ b ≤ 2147483647) (hr : r < 32) : iZ b >>> (iZ (r : Int) &&& 31) = iZ ((b.toNat / 2 ^ r : Nat) : Int) := by
  obtain ⟨n, rfl⟩ := nat_of hb.1
  rw [iZ_nat, iZ_nat, pk_shrN (by omega) _ r (s_l9 r hr), iZ_nat, Int.toNat_natCast]
theorem nI_and (a b : Nat) : nI a &&& nI b = nI (a &&& b) := by
  apply Int32.toBitVec_inj.mp
  rw [Int32.toBitVec_and]
  show BitVec.ofNat 32 a &&& BitVec.ofNat 32 b = BitVec.ofNat 32 (a &&& b)
  apply BitVec.eq_of_getLsbD_eq
  intro i hi
  simp [BitVec.getLsbD_ofNat, Nat.testBit_and, hi]
theorem nI_xor (a b : Nat) : nI a ^^^ nI b = nI (a ^^^ b) := by
  apply Int32.toBitVec_inj.mp
  rw [Int32.toBitVec_xor]
  show BitVec.ofNat 32 a ^^^ BitVec.ofNat 32 b = BitVec.ofNat 32 (a ^^^ b)
  apply BitVec.eq_of_getLsbD_eq
  intro i hi
  simp [BitVec.getLsbD_ofNat, Nat.testBit_xor, hi]
theorem nI_or (a b : Nat) : nI a ||| nI b = nI (a ||| b) := by
  apply Int32.toBitVec_inj.mp
  rw [Int32.toBitVec_or]
  show BitVec.ofNat 32 a ||| BitVec.ofNat 32 b = BitVec.ofNat 32 (a ||| b)
  apply BitVec.eq_of_getLsbD_eq
  intro i hi
  simp [BitVec.getLsbD_ofNat, Nat.testBit_or, hi]
theorem iZ_and1 {n : Nat} : iZ (n : Int) &&& iZ 1 = iZ ((n % 2 : Nat) : Int) := by
  rw [iZ_nat, show iZ 1 = nI 1 from rfl, nI_and, iZ_nat, Nat.and_one_is_mod]
theorem iZ_and0 (x : Int32) : x &&& iZ 0 = iZ 0 := by
  rw [iZ_0]
  apply Int32.toBitVec_inj.mp
  rw [Int32.toBitVec_and]
  simp
theorem iZ_xor {a b : Int} (ha : 0 ≤ a ∧ a ≤ 2147483647) (hb : 0 ≤ b ∧ b ≤ 2147483647) : iZ a ^^^ iZ b = iZ ((a.toNat ^^^ b.toNat : Nat) : Int) ∧ a.toNat ^^^ b.toNat ≤ 2147483647 := by
  obtain ⟨n, rfl⟩ := nat_of ha.1
  obtain ⟨k, rfl⟩ := nat_of hb.1
  refine ⟨by rw [iZ_nat, iZ_nat, nI_xor, iZ_nat, Int.toNat_natCast, Int.toNat_natCast], ?_⟩
  have h := Nat.xor_lt_two_pow (n := 31) (x := ((n : Int)).toNat) (y := ((k : Int)).toNat) (by omega) (by omega)
  omega
theorem nar_z {z : Int} (h : z = 0 ∨ z = 1) : narrow .boolean (.int (iZ z)) = .int (iZ z) ∧ fits .boolean (.int (iZ z)) = true := by
  rcases h with rfl | rfl <;> exact ⟨rfl, rfl⟩
/-- a resource's delay by a load of 1 at least, without b -/
def grw (k a x : Int) : Int := if k = 108 then a * x else if k = 113 then a * x * x else if k = 115 then (100 * a + x - 1) / x else 0
/-- the delays filled from 1 to n -/
def FD (μ ν : Mem) (r n : Nat) : Prop := (∀ c, c ≠ 29 + r → ν c = μ c) ∧ (∀ j, 1 ≤ j → j ≤ n → ν (29 + r) j = μ (21 + r) 1 + grw (μ (21 + r) 2) (μ (21 + r) 0) (j : Int)) ∧ ∀ j, (j = 0 ∨ n < j) → ν (29 + r) j = μ (29 + r) j
theorem FD_0 {μ : Mem} {r : Nat} : FD μ μ r (1 - 1) := ⟨fun _ _ => rfl, fun j h1 h2 => by omega, fun _ _ => rfl⟩
theorem FD_s {μ ν : Mem} {r x : Nat} {z : Int} (h : FD μ ν r (x - 1)) (hx : 1 ≤ x) (hr : r < 8) (hz : z = μ (21 + r) 1 + grw (μ (21 + r) 2) (μ (21 + r) 0) (x : Int)) : FD μ (upM ν (29 + r) x z) r (x + 1 - 1) := by
  obtain ⟨h1, h2, h3⟩ := h
  refine ⟨fun c hc => by rw [upM_off hc]; exact h1 c hc, fun j hj1 hj2 => ?_, fun j hj => ?_⟩
  · by_cases e : j = x
    · subst e; rw [upM_self]; exact hz
    · rw [upM_ne (Or.inr e)]; exact h2 j hj1 (by omega)
  · rw [upM_ne (Or.inr (by omega))]; exact h3 j (by omega)
def mrg (μ : Mem) (r : Nat) (x : Int) : Int := if x < 1 then 0 else max 0 ((x - 1) * (dly μ r x - dly μ r (x - 1)))
theorem mrg_rng {x a b : Int} (hx : 0 ≤ x ∧ x ≤ 18) (ha : 0 ≤ a ∧ a ≤ 10000) (hb : 0 ≤ b ∧ b ≤ 10000) : -2147483648 ≤ (x - 1) * (a - b) ∧ (x - 1) * (a - b) ≤ 2147483647 := by
  rcases (show x = 0 ∨ 1 ≤ x by omega) with h | h
  · subst h; omega
  · obtain ⟨n, e⟩ := nat_of (show 0 ≤ x - 1 by omega)
    rw [e]
    have hn : n ≤ 17 := by omega
    clear e
    have := mul_rng (a := (n : Int)) (b := a - b + 10000) (A := 17) (B := 20000) (by omega) (by omega)
    rw [Int.mul_add] at this
    omega
