def totT (μ : Mem) (y p r : Nat) : Int := if tz (bits μ p (μ (5 + 2 * y) p)) r = 1 then μ (37 + p) 0 * dly μ r (μ (6 + 2 * y) r) else 0
theorem totT_y {μ : Mem} {y p r : Nat} (h : tz (bits μ p (μ (5 + 2 * y) p)) r = 1) : totT μ y p r = μ (37 + p) 0 * dly μ r (μ (6 + 2 * y) r) := if_pos h
theorem totT_n {μ : Mem} {y p r : Nat} (h : ¬ tz (bits μ p (μ (5 + 2 * y) p)) r = 1) : totT μ y p r = 0 := if_neg h
def totP (μ : Mem) (y p : Nat) : Int := sm (rc μ) (totT μ y p)
def tot (μ : Mem) (y : Nat) : Int := sm (pcn μ) (totP μ y)
-- the moves as bits
def mvP (μ : Mem) (y p w : Nat) : Prop := ask μ y p = 1 ∧ (w : Int) < μ (37 + p) 3 ∧ cst μ y p (w : Int) < cst μ y p (μ (5 + 2 * y) p)
noncomputable def mvT (μ : Mem) (y j : Nat) : Int := if h : ask μ y (j / 5) = 1 ∧ ((j % 5 : Nat) : Int) < μ (37 + j / 5) 3 ∧ cst μ y (j / 5) ((j % 5 : Nat) : Int) < cst μ y (j / 5) (μ (5 + 2 * y) (j / 5)) then ((2 ^ j : Nat) : Int) else 0
theorem mvT_y {μ : Mem} {y p w : Nat} (hw : w < 5) (h : ask μ y p = 1 ∧ (w : Int) < μ (37 + p) 3 ∧ cst μ y p (w : Int) < cst μ y p (μ (5 + 2 * y) p)) : mvT μ y (5 * p + w) = ((2 ^ (5 * p + w) : Nat) : Int) := by
  unfold mvT
  rw [show (5 * p + w) / 5 = p by omega, show (5 * p + w) % 5 = w by omega, dif_pos h]
theorem mvT_n {μ : Mem} {y p w : Nat} (hw : w < 5) (h : ¬ (ask μ y p = 1 ∧ (w : Int) < μ (37 + p) 3 ∧ cst μ y p (w : Int) < cst μ y p (μ (5 + 2 * y) p))) : mvT μ y (5 * p + w) = 0 := by
  unfold mvT
  rw [show (5 * p + w) / 5 = p by omega, show (5 * p + w) % 5 = w by omega, dif_neg h]
theorem p2_s (n : Nat) : ((2 ^ (n + 1) : Nat) : Int) = 2 * ((2 ^ n : Nat) : Int) := by
  rw [Nat.pow_succ]
  omega
theorem p2_p (n : Nat) : 1 ≤ ((2 ^ n : Nat) : Int) := by
  have := Nat.two_pow_pos n
  omega
theorem mvT_b (μ : Mem) (y j : Nat) : mvT μ y j = 0 ∨ mvT μ y j = ((2 ^ j : Nat) : Int) := by
  unfold mvT
  split
  · exact Or.inr rfl
  · exact Or.inl rfl
theorem mv_rng (μ : Mem) (y : Nat) : ∀ n : Nat, 0 ≤ sm n (mvT μ y) ∧ sm n (mvT μ y) < ((2 ^ n : Nat) : Int)
  | 0 => by simp [sm]
  | n + 1 => by
    have h1 := mv_rng μ y n
    have h2 := mvT_b μ y n
    have h3 := p2_s n
    rw [sm_s]
    omega
theorem mv_tail {μ : Mem} {y p : Nat} : ∀ (k w : Nat), w + k = 5 → (∀ j, w ≤ j → j < 5 → mvT μ y (5 * p + j) = 0) → sm (5 * (p + 1)) (mvT μ y) = sm (5 * p + w) (mvT μ y)
  | 0, w, hk, _ => by rw [show 5 * (p + 1) = 5 * p + w by omega]
  | k + 1, w, hk, h => by
    have h1 := mv_tail k (w + 1) (by omega) (fun j hj1 hj2 => h j (by omega) hj2)
    rw [h1, show 5 * p + (w + 1) = (5 * p + w) + 1 from rfl, sm_s, h w (Nat.le_refl _) (by omega)]
    omega
noncomputable def mvs (μ : Mem) (y : Nat) : Int := sm (5 * pcn μ) (mvT μ y)
theorem iZ_shl1 : ∀ k : Nat, k < 31 → iZ 1 <<< (iZ (k : Int) &&& 31) = iZ ((2 ^ k : Nat) : Int) := by
  intro k hk
  have h : ∀ k : Fin 31, iZ 1 <<< (iZ (k.val : Int) &&& 31) = iZ ((2 ^ k.val : Nat) : Int) := by decide +kernel
  exact h ⟨k, hk⟩
theorem iZ_or_pow {M : Int} {k : Nat} (hM : 0 ≤ M ∧ M < ((2 ^ k : Nat) : Int)) : iZ M ||| iZ ((2 ^ k : Nat) : Int) = iZ (M + ((2 ^ k : Nat) : Int)) := by
  obtain ⟨n, rfl⟩ := nat_of hM.1
  rw [iZ_nat, iZ_nat, nI_or, ← Int.natCast_add, iZ_nat]
  have h := Nat.two_pow_add_eq_or_of_lt (i := k) (b := n) (by omega) 1
  rw [Nat.mul_one] at h
  rw [Nat.or_comm, ← h, Nat.add_comm]
theorem p2_le : ∀ n : Nat, n ≤ 30 → ((2 ^ n : Nat) : Int) ≤ 1073741824 := by
  intro n hn
  have h : 2 ^ n ≤ 2 ^ 30 := Nat.pow_le_pow_right (by omega) hn
  omega
-- the bits of a small number, counted
def pop8 (b : Int) : Int := tz b 0 + tz b 1 + tz b 2 + tz b 3 + tz b 4 + tz b 5 + tz b 6 + tz b 7
theorem pop8_rng (b : Int) : 0 ≤ pop8 b ∧ pop8 b ≤ 8 := by
  unfold pop8
  have h0 := tz_01 b 0
  have h1 := tz_01 b 1
  have h2 := tz_01 b 2
  have h3 := tz_01 b 3
  have h4 := tz_01 b 4
  have h5 := tz_01 b 5
  have h6 := tz_01 b 6
  have h7 := tz_01 b 7
  omega
theorem sm_abs (f : Nat → Int) (M : Int) : ∀ n : Nat, (∀ i, i < n → -M ≤ f i ∧ f i ≤ M) → -((n : Int) * M) ≤ sm n f ∧ sm n f ≤ (n : Int) * M
  | 0, _ => by simp [sm]
  | n + 1, h => by
    have h1 := sm_abs f M n (fun i hi => h i (by omega))
    have h2 := h n (by omega)
    rw [sm_s]
    have e : ((n + 1 : Nat) : Int) * M = (n : Int) * M + M := by
      rw [Int.natCast_add, Int.add_mul]; simp
    rw [e]
    omega
def popT (μ : Mem) (y p : Nat) : Int := μ (37 + p) 0 * pop8 (bits μ p (μ (5 + 2 * y) p))
def bal (μ : Mem) (y : Nat) : Int := sm (rc μ) (μ (6 + 2 * y)) - sm (pcn μ) (popT μ y)
theorem popT_rng {μ : Mem} (h : WF μ) {y p : Nat} (hp : p < 6) : -24 ≤ popT μ y p ∧ popT μ y p ≤ 24 := by
  have h1 := h.pl hp
  have h2 := mul_rng (a := μ (37 + p) 0) (b := pop8 (bits μ p (μ (5 + 2 * y) p))) (A := 3) (B := 8) (by omega) (pop8_rng _)
  unfold popT
  omega
theorem bal_rng {μ : Mem} (h : WF μ) {y : Nat} (hB : PB μ y) (r p : Nat) (hr : r ≤ 8) (hp : p ≤ 6) : -10000 ≤ sm r (μ (6 + 2 * y)) - sm p (popT μ y) ∧ sm r (μ (6 + 2 * y)) - sm p (popT μ y) ≤ 10000 := by
  have h1 := sm_abs (μ (6 + 2 * y)) 1000 r (fun i hi => hB.2.1 i (by omega))
  have h2 := sm_abs (popT μ y) 24 p (fun i hi => popT_rng h (by omega))
  omega
def lZ (z : Int) : Int64 := Int64.ofInt z
theorem lZ_mul (a b : Int) : lZ a * lZ b = lZ (a * b) := (Int64.ofInt_mul a b).symm
theorem lZ_toInt {z : Int} (h : -9223372036854775808 ≤ z ∧ z ≤ 9223372036854775807) : (lZ z).toInt = z := Int64.toInt_ofInt_of_le (by omega) (by omega)
theorem lZ_div {x y : Int} (hx : 0 ≤ x ∧ x ≤ 9223372036854775807) (hy : 0 < y ∧ y ≤ 9223372036854775807) : lZ x / lZ y = lZ (x / y) := by
  apply Int64.toInt_inj.mp
  have hq : 0 ≤ x / y := Int.ediv_nonneg hx.1 (by omega)
  have hq2 : x / y ≤ x := Int.ediv_le_self _ hx.1
  rw [lZ_toInt (by omega), Int64.toInt_div_of_ne_left _ _ (fun q => ?_), lZ_toInt (by omega), lZ_toInt (by omega), Int.tdiv_eq_ediv_of_nonneg hx.1]
  have : (lZ x).toInt = Int64.minValue.toInt := congrArg _ q
  rw [lZ_toInt (by omega)] at this
  have e : Int64.minValue.toInt = -9223372036854775808 := rfl
  omega
theorem lZ_rem {x y : Int} (hx : 0 ≤ x ∧ x ≤ 9223372036854775807) (hy : 0 < y ∧ y ≤ 9223372036854775807) : lZ x - lZ x / lZ y * lZ y = lZ (x % y) := by
  rw [lZ_div hx hy]
  unfold lZ
  rw [← Int64.ofInt_mul, ← Int64.ofInt_sub, Int.emod_def, Int.mul_comm]
theorem lZ_ne0 {z : Int} (h : -9223372036854775808 ≤ z ∧ z ≤ 9223372036854775807) (h0 : z ≠ 0) : ¬ lZ z = 0 := fun q => h0 (by
  have h2 := congrArg Int64.toInt q
  rw [lZ_toInt h] at h2
  exact h2)
theorem iZ_long {z : Int} (h : -2147483648 ≤ z ∧ z ≤ 2147483647) : (iZ z).toInt64 = lZ z := by
  apply Int64.toInt_inj.mp
  rw [Int32.toInt_toInt64, iZ_toInt h, lZ_toInt (by omega)]
theorem lZ_int {z : Int} : (lZ z).toInt32 = iZ z := by
  unfold lZ iZ
  exact Int64.toInt32_ofInt
section VL
variable {X : VC} {cc : ByteArray} {nL : Nat} {own : String} {Ts : List Cond} {rm : Room} {pc cells slots : Nat} {lv lv' : List (Nat × Value)} {st : List Value} {μ μ' : Mem}
theorem v_i2l {a : Int} (ha : -2147483648 ≤ a ∧ a ≤ 2147483647) (K : vK X cc nL own Ts rm) (hd : decode cc pc = .ok (.i2l, 1)) (kk : vW X nL (pc + 1) cells slots lv (.long (lZ a) :: st) μ) : vW X nL pc cells slots lv (.int (iZ a) :: st) μ :=
  fun H locs ls hP hS h => lv_i2l K.1.1 K.1.2.1 hd (iZ_long ha) (kk H locs ls hP hS h)
theorem v_l2i {a : Int} (K : vK X cc nL own Ts rm) (hd : decode cc pc = .ok (.l2i, 1)) (kk : vW X nL (pc + 1) cells slots lv (.int (iZ a) :: st) μ) : vW X nL pc cells slots lv (.long (lZ a) :: st) μ :=
  fun H locs ls hP hS h => lv_l2i K.1.1 K.1.2.1 hd lZ_int (kk H locs ls hP hS h)
theorem v_lmul {a b : Int} (K : vK X cc nL own Ts rm) (hd : decode cc pc = .ok (.lmul, 1)) (kk : vW X nL (pc + 1) cells slots lv (.long (lZ (a * b)) :: st) μ) : vW X nL pc cells slots lv (.long (lZ b) :: .long (lZ a) :: st) μ :=
  fun H locs ls hP hS h => lv_lmul K.1.1 K.1.2.1 hd (by rw [lZ_mul]; exact kk H locs ls hP hS h)
theorem v_lrem {a b : Int} (hx : 0 ≤ a ∧ a ≤ 9223372036854775807) (hy : 0 < b ∧ b ≤ 9223372036854775807) (K : vK X cc nL own Ts rm) (hd : decode cc pc = .ok (.lrem, 1)) (kk : vW X nL (pc + 1) cells slots lv (.long (lZ (a % b)) :: st) μ) : vW X nL pc cells slots lv (.long (lZ b) :: .long (lZ a) :: st) μ :=
  fun H locs ls hP hS h => lv_lrem K.1.1 K.1.2.1 hd (lZ_ne0 (by omega) (by omega)) (by rw [lZ_rem hx hy]; exact kk H locs ls hP hS h)
theorem v_ldc2 {v : Int64} {n : Int} {index : Nat} (K : vK X cc nL own Ts rm) (hc : Cond.constantLong own index v ∈ Ts) (hd : decode cc pc = .ok (.ldc2_w index, 3)) (hn : v = lZ n) (k : vW X nL (pc + 3) cells slots lv (.long (lZ n) :: st) μ) : vW X nL pc cells slots lv st μ :=
  fun H locs ls hP hS hl => lv_ldc2 (v := lZ n) K.1.1 K.1.2.1 K.1.2.2.2.1 (by rw [← hn]; exact K.1.2.2.2.2.1 _ hc) hd (k H locs ls hP hS hl)
-- any ints
theorem v_riadd {a b : Int32} (K : vK X cc nL own Ts rm) (hd : decode cc pc = .ok (.iadd, 1)) (kk : vW X nL (pc + 1) cells slots lv (.int (a + b) :: st) μ) : vW X nL pc cells slots lv (.int b :: .int a :: st) μ :=
  fun H locs ls hP hS h => lv_iadd K.1.1 K.1.2.1 hd (kk H locs ls hP hS h)
theorem v_risub {a b : Int32} (K : vK X cc nL own Ts rm) (hd : decode cc pc = .ok (.isub, 1)) (kk : vW X nL (pc + 1) cells slots lv (.int (a - b) :: st) μ) : vW X nL pc cells slots lv (.int b :: .int a :: st) μ :=
  fun H locs ls hP hS h => lv_isub K.1.1 K.1.2.1 hd (kk H locs ls hP hS h)
theorem v_riand {a b : Int32} (K : vK X cc nL own Ts rm) (hd : decode cc pc = .ok (.iand, 1)) (kk : vW X nL (pc + 1) cells slots lv (.int (a &&& b) :: st) μ) : vW X nL pc cells slots lv (.int b :: .int a :: st) μ :=
  fun H locs ls hP hS h => lv_iand K.1.1 K.1.2.1 hd (kk H locs ls hP hS h)
theorem v_rimul {a b : Int32} (K : vK X cc nL own Ts rm) (hd : decode cc pc = .ok (.imul, 1)) (kk : vW X nL (pc + 1) cells slots lv (.int (a * b) :: st) μ) : vW X nL pc cells slots lv (.int b :: .int a :: st) μ :=
  fun H locs ls hP hS h => lv_imul K.1.1 K.1.2.1 hd (kk H locs ls hP hS h)
theorem v_rixor {a b : Int32} (K : vK X cc nL own Ts rm) (hd : decode cc pc = .ok (.ixor, 1)) (kk : vW X nL (pc + 1) cells slots lv (.int (a ^^^ b) :: st) μ) : vW X nL pc cells slots lv (.int b :: .int a :: st) μ :=
  fun H locs ls hP hS h => lv_ixor K.1.1 K.1.2.1 hd (kk H locs ls hP hS h)
theorem v_riushr {a b : Int32} (K : vK X cc nL own Ts rm) (hd : decode cc pc = .ok (.iushr, 1)) (kk : vW X nL (pc + 1) cells slots lv (.int (a.toUInt32 >>> (b.toUInt32 &&& Int32.toUInt32 31)).toInt32 :: st) μ) : vW X nL pc cells slots lv (.int b :: .int a :: st) μ :=
  fun H locs ls hP hS h => lv_iushr K.1.1 K.1.2.1 hd rfl (kk H locs ls hP hS h)
end VL
def us (a b : Int32) : Int32 := (a.toUInt32 >>> (b.toUInt32 &&& Int32.toUInt32 31)).toInt32
def bc1 (x : Int32) : Int32 := x - (us x (iZ 1) &&& iZ 1431655765)
def bc2 (x : Int32) : Int32 := (x &&& iZ 858993459) + (us x (iZ 2) &&& iZ 858993459)
def bc3 (x : Int32) : Int32 := (x + us x (iZ 4)) &&& iZ 252645135
def bc4 (x : Int32) : Int32 := x + us x (iZ 8)
def bc5 (x : Int32) : Int32 := (x + us x (iZ 16))
theorem bc_ok {b : Int} (h : 0 ≤ b ∧ b ≤ 255) : bc5 (bc4 (bc3 (bc2 (bc1 (iZ b))))) &&& iZ 63 = iZ (pop8 b) := by
  obtain ⟨n, rfl⟩ := nat_of h.1
  have h2 : ∀ k : Fin 256, bc5 (bc4 (bc3 (bc2 (bc1 (iZ ((k.val : Nat) : Int)))))) &&& iZ 63 = iZ (pop8 ((k.val : Nat) : Int)) := by decide +kernel
  exact h2 ⟨n, by omega⟩
-- the loads out of the ways chosen
def tw (μ : Mem) (y r p : Nat) : Int := if tz (bits μ p (μ (5 + 2 * y) p)) r = 1 then μ (37 + p) 0 else 0
def BL (μ : Mem) (y : Nat) : Prop := ∀ r, r < 8 → μ (6 + 2 * y) r = if r < rc μ then sm (pcn μ) (tw μ y r) else 0
def PL (μ : Mem) (y : Nat) : Prop := (∀ p, p < 6 → -1 ≤ μ (5 + 2 * y) p ∧ μ (5 + 2 * y) p ≤ 4) ∧ BL μ y ∧ μ (2 + y) 2 = 0
theorem tw_rng {μ : Mem} (h : WF μ) {y r p : Nat} (hp : p < 6) : 0 ≤ tw μ y r p ∧ tw μ y r p ≤ 3 := by
  have h1 := h.pl hp
  unfold tw
  split <;> omega
theorem BL_rng {μ : Mem} (h : WF μ) {y : Nat} (hB : BL μ y) {r : Nat} (hr : r < 8) : 0 ≤ μ (6 + 2 * y) r ∧ μ (6 + 2 * y) r ≤ 18 := by
  rw [hB r hr]
  have h6 := h.pc6
  have h1 := sm_rng (tw μ y r) 3 (pcn μ) (fun i hi => tw_rng h (by omega))
  split <;> omega
theorem PL.PB9 {μ : Mem} (h : WF μ) {y : Nat} (hP : PL μ y) : PB μ y := ⟨hP.1, fun r hr => by have := BL_rng h hP.2.1 hr; omega, hP.2.2⟩
theorem sm_upd {f g : Nat → Int} {p : Nat} : ∀ n : Nat, (∀ i, i ≠ p → g i = f i) → sm n g = sm n f + if p < n then g p - f p else 0
  | 0, _ => by simp [sm]
  | n + 1, h => by
    rw [sm_s, sm_s, sm_upd n h]
    by_cases e : p = n
    · subst e
      rw [if_neg (by omega), if_pos (by omega)]
      omega
    · rw [h n (by omega)]
      by_cases e2 : p < n
      · rw [if_pos e2, if_pos (by omega)]; omega
      · rw [if_neg e2, if_neg (by omega)]; omega
/-- what take leaves as it was -/
theorem TK.rc9 {μ ν : Mem} {y p : Nat} {w : Int} (h : TK μ ν y p w) : rc ν = rc μ := by
  unfold rc
  rw [h.1 1 (by omega) (by omega)]
theorem TK.pcn9 {μ ν : Mem} {y p : Nat} {w : Int} (h : TK μ ν y p w) : pcn ν = pcn μ := by
  unfold pcn
  rw [h.1 1 (by omega) (by omega)]
theorem TK.bits9 {μ ν : Mem} {y p : Nat} {w : Int} (h : TK μ ν y p w) (hy : y < 2) {q : Nat} (hq : q < 6) (v : Int) : bits ν q v = bits μ q v := by
  unfold bits
  rw [h.1 (37 + q) (by omega) (by omega), h.1 (43 + q) (by omega) (by omega)]
theorem TK.WF9 {μ ν : Mem} {y p : Nat} {w : Int} (h : TK μ ν y p w) (hy : y < 2) (hW : WF μ) : WF ν := by
  obtain ⟨h1, h2, h3, h4, h5, h6⟩ := hW
  have o := h.1
  refine ⟨by rw [o 1 (by omega) (by omega)]; exact h1, by rw [o 1 (by omega) (by omega)]; exact h2, fun q hq => ?_, fun q hq k hk => ?_, fun r hr => ?_, fun r hr x hx => ?_⟩
  · rw [o (37 + q) (by omega) (by omega)]; exact h3 q hq
  · rw [o (43 + q) (by omega) (by omega)]; exact h4 q hq k hk
  · rw [o (21 + r) (by omega) (by omega)]; exact h5 r hr
  · rw [o (29 + r) (by omega) (by omega)]; exact h6 r hr x hx
theorem TK.PL9 {μ ν : Mem} {y p : Nat} {w : Int} (h : TK μ ν y p w) (hy : y < 2) (hW : WF μ) (hp : p < pcn μ) (hw : -1 ≤ w ∧ w ≤ 4) (hP : PL μ y) : PL ν y := by
  have h6 := hW.pc6
  obtain ⟨h1, h2, h3⟩ := hP
  refine ⟨fun q hq => ?_, fun r hr => ?_, by rw [h.1 (2 + y) (by omega) (by omega)]; exact h3⟩
  · by_cases e : q = p
    · subst e; rw [h.2.2.1]; exact hw
    · rw [h.2.1 q e]; exact h1 q hq
  · rw [h.2.2.2 r, h2 r hr, h.rc9]
    by_cases e : r < rc μ
    · rw [if_pos e, if_pos e, if_pos e, h.pcn9]
      have e2 := sm_upd (f := tw μ y r) (g := tw ν y r) (p := p) (pcn μ) (fun i hi => by
        by_cases hi6 : i < 6
        · unfold tw; rw [h.bits9 hy hi6, h.2.1 i hi, h.1 (37 + i) (by omega) (by omega)]
        · unfold tw bits; rw [h.2.1 i hi, h.1 (37 + i) (by omega) (by omega), h.1 (43 + i) (by omega) (by omega)])
      rw [e2, if_pos hp]
      have hp6 : p < 6 := by omega
      unfold tw tkd
      rw [h.bits9 hy hp6, h.2.2.1, h.1 (37 + p) (by omega) (by omega)]
    · rw [if_neg e, if_neg e, if_neg e]
      omega
theorem TK_det {μ ν ν' : Mem} {y p : Nat} {w : Int} (h : TK μ ν y p w) (h' : TK μ ν' y p w) : ν = ν' := by
  funext c j
  by_cases e1 : c = 5 + 2 * y
  · subst e1
    by_cases e : j = p
    · subst e; rw [h.2.2.1, h'.2.2.1]
    · rw [h.2.1 j e, h'.2.1 j e]
  · by_cases e2 : c = 6 + 2 * y
    · subst e2; rw [h.2.2.2 j, h'.2.2.2 j]
    · rw [h.1 c e1 e2, h'.1 c e1 e2]
theorem TK_ex (μ : Mem) (y p : Nat) (w : Int) : ∃ ν, TK μ ν y p w := by
  refine ⟨fun c j => if c = 5 + 2 * y then (if j = p then w else μ c j) else if c = 6 + 2 * y then μ c j + (if j < rc μ then tkd μ y p w j else 0) else μ c j, fun c h1 h2 => ?_, fun j hj => ?_, ?_, fun j => ?_⟩
  · funext j
    simp [h1, h2]
  · simp [hj]
  · simp
  · have : ¬ 6 + 2 * y = 5 + 2 * y := by omega
    simp [this]
