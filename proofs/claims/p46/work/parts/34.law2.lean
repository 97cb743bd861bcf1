/-! the law's arrays and the class's own numbers -/
def RL1 (μ : Mem) (r : Nat) : Prop := (0 ≤ μ 49 (4 * r) ∧ μ 49 (4 * r) ≤ 3) ∧ (0 ≤ μ 49 (4 * r + 1) ∧ μ 49 (4 * r + 1) ≤ 20) ∧ (0 ≤ μ 49 (4 * r + 2) ∧ μ 49 (4 * r + 2) ≤ 100) ∧ μ 49 (4 * r + 3) = μ (21 + r) 5 ∧ ∀ x : Nat, x ≤ 18 → μ (29 + r) x = ldq (μ 49 (4 * r)) (μ 49 (4 * r + 1)) (μ 49 (4 * r + 2)) (x : Int)
def PW1 (μ : Mem) (p : Nat) : Prop := μ (37 + p) 3 = 3 ∧ ∀ w, w < 3 → μ 51 (3 * p + w) = μ (43 + p) w ∧ 1 ≤ μ (43 + p) w ∧ μ (43 + p) w < ((2 ^ rc μ : Nat) : Int)
def PL1 (μ : Mem) (p : Nat) : Prop := μ 50 (4 * p) = μ (37 + p) 0 ∧ μ 50 (4 * p + 1) = μ (37 + p) 1 ∧ μ 50 (4 * p + 2) = bits μ p (μ (5 + 2 * 0) p) ∧ μ 50 (4 * p + 3) = μ (37 + p) 2 ∧ (0 ≤ μ (5 + 2 * 0) p ∧ μ (5 + 2 * 0) p ≤ 2) ∧ PW1 μ p
def REL (μ : Mem) (s n : Nat) : Prop := rc μ = s ∧ pcn μ = n ∧ (2 ≤ s ∧ s ≤ 5) ∧ (1 ≤ n ∧ n ≤ 5) ∧ (∀ r, r < s → RL1 μ r) ∧ ∀ p, p < n → PL1 μ p
def LST (μ : Mem) (s n : Nat) (z : Int) : Prop := WF μ ∧ PL μ 0 ∧ PL μ 1 ∧ REL μ s n ∧ μ 0 6 = z ∧ 1 ≤ z ∧ z ≤ 2147483646
theorem PW1.bits9 {μ : Mem} {p w : Nat} (h : PW1 μ p) (hw : w < 3) : bits μ p (w : Int) = μ (43 + p) w ∧ bits μ p (w : Int) = μ 51 (3 * p + w) := by
  have e : bits μ p (w : Int) = μ (43 + p) w := by
    unfold bits
    rw [if_neg (by have := h.1; omega), Int.toNat_natCast]
  exact ⟨e, by rw [e, (h.2 w hw).1]⟩
theorem REL.POK9 {μ : Mem} {s n : Nat} (hW : WF μ) (h : REL μ s n) : POK μ n := by
  refine ⟨by have := h.2.2.2.1; omega, fun q hq => ?_⟩
  have h1 := h.2.2.2.2.2 q hq
  have h2 := hW.pl (p := q) (by have := h.2.2.2.1; omega)
  have h3 := bits_rng hW (p := q) (by have := h.2.2.2.1; omega) (μ (5 + 2 * 0) q)
  rw [h1.1, h1.2.1, h1.2.2.1]
  omega
theorem REL.ROK9 {μ : Mem} {s n : Nat} (hW : WF μ) (h : REL μ s n) : ROK μ s := by
  refine ⟨by have := h.2.2.1; omega, fun r hr => ?_⟩
  have h1 := h.2.2.2.2.1 r hr
  have h2 := hW.tl (r := r) (by have := h.2.2.1; omega)
  obtain ⟨g1, g2, g3, g4, -⟩ := h1
  rw [g4]
  exact ⟨g1, g2, g3, h2⟩
theorem lld_ld {μ : Mem} {s n r : Nat} (hW : WF μ) (hL : PL μ 0) (h : REL μ s n) (hr : r < s) : lld μ n r = μ (6 + 2 * 0) r := by
  have h5 := h.2.2.1
  rw [hL.2.1 r (by omega), if_pos (by rw [h.1]; exact hr), h.2.1]
  unfold lld
  refine sm_congr n (fun i hi => ?_)
  have h1 := h.2.2.2.2.2 i hi
  unfold tw
  rw [h1.1, h1.2.2.1]
  rcases tz_01 (bits μ i (μ (5 + 2 * 0) i)) r with e | e
  · rw [if_neg (by omega), e]; omega
  · rw [if_pos e, e]; omega
theorem ldq_dly {μ : Mem} {r : Nat} {x : Int} (h : RL1 μ r) (hx : 0 ≤ x ∧ x ≤ 18) : ldq (μ 49 (4 * r)) (μ 49 (4 * r + 1)) (μ 49 (4 * r + 2)) x = dly μ r x := by
  have h1 := h.2.2.2.2 x.toNat (by omega)
  unfold dly
  rw [if_neg (by omega), h1]
  congr 1
  omega
theorem lcs_own {μ : Mem} {s n p : Nat} (hW : WF μ) (hL : PL μ 0) (h : REL μ s n) (hp : p < n) : lcs μ s n p = cst μ 0 p (μ (5 + 2 * 0) p) := by
  unfold lcs cst
  rw [h.1]
  refine sm_congr s (fun r hr => ?_)
  have h1 := h.2.2.2.2.1 r hr
  have h2 := h.2.2.2.2.2 p hp
  have h3 := lld_rng (h.POK9 hW) r
  unfold lcT cstT
  rw [h2.2.2.1]
  by_cases e : tz (bits μ p (μ (5 + 2 * 0) p)) r = 1
  · rw [if_pos e, if_pos e, if_pos e, ldq_dly h1 h3, lld_ld hW hL h hr, h1.2.2.2.1, h2.2.1, Int.add_zero]
  · rw [if_neg e, if_neg e]
theorem lcs_by {μ : Mem} {s n p w : Nat} (hW : WF μ) (hL : PL μ 0) (h : REL μ s n) (hp : p < n) (hw : w < 3) : lcs (upM μ 50 (4 * p + 2) (μ 51 (3 * p + w))) s n p = cst μ 0 p (w : Int) := by
  have h2 := h.2.2.2.2.2 p hp
  have hb := h2.2.2.2.2.2.bits9 hw
  have h5 := h.2.2.2.1
  have hbr := bits_rng hW (p := p) (by omega) (w : Int)
  have hPO := (h.POK9 hW).up9 (p := p) (b := μ 51 (3 * p + w)) (by rw [← hb.2]; exact hbr)
  unfold lcs cst
  rw [h.1]
  refine sm_congr s (fun r hr => ?_)
  have h1 := h.2.2.2.2.1 r hr
  have h3 := lld_rng hPO r
  unfold lcT cstT
  rw [upM_self, upM_off (show 49 ≠ 50 by omega), upM_ne (by omega), ← hb.2]
  by_cases e : tz (bits μ p (w : Int)) r = 1
  · rw [if_pos e, if_pos e]
    have hl := lld_ld hW hL h hr
    have hs := sm_one (f := fun q => tz (μ 50 (4 * q + 2)) r * μ 50 (4 * q)) (g := fun q => tz (upM μ 50 (4 * p + 2) (μ 51 (3 * p + w)) 50 (4 * q + 2)) r * upM μ 50 (4 * p + 2) (μ 51 (3 * p + w)) 50 (4 * q)) (n := n) (p := p) hp (fun i hi => by
      try dsimp only
      rw [upM_ne (by omega), upM_ne (by omega)])
    have e1 : lld (upM μ 50 (4 * p + 2) (μ 51 (3 * p + w))) n r = μ (6 + 2 * 0) r + (if tz (bits μ p (μ (5 + 2 * 0) p)) r = 1 then 0 else μ (37 + p) 0) := by
      show sm n (fun q => tz (upM μ 50 (4 * p + 2) (μ 51 (3 * p + w)) 50 (4 * q + 2)) r * upM μ 50 (4 * p + 2) (μ 51 (3 * p + w)) 50 (4 * q)) = _
      rw [hs]
      show lld μ n r + tz (upM μ 50 (4 * p + 2) (μ 51 (3 * p + w)) 50 (4 * p + 2)) r * upM μ 50 (4 * p + 2) (μ 51 (3 * p + w)) 50 (4 * p) - tz (μ 50 (4 * p + 2)) r * μ 50 (4 * p) = _
      rw [hl, upM_self, upM_ne (by omega), ← hb.2, e, h2.2.2.1, h2.1]
      rcases tz_01 (bits μ p (μ (5 + 2 * 0) p)) r with e2 | e2
      · rw [if_neg (by omega), e2]; omega
      · rw [if_pos e2, e2]; omega
    rw [← hb.2] at h3 e1
    rw [e1] at h3 ⊢
    rw [ldq_dly h1 h3, h1.2.2.2.1, h2.2.1]
  · rw [if_neg e, if_neg e]
theorem sm_mul {f : Nat → Int} {c : Int} : ∀ n : Nat, sm n (fun p => f p * c) = sm n f * c
  | 0 => by rw [sm_0, sm_0, Int.zero_mul]
  | n + 1 => by rw [sm_s, sm_s, sm_mul n, Int.add_mul]
theorem ltt_tot {μ : Mem} {s n : Nat} (hW : WF μ) (hL : PL μ 0) (h : REL μ s n) : ltt μ s n = tot μ 0 := by
  unfold ltt tot
  rw [h.2.1]
  have e1 : sm n (totP μ 0) = sm n (fun p => sm s (totT μ 0 p)) := sm_congr n (fun p hp => by unfold totP; rw [h.1])
  rw [e1]
  have e2 := sm_swap (fun r p => totT μ 0 p r) n s
  try dsimp only at e2
  rw [show sm n (fun p => sm s (totT μ 0 p)) = sm n (fun p => sm s (fun r => totT μ 0 p r)) from rfl, ← e2]
  refine sm_congr s (fun r hr => ?_)
  have h1 := h.2.2.2.2.1 r hr
  have h3 := lld_rng (h.POK9 hW) r
  have h5 := h.2.2.1
  have hl := lld_ld hW hL h hr
  unfold ltT
  rw [ldq_dly h1 h3]
  have e3 : sm n (fun p => totT μ 0 p r) = sm n (fun p => tw μ 0 r p * dly μ r (μ (6 + 2 * 0) r)) := sm_congr n (fun p hp => by
    unfold totT tw
    by_cases e : tz (bits μ p (μ (5 + 2 * 0) p)) r = 1
    · rw [if_pos e, if_pos e]
    · rw [if_neg e, if_neg e]; simp)
  have hb := hL.2.1 r (by omega)
  rw [if_pos (by rw [h.1]; exact hr), h.2.1] at hb
  rw [e3, sm_mul, hl, ← hb]
/-- the law's greatest gain -/
def giF (μ : Mem) (q : Nat) (m : Int) : Nat → Int
  | 0 => m
  | w + 1 => if μ (37 + q) 2 = 0 ∧ giF μ q m w < cst μ 0 q (μ (5 + 2 * 0) q) - cst μ 0 q (w : Int) then cst μ 0 q (μ (5 + 2 * 0) q) - cst μ 0 q (w : Int) else giF μ q m w
theorem giF_y {μ : Mem} {q w : Nat} {m : Int} (h : μ (37 + q) 2 = 0 ∧ giF μ q m w < cst μ 0 q (μ (5 + 2 * 0) q) - cst μ 0 q (w : Int)) : giF μ q m (w + 1) = cst μ 0 q (μ (5 + 2 * 0) q) - cst μ 0 q (w : Int) := if_pos h
theorem giF_n {μ : Mem} {q w : Nat} {m : Int} (h : ¬ (μ (37 + q) 2 = 0 ∧ giF μ q m w < cst μ 0 q (μ (5 + 2 * 0) q) - cst μ 0 q (w : Int))) : giF μ q m (w + 1) = giF μ q m w := if_neg h
theorem giF_led {μ : Mem} {q : Nat} {m : Int} (h : μ (37 + q) 2 ≠ 0) : ∀ w, giF μ q m w = m
  | 0 => rfl
  | w + 1 => by rw [giF_n (fun z => h z.1), giF_led h w]
theorem giF_max {μ : Mem} {q : Nat} {m : Int} (h : μ (37 + q) 2 = 0) (hm : 0 ≤ m) : ∀ w, giF μ q m w = max m (cst μ 0 q (μ (5 + 2 * 0) q) - cst μ 0 q (bsF μ 0 q w))
  | 0 => by
    show m = max m (_ - cst μ 0 q (μ (5 + 2 * 0) q))
    omega
  | w + 1 => by
    have ih := giF_max h hm w
    by_cases e : cst μ 0 q (w : Int) < cst μ 0 q (bsF μ 0 q w)
    · rw [bsF_y e]
      by_cases e2 : giF μ q m w < cst μ 0 q (μ (5 + 2 * 0) q) - cst μ 0 q (w : Int)
      · rw [giF_y ⟨h, e2⟩]; omega
      · rw [giF_n (fun z => e2 z.2)]; omega
    · rw [bsF_n (by omega), giF_n (fun z => by omega), ih]
theorem ask_led {μ : Mem} {s n p : Nat} (h : REL μ s n) (hp : p < n) : ask μ 0 p = if μ (37 + p) 2 = 0 then 1 else 0 := by
  have h1 := h.2.2.2.2.2 p hp
  unfold ask
  by_cases e : μ (37 + p) 2 = 0
  · rw [if_pos ⟨e, h1.2.2.2.2.1.1⟩, if_pos e]
  · rw [if_neg (fun z => e z.1), if_neg e]
theorem bst_3 {μ : Mem} {s n p : Nat} (h : REL μ s n) (hp : p < n) : bst μ 0 p = bsF μ 0 p 3 := by
  have h1 := h.2.2.2.2.2 p hp
  unfold bst
  rw [h1.2.2.2.2.2.1]
  rfl
theorem gn_pos {μ : Mem} {s n p : Nat} (h : REL μ s n) (hp : p < n) : 0 ≤ gn μ 0 p := by
  unfold gn
  split
  · rename_i e
    have g := giF_max (μ := μ) (q := p) (m := 0) (by
      rw [ask_led h hp] at e
      split at e
      · assumption
      · omega) (by omega) 3
    rw [bst_3 h hp]
    have k : ∀ w, cst μ 0 p (bsF μ 0 p w) ≤ cst μ 0 p (μ (5 + 2 * 0) p) := fun w => by
      induction w with
      | zero => exact Int.le_refl _
      | succ w ih =>
        by_cases e2 : cst μ 0 p (w : Int) < cst μ 0 p (bsF μ 0 p w)
        · rw [bsF_y e2]; omega
        · rw [bsF_n (by omega)]; exact ih
    have := k 3
    omega
  · omega
theorem giF_mg {μ : Mem} {s n q : Nat} (hW : WF μ) (h : REL μ s n) (hq : q < n) : giF μ q (mgF μ 0 q).2 3 = (mgF μ 0 (q + 1)).2 := by
  have h5 := h.2.2.2.1
  have hm := mgF_rng hW (y := 0) q (by omega)
  have ha := ask_led h hq
  have hb := bst_3 h hq
  by_cases e : μ (37 + q) 2 = 0
  · rw [if_pos e] at ha
    have hg : gn μ 0 q = cst μ 0 q (μ (5 + 2 * 0) q) - cst μ 0 q (bsF μ 0 q 3) := by unfold gn; rw [if_pos ha, hb]
    rw [giF_max e hm.1, ← hg]
    by_cases e2 : (mgF μ 0 q).2 < gn μ 0 q
    · rw [mgF_y e2]; dsimp only; omega
    · rw [mgF_n (by omega)]; omega
  · rw [if_neg e] at ha
    have hg : gn μ 0 q = 0 := by unfold gn; rw [if_neg (by omega)]
    rw [giF_led e, mgF_n (by omega)]
theorem mg_0 {μ : Mem} : ∀ n : Nat, (∀ j, j < n → gn μ 0 j ≤ 0) → (mgF μ 0 n).2 = 0
  | 0, _ => rfl
  | n + 1, h => by
    have ih := mg_0 n (fun j hj => h j (by omega))
    rw [mgF_n (by have := h n (by omega); omega), ih]
theorem mg_pos {μ : Mem} (hW : WF μ) : ∀ n : Nat, n ≤ 6 → ∀ j, j < n → gn μ 0 j ≤ (mgF μ 0 n).2
  | 0, _, j, hj => by omega
  | n + 1, hn, j, hj => by
    have ih := mg_pos hW n (by omega)
    by_cases e : (mgF μ 0 n).2 < gn μ 0 n
    · rw [mgF_y e]
      try dsimp only
      rcases (show j < n ∨ j = n by omega) with q | q
      · have := ih j q; omega
      · rw [q]; omega
    · rw [mgF_n (by omega)]
      rcases (show j < n ∨ j = n by omega) with q | q
      · exact ih j q
      · rw [q]; omega
