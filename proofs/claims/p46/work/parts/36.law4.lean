/-! runs, told twice -/
theorem FG_det {μ ν : Mem} {s : Nat} {z z' : Int} (hp : pcn ν = pcn μ) (hg : ∀ j, j < pcn μ → gn ν 0 j = gn μ 0 j) (h : FG μ 0 s z) (h' : FG ν 0 s z') : z' = z := by
  rcases h with ⟨h1, h2⟩ | ⟨k, h1, h2, h3, h4⟩ <;> rcases h' with ⟨g1, g2⟩ | ⟨k', g1, g2, g3, g4⟩
  · omega
  · rw [hp] at g1 g2
    rw [hg _ (Nat.mod_lt _ (by omega))] at g2
    have := h2 k' g1
    omega
  · have := g2 k (by rw [hp]; exact h1)
    rw [hp, hg _ (Nat.mod_lt _ (by omega))] at this
    omega
  · rw [hp] at g1 g2 g3
    rw [hg _ (Nat.mod_lt _ (by omega))] at g2
    rcases (show k < k' ∨ k = k' ∨ k' < k by omega) with e | e | e
    · have := g4 k e
      rw [hp, hg _ (Nat.mod_lt _ (by omega))] at this
      omega
    · subst e; rw [h3, g3]
    · have := h4 k' e
      omega
theorem cg_mono {μ : Mem} {k : Nat} : ∀ k' : Nat, k < k' → cgF μ 0 (k + 1) ≤ cgF μ 0 k'
  | 0, h => by omega
  | k' + 1, h => by
    have h2 : cgF μ 0 k' ≤ cgF μ 0 (k' + 1) := by
      show _ ≤ _ + (if _ then _ else _)
      split <;> omega
    rcases (show k = k' ∨ k < k' by omega) with e | e
    · subst e; exact Int.le_refl _
    · have := cg_mono (μ := μ) k' e; omega
theorem GA_det {μ ν : Mem} {n z z' : Int} (hp : pcn ν = pcn μ) (h6 : pcn μ ≤ 6) (hg : ∀ j, j < 6 → gn ν 0 j = gn μ 0 j) (hc : ∀ j, j ≤ 6 → cgF ν 0 j = cgF μ 0 j) (h : GA μ 0 n z) (h' : GA ν 0 n z') : z' = z := by
  rcases h with ⟨h1, h2⟩ | ⟨k, h1, h2, h3, h4⟩ <;> rcases h' with ⟨g1, g2⟩ | ⟨k', g1, g2, g3, g4⟩
  · omega
  · rw [hp] at g1
    rw [hg _ (by omega)] at g2
    rw [hc _ (by omega)] at g3
    exact absurd g3 (h2 k' g1 g2)
  · have := g2 k (by rw [hp]; exact h1) (by rw [hg _ (by omega)]; exact h2)
    rw [hc _ (by omega)] at this
    exact absurd h3 this
  · rw [hp] at g1
    rw [hg _ (by omega)] at g2
    rw [hc _ (by omega)] at g3
    rcases (show k < k' ∨ k = k' ∨ k' < k by omega) with e | e | e
    · have := cg_mono (μ := μ) k' e
      rw [cgF_y h2] at this
      omega
    · omega
    · have := cg_mono (μ := μ) k e
      rw [cgF_y g2] at this
      omega
theorem cg_hit {μ : Mem} {n : Int} (hn : 0 ≤ n) : ∀ m : Nat, n < cgF μ 0 m → ∃ k, k < m ∧ 0 < gn μ 0 k ∧ cgF μ 0 k = n
  | 0, h => by simp [cgF] at h; omega
  | m + 1, h => by
    by_cases e : n < cgF μ 0 m
    · obtain ⟨k, k1, k2⟩ := cg_hit hn m e
      exact ⟨k, by omega, k2⟩
    · by_cases e2 : 0 < gn μ 0 m
      · rw [cgF_y e2] at h
        exact ⟨m, by omega, e2, by omega⟩
      · rw [cgF_n (by omega)] at h
        omega
theorem NX_det {μ ν ξ ξ' : Mem} {rule l q q' : Int} (hE : E49 μ ν) (hW : WF μ) (h : NX μ ξ rule l q) (h' : NX ν ξ' rule l q') : q' = q ∧ E49 ξ ξ' := by
  have h6 := hW.pc6
  have hag : AG μ ν 0 := hE.AG9 (by omega)
  have hp : pcn ν = pcn μ := hE.AB9.pcn9
  have hg : ∀ j, j < 6 → gn ν 0 j = gn μ 0 j := fun j hj => hag.gn9 hW hj
  have hm := hag.mgF9 hW (pcn μ) h6.1
  have hc : ∀ j, j ≤ 6 → cgF ν 0 j = cgF μ 0 j := fun j hj => hag.cgF9 hW j hj
  have e0 : ν 0 6 = μ 0 6 := by rw [hE 0 (by omega)]
  unfold NX at h'
  rw [hp, hm, hc _ h6.1, e0] at h'
  rcases h with ⟨r, h1, h2⟩ | ⟨r, h1, h2⟩ | ⟨r, ⟨h0, h1, h2⟩ | ⟨h0, h1, h2⟩⟩ <;> rcases h' with ⟨r', g1, g2⟩ | ⟨r', g1, g2⟩ | ⟨r', ⟨g0, g1, g2⟩ | ⟨g0, g1, g2⟩⟩ <;> first | (exfalso; omega) | skip
  · exact ⟨by rw [g2, h2], by rw [h1, g1]; exact hE⟩
  · exact ⟨FG_det hp (fun j hj => hg j (by omega)) h2 g2, by rw [h1, g1]; exact hE⟩
  · exact ⟨by omega, by rw [h1, g1]; exact hE⟩
  · refine ⟨GA_det hp h6.1 hg hc h2 g2, fun c hc9 => ?_⟩
    rw [h1, g1]
    funext j
    unfold upM
    split
    · rfl
    · rw [hE c hc9]
theorem TK_E49 {μ ν ξ ξ' : Mem} {p : Nat} {w w' : Int} (hE : E49 μ ν) (hp : p < 6) (hw : w' = w) (h : TK μ ξ 0 p w) (h' : TK ν ξ' 0 p w') : E49 ξ ξ' := by
  subst hw
  have hab := hE.AB9
  intro c hc
  by_cases e5 : c = 5 + 2 * 0
  · subst e5
    funext j
    by_cases e : j = p
    · subst e; rw [h.2.2.1, h'.2.2.1]
    · rw [h.2.1 j e, h'.2.1 j e, hE _ hc]
  · by_cases e6 : c = 6 + 2 * 0
    · subst e6
      funext j
      rw [h.2.2.2 j, h'.2.2.2 j, hE _ hc, hab.rc9]
      unfold tkd
      rw [hab.bits9 hp, hab.bits9 hp, hE (5 + 2 * 0) (by omega), hE (37 + p) (by omega)]
    · rw [h.1 c e5 e6, h'.1 c e5 e6, hE c hc]
theorem RS_det {rule : Int} {μ ν : Mem} (hE : E49 μ ν) (hW : WF μ) (hL : PL μ 0) (hz : zOK μ) : ∀ (k : Nat) (l l' : Int) (ξ ξ' : Mem), RS rule k μ l ξ → RS rule k ν l' ξ' → l' = l ∧ E49 ξ ξ'
  | 0, l, l', ξ, ξ', h, h' => by
    obtain ⟨rfl, rfl⟩ := h
    obtain ⟨rfl, rfl⟩ := h'
    exact ⟨rfl, hE⟩
  | k + 1, l, l', ξ, ξ', h, h' => by
    obtain ⟨m, ζ, ζ1, h1, h2, h3, h4⟩ := h
    obtain ⟨m', ζ', ζ1', g1, g2, g3, g4⟩ := h'
    obtain ⟨e1, e2⟩ := RS_det hE hW hL hz k m m' ζ ζ' h1 g1
    subst e1
    obtain ⟨w1, w2, w3, w4, w5, w6⟩ := RS_ok hW hL hz k _ _ h1
    obtain ⟨e3, e4⟩ := NX_det e2 w1 h2 g2
    subst e3
    have hr := NX_rng h2 w1
    obtain ⟨f1, f2, f3⟩ := NX_WF h2 w1 w2
    exact ⟨rfl, TK_E49 e4 (by omega) ((e4.AG9 (by omega)).bst9 f1 (by omega)) h4 g4⟩
theorem RS_step {rule : Int} {μ : Mem} : ∀ (m : Nat) (l : Int) (ν : Mem), RS rule m μ l ν → ∀ k, k < m → ∃ (l2 : Int) (ξ ξ1 : Mem) (q : Int), RS rule k μ l2 ξ ∧ NX ξ ξ1 rule l2 q ∧ 0 ≤ q
  | 0, _, _, _, k, hk => by omega
  | m + 1, l, ν, h, k, hk => by
    obtain ⟨l2, ξ, ξ1, h1, h2, h3, -⟩ := h
    rcases (show k < m ∨ k = m by omega) with e | e
    · exact RS_step m l2 ξ h1 k e
    · subst e; exact ⟨l2, ξ, ξ1, l, h1, h2, h3⟩
theorem RS_up {rule : Int} {μ : Mem} : ∀ (m : Nat) (l : Int) (ν : Mem), RS rule m μ l ν → ∀ c, 49 ≤ c → ν c = μ c
  | 0, _, _, h, c, hc => by obtain ⟨-, rfl⟩ := h; rfl
  | m + 1, l, ν, h, c, hc => by
    obtain ⟨l2, ξ, ξ1, h1, h2, h3, h4⟩ := h
    have i := RS_up m l2 ξ h1 c hc
    rw [h4.1 c (by omega) (by omega), ← i]
    rcases h2 with ⟨-, rfl, -⟩ | ⟨-, rfl, -⟩ | ⟨-, ⟨-, rfl, -⟩ | ⟨-, rfl, -⟩⟩
    · rfl
    · rfl
    · rfl
    · rw [upM_off (by omega)]
theorem mg1_pos {μ : Mem} (hW : WF μ) : ∀ n : Nat, n ≤ 6 → 0 ≤ (mgF μ 0 n).1 → 0 < (mgF μ 0 n).2
  | 0, _, h => by simp [mgF] at h
  | n + 1, hn, h => by
    have h1 := mgF_rng hW (y := 0) n (by omega)
    by_cases e : (mgF μ 0 n).2 < gn μ 0 n
    · rw [mgF_y e]; dsimp only; omega
    · rw [mgF_n (by omega)] at h ⊢
      exact mg1_pos hW n (by omega) h
theorem NX_some {μ ν : Mem} {rule l q : Int} (hW : WF μ) (h : NX μ ν rule l q) (hq : 0 ≤ q) : ∃ j, j < pcn μ ∧ 0 < gn μ 0 j := by
  have h6 := hW.pc6
  rcases h with ⟨-, -, h⟩ | ⟨-, -, h⟩ | ⟨-, ⟨-, -, h⟩ | ⟨-, -, h⟩⟩
  · have r := mgF_rng hW (y := 0) (pcn μ) h6.1
    have g := (mgF_gn μ 0 (pcn μ)).2 q.toNat (by omega)
    have p := mg1_pos hW (pcn μ) h6.1 (by omega)
    exact ⟨q.toNat, by omega, by omega⟩
  · rcases h with ⟨h, -⟩ | ⟨k, h1, h2, h3, h4⟩
    · omega
    · exact ⟨_, Nat.mod_lt _ (by omega), h2⟩
  · omega
  · rcases h with ⟨h, -⟩ | ⟨k, h1, h2, h3, h4⟩
    · omega
    · exact ⟨k, h1, h2⟩
theorem cg_0 {μ : Mem} : ∀ n : Nat, (∀ j, j < n → gn μ 0 j ≤ 0) → cgF μ 0 n = 0
  | 0, _ => rfl
  | n + 1, h => by rw [cgF_n (h n (by omega)), cg_0 n (fun j hj => h j (by omega))]
/-- the class's run and the law's own come to the same -/
theorem RUN_sim {μ0 μ ν ξ : Mem} {rule m l z : Int} {k : Nat} (hE : E49 μ0 μ) (hW : WF μ0) (hL : PL μ0 0) (hz : zOK μ0) (hm : 0 ≤ m) (hg : RS rule k μ0 l ξ) (hk : (k : Int) = m ∨ ((k : Int) < m ∧ ∀ j, j < pcn ξ → gn ξ 0 j ≤ 0)) (hR : RUN μ ν rule m z) : z = (k : Int) ∧ E49 ξ ν ∧ ∀ c, 49 ≤ c → ν c = μ c := by
  have stuck : ∀ (l' : Int) (ν' : Mem) (m' : Nat), RS rule m' μ l' ν' → k < m' → (∀ j, j < pcn ξ → gn ξ 0 j ≤ 0) → False := by
    intro l' ν' m' h hlt hs
    obtain ⟨l2, ζ, ζ1, q, s1, s2, s3⟩ := RS_step m' l' ν' h k hlt
    obtain ⟨w1, w2, -⟩ := RS_ok hW hL hz k _ _ hg
    obtain ⟨d1, d2⟩ := RS_det hE hW hL hz k _ _ _ _ hg s1
    have hag : AG ξ ζ 0 := d2.AG9 (by omega)
    have hWζ : WF ζ := d2.WF9 w1
    obtain ⟨j, j1, j2⟩ := NX_some hWζ s2 s3
    rw [d2.AB9.pcn9] at j1
    rw [hag.gn9 w1 (by have := w1.pc6; omega)] at j2
    have := hs j j1
    omega
  rcases hR with ⟨hz1, l', h⟩ | ⟨n, l', ζ, h1, h2, h3, h4⟩
  · rcases hk with hk | ⟨hk, hs⟩
    · rw [show m.toNat = k by omega] at h
      obtain ⟨d1, d2⟩ := RS_det hE hW hL hz k _ _ _ _ hg h
      exact ⟨by omega, d2, RS_up k _ _ h⟩
    · exact (stuck l' ν m.toNat h (by omega) hs).elim
  · rcases (show n < k ∨ n = k ∨ k < n by omega) with e | e | e
    · obtain ⟨l2, ζ2, ζ3, q, s1, s2, s3⟩ := RS_step k l ξ hg n e
      obtain ⟨w1, w2, -⟩ := RS_ok hW hL hz n _ _ s1
      obtain ⟨d1, d2⟩ := RS_det hE hW hL hz n _ _ _ _ s1 h3
      subst d1
      obtain ⟨d3, d4⟩ := NX_det d2 w1 s2 h4
      omega
    · subst e
      obtain ⟨w1, w2, -⟩ := RS_ok hW hL hz n _ _ hg
      obtain ⟨d1, d2⟩ := RS_det hE hW hL hz n _ _ _ _ hg h3
      have hs : ∀ j, j < pcn ξ → gn ξ 0 j ≤ 0 := by
        rcases hk with hk | ⟨-, hs⟩
        · omega
        · exact hs
      have hag : AG ξ ζ 0 := d2.AG9 (by omega)
      have hc : cgF ζ 0 (pcn ζ) = 0 := cg_0 _ (fun j hj => by
        rw [d2.AB9.pcn9] at hj
        rw [hag.gn9 w1 (by have := w1.pc6; omega)]
        exact hs j hj)
      have hu := RS_up n _ _ h3
      rcases h4 with ⟨-, rfl, -⟩ | ⟨-, rfl, -⟩ | ⟨-, ⟨-, rfl, -⟩ | ⟨h0, -, -⟩⟩
      · exact ⟨h2, d2, hu⟩
      · exact ⟨h2, d2, hu⟩
      · exact ⟨h2, d2, hu⟩
      · omega
    · rcases hk with hk | ⟨hk, hs⟩
      · omega
      · exact (stuck l' ζ n h3 e hs).elim
/-- the class's part of one memory, the law's arrays of another -/
def mx (ξ μ : Mem) : Mem := fun c => if c < 49 then ξ c else μ c
theorem mx_lo {ξ μ : Mem} {c : Nat} (h : c < 49) : mx ξ μ c = ξ c := if_pos h
theorem mx_hi {ξ μ : Mem} {c : Nat} (h : 49 ≤ c) : mx ξ μ c = μ c := if_neg (by omega)
theorem mx_E49 {ξ μ : Mem} : E49 ξ (mx ξ μ) := fun c hc => mx_lo hc
theorem mx_E49' {ξ μ : Mem} : E49 (mx ξ μ) ξ := fun c hc => (mx_lo hc).symm
theorem mx_self {μ : Mem} : mx μ μ = μ := by
  funext c
  unfold mx
  split <;> rfl
theorem mx_eq {ξ μ ν : Mem} (h1 : E49 ξ ν) (h2 : ∀ c, 49 ≤ c → ν c = μ c) : ν = mx ξ μ := by
  funext c
  unfold mx
  split
  · exact h1 c (by assumption)
  · exact h2 c (by omega)
theorem mx_up {ξ μ : Mem} {c j : Nat} {x : Int} (hc : 49 ≤ c) : mx ξ (upM μ c j x) = upM (mx ξ μ) c j x := by
  funext c' j'
  by_cases e : c' < 49
  · rw [mx_lo e, upM_off (show c' ≠ c by omega), mx_lo e]
  · rw [mx_hi (by omega)]
    unfold upM
    rw [mx_hi (show 49 ≤ c' by omega)]
theorem mx_z {ξ μ : Mem} {x : Int} : mx (upM ξ 0 6 x) μ = upM (mx ξ μ) 0 6 x := by
  funext c' j'
  by_cases e : c' < 49
  · rw [mx_lo e]
    unfold upM
    rw [mx_lo e]
  · rw [mx_hi (by omega), upM_off (show c' ≠ 0 by omega), mx_hi (by omega)]
theorem TK_mx {ξ ξ2 μ : Mem} {q : Nat} {w : Int} (hq : q < 6) (h : TK ξ ξ2 0 q w) : TK (mx ξ μ) (mx ξ2 μ) 0 q w := by
  have hab : AB ξ (mx ξ μ) := (mx_E49).AB9
  refine ⟨fun c h1 h2 => ?_, fun j hj => by rw [mx_lo (by omega), mx_lo (by omega)]; exact h.2.1 j hj, by rw [mx_lo (by omega)]; exact h.2.2.1, fun j => ?_⟩
  · by_cases e : c < 49
    · rw [mx_lo e, mx_lo e]; exact h.1 c h1 h2
    · rw [mx_hi (by omega), mx_hi (by omega)]
  · rw [mx_lo (by omega), mx_lo (by omega), h.2.2.2 j, hab.rc9]
    unfold tkd
    rw [hab.bits9 hq, hab.bits9 hq, mx_lo (show 5 + 2 * 0 < 49 by omega), mx_lo (show 37 + q < 49 by omega)]
theorem LST_z {μ : Mem} {s n : Nat} {z x : Int} (h : LST μ s n z) (hx : 1 ≤ x ∧ x ≤ 2147483646) : LST (upM μ 0 6 x) s n x := by
  obtain ⟨hW, hL, hL1, hR, hz, hz1, hz2⟩ := h
  have o : ∀ c, c ≠ 0 → upM μ 0 6 x c = μ c := fun c hc => upM_off hc
  refine ⟨WF_z hW, PL_z hL, PL_z hL1, ⟨?_, ?_, hR.2.2.1, hR.2.2.2.1, fun r hr => ?_, fun p hp => ?_⟩, upM_self, hx.1, hx.2⟩
  · unfold rc; rw [o 1 (by omega)]; exact hR.1
  · unfold pcn; rw [o 1 (by omega)]; exact hR.2.1
  · exact RL1_same (hR.2.2.2.2.1 r hr) (fun j hj => by rw [o 49 (by omega)]) (by rw [o (21 + r) (by omega)]) (o _ (by omega))
  · exact PL1_same (hR.2.2.2.2.2 p hp) (fun j hj => by rw [o 50 (by omega)]) (by rw [o (5 + 2 * 0) (by omega)]) (o _ (by omega)) (o _ (by omega)) (o _ (by omega)) (by unfold rc; rw [o 1 (by omega)])
theorem z_next {z : Int} (h : 1 ≤ z ∧ z ≤ 2147483646) : 1 ≤ z * 48271 % 2147483647 ∧ z * 48271 % 2147483647 ≤ 2147483646 := by
  obtain ⟨n, rfl⟩ := nat_of (show 0 ≤ z by omega)
  have h1 := Int.emod_nonneg ((n : Int) * 48271) (show (2147483647 : Int) ≠ 0 by omega)
  have h2 := Int.emod_lt_of_pos ((n : Int) * 48271) (show (0 : Int) < 2147483647 by omega)
  rcases (show (n : Int) * 48271 % 2147483647 = 0 ∨ 1 ≤ (n : Int) * 48271 % 2147483647 by omega) with e | e
  · exfalso
    have e2 : 2147483647 ∣ n * 48271 := by omega
    have hc : Nat.Coprime 2147483647 48271 := by unfold Nat.Coprime; decide +kernel
    have e3 : 2147483647 ∣ n := hc.dvd_of_dvd_mul_right e2
    obtain ⟨k, hk⟩ := e3
    rcases (show k = 0 ∨ 1 ≤ k by omega) with q | q <;> omega
  · omega
/-- the law's own run, after k changes -/
def RI (μ0 μ ξ : Mem) (rule : Int) (k : Nat) (l z : Int) (s n : Nat) : Prop := RS rule k μ0 l ξ ∧ (∀ c, c ≠ 50 → μ c = μ0 c) ∧ LST (mx ξ μ) s n z ∧ -1 ≤ l ∧ l < (n : Int)
theorem RI_0 {μ : Mem} {rule z : Int} {s n : Nat} (h : LST μ s n z) : RI μ μ μ rule 0 (-1) z s n := ⟨⟨rfl, rfl⟩, fun _ _ => rfl, by rw [mx_self]; exact h, by omega, by omega⟩
theorem bs_rng3 {μ : Mem} {s n p : Nat} (h : REL μ s n) (hp : p < n) : ∀ w : Nat, w ≤ 3 → 0 ≤ bsF μ 0 p w ∧ bsF μ 0 p w ≤ 2
  | 0, _ => (h.2.2.2.2.2 p hp).2.2.2.2.1
  | w + 1, hw => by
    have i := bs_rng3 h hp w (by omega)
    show (0 : Int) ≤ (if _ then _ else _) ∧ (if _ then _ else _) ≤ (2 : Int)
    split <;> omega
theorem RI_s {μ0 μ ξ ξ1 : Mem} {rule l z z' b : Int} {k s n q : Nat} (h : RI μ0 μ ξ rule k l z s n) (hN : NX ξ ξ1 rule l (q : Int)) (hq : q < n) (hz : (ξ1 = ξ ∧ z' = z) ∨ (ξ1 = upM ξ 0 6 z' ∧ 1 ≤ z' ∧ z' ≤ 2147483646)) (hb : b = bits ξ q (bst ξ 0 q)) : ∃ ξ2, RI μ0 (upM μ 50 (4 * q + 2) b) ξ2 rule (k + 1) (q : Int) z' s n := by
  obtain ⟨h1, h2, h3, h4, h5⟩ := h
  obtain ⟨ξ2, hT⟩ := TK_ex ξ1 0 q (bst ξ1 0 q)
  have h6 := h3.2.2.2.1.2.2.2.1
  have hst1 : LST (mx ξ1 μ) s n z' := by
    rcases hz with ⟨e1, e2⟩ | ⟨e1, e2⟩
    · rw [e1, e2]; exact h3
    · rw [e1, mx_z]; exact LST_z h3 e2
  have hWξ : WF ξ := (mx_E49').WF9 h3.1
  have hR1 := hst1.2.2.2.1
  have eb1 : bst (mx ξ1 μ) 0 q = bst ξ1 0 q := by
    have hW1 : WF ξ1 := (mx_E49').WF9 hst1.1
    exact ((mx_E49 (ξ := ξ1) (μ := μ)).AG9 (by omega)).bst9 hW1 (by omega)
  have hw : 0 ≤ bst ξ1 0 q ∧ bst ξ1 0 q ≤ 2 := by
    rw [← eb1, bst_3 hR1 hq]
    exact bs_rng3 hR1 hq 3 (by omega)
  have eb : bst ξ1 0 q = bst ξ 0 q := by
    rcases hz with ⟨e1, -⟩ | ⟨e1, -⟩
    · rw [e1]
    · have g : AG ξ ξ1 0 := by
        rw [e1]
        exact ⟨fun c hc => upM_off (by omega), upM_off (by omega), upM_off (by omega), by rw [upM_off (by omega)]⟩
      exact g.bst9 hWξ (by omega)
  have ebits : bits ξ1 q (bst ξ1 0 q) = bits ξ q (bst ξ 0 q) := by
    rw [eb]
    rcases hz with ⟨e1, -⟩ | ⟨e1, -⟩
    · rw [e1]
    · unfold bits
      rw [e1, upM_off (by omega), upM_off (by omega)]
  refine ⟨ξ2, ⟨l, ξ, ξ1, h1, hN, by omega, by rw [Int.toNat_natCast]; exact hT⟩, fun c hc => by rw [upM_off hc]; exact h2 c hc, ?_, by omega, by omega⟩
  rw [mx_up (by omega)]
  refine LST_take hst1 hq hw (TK_mx (by omega) hT) ?_
  rw [hb, ← ebits]
  exact ((mx_E49 (ξ := ξ1) (μ := μ)).AB9.bits9 (by omega) _).symm
