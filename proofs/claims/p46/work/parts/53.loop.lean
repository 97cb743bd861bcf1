/-! the law's main loop -/
theorem law_loop {X : VC} {σ : SX} (c0 s0 s n : Nat) (h0 : c0 ≤ 500000) (h1 : s0 ≤ 6000000) (K : vK X cL_law 28 RL wsL_law rmL) (SJ : lxJ X.2.2.2.1 X.2.1.1 σ) (L1852 : ∀ ν : Mem, vW X 28 1852 (c0 + 3000) (s0 + 30000) [] [.int (iZ 1)] ν) : ∀ (f i : Nat) (z : Int) (μ : Mem), 14 - i < f → i ≤ 14 → LST μ s n z → vW X 28 204 (c0 + 200 * i) (s0 + 2000 * i) [(0, .ref (σ.1.1)), (1, .ref (vAd X 0)), (2, .int (iZ (s : Int))), (3, .int (iZ (n : Int))), (4, .ref (vAd X 49)), (5, .ref (vAd X 50)), (6, .ref (vAd X 51)), (7, .int (iZ 1)), (8, .int (iZ z)), (9, .int (iZ (i : Int)))] [] μ := by
  intro f
  induction f with
  | zero => intro i z μ hf; exact absurd hf (Nat.not_lt_zero _)
  | succ f ih =>
    intro i z μ hf hi hst
    refine gh_204 _ _ s n z i hi K SJ (fun hi2 => ?_) (fun hi3 => ?_)
    · have L98 : ∀ (z : Int) (ν : Mem) (hst : LST ν s n z), vW X 28 1498 (c0 + 200 * i + 120) (s0 + 2000 * i + 900) [(0, .ref (σ.1.1)), (1, .ref (vAd X 0)), (2, .int (iZ (s : Int))), (3, .int (iZ (n : Int))), (4, .ref (vAd X 49)), (5, .ref (vAd X 50)), (6, .ref (vAd X 51)), (7, .int (iZ 1)), (8, .int (iZ z)), (9, .int (iZ (i : Int)))] [] ν := fun z ν h => gc_98 _ _ s n z i (by omega) (by omega) hi2 h K SJ (v_wid (by omega) (by omega) (ih (i + 1) z ν (by omega) (by omega) h))
      have L97 : ∀ (z : Int) (ν : Mem) (hst : LST ν s n z), vW X 28 1498 (c0 + 200 * i + 60) (s0 + 2000 * i + 600) [(0, .ref (σ.1.1)), (1, .ref (vAd X 0)), (2, .int (iZ (s : Int))), (3, .int (iZ (n : Int))), (4, .ref (vAd X 49)), (5, .ref (vAd X 50)), (6, .ref (vAd X 51)), (7, .int (iZ 1)), (8, .int (iZ z)), (9, .int (iZ (i : Int)))] [] ν := fun z ν h => v_wid (by omega) (by omega) (L98 z ν h)
      exact gd_211 _ _ s n z i (by omega) (by omega) hi2 hst K SJ
        (fun a p x hp hx => ga_0 _ _ s n z i a p x (by omega) (by omega) hi2 hst hp hx K SJ L97)
        (fun a p x hp hx => ga_1 _ _ s n z i a p x (by omega) (by omega) hi2 hst hp hx K SJ L97)
        (fun a p x hp hx => ga_2 _ _ s n z i a p x (by omega) (by omega) hi2 hst hp hx K SJ L97)
        (fun a p x hp hx => ga_3 _ _ s n z i a p x (by omega) (by omega) hi2 hst hp hx K SJ L97)
        (fun a p x hp hx => ga_4 _ _ s n z i a p x (by omega) (by omega) hi2 hst hp hx K SJ L97)
        (fun a p x hp hx => ga_5 _ _ s n z i a p x (by omega) (by omega) hi2 hst hp hx K SJ L97)
        (fun a p x hp hx => ga_6 _ _ s n z i a p x (by omega) (by omega) hi2 hst hp hx K SJ L98)
    · exact ge_14 _ _ s n z (by omega) (by omega) hst K SJ (fun ν => v_wid (by omega) (by omega) (L1852 ν))
theorem law_44 {X : VC} {σ : SX} {μ : Mem} (kc ks s n : Nat) (hkc : kc ≤ 400000) (hks : ks ≤ 5000000) (hs : 2 ≤ s ∧ s ≤ 5) (hn : 1 ≤ n ∧ n ≤ 5) (hF : F1 μ 0) (K : vK X cL_law 28 RL wsL_law rmL) (SJ : lxJ X.2.2.2.1 X.2.1.1 σ) (L1852 : ∀ ν : Mem, vW X 28 1852 (kc + 3100) (ks + 31000) [] [.int (iZ 1)] ν) : vW X 28 44 kc ks [(0, .ref (σ.1.1)), (1, .ref (vAd X 0)), (2, .int (iZ (s : Int))), (3, .int (iZ (n : Int))), (4, .ref (vAd X 49)), (5, .ref (vAd X 50)), (6, .ref (vAd X 51))] [] μ :=
  gs_44 kc ks s n (by omega) (by omega) hs hn hF K SJ (fun z ν h => law_loop (kc + 60) (ks + 600) s n (by omega) (by omega) K SJ (fun ν => v_wid (by omega) (by omega) (L1852 ν)) 15 0 z ν (by omega) (by omega) h)
