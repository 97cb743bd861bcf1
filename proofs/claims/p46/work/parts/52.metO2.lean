theorem dL_law_211 : decode cL_law 211 = .ok (.aload_n 0, 1) := by decide +kernel
theorem dL_law_212 : decode cL_law 212 = .ok (.bipush 100, 2) := by decide +kernel
theorem dL_law_214 : decode cL_law 214 = .ok (.iload 9, 2) := by decide +kernel
theorem dL_law_216 : decode cL_law 216 = .ok (.iadd, 1) := by decide +kernel
theorem dL_law_217 : decode cL_law 217 = .ok (.bipush 8, 2) := by decide +kernel
theorem dL_law_219 : decode cL_law 219 = .ok (.invokestatic 106, 3) := by decide +kernel
theorem dL_law_222 : decode cL_law 222 = .ok (.istore 10, 2) := by decide +kernel
theorem dL_law_224 : decode cL_law 224 = .ok (.aload_n 0, 1) := by decide +kernel
theorem dL_law_225 : decode cL_law 225 = .ok (.bipush 120, 2) := by decide +kernel
theorem dL_law_227 : decode cL_law 227 = .ok (.iload 9, 2) := by decide +kernel
theorem dL_law_229 : decode cL_law 229 = .ok (.iadd, 1) := by decide +kernel
theorem dL_law_230 : decode cL_law 230 = .ok (.iload_n 3, 1) := by decide +kernel
theorem dL_law_231 : decode cL_law 231 = .ok (.invokestatic 106, 3) := by decide +kernel
theorem dL_law_234 : decode cL_law 234 = .ok (.istore 11, 2) := by decide +kernel
theorem dL_law_236 : decode cL_law 236 = .ok (.aload_n 0, 1) := by decide +kernel
theorem dL_law_237 : decode cL_law 237 = .ok (.sipush 140, 3) := by decide +kernel
theorem dL_law_240 : decode cL_law 240 = .ok (.iload 9, 2) := by decide +kernel
theorem dL_law_242 : decode cL_law 242 = .ok (.iadd, 1) := by decide +kernel
theorem dL_law_243 : decode cL_law 243 = .ok (.sipush 10000, 3) := by decide +kernel
theorem dL_law_246 : decode cL_law 246 = .ok (.invokestatic 106, 3) := by decide +kernel
theorem dL_law_249 : decode cL_law 249 = .ok (.istore 12, 2) := by decide +kernel
theorem dL_law_251 : decode cL_law 251 = .ok (.iload 10, 2) := by decide +kernel
theorem dL_law_253 : decode cL_law 253 = .ok (.ifCond .ne 94, 3) := by decide +kernel
theorem dL_law_347 : decode cL_law 347 = .ok (.iload 10, 2) := by decide +kernel
theorem dL_law_349 : decode cL_law 349 = .ok (.iconst 1, 1) := by decide +kernel
theorem dL_law_350 : decode cL_law 350 = .ok (.if_icmp .ne 67, 3) := by decide +kernel
theorem dL_law_417 : decode cL_law 417 = .ok (.iload 10, 2) := by decide +kernel
theorem dL_law_419 : decode cL_law 419 = .ok (.iconst 2, 1) := by decide +kernel
theorem dL_law_420 : decode cL_law 420 = .ok (.if_icmp .ne 66, 3) := by decide +kernel
theorem dL_law_486 : decode cL_law 486 = .ok (.iload 10, 2) := by decide +kernel
theorem dL_law_488 : decode cL_law 488 = .ok (.iconst 3, 1) := by decide +kernel
theorem dL_law_489 : decode cL_law 489 = .ok (.if_icmp .ne 67, 3) := by decide +kernel
theorem dL_law_556 : decode cL_law 556 = .ok (.iload 10, 2) := by decide +kernel
theorem dL_law_558 : decode cL_law 558 = .ok (.iconst 4, 1) := by decide +kernel
theorem dL_law_559 : decode cL_law 559 = .ok (.if_icmp .ne 205, 3) := by decide +kernel
theorem dL_law_764 : decode cL_law 764 = .ok (.iload 10, 2) := by decide +kernel
theorem dL_law_766 : decode cL_law 766 = .ok (.iconst 5, 1) := by decide +kernel
theorem dL_law_767 : decode cL_law 767 = .ok (.if_icmp .ne 211, 3) := by decide +kernel
set_option maxHeartbeats 8000000 in
set_option maxRecDepth 100000 in
theorem gd_211 {X : VC} {σ : SX} {μ : Mem} (kc : Nat) (ks : Nat) (s : Nat) (n : Nat) (z : Int) (i : Nat) (hkc : kc ≤ 590000) (hks : ks ≤ 7000000) (hi : i < 14) (hst : LST μ s n z) (K : vK X cL_law 28 RL wsL_law rmL) (SJ : lxJ X.2.2.2.1 X.2.1.1 σ) (L256 : ∀ (a : Int) (p : Nat) (x : Int) (hp : p < n) (hx : 0 ≤ x ∧ x < 10000), vW X 28 256 kc ks [(0, .ref (σ.1.1)), (1, .ref (vAd X 0)), (2, .int (iZ (s : Int))), (3, .int (iZ (n : Int))), (4, .ref (vAd X 49)), (5, .ref (vAd X 50)), (6, .ref (vAd X 51)), (7, .int (iZ 1)), (8, .int (iZ z)), (9, .int (iZ (i : Int))), (10, .int (iZ a)), (11, .int (iZ (p : Int))), (12, .int (iZ x))] [] μ) (L353 : ∀ (a : Int) (p : Nat) (x : Int) (hp : p < n) (hx : 0 ≤ x ∧ x < 10000), vW X 28 353 kc ks [(0, .ref (σ.1.1)), (1, .ref (vAd X 0)), (2, .int (iZ (s : Int))), (3, .int (iZ (n : Int))), (4, .ref (vAd X 49)), (5, .ref (vAd X 50)), (6, .ref (vAd X 51)), (7, .int (iZ 1)), (8, .int (iZ z)), (9, .int (iZ (i : Int))), (10, .int (iZ a)), (11, .int (iZ (p : Int))), (12, .int (iZ x))] [] μ) (L423 : ∀ (a : Int) (p : Nat) (x : Int) (hp : p < n) (hx : 0 ≤ x ∧ x < 10000), vW X 28 423 kc ks [(0, .ref (σ.1.1)), (1, .ref (vAd X 0)), (2, .int (iZ (s : Int))), (3, .int (iZ (n : Int))), (4, .ref (vAd X 49)), (5, .ref (vAd X 50)), (6, .ref (vAd X 51)), (7, .int (iZ 1)), (8, .int (iZ z)), (9, .int (iZ (i : Int))), (10, .int (iZ a)), (11, .int (iZ (p : Int))), (12, .int (iZ x))] [] μ) (L492 : ∀ (a : Int) (p : Nat) (x : Int) (hp : p < n) (hx : 0 ≤ x ∧ x < 10000), vW X 28 492 kc ks [(0, .ref (σ.1.1)), (1, .ref (vAd X 0)), (2, .int (iZ (s : Int))), (3, .int (iZ (n : Int))), (4, .ref (vAd X 49)), (5, .ref (vAd X 50)), (6, .ref (vAd X 51)), (7, .int (iZ 1)), (8, .int (iZ z)), (9, .int (iZ (i : Int))), (10, .int (iZ a)), (11, .int (iZ (p : Int))), (12, .int (iZ x))] [] μ) (L562 : ∀ (a : Int) (p : Nat) (x : Int) (hp : p < n) (hx : 0 ≤ x ∧ x < 10000), vW X 28 562 kc ks [(0, .ref (σ.1.1)), (1, .ref (vAd X 0)), (2, .int (iZ (s : Int))), (3, .int (iZ (n : Int))), (4, .ref (vAd X 49)), (5, .ref (vAd X 50)), (6, .ref (vAd X 51)), (7, .int (iZ 1)), (8, .int (iZ z)), (9, .int (iZ (i : Int))), (10, .int (iZ a)), (11, .int (iZ (p : Int))), (12, .int (iZ x))] [] μ) (L770 : ∀ (a : Int) (p : Nat) (x : Int) (hp : p < n) (hx : 0 ≤ x ∧ x < 10000), vW X 28 770 kc ks [(0, .ref (σ.1.1)), (1, .ref (vAd X 0)), (2, .int (iZ (s : Int))), (3, .int (iZ (n : Int))), (4, .ref (vAd X 49)), (5, .ref (vAd X 50)), (6, .ref (vAd X 51)), (7, .int (iZ 1)), (8, .int (iZ z)), (9, .int (iZ (i : Int))), (10, .int (iZ a)), (11, .int (iZ (p : Int))), (12, .int (iZ x))] [] μ) (L978 : ∀ (a : Int) (p : Nat) (x : Int) (hp : p < n) (hx : 0 ≤ x ∧ x < 10000), vW X 28 978 kc ks [(0, .ref (σ.1.1)), (1, .ref (vAd X 0)), (2, .int (iZ (s : Int))), (3, .int (iZ (n : Int))), (4, .ref (vAd X 49)), (5, .ref (vAd X 50)), (6, .ref (vAd X 51)), (7, .int (iZ 1)), (8, .int (iZ z)), (9, .int (iZ (i : Int))), (10, .int (iZ a)), (11, .int (iZ (p : Int))), (12, .int (iZ x))] [] μ) : vW X 28 211 kc ks [(0, .ref (σ.1.1)), (1, .ref (vAd X 0)), (2, .int (iZ (s : Int))), (3, .int (iZ (n : Int))), (4, .ref (vAd X 49)), (5, .ref (vAd X 50)), (6, .ref (vAd X 51)), (7, .int (iZ 1)), (8, .int (iZ z)), (9, .int (iZ (i : Int)))] [] μ := by
  obtain ⟨hW, hL, hL1, hR, hz, hz1, hz2⟩ := id hst
  have hs5 := hR.2.2.1
  have hn5 := hR.2.2.2.1
  obtain ⟨p, hp0, hp⟩ := in_nat (σ := σ) (i := 120 + (i : Int)) (n := n) (by omega)
  refine v_aload_n 0 K dL_law_211 rfl ?_
  refine v_bipush K dL_law_212 (by decide) ?_
  refine v_iload 9 K dL_law_214 rfl ?_
  refine v_iadd K dL_law_216 ?_
  refine v_bipush K dL_law_217 (by decide) ?_
  refine v_in (σ := σ) (i := (100 + (i : Int))) (n := 8) K SJ (by omega) (by omega) gL_law_L_in ⟨(Nat.le_of_ble_eq_true rfl), (Nat.le_of_ble_eq_true rfl)⟩ (Nat.le_of_ble_eq_true rfl) dL_law_219 ⟨(by show kc + 0 ≤ 600258; omega), (by show ks + 0 ≤ 7292426; omega)⟩ ?_
  obtain ⟨a, ea⟩ : ∃ a : Int, a = (inV σ (100 + (i : Int)) 8) := ⟨_, rfl⟩
  refine v_top (b := a) (congrArg iZ ea.symm) ?_
  have ha : 0 ≤ a ∧ a < 8 := in_rng0 ea (by decide)
  clear ea
  refine v_istore [(10, .int (iZ a)), (0, .ref (σ.1.1)), (1, .ref (vAd X 0)), (2, .int (iZ (s : Int))), (3, .int (iZ (n : Int))), (4, .ref (vAd X 49)), (5, .ref (vAd X 50)), (6, .ref (vAd X 51)), (7, .int (iZ 1)), (8, .int (iZ z)), (9, .int (iZ (i : Int)))] K dL_law_222 (by decide) rfl ?_
  refine v_aload_n 1 K dL_law_224 rfl ?_
  refine v_bipush K dL_law_225 (by decide) ?_
  refine v_iload 10 K dL_law_227 rfl ?_
  refine v_iadd K dL_law_229 ?_
  refine v_iload_n 4 K dL_law_230 rfl ?_
  refine v_in (σ := σ) (i := (120 + (i : Int))) (n := (n : Int)) K SJ (by omega) (by omega) gL_law_L_in ⟨(Nat.le_of_ble_eq_true rfl), (Nat.le_of_ble_eq_true rfl)⟩ (Nat.le_of_ble_eq_true rfl) dL_law_231 ⟨(by show kc + 0 ≤ 600258; omega), (by show ks + 0 ≤ 7292426; omega)⟩ ?_
  refine v_top (b := (p : Int)) hp0 ?_
  clear hp0
  refine v_istore [(11, .int (iZ (p : Int))), (10, .int (iZ a)), (0, .ref (σ.1.1)), (1, .ref (vAd X 0)), (2, .int (iZ (s : Int))), (3, .int (iZ (n : Int))), (4, .ref (vAd X 49)), (5, .ref (vAd X 50)), (6, .ref (vAd X 51)), (7, .int (iZ 1)), (8, .int (iZ z)), (9, .int (iZ (i : Int)))] K dL_law_234 (by decide) rfl ?_
  refine v_aload_n 2 K dL_law_236 rfl ?_
  refine v_sipush K dL_law_237 (by decide) ?_
  refine v_iload 11 K dL_law_240 rfl ?_
  refine v_iadd K dL_law_242 ?_
  refine v_sipush K dL_law_243 (by decide) ?_
  refine v_in (σ := σ) (i := (140 + (i : Int))) (n := 10000) K SJ (by omega) (by omega) gL_law_L_in ⟨(Nat.le_of_ble_eq_true rfl), (Nat.le_of_ble_eq_true rfl)⟩ (Nat.le_of_ble_eq_true rfl) dL_law_246 ⟨(by show kc + 0 ≤ 600258; omega), (by show ks + 0 ≤ 7292426; omega)⟩ ?_
  obtain ⟨x, ex⟩ : ∃ x : Int, x = (inV σ (140 + (i : Int)) 10000) := ⟨_, rfl⟩
  refine v_top (b := x) (congrArg iZ ex.symm) ?_
  have hx : 0 ≤ x ∧ x < 10000 := in_rng0 ex (by decide)
  clear ex
  refine v_istore [(12, .int (iZ x)), (11, .int (iZ (p : Int))), (10, .int (iZ a)), (0, .ref (σ.1.1)), (1, .ref (vAd X 0)), (2, .int (iZ (s : Int))), (3, .int (iZ (n : Int))), (4, .ref (vAd X 49)), (5, .ref (vAd X 50)), (6, .ref (vAd X 51)), (7, .int (iZ 1)), (8, .int (iZ z)), (9, .int (iZ (i : Int)))] K dL_law_249 (by decide) rfl ?_
  refine v_iload 2 K dL_law_251 rfl ?_
  refine v_if_ne 347 K dL_law_253 (by decide) (by omega) (fun c253 => ?_) (fun c253 => ?_)
  · refine v_iload 2 K dL_law_347 rfl ?_
    refine v_iconst K dL_law_349 ?_
    refine v_icmp_ne 417 K dL_law_350 (by decide) (by omega) (by decide) (fun c350 => ?_) (fun c350 => ?_)
    · refine v_iload 2 K dL_law_417 rfl ?_
      refine v_iconst K dL_law_419 ?_
      refine v_icmp_ne 486 K dL_law_420 (by decide) (by omega) (by decide) (fun c420 => ?_) (fun c420 => ?_)
      · refine v_iload 2 K dL_law_486 rfl ?_
        refine v_iconst K dL_law_488 ?_
        refine v_icmp_ne 556 K dL_law_489 (by decide) (by omega) (by decide) (fun c489 => ?_) (fun c489 => ?_)
        · refine v_iload 2 K dL_law_556 rfl ?_
          refine v_iconst K dL_law_558 ?_
          refine v_icmp_ne 764 K dL_law_559 (by decide) (by omega) (by decide) (fun c559 => ?_) (fun c559 => ?_)
          · refine v_iload 2 K dL_law_764 rfl ?_
            refine v_iconst K dL_law_766 ?_
            refine v_icmp_ne 978 K dL_law_767 (by decide) (by omega) (by decide) (fun c767 => ?_) (fun c767 => ?_)
            · refine v_sub [3, 4, 5, 6, 7, 8, 9, 10, 11, 12, 2, 1, 0] rfl ?_
              exact L978 a p x (by omega) (by omega)
            · refine v_sub [3, 4, 5, 6, 7, 8, 9, 10, 11, 12, 2, 1, 0] rfl ?_
              exact L770 a p x (by omega) (by omega)
          · refine v_sub [3, 4, 5, 6, 7, 8, 9, 10, 11, 12, 2, 1, 0] rfl ?_
            exact L562 a p x (by omega) (by omega)
        · refine v_sub [3, 4, 5, 6, 7, 8, 9, 10, 11, 12, 2, 1, 0] rfl ?_
          exact L492 a p x (by omega) (by omega)
      · refine v_sub [3, 4, 5, 6, 7, 8, 9, 10, 11, 12, 2, 1, 0] rfl ?_
        exact L423 a p x (by omega) (by omega)
    · refine v_sub [3, 4, 5, 6, 7, 8, 9, 10, 11, 12, 2, 1, 0] rfl ?_
      exact L353 a p x (by omega) (by omega)
  · refine v_sub [3, 4, 5, 6, 7, 8, 9, 10, 11, 12, 2, 1, 0] rfl ?_
    exact L256 a p x (by omega) (by omega)
