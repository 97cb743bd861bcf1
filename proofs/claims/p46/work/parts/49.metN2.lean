theorem dL_makes_0 : decode cL_makes 0 = .ok (.iconst 1, 1) := by decide +kernel
theorem dL_makes_1 : decode cL_makes 1 = .ok (.istore 7, 2) := by decide +kernel
theorem dL_makes_3 : decode cL_makes 3 = .ok (.iconst 0, 1) := by decide +kernel
theorem dL_makes_4 : decode cL_makes 4 = .ok (.istore 8, 2) := by decide +kernel
theorem dL_makes_6 : decode cL_makes 6 = .ok (.iload 8, 2) := by decide +kernel
theorem dL_makes_8 : decode cL_makes 8 = .ok (.iload_n 3, 1) := by decide +kernel
theorem dL_makes_9 : decode cL_makes 9 = .ok (.if_icmp .ge 118, 3) := by decide +kernel
theorem dL_makes_127 : decode cL_makes 127 = .ok (.iconst 0, 1) := by decide +kernel
theorem dL_makes_128 : decode cL_makes 128 = .ok (.istore 8, 2) := by decide +kernel
theorem dL_makes_130 : decode cL_makes 130 = .ok (.iload 8, 2) := by decide +kernel
theorem dL_makes_132 : decode cL_makes 132 = .ok (.iload 5, 2) := by decide +kernel
theorem dL_makes_134 : decode cL_makes 134 = .ok (.if_icmp .ge 249, 3) := by decide +kernel
theorem dL_makes_383 : decode cL_makes 383 = .ok (.iload 7, 2) := by decide +kernel
theorem dL_makes_385 : decode cL_makes 385 = .ok (.ireturn, 1) := by decide +kernel
theorem dL_makes_12 : decode cL_makes 12 = .ok (.aload_n 2, 1) := by decide +kernel
theorem dL_makes_13 : decode cL_makes 13 = .ok (.iconst 4, 1) := by decide +kernel
theorem dL_makes_14 : decode cL_makes 14 = .ok (.iload 8, 2) := by decide +kernel
theorem dL_makes_16 : decode cL_makes 16 = .ok (.imul, 1) := by decide +kernel
theorem dL_makes_17 : decode cL_makes 17 = .ok (.aload_n 1, 1) := by decide +kernel
theorem dL_makes_18 : decode cL_makes 18 = .ok (.bipush 20, 2) := by decide +kernel
theorem dL_makes_20 : decode cL_makes 20 = .ok (.iload 8, 2) := by decide +kernel
theorem dL_makes_22 : decode cL_makes 22 = .ok (.iadd, 1) := by decide +kernel
theorem dL_makes_23 : decode cL_makes 23 = .ok (.iconst 4, 1) := by decide +kernel
theorem dL_makes_24 : decode cL_makes 24 = .ok (.invokestatic 106, 3) := by decide +kernel
theorem dL_makes_27 : decode cL_makes 27 = .ok (.iastore, 1) := by decide +kernel
theorem dL_makes_28 : decode cL_makes 28 = .ok (.aload_n 2, 1) := by decide +kernel
theorem dL_makes_29 : decode cL_makes 29 = .ok (.iconst 4, 1) := by decide +kernel
theorem dL_makes_30 : decode cL_makes 30 = .ok (.iload 8, 2) := by decide +kernel
theorem dL_makes_32 : decode cL_makes 32 = .ok (.imul, 1) := by decide +kernel
theorem dL_makes_33 : decode cL_makes 33 = .ok (.iconst 1, 1) := by decide +kernel
theorem dL_makes_34 : decode cL_makes 34 = .ok (.iadd, 1) := by decide +kernel
theorem dL_makes_35 : decode cL_makes 35 = .ok (.aload_n 1, 1) := by decide +kernel
theorem dL_makes_36 : decode cL_makes 36 = .ok (.bipush 30, 2) := by decide +kernel
theorem dL_makes_38 : decode cL_makes 38 = .ok (.iload 8, 2) := by decide +kernel
theorem dL_makes_40 : decode cL_makes 40 = .ok (.iadd, 1) := by decide +kernel
theorem dL_makes_41 : decode cL_makes 41 = .ok (.bipush 21, 2) := by decide +kernel
theorem dL_makes_43 : decode cL_makes 43 = .ok (.invokestatic 106, 3) := by decide +kernel
theorem dL_makes_46 : decode cL_makes 46 = .ok (.iastore, 1) := by decide +kernel
theorem dL_makes_47 : decode cL_makes 47 = .ok (.aload_n 2, 1) := by decide +kernel
theorem dL_makes_48 : decode cL_makes 48 = .ok (.iconst 4, 1) := by decide +kernel
theorem dL_makes_49 : decode cL_makes 49 = .ok (.iload 8, 2) := by decide +kernel
theorem dL_makes_51 : decode cL_makes 51 = .ok (.imul, 1) := by decide +kernel
theorem dL_makes_52 : decode cL_makes 52 = .ok (.iconst 2, 1) := by decide +kernel
theorem dL_makes_53 : decode cL_makes 53 = .ok (.iadd, 1) := by decide +kernel
theorem dL_makes_54 : decode cL_makes 54 = .ok (.aload_n 1, 1) := by decide +kernel
theorem dL_makes_55 : decode cL_makes 55 = .ok (.bipush 40, 2) := by decide +kernel
theorem dL_makes_57 : decode cL_makes 57 = .ok (.iload 8, 2) := by decide +kernel
theorem dL_makes_59 : decode cL_makes 59 = .ok (.iadd, 1) := by decide +kernel
theorem dL_makes_60 : decode cL_makes 60 = .ok (.bipush 60, 2) := by decide +kernel
theorem dL_makes_62 : decode cL_makes 62 = .ok (.invokestatic 106, 3) := by decide +kernel
theorem dL_makes_65 : decode cL_makes 65 = .ok (.iastore, 1) := by decide +kernel
theorem dL_makes_66 : decode cL_makes 66 = .ok (.aload_n 2, 1) := by decide +kernel
theorem dL_makes_67 : decode cL_makes 67 = .ok (.iconst 4, 1) := by decide +kernel
theorem dL_makes_68 : decode cL_makes 68 = .ok (.iload 8, 2) := by decide +kernel
theorem dL_makes_70 : decode cL_makes 70 = .ok (.imul, 1) := by decide +kernel
theorem dL_makes_71 : decode cL_makes 71 = .ok (.iconst 3, 1) := by decide +kernel
theorem dL_makes_72 : decode cL_makes 72 = .ok (.iadd, 1) := by decide +kernel
theorem dL_makes_73 : decode cL_makes 73 = .ok (.iconst 0, 1) := by decide +kernel
theorem dL_makes_74 : decode cL_makes 74 = .ok (.iastore, 1) := by decide +kernel
theorem dL_makes_75 : decode cL_makes 75 = .ok (.iload 7, 2) := by decide +kernel
theorem dL_makes_77 : decode cL_makes 77 = .ok (.aload_n 0, 1) := by decide +kernel
theorem dL_makes_78 : decode cL_makes 78 = .ok (.ldc 109, 2) := by decide +kernel
theorem dL_makes_80 : decode cL_makes 80 = .ok (.aload_n 2, 1) := by decide +kernel
theorem dL_makes_81 : decode cL_makes 81 = .ok (.iconst 4, 1) := by decide +kernel
theorem dL_makes_82 : decode cL_makes 82 = .ok (.iload 8, 2) := by decide +kernel
theorem dL_makes_84 : decode cL_makes 84 = .ok (.imul, 1) := by decide +kernel
theorem dL_makes_85 : decode cL_makes 85 = .ok (.iaload, 1) := by decide +kernel
theorem dL_makes_86 : decode cL_makes 86 = .ok (.invokevirtual 111, 3) := by decide +kernel
set_option maxRecDepth 20000 in
theorem ggL_makes_J0_charAt_5068e : GoodIn wsL_makes wsJ0_charAt_5068e := goodIn_r _ [16, 17, 18, 19, 20, 15, 21, 22, 23, 24, 25, 26, 27, 28, 29, 30, 31, 32, 33, 34, 35, 36, 37, 38, 39, 40, 41, 42, 43, 44, 45, 46, 47, 48, 49, 50, 51, 52, 205, 206] (by decide +kernel) (by decide +kernel)
set_option maxRecDepth 20000 in
theorem gL_makes_J0_charAt_5068e : GoodIn wsL_makes (wsV RL 111 RJ0 yJ0_charAt_5068e wsJ0_charAt_5068e) := goodIn_app (goodIn_of _ (by decide +kernel)) ggL_makes_J0_charAt_5068e
theorem dL_makes_89 : decode cL_makes 89 = .ok (.aload_n 2, 1) := by decide +kernel
theorem dL_makes_90 : decode cL_makes 90 = .ok (.iconst 4, 1) := by decide +kernel
theorem dL_makes_91 : decode cL_makes 91 = .ok (.iload 8, 2) := by decide +kernel
theorem dL_makes_93 : decode cL_makes 93 = .ok (.imul, 1) := by decide +kernel
theorem dL_makes_94 : decode cL_makes 94 = .ok (.iconst 1, 1) := by decide +kernel
theorem dL_makes_95 : decode cL_makes 95 = .ok (.iadd, 1) := by decide +kernel
theorem dL_makes_96 : decode cL_makes 96 = .ok (.iaload, 1) := by decide +kernel
theorem dL_makes_97 : decode cL_makes 97 = .ok (.aload_n 2, 1) := by decide +kernel
theorem dL_makes_98 : decode cL_makes 98 = .ok (.iconst 4, 1) := by decide +kernel
theorem dL_makes_99 : decode cL_makes 99 = .ok (.iload 8, 2) := by decide +kernel
theorem dL_makes_101 : decode cL_makes 101 = .ok (.imul, 1) := by decide +kernel
theorem dL_makes_102 : decode cL_makes 102 = .ok (.iconst 2, 1) := by decide +kernel
theorem dL_makes_103 : decode cL_makes 103 = .ok (.iadd, 1) := by decide +kernel
theorem dL_makes_104 : decode cL_makes 104 = .ok (.iaload, 1) := by decide +kernel
theorem dL_makes_105 : decode cL_makes 105 = .ok (.invokestatic 117, 3) := by decide +kernel
set_option maxRecDepth 20000 in
theorem ggL_makes_L_addResource : GoodIn wsL_makes wsL_addResource := goodIn_ca (goodIn_ca (goodIn_ca (goodIn_r _ [55, 56, 57, 58, 59, 60, 61, 62, 63, 64, 65, 66, 67, 68, 69, 70, 71, 72, 73, 74, 75, 76, 77, 78, 79, 80, 81, 82, 83, 84, 85, 86, 87, 88, 89, 90, 91, 92, 93, 94, 95, 96, 97, 98, 99, 100, 101, 102, 103, 104, 105, 207, 208, 209, 210, 211, 212, 213, 214, 215, 216, 217, 218, 219, 220, 221, 222, 223, 224] (by decide +kernel) (by decide +kernel)) (goodIn_sub (fun _ h => List.mem_cons_of_mem _ (List.mem_append_left _ (List.mem_append_left _ (List.mem_append_left _ (List.mem_append_right _ h))))) (by decide +kernel))) (goodIn_sub (fun _ h => List.mem_cons_of_mem _ (List.mem_append_left _ (List.mem_append_left _ (List.mem_append_right _ h)))) (by decide +kernel))) (goodIn_sub (fun _ h => List.mem_cons_of_mem _ (List.mem_append_left _ (List.mem_append_left _ (List.mem_append_left _ (List.mem_append_left _ (List.mem_append_right _ h)))))) (by decide +kernel))
set_option maxRecDepth 20000 in
theorem gL_makes_L_addResource : GoodIn wsL_makes (va_wsS RL 117 yL_addResource wsL_addResource) := goodIn_app (goodIn_of _ (by decide +kernel)) ggL_makes_L_addResource
theorem dL_makes_108 : decode cL_makes 108 = .ok (.iload 8, 2) := by decide +kernel
theorem dL_makes_110 : decode cL_makes 110 = .ok (.if_icmp .ne 7, 3) := by decide +kernel
theorem dL_makes_113 : decode cL_makes 113 = .ok (.iconst 1, 1) := by decide +kernel
theorem dL_makes_114 : decode cL_makes 114 = .ok (.goto 4, 3) := by decide +kernel
theorem dL_makes_118 : decode cL_makes 118 = .ok (.iand, 1) := by decide +kernel
theorem dL_makes_119 : decode cL_makes 119 = .ok (.istore 7, 2) := by decide +kernel
theorem dL_makes_121 : decode cL_makes 121 = .ok (.iinc 8 1, 3) := by decide +kernel
theorem dL_makes_124 : decode cL_makes 124 = .ok (.goto (-118), 3) := by decide +kernel
set_option maxHeartbeats 4000000 in
set_option maxRecDepth 100000 in
theorem b_L_makes {X : VC} {σ : SX} {μ : Mem} (s : Nat) (n : Nat) (hs : 2 ≤ s ∧ s ≤ 5) (hn : 1 ≤ n ∧ n ≤ 5) (hF : F1 μ 0) (K : vK X cL_makes 12 RL wsL_makes ({ frames := 8, cells := 15, slots := 90, locals := 127 } : Room)) (SJ : lxJ X.2.2.2.1 X.2.1.1 σ) (hret : ∀ (z : Int) (ν : Mem), (fun (z : Int) (ν : Mem) => z = 1 ∧ LST ν s n 1) z ν → ∀ n pc k1 k2 lv, k1 ≤ 15 → k2 ≤ 90 → decode cL_makes pc = .ok (.ireturn, 1) → vW X n pc k1 k2 lv [.int (iZ z)] ν) : vW X 12 0 0 0 [(0, .ref (vAd X 0)), (1, .ref (σ.1.1)), (2, .ref (vAd X 49)), (3, .int (iZ (s : Int))), (4, .ref (vAd X 50)), (5, .int (iZ (n : Int))), (6, .ref (vAd X 51))] [] μ := by
  refine v_iconst K dL_makes_0 ?_
  refine v_istore [(7, .int (iZ 1)), (0, .ref (vAd X 0)), (1, .ref (σ.1.1)), (2, .ref (vAd X 49)), (3, .int (iZ (s : Int))), (4, .ref (vAd X 50)), (5, .int (iZ (n : Int))), (6, .ref (vAd X 51))] K dL_makes_1 (by decide) rfl ?_
  refine v_iconst K dL_makes_3 ?_
  refine v_istore [(8, .int (iZ 0)), (7, .int (iZ 1)), (0, .ref (vAd X 0)), (1, .ref (σ.1.1)), (2, .ref (vAd X 49)), (3, .int (iZ (s : Int))), (4, .ref (vAd X 50)), (5, .int (iZ (n : Int))), (6, .ref (vAd X 51))] K dL_makes_4 (by decide) rfl ?_
  have L6 : ∀ (fuel : Nat) (r : Nat) (ξ : Mem) (hm : 9 - r < fuel) (hr : r ≤ s) (hF1 : F1 ξ r), vW X 12 6 0 0 [(0, .ref (vAd X 0)), (1, .ref (σ.1.1)), (2, .ref (vAd X 49)), (3, .int (iZ (s : Int))), (4, .ref (vAd X 50)), (5, .int (iZ (n : Int))), (6, .ref (vAd X 51)), (7, .int (iZ 1)), (8, .int (iZ (r : Int)))] [] ξ := by
    intro fuel
    induction fuel with
    | zero => intro r ξ hm; exact absurd hm (Nat.not_lt_zero _)
    | succ fuel ih6 =>
      intro r ξ hm hr hF1
      refine v_iload 8 K dL_makes_6 rfl ?_
      refine v_iload_n 3 K dL_makes_8 rfl ?_
      refine v_icmp_ge 127 K dL_makes_9 (by decide) (by omega) (by omega) (fun c9 => ?_) (fun c9 => ?_)
      · have hrs : r = s := by omega
        rw [hrs] at hF1
        refine v_iconst K dL_makes_127 ?_
        refine v_istore [(8, .int (iZ 0)), (0, .ref (vAd X 0)), (1, .ref (σ.1.1)), (2, .ref (vAd X 49)), (3, .int (iZ (s : Int))), (4, .ref (vAd X 50)), (5, .int (iZ (n : Int))), (6, .ref (vAd X 51)), (7, .int (iZ 1))] K dL_makes_128 (by decide) rfl ?_
        have L130 : ∀ (fuel : Nat) (p : Nat) (η : Mem) (hm : 7 - p < fuel) (hp : p ≤ n) (hF2 : F2 η s p), vW X 12 130 (3 * p) (18 * p) [(0, .ref (vAd X 0)), (1, .ref (σ.1.1)), (2, .ref (vAd X 49)), (3, .int (iZ (s : Int))), (4, .ref (vAd X 50)), (5, .int (iZ (n : Int))), (6, .ref (vAd X 51)), (7, .int (iZ 1)), (8, .int (iZ (p : Int)))] [] η := by
          intro fuel
          induction fuel with
          | zero => intro p η hm; exact absurd hm (Nat.not_lt_zero _)
          | succ fuel ih130 =>
            intro p η hm hp hF2
            refine v_iload 8 K dL_makes_130 rfl ?_
            refine v_iload 5 K dL_makes_132 rfl ?_
            refine v_icmp_ge 383 K dL_makes_134 (by decide) (by omega) (by omega) (fun c134 => ?_) (fun c134 => ?_)
            · refine v_iload 7 K dL_makes_383 rfl ?_
              exact hret _ _ ⟨rfl, F2_LST (by rw [show p = n by omega] at hF2; exact hF2) hs hn⟩ _ _ _ _ _ (by omega) (by omega) dL_makes_385
            · refine gm_137 (3 * p) (18 * p) s n p (by omega) (by omega) hs hn (by omega) hF2 K SJ (fun ν hF5 => ?_)
              refine v_wid (c2 := (3 * (p + 1))) (s2 := (18 * (p + 1))) (by show (3 * p + 3) ≤ (3 * (p + 1)); omega) (by show (18 * p + 18) ≤ (18 * (p + 1)); omega) ?_
              exact ih130 (p + 1) ν (by omega) (by omega) hF5
        refine v_sub [1, 2, 3, 4, 5, 6, 7, 8, 0] rfl ?_
        refine v_eq (lv1 := [(0, .ref (vAd X 0)), (1, .ref (σ.1.1)), (2, .ref (vAd X 49)), (3, .int (iZ (s : Int))), (4, .ref (vAd X 50)), (5, .int (iZ (n : Int))), (6, .ref (vAd X 51)), (7, .int (iZ 1)), (8, .int (iZ ((0 : Nat) : Int)))]) (st1 := []) (v_c0 (v_c0 (v_c0 (v_c0 (v_c0 (v_c0 (v_c0 (v_c0 (v_cI (by first | rfl | omega) rfl))))))))) rfl ?_
        refine v_wid (c2 := (3 * 0)) (s2 := (18 * 0)) (by show 0 ≤ (3 * 0); omega) (by show 0 ≤ (18 * 0); omega) ?_
        exact L130 (7 - 0 + 1) 0 ξ (by omega) (by omega) (F2_0 hF1)
      · refine v_aload_n 2 K dL_makes_12 rfl ?_
        refine v_iconst K dL_makes_13 ?_
        refine v_iload 8 K dL_makes_14 rfl ?_
        refine v_imul K dL_makes_16 ?_
        refine v_aload_n 1 K dL_makes_17 rfl ?_
        refine v_bipush K dL_makes_18 (by decide) ?_
        refine v_iload 8 K dL_makes_20 rfl ?_
        refine v_iadd K dL_makes_22 ?_
        refine v_iconst K dL_makes_23 ?_
        refine v_in (σ := σ) (i := (20 + (r : Int))) (n := 4) K SJ (by omega) (by omega) gL_makes_L_in ⟨(Nat.le_of_ble_eq_true rfl), (Nat.le_of_ble_eq_true rfl)⟩ (Nat.le_of_ble_eq_true rfl) dL_makes_24 ⟨(Nat.le_of_ble_eq_true rfl), (Nat.le_of_ble_eq_true rfl)⟩ ?_
        obtain ⟨ka, eka⟩ : ∃ ka : Int, ka = (inV σ (20 + (r : Int)) 4) := ⟨_, rfl⟩
        refine v_top (b := ka) (congrArg iZ eka.symm) ?_
        have hka : 0 ≤ ka ∧ ka < 4 := in_rng0 eka (by decide)
        clear eka
        refine v_iast (c := 49) (4 * r) K isI_49 (by omega) (by omega) dL_makes_27 ?_
        obtain ⟨ξ1, eξ1⟩ : ∃ ξ1 : Mem, ξ1 = (upM ξ 49 (4 * r) ka) := ⟨_, rfl⟩
        rw [← eξ1]
        refine v_aload_n 2 K dL_makes_28 rfl ?_
        refine v_iconst K dL_makes_29 ?_
        refine v_iload 8 K dL_makes_30 rfl ?_
        refine v_imul K dL_makes_32 ?_
        refine v_iconst K dL_makes_33 ?_
        refine v_iadd K dL_makes_34 ?_
        refine v_aload_n 1 K dL_makes_35 rfl ?_
        refine v_bipush K dL_makes_36 (by decide) ?_
        refine v_iload 8 K dL_makes_38 rfl ?_
        refine v_iadd K dL_makes_40 ?_
        refine v_bipush K dL_makes_41 (by decide) ?_
        refine v_in (σ := σ) (i := (30 + (r : Int))) (n := 21) K SJ (by omega) (by omega) gL_makes_L_in ⟨(Nat.le_of_ble_eq_true rfl), (Nat.le_of_ble_eq_true rfl)⟩ (Nat.le_of_ble_eq_true rfl) dL_makes_43 ⟨(Nat.le_of_ble_eq_true rfl), (Nat.le_of_ble_eq_true rfl)⟩ ?_
        obtain ⟨aa, eaa⟩ : ∃ aa : Int, aa = (inV σ (30 + (r : Int)) 21) := ⟨_, rfl⟩
        refine v_top (b := aa) (congrArg iZ eaa.symm) ?_
        have haa : 0 ≤ aa ∧ aa < 21 := in_rng0 eaa (by decide)
        clear eaa
        refine v_iast (c := 49) ((4 * r) + 1) K isI_49 (by omega) (by omega) dL_makes_46 ?_
        obtain ⟨ξ2, eξ2⟩ : ∃ ξ2 : Mem, ξ2 = (upM ξ1 49 ((4 * r) + 1) aa) := ⟨_, rfl⟩
        rw [← eξ2]
        refine v_aload_n 2 K dL_makes_47 rfl ?_
        refine v_iconst K dL_makes_48 ?_
        refine v_iload 8 K dL_makes_49 rfl ?_
        refine v_imul K dL_makes_51 ?_
        refine v_iconst K dL_makes_52 ?_
        refine v_iadd K dL_makes_53 ?_
        refine v_aload_n 1 K dL_makes_54 rfl ?_
        refine v_bipush K dL_makes_55 (by decide) ?_
        refine v_iload 8 K dL_makes_57 rfl ?_
        refine v_iadd K dL_makes_59 ?_
        refine v_bipush K dL_makes_60 (by decide) ?_
        refine v_in (σ := σ) (i := (40 + (r : Int))) (n := 60) K SJ (by omega) (by omega) gL_makes_L_in ⟨(Nat.le_of_ble_eq_true rfl), (Nat.le_of_ble_eq_true rfl)⟩ (Nat.le_of_ble_eq_true rfl) dL_makes_62 ⟨(Nat.le_of_ble_eq_true rfl), (Nat.le_of_ble_eq_true rfl)⟩ ?_
        obtain ⟨bb, ebb⟩ : ∃ bb : Int, bb = (inV σ (40 + (r : Int)) 60) := ⟨_, rfl⟩
        refine v_top (b := bb) (congrArg iZ ebb.symm) ?_
        have hbb : 0 ≤ bb ∧ bb < 60 := in_rng0 ebb (by decide)
        clear ebb
        refine v_iast (c := 49) ((4 * r) + 2) K isI_49 (by omega) (by omega) dL_makes_65 ?_
        obtain ⟨ξ3, eξ3⟩ : ∃ ξ3 : Mem, ξ3 = (upM ξ2 49 ((4 * r) + 2) bb) := ⟨_, rfl⟩
        rw [← eξ3]
        refine v_aload_n 2 K dL_makes_66 rfl ?_
        refine v_iconst K dL_makes_67 ?_
        refine v_iload 8 K dL_makes_68 rfl ?_
        refine v_imul K dL_makes_70 ?_
        refine v_iconst K dL_makes_71 ?_
        refine v_iadd K dL_makes_72 ?_
        refine v_iconst K dL_makes_73 ?_
        refine v_iast (c := 49) ((4 * r) + 3) K isI_49 (by omega) (by omega) dL_makes_74 ?_
        obtain ⟨ξ4, eξ4⟩ : ∃ ξ4 : Mem, ξ4 = (upM ξ3 49 ((4 * r) + 3) 0) := ⟨_, rfl⟩
        rw [← eξ4]
        have h412 : ξ4 1 2 = (r : Int) := by rw [eξ4, upM_off (by omega), eξ3, upM_off (by omega), eξ2, upM_off (by omega), eξ1, upM_off (by omega)]; exact hF1.2.1
        refine v_iload 7 K dL_makes_75 rfl ?_
        refine v_aload_n 0 K dL_makes_77 rfl ?_
        refine v_ldcS K SJ.2.2.2.2.1 dL_makes_78 ?_
        refine v_aload_n 2 K dL_makes_80 rfl ?_
        refine v_iconst K dL_makes_81 ?_
        refine v_iload 8 K dL_makes_82 rfl ?_
        refine v_imul K dL_makes_84 ?_
        refine v_iald (c := 49) (4 * r) K isI_49 (by omega) (by omega) dL_makes_85 ?_
        refine v_top (b := ka) (by rw [eξ4, upM_ne (by omega), eξ3, upM_ne (by omega), eξ2, upM_ne (by omega), eξ1, upM_self]) ?_
        refine v_chc (σ := σ) K SJ (by omega) gL_makes_J0_charAt_5068e ⟨(Nat.le_of_ble_eq_true rfl), (Nat.le_of_ble_eq_true rfl)⟩ (Nat.le_of_ble_eq_true rfl) dL_makes_86 ⟨(Nat.le_of_ble_eq_true rfl), (Nat.le_of_ble_eq_true rfl)⟩ ?_
        refine v_aload_n 2 K dL_makes_89 rfl ?_
        refine v_iconst K dL_makes_90 ?_
        refine v_iload 8 K dL_makes_91 rfl ?_
        refine v_imul K dL_makes_93 ?_
        refine v_iconst K dL_makes_94 ?_
        refine v_iadd K dL_makes_95 ?_
        refine v_iald (c := 49) ((4 * r) + 1) K isI_49 (by omega) (by omega) dL_makes_96 ?_
        refine v_top (b := aa) (by rw [eξ4, upM_ne (by omega), eξ3, upM_ne (by omega), eξ2, upM_self]) ?_
        refine v_aload_n 2 K dL_makes_97 rfl ?_
        refine v_iconst K dL_makes_98 ?_
        refine v_iload 8 K dL_makes_99 rfl ?_
        refine v_imul K dL_makes_101 ?_
        refine v_iconst K dL_makes_102 ?_
        refine v_iadd K dL_makes_103 ?_
        refine v_iald (c := 49) ((4 * r) + 2) K isI_49 (by omega) (by omega) dL_makes_104 ?_
        refine v_top (b := bb) (by rw [eξ4, upM_ne (by omega), eξ3, upM_self]) ?_
        refine v_callSWi (As := [.ref (vAd X 0), .int (iZ (kdc ka)), .int (iZ aa), .int (iZ bb)]) (rest := [.int (iZ 1)]) K 4 (c_L_addResource X.1.2.1 K.2.2.2.2.2.2 _ _ _ ξ4 (kdc ka) aa bb (kdc_is hka) (by omega) (by omega) (by omega)) gL_makes_L_addResource rfl rfl rfl (by decide +kernel) ⟨(Nat.le_of_ble_eq_true rfl), (Nat.le_of_ble_eq_true rfl)⟩ rfl rfl (Nat.le_of_ble_eq_true rfl) dL_makes_105 ⟨(Nat.le_of_ble_eq_true rfl), (Nat.le_of_ble_eq_true rfl)⟩ (fun z105 ξ5 q105 => ?_)
        obtain ⟨hz105, hP5⟩ := q105
        rw [h412] at hz105
        rw [h412, Int.toNat_natCast] at hP5
        refine v_iload 8 K dL_makes_108 rfl ?_
        refine v_icmp_ne 117 K dL_makes_110 (by decide) (by omega) (by omega) (fun c110 => (by exfalso; omega)) (fun c110 => ?_)
        refine v_iconst K dL_makes_113 ?_
        refine v_goto 118 K dL_makes_114 (by decide) ?_
        refine v_iand (z := 1) rfl K dL_makes_118 ?_
        refine v_istore [(7, .int (iZ 1)), (0, .ref (vAd X 0)), (1, .ref (σ.1.1)), (2, .ref (vAd X 49)), (3, .int (iZ (s : Int))), (4, .ref (vAd X 50)), (5, .int (iZ (n : Int))), (6, .ref (vAd X 51)), (8, .int (iZ (r : Int)))] K dL_makes_119 (by decide) rfl ?_
        refine v_iinc 8 [(8, .int (iZ ((r : Int) + 1))), (7, .int (iZ 1)), (0, .ref (vAd X 0)), (1, .ref (σ.1.1)), (2, .ref (vAd X 49)), (3, .int (iZ (s : Int))), (4, .ref (vAd X 50)), (5, .int (iZ (n : Int))), (6, .ref (vAd X 51))] K dL_makes_121 rfl (by decide) rfl ?_
        refine v_goto 6 K dL_makes_124 (by decide) ?_
        refine v_sub [2, 3, 4, 5, 6, 7, 8, 1, 0] rfl ?_
        refine v_eq (lv1 := [(0, .ref (vAd X 0)), (1, .ref (σ.1.1)), (2, .ref (vAd X 49)), (3, .int (iZ (s : Int))), (4, .ref (vAd X 50)), (5, .int (iZ (n : Int))), (6, .ref (vAd X 51)), (7, .int (iZ 1)), (8, .int (iZ (((r + 1) : Nat) : Int)))]) (st1 := []) (v_c0 (v_c0 (v_c0 (v_c0 (v_c0 (v_c0 (v_c0 (v_c0 (v_cI (by first | rfl | omega) rfl))))))))) rfl ?_
        exact ih6 (r + 1) ξ5 (by omega) (by omega) (F1_s hF1 (by omega) hka ⟨haa.1, by omega⟩ ⟨hbb.1, by omega⟩ eξ1 eξ2 eξ3 eξ4 hP5)
  refine v_sub [2, 3, 4, 5, 6, 7, 8, 1, 0] rfl ?_
  refine v_eq (lv1 := [(0, .ref (vAd X 0)), (1, .ref (σ.1.1)), (2, .ref (vAd X 49)), (3, .int (iZ (s : Int))), (4, .ref (vAd X 50)), (5, .int (iZ (n : Int))), (6, .ref (vAd X 51)), (7, .int (iZ 1)), (8, .int (iZ ((0 : Nat) : Int)))]) (st1 := []) (v_c0 (v_c0 (v_c0 (v_c0 (v_c0 (v_c0 (v_c0 (v_c0 (v_cI (by first | rfl | omega) rfl))))))))) rfl ?_
  exact L6 (9 - 0 + 1) 0 μ (by omega) (by omega) hF
theorem c_L_makes (l : Launch) (hl : l.stackTraces = false) (D : va_G) (cy : Nat → ClassId) (ad : Nat → Nat) (μ : Mem) (σ : SX) (s : Nat) (n : Nat) (hs : 2 ≤ s ∧ s ≤ 5) (hn : 1 ≤ n ∧ n ≤ 5) (hF : F1 μ 0) : cIx l yL_makes wsL_makes ({ frames := 8, cells := 15, slots := 90, locals := 127 } : Room) D cy ad μ σ [.ref (ad 0), .ref (σ.1.1), .ref (ad 49), .int (iZ (s : Int)), .ref (ad 50), .int (iZ (n : Int)), .ref (ad 51)] (fun (z : Int) (ν : Mem) => z = 1 ∧ LST ν s n 1) :=
  m_intx (av := (fun ad => [.ref (ad 0), .ref (σ.1.1), .ref (ad 49), .int (iZ (s : Int)), .ref (ad 50), .int (iZ (n : Int)), .ref (ad 51)])) hl (by decide) rfl rfl (Nat.le_of_ble_eq_true rfl) (fun z ν q => (nar_z (by have := q.1; omega)).1) (fun X K SJ hret => b_L_makes s n hs hn hF K SJ hret)
