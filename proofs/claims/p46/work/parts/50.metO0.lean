theorem dL_law_44 : decode cL_law 44 = .ok (.aload_n 1, 1) := by decide +kernel
theorem dL_law_45 : decode cL_law 45 = .ok (.bipush 120, 2) := by decide +kernel
theorem dL_law_47 : decode cL_law 47 = .ok (.iconst 1, 1) := by decide +kernel
theorem dL_law_48 : decode cL_law 48 = .ok (.iconst 1, 1) := by decide +kernel
theorem dL_law_49 : decode cL_law 49 = .ok (.invokestatic 117, 3) := by decide +kernel
set_option maxRecDepth 20000 in
theorem ggL_law_L_addResource : GoodIn wsL_law wsL_addResource := goodIn_ca (goodIn_ca (goodIn_ca (goodIn_r _ [111, 112, 113, 4, 5, 114, 115, 116, 2, 117, 18, 118, 119, 120, 121, 122, 123, 124, 125, 126, 127, 128, 129, 130, 131, 132, 133, 134, 135, 136, 137, 17, 138, 139, 42, 140, 141, 142, 143, 144, 145, 44, 146, 56, 147, 148, 149, 150, 151, 53, 152, 602, 603, 604, 605, 606, 607, 608, 609, 610, 611, 612, 636, 637, 638, 639, 640, 641, 642] (by decide +kernel) (by decide +kernel)) (goodIn_sub (fun _ h => List.mem_append_left _ (List.mem_append_left _ (List.mem_append_left _ (List.mem_append_left _ (List.mem_append_right _ h))))) (by decide +kernel))) (goodIn_sub (fun _ h => List.mem_append_left _ (List.mem_append_left _ (List.mem_append_left _ (List.mem_append_right _ h)))) (by decide +kernel))) (goodIn_sub (fun _ h => List.mem_append_left _ (List.mem_append_left _ (List.mem_append_left _ (List.mem_append_left _ (List.mem_append_left _ (List.mem_append_right _ h)))))) (by decide +kernel))
set_option maxRecDepth 20000 in
theorem gL_law_L_addResource : GoodIn wsL_law (va_wsS RL 117 yL_addResource wsL_addResource) := goodIn_app (goodIn_of _ (by decide +kernel)) ggL_law_L_addResource
theorem dL_law_52 : decode cL_law 52 = .ok (.ldc 17, 2) := by decide +kernel
theorem dL_law_54 : decode cL_law 54 = .ok (.if_icmp .ne 113, 3) := by decide +kernel
theorem dL_law_57 : decode cL_law 57 = .ok (.aload_n 1, 1) := by decide +kernel
theorem dL_law_58 : decode cL_law 58 = .ok (.bipush 99, 2) := by decide +kernel
theorem dL_law_60 : decode cL_law 60 = .ok (.bipush 21, 2) := by decide +kernel
theorem dL_law_62 : decode cL_law 62 = .ok (.iconst 1, 1) := by decide +kernel
theorem dL_law_63 : decode cL_law 63 = .ok (.invokestatic 117, 3) := by decide +kernel
theorem dL_law_66 : decode cL_law 66 = .ok (.ldc 17, 2) := by decide +kernel
theorem dL_law_68 : decode cL_law 68 = .ok (.if_icmp .ne 99, 3) := by decide +kernel
theorem dL_law_71 : decode cL_law 71 = .ok (.aload_n 1, 1) := by decide +kernel
theorem dL_law_72 : decode cL_law 72 = .ok (.iconst 4, 1) := by decide +kernel
theorem dL_law_73 : decode cL_law 73 = .ok (.iconst 0, 1) := by decide +kernel
theorem dL_law_74 : decode cL_law 74 = .ok (.invokestatic 120, 3) := by decide +kernel
set_option maxRecDepth 20000 in
theorem ggL_law_L_addPlayer : GoodIn wsL_law wsL_addPlayer := goodIn_ca (goodIn_ca (goodIn_r _ [155, 112, 113, 4, 5, 156, 157, 158, 2, 159, 18, 160, 161, 162, 163, 124, 125, 126, 127, 122, 123, 164, 165, 166, 167, 132, 133, 168, 169, 170, 171, 17, 172, 173, 46, 174, 175, 602, 603, 604, 605, 606, 607, 608, 609, 610, 611, 612, 643, 644, 645, 646, 647, 648] (by decide +kernel) (by decide +kernel)) (goodIn_sub (fun _ h => List.mem_append_left _ (List.mem_append_left _ (List.mem_append_left _ (List.mem_append_left _ (List.mem_append_right _ h))))) (by decide +kernel))) (goodIn_sub (fun _ h => List.mem_append_left _ (List.mem_append_left _ (List.mem_append_left _ (List.mem_append_right _ h)))) (by decide +kernel))
set_option maxRecDepth 20000 in
theorem gL_law_L_addPlayer : GoodIn wsL_law (va_wsS RL 120 yL_addPlayer wsL_addPlayer) := goodIn_app (goodIn_of _ (by decide +kernel)) ggL_law_L_addPlayer
theorem dL_law_77 : decode cL_law 77 = .ok (.ldc 17, 2) := by decide +kernel
theorem dL_law_79 : decode cL_law 79 = .ok (.if_icmp .ne 88, 3) := by decide +kernel
theorem dL_law_82 : decode cL_law 82 = .ok (.aload_n 1, 1) := by decide +kernel
theorem dL_law_83 : decode cL_law 83 = .ok (.iconst 0, 1) := by decide +kernel
theorem dL_law_84 : decode cL_law 84 = .ok (.invokestatic 131, 3) := by decide +kernel
theorem dL_law_87 : decode cL_law 87 = .ok (.ldc 17, 2) := by decide +kernel
theorem dL_law_89 : decode cL_law 89 = .ok (.if_icmp .ne 78, 3) := by decide +kernel
theorem dL_law_92 : decode cL_law 92 = .ok (.aload_n 1, 1) := by decide +kernel
theorem dL_law_93 : decode cL_law 93 = .ok (.iconst 0, 1) := by decide +kernel
theorem dL_law_94 : decode cL_law 94 = .ok (.invokestatic 126, 3) := by decide +kernel
theorem dL_law_97 : decode cL_law 97 = .ok (.ldc 17, 2) := by decide +kernel
theorem dL_law_99 : decode cL_law 99 = .ok (.if_icmp .ne 68, 3) := by decide +kernel
theorem dL_law_102 : decode cL_law 102 = .ok (.aload_n 1, 1) := by decide +kernel
theorem dL_law_103 : decode cL_law 103 = .ok (.aload_n 0, 1) := by decide +kernel
theorem dL_law_104 : decode cL_law 104 = .ok (.aload 4, 2) := by decide +kernel
theorem dL_law_106 : decode cL_law 106 = .ok (.iload_n 2, 1) := by decide +kernel
theorem dL_law_107 : decode cL_law 107 = .ok (.aload 5, 2) := by decide +kernel
theorem dL_law_109 : decode cL_law 109 = .ok (.iload_n 3, 1) := by decide +kernel
theorem dL_law_110 : decode cL_law 110 = .ok (.aload 6, 2) := by decide +kernel
theorem dL_law_112 : decode cL_law 112 = .ok (.invokestatic 133, 3) := by decide +kernel
set_option maxRecDepth 20000 in
theorem ggL_law_L_makes : GoodIn wsL_law wsL_makes := goodIn_ca (goodIn_ca (goodIn_ca (goodIn_ca (goodIn_ca (goodIn_r _ [226, 227, 99, 100, 101, 102, 103, 104, 105, 106, 107, 108, 228, 229, 230, 231, 232, 233, 234, 235, 236, 237, 238, 239, 240, 241, 242, 243, 244, 245, 246, 247, 248, 249, 250, 251, 252, 253, 254, 255, 256, 257, 258, 259, 260, 261, 262, 263, 264, 265, 266, 267, 268, 109, 110, 111, 112, 113, 4, 5, 114, 115, 116, 2, 117, 18, 118, 119, 120, 121, 122, 123, 124, 125, 126, 127, 128, 129, 130, 131, 132, 133, 134, 135, 136, 137, 17, 138, 139, 42, 140, 141, 142, 143, 144, 145, 44, 146, 56, 147, 148, 149, 150, 151, 53, 152, 153, 154, 155, 156, 157, 158, 159, 160, 161, 162, 163, 164, 165, 166, 167, 168, 169, 170, 171, 172, 173, 46, 174, 175, 269, 270, 271, 179, 272, 273, 274, 275, 22, 276, 198, 199, 200, 201, 189, 190, 191, 192, 193, 194, 195, 196, 197, 202, 203, 204, 205, 206, 207, 208, 209, 210, 211, 212, 213, 214, 215, 48, 216, 217, 62, 218, 219, 220, 221, 222, 223, 277, 278, 279, 280, 281, 282, 283, 284, 285, 286, 287, 288, 289, 290, 291, 292, 293, 294, 295, 296, 297, 298, 299, 300, 301, 302, 303, 304, 649, 650, 602, 603, 604, 605, 606, 607, 608, 609, 610, 611, 612, 636, 637, 638, 639, 640, 641, 642, 643, 644, 645, 646, 647, 648, 613, 614, 615] (by decide +kernel) (by decide +kernel)) (goodIn_sub (fun _ h => List.mem_append_left _ (List.mem_append_left _ (List.mem_append_left _ (List.mem_append_left _ (List.mem_append_left _ (List.mem_append_right _ h)))))) (by decide +kernel))) (goodIn_sub (fun _ h => List.mem_append_left _ (List.mem_append_left _ (List.mem_append_left _ (List.mem_append_left _ (List.mem_append_right _ h))))) (by decide +kernel))) (goodIn_sub (fun _ h => List.mem_append_left _ (List.mem_append_left _ (List.mem_append_left _ (List.mem_append_right _ h)))) (by decide +kernel))) (goodIn_sub (fun _ h => List.mem_append_left _ (List.mem_append_left _ (List.mem_append_right _ h))) (by decide +kernel))) (goodIn_sub (fun _ h => List.mem_append_left _ (List.mem_append_right _ h)) (by decide +kernel))
set_option maxRecDepth 20000 in
theorem gL_law_L_makes : GoodIn wsL_law (va_wsS RL 133 yL_makes wsL_makes) := goodIn_app (goodIn_of _ (by decide +kernel)) ggL_law_L_makes
theorem dL_law_115 : decode cL_law 115 = .ok (.ifCond .eq 52, 3) := by decide +kernel
theorem dL_law_118 : decode cL_law 118 = .ok (.aload_n 1, 1) := by decide +kernel
theorem dL_law_119 : decode cL_law 119 = .ok (.iconst 0, 1) := by decide +kernel
theorem dL_law_120 : decode cL_law 120 = .ok (.iconst 0, 1) := by decide +kernel
theorem dL_law_121 : decode cL_law 121 = .ok (.invokestatic 128, 3) := by decide +kernel
set_option maxRecDepth 20000 in
theorem ggL_law_L_addWay : GoodIn wsL_law wsL_addWay := goodIn_ca (goodIn_ca (goodIn_ca (goodIn_ca (goodIn_ca (goodIn_r _ [279, 179, 112, 280, 113, 4, 5, 227, 281, 282, 283, 284, 2, 285, 122, 123, 286, 287, 132, 133, 18, 134, 22, 288, 289, 290, 198, 199, 200, 201, 189, 190, 168, 291, 292, 293, 48, 294, 217, 62, 295, 296, 297, 17, 298, 46, 299, 300, 301, 302, 303, 304, 206, 139, 211, 174, 213, 214, 215, 216, 218, 219, 602, 603, 604, 605, 606, 607, 608, 609, 610, 611, 612, 613, 614, 615, 643, 644, 645, 646, 647, 648] (by decide +kernel) (by decide +kernel)) (goodIn_sub (fun _ h => List.mem_append_left _ (List.mem_append_left _ (List.mem_append_left _ (List.mem_append_left _ (List.mem_append_right _ h))))) (by decide +kernel))) (goodIn_sub (fun _ h => List.mem_append_left _ (List.mem_append_right _ h)) (by decide +kernel))) (goodIn_sub (fun _ h => List.mem_append_left _ (List.mem_append_left _ (List.mem_append_left _ (List.mem_append_right _ h)))) (by decide +kernel))) (goodIn_sub (fun _ h => List.mem_append_left _ (List.mem_append_left _ (List.mem_append_right _ h))) (by decide +kernel))) (goodIn_sub (fun _ h => List.mem_append_left _ (List.mem_append_left _ (List.mem_append_left _ (List.mem_append_left _ (List.mem_append_left _ (List.mem_append_right _ h)))))) (by decide +kernel))
set_option maxRecDepth 20000 in
theorem gL_law_L_addWay : GoodIn wsL_law (va_wsS RL 128 yL_addWay wsL_addWay) := goodIn_app (goodIn_of _ (by decide +kernel)) ggL_law_L_addWay
theorem dL_law_124 : decode cL_law 124 = .ok (.ldc 20, 2) := by decide +kernel
theorem dL_law_126 : decode cL_law 126 = .ok (.if_icmp .ne 41, 3) := by decide +kernel
theorem dL_law_129 : decode cL_law 129 = .ok (.aload_n 1, 1) := by decide +kernel
theorem dL_law_130 : decode cL_law 130 = .ok (.iconst 0, 1) := by decide +kernel
theorem dL_law_131 : decode cL_law 131 = .ok (.iconst 1, 1) := by decide +kernel
theorem dL_law_132 : decode cL_law 132 = .ok (.iload_n 2, 1) := by decide +kernel
theorem dL_law_133 : decode cL_law 133 = .ok (.ishl, 1) := by decide +kernel
theorem dL_law_134 : decode cL_law 134 = .ok (.invokestatic 128, 3) := by decide +kernel
theorem dL_law_137 : decode cL_law 137 = .ok (.ldc 20, 2) := by decide +kernel
theorem dL_law_139 : decode cL_law 139 = .ok (.if_icmp .ne 28, 3) := by decide +kernel
theorem dL_law_142 : decode cL_law 142 = .ok (.aload_n 1, 1) := by decide +kernel
theorem dL_law_143 : decode cL_law 143 = .ok (.iload_n 3, 1) := by decide +kernel
theorem dL_law_144 : decode cL_law 144 = .ok (.iconst 1, 1) := by decide +kernel
theorem dL_law_145 : decode cL_law 145 = .ok (.invokestatic 128, 3) := by decide +kernel
theorem dL_law_148 : decode cL_law 148 = .ok (.ldc 17, 2) := by decide +kernel
theorem dL_law_150 : decode cL_law 150 = .ok (.if_icmp .ne 17, 3) := by decide +kernel
theorem dL_law_153 : decode cL_law 153 = .ok (.aload_n 1, 1) := by decide +kernel
theorem dL_law_154 : decode cL_law 154 = .ok (.iconst 0, 1) := by decide +kernel
theorem dL_law_155 : decode cL_law 155 = .ok (.invokestatic 137, 3) := by decide +kernel
set_option maxRecDepth 20000 in
theorem ggL_law_L_setSeed : GoodIn wsL_law wsL_setSeed := goodIn_ca (goodIn_r _ [307, 112, 4, 308, 309, 310, 2, 311, 312, 36, 124, 125, 126, 127, 122, 123, 602, 603, 604, 605, 606, 607, 608] (by decide +kernel) (by decide +kernel)) (goodIn_sub (fun _ h => List.mem_append_left _ (List.mem_append_left _ (List.mem_append_left _ (List.mem_append_left _ (List.mem_append_right _ h))))) (by decide +kernel))
set_option maxRecDepth 20000 in
theorem gL_law_L_setSeed : GoodIn wsL_law (va_wsS RL 137 yL_setSeed wsL_setSeed) := goodIn_app (goodIn_of _ (by decide +kernel)) ggL_law_L_setSeed
theorem dL_law_158 : decode cL_law 158 = .ok (.ldc 17, 2) := by decide +kernel
theorem dL_law_160 : decode cL_law 160 = .ok (.if_icmp .ne 7, 3) := by decide +kernel
theorem dL_law_163 : decode cL_law 163 = .ok (.iconst 1, 1) := by decide +kernel
theorem dL_law_164 : decode cL_law 164 = .ok (.goto 4, 3) := by decide +kernel
theorem dL_law_168 : decode cL_law 168 = .ok (.istore 7, 2) := by decide +kernel
theorem dL_law_170 : decode cL_law 170 = .ok (.iconst 1, 1) := by decide +kernel
theorem dL_law_171 : decode cL_law 171 = .ok (.aload_n 0, 1) := by decide +kernel
theorem dL_law_172 : decode cL_law 172 = .ok (.iconst 2, 1) := by decide +kernel
theorem dL_law_173 : decode cL_law 173 = .ok (.ldc 139, 2) := by decide +kernel
theorem dL_law_175 : decode cL_law 175 = .ok (.invokestatic 106, 3) := by decide +kernel
set_option maxRecDepth 20000 in
theorem ggL_law_L_in : GoodIn wsL_law wsL_in := goodIn_ca (goodIn_r _ [102, 103, 104, 105, 101, 106, 107, 108] (by decide +kernel) (by decide +kernel)) (goodIn_sub (fun _ h => List.mem_append_left _ (List.mem_append_left _ (List.mem_append_left _ (List.mem_append_left _ (List.mem_append_left _ (List.mem_append_right _ h)))))) (by decide +kernel))
set_option maxRecDepth 20000 in
theorem gL_law_L_in : GoodIn wsL_law (va_wsS RL 106 yL_in wsL_in) := goodIn_app (goodIn_of _ (by decide +kernel)) ggL_law_L_in
theorem dL_law_178 : decode cL_law 178 = .ok (.iadd, 1) := by decide +kernel
theorem dL_law_179 : decode cL_law 179 = .ok (.istore 8, 2) := by decide +kernel
theorem dL_law_181 : decode cL_law 181 = .ok (.iload 7, 2) := by decide +kernel
theorem dL_law_183 : decode cL_law 183 = .ok (.aload_n 1, 1) := by decide +kernel
theorem dL_law_184 : decode cL_law 184 = .ok (.iload 8, 2) := by decide +kernel
theorem dL_law_186 : decode cL_law 186 = .ok (.invokestatic 137, 3) := by decide +kernel
theorem dL_law_189 : decode cL_law 189 = .ok (.iconst 1, 1) := by decide +kernel
theorem dL_law_190 : decode cL_law 190 = .ok (.if_icmp .ne 7, 3) := by decide +kernel
theorem dL_law_193 : decode cL_law 193 = .ok (.iconst 1, 1) := by decide +kernel
theorem dL_law_194 : decode cL_law 194 = .ok (.goto 4, 3) := by decide +kernel
theorem dL_law_198 : decode cL_law 198 = .ok (.iand, 1) := by decide +kernel
theorem dL_law_199 : decode cL_law 199 = .ok (.istore 7, 2) := by decide +kernel
theorem dL_law_201 : decode cL_law 201 = .ok (.iconst 0, 1) := by decide +kernel
theorem dL_law_202 : decode cL_law 202 = .ok (.istore 9, 2) := by decide +kernel
set_option maxHeartbeats 8000000 in
set_option maxRecDepth 100000 in
theorem gs_44 {X : VC} {σ : SX} {μ : Mem} (kc : Nat) (ks : Nat) (s : Nat) (n : Nat) (hkc : kc ≤ 500000) (hks : ks ≤ 6000000) (hs : 2 ≤ s ∧ s ≤ 5) (hn : 1 ≤ n ∧ n ≤ 5) (hF : F1 μ 0) (K : vK X cL_law 28 RL wsL_law rmL) (SJ : lxJ X.2.2.2.1 X.2.1.1 σ) (L204 : ∀ (z : Int) (ν : Mem) (hst : LST ν s n z), vW X 28 204 (kc + 60) (ks + 600) [(0, .ref (σ.1.1)), (1, .ref (vAd X 0)), (2, .int (iZ (s : Int))), (3, .int (iZ (n : Int))), (4, .ref (vAd X 49)), (5, .ref (vAd X 50)), (6, .ref (vAd X 51)), (7, .int (iZ 1)), (8, .int (iZ z)), (9, .int (iZ 0))] [] ν) : vW X 28 44 kc ks [(0, .ref (σ.1.1)), (1, .ref (vAd X 0)), (2, .int (iZ (s : Int))), (3, .int (iZ (n : Int))), (4, .ref (vAd X 49)), (5, .ref (vAd X 50)), (6, .ref (vAd X 51))] [] μ := by
  have h12 : μ 1 2 = 0 := by have := hF.2.1; omega
  have h13 : μ 1 3 = 0 := hF.2.2.1
  have hall := (or4_of hs).rng9
  refine v_aload_n 1 K dL_law_44 rfl ?_
  refine v_bipush K dL_law_45 (by decide) ?_
  refine v_iconst K dL_law_47 ?_
  refine v_iconst K dL_law_48 ?_
  refine v_callSWir (As := [.ref (vAd X 0), .int (iZ 120), .int (iZ 1), .int (iZ 1)]) (rest := []) K 4 (c_L_addResourceT X.1.2.1 K.2.2.2.2.2.2 _ _ _ μ 120 1 1 (by omega) (by omega)) gL_law_L_addResource rfl rfl rfl (by decide +kernel) ⟨(Nat.le_of_ble_eq_true rfl), (Nat.le_of_ble_eq_true rfl)⟩ rfl rfl (Nat.le_of_ble_eq_true rfl) dL_law_49 ⟨(by show kc + 1 ≤ 600258; omega), (by show ks + 6 ≤ 7292426; omega)⟩ ?_
  refine v_ldc (v := (-900001)) (n := (-900001)) K (List.mem_append_left _ (List.mem_append_left _ (List.mem_append_left _ (List.mem_append_left _ (List.mem_append_left _ (List.mem_append_left _ (List.mem_append_left _ (List.mem_append_left _ (List.mem_append_left _ (List.mem_append_left _ (List.mem_append_left _ (List.mem_append_left _ (List.mem_append_left _ (List.mem_append_left _ (List.mem_append_left _ (List.mem_append_left _ (List.mem_append_left _ (List.mem_of_getElem? (i := 4) rfl)))))))))))))))))) dL_law_52 (by decide) ?_
  refine v_icmp_ne 167 K dL_law_54 (by decide) (by decide) (by decide) (fun c54 => (by exfalso; omega)) (fun c54 => ?_)
  refine v_aload_n 1 K dL_law_57 rfl ?_
  refine v_bipush K dL_law_58 (by decide) ?_
  refine v_bipush K dL_law_60 (by decide) ?_
  refine v_iconst K dL_law_62 ?_
  refine v_callSWir (As := [.ref (vAd X 0), .int (iZ 99), .int (iZ 21), .int (iZ 1)]) (rest := []) K 4 (c_L_addResourceT2 X.1.2.1 K.2.2.2.2.2.2 _ _ _ μ 21 1 (by omega)) gL_law_L_addResource rfl rfl rfl (by decide +kernel) ⟨(Nat.le_of_ble_eq_true rfl), (Nat.le_of_ble_eq_true rfl)⟩ rfl rfl (Nat.le_of_ble_eq_true rfl) dL_law_63 ⟨(by show (kc + 1) + 1 ≤ 600258; omega), (by show (ks + 6) + 6 ≤ 7292426; omega)⟩ ?_
  refine v_ldc (v := (-900001)) (n := (-900001)) K (List.mem_append_left _ (List.mem_append_left _ (List.mem_append_left _ (List.mem_append_left _ (List.mem_append_left _ (List.mem_append_left _ (List.mem_append_left _ (List.mem_append_left _ (List.mem_append_left _ (List.mem_append_left _ (List.mem_append_left _ (List.mem_append_left _ (List.mem_append_left _ (List.mem_append_left _ (List.mem_append_left _ (List.mem_append_left _ (List.mem_append_left _ (List.mem_of_getElem? (i := 4) rfl)))))))))))))))))) dL_law_66 (by decide) ?_
  refine v_icmp_ne 167 K dL_law_68 (by decide) (by decide) (by decide) (fun c68 => (by exfalso; omega)) (fun c68 => ?_)
  refine v_aload_n 1 K dL_law_71 rfl ?_
  refine v_iconst K dL_law_72 ?_
  refine v_iconst K dL_law_73 ?_
  refine v_callSWir (As := [.ref (vAd X 0), .int (iZ 4), .int (iZ 0)]) (rest := []) K 3 (c_L_addPlayerT X.1.2.1 K.2.2.2.2.2.2 _ _ _ μ 4 0 (by omega)) gL_law_L_addPlayer rfl rfl rfl (by decide +kernel) ⟨(Nat.le_of_ble_eq_true rfl), (Nat.le_of_ble_eq_true rfl)⟩ rfl rfl (Nat.le_of_ble_eq_true rfl) dL_law_74 ⟨(by show ((kc + 1) + 1) + 1 ≤ 600258; omega), (by show ((ks + 6) + 6) + 6 ≤ 7292426; omega)⟩ ?_
  refine v_ldc (v := (-900001)) (n := (-900001)) K (List.mem_append_left _ (List.mem_append_left _ (List.mem_append_left _ (List.mem_append_left _ (List.mem_append_left _ (List.mem_append_left _ (List.mem_append_left _ (List.mem_append_left _ (List.mem_append_left _ (List.mem_append_left _ (List.mem_append_left _ (List.mem_append_left _ (List.mem_append_left _ (List.mem_append_left _ (List.mem_append_left _ (List.mem_append_left _ (List.mem_append_left _ (List.mem_of_getElem? (i := 4) rfl)))))))))))))))))) dL_law_77 (by decide) ?_
  refine v_icmp_ne 167 K dL_law_79 (by decide) (by decide) (by decide) (fun c79 => (by exfalso; omega)) (fun c79 => ?_)
  refine v_aload_n 1 K dL_law_82 rfl ?_
  refine v_iconst K dL_law_83 ?_
  refine v_callSWir (As := [.ref (vAd X 0), .int (iZ 0)]) (rest := []) K 2 (c_L_getLoadT X.1.2.1 K.2.2.2.2.2.2 _ _ _ μ 0 (by omega) (by omega)) gL_law_L_getLoad rfl rfl rfl (by decide +kernel) ⟨(Nat.le_of_ble_eq_true rfl), (Nat.le_of_ble_eq_true rfl)⟩ rfl rfl (Nat.le_of_ble_eq_true rfl) dL_law_84 ⟨(by show (((kc + 1) + 1) + 1) + 1 ≤ 600258; omega), (by show (((ks + 6) + 6) + 6) + 6 ≤ 7292426; omega)⟩ ?_
  refine v_ldc (v := (-900001)) (n := (-900001)) K (List.mem_append_left _ (List.mem_append_left _ (List.mem_append_left _ (List.mem_append_left _ (List.mem_append_left _ (List.mem_append_left _ (List.mem_append_left _ (List.mem_append_left _ (List.mem_append_left _ (List.mem_append_left _ (List.mem_append_left _ (List.mem_append_left _ (List.mem_append_left _ (List.mem_append_left _ (List.mem_append_left _ (List.mem_append_left _ (List.mem_append_left _ (List.mem_of_getElem? (i := 4) rfl)))))))))))))))))) dL_law_87 (by decide) ?_
  refine v_icmp_ne 167 K dL_law_89 (by decide) (by decide) (by decide) (fun c89 => (by exfalso; omega)) (fun c89 => ?_)
  refine v_aload_n 1 K dL_law_92 rfl ?_
  refine v_iconst K dL_law_93 ?_
  refine v_callSWir (As := [.ref (vAd X 0), .int (iZ 0)]) (rest := []) K 2 (c_L_getCostT X.1.2.1 K.2.2.2.2.2.2 _ _ _ μ 0 (by omega) (by omega)) gL_law_L_getCost rfl rfl rfl (by decide +kernel) ⟨(Nat.le_of_ble_eq_true rfl), (Nat.le_of_ble_eq_true rfl)⟩ rfl rfl (Nat.le_of_ble_eq_true rfl) dL_law_94 ⟨(by show ((((kc + 1) + 1) + 1) + 1) + 1 ≤ 600258; omega), (by show ((((ks + 6) + 6) + 6) + 6) + 6 ≤ 7292426; omega)⟩ ?_
  refine v_ldc (v := (-900001)) (n := (-900001)) K (List.mem_append_left _ (List.mem_append_left _ (List.mem_append_left _ (List.mem_append_left _ (List.mem_append_left _ (List.mem_append_left _ (List.mem_append_left _ (List.mem_append_left _ (List.mem_append_left _ (List.mem_append_left _ (List.mem_append_left _ (List.mem_append_left _ (List.mem_append_left _ (List.mem_append_left _ (List.mem_append_left _ (List.mem_append_left _ (List.mem_append_left _ (List.mem_of_getElem? (i := 4) rfl)))))))))))))))))) dL_law_97 (by decide) ?_
  refine v_icmp_ne 167 K dL_law_99 (by decide) (by decide) (by decide) (fun c99 => (by exfalso; omega)) (fun c99 => ?_)
  refine v_aload_n 1 K dL_law_102 rfl ?_
  refine v_aload_n 0 K dL_law_103 rfl ?_
  refine v_aload 4 K dL_law_104 rfl ?_
  refine v_iload_n 2 K dL_law_106 rfl ?_
  refine v_aload 5 K dL_law_107 rfl ?_
  refine v_iload_n 3 K dL_law_109 rfl ?_
  refine v_aload 6 K dL_law_110 rfl ?_
  refine v_callSxi (σ := σ) (As := [.ref (vAd X 0), .ref (σ.1.1), .ref (vAd X 49), .int (iZ (s : Int)), .ref (vAd X 50), .int (iZ (n : Int)), .ref (vAd X 51)]) (rest := []) K SJ 7 (c_L_makes X.1.2.1 K.2.2.2.2.2.2 _ _ _ μ σ s n hs hn hF) gL_law_L_makes rfl rfl rfl (by decide +kernel) ⟨(Nat.le_of_ble_eq_true rfl), (Nat.le_of_ble_eq_true rfl)⟩ rfl rfl (Nat.le_of_ble_eq_true rfl) dL_law_112 ⟨(by show (((((kc + 1) + 1) + 1) + 1) + 1) + 15 ≤ 600258; omega), (by show (((((ks + 6) + 6) + 6) + 6) + 6) + 90 ≤ 7292426; omega)⟩ (fun z112 ν1 q112 => ?_)
  obtain ⟨hz112, hst⟩ := q112
  have hW := hst.1
  have hR := hst.2.2.2.1
  have hrs := hR.1
  have hrn := hR.2.1
  have h6 := hW.pc6
  refine v_if_eq 167 K dL_law_115 (by decide) (by omega) (fun c115 => (by exfalso; omega)) (fun c115 => ?_)
  refine v_aload_n 1 K dL_law_118 rfl ?_
  refine v_iconst K dL_law_119 ?_
  refine v_iconst K dL_law_120 ?_
  refine v_eq (lv1 := [(0, .ref (σ.1.1)), (1, .ref (vAd X 0)), (2, .int (iZ (s : Int))), (3, .int (iZ (n : Int))), (4, .ref (vAd X 49)), (5, .ref (vAd X 50)), (6, .ref (vAd X 51))]) (st1 := [.int (iZ 0), .int (iZ ((0 : Nat) : Int)), .ref (vAd X 0)]) rfl (v_s0 (v_sI (by omega) (v_s0 rfl))) ?_
  refine v_callSWir (As := [.ref (vAd X 0), .int (iZ ((0 : Nat) : Int)), .int (iZ 0)]) (rest := []) K 3 (c_L_addWayT X.1.2.1 K.2.2.2.2.2.2 _ _ _ ν1 0 0 (by omega) (by omega) (by omega) (Or.inl (by omega))) gL_law_L_addWay rfl rfl rfl (by decide +kernel) ⟨(Nat.le_of_ble_eq_true rfl), (Nat.le_of_ble_eq_true rfl)⟩ rfl rfl (Nat.le_of_ble_eq_true rfl) dL_law_121 ⟨(by show ((((((kc + 1) + 1) + 1) + 1) + 1) + 15) + 1 ≤ 600258; omega), (by show ((((((ks + 6) + 6) + 6) + 6) + 6) + 90) + 6 ≤ 7292426; omega)⟩ ?_
  refine v_ldc (v := (-900002)) (n := (-900002)) K (List.mem_append_left _ (List.mem_append_left _ (List.mem_append_left _ (List.mem_append_left _ (List.mem_append_left _ (List.mem_append_left _ (List.mem_append_left _ (List.mem_append_left _ (List.mem_append_left _ (List.mem_append_left _ (List.mem_append_left _ (List.mem_append_left _ (List.mem_append_left _ (List.mem_append_left _ (List.mem_append_left _ (List.mem_append_left _ (List.mem_append_left _ (List.mem_of_getElem? (i := 5) rfl)))))))))))))))))) dL_law_124 (by decide) ?_
  refine v_icmp_ne 167 K dL_law_126 (by decide) (by decide) (by decide) (fun c126 => (by exfalso; omega)) (fun c126 => ?_)
  refine v_aload_n 1 K dL_law_129 rfl ?_
  refine v_iconst K dL_law_130 ?_
  refine v_iconst K dL_law_131 ?_
  refine v_iload_n 2 K dL_law_132 rfl ?_
  refine v_ishl (z := ((2 ^ s : Nat) : Int)) (iZ_shl1 _ (by omega)) K dL_law_133 ?_
  refine v_eq (lv1 := [(0, .ref (σ.1.1)), (1, .ref (vAd X 0)), (2, .int (iZ (s : Int))), (3, .int (iZ (n : Int))), (4, .ref (vAd X 49)), (5, .ref (vAd X 50)), (6, .ref (vAd X 51))]) (st1 := [.int (iZ ((2 ^ s : Nat) : Int)), .int (iZ ((0 : Nat) : Int)), .ref (vAd X 0)]) rfl (v_s0 (v_sI (by omega) (v_s0 rfl))) ?_
  refine v_callSWir (As := [.ref (vAd X 0), .int (iZ ((0 : Nat) : Int)), .int (iZ ((2 ^ s : Nat) : Int))]) (rest := []) K 3 (c_L_addWayT X.1.2.1 K.2.2.2.2.2.2 _ _ _ ν1 0 ((2 ^ s : Nat) : Int) (by omega) (by omega) (by omega) (Or.inr (by rw [hrs]; omega))) gL_law_L_addWay rfl rfl rfl (by decide +kernel) ⟨(Nat.le_of_ble_eq_true rfl), (Nat.le_of_ble_eq_true rfl)⟩ rfl rfl (Nat.le_of_ble_eq_true rfl) dL_law_134 ⟨(by show (((((((kc + 1) + 1) + 1) + 1) + 1) + 15) + 1) + 1 ≤ 600258; omega), (by show (((((((ks + 6) + 6) + 6) + 6) + 6) + 90) + 6) + 6 ≤ 7292426; omega)⟩ ?_
  refine v_ldc (v := (-900002)) (n := (-900002)) K (List.mem_append_left _ (List.mem_append_left _ (List.mem_append_left _ (List.mem_append_left _ (List.mem_append_left _ (List.mem_append_left _ (List.mem_append_left _ (List.mem_append_left _ (List.mem_append_left _ (List.mem_append_left _ (List.mem_append_left _ (List.mem_append_left _ (List.mem_append_left _ (List.mem_append_left _ (List.mem_append_left _ (List.mem_append_left _ (List.mem_append_left _ (List.mem_of_getElem? (i := 5) rfl)))))))))))))))))) dL_law_137 (by decide) ?_
  refine v_icmp_ne 167 K dL_law_139 (by decide) (by decide) (by decide) (fun c139 => (by exfalso; omega)) (fun c139 => ?_)
  refine v_aload_n 1 K dL_law_142 rfl ?_
  refine v_iload_n 3 K dL_law_143 rfl ?_
  refine v_iconst K dL_law_144 ?_
  refine v_callSWir (As := [.ref (vAd X 0), .int (iZ (n : Int)), .int (iZ 1)]) (rest := []) K 3 (c_L_addWayT2 X.1.2.1 K.2.2.2.2.2.2 _ _ _ ν1 (n : Int) 1 (by omega) (by omega)) gL_law_L_addWay rfl rfl rfl (by decide +kernel) ⟨(Nat.le_of_ble_eq_true rfl), (Nat.le_of_ble_eq_true rfl)⟩ rfl rfl (Nat.le_of_ble_eq_true rfl) dL_law_145 ⟨(by show ((((((((kc + 1) + 1) + 1) + 1) + 1) + 15) + 1) + 1) + 1 ≤ 600258; omega), (by show ((((((((ks + 6) + 6) + 6) + 6) + 6) + 90) + 6) + 6) + 6 ≤ 7292426; omega)⟩ ?_
  refine v_ldc (v := (-900001)) (n := (-900001)) K (List.mem_append_left _ (List.mem_append_left _ (List.mem_append_left _ (List.mem_append_left _ (List.mem_append_left _ (List.mem_append_left _ (List.mem_append_left _ (List.mem_append_left _ (List.mem_append_left _ (List.mem_append_left _ (List.mem_append_left _ (List.mem_append_left _ (List.mem_append_left _ (List.mem_append_left _ (List.mem_append_left _ (List.mem_append_left _ (List.mem_append_left _ (List.mem_of_getElem? (i := 4) rfl)))))))))))))))))) dL_law_148 (by decide) ?_
  refine v_icmp_ne 167 K dL_law_150 (by decide) (by decide) (by decide) (fun c150 => (by exfalso; omega)) (fun c150 => ?_)
  refine v_aload_n 1 K dL_law_153 rfl ?_
  refine v_iconst K dL_law_154 ?_
  refine v_callSWir (As := [.ref (vAd X 0), .int (iZ 0)]) (rest := []) K 2 (c_L_setSeedT X.1.2.1 K.2.2.2.2.2.2 _ _ _ ν1 0 (by omega)) gL_law_L_setSeed rfl rfl rfl (by decide +kernel) ⟨(Nat.le_of_ble_eq_true rfl), (Nat.le_of_ble_eq_true rfl)⟩ rfl rfl (Nat.le_of_ble_eq_true rfl) dL_law_155 ⟨(by show (((((((((kc + 1) + 1) + 1) + 1) + 1) + 15) + 1) + 1) + 1) + 1 ≤ 600258; omega), (by show (((((((((ks + 6) + 6) + 6) + 6) + 6) + 90) + 6) + 6) + 6) + 6 ≤ 7292426; omega)⟩ ?_
  refine v_ldc (v := (-900001)) (n := (-900001)) K (List.mem_append_left _ (List.mem_append_left _ (List.mem_append_left _ (List.mem_append_left _ (List.mem_append_left _ (List.mem_append_left _ (List.mem_append_left _ (List.mem_append_left _ (List.mem_append_left _ (List.mem_append_left _ (List.mem_append_left _ (List.mem_append_left _ (List.mem_append_left _ (List.mem_append_left _ (List.mem_append_left _ (List.mem_append_left _ (List.mem_append_left _ (List.mem_of_getElem? (i := 4) rfl)))))))))))))))))) dL_law_158 (by decide) ?_
  refine v_icmp_ne 167 K dL_law_160 (by decide) (by decide) (by decide) (fun c160 => (by exfalso; omega)) (fun c160 => ?_)
  refine v_iconst K dL_law_163 ?_
  refine v_goto 168 K dL_law_164 (by decide) ?_
  refine v_istore [(7, .int (iZ 1)), (0, .ref (σ.1.1)), (1, .ref (vAd X 0)), (2, .int (iZ (s : Int))), (3, .int (iZ (n : Int))), (4, .ref (vAd X 49)), (5, .ref (vAd X 50)), (6, .ref (vAd X 51))] K dL_law_168 (by decide) rfl ?_
  refine v_iconst K dL_law_170 ?_
  refine v_aload_n 1 K dL_law_171 rfl ?_
  refine v_iconst K dL_law_172 ?_
  refine v_ldc (v := 100000) (n := 100000) K (List.mem_append_left _ (List.mem_append_left _ (List.mem_append_left _ (List.mem_append_left _ (List.mem_append_left _ (List.mem_append_left _ (List.mem_append_left _ (List.mem_append_left _ (List.mem_append_left _ (List.mem_append_left _ (List.mem_append_left _ (List.mem_append_left _ (List.mem_append_left _ (List.mem_append_left _ (List.mem_append_left _ (List.mem_append_left _ (List.mem_append_left _ (List.mem_of_getElem? (i := 6) rfl)))))))))))))))))) dL_law_173 (by decide) ?_
  refine v_in (σ := σ) (i := 2) (n := 100000) K SJ (by omega) (by omega) gL_law_L_in ⟨(Nat.le_of_ble_eq_true rfl), (Nat.le_of_ble_eq_true rfl)⟩ (Nat.le_of_ble_eq_true rfl) dL_law_175 ⟨(by show ((((((((((kc + 1) + 1) + 1) + 1) + 1) + 15) + 1) + 1) + 1) + 1) + 0 ≤ 600258; omega), (by show ((((((((((ks + 6) + 6) + 6) + 6) + 6) + 90) + 6) + 6) + 6) + 6) + 0 ≤ 7292426; omega)⟩ ?_
  refine v_iadd K dL_law_178 ?_
  obtain ⟨z, ez⟩ : ∃ z : Int, z = (1 + (inV σ 2 100000)) := ⟨_, rfl⟩
  refine v_top (b := z) (congrArg iZ ez.symm) ?_
  have hzr : 1 ≤ z ∧ z ≤ 100000 := in_rng1 ez (by decide)
  clear ez
  refine v_istore [(8, .int (iZ z)), (7, .int (iZ 1)), (0, .ref (σ.1.1)), (1, .ref (vAd X 0)), (2, .int (iZ (s : Int))), (3, .int (iZ (n : Int))), (4, .ref (vAd X 49)), (5, .ref (vAd X 50)), (6, .ref (vAd X 51))] K dL_law_179 (by decide) rfl ?_
  refine v_iload 1 K dL_law_181 rfl ?_
  refine v_aload_n 3 K dL_law_183 rfl ?_
  refine v_iload 0 K dL_law_184 rfl ?_
  refine v_callSWi (As := [.ref (vAd X 0), .int (iZ z)]) (rest := [.int (iZ 1)]) K 2 (c_L_setSeed X.1.2.1 K.2.2.2.2.2.2 _ _ _ ν1 z (by omega)) gL_law_L_setSeed rfl rfl rfl (by decide +kernel) ⟨(Nat.le_of_ble_eq_true rfl), (Nat.le_of_ble_eq_true rfl)⟩ rfl rfl (Nat.le_of_ble_eq_true rfl) dL_law_186 ⟨(by show ((((((((((kc + 1) + 1) + 1) + 1) + 1) + 15) + 1) + 1) + 1) + 1) + 0 ≤ 600258; omega), (by show ((((((((((ks + 6) + 6) + 6) + 6) + 6) + 90) + 6) + 6) + 6) + 6) + 0 ≤ 7292426; omega)⟩ (fun z186 ν2 q186 => ?_)
  obtain ⟨hz186, eν2⟩ := q186
  have hz1 := hst.2.2.2.2.1
  refine v_iconst K dL_law_189 ?_
  refine v_icmp_ne 197 K dL_law_190 (by decide) (by omega) (by decide) (fun c190 => (by exfalso; omega)) (fun c190 => ?_)
  refine v_iconst K dL_law_193 ?_
  refine v_goto 198 K dL_law_194 (by decide) ?_
  refine v_iand (z := 1) rfl K dL_law_198 ?_
  refine v_istore [(7, .int (iZ 1)), (8, .int (iZ z)), (0, .ref (σ.1.1)), (1, .ref (vAd X 0)), (2, .int (iZ (s : Int))), (3, .int (iZ (n : Int))), (4, .ref (vAd X 49)), (5, .ref (vAd X 50)), (6, .ref (vAd X 51))] K dL_law_199 (by decide) rfl ?_
  refine v_iconst K dL_law_201 ?_
  refine v_istore [(9, .int (iZ 0)), (7, .int (iZ 1)), (8, .int (iZ z)), (0, .ref (σ.1.1)), (1, .ref (vAd X 0)), (2, .int (iZ (s : Int))), (3, .int (iZ (n : Int))), (4, .ref (vAd X 49)), (5, .ref (vAd X 50)), (6, .ref (vAd X 51))] K dL_law_202 (by decide) rfl ?_
  refine v_sub [3, 4, 5, 6, 7, 8, 9, 1, 2, 0] rfl ?_
  refine v_wid (c2 := (kc + 60)) (s2 := (ks + 600)) (by show ((((((((((kc + 1) + 1) + 1) + 1) + 1) + 15) + 1) + 1) + 1) + 1) ≤ (kc + 60); omega) (by show ((((((((((ks + 6) + 6) + 6) + 6) + 6) + 90) + 6) + 6) + 6) + 6) ≤ (ks + 600); omega) ?_
  exact L204 z ν2 (by rw [eν2]; exact LST_z hst (by omega))
