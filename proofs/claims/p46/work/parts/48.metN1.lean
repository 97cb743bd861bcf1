theorem dL_makes_137 : decode cL_makes 137 = .ok (.aload 4, 2) := by decide +kernel
theorem dL_makes_139 : decode cL_makes 139 = .ok (.iconst 4, 1) := by decide +kernel
theorem dL_makes_140 : decode cL_makes 140 = .ok (.iload 8, 2) := by decide +kernel
theorem dL_makes_142 : decode cL_makes 142 = .ok (.imul, 1) := by decide +kernel
theorem dL_makes_143 : decode cL_makes 143 = .ok (.iconst 1, 1) := by decide +kernel
theorem dL_makes_144 : decode cL_makes 144 = .ok (.aload_n 1, 1) := by decide +kernel
theorem dL_makes_145 : decode cL_makes 145 = .ok (.bipush 50, 2) := by decide +kernel
theorem dL_makes_147 : decode cL_makes 147 = .ok (.iload 8, 2) := by decide +kernel
theorem dL_makes_149 : decode cL_makes 149 = .ok (.iadd, 1) := by decide +kernel
theorem dL_makes_150 : decode cL_makes 150 = .ok (.iconst 3, 1) := by decide +kernel
theorem dL_makes_151 : decode cL_makes 151 = .ok (.invokestatic 106, 3) := by decide +kernel
theorem dL_makes_154 : decode cL_makes 154 = .ok (.iadd, 1) := by decide +kernel
theorem dL_makes_155 : decode cL_makes 155 = .ok (.iastore, 1) := by decide +kernel
theorem dL_makes_156 : decode cL_makes 156 = .ok (.aload 4, 2) := by decide +kernel
theorem dL_makes_158 : decode cL_makes 158 = .ok (.iconst 4, 1) := by decide +kernel
theorem dL_makes_159 : decode cL_makes 159 = .ok (.iload 8, 2) := by decide +kernel
theorem dL_makes_161 : decode cL_makes 161 = .ok (.imul, 1) := by decide +kernel
theorem dL_makes_162 : decode cL_makes 162 = .ok (.iconst 1, 1) := by decide +kernel
theorem dL_makes_163 : decode cL_makes 163 = .ok (.iadd, 1) := by decide +kernel
theorem dL_makes_164 : decode cL_makes 164 = .ok (.aload_n 1, 1) := by decide +kernel
theorem dL_makes_165 : decode cL_makes 165 = .ok (.bipush 60, 2) := by decide +kernel
theorem dL_makes_167 : decode cL_makes 167 = .ok (.iload 8, 2) := by decide +kernel
theorem dL_makes_169 : decode cL_makes 169 = .ok (.iadd, 1) := by decide +kernel
theorem dL_makes_170 : decode cL_makes 170 = .ok (.bipush 10, 2) := by decide +kernel
theorem dL_makes_172 : decode cL_makes 172 = .ok (.invokestatic 106, 3) := by decide +kernel
theorem dL_makes_175 : decode cL_makes 175 = .ok (.iastore, 1) := by decide +kernel
theorem dL_makes_176 : decode cL_makes 176 = .ok (.iload 7, 2) := by decide +kernel
theorem dL_makes_178 : decode cL_makes 178 = .ok (.aload_n 0, 1) := by decide +kernel
theorem dL_makes_179 : decode cL_makes 179 = .ok (.aload 4, 2) := by decide +kernel
theorem dL_makes_181 : decode cL_makes 181 = .ok (.iconst 4, 1) := by decide +kernel
theorem dL_makes_182 : decode cL_makes 182 = .ok (.iload 8, 2) := by decide +kernel
theorem dL_makes_184 : decode cL_makes 184 = .ok (.imul, 1) := by decide +kernel
theorem dL_makes_185 : decode cL_makes 185 = .ok (.iaload, 1) := by decide +kernel
theorem dL_makes_186 : decode cL_makes 186 = .ok (.aload 4, 2) := by decide +kernel
theorem dL_makes_188 : decode cL_makes 188 = .ok (.iconst 4, 1) := by decide +kernel
theorem dL_makes_189 : decode cL_makes 189 = .ok (.iload 8, 2) := by decide +kernel
theorem dL_makes_191 : decode cL_makes 191 = .ok (.imul, 1) := by decide +kernel
theorem dL_makes_192 : decode cL_makes 192 = .ok (.iconst 1, 1) := by decide +kernel
theorem dL_makes_193 : decode cL_makes 193 = .ok (.iadd, 1) := by decide +kernel
theorem dL_makes_194 : decode cL_makes 194 = .ok (.iaload, 1) := by decide +kernel
theorem dL_makes_195 : decode cL_makes 195 = .ok (.invokestatic 120, 3) := by decide +kernel
set_option maxRecDepth 20000 in
theorem ggL_makes_L_addPlayer : GoodIn wsL_makes wsL_addPlayer := goodIn_ca (goodIn_ca (goodIn_r _ [108, 56, 57, 58, 59, 109, 110, 111, 63, 112, 65, 113, 114, 115, 116, 72, 73, 74, 75, 70, 71, 117, 118, 119, 120, 80, 81, 121, 122, 123, 124, 86, 125, 126, 127, 128, 129, 207, 208, 209, 210, 211, 212, 213, 214, 215, 216, 217, 225, 226, 227, 228, 229, 230] (by decide +kernel) (by decide +kernel)) (goodIn_sub (fun _ h => List.mem_cons_of_mem _ (List.mem_append_left _ (List.mem_append_left _ (List.mem_append_left _ (List.mem_append_right _ h))))) (by decide +kernel))) (goodIn_sub (fun _ h => List.mem_cons_of_mem _ (List.mem_append_left _ (List.mem_append_left _ (List.mem_append_right _ h)))) (by decide +kernel))
set_option maxRecDepth 20000 in
theorem gL_makes_L_addPlayer : GoodIn wsL_makes (va_wsS RL 120 yL_addPlayer wsL_addPlayer) := goodIn_app (goodIn_of _ (by decide +kernel)) ggL_makes_L_addPlayer
theorem dL_makes_198 : decode cL_makes 198 = .ok (.iload 8, 2) := by decide +kernel
theorem dL_makes_200 : decode cL_makes 200 = .ok (.if_icmp .ne 26, 3) := by decide +kernel
theorem dL_makes_203 : decode cL_makes 203 = .ok (.aload_n 0, 1) := by decide +kernel
theorem dL_makes_204 : decode cL_makes 204 = .ok (.iload 8, 2) := by decide +kernel
theorem dL_makes_206 : decode cL_makes 206 = .ok (.invokestatic 123, 3) := by decide +kernel
set_option maxRecDepth 20000 in
theorem ggL_makes_L_getChosen : GoodIn wsL_makes wsL_getChosen := goodIn_ca (goodIn_ca (goodIn_r _ [132, 133, 58, 134, 135, 136, 63, 137, 138, 139, 140, 141, 142, 143, 144, 145, 65, 121, 207, 208, 209, 210, 211, 212, 213, 231, 232, 233, 214, 215, 216, 217] (by decide +kernel) (by decide +kernel)) (goodIn_sub (fun _ h => List.mem_cons_of_mem _ (List.mem_append_left _ (List.mem_append_left _ (List.mem_append_left _ (List.mem_append_left _ (List.mem_append_right _ h)))))) (by decide +kernel))) (goodIn_sub (fun _ h => List.mem_cons_of_mem _ (List.mem_append_left _ (List.mem_append_right _ h))) (by decide +kernel))
set_option maxRecDepth 20000 in
theorem gL_makes_L_getChosen : GoodIn wsL_makes (va_wsS RL 123 yL_getChosen wsL_getChosen) := goodIn_app (goodIn_of _ (by decide +kernel)) ggL_makes_L_getChosen
theorem dL_makes_209 : decode cL_makes 209 = .ok (.iconst (-1), 1) := by decide +kernel
theorem dL_makes_210 : decode cL_makes 210 = .ok (.if_icmp .ne 16, 3) := by decide +kernel
theorem dL_makes_213 : decode cL_makes 213 = .ok (.aload_n 0, 1) := by decide +kernel
theorem dL_makes_214 : decode cL_makes 214 = .ok (.iload 8, 2) := by decide +kernel
theorem dL_makes_216 : decode cL_makes 216 = .ok (.invokestatic 126, 3) := by decide +kernel
set_option maxRecDepth 20000 in
theorem ggL_makes_L_getCost : GoodIn wsL_makes wsL_getCost := goodIn_ca (goodIn_ca (goodIn_r _ [148, 133, 58, 149, 150, 151, 63, 152, 65, 138, 140, 141, 142, 143, 144, 145, 121, 153, 154, 155, 86, 156, 157, 158, 159, 160, 161, 127, 88, 162, 128, 89, 163, 129, 164, 165, 166, 167, 168, 169, 170, 171, 172, 173, 174, 175, 96, 176, 98, 207, 208, 209, 210, 211, 212, 213, 214, 215, 216, 217, 231, 232, 233, 225, 226, 227, 228, 229, 230, 218, 219, 220, 221, 222, 223, 224] (by decide +kernel) (by decide +kernel)) (goodIn_sub (fun _ h => List.mem_cons_of_mem _ (List.mem_append_left _ (List.mem_append_right _ h))) (by decide +kernel))) (goodIn_sub (fun _ h => List.mem_cons_of_mem _ (List.mem_append_left _ (List.mem_append_left _ (List.mem_append_left _ (List.mem_append_left _ (List.mem_append_right _ h)))))) (by decide +kernel))
set_option maxRecDepth 20000 in
theorem gL_makes_L_getCost : GoodIn wsL_makes (va_wsS RL 126 yL_getCost wsL_getCost) := goodIn_app (goodIn_of _ (by decide +kernel)) ggL_makes_L_getCost
theorem dL_makes_219 : decode cL_makes 219 = .ok (.ifCond .ne 7, 3) := by decide +kernel
theorem dL_makes_222 : decode cL_makes 222 = .ok (.iconst 1, 1) := by decide +kernel
theorem dL_makes_223 : decode cL_makes 223 = .ok (.goto 4, 3) := by decide +kernel
theorem dL_makes_227 : decode cL_makes 227 = .ok (.iand, 1) := by decide +kernel
theorem dL_makes_228 : decode cL_makes 228 = .ok (.istore 7, 2) := by decide +kernel
theorem dL_makes_230 : decode cL_makes 230 = .ok (.iconst 1, 1) := by decide +kernel
theorem dL_makes_231 : decode cL_makes 231 = .ok (.iload_n 3, 1) := by decide +kernel
theorem dL_makes_232 : decode cL_makes 232 = .ok (.ishl, 1) := by decide +kernel
theorem dL_makes_233 : decode cL_makes 233 = .ok (.iconst 1, 1) := by decide +kernel
theorem dL_makes_234 : decode cL_makes 234 = .ok (.isub, 1) := by decide +kernel
theorem dL_makes_235 : decode cL_makes 235 = .ok (.istore 9, 2) := by decide +kernel
theorem dL_makes_237 : decode cL_makes 237 = .ok (.iconst 1, 1) := by decide +kernel
theorem dL_makes_238 : decode cL_makes 238 = .ok (.aload_n 1, 1) := by decide +kernel
theorem dL_makes_239 : decode cL_makes 239 = .ok (.bipush 70, 2) := by decide +kernel
theorem dL_makes_241 : decode cL_makes 241 = .ok (.iload 8, 2) := by decide +kernel
theorem dL_makes_243 : decode cL_makes 243 = .ok (.iadd, 1) := by decide +kernel
theorem dL_makes_244 : decode cL_makes 244 = .ok (.iload 9, 2) := by decide +kernel
theorem dL_makes_246 : decode cL_makes 246 = .ok (.invokestatic 106, 3) := by decide +kernel
theorem dL_makes_249 : decode cL_makes 249 = .ok (.iadd, 1) := by decide +kernel
theorem dL_makes_250 : decode cL_makes 250 = .ok (.istore 10, 2) := by decide +kernel
theorem dL_makes_351 : decode cL_makes 351 = .ok (.aload 4, 2) := by decide +kernel
theorem dL_makes_353 : decode cL_makes 353 = .ok (.iconst 4, 1) := by decide +kernel
theorem dL_makes_354 : decode cL_makes 354 = .ok (.iload 8, 2) := by decide +kernel
theorem dL_makes_356 : decode cL_makes 356 = .ok (.imul, 1) := by decide +kernel
theorem dL_makes_357 : decode cL_makes 357 = .ok (.iconst 2, 1) := by decide +kernel
theorem dL_makes_358 : decode cL_makes 358 = .ok (.iadd, 1) := by decide +kernel
theorem dL_makes_359 : decode cL_makes 359 = .ok (.aload 6, 2) := by decide +kernel
theorem dL_makes_361 : decode cL_makes 361 = .ok (.iconst 3, 1) := by decide +kernel
theorem dL_makes_362 : decode cL_makes 362 = .ok (.iload 8, 2) := by decide +kernel
theorem dL_makes_364 : decode cL_makes 364 = .ok (.imul, 1) := by decide +kernel
theorem dL_makes_365 : decode cL_makes 365 = .ok (.iaload, 1) := by decide +kernel
theorem dL_makes_366 : decode cL_makes 366 = .ok (.iastore, 1) := by decide +kernel
theorem dL_makes_367 : decode cL_makes 367 = .ok (.aload 4, 2) := by decide +kernel
theorem dL_makes_369 : decode cL_makes 369 = .ok (.iconst 4, 1) := by decide +kernel
theorem dL_makes_370 : decode cL_makes 370 = .ok (.iload 8, 2) := by decide +kernel
theorem dL_makes_372 : decode cL_makes 372 = .ok (.imul, 1) := by decide +kernel
theorem dL_makes_373 : decode cL_makes 373 = .ok (.iconst 3, 1) := by decide +kernel
theorem dL_makes_374 : decode cL_makes 374 = .ok (.iadd, 1) := by decide +kernel
theorem dL_makes_375 : decode cL_makes 375 = .ok (.iconst 0, 1) := by decide +kernel
theorem dL_makes_376 : decode cL_makes 376 = .ok (.iastore, 1) := by decide +kernel
theorem dL_makes_377 : decode cL_makes 377 = .ok (.iinc 8 1, 3) := by decide +kernel
theorem dL_makes_380 : decode cL_makes 380 = .ok (.goto (-250), 3) := by decide +kernel
set_option maxHeartbeats 8000000 in
set_option maxRecDepth 100000 in
theorem gm_137 {X : VC} {σ : SX} {μ : Mem} (kc : Nat) (ks : Nat) (s : Nat) (n : Nat) (p : Nat) (hkc : kc ≤ 12) (hks : ks ≤ 72) (hs : 2 ≤ s ∧ s ≤ 5) (hn : 1 ≤ n ∧ n ≤ 5) (hp : p < n) (hF2 : F2 μ s p) (K : vK X cL_makes 12 RL wsL_makes rmK) (SJ : lxJ X.2.2.2.1 X.2.1.1 σ) (L130 : ∀ (ν : Mem) (hF5 : F2 ν s (p + 1)), vW X 12 130 (kc + 3) (ks + 18) [(0, .ref (vAd X 0)), (1, .ref (σ.1.1)), (2, .ref (vAd X 49)), (3, .int (iZ (s : Int))), (4, .ref (vAd X 50)), (5, .int (iZ (n : Int))), (6, .ref (vAd X 51)), (7, .int (iZ 1)), (8, .int (iZ (((p + 1) : Nat) : Int)))] [] ν) : vW X 12 137 kc ks [(0, .ref (vAd X 0)), (1, .ref (σ.1.1)), (2, .ref (vAd X 49)), (3, .int (iZ (s : Int))), (4, .ref (vAd X 50)), (5, .int (iZ (n : Int))), (6, .ref (vAd X 51)), (7, .int (iZ 1)), (8, .int (iZ (p : Int)))] [] μ := by
  have hall := or4_of hs
  refine v_aload 4 K dL_makes_137 rfl ?_
  refine v_iconst K dL_makes_139 ?_
  refine v_iload 8 K dL_makes_140 rfl ?_
  refine v_imul K dL_makes_142 ?_
  refine v_iconst K dL_makes_143 ?_
  refine v_aload_n 1 K dL_makes_144 rfl ?_
  refine v_bipush K dL_makes_145 (by decide) ?_
  refine v_iload 8 K dL_makes_147 rfl ?_
  refine v_iadd K dL_makes_149 ?_
  refine v_iconst K dL_makes_150 ?_
  refine v_in (σ := σ) (i := (50 + (p : Int))) (n := 3) K SJ (by omega) (by omega) gL_makes_L_in ⟨(Nat.le_of_ble_eq_true rfl), (Nat.le_of_ble_eq_true rfl)⟩ (Nat.le_of_ble_eq_true rfl) dL_makes_151 ⟨(by show kc + 0 ≤ 15; omega), (by show ks + 0 ≤ 90; omega)⟩ ?_
  refine v_iadd K dL_makes_154 ?_
  obtain ⟨we, ewe⟩ : ∃ we : Int, we = (1 + (inV σ (50 + (p : Int)) 3)) := ⟨_, rfl⟩
  refine v_top (b := we) (congrArg iZ ewe.symm) ?_
  have hwe : 1 ≤ we ∧ we ≤ 3 := in_rng1 ewe (by decide)
  clear ewe
  refine v_iast (c := 50) (4 * p) K isI_50 (by omega) (by omega) dL_makes_155 ?_
  obtain ⟨η1, eη1⟩ : ∃ η1 : Mem, η1 = (upM μ 50 (4 * p) we) := ⟨_, rfl⟩
  rw [← eη1]
  refine v_aload 4 K dL_makes_156 rfl ?_
  refine v_iconst K dL_makes_158 ?_
  refine v_iload 8 K dL_makes_159 rfl ?_
  refine v_imul K dL_makes_161 ?_
  refine v_iconst K dL_makes_162 ?_
  refine v_iadd K dL_makes_163 ?_
  refine v_aload_n 1 K dL_makes_164 rfl ?_
  refine v_bipush K dL_makes_165 (by decide) ?_
  refine v_iload 8 K dL_makes_167 rfl ?_
  refine v_iadd K dL_makes_169 ?_
  refine v_bipush K dL_makes_170 (by decide) ?_
  refine v_in (σ := σ) (i := (60 + (p : Int))) (n := 10) K SJ (by omega) (by omega) gL_makes_L_in ⟨(Nat.le_of_ble_eq_true rfl), (Nat.le_of_ble_eq_true rfl)⟩ (Nat.le_of_ble_eq_true rfl) dL_makes_172 ⟨(by show kc + 0 ≤ 15; omega), (by show ks + 0 ≤ 90; omega)⟩ ?_
  obtain ⟨mi, emi⟩ : ∃ mi : Int, mi = (inV σ (60 + (p : Int)) 10) := ⟨_, rfl⟩
  refine v_top (b := mi) (congrArg iZ emi.symm) ?_
  have hmi : 0 ≤ mi ∧ mi < 10 := in_rng0 emi (by decide)
  clear emi
  refine v_iast (c := 50) ((4 * p) + 1) K isI_50 (by omega) (by omega) dL_makes_175 ?_
  obtain ⟨η2, eη2⟩ : ∃ η2 : Mem, η2 = (upM η1 50 ((4 * p) + 1) mi) := ⟨_, rfl⟩
  rw [← eη2]
  have h213 : η2 1 3 = (p : Int) := by rw [eη2, upM_off (by omega), eη1, upM_off (by omega)]; exact hF2.2.2.1
  refine v_iload 7 K dL_makes_176 rfl ?_
  refine v_aload_n 0 K dL_makes_178 rfl ?_
  refine v_aload 4 K dL_makes_179 rfl ?_
  refine v_iconst K dL_makes_181 ?_
  refine v_iload 8 K dL_makes_182 rfl ?_
  refine v_imul K dL_makes_184 ?_
  refine v_iald (c := 50) (4 * p) K isI_50 (by omega) (by omega) dL_makes_185 ?_
  refine v_top (b := we) (by rw [eη2, upM_ne (by omega), eη1, upM_self]) ?_
  refine v_aload 4 K dL_makes_186 rfl ?_
  refine v_iconst K dL_makes_188 ?_
  refine v_iload 8 K dL_makes_189 rfl ?_
  refine v_imul K dL_makes_191 ?_
  refine v_iconst K dL_makes_192 ?_
  refine v_iadd K dL_makes_193 ?_
  refine v_iald (c := 50) ((4 * p) + 1) K isI_50 (by omega) (by omega) dL_makes_194 ?_
  refine v_top (b := mi) (by rw [eη2, upM_self]) ?_
  refine v_callSWi (As := [.ref (vAd X 0), .int (iZ we), .int (iZ mi)]) (rest := [.int (iZ 1)]) K 3 (c_L_addPlayer X.1.2.1 K.2.2.2.2.2.2 _ _ _ η2 we mi (by omega) (by omega) (by omega)) gL_makes_L_addPlayer rfl rfl rfl (by decide +kernel) ⟨(Nat.le_of_ble_eq_true rfl), (Nat.le_of_ble_eq_true rfl)⟩ rfl rfl (Nat.le_of_ble_eq_true rfl) dL_makes_195 ⟨(by show kc + 0 ≤ 15; omega), (by show ks + 0 ≤ 90; omega)⟩ (fun z195 η3 q195 => ?_)
  obtain ⟨hz195, hP3⟩ := q195
  rw [h213] at hz195
  rw [h213, Int.toNat_natCast] at hP3
  have hG3 : ∀ g : Nat → Int, F3 η3 s p 0 (-1) g := F3_0 hF2 (by omega) hwe ⟨hmi.1, by omega⟩ eη1 eη2 hP3
  obtain ⟨hW3, -, h313, hL3, -, -, -, -, -, -, -, -, hch3, -⟩ := hG3 (fun _ => 0)
  have hp3 : pcn η3 = p + 1 := by unfold pcn; rw [h313]; omega
  have hB3 := hL3.PB9 hW3
  have hcs0 := cst_no hch3
  refine v_iload 8 K dL_makes_198 rfl ?_
  refine v_icmp_ne 226 K dL_makes_200 (by decide) (by omega) (by omega) (fun c200 => (by exfalso; omega)) (fun c200 => ?_)
  refine v_aload_n 0 K dL_makes_203 rfl ?_
  refine v_iload 8 K dL_makes_204 rfl ?_
  refine v_callSWir (As := [.ref (vAd X 0), .int (iZ (p : Int))]) (rest := [.int (iZ 1)]) K 2 (c_L_getChosen X.1.2.1 K.2.2.2.2.2.2 _ _ _ η3 p hW3 (by omega)) gL_makes_L_getChosen rfl rfl rfl (by decide +kernel) ⟨(Nat.le_of_ble_eq_true rfl), (Nat.le_of_ble_eq_true rfl)⟩ rfl rfl (Nat.le_of_ble_eq_true rfl) dL_makes_206 ⟨(by show kc + 0 ≤ 15; omega), (by show ks + 0 ≤ 90; omega)⟩ ?_
  refine v_top (b := -1) (by rw [hch3]) ?_
  refine v_iconst K dL_makes_209 ?_
  refine v_icmp_ne 226 K dL_makes_210 (by decide) (by decide) (by decide) (fun c210 => (by exfalso; omega)) (fun c210 => ?_)
  refine v_aload_n 0 K dL_makes_213 rfl ?_
  refine v_iload 8 K dL_makes_214 rfl ?_
  refine v_callSWir (As := [.ref (vAd X 0), .int (iZ (p : Int))]) (rest := [.int (iZ 1)]) K 2 (c_L_getCost X.1.2.1 K.2.2.2.2.2.2 _ _ _ η3 p hW3 hB3 (by omega)) gL_makes_L_getCost rfl rfl rfl (by decide +kernel) ⟨(Nat.le_of_ble_eq_true rfl), (Nat.le_of_ble_eq_true rfl)⟩ rfl rfl (Nat.le_of_ble_eq_true rfl) dL_makes_216 ⟨(by show kc + 0 ≤ 15; omega), (by show ks + 0 ≤ 90; omega)⟩ ?_
  refine v_top (b := 0) (by rw [hcs0]) ?_
  refine v_if_ne 226 K dL_makes_219 (by decide) (by decide) (fun c219 => (by exfalso; omega)) (fun c219 => ?_)
  refine v_iconst K dL_makes_222 ?_
  refine v_goto 227 K dL_makes_223 (by decide) ?_
  refine v_iand (z := 1) rfl K dL_makes_227 ?_
  refine v_istore [(7, .int (iZ 1)), (0, .ref (vAd X 0)), (1, .ref (σ.1.1)), (2, .ref (vAd X 49)), (3, .int (iZ (s : Int))), (4, .ref (vAd X 50)), (5, .int (iZ (n : Int))), (6, .ref (vAd X 51)), (8, .int (iZ (p : Int)))] K dL_makes_228 (by decide) rfl ?_
  refine v_iconst K dL_makes_230 ?_
  refine v_iload_n 4 K dL_makes_231 rfl ?_
  refine v_ishl (z := ((2 ^ s : Nat) : Int)) (iZ_shl1 _ (by omega)) K dL_makes_232 ?_
  refine v_iconst K dL_makes_233 ?_
  refine v_isub K dL_makes_234 ?_
  obtain ⟨al, eal⟩ : ∃ al : Int, al = (((2 ^ s : Nat) : Int) - 1) := ⟨_, rfl⟩
  refine v_top (b := al) (congrArg iZ eal.symm) ?_
  have hal : or4 al := by rw [eal]; exact hall
  have hal2 := hal.rng9
  refine v_istore [(9, .int (iZ al)), (7, .int (iZ 1)), (0, .ref (vAd X 0)), (1, .ref (σ.1.1)), (2, .ref (vAd X 49)), (3, .int (iZ (s : Int))), (4, .ref (vAd X 50)), (5, .int (iZ (n : Int))), (6, .ref (vAd X 51)), (8, .int (iZ (p : Int)))] K dL_makes_235 (by decide) rfl ?_
  refine v_iconst K dL_makes_237 ?_
  refine v_aload_n 3 K dL_makes_238 rfl ?_
  refine v_bipush K dL_makes_239 (by decide) ?_
  refine v_iload 9 K dL_makes_241 rfl ?_
  refine v_iadd K dL_makes_243 ?_
  refine v_iload 0 K dL_makes_244 rfl ?_
  refine v_in (σ := σ) (i := (70 + (p : Int))) (n := al) K SJ (by omega) (by omega) gL_makes_L_in ⟨(Nat.le_of_ble_eq_true rfl), (Nat.le_of_ble_eq_true rfl)⟩ (Nat.le_of_ble_eq_true rfl) dL_makes_246 ⟨(by show kc + 0 ≤ 15; omega), (by show ks + 0 ≤ 90; omega)⟩ ?_
  refine v_iadd K dL_makes_249 ?_
  obtain ⟨fi, efi⟩ : ∃ fi : Int, fi = (1 + (inV σ (70 + (p : Int)) al)) := ⟨_, rfl⟩
  refine v_top (b := fi) (congrArg iZ efi.symm) ?_
  have hfi : 1 ≤ fi ∧ fi ≤ al := in_rng1 efi (Int.lt_of_lt_of_le (by decide) hal2.1)
  clear efi
  obtain ⟨sp, esp, hsp2⟩ := in_sp (σ := σ) (i := 80 + (p : Int))
  have hsp : or2 sp := or2_of hsp2
  have hgr : ∀ j, j < 3 → 1 ≤ wyF fi sp al j ∧ wyF fi sp al j < ((2 ^ s : Nat) : Int) := fun j hj => by have := wyF_rng (f := fi) (st := sp) (al := al) (by omega) j; omega
  refine v_istore [(10, .int (iZ fi)), (9, .int (iZ al)), (7, .int (iZ 1)), (0, .ref (vAd X 0)), (1, .ref (σ.1.1)), (2, .ref (vAd X 49)), (3, .int (iZ (s : Int))), (4, .ref (vAd X 50)), (5, .int (iZ (n : Int))), (6, .ref (vAd X 51)), (8, .int (iZ (p : Int)))] K dL_makes_250 (by decide) rfl ?_
  refine v_sub [3, 4, 5, 6, 7, 8, 9, 2, 10, 1, 0] rfl ?_
  refine v_wid (c2 := kc) (s2 := ks) (Nat.le_refl _) (Nat.le_refl _) ?_
  refine gm_255 kc ks s n p fi sp al hkc hks hs hn hp hal eal hfi esp hsp2 (hG3 _) K SJ (fun ζ hF4 => ?_)
  refine v_aload 4 K dL_makes_351 rfl ?_
  refine v_iconst K dL_makes_353 ?_
  refine v_iload 8 K dL_makes_354 rfl ?_
  refine v_imul K dL_makes_356 ?_
  refine v_iconst K dL_makes_357 ?_
  refine v_iadd K dL_makes_358 ?_
  refine v_aload 6 K dL_makes_359 rfl ?_
  refine v_iconst K dL_makes_361 ?_
  refine v_iload 8 K dL_makes_362 rfl ?_
  refine v_imul K dL_makes_364 ?_
  refine v_iald (c := 51) (3 * p) K isI_51 (by omega) (by omega) dL_makes_365 ?_
  refine v_iast (c := 50) ((4 * p) + 2) K isI_50 (by omega) (by omega) dL_makes_366 ?_
  obtain ⟨ζ4, eζ4⟩ : ∃ ζ4 : Mem, ζ4 = (upM ζ 50 ((4 * p) + 2) (ζ 51 (3 * p))) := ⟨_, rfl⟩
  rw [← eζ4]
  refine v_aload 4 K dL_makes_367 rfl ?_
  refine v_iconst K dL_makes_369 ?_
  refine v_iload 8 K dL_makes_370 rfl ?_
  refine v_imul K dL_makes_372 ?_
  refine v_iconst K dL_makes_373 ?_
  refine v_iadd K dL_makes_374 ?_
  refine v_iconst K dL_makes_375 ?_
  refine v_iast (c := 50) ((4 * p) + 3) K isI_50 (by omega) (by omega) dL_makes_376 ?_
  obtain ⟨ζ5, eζ5⟩ : ∃ ζ5 : Mem, ζ5 = (upM ζ4 50 ((4 * p) + 3) 0) := ⟨_, rfl⟩
  rw [← eζ5]
  refine v_iinc 8 [(8, .int (iZ ((p : Int) + 1))), (0, .ref (vAd X 0)), (1, .ref (σ.1.1)), (2, .ref (vAd X 49)), (3, .int (iZ (s : Int))), (4, .ref (vAd X 50)), (5, .int (iZ (n : Int))), (6, .ref (vAd X 51)), (7, .int (iZ 1)), (9, .int (iZ al)), (10, .int (iZ fi))] K dL_makes_377 rfl (by decide) rfl ?_
  refine v_goto 130 K dL_makes_380 (by decide) ?_
  refine v_sub [1, 2, 3, 4, 5, 6, 7, 8, 0] rfl ?_
  refine v_eq (lv1 := [(0, .ref (vAd X 0)), (1, .ref (σ.1.1)), (2, .ref (vAd X 49)), (3, .int (iZ (s : Int))), (4, .ref (vAd X 50)), (5, .int (iZ (n : Int))), (6, .ref (vAd X 51)), (7, .int (iZ 1)), (8, .int (iZ (((p + 1) : Nat) : Int)))]) (st1 := []) (v_c0 (v_c0 (v_c0 (v_c0 (v_c0 (v_c0 (v_c0 (v_c0 (v_cI (by omega) rfl))))))))) rfl ?_
  exact L130  ζ5 (F2_s hF4 (by omega) hgr rfl eζ4 eζ5)
