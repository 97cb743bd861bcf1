theorem dL_law_256 : decode cL_law 256 = .ok (.aload 5, 2) := by decide +kernel
theorem dL_law_258 : decode cL_law 258 = .ok (.iconst 4, 1) := by decide +kernel
theorem dL_law_259 : decode cL_law 259 = .ok (.iload 11, 2) := by decide +kernel
theorem dL_law_261 : decode cL_law 261 = .ok (.imul, 1) := by decide +kernel
theorem dL_law_262 : decode cL_law 262 = .ok (.iconst 2, 1) := by decide +kernel
theorem dL_law_263 : decode cL_law 263 = .ok (.iadd, 1) := by decide +kernel
theorem dL_law_264 : decode cL_law 264 = .ok (.iaload, 1) := by decide +kernel
theorem dL_law_265 : decode cL_law 265 = .ok (.istore 13, 2) := by decide +kernel
theorem dL_law_267 : decode cL_law 267 = .ok (.iload 12, 2) := by decide +kernel
theorem dL_law_269 : decode cL_law 269 = .ok (.iconst 3, 1) := by decide +kernel
theorem dL_law_270 : decode cL_law 270 = .ok (.irem, 1) := by decide +kernel
theorem dL_law_271 : decode cL_law 271 = .ok (.istore 14, 2) := by decide +kernel
theorem dL_law_273 : decode cL_law 273 = .ok (.iload 7, 2) := by decide +kernel
theorem dL_law_275 : decode cL_law 275 = .ok (.aload_n 1, 1) := by decide +kernel
theorem dL_law_276 : decode cL_law 276 = .ok (.iload 11, 2) := by decide +kernel
theorem dL_law_278 : decode cL_law 278 = .ok (.aload_n 1, 1) := by decide +kernel
theorem dL_law_279 : decode cL_law 279 = .ok (.iload 11, 2) := by decide +kernel
theorem dL_law_281 : decode cL_law 281 = .ok (.iload 14, 2) := by decide +kernel
theorem dL_law_283 : decode cL_law 283 = .ok (.invokestatic 140, 3) := by decide +kernel
set_option maxRecDepth 20000 in
theorem ggL_law_L_choose : GoodIn wsL_law wsL_choose := goodIn_ca (goodIn_ca (goodIn_ca (goodIn_r _ [315, 179, 280, 4, 5, 316, 317, 318, 2, 319, 286, 287, 18, 22, 276, 320, 321, 322, 323, 189, 190, 289, 290, 198, 199, 200, 201, 168, 324, 325, 326, 17, 327, 46, 328, 213, 214, 215, 48, 216, 217, 62, 329, 302, 303, 304, 206, 139, 211, 174, 218, 219, 602, 603, 604, 605, 606, 607, 608, 613, 614, 615, 609, 610, 611, 612, 643, 644, 645, 646, 647, 648] (by decide +kernel) (by decide +kernel)) (goodIn_sub (fun _ h => List.mem_append_left _ (List.mem_append_right _ h)) (by decide +kernel))) (goodIn_sub (fun _ h => List.mem_append_left _ (List.mem_append_left _ (List.mem_append_left _ (List.mem_append_left _ (List.mem_append_left _ (List.mem_append_right _ h)))))) (by decide +kernel))) (goodIn_sub (fun _ h => List.mem_append_left _ (List.mem_append_left _ (List.mem_append_right _ h))) (by decide +kernel))
set_option maxRecDepth 20000 in
theorem gL_law_L_choose : GoodIn wsL_law (va_wsS RL 140 yL_choose wsL_choose) := goodIn_app (goodIn_of _ (by decide +kernel)) ggL_law_L_choose
theorem dL_law_286 : decode cL_law 286 = .ok (.invokestatic 142, 3) := by decide +kernel
set_option maxRecDepth 20000 in
theorem ggL_law_L_getWay : GoodIn wsL_law wsL_getWay := goodIn_ca (goodIn_ca (goodIn_r _ [332, 179, 4, 333, 334, 335, 2, 336, 18, 289, 320, 321, 322, 323, 189, 190, 290, 198, 199, 200, 201, 168, 337, 214, 215, 48, 216, 217, 62, 602, 603, 604, 605, 606, 607, 608, 609, 610, 611, 612, 643, 644, 645, 646, 647, 648] (by decide +kernel) (by decide +kernel)) (goodIn_sub (fun _ h => List.mem_append_left _ (List.mem_append_left _ (List.mem_append_right _ h))) (by decide +kernel))) (goodIn_sub (fun _ h => List.mem_append_left _ (List.mem_append_left _ (List.mem_append_left _ (List.mem_append_left _ (List.mem_append_left _ (List.mem_append_right _ h)))))) (by decide +kernel))
set_option maxRecDepth 20000 in
theorem gL_law_L_getWay : GoodIn wsL_law (va_wsS RL 142 yL_getWay wsL_getWay) := goodIn_app (goodIn_of _ (by decide +kernel)) ggL_law_L_getWay
theorem dL_law_289 : decode cL_law 289 = .ok (.iload 13, 2) := by decide +kernel
theorem dL_law_291 : decode cL_law 291 = .ok (.if_icmp .ne 30, 3) := by decide +kernel
theorem dL_law_294 : decode cL_law 294 = .ok (.aload_n 1, 1) := by decide +kernel
theorem dL_law_295 : decode cL_law 295 = .ok (.iload 11, 2) := by decide +kernel
theorem dL_law_297 : decode cL_law 297 = .ok (.iconst 3, 1) := by decide +kernel
theorem dL_law_298 : decode cL_law 298 = .ok (.invokestatic 140, 3) := by decide +kernel
theorem dL_law_301 : decode cL_law 301 = .ok (.ldc 17, 2) := by decide +kernel
theorem dL_law_303 : decode cL_law 303 = .ok (.if_icmp .ne 18, 3) := by decide +kernel
theorem dL_law_306 : decode cL_law 306 = .ok (.aload_n 1, 1) := by decide +kernel
theorem dL_law_307 : decode cL_law 307 = .ok (.iload 11, 2) := by decide +kernel
theorem dL_law_309 : decode cL_law 309 = .ok (.invokestatic 123, 3) := by decide +kernel
set_option maxRecDepth 20000 in
theorem ggL_law_L_getChosen : GoodIn wsL_law wsL_getChosen := goodIn_ca (goodIn_ca (goodIn_r _ [271, 179, 4, 272, 273, 274, 2, 275, 22, 276, 198, 199, 200, 201, 189, 190, 18, 168, 602, 603, 604, 605, 606, 607, 608, 613, 614, 615, 609, 610, 611, 612] (by decide +kernel) (by decide +kernel)) (goodIn_sub (fun _ h => List.mem_append_left _ (List.mem_append_left _ (List.mem_append_left _ (List.mem_append_left _ (List.mem_append_left _ (List.mem_append_right _ h)))))) (by decide +kernel))) (goodIn_sub (fun _ h => List.mem_append_left _ (List.mem_append_left _ (List.mem_append_right _ h))) (by decide +kernel))
set_option maxRecDepth 20000 in
theorem gL_law_L_getChosen : GoodIn wsL_law (va_wsS RL 123 yL_getChosen wsL_getChosen) := goodIn_app (goodIn_of _ (by decide +kernel)) ggL_law_L_getChosen
theorem dL_law_312 : decode cL_law 312 = .ok (.iload 14, 2) := by decide +kernel
theorem dL_law_314 : decode cL_law 314 = .ok (.if_icmp .ne 7, 3) := by decide +kernel
theorem dL_law_317 : decode cL_law 317 = .ok (.iconst 1, 1) := by decide +kernel
theorem dL_law_318 : decode cL_law 318 = .ok (.goto 4, 3) := by decide +kernel
theorem dL_law_322 : decode cL_law 322 = .ok (.iand, 1) := by decide +kernel
theorem dL_law_323 : decode cL_law 323 = .ok (.istore 7, 2) := by decide +kernel
theorem dL_law_325 : decode cL_law 325 = .ok (.aload 5, 2) := by decide +kernel
theorem dL_law_327 : decode cL_law 327 = .ok (.iconst 4, 1) := by decide +kernel
theorem dL_law_328 : decode cL_law 328 = .ok (.iload 11, 2) := by decide +kernel
theorem dL_law_330 : decode cL_law 330 = .ok (.imul, 1) := by decide +kernel
theorem dL_law_331 : decode cL_law 331 = .ok (.iconst 2, 1) := by decide +kernel
theorem dL_law_332 : decode cL_law 332 = .ok (.iadd, 1) := by decide +kernel
theorem dL_law_333 : decode cL_law 333 = .ok (.aload 6, 2) := by decide +kernel
theorem dL_law_335 : decode cL_law 335 = .ok (.iconst 3, 1) := by decide +kernel
theorem dL_law_336 : decode cL_law 336 = .ok (.iload 11, 2) := by decide +kernel
theorem dL_law_338 : decode cL_law 338 = .ok (.imul, 1) := by decide +kernel
theorem dL_law_339 : decode cL_law 339 = .ok (.iload 14, 2) := by decide +kernel
theorem dL_law_341 : decode cL_law 341 = .ok (.iadd, 1) := by decide +kernel
theorem dL_law_342 : decode cL_law 342 = .ok (.iaload, 1) := by decide +kernel
theorem dL_law_343 : decode cL_law 343 = .ok (.iastore, 1) := by decide +kernel
theorem dL_law_344 : decode cL_law 344 = .ok (.goto 1154, 3) := by decide +kernel
set_option maxHeartbeats 8000000 in
set_option maxRecDepth 100000 in
theorem ga_0 {X : VC} {σ : SX} {μ : Mem} (kc : Nat) (ks : Nat) (s : Nat) (n : Nat) (z : Int) (i : Nat) (a : Int) (p : Nat) (x : Int) (hkc : kc ≤ 590000) (hks : ks ≤ 7000000) (hi : i < 14) (hst : LST μ s n z) (hp : p < n) (hx : 0 ≤ x ∧ x < 10000) (K : vK X cL_law 28 RL wsL_law rmL) (SJ : lxJ X.2.2.2.1 X.2.1.1 σ) (L1498 : ∀ (z : Int) (ν : Mem) (hst : LST ν s n z), vW X 28 1498 (kc + 60) (ks + 600) [(0, .ref (σ.1.1)), (1, .ref (vAd X 0)), (2, .int (iZ (s : Int))), (3, .int (iZ (n : Int))), (4, .ref (vAd X 49)), (5, .ref (vAd X 50)), (6, .ref (vAd X 51)), (7, .int (iZ 1)), (8, .int (iZ z)), (9, .int (iZ (i : Int)))] [] ν) : vW X 28 256 kc ks [(0, .ref (σ.1.1)), (1, .ref (vAd X 0)), (2, .int (iZ (s : Int))), (3, .int (iZ (n : Int))), (4, .ref (vAd X 49)), (5, .ref (vAd X 50)), (6, .ref (vAd X 51)), (7, .int (iZ 1)), (8, .int (iZ z)), (9, .int (iZ (i : Int))), (10, .int (iZ a)), (11, .int (iZ (p : Int))), (12, .int (iZ x))] [] μ := by
  obtain ⟨hW, hL, hL1, hR, hz, hz1, hz2⟩ := id hst
  have hs5 := hR.2.2.1
  have hn5 := hR.2.2.2.1
  have hrs := hR.1
  have hrn := hR.2.1
  have hB := hL.PB9 hW
  have h6 := hW.pc6
  have h8 := hW.rc8
  have hrow := hst.row9 hp
  have hpl := hR.2.2.2.2.2 p hp
  have hwc := hpl.2.2.2.2.2.1
  have hch := hpl.2.2.2.2.1
  have hpW := hW.pl (p := p) (by omega)
  obtain ⟨w, hw⟩ := nat_of (show 0 ≤ x % 3 by omega)
  have hw3 : w < 3 := by omega
  have hwy := hst.way9 hp hw3
  refine v_aload 5 K dL_law_256 rfl ?_
  refine v_iconst K dL_law_258 ?_
  refine v_iload 11 K dL_law_259 rfl ?_
  refine v_imul K dL_law_261 ?_
  refine v_iconst K dL_law_262 ?_
  refine v_iadd K dL_law_263 ?_
  refine v_iald (c := 50) ((4 * p) + 2) K isI_50 (by omega) (by omega) dL_law_264 ?_
  refine v_istore [(13, .int (iZ (μ 50 ((4 * p) + 2)))), (0, .ref (σ.1.1)), (1, .ref (vAd X 0)), (2, .int (iZ (s : Int))), (3, .int (iZ (n : Int))), (4, .ref (vAd X 49)), (5, .ref (vAd X 50)), (6, .ref (vAd X 51)), (7, .int (iZ 1)), (8, .int (iZ z)), (9, .int (iZ (i : Int))), (10, .int (iZ a)), (11, .int (iZ (p : Int))), (12, .int (iZ x))] K dL_law_265 (by decide) rfl ?_
  refine v_iload 13 K dL_law_267 rfl ?_
  refine v_iconst K dL_law_269 ?_
  refine v_irem (by omega) (by omega) K dL_law_270 ?_
  refine v_top (b := (w : Int)) (by rw [hw]) ?_
  refine v_istore [(14, .int (iZ (w : Int))), (13, .int (iZ (μ 50 ((4 * p) + 2)))), (0, .ref (σ.1.1)), (1, .ref (vAd X 0)), (2, .int (iZ (s : Int))), (3, .int (iZ (n : Int))), (4, .ref (vAd X 49)), (5, .ref (vAd X 50)), (6, .ref (vAd X 51)), (7, .int (iZ 1)), (8, .int (iZ z)), (9, .int (iZ (i : Int))), (10, .int (iZ a)), (11, .int (iZ (p : Int))), (12, .int (iZ x))] K dL_law_271 (by decide) rfl ?_
  refine v_iload 9 K dL_law_273 rfl ?_
  refine v_aload_n 3 K dL_law_275 rfl ?_
  refine v_iload 13 K dL_law_276 rfl ?_
  refine v_aload_n 3 K dL_law_278 rfl ?_
  refine v_iload 13 K dL_law_279 rfl ?_
  refine v_iload 0 K dL_law_281 rfl ?_
  refine v_callSWi (As := [.ref (vAd X 0), .int (iZ (p : Int)), .int (iZ (w : Int))]) (rest := [.int (iZ (p : Int)), .ref (vAd X 0), .int (iZ 1)]) K 3 (c_L_choose X.1.2.1 K.2.2.2.2.2.2 _ _ _ μ p (w : Int) (by omega) (by omega) (by omega) (by omega)) gL_law_L_choose rfl rfl rfl (by decide +kernel) ⟨(Nat.le_of_ble_eq_true rfl), (Nat.le_of_ble_eq_true rfl)⟩ rfl rfl (Nat.le_of_ble_eq_true rfl) dL_law_283 ⟨(by show kc + 0 ≤ 600258; omega), (by show ks + 0 ≤ 7292426; omega)⟩ (fun z283 ν1 q283 => ?_)
  obtain ⟨hz283, hT⟩ := q283
  have hW1 := hT.WF9 (by omega) hW
  have e1 : ν1 1 = μ 1 := hT.1 1 (by omega) (by omega)
  have e37 : ν1 (37 + p) = μ (37 + p) := hT.1 _ (by omega) (by omega)
  have hp1 : pcn ν1 = n := by rw [hT.pcn9]; exact hrn
  refine v_callSWir (As := [.ref (vAd X 0), .int (iZ (p : Int)), .int (iZ z283)]) (rest := [.int (iZ 1)]) K 3 (c_L_getWay X.1.2.1 K.2.2.2.2.2.2 _ _ _ ν1 p z283 hW1 (by omega) (by rw [e37]; omega)) gL_law_L_getWay rfl rfl rfl (by decide +kernel) ⟨(Nat.le_of_ble_eq_true rfl), (Nat.le_of_ble_eq_true rfl)⟩ rfl rfl (Nat.le_of_ble_eq_true rfl) dL_law_286 ⟨(by show kc + 0 ≤ 600258; omega), (by show ks + 0 ≤ 7292426; omega)⟩ ?_
  refine v_top (b := (μ 50 (4 * p + 2))) (by rw [hz283, hT.bits9 (by omega) (by omega), hpl.2.2.1]) ?_
  refine v_iload 1 K dL_law_289 rfl ?_
  refine v_icmp_ne 321 K dL_law_291 (by decide) (by omega) (by omega) (fun c291 => (by exfalso; omega)) (fun c291 => ?_)
  refine v_aload_n 3 K dL_law_294 rfl ?_
  refine v_iload 13 K dL_law_295 rfl ?_
  refine v_iconst K dL_law_297 ?_
  refine v_callSWir (As := [.ref (vAd X 0), .int (iZ (p : Int)), .int (iZ 3)]) (rest := [.int (iZ 1)]) K 3 (c_L_chooseT X.1.2.1 K.2.2.2.2.2.2 _ _ _ ν1 p 3 hW1 (by omega) (by rw [e37]; omega)) gL_law_L_choose rfl rfl rfl (by decide +kernel) ⟨(Nat.le_of_ble_eq_true rfl), (Nat.le_of_ble_eq_true rfl)⟩ rfl rfl (Nat.le_of_ble_eq_true rfl) dL_law_298 ⟨(by show kc + 1 ≤ 600258; omega), (by show ks + 6 ≤ 7292426; omega)⟩ ?_
  refine v_ldc (v := (-900001)) (n := (-900001)) K (List.mem_append_left _ (List.mem_append_left _ (List.mem_append_left _ (List.mem_append_left _ (List.mem_append_left _ (List.mem_append_left _ (List.mem_append_left _ (List.mem_append_left _ (List.mem_append_left _ (List.mem_append_left _ (List.mem_append_left _ (List.mem_append_left _ (List.mem_append_left _ (List.mem_append_left _ (List.mem_append_left _ (List.mem_append_left _ (List.mem_append_left _ (List.mem_of_getElem? (i := 4) rfl)))))))))))))))))) dL_law_301 (by decide) ?_
  refine v_icmp_ne 321 K dL_law_303 (by decide) (by decide) (by decide) (fun c303 => (by exfalso; omega)) (fun c303 => ?_)
  refine v_aload_n 3 K dL_law_306 rfl ?_
  refine v_iload 13 K dL_law_307 rfl ?_
  refine v_callSWir (As := [.ref (vAd X 0), .int (iZ (p : Int))]) (rest := [.int (iZ 1)]) K 2 (c_L_getChosen X.1.2.1 K.2.2.2.2.2.2 _ _ _ ν1 p hW1 (by omega)) gL_law_L_getChosen rfl rfl rfl (by decide +kernel) ⟨(Nat.le_of_ble_eq_true rfl), (Nat.le_of_ble_eq_true rfl)⟩ rfl rfl (Nat.le_of_ble_eq_true rfl) dL_law_309 ⟨(by show (kc + 1) + 0 ≤ 600258; omega), (by show (ks + 6) + 0 ≤ 7292426; omega)⟩ ?_
  refine v_top (b := (w : Int)) (by rw [hT.2.2.1]) ?_
  refine v_iload 0 K dL_law_312 rfl ?_
  refine v_icmp_ne 321 K dL_law_314 (by decide) (by omega) (by omega) (fun c314 => (by exfalso; omega)) (fun c314 => ?_)
  refine v_iconst K dL_law_317 ?_
  refine v_goto 322 K dL_law_318 (by decide) ?_
  refine v_iand (z := 1) rfl K dL_law_322 ?_
  refine v_istore [(7, .int (iZ 1)), (14, .int (iZ (w : Int))), (13, .int (iZ (μ 50 ((4 * p) + 2)))), (0, .ref (σ.1.1)), (1, .ref (vAd X 0)), (2, .int (iZ (s : Int))), (3, .int (iZ (n : Int))), (4, .ref (vAd X 49)), (5, .ref (vAd X 50)), (6, .ref (vAd X 51)), (8, .int (iZ z)), (9, .int (iZ (i : Int))), (10, .int (iZ a)), (11, .int (iZ (p : Int))), (12, .int (iZ x))] K dL_law_323 (by decide) rfl ?_
  refine v_aload 8 K dL_law_325 rfl ?_
  refine v_iconst K dL_law_327 ?_
  refine v_iload 13 K dL_law_328 rfl ?_
  refine v_imul K dL_law_330 ?_
  refine v_iconst K dL_law_331 ?_
  refine v_iadd K dL_law_332 ?_
  refine v_aload 9 K dL_law_333 rfl ?_
  refine v_iconst K dL_law_335 ?_
  refine v_iload 13 K dL_law_336 rfl ?_
  refine v_imul K dL_law_338 ?_
  refine v_iload 1 K dL_law_339 rfl ?_
  refine v_iadd K dL_law_341 ?_
  refine v_iald (c := 51) ((3 * p) + w) K isI_51 (by omega) (by omega) dL_law_342 ?_
  refine v_iast (c := 50) ((4 * p) + 2) K isI_50 (by omega) (by omega) dL_law_343 ?_
  refine v_goto 1498 K dL_law_344 (by decide) ?_
  refine v_sub [3, 4, 5, 6, 7, 8, 9, 0, 10, 11] rfl ?_
  refine v_wid (c2 := (kc + 60)) (s2 := (ks + 600)) (by show (kc + 1) ≤ (kc + 60); omega) (by show (ks + 6) ≤ (ks + 600); omega) ?_
  exact L1498 z (upM ν1 50 ((4 * p) + 2) (ν1 51 ((3 * p) + w))) (LST_take hst hp ⟨by omega, by omega⟩ hT (by rw [hT.1 51 (by omega) (by omega)]; exact (hst.way9 hp hw3).1))
theorem dL_law_353 : decode cL_law 353 = .ok (.iload 12, 2) := by decide +kernel
theorem dL_law_355 : decode cL_law 355 = .ok (.iload_n 2, 1) := by decide +kernel
theorem dL_law_356 : decode cL_law 356 = .ok (.irem, 1) := by decide +kernel
theorem dL_law_357 : decode cL_law 357 = .ok (.istore 13, 2) := by decide +kernel
theorem dL_law_359 : decode cL_law 359 = .ok (.iload 7, 2) := by decide +kernel
theorem dL_law_361 : decode cL_law 361 = .ok (.aload_n 1, 1) := by decide +kernel
theorem dL_law_362 : decode cL_law 362 = .ok (.iload 13, 2) := by decide +kernel
theorem dL_law_364 : decode cL_law 364 = .ok (.iload 12, 2) := by decide +kernel
theorem dL_law_366 : decode cL_law 366 = .ok (.invokestatic 144, 3) := by decide +kernel
set_option maxRecDepth 20000 in
theorem ggL_law_L_setToll : GoodIn wsL_law wsL_setToll := goodIn_ca (goodIn_ca (goodIn_r _ [340, 179, 112, 4, 5, 341, 342, 343, 2, 344, 18, 345, 346, 185, 186, 187, 188, 189, 190, 134, 124, 125, 126, 127, 122, 123, 602, 603, 604, 605, 606, 607, 608, 609, 610, 611, 612, 636, 637, 638, 639, 640, 641, 642] (by decide +kernel) (by decide +kernel)) (goodIn_sub (fun _ h => List.mem_append_left _ (List.mem_append_left _ (List.mem_append_right _ h))) (by decide +kernel))) (goodIn_sub (fun _ h => List.mem_append_left _ (List.mem_append_left _ (List.mem_append_left _ (List.mem_append_left _ (List.mem_append_right _ h))))) (by decide +kernel))
set_option maxRecDepth 20000 in
theorem gL_law_L_setToll : GoodIn wsL_law (va_wsS RL 144 yL_setToll wsL_setToll) := goodIn_app (goodIn_of _ (by decide +kernel)) ggL_law_L_setToll
theorem dL_law_369 : decode cL_law 369 = .ok (.aload 4, 2) := by decide +kernel
theorem dL_law_371 : decode cL_law 371 = .ok (.iconst 4, 1) := by decide +kernel
theorem dL_law_372 : decode cL_law 372 = .ok (.iload 13, 2) := by decide +kernel
theorem dL_law_374 : decode cL_law 374 = .ok (.imul, 1) := by decide +kernel
theorem dL_law_375 : decode cL_law 375 = .ok (.iconst 3, 1) := by decide +kernel
theorem dL_law_376 : decode cL_law 376 = .ok (.iadd, 1) := by decide +kernel
theorem dL_law_377 : decode cL_law 377 = .ok (.iaload, 1) := by decide +kernel
theorem dL_law_378 : decode cL_law 378 = .ok (.if_icmp .ne 21, 3) := by decide +kernel
theorem dL_law_381 : decode cL_law 381 = .ok (.aload_n 1, 1) := by decide +kernel
theorem dL_law_382 : decode cL_law 382 = .ok (.iload 13, 2) := by decide +kernel
theorem dL_law_384 : decode cL_law 384 = .ok (.sipush 10000, 3) := by decide +kernel
theorem dL_law_387 : decode cL_law 387 = .ok (.invokestatic 144, 3) := by decide +kernel
theorem dL_law_390 : decode cL_law 390 = .ok (.ldc 20, 2) := by decide +kernel
theorem dL_law_392 : decode cL_law 392 = .ok (.if_icmp .ne 7, 3) := by decide +kernel
theorem dL_law_395 : decode cL_law 395 = .ok (.iconst 1, 1) := by decide +kernel
theorem dL_law_396 : decode cL_law 396 = .ok (.goto 4, 3) := by decide +kernel
theorem dL_law_400 : decode cL_law 400 = .ok (.iand, 1) := by decide +kernel
theorem dL_law_401 : decode cL_law 401 = .ok (.istore 7, 2) := by decide +kernel
theorem dL_law_403 : decode cL_law 403 = .ok (.aload 4, 2) := by decide +kernel
theorem dL_law_405 : decode cL_law 405 = .ok (.iconst 4, 1) := by decide +kernel
theorem dL_law_406 : decode cL_law 406 = .ok (.iload 13, 2) := by decide +kernel
theorem dL_law_408 : decode cL_law 408 = .ok (.imul, 1) := by decide +kernel
theorem dL_law_409 : decode cL_law 409 = .ok (.iconst 3, 1) := by decide +kernel
theorem dL_law_410 : decode cL_law 410 = .ok (.iadd, 1) := by decide +kernel
theorem dL_law_411 : decode cL_law 411 = .ok (.iload 12, 2) := by decide +kernel
theorem dL_law_413 : decode cL_law 413 = .ok (.iastore, 1) := by decide +kernel
theorem dL_law_414 : decode cL_law 414 = .ok (.goto 1084, 3) := by decide +kernel
set_option maxHeartbeats 8000000 in
set_option maxRecDepth 100000 in
theorem ga_1 {X : VC} {σ : SX} {μ : Mem} (kc : Nat) (ks : Nat) (s : Nat) (n : Nat) (z : Int) (i : Nat) (a : Int) (p : Nat) (x : Int) (hkc : kc ≤ 590000) (hks : ks ≤ 7000000) (hi : i < 14) (hst : LST μ s n z) (hp : p < n) (hx : 0 ≤ x ∧ x < 10000) (K : vK X cL_law 28 RL wsL_law rmL) (SJ : lxJ X.2.2.2.1 X.2.1.1 σ) (L1498 : ∀ (z : Int) (ν : Mem) (hst : LST ν s n z), vW X 28 1498 (kc + 60) (ks + 600) [(0, .ref (σ.1.1)), (1, .ref (vAd X 0)), (2, .int (iZ (s : Int))), (3, .int (iZ (n : Int))), (4, .ref (vAd X 49)), (5, .ref (vAd X 50)), (6, .ref (vAd X 51)), (7, .int (iZ 1)), (8, .int (iZ z)), (9, .int (iZ (i : Int)))] [] ν) : vW X 28 353 kc ks [(0, .ref (σ.1.1)), (1, .ref (vAd X 0)), (2, .int (iZ (s : Int))), (3, .int (iZ (n : Int))), (4, .ref (vAd X 49)), (5, .ref (vAd X 50)), (6, .ref (vAd X 51)), (7, .int (iZ 1)), (8, .int (iZ z)), (9, .int (iZ (i : Int))), (10, .int (iZ a)), (11, .int (iZ (p : Int))), (12, .int (iZ x))] [] μ := by
  obtain ⟨hW, hL, hL1, hR, hz, hz1, hz2⟩ := id hst
  have hs5 := hR.2.2.1
  have hn5 := hR.2.2.2.1
  have hrs := hR.1
  have hrn := hR.2.1
  have hB := hL.PB9 hW
  have h6 := hW.pc6
  have h8 := hW.rc8
  have hrow := hst.row9 hp
  have hpl := hR.2.2.2.2.2 p hp
  have hwc := hpl.2.2.2.2.2.1
  have hch := hpl.2.2.2.2.1
  have hpW := hW.pl (p := p) (by omega)
  obtain ⟨r, hr0⟩ := nat_of (Int.emod_nonneg x (show (s : Int) ≠ 0 by omega))
  have hr : r < s := by have := Int.emod_lt_of_pos x (show 0 < (s : Int) by omega); omega
  have hrl := hR.2.2.2.2.1 r hr
  have htl := hW.tl (r := r) (by omega)
  refine v_iload 12 K dL_law_353 rfl ?_
  refine v_iload_n 2 K dL_law_355 rfl ?_
  refine v_irem (by omega) (by omega) K dL_law_356 ?_
  refine v_top (b := (r : Int)) (by rw [hr0]) ?_
  refine v_istore [(13, .int (iZ (r : Int))), (0, .ref (σ.1.1)), (1, .ref (vAd X 0)), (2, .int (iZ (s : Int))), (3, .int (iZ (n : Int))), (4, .ref (vAd X 49)), (5, .ref (vAd X 50)), (6, .ref (vAd X 51)), (7, .int (iZ 1)), (8, .int (iZ z)), (9, .int (iZ (i : Int))), (10, .int (iZ a)), (11, .int (iZ (p : Int))), (12, .int (iZ x))] K dL_law_357 (by decide) rfl ?_
  refine v_iload 8 K dL_law_359 rfl ?_
  refine v_aload_n 2 K dL_law_361 rfl ?_
  refine v_iload 0 K dL_law_362 rfl ?_
  refine v_iload 13 K dL_law_364 rfl ?_
  refine v_callSWi (As := [.ref (vAd X 0), .int (iZ (r : Int)), .int (iZ x)]) (rest := [.int (iZ 1)]) K 3 (c_L_setToll X.1.2.1 K.2.2.2.2.2.2 _ _ _ μ r x (by omega) (by omega) (by omega)) gL_law_L_setToll rfl rfl rfl (by decide +kernel) ⟨(Nat.le_of_ble_eq_true rfl), (Nat.le_of_ble_eq_true rfl)⟩ rfl rfl (Nat.le_of_ble_eq_true rfl) dL_law_366 ⟨(by show kc + 0 ≤ 600258; omega), (by show ks + 0 ≤ 7292426; omega)⟩ (fun z366 ν1 q366 => ?_)
  have hW1 : WF ν1 := by rw [q366.2]; exact WF_toll hW (by omega) (by omega)
  have hr1 : rc ν1 = s := by unfold rc; rw [q366.2, upM_off (by omega)]; exact hrs
  have hz3 := q366.1
  refine v_aload 5 K dL_law_369 rfl ?_
  refine v_iconst K dL_law_371 ?_
  refine v_iload 0 K dL_law_372 rfl ?_
  refine v_imul K dL_law_374 ?_
  refine v_iconst K dL_law_375 ?_
  refine v_iadd K dL_law_376 ?_
  refine v_iald (c := 49) ((4 * r) + 3) K isI_49 (by omega) (by omega) dL_law_377 ?_
  refine v_top (b := (μ (21 + r) 5)) (by rw [q366.2, upM_off (by omega), hrl.2.2.2.1]) ?_
  refine v_icmp_ne 399 K dL_law_378 (by decide) (by omega) (by omega) (fun c378 => (by exfalso; omega)) (fun c378 => ?_)
  refine v_aload_n 2 K dL_law_381 rfl ?_
  refine v_iload 0 K dL_law_382 rfl ?_
  refine v_sipush K dL_law_384 (by decide) ?_
  refine v_callSWir (As := [.ref (vAd X 0), .int (iZ (r : Int)), .int (iZ 10000)]) (rest := [.int (iZ 1)]) K 3 (c_L_setTollT X.1.2.1 K.2.2.2.2.2.2 _ _ _ ν1 r 10000 hW1 (by omega) (by omega)) gL_law_L_setToll rfl rfl rfl (by decide +kernel) ⟨(Nat.le_of_ble_eq_true rfl), (Nat.le_of_ble_eq_true rfl)⟩ rfl rfl (Nat.le_of_ble_eq_true rfl) dL_law_387 ⟨(by show kc + 1 ≤ 600258; omega), (by show ks + 6 ≤ 7292426; omega)⟩ ?_
  refine v_ldc (v := (-900002)) (n := (-900002)) K (List.mem_append_left _ (List.mem_append_left _ (List.mem_append_left _ (List.mem_append_left _ (List.mem_append_left _ (List.mem_append_left _ (List.mem_append_left _ (List.mem_append_left _ (List.mem_append_left _ (List.mem_append_left _ (List.mem_append_left _ (List.mem_append_left _ (List.mem_append_left _ (List.mem_append_left _ (List.mem_append_left _ (List.mem_append_left _ (List.mem_append_left _ (List.mem_of_getElem? (i := 5) rfl)))))))))))))))))) dL_law_390 (by decide) ?_
  refine v_icmp_ne 399 K dL_law_392 (by decide) (by decide) (by decide) (fun c392 => (by exfalso; omega)) (fun c392 => ?_)
  refine v_iconst K dL_law_395 ?_
  refine v_goto 400 K dL_law_396 (by decide) ?_
  refine v_iand (z := 1) rfl K dL_law_400 ?_
  refine v_istore [(7, .int (iZ 1)), (13, .int (iZ (r : Int))), (0, .ref (σ.1.1)), (1, .ref (vAd X 0)), (2, .int (iZ (s : Int))), (3, .int (iZ (n : Int))), (4, .ref (vAd X 49)), (5, .ref (vAd X 50)), (6, .ref (vAd X 51)), (8, .int (iZ z)), (9, .int (iZ (i : Int))), (10, .int (iZ a)), (11, .int (iZ (p : Int))), (12, .int (iZ x))] K dL_law_401 (by decide) rfl ?_
  refine v_aload 6 K dL_law_403 rfl ?_
  refine v_iconst K dL_law_405 ?_
  refine v_iload 1 K dL_law_406 rfl ?_
  refine v_imul K dL_law_408 ?_
  refine v_iconst K dL_law_409 ?_
  refine v_iadd K dL_law_410 ?_
  refine v_iload 13 K dL_law_411 rfl ?_
  refine v_iast (c := 49) ((4 * r) + 3) K isI_49 (by omega) (by omega) dL_law_413 ?_
  refine v_goto 1498 K dL_law_414 (by decide) ?_
  refine v_sub [2, 3, 4, 5, 6, 7, 8, 0, 9, 10] rfl ?_
  refine v_wid (c2 := (kc + 60)) (s2 := (ks + 600)) (by show (kc + 1) ≤ (kc + 60); omega) (by show (ks + 6) ≤ (ks + 600); omega) ?_
  exact L1498 z (upM ν1 49 ((4 * r) + 3) x) (by rw [q366.2]; exact LST_toll hst hr (by omega))
theorem dL_law_423 : decode cL_law 423 = .ok (.iload 7, 2) := by decide +kernel
theorem dL_law_425 : decode cL_law 425 = .ok (.aload_n 1, 1) := by decide +kernel
theorem dL_law_426 : decode cL_law 426 = .ok (.iload 11, 2) := by decide +kernel
theorem dL_law_428 : decode cL_law 428 = .ok (.iload 12, 2) := by decide +kernel
theorem dL_law_430 : decode cL_law 430 = .ok (.bipush 10, 2) := by decide +kernel
theorem dL_law_432 : decode cL_law 432 = .ok (.irem, 1) := by decide +kernel
theorem dL_law_433 : decode cL_law 433 = .ok (.invokestatic 146, 3) := by decide +kernel
set_option maxRecDepth 20000 in
theorem ggL_law_L_setMind : GoodIn wsL_law wsL_setMind := goodIn_ca (goodIn_ca (goodIn_r _ [349, 179, 112, 4, 5, 350, 351, 352, 2, 353, 18, 289, 354, 198, 199, 200, 201, 189, 190, 168, 124, 125, 126, 127, 122, 123, 602, 603, 604, 605, 606, 607, 608, 609, 610, 611, 612, 643, 644, 645, 646, 647, 648] (by decide +kernel) (by decide +kernel)) (goodIn_sub (fun _ h => List.mem_append_left _ (List.mem_append_left _ (List.mem_append_right _ h))) (by decide +kernel))) (goodIn_sub (fun _ h => List.mem_append_left _ (List.mem_append_left _ (List.mem_append_left _ (List.mem_append_left _ (List.mem_append_right _ h))))) (by decide +kernel))
set_option maxRecDepth 20000 in
theorem gL_law_L_setMind : GoodIn wsL_law (va_wsS RL 146 yL_setMind wsL_setMind) := goodIn_app (goodIn_of _ (by decide +kernel)) ggL_law_L_setMind
theorem dL_law_436 : decode cL_law 436 = .ok (.aload 5, 2) := by decide +kernel
theorem dL_law_438 : decode cL_law 438 = .ok (.iconst 4, 1) := by decide +kernel
theorem dL_law_439 : decode cL_law 439 = .ok (.iload 11, 2) := by decide +kernel
theorem dL_law_441 : decode cL_law 441 = .ok (.imul, 1) := by decide +kernel
theorem dL_law_442 : decode cL_law 442 = .ok (.iconst 1, 1) := by decide +kernel
theorem dL_law_443 : decode cL_law 443 = .ok (.iadd, 1) := by decide +kernel
theorem dL_law_444 : decode cL_law 444 = .ok (.iaload, 1) := by decide +kernel
theorem dL_law_445 : decode cL_law 445 = .ok (.if_icmp .ne 20, 3) := by decide +kernel
theorem dL_law_448 : decode cL_law 448 = .ok (.aload_n 1, 1) := by decide +kernel
theorem dL_law_449 : decode cL_law 449 = .ok (.iload 11, 2) := by decide +kernel
theorem dL_law_451 : decode cL_law 451 = .ok (.bipush 10, 2) := by decide +kernel
theorem dL_law_453 : decode cL_law 453 = .ok (.invokestatic 146, 3) := by decide +kernel
theorem dL_law_456 : decode cL_law 456 = .ok (.ldc 20, 2) := by decide +kernel
theorem dL_law_458 : decode cL_law 458 = .ok (.if_icmp .ne 7, 3) := by decide +kernel
theorem dL_law_461 : decode cL_law 461 = .ok (.iconst 1, 1) := by decide +kernel
theorem dL_law_462 : decode cL_law 462 = .ok (.goto 4, 3) := by decide +kernel
theorem dL_law_466 : decode cL_law 466 = .ok (.iand, 1) := by decide +kernel
theorem dL_law_467 : decode cL_law 467 = .ok (.istore 7, 2) := by decide +kernel
theorem dL_law_469 : decode cL_law 469 = .ok (.aload 5, 2) := by decide +kernel
theorem dL_law_471 : decode cL_law 471 = .ok (.iconst 4, 1) := by decide +kernel
theorem dL_law_472 : decode cL_law 472 = .ok (.iload 11, 2) := by decide +kernel
theorem dL_law_474 : decode cL_law 474 = .ok (.imul, 1) := by decide +kernel
theorem dL_law_475 : decode cL_law 475 = .ok (.iconst 1, 1) := by decide +kernel
theorem dL_law_476 : decode cL_law 476 = .ok (.iadd, 1) := by decide +kernel
theorem dL_law_477 : decode cL_law 477 = .ok (.iload 12, 2) := by decide +kernel
theorem dL_law_479 : decode cL_law 479 = .ok (.bipush 10, 2) := by decide +kernel
theorem dL_law_481 : decode cL_law 481 = .ok (.irem, 1) := by decide +kernel
theorem dL_law_482 : decode cL_law 482 = .ok (.iastore, 1) := by decide +kernel
theorem dL_law_483 : decode cL_law 483 = .ok (.goto 1015, 3) := by decide +kernel
set_option maxHeartbeats 8000000 in
set_option maxRecDepth 100000 in
theorem ga_2 {X : VC} {σ : SX} {μ : Mem} (kc : Nat) (ks : Nat) (s : Nat) (n : Nat) (z : Int) (i : Nat) (a : Int) (p : Nat) (x : Int) (hkc : kc ≤ 590000) (hks : ks ≤ 7000000) (hi : i < 14) (hst : LST μ s n z) (hp : p < n) (hx : 0 ≤ x ∧ x < 10000) (K : vK X cL_law 28 RL wsL_law rmL) (SJ : lxJ X.2.2.2.1 X.2.1.1 σ) (L1498 : ∀ (z : Int) (ν : Mem) (hst : LST ν s n z), vW X 28 1498 (kc + 60) (ks + 600) [(0, .ref (σ.1.1)), (1, .ref (vAd X 0)), (2, .int (iZ (s : Int))), (3, .int (iZ (n : Int))), (4, .ref (vAd X 49)), (5, .ref (vAd X 50)), (6, .ref (vAd X 51)), (7, .int (iZ 1)), (8, .int (iZ z)), (9, .int (iZ (i : Int)))] [] ν) : vW X 28 423 kc ks [(0, .ref (σ.1.1)), (1, .ref (vAd X 0)), (2, .int (iZ (s : Int))), (3, .int (iZ (n : Int))), (4, .ref (vAd X 49)), (5, .ref (vAd X 50)), (6, .ref (vAd X 51)), (7, .int (iZ 1)), (8, .int (iZ z)), (9, .int (iZ (i : Int))), (10, .int (iZ a)), (11, .int (iZ (p : Int))), (12, .int (iZ x))] [] μ := by
  obtain ⟨hW, hL, hL1, hR, hz, hz1, hz2⟩ := id hst
  have hs5 := hR.2.2.1
  have hn5 := hR.2.2.2.1
  have hrs := hR.1
  have hrn := hR.2.1
  have hB := hL.PB9 hW
  have h6 := hW.pc6
  have h8 := hW.rc8
  have hrow := hst.row9 hp
  have hpl := hR.2.2.2.2.2 p hp
  have hwc := hpl.2.2.2.2.2.1
  have hch := hpl.2.2.2.2.1
  have hpW := hW.pl (p := p) (by omega)
  refine v_iload 7 K dL_law_423 rfl ?_
  refine v_aload_n 1 K dL_law_425 rfl ?_
  refine v_iload 11 K dL_law_426 rfl ?_
  refine v_iload 12 K dL_law_428 rfl ?_
  refine v_bipush K dL_law_430 (by decide) ?_
  refine v_irem (by omega) (by omega) K dL_law_432 ?_
  refine v_callSWi (As := [.ref (vAd X 0), .int (iZ (p : Int)), .int (iZ (x % 10))]) (rest := [.int (iZ 1)]) K 3 (c_L_setMind X.1.2.1 K.2.2.2.2.2.2 _ _ _ μ p (x % 10) (by omega) (by omega) (by omega)) gL_law_L_setMind rfl rfl rfl (by decide +kernel) ⟨(Nat.le_of_ble_eq_true rfl), (Nat.le_of_ble_eq_true rfl)⟩ rfl rfl (Nat.le_of_ble_eq_true rfl) dL_law_433 ⟨(by show kc + 0 ≤ 600258; omega), (by show ks + 0 ≤ 7292426; omega)⟩ (fun z433 ν1 q433 => ?_)
  have hW1 : WF ν1 := by rw [q433.2]; exact WF_mind hW (by omega) (by omega)
  have hp1 : pcn ν1 = n := by unfold pcn; rw [q433.2, upM_off (by omega)]; exact hrn
  have hz4 := q433.1
  refine v_aload 5 K dL_law_436 rfl ?_
  refine v_iconst K dL_law_438 ?_
  refine v_iload 11 K dL_law_439 rfl ?_
  refine v_imul K dL_law_441 ?_
  refine v_iconst K dL_law_442 ?_
  refine v_iadd K dL_law_443 ?_
  refine v_iald (c := 50) ((4 * p) + 1) K isI_50 (by omega) (by omega) dL_law_444 ?_
  refine v_top (b := (μ (37 + p) 1)) (by rw [q433.2, upM_off (by omega), hpl.2.1]) ?_
  refine v_icmp_ne 465 K dL_law_445 (by decide) (by omega) (by omega) (fun c445 => (by exfalso; omega)) (fun c445 => ?_)
  refine v_aload_n 1 K dL_law_448 rfl ?_
  refine v_iload 11 K dL_law_449 rfl ?_
  refine v_bipush K dL_law_451 (by decide) ?_
  refine v_callSWir (As := [.ref (vAd X 0), .int (iZ (p : Int)), .int (iZ 10)]) (rest := [.int (iZ 1)]) K 3 (c_L_setMindT X.1.2.1 K.2.2.2.2.2.2 _ _ _ ν1 p 10 hW1 (by omega) (by omega)) gL_law_L_setMind rfl rfl rfl (by decide +kernel) ⟨(Nat.le_of_ble_eq_true rfl), (Nat.le_of_ble_eq_true rfl)⟩ rfl rfl (Nat.le_of_ble_eq_true rfl) dL_law_453 ⟨(by show kc + 1 ≤ 600258; omega), (by show ks + 6 ≤ 7292426; omega)⟩ ?_
  refine v_ldc (v := (-900002)) (n := (-900002)) K (List.mem_append_left _ (List.mem_append_left _ (List.mem_append_left _ (List.mem_append_left _ (List.mem_append_left _ (List.mem_append_left _ (List.mem_append_left _ (List.mem_append_left _ (List.mem_append_left _ (List.mem_append_left _ (List.mem_append_left _ (List.mem_append_left _ (List.mem_append_left _ (List.mem_append_left _ (List.mem_append_left _ (List.mem_append_left _ (List.mem_append_left _ (List.mem_of_getElem? (i := 5) rfl)))))))))))))))))) dL_law_456 (by decide) ?_
  refine v_icmp_ne 465 K dL_law_458 (by decide) (by decide) (by decide) (fun c458 => (by exfalso; omega)) (fun c458 => ?_)
  refine v_iconst K dL_law_461 ?_
  refine v_goto 466 K dL_law_462 (by decide) ?_
  refine v_iand (z := 1) rfl K dL_law_466 ?_
  refine v_istore [(7, .int (iZ 1)), (0, .ref (σ.1.1)), (1, .ref (vAd X 0)), (2, .int (iZ (s : Int))), (3, .int (iZ (n : Int))), (4, .ref (vAd X 49)), (5, .ref (vAd X 50)), (6, .ref (vAd X 51)), (8, .int (iZ z)), (9, .int (iZ (i : Int))), (10, .int (iZ a)), (11, .int (iZ (p : Int))), (12, .int (iZ x))] K dL_law_467 (by decide) rfl ?_
  refine v_aload 6 K dL_law_469 rfl ?_
  refine v_iconst K dL_law_471 ?_
  refine v_iload 11 K dL_law_472 rfl ?_
  refine v_imul K dL_law_474 ?_
  refine v_iconst K dL_law_475 ?_
  refine v_iadd K dL_law_476 ?_
  refine v_iload 12 K dL_law_477 rfl ?_
  refine v_bipush K dL_law_479 (by decide) ?_
  refine v_irem (by omega) (by omega) K dL_law_481 ?_
  refine v_iast (c := 50) ((4 * p) + 1) K isI_50 (by omega) (by omega) dL_law_482 ?_
  refine v_goto 1498 K dL_law_483 (by decide) ?_
  refine v_sub [1, 2, 3, 4, 5, 6, 7, 0, 8, 9] rfl ?_
  refine v_wid (c2 := (kc + 60)) (s2 := (ks + 600)) (by show (kc + 1) ≤ (kc + 60); omega) (by show (ks + 6) ≤ (ks + 600); omega) ?_
  exact L1498 z (upM ν1 50 ((4 * p) + 1) (x % 10)) (by rw [q433.2]; exact LST_pl hst hp (Or.inl ⟨rfl, by omega, by omega⟩) (Or.inl ⟨rfl, rfl⟩))
