abbrev rmK : Room := { frames := 8, cells := 15, slots := 90, locals := 127 }
theorem dL_makes_252 : decode cL_makes 252 = .ok (.iconst 0, 1) := by decide +kernel
theorem dL_makes_253 : decode cL_makes 253 = .ok (.istore 11, 2) := by decide +kernel
theorem dL_makes_255 : decode cL_makes 255 = .ok (.iload 11, 2) := by decide +kernel
theorem dL_makes_257 : decode cL_makes 257 = .ok (.iconst 3, 1) := by decide +kernel
theorem dL_makes_258 : decode cL_makes 258 = .ok (.if_icmp .ge 93, 3) := by decide +kernel
theorem dL_makes_261 : decode cL_makes 261 = .ok (.aload 6, 2) := by decide +kernel
theorem dL_makes_263 : decode cL_makes 263 = .ok (.iconst 3, 1) := by decide +kernel
theorem dL_makes_264 : decode cL_makes 264 = .ok (.iload 8, 2) := by decide +kernel
theorem dL_makes_266 : decode cL_makes 266 = .ok (.imul, 1) := by decide +kernel
theorem dL_makes_267 : decode cL_makes 267 = .ok (.iload 11, 2) := by decide +kernel
theorem dL_makes_269 : decode cL_makes 269 = .ok (.iadd, 1) := by decide +kernel
theorem dL_makes_270 : decode cL_makes 270 = .ok (.iconst 1, 1) := by decide +kernel
theorem dL_makes_271 : decode cL_makes 271 = .ok (.iload 10, 2) := by decide +kernel
theorem dL_makes_273 : decode cL_makes 273 = .ok (.iconst 1, 1) := by decide +kernel
theorem dL_makes_274 : decode cL_makes 274 = .ok (.isub, 1) := by decide +kernel
theorem dL_makes_275 : decode cL_makes 275 = .ok (.iload 11, 2) := by decide +kernel
theorem dL_makes_277 : decode cL_makes 277 = .ok (.iconst 1, 1) := by decide +kernel
theorem dL_makes_278 : decode cL_makes 278 = .ok (.aload_n 1, 1) := by decide +kernel
theorem dL_makes_279 : decode cL_makes 279 = .ok (.bipush 80, 2) := by decide +kernel
theorem dL_makes_281 : decode cL_makes 281 = .ok (.iload 8, 2) := by decide +kernel
theorem dL_makes_283 : decode cL_makes 283 = .ok (.iadd, 1) := by decide +kernel
theorem dL_makes_284 : decode cL_makes 284 = .ok (.iconst 2, 1) := by decide +kernel
theorem dL_makes_285 : decode cL_makes 285 = .ok (.invokestatic 106, 3) := by decide +kernel
set_option maxRecDepth 20000 in
theorem ggL_makes_L_in : GoodIn wsL_makes wsL_in := goodIn_ca (goodIn_r _ [5, 6, 7, 8, 4, 9, 10, 11] (by decide +kernel) (by decide +kernel)) (goodIn_sub (fun _ h => List.mem_cons_of_mem _ (List.mem_append_left _ (List.mem_append_left _ (List.mem_append_left _ (List.mem_append_left _ (List.mem_append_right _ h)))))) (by decide +kernel))
set_option maxRecDepth 20000 in
theorem gL_makes_L_in : GoodIn wsL_makes (va_wsS RL 106 yL_in wsL_in) := goodIn_app (goodIn_of _ (by decide +kernel)) ggL_makes_L_in
theorem dL_makes_288 : decode cL_makes 288 = .ok (.iadd, 1) := by decide +kernel
theorem dL_makes_289 : decode cL_makes 289 = .ok (.imul, 1) := by decide +kernel
theorem dL_makes_290 : decode cL_makes 290 = .ok (.iadd, 1) := by decide +kernel
theorem dL_makes_291 : decode cL_makes 291 = .ok (.iload 9, 2) := by decide +kernel
theorem dL_makes_293 : decode cL_makes 293 = .ok (.irem, 1) := by decide +kernel
theorem dL_makes_294 : decode cL_makes 294 = .ok (.iadd, 1) := by decide +kernel
theorem dL_makes_295 : decode cL_makes 295 = .ok (.iastore, 1) := by decide +kernel
theorem dL_makes_296 : decode cL_makes 296 = .ok (.iload 7, 2) := by decide +kernel
theorem dL_makes_298 : decode cL_makes 298 = .ok (.aload_n 0, 1) := by decide +kernel
theorem dL_makes_299 : decode cL_makes 299 = .ok (.iload 8, 2) := by decide +kernel
theorem dL_makes_301 : decode cL_makes 301 = .ok (.aload 6, 2) := by decide +kernel
theorem dL_makes_303 : decode cL_makes 303 = .ok (.iconst 3, 1) := by decide +kernel
theorem dL_makes_304 : decode cL_makes 304 = .ok (.iload 8, 2) := by decide +kernel
theorem dL_makes_306 : decode cL_makes 306 = .ok (.imul, 1) := by decide +kernel
theorem dL_makes_307 : decode cL_makes 307 = .ok (.iload 11, 2) := by decide +kernel
theorem dL_makes_309 : decode cL_makes 309 = .ok (.iadd, 1) := by decide +kernel
theorem dL_makes_310 : decode cL_makes 310 = .ok (.iaload, 1) := by decide +kernel
theorem dL_makes_311 : decode cL_makes 311 = .ok (.invokestatic 128, 3) := by decide +kernel
set_option maxRecDepth 20000 in
theorem ggL_makes_L_addWay : GoodIn wsL_makes wsL_addWay := goodIn_ca (goodIn_ca (goodIn_ca (goodIn_ca (goodIn_ca (goodIn_r _ [179, 133, 56, 180, 57, 58, 59, 1, 181, 182, 183, 184, 63, 185, 70, 71, 186, 187, 80, 81, 65, 82, 138, 188, 189, 190, 140, 141, 142, 143, 144, 145, 121, 191, 192, 193, 167, 194, 169, 170, 195, 196, 197, 86, 198, 127, 199, 200, 201, 202, 203, 204, 157, 88, 162, 128, 164, 165, 166, 168, 171, 172, 207, 208, 209, 210, 211, 212, 213, 214, 215, 216, 217, 231, 232, 233, 225, 226, 227, 228, 229, 230] (by decide +kernel) (by decide +kernel)) (goodIn_sub (fun _ h => List.mem_cons_of_mem _ (List.mem_append_left _ (List.mem_append_left _ (List.mem_append_left _ (List.mem_append_right _ h))))) (by decide +kernel))) (goodIn_sub (fun _ h => List.mem_cons_of_mem _ (List.mem_append_right _ h)) (by decide +kernel))) (goodIn_sub (fun _ h => List.mem_cons_of_mem _ (List.mem_append_left _ (List.mem_append_left _ (List.mem_append_right _ h)))) (by decide +kernel))) (goodIn_sub (fun _ h => List.mem_cons_of_mem _ (List.mem_append_left _ (List.mem_append_right _ h))) (by decide +kernel))) (goodIn_sub (fun _ h => List.mem_cons_of_mem _ (List.mem_append_left _ (List.mem_append_left _ (List.mem_append_left _ (List.mem_append_left _ (List.mem_append_right _ h)))))) (by decide +kernel))
set_option maxRecDepth 20000 in
theorem gL_makes_L_addWay : GoodIn wsL_makes (va_wsS RL 128 yL_addWay wsL_addWay) := goodIn_app (goodIn_of _ (by decide +kernel)) ggL_makes_L_addWay
theorem dL_makes_314 : decode cL_makes 314 = .ok (.iload 11, 2) := by decide +kernel
theorem dL_makes_316 : decode cL_makes 316 = .ok (.if_icmp .ne 25, 3) := by decide +kernel
theorem dL_makes_319 : decode cL_makes 319 = .ok (.aload_n 0, 1) := by decide +kernel
theorem dL_makes_320 : decode cL_makes 320 = .ok (.iload 8, 2) := by decide +kernel
theorem dL_makes_322 : decode cL_makes 322 = .ok (.aload 6, 2) := by decide +kernel
theorem dL_makes_324 : decode cL_makes 324 = .ok (.iconst 3, 1) := by decide +kernel
theorem dL_makes_325 : decode cL_makes 325 = .ok (.iload 8, 2) := by decide +kernel
theorem dL_makes_327 : decode cL_makes 327 = .ok (.imul, 1) := by decide +kernel
theorem dL_makes_328 : decode cL_makes 328 = .ok (.iaload, 1) := by decide +kernel
theorem dL_makes_329 : decode cL_makes 329 = .ok (.invokestatic 128, 3) := by decide +kernel
theorem dL_makes_332 : decode cL_makes 332 = .ok (.ldc 32, 2) := by decide +kernel
theorem dL_makes_334 : decode cL_makes 334 = .ok (.if_icmp .ne 7, 3) := by decide +kernel
theorem dL_makes_337 : decode cL_makes 337 = .ok (.iconst 1, 1) := by decide +kernel
theorem dL_makes_338 : decode cL_makes 338 = .ok (.goto 4, 3) := by decide +kernel
theorem dL_makes_342 : decode cL_makes 342 = .ok (.iand, 1) := by decide +kernel
theorem dL_makes_343 : decode cL_makes 343 = .ok (.istore 7, 2) := by decide +kernel
theorem dL_makes_345 : decode cL_makes 345 = .ok (.iinc 11 1, 3) := by decide +kernel
theorem dL_makes_348 : decode cL_makes 348 = .ok (.goto (-93), 3) := by decide +kernel
set_option maxHeartbeats 8000000 in
set_option maxRecDepth 100000 in
theorem gm_255 {X : VC} {σ : SX} {μ : Mem} (kc : Nat) (ks : Nat) (s : Nat) (n : Nat) (p : Nat) (fi : Int) (sp : Int) (al : Int) (hkc : kc ≤ 12) (hks : ks ≤ 72) (hs : 2 ≤ s ∧ s ≤ 5) (hn : 1 ≤ n ∧ n ≤ 5) (hp : p < n) (hal : or4 al) (eal : al = ((2 ^ s : Nat) : Int) - 1) (hfi : 1 ≤ fi ∧ fi ≤ al) (esp : iZ (1 + inV σ (80 + (p : Int)) 2) = iZ sp) (hsp2 : 1 ≤ sp ∧ sp ≤ 2) (hF0 : F3 μ s p 0 (-1) (wyF fi sp al)) (K : vK X cL_makes 12 RL wsL_makes rmK) (SJ : lxJ X.2.2.2.1 X.2.1.1 σ) (L351 : ∀ (ν : Mem) (hF4 : F3 ν s p 3 0 (wyF fi sp al)), vW X 12 351 (kc + 3) (ks + 18) [(0, .ref (vAd X 0)), (1, .ref (σ.1.1)), (2, .ref (vAd X 49)), (3, .int (iZ (s : Int))), (4, .ref (vAd X 50)), (5, .int (iZ (n : Int))), (6, .ref (vAd X 51)), (7, .int (iZ 1)), (8, .int (iZ (p : Int))), (9, .int (iZ al)), (10, .int (iZ fi))] [] ν) : vW X 12 252 kc ks [(0, .ref (vAd X 0)), (1, .ref (σ.1.1)), (2, .ref (vAd X 49)), (3, .int (iZ (s : Int))), (4, .ref (vAd X 50)), (5, .int (iZ (n : Int))), (6, .ref (vAd X 51)), (7, .int (iZ 1)), (8, .int (iZ (p : Int))), (9, .int (iZ al)), (10, .int (iZ fi))] [] μ := by
  have hal2 := hal.rng9
  have hsp : or2 sp := or2_of hsp2
  have hgr : ∀ j, j < 3 → 1 ≤ wyF fi sp al j ∧ wyF fi sp al j < ((2 ^ s : Nat) : Int) := fun j hj => by have := wyF_rng (f := fi) (st := sp) (al := al) (by omega) j; omega
  refine v_iconst K dL_makes_252 ?_
  refine v_istore [(11, .int (iZ 0)), (0, .ref (vAd X 0)), (1, .ref (σ.1.1)), (2, .ref (vAd X 49)), (3, .int (iZ (s : Int))), (4, .ref (vAd X 50)), (5, .int (iZ (n : Int))), (6, .ref (vAd X 51)), (7, .int (iZ 1)), (8, .int (iZ (p : Int))), (9, .int (iZ al)), (10, .int (iZ fi))] K dL_makes_253 (by decide) rfl ?_
  have L255 : ∀ (fuel : Nat) (w : Nat) (ζ : Mem) (hm : 4 - w < fuel) (hw : w ≤ 3) (hF3 : F3 ζ s p w (chW w) (wyF fi sp al)), vW X 12 255 (kc + w) (ks + 6 * w) [(0, .ref (vAd X 0)), (1, .ref (σ.1.1)), (2, .ref (vAd X 49)), (3, .int (iZ (s : Int))), (4, .ref (vAd X 50)), (5, .int (iZ (n : Int))), (6, .ref (vAd X 51)), (7, .int (iZ 1)), (8, .int (iZ (p : Int))), (9, .int (iZ al)), (10, .int (iZ fi)), (11, .int (iZ (w : Int)))] [] ζ := by
    intro fuel
    induction fuel with
    | zero => intro w ζ hm; exact absurd hm (Nat.not_lt_zero _)
    | succ fuel ih255 =>
      intro w ζ hm hw hF3
      refine v_iload 11 K dL_makes_255 rfl ?_
      refine v_iconst K dL_makes_257 ?_
      refine v_icmp_ge 351 K dL_makes_258 (by decide) (by omega) (by decide) (fun c258 => ?_) (fun c258 => ?_)
      · refine v_sub [0, 1, 2, 3, 4, 5, 6, 7, 8, 9, 10] rfl ?_
        refine v_wid (c2 := (kc + 3)) (s2 := (ks + 18)) (by show (kc + w) ≤ (kc + 3); omega) (by show (ks + 6 * w) ≤ (ks + 18); omega) ?_
        exact L351  ζ (by rw [show w = 3 by omega] at hF3; exact hF3)
      · have hws := mul_rng (a := (w : Int)) (b := sp) (A := 2) (B := 2) (by omega) (by omega)
        have hgw := hgr w (by omega)
        have hgw0 := hgr 0 (by omega)
        refine v_aload 6 K dL_makes_261 rfl ?_
        refine v_iconst K dL_makes_263 ?_
        refine v_iload 8 K dL_makes_264 rfl ?_
        refine v_imul K dL_makes_266 ?_
        refine v_iload 11 K dL_makes_267 rfl ?_
        refine v_iadd K dL_makes_269 ?_
        refine v_iconst K dL_makes_270 ?_
        refine v_iload 10 K dL_makes_271 rfl ?_
        refine v_iconst K dL_makes_273 ?_
        refine v_isub K dL_makes_274 ?_
        refine v_iload 11 K dL_makes_275 rfl ?_
        refine v_iconst K dL_makes_277 ?_
        refine v_aload_n 1 K dL_makes_278 rfl ?_
        refine v_bipush K dL_makes_279 (by decide) ?_
        refine v_iload 8 K dL_makes_281 rfl ?_
        refine v_iadd K dL_makes_283 ?_
        refine v_iconst K dL_makes_284 ?_
        refine v_in (σ := σ) (i := (80 + (p : Int))) (n := 2) K SJ (by omega) (by omega) gL_makes_L_in ⟨(Nat.le_of_ble_eq_true rfl), (Nat.le_of_ble_eq_true rfl)⟩ (Nat.le_of_ble_eq_true rfl) dL_makes_285 ⟨(by show (kc + w) + 0 ≤ 15; omega), (by show (ks + 6 * w) + 0 ≤ 90; omega)⟩ ?_
        refine v_iadd K dL_makes_288 ?_
        refine v_top (b := sp) esp ?_
        refine v_imul K dL_makes_289 ?_
        refine v_iadd K dL_makes_290 ?_
        refine v_iload 9 K dL_makes_291 rfl ?_
        refine v_irem (by omega) (by omega) K dL_makes_293 ?_
        refine v_iadd K dL_makes_294 ?_
        refine v_top (b := (wyF fi sp al w)) rfl ?_
        refine v_iast (c := 51) ((3 * p) + w) K isI_51 (by omega) (by omega) dL_makes_295 ?_
        obtain ⟨ζ1, eζ1⟩ : ∃ ζ1 : Mem, ζ1 = (upM ζ 51 ((3 * p) + w) (wyF fi sp al w)) := ⟨_, rfl⟩
        rw [← eζ1]
        have hWz : WF ζ1 := by rw [eζ1]; exact (E49_arr (by omega)).WF9 hF3.1
        have hrz : rc ζ1 = s := by unfold rc; rw [eζ1, upM_off (by omega)]; exact hF3.2.1
        have hpz : pcn ζ1 = p + 1 := by unfold pcn; rw [eζ1, upM_off (by omega), hF3.2.2.1]; omega
        have hLz : PL ζ1 0 := by rw [eζ1]; exact (E49_arr (by omega)).PL9 (by omega) hF3.1 hF3.2.2.2.1
        have h3z : ζ1 (37 + p) 3 = (w : Int) := by rw [eζ1, upM_off (by omega)]; exact hF3.2.2.2.2.2.2.2.2.2.2.2.1
        have hnz : ∀ k : Nat, (k : Int) < ζ1 (37 + p) 3 → ζ1 (43 + p) k ≠ wyF fi sp al w := fun k hk => by rw [eζ1, upM_off (by omega), (hF3.2.2.2.2.2.2.2.2.2.2.2.2.2 k (by omega)).2]; exact wyF_ne hal hsp (by omega) (by omega)
        refine v_iload 7 K dL_makes_296 rfl ?_
        refine v_aload_n 0 K dL_makes_298 rfl ?_
        refine v_iload 8 K dL_makes_299 rfl ?_
        refine v_aload 6 K dL_makes_301 rfl ?_
        refine v_iconst K dL_makes_303 ?_
        refine v_iload 8 K dL_makes_304 rfl ?_
        refine v_imul K dL_makes_306 ?_
        refine v_iload 11 K dL_makes_307 rfl ?_
        refine v_iadd K dL_makes_309 ?_
        refine v_iald (c := 51) ((3 * p) + w) K isI_51 (by omega) (by omega) dL_makes_310 ?_
        refine v_top (b := (wyF fi sp al w)) (by rw [eζ1, upM_self]) ?_
        refine v_callSWi (As := [.ref (vAd X 0), .int (iZ (p : Int)), .int (iZ (wyF fi sp al w))]) (rest := [.int (iZ 1)]) K 3 (c_L_addWay X.1.2.1 K.2.2.2.2.2.2 _ _ _ ζ1 p (wyF fi sp al w) hWz (hLz.PB9 hWz) (by omega) (by rw [hrz]; exact hgw) (by omega) hnz) gL_makes_L_addWay rfl rfl rfl (by decide +kernel) ⟨(Nat.le_of_ble_eq_true rfl), (Nat.le_of_ble_eq_true rfl)⟩ rfl rfl (Nat.le_of_ble_eq_true rfl) dL_makes_311 ⟨(by show (kc + w) + 0 ≤ 15; omega), (by show (ks + 6 * w) + 0 ≤ 90; omega)⟩ (fun z311 ζ3 q311 => ?_)
        obtain ⟨hz311, hq311⟩ := q311
        have hG4 := F3_s hF3 (by omega) (by omega) (by omega) rfl (by omega) eζ1 hq311
        have hW4 := hG4.1
        have hr4 := hG4.2.1
        have hp4 : pcn ζ3 = p + 1 := by unfold pcn; rw [hG4.2.2.1]; omega
        have hc4 := hG4.2.2.2.1.2.2
        have h34 := hG4.2.2.2.2.2.2.2.2.2.2.2.1
        have h51z : ζ3 51 (3 * p) = wyF fi sp al 0 := (hG4.2.2.2.2.2.2.2.2.2.2.2.2.2 0 (by omega)).1
        refine v_iload 11 K dL_makes_314 rfl ?_
        refine v_icmp_ne 341 K dL_makes_316 (by decide) (by omega) (by omega) (fun c316 => (by exfalso; omega)) (fun c316 => ?_)
        refine v_aload_n 0 K dL_makes_319 rfl ?_
        refine v_iload 8 K dL_makes_320 rfl ?_
        refine v_aload 6 K dL_makes_322 rfl ?_
        refine v_iconst K dL_makes_324 ?_
        refine v_iload 8 K dL_makes_325 rfl ?_
        refine v_imul K dL_makes_327 ?_
        refine v_iald (c := 51) (3 * p) K isI_51 (by omega) (by omega) dL_makes_328 ?_
        refine v_top (b := (wyF fi sp al 0)) (by rw [h51z]) ?_
        refine v_callSWir (As := [.ref (vAd X 0), .int (iZ (p : Int)), .int (iZ (wyF fi sp al 0))]) (rest := [.int (iZ 1)]) K 3 (c_L_addWayT3 X.1.2.1 K.2.2.2.2.2.2 _ _ _ ζ3 p (wyF fi sp al 0) hW4 hc4 (by omega) (by rw [hr4]; exact hgw0) ⟨0, by omega, (hG4.2.2.2.2.2.2.2.2.2.2.2.2.2 0 (by omega)).2⟩) gL_makes_L_addWay rfl rfl rfl (by decide +kernel) ⟨(Nat.le_of_ble_eq_true rfl), (Nat.le_of_ble_eq_true rfl)⟩ rfl rfl (Nat.le_of_ble_eq_true rfl) dL_makes_329 ⟨(by show (kc + w) + 1 ≤ 15; omega), (by show (ks + 6 * w) + 6 ≤ 90; omega)⟩ ?_
        refine v_ldc (v := (-900003)) (n := (-900003)) K (List.mem_cons_of_mem _ (List.mem_append_left _ (List.mem_append_left _ (List.mem_append_left _ (List.mem_append_left _ (List.mem_append_left _ (List.mem_append_left _ (List.mem_append_left _ (List.mem_append_left _ (List.mem_append_left _ (List.mem_append_left _ (List.mem_append_left _ (List.mem_append_left _ (List.mem_of_getElem? (i := 0) rfl)))))))))))))) dL_makes_332 (by decide) ?_
        refine v_icmp_ne 341 K dL_makes_334 (by decide) (by decide) (by decide) (fun c334 => (by exfalso; omega)) (fun c334 => ?_)
        refine v_iconst K dL_makes_337 ?_
        refine v_goto 342 K dL_makes_338 (by decide) ?_
        refine v_iand (z := 1) rfl K dL_makes_342 ?_
        refine v_istore [(7, .int (iZ 1)), (0, .ref (vAd X 0)), (1, .ref (σ.1.1)), (2, .ref (vAd X 49)), (3, .int (iZ (s : Int))), (4, .ref (vAd X 50)), (5, .int (iZ (n : Int))), (6, .ref (vAd X 51)), (8, .int (iZ (p : Int))), (9, .int (iZ al)), (10, .int (iZ fi)), (11, .int (iZ (w : Int)))] K dL_makes_343 (by decide) rfl ?_
        refine v_iinc 11 [(11, .int (iZ ((w : Int) + 1))), (7, .int (iZ 1)), (0, .ref (vAd X 0)), (1, .ref (σ.1.1)), (2, .ref (vAd X 49)), (3, .int (iZ (s : Int))), (4, .ref (vAd X 50)), (5, .int (iZ (n : Int))), (6, .ref (vAd X 51)), (8, .int (iZ (p : Int))), (9, .int (iZ al)), (10, .int (iZ fi))] K dL_makes_345 rfl (by decide) rfl ?_
        refine v_goto 255 K dL_makes_348 (by decide) ?_
        refine v_sub [2, 3, 4, 5, 6, 7, 8, 1, 9, 10, 11, 0] rfl ?_
        refine v_eq (lv1 := [(0, .ref (vAd X 0)), (1, .ref (σ.1.1)), (2, .ref (vAd X 49)), (3, .int (iZ (s : Int))), (4, .ref (vAd X 50)), (5, .int (iZ (n : Int))), (6, .ref (vAd X 51)), (7, .int (iZ 1)), (8, .int (iZ (p : Int))), (9, .int (iZ al)), (10, .int (iZ fi)), (11, .int (iZ (((w + 1) : Nat) : Int)))]) (st1 := []) (v_c0 (v_c0 (v_c0 (v_c0 (v_c0 (v_c0 (v_c0 (v_c0 (v_c0 (v_c0 (v_c0 (v_cI (by first | rfl | omega) rfl)))))))))))) rfl ?_
        refine v_wid (c2 := (kc + (w + 1))) (s2 := (ks + 6 * (w + 1))) (by show ((kc + w) + 1) ≤ (kc + (w + 1)); omega) (by show ((ks + 6 * w) + 6) ≤ (ks + 6 * (w + 1)); omega) ?_
        exact ih255 (w + 1) ζ3 (by omega) (by omega) hG4
  refine v_sub [1, 2, 3, 4, 5, 6, 7, 8, 9, 10, 11, 0] rfl ?_
  refine v_eq (lv1 := [(0, .ref (vAd X 0)), (1, .ref (σ.1.1)), (2, .ref (vAd X 49)), (3, .int (iZ (s : Int))), (4, .ref (vAd X 50)), (5, .int (iZ (n : Int))), (6, .ref (vAd X 51)), (7, .int (iZ 1)), (8, .int (iZ (p : Int))), (9, .int (iZ al)), (10, .int (iZ fi)), (11, .int (iZ ((0 : Nat) : Int)))]) (st1 := []) (v_c0 (v_c0 (v_c0 (v_c0 (v_c0 (v_c0 (v_c0 (v_c0 (v_c0 (v_c0 (v_c0 (v_cI (by first | rfl | omega) rfl)))))))))))) rfl ?_
  refine v_wid (c2 := (kc + 0)) (s2 := (ks + 6 * 0)) (by show kc ≤ (kc + 0); omega) (by show ks ≤ (ks + 6 * 0); omega) ?_
  exact L255 (4 - 0 + 1) 0 μ (by omega) (by omega) hF0
