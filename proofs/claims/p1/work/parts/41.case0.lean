theorem dL_law_232 : decode cL_law 232 = .ok (.aload_n 1, 1) := by decide +kernel
theorem dL_law_233 : decode cL_law 233 = .ok (.aload_n 0, 1) := by decide +kernel
theorem dL_law_234 : decode cL_law 234 = .ok (.iload 5, 2) := by decide +kernel
theorem dL_law_236 : decode cL_law 236 = .ok (.iconst 1, 1) := by decide +kernel
theorem dL_law_237 : decode cL_law 237 = .ok (.iadd, 1) := by decide +kernel
theorem dL_law_238 : decode cL_law 238 = .ok (.iaload, 1) := by decide +kernel
theorem dL_law_239 : decode cL_law 239 = .ok (.i2c, 1) := by decide +kernel
theorem dL_law_240 : decode cL_law 240 = .ok (.aload_n 0, 1) := by decide +kernel
theorem dL_law_241 : decode cL_law 241 = .ok (.iload 5, 2) := by decide +kernel
theorem dL_law_243 : decode cL_law 243 = .ok (.iconst 2, 1) := by decide +kernel
theorem dL_law_244 : decode cL_law 244 = .ok (.iadd, 1) := by decide +kernel
theorem dL_law_245 : decode cL_law 245 = .ok (.iaload, 1) := by decide +kernel
theorem dL_law_246 : decode cL_law 246 = .ok (.aload_n 0, 1) := by decide +kernel
theorem dL_law_247 : decode cL_law 247 = .ok (.iload 5, 2) := by decide +kernel
theorem dL_law_249 : decode cL_law 249 = .ok (.iconst 3, 1) := by decide +kernel
theorem dL_law_250 : decode cL_law 250 = .ok (.iadd, 1) := by decide +kernel
theorem dL_law_251 : decode cL_law 251 = .ok (.iaload, 1) := by decide +kernel
theorem dL_law_252 : decode cL_law 252 = .ok (.aload_n 3, 1) := by decide +kernel
theorem dL_law_253 : decode cL_law 253 = .ok (.invokestatic 145, 3) := by decide +kernel
theorem dL_law_256 : decode cL_law 256 = .ok (.istore 6, 2) := by decide +kernel
theorem dL_law_258 : decode cL_law 258 = .ok (.aload_n 2, 1) := by decide +kernel
theorem dL_law_259 : decode cL_law 259 = .ok (.aload_n 0, 1) := by decide +kernel
theorem dL_law_260 : decode cL_law 260 = .ok (.iload 5, 2) := by decide +kernel
theorem dL_law_262 : decode cL_law 262 = .ok (.iconst 1, 1) := by decide +kernel
theorem dL_law_263 : decode cL_law 263 = .ok (.iadd, 1) := by decide +kernel
theorem dL_law_264 : decode cL_law 264 = .ok (.iaload, 1) := by decide +kernel
theorem dL_law_265 : decode cL_law 265 = .ok (.i2c, 1) := by decide +kernel
theorem dL_law_266 : decode cL_law 266 = .ok (.aload_n 0, 1) := by decide +kernel
theorem dL_law_267 : decode cL_law 267 = .ok (.iload 5, 2) := by decide +kernel
theorem dL_law_269 : decode cL_law 269 = .ok (.iconst 2, 1) := by decide +kernel
theorem dL_law_270 : decode cL_law 270 = .ok (.iadd, 1) := by decide +kernel
theorem dL_law_271 : decode cL_law 271 = .ok (.iaload, 1) := by decide +kernel
theorem dL_law_272 : decode cL_law 272 = .ok (.aload_n 0, 1) := by decide +kernel
theorem dL_law_273 : decode cL_law 273 = .ok (.iload 5, 2) := by decide +kernel
theorem dL_law_275 : decode cL_law 275 = .ok (.iconst 3, 1) := by decide +kernel
theorem dL_law_276 : decode cL_law 276 = .ok (.iadd, 1) := by decide +kernel
theorem dL_law_277 : decode cL_law 277 = .ok (.iaload, 1) := by decide +kernel
theorem dL_law_278 : decode cL_law 278 = .ok (.invokevirtual 150, 3) := by decide +kernel
theorem dL_law_281 : decode cL_law 281 = .ok (.istore 7, 2) := by decide +kernel
theorem dL_law_283 : decode cL_law 283 = .ok (.aload_n 2, 1) := by decide +kernel
theorem dL_law_284 : decode cL_law 284 = .ok (.invokevirtual 151, 3) := by decide +kernel
theorem dL_law_287 : decode cL_law 287 = .ok (.iload 6, 2) := by decide +kernel
theorem dL_law_289 : decode cL_law 289 = .ok (.if_icmp .eq 5, 3) := by decide +kernel
theorem dL_law_294 : decode cL_law 294 = .ok (.iload 6, 2) := by decide +kernel
theorem dL_law_296 : decode cL_law 296 = .ok (.ifCond .ne 15, 3) := by decide +kernel
theorem dL_law_311 : decode cL_law 311 = .ok (.goto 2297, 3) := by decide +kernel
theorem dL_law_2608 : decode cL_law 2608 = .ok (.iinc 5 6, 3) := by decide +kernel
theorem dL_law_2611 : decode cL_law 2611 = .ok (.goto (-2583), 3) := by decide +kernel
theorem dL_law_28 : decode cL_law 28 = .ok (.iload 5, 2) := by decide +kernel
theorem dL_law_30 : decode cL_law 30 = .ok (.aload_n 0, 1) := by decide +kernel
theorem dL_law_31 : decode cL_law 31 = .ok (.arraylength, 1) := by decide +kernel
theorem dL_law_32 : decode cL_law 32 = .ok (.bipush 6, 2) := by decide +kernel
theorem dL_law_34 : decode cL_law 34 = .ok (.isub, 1) := by decide +kernel
theorem dL_law_35 : decode cL_law 35 = .ok (.if_icmp .gt 2579, 3) := by decide +kernel
theorem dL_law_2614 : decode cL_law 2614 = .ok (.iconst 1, 1) := by decide +kernel
theorem dL_law_299 : decode cL_law 299 = .ok (.aload_n 3, 1) := by decide +kernel
theorem dL_law_300 : decode cL_law 300 = .ok (.iconst 0, 1) := by decide +kernel
theorem dL_law_301 : decode cL_law 301 = .ok (.laload, 1) := by decide +kernel
theorem dL_law_302 : decode cL_law 302 = .ok (.iload 7, 2) := by decide +kernel
theorem dL_law_304 : decode cL_law 304 = .ok (.i2l, 1) := by decide +kernel
theorem dL_law_305 : decode cL_law 305 = .ok (.lcmp, 1) := by decide +kernel
theorem dL_law_306 : decode cL_law 306 = .ok (.ifCond .eq 5, 3) := by decide +kernel
set_option maxHeartbeats 4000000 in
set_option maxRecDepth 100000 in
theorem lc_0 {p : Program} {e : Env} {s : State} {m : MethodId} {args : Array Value} {below : List Frame} {meth : Method} {c : Code} {Q : State → Prop} (l : Launch) (hl9 : l.stackTraces = false) (D : va_G) (cy : Nat → ClassId) (de : Nat) {b : Nat} {xs : Nat → Int32} {A : Nat → Prop} (hx : p.tables.exec = Jvm.exec) (hb : c.code = cL_law) (hml : c.maxLocals = 9) (hown : s.vm.findClass RL = some m.cls) (hts : ∀ w ∈ lw_tbl, w.before args s = true) (hX : va_X b 6 xs s s.heap) (hbl : b < s.heap.size) (hbA : ¬ A b) (hA : ∀ q : Nat, s.heap.size ≤ q → A q) (hE : exP A s) (hY : deP cy de A s s.heap) (hK : va_K D vwCl (tyG cy) s) (x : Nat) (xz1 : Nat) (xz2 : Nat) (xz3 : Nat) (xz4 : Nat) (xz5 : Nat) (xz6 : Nat) (xz7 : Nat) (xz8 : Nat) (xz9 : Nat) (xz10 : Nat) (xz11 : Nat) (xz12 : Nat) (xz13 : Nat) (xz14 : Nat) (xz15 : Nat) (xz16 : Nat) (xz17 : Nat) (xz18 : Nat) (xz19 : Nat) (xz20 : Nat) (xz21 : Nat) (xz22 : Nat) (xz23 : Nat) (xz24 : Nat) (xz25 : Nat) (xu26 : Nat → Option Nat) (xz27 : Nat) (xu28 : Nat → Option Nat) (xz29 : Nat) (xz30 : Nat) (xz31 : Nat) (xz32 : Nat) (xz33 : Nat) (xz34 : Nat) (mm : Nat) (mz1 : Nat) (mz2 : Nat) (mz3 : Nat) (mz4 : Nat) (mz5 : Nat) (mz6 : Nat) (mz7 : Nat) (mz8 : Nat) (mz9 : Nat) (mz10 : Nat) (mz11 : Nat) (mz12 : Nat) (mz13 : Nat) (out : Nat) (outD : Nat) (xku26_0 : xu26 0 = some xz27) (xku28_0 : xu28 0 = some xz29) {H : Heap} {locs : List Loc} (hP : va_P D vwCl [(x, .inr (9, [.ref xz1, .ref xz2, .ref xz3, .ref xz4, .ref xz5, .ref xz6, .int 1])), (xz1, .inr (2, [.ref xz7, .ref xz8, .int 0, .int 0])), (xz2, .inr (5, [.ref xz9, .ref xz10, .int 0])), (xz4, .inr (8, [.ref xz11, .ref xz12, .ref xz13, .ref xz14, .ref xz15, .ref xz16, .ref xz17, .ref xz18, .ref xz19, .ref xz20, .ref xz21, .int 0, .int 0])), (xz5, .inr (4, [.ref xz22, .int 0, .ref xz23, .ref xz24, .ref xz25])), (xz6, .inr (3, [.long 0, .long 0])), (xz7, .inl (cy 5, 8, .inr (.inr (.inr (.inr xu26))))), (xz8, .inl (cy 6, 6, .inr (.inr (.inr (.inr xu28))))), (xz15, .inl (cy 1, 1000, .inl (fun _ => 0))), (xz16, .inl (cy 1, 1000, .inl (fun _ => 0))), (xz17, .inl (cy 1, 1000, .inl (fun _ => 0))), (xz18, .inl (cy 1, 1000, .inl (fun _ => 0))), (xz19, .inl (cy 1, 1000, .inl (fun _ => 0))), (xz20, .inl (cy 1, 1000, .inl (fun _ => 0))), (xz21, .inr (5, [.ref xz30, .ref xz31, .int 0])), (xz22, .inl (cy 1, 5, .inl (fun _ => 0))), (xz23, .inl (cy 1, 256, .inl (fun _ => 0))), (xz24, .inl (cy 1, 256, .inl (fun _ => 0))), (xz25, .inl (cy 1, 256, .inl (fun _ => 0))), (xz27, .inr (7, [.int 0, .int 0, .int 99, .int (-1), .int (-1), .int 0, .ref xz32])), (xz29, .inr (6, [.int 1, .int 0, .int 0, .int 0, .ref xz33, .ref xz34])), (xz32, .inl (cy 1, 19, .inl (fun _ => 0))), (mm, .inr (10, [.ref mz1, .ref mz2, .ref mz3, .ref mz4, .ref mz5, .ref mz6, .ref mz7, .ref mz8, .ref mz9, .ref mz10, .ref mz11, .ref mz12, .ref mz13, .int 0, .int 0, .int 0, .int 1, .int 0])), (mz1, .inl (cy 0, 8, .inl (fun _ => 0))), (mz2, .inl (cy 1, 8, .inl (fun _ => 0))), (mz3, .inl (cy 1, 8, .inl (fun _ => 0))), (mz4, .inl (cy 1, 8, .inl (fun _ => 0))), (mz5, .inl (cy 1, 8, .inl (fun _ => 0))), (mz6, .inl (cy 1, 8, .inl (fun _ => 0))), (mz7, .inl (cy 1, 6, .inl (fun _ => 0))), (mz8, .inl (cy 1, 6, .inl (fun _ => 0))), (mz9, .inl (cy 3, 6, .inl (fun _ => 0))), (mz11, .inl (cy 1, 6, .inl (fun _ => 0))), (mz13, .inl (cy 1, 6, .inl (upd (upd (upd (upd (upd (upd (fun _ => 0) 0 (-1)) 1 (-1)) 2 (-1)) 3 (-1)) 4 (-1)) 5 (-1)))), (out, .inl (cy 2, 1, .inr (.inl (fun _ => 0)))), (outD, .inl (cy 4, 1, .inr (.inr (.inr (.inl (fun _ => 0))))))] H) (hD : va_D A [(x, .inr (9, [.ref xz1, .ref xz2, .ref xz3, .ref xz4, .ref xz5, .ref xz6, .int 1])), (xz1, .inr (2, [.ref xz7, .ref xz8, .int 0, .int 0])), (xz2, .inr (5, [.ref xz9, .ref xz10, .int 0])), (xz4, .inr (8, [.ref xz11, .ref xz12, .ref xz13, .ref xz14, .ref xz15, .ref xz16, .ref xz17, .ref xz18, .ref xz19, .ref xz20, .ref xz21, .int 0, .int 0])), (xz5, .inr (4, [.ref xz22, .int 0, .ref xz23, .ref xz24, .ref xz25])), (xz6, .inr (3, [.long 0, .long 0])), (xz7, .inl (cy 5, 8, .inr (.inr (.inr (.inr xu26))))), (xz8, .inl (cy 6, 6, .inr (.inr (.inr (.inr xu28))))), (xz15, .inl (cy 1, 1000, .inl (fun _ => 0))), (xz16, .inl (cy 1, 1000, .inl (fun _ => 0))), (xz17, .inl (cy 1, 1000, .inl (fun _ => 0))), (xz18, .inl (cy 1, 1000, .inl (fun _ => 0))), (xz19, .inl (cy 1, 1000, .inl (fun _ => 0))), (xz20, .inl (cy 1, 1000, .inl (fun _ => 0))), (xz21, .inr (5, [.ref xz30, .ref xz31, .int 0])), (xz22, .inl (cy 1, 5, .inl (fun _ => 0))), (xz23, .inl (cy 1, 256, .inl (fun _ => 0))), (xz24, .inl (cy 1, 256, .inl (fun _ => 0))), (xz25, .inl (cy 1, 256, .inl (fun _ => 0))), (xz27, .inr (7, [.int 0, .int 0, .int 99, .int (-1), .int (-1), .int 0, .ref xz32])), (xz29, .inr (6, [.int 1, .int 0, .int 0, .int 0, .ref xz33, .ref xz34])), (xz32, .inl (cy 1, 19, .inl (fun _ => 0))), (mm, .inr (10, [.ref mz1, .ref mz2, .ref mz3, .ref mz4, .ref mz5, .ref mz6, .ref mz7, .ref mz8, .ref mz9, .ref mz10, .ref mz11, .ref mz12, .ref mz13, .int 0, .int 0, .int 0, .int 1, .int 0])), (mz1, .inl (cy 0, 8, .inl (fun _ => 0))), (mz2, .inl (cy 1, 8, .inl (fun _ => 0))), (mz3, .inl (cy 1, 8, .inl (fun _ => 0))), (mz4, .inl (cy 1, 8, .inl (fun _ => 0))), (mz5, .inl (cy 1, 8, .inl (fun _ => 0))), (mz6, .inl (cy 1, 8, .inl (fun _ => 0))), (mz7, .inl (cy 1, 6, .inl (fun _ => 0))), (mz8, .inl (cy 1, 6, .inl (fun _ => 0))), (mz9, .inl (cy 3, 6, .inl (fun _ => 0))), (mz11, .inl (cy 1, 6, .inl (fun _ => 0))), (mz13, .inl (cy 1, 6, .inl (upd (upd (upd (upd (upd (upd (fun _ => 0) 0 (-1)) 1 (-1)) 2 (-1)) 3 (-1)) 4 (-1)) 5 (-1)))), (out, .inl (cy 2, 1, .inr (.inl (fun _ => 0)))), (outD, .inl (cy 4, 1, .inr (.inr (.inr (.inl (fun _ => 0))))))]) (hS : va_S A s.heap H locs) {ls : Array Slot} (hl : lv_has ls 9 [(5, .int 0), (4, .ref outD), (3, .ref out), (2, .ref mm), (1, .ref x), (0, .ref b)]) (hend : ∀ (H : Heap) (locs : List Loc) (ls : Array Slot) (cells slots : Nat), va_S A s.heap H locs → cells ≤ 600006 → slots ≤ 7302032 → W p l e room_1 s m args below meth c H locs cells slots Q (F0 m 2614 ls [])) : W p l e room_1 s m args below meth c H locs 92 7500 Q (F0 m 232 ls []) := by
  refine lv_aload_n hx hb dL_law_232 rfl (lv_at hl 4 rfl) ?_
  refine lv_aload_n hx hb dL_law_233 rfl (lv_at hl 5 rfl) ?_
  refine lv_iload hx hb dL_law_234 (lv_at hl 0 rfl) ?_
  refine lv_iconst (v := 1) hx hb dL_law_236 (by decide) ?_
  refine lv_iadd hx hb dL_law_237 ?_
  refine lv_topi (fun v_1 ev_1 => ?_)
  obtain rfl : v_1 = 1 := ev_1.trans (by decide)
  refine va_sld hx hb hX hbl hbA hS (kx_in 1 6 rfl ⟨(Nat.le_of_ble_eq_true rfl), (Nat.le_of_ble_eq_true rfl)⟩ (Nat.le_of_ble_eq_true rfl)) dL_law_238 ?_
  refine lv_topi (fun v_2 ev_2 => ?_)
  refine lv_i2c hx hb dL_law_239 rfl ?_
  refine lv_topi (fun v_3 ev_3 => ?_)
  refine lv_aload_n hx hb dL_law_240 rfl (lv_at hl 5 rfl) ?_
  refine lv_iload hx hb dL_law_241 (lv_at hl 0 rfl) ?_
  refine lv_iconst (v := 2) hx hb dL_law_243 (by decide) ?_
  refine lv_iadd hx hb dL_law_244 ?_
  refine lv_topi (fun v_4 ev_4 => ?_)
  obtain rfl : v_4 = 2 := ev_4.trans (by decide)
  refine va_sld hx hb hX hbl hbA hS (kx_in 2 6 rfl ⟨(Nat.le_of_ble_eq_true rfl), (Nat.le_of_ble_eq_true rfl)⟩ (Nat.le_of_ble_eq_true rfl)) dL_law_245 ?_
  refine lv_topi (fun v_5 ev_5 => ?_)
  refine lv_aload_n hx hb dL_law_246 rfl (lv_at hl 5 rfl) ?_
  refine lv_iload hx hb dL_law_247 (lv_at hl 0 rfl) ?_
  refine lv_iconst (v := 3) hx hb dL_law_249 (by decide) ?_
  refine lv_iadd hx hb dL_law_250 ?_
  refine lv_topi (fun v_6 ev_6 => ?_)
  obtain rfl : v_6 = 3 := ev_6.trans (by decide)
  refine va_sld hx hb hX hbl hbA hS (kx_in 3 6 rfl ⟨(Nat.le_of_ble_eq_true rfl), (Nat.le_of_ble_eq_true rfl)⟩ (Nat.le_of_ble_eq_true rfl)) dL_law_251 ?_
  refine lv_topi (fun v_7 ev_7 => ?_)
  refine lv_aload_n hx hb dL_law_252 rfl (lv_at hl 2 rfl) ?_
  have hPc := hP.sub (ws' := [(x, .inr (9, [.ref xz1, .ref xz2, .ref xz3, .ref xz4, .ref xz5, .ref xz6, .int 1])), (out, .inl (cy 2, 1, .inr (.inl (fun _ => 0)))), (xz1, .inr (2, [.ref xz7, .ref xz8, .int 0, .int 0])), (xz7, .inl (cy 5, 8, .inr (.inr (.inr (.inr xu26))))), (xz27, .inr (7, [.int 0, .int 0, .int 99, .int (-1), .int (-1), .int 0, .ref xz32])), (xz32, .inl (cy 1, 19, .inl (fun _ => 0)))]) [0, 34, 1, 6, 19, 21] rfl
  have hDc := hD.sub (ws' := [(x, .inr (9, [.ref xz1, .ref xz2, .ref xz3, .ref xz4, .ref xz5, .ref xz6, .int 1])), (out, .inl (cy 2, 1, .inr (.inl (fun _ => 0)))), (xz1, .inr (2, [.ref xz7, .ref xz8, .int 0, .int 0])), (xz7, .inl (cy 5, 8, .inr (.inr (.inr (.inr xu26))))), (xz27, .inr (7, [.int 0, .int 0, .int 99, .int (-1), .int (-1), .int 0, .ref xz32])), (xz32, .inl (cy 1, 19, .inl (fun _ => 0)))]) [0, 34, 1, 6, 19, 21] (by decide) rfl
  have hFc := va_free (wc := [(x, .inr (9, [.ref xz1, .ref xz2, .ref xz3, .ref xz4, .ref xz5, .ref xz6, .int 1])), (out, .inl (cy 2, 1, .inr (.inl (fun _ => 0)))), (xz1, .inr (2, [.ref xz7, .ref xz8, .int 0, .int 0])), (xz7, .inl (cy 5, 8, .inr (.inr (.inr (.inr xu26))))), (xz27, .inr (7, [.int 0, .int 0, .int 99, .int (-1), .int (-1), .int 0, .ref xz32])), (xz32, .inl (cy 1, 19, .inl (fun _ => 0)))]) hD hS hA [0, 34, 1, 6, 19, 21] rfl
  refine va_calli (vx_runSW (As := [.ref x, .int v_3, .int v_5, .int v_7, .ref out]) (rest := []) ⟨hx, hb, hml, hown, hts⟩ (k_L_addResource l hl9 D cy x v_3 v_5 v_7 out xz1 (.ref xz2) (.ref xz3) (.ref xz4) (.ref xz5) (.ref xz6) (.int 1) (fun _ => 0) xz7 (.ref xz8) (.int 0) xu26 xz27 (xku26_0) (.int (-1)) (.int (-1)) (.int 0) xz32 (fun _ => 0) H.size) (vx_cwSW 5 hts gs_L_145_L_addResource rfl rfl rfl (by decide +kernel) ⟨(Nat.le_of_ble_eq_true rfl), (Nat.le_of_ble_eq_true rfl)⟩) ⟨kWX_fb, (kWX_go hPc hK hDc hFc hE hS)⟩ rfl rfl hl.1 rfl (lv_room (Nat.le_of_ble_eq_true rfl)) dL_law_253 ⟨(Nat.le_of_ble_eq_true rfl), (Nat.le_of_ble_eq_true rfl)⟩) hS (fun q _ h => hFc q h) hFc (fun r9 u t H locs ht hvm hw hB hz1 hk1 hS => ?_)
  obtain ⟨u_8, rfl⟩ : ∃ z, z = u := ⟨_, rfl⟩
  obtain ⟨hP1, hD1⟩ := hB
  rw [ht] at hP1
  try dsimp only at hw hP1 hD1
  obtain ⟨hP, hD⟩ := va_join (wr := [(xz2, .inr (5, [.ref xz9, .ref xz10, .int 0])), (xz4, .inr (8, [.ref xz11, .ref xz12, .ref xz13, .ref xz14, .ref xz15, .ref xz16, .ref xz17, .ref xz18, .ref xz19, .ref xz20, .ref xz21, .int 0, .int 0])), (xz5, .inr (4, [.ref xz22, .int 0, .ref xz23, .ref xz24, .ref xz25])), (xz6, .inr (3, [.long 0, .long 0])), (xz8, .inl (cy 6, 6, .inr (.inr (.inr (.inr xu28))))), (xz15, .inl (cy 1, 1000, .inl (fun _ => 0))), (xz16, .inl (cy 1, 1000, .inl (fun _ => 0))), (xz17, .inl (cy 1, 1000, .inl (fun _ => 0))), (xz18, .inl (cy 1, 1000, .inl (fun _ => 0))), (xz19, .inl (cy 1, 1000, .inl (fun _ => 0))), (xz20, .inl (cy 1, 1000, .inl (fun _ => 0))), (xz21, .inr (5, [.ref xz30, .ref xz31, .int 0])), (xz22, .inl (cy 1, 5, .inl (fun _ => 0))), (xz23, .inl (cy 1, 256, .inl (fun _ => 0))), (xz24, .inl (cy 1, 256, .inl (fun _ => 0))), (xz25, .inl (cy 1, 256, .inl (fun _ => 0))), (xz29, .inr (6, [.int 1, .int 0, .int 0, .int 0, .ref xz33, .ref xz34])), (mm, .inr (10, [.ref mz1, .ref mz2, .ref mz3, .ref mz4, .ref mz5, .ref mz6, .ref mz7, .ref mz8, .ref mz9, .ref mz10, .ref mz11, .ref mz12, .ref mz13, .int 0, .int 0, .int 0, .int 1, .int 0])), (mz1, .inl (cy 0, 8, .inl (fun _ => 0))), (mz2, .inl (cy 1, 8, .inl (fun _ => 0))), (mz3, .inl (cy 1, 8, .inl (fun _ => 0))), (mz4, .inl (cy 1, 8, .inl (fun _ => 0))), (mz5, .inl (cy 1, 8, .inl (fun _ => 0))), (mz6, .inl (cy 1, 8, .inl (fun _ => 0))), (mz7, .inl (cy 1, 6, .inl (fun _ => 0))), (mz8, .inl (cy 1, 6, .inl (fun _ => 0))), (mz9, .inl (cy 3, 6, .inl (fun _ => 0))), (mz11, .inl (cy 1, 6, .inl (fun _ => 0))), (mz13, .inl (cy 1, 6, .inl (upd (upd (upd (upd (upd (upd (fun _ => 0) 0 (-1)) 1 (-1)) 2 (-1)) 3 (-1)) 4 (-1)) 5 (-1)))), (outD, .inl (cy 4, 1, .inr (.inr (.inr (.inl (fun _ => 0))))))]) (w1 := [(out, .inl (cy 2, 1, .inr (.inl u_8)))]) hP hD [0, 34, 1, 6, 19, 21] [2, 3, 4, 5, 7, 8, 9, 10, 11, 12, 13, 14, 15, 16, 17, 18, 20, 22, 23, 24, 25, 26, 27, 28, 29, 30, 31, 32, 33, 35] rfl rfl (by decide) (by decide) hk1 hFc hP1 hD1
  have hP : va_P D vwCl [(xz2, .inr (5, [.ref xz9, .ref xz10, .int 0])), (xz4, .inr (8, [.ref xz11, .ref xz12, .ref xz13, .ref xz14, .ref xz15, .ref xz16, .ref xz17, .ref xz18, .ref xz19, .ref xz20, .ref xz21, .int 0, .int 0])), (xz5, .inr (4, [.ref xz22, .int 0, .ref xz23, .ref xz24, .ref xz25])), (xz6, .inr (3, [.long 0, .long 0])), (xz8, .inl (cy 6, 6, .inr (.inr (.inr (.inr xu28))))), (xz15, .inl (cy 1, 1000, .inl (fun _ => 0))), (xz16, .inl (cy 1, 1000, .inl (fun _ => 0))), (xz17, .inl (cy 1, 1000, .inl (fun _ => 0))), (xz18, .inl (cy 1, 1000, .inl (fun _ => 0))), (xz19, .inl (cy 1, 1000, .inl (fun _ => 0))), (xz20, .inl (cy 1, 1000, .inl (fun _ => 0))), (xz21, .inr (5, [.ref xz30, .ref xz31, .int 0])), (xz22, .inl (cy 1, 5, .inl (fun _ => 0))), (xz23, .inl (cy 1, 256, .inl (fun _ => 0))), (xz24, .inl (cy 1, 256, .inl (fun _ => 0))), (xz25, .inl (cy 1, 256, .inl (fun _ => 0))), (xz29, .inr (6, [.int 1, .int 0, .int 0, .int 0, .ref xz33, .ref xz34])), (mm, .inr (10, [.ref mz1, .ref mz2, .ref mz3, .ref mz4, .ref mz5, .ref mz6, .ref mz7, .ref mz8, .ref mz9, .ref mz10, .ref mz11, .ref mz12, .ref mz13, .int 0, .int 0, .int 0, .int 1, .int 0])), (mz1, .inl (cy 0, 8, .inl (fun _ => 0))), (mz2, .inl (cy 1, 8, .inl (fun _ => 0))), (mz3, .inl (cy 1, 8, .inl (fun _ => 0))), (mz4, .inl (cy 1, 8, .inl (fun _ => 0))), (mz5, .inl (cy 1, 8, .inl (fun _ => 0))), (mz6, .inl (cy 1, 8, .inl (fun _ => 0))), (mz7, .inl (cy 1, 6, .inl (fun _ => 0))), (mz8, .inl (cy 1, 6, .inl (fun _ => 0))), (mz9, .inl (cy 3, 6, .inl (fun _ => 0))), (mz11, .inl (cy 1, 6, .inl (fun _ => 0))), (mz13, .inl (cy 1, 6, .inl (upd (upd (upd (upd (upd (upd (fun _ => 0) 0 (-1)) 1 (-1)) 2 (-1)) 3 (-1)) 4 (-1)) 5 (-1)))), (outD, .inl (cy 4, 1, .inr (.inr (.inr (.inl (fun _ => 0)))))), (out, .inl (cy 2, 1, .inr (.inl u_8)))] H := hP
  have hD : va_D A [(xz2, .inr (5, [.ref xz9, .ref xz10, .int 0])), (xz4, .inr (8, [.ref xz11, .ref xz12, .ref xz13, .ref xz14, .ref xz15, .ref xz16, .ref xz17, .ref xz18, .ref xz19, .ref xz20, .ref xz21, .int 0, .int 0])), (xz5, .inr (4, [.ref xz22, .int 0, .ref xz23, .ref xz24, .ref xz25])), (xz6, .inr (3, [.long 0, .long 0])), (xz8, .inl (cy 6, 6, .inr (.inr (.inr (.inr xu28))))), (xz15, .inl (cy 1, 1000, .inl (fun _ => 0))), (xz16, .inl (cy 1, 1000, .inl (fun _ => 0))), (xz17, .inl (cy 1, 1000, .inl (fun _ => 0))), (xz18, .inl (cy 1, 1000, .inl (fun _ => 0))), (xz19, .inl (cy 1, 1000, .inl (fun _ => 0))), (xz20, .inl (cy 1, 1000, .inl (fun _ => 0))), (xz21, .inr (5, [.ref xz30, .ref xz31, .int 0])), (xz22, .inl (cy 1, 5, .inl (fun _ => 0))), (xz23, .inl (cy 1, 256, .inl (fun _ => 0))), (xz24, .inl (cy 1, 256, .inl (fun _ => 0))), (xz25, .inl (cy 1, 256, .inl (fun _ => 0))), (xz29, .inr (6, [.int 1, .int 0, .int 0, .int 0, .ref xz33, .ref xz34])), (mm, .inr (10, [.ref mz1, .ref mz2, .ref mz3, .ref mz4, .ref mz5, .ref mz6, .ref mz7, .ref mz8, .ref mz9, .ref mz10, .ref mz11, .ref mz12, .ref mz13, .int 0, .int 0, .int 0, .int 1, .int 0])), (mz1, .inl (cy 0, 8, .inl (fun _ => 0))), (mz2, .inl (cy 1, 8, .inl (fun _ => 0))), (mz3, .inl (cy 1, 8, .inl (fun _ => 0))), (mz4, .inl (cy 1, 8, .inl (fun _ => 0))), (mz5, .inl (cy 1, 8, .inl (fun _ => 0))), (mz6, .inl (cy 1, 8, .inl (fun _ => 0))), (mz7, .inl (cy 1, 6, .inl (fun _ => 0))), (mz8, .inl (cy 1, 6, .inl (fun _ => 0))), (mz9, .inl (cy 3, 6, .inl (fun _ => 0))), (mz11, .inl (cy 1, 6, .inl (fun _ => 0))), (mz13, .inl (cy 1, 6, .inl (upd (upd (upd (upd (upd (upd (fun _ => 0) 0 (-1)) 1 (-1)) 2 (-1)) 3 (-1)) 4 (-1)) 5 (-1)))), (outD, .inl (cy 4, 1, .inr (.inr (.inr (.inl (fun _ => 0)))))), (out, .inl (cy 2, 1, .inr (.inl u_8)))] := hD
  refine W.widen (k := 94) (n := 7512) (Nat.le_of_ble_eq_true rfl) (Nat.le_of_ble_eq_true rfl) ?_
  rcases hw with ⟨rfl, hw⟩ | ⟨rfl, hw⟩
  · have f_9 : ¬ (((v_3.toInt = (99 : Int) ∨ v_3.toInt = (108 : Int) ∨ v_3.toInt = (113 : Int) ∨ v_3.toInt = (115 : Int)) ∧ ((0 : Int) ≤ v_5.toInt ∧ v_5.toInt ≤ (20 : Int)) ∧ ((0 : Int) ≤ v_7.toInt ∧ v_7.toInt ≤ (999 : Int)))) := hw
    refine lv_istore (lv' := [(6, .int 1), (5, .int 0), (4, .ref outD), (3, .ref out), (2, .ref mm), (1, .ref x), (0, .ref b)]) hx hb dL_law_256 hl (by decide) rfl (fun ls hl => ?_)
    refine lv_aload_n hx hb dL_law_258 rfl (lv_at hl 4 rfl) ?_
    refine lv_aload_n hx hb dL_law_259 rfl (lv_at hl 6 rfl) ?_
    refine lv_iload hx hb dL_law_260 (lv_at hl 1 rfl) ?_
    refine lv_iconst (v := 1) hx hb dL_law_262 (by decide) ?_
    refine lv_iadd hx hb dL_law_263 ?_
    refine lv_topi (fun v_10 ev_10 => ?_)
    obtain rfl : v_10 = 1 := ev_10.trans (by decide)
    refine va_sld hx hb hX hbl hbA hS (kx_in 1 6 rfl ⟨(Nat.le_of_ble_eq_true rfl), (Nat.le_of_ble_eq_true rfl)⟩ (Nat.le_of_ble_eq_true rfl)) dL_law_264 ?_
    refine lv_topi (fun v_11 ev_11 => ?_)
    obtain rfl : v_2 = v_11 := ev_2.trans ev_11.symm
    refine lv_i2c hx hb dL_law_265 rfl ?_
    refine lv_topi (fun v_12 ev_12 => ?_)
    obtain rfl : v_3 = v_12 := ev_3.trans ev_12.symm
    refine lv_aload_n hx hb dL_law_266 rfl (lv_at hl 6 rfl) ?_
    refine lv_iload hx hb dL_law_267 (lv_at hl 1 rfl) ?_
    refine lv_iconst (v := 2) hx hb dL_law_269 (by decide) ?_
    refine lv_iadd hx hb dL_law_270 ?_
    refine lv_topi (fun v_13 ev_13 => ?_)
    obtain rfl : v_13 = 2 := ev_13.trans (by decide)
    refine va_sld hx hb hX hbl hbA hS (kx_in 2 6 rfl ⟨(Nat.le_of_ble_eq_true rfl), (Nat.le_of_ble_eq_true rfl)⟩ (Nat.le_of_ble_eq_true rfl)) dL_law_271 ?_
    refine lv_topi (fun v_14 ev_14 => ?_)
    obtain rfl : v_5 = v_14 := ev_5.trans ev_14.symm
    refine lv_aload_n hx hb dL_law_272 rfl (lv_at hl 6 rfl) ?_
    refine lv_iload hx hb dL_law_273 (lv_at hl 1 rfl) ?_
    refine lv_iconst (v := 3) hx hb dL_law_275 (by decide) ?_
    refine lv_iadd hx hb dL_law_276 ?_
    refine lv_topi (fun v_15 ev_15 => ?_)
    obtain rfl : v_15 = 3 := ev_15.trans (by decide)
    refine va_sld hx hb hX hbl hbA hS (kx_in 3 6 rfl ⟨(Nat.le_of_ble_eq_true rfl), (Nat.le_of_ble_eq_true rfl)⟩ (Nat.le_of_ble_eq_true rfl)) dL_law_277 ?_
    refine lv_topi (fun v_16 ev_16 => ?_)
    obtain rfl : v_7 = v_16 := ev_7.trans ev_16.symm
    have hPc := hP.sub (ws' := [(mm, .inr (10, [.ref mz1, .ref mz2, .ref mz3, .ref mz4, .ref mz5, .ref mz6, .ref mz7, .ref mz8, .ref mz9, .ref mz10, .ref mz11, .ref mz12, .ref mz13, .int 0, .int 0, .int 0, .int 1, .int 0])), (mz1, .inl (cy 0, 8, .inl (fun _ => 0))), (mz2, .inl (cy 1, 8, .inl (fun _ => 0))), (mz3, .inl (cy 1, 8, .inl (fun _ => 0))), (mz4, .inl (cy 1, 8, .inl (fun _ => 0))), (mz5, .inl (cy 1, 8, .inl (fun _ => 0)))]) [17, 18, 19, 20, 21, 22] rfl
    have hDc := hD.sub (ws' := [(mm, .inr (10, [.ref mz1, .ref mz2, .ref mz3, .ref mz4, .ref mz5, .ref mz6, .ref mz7, .ref mz8, .ref mz9, .ref mz10, .ref mz11, .ref mz12, .ref mz13, .int 0, .int 0, .int 0, .int 1, .int 0])), (mz1, .inl (cy 0, 8, .inl (fun _ => 0))), (mz2, .inl (cy 1, 8, .inl (fun _ => 0))), (mz3, .inl (cy 1, 8, .inl (fun _ => 0))), (mz4, .inl (cy 1, 8, .inl (fun _ => 0))), (mz5, .inl (cy 1, 8, .inl (fun _ => 0)))]) [17, 18, 19, 20, 21, 22] (by decide) rfl
    have hFc := va_free (wc := [(mm, .inr (10, [.ref mz1, .ref mz2, .ref mz3, .ref mz4, .ref mz5, .ref mz6, .ref mz7, .ref mz8, .ref mz9, .ref mz10, .ref mz11, .ref mz12, .ref mz13, .int 0, .int 0, .int 0, .int 1, .int 0])), (mz1, .inl (cy 0, 8, .inl (fun _ => 0))), (mz2, .inl (cy 1, 8, .inl (fun _ => 0))), (mz3, .inl (cy 1, 8, .inl (fun _ => 0))), (mz4, .inl (cy 1, 8, .inl (fun _ => 0))), (mz5, .inl (cy 1, 8, .inl (fun _ => 0)))]) hD hS hA [17, 18, 19, 20, 21, 22] rfl
    refine va_calli (va_runV (As := [.int v_3, .int v_5, .int v_7]) (rest := []) ⟨hx, hb, hml, hown, hts⟩ (k_X8_addResource l D cy mm v_3 v_5 v_7 mz1 mz2 mz3 mz4 mz5 (.ref mz6) (.ref mz7) (.ref mz8) (.ref mz9) (.ref mz10) (.ref mz11) (.ref mz12) (.ref mz13) (.int 0) (.int 0) (.int 1) (.int 0) (fun _ => 0) (fun _ => 0) (fun _ => 0) (fun _ => 0) (fun _ => 0) H.size) (cwV 3 hts gv_L_150_X8_addResource rfl rfl rfl (by decide +kernel) ⟨(Nat.le_of_ble_eq_true rfl), (Nat.le_of_ble_eq_true rfl)⟩) ⟨kW_fb, va_recv hK hP (ci := 10) (q0 := 17) rfl rfl, (kW_go hPc hK hDc)⟩ rfl rfl hl.1 rfl (lv_room (Nat.le_of_ble_eq_true rfl)) dL_law_278 ⟨(Nat.le_of_ble_eq_true rfl), (Nat.le_of_ble_eq_true rfl)⟩) hS (fun q _ h => hFc q h) hFc (fun r9 u t H locs ht hvm hw hB hz1 hk1 hS => ?_)
    obtain ⟨y_17, y_18, u_19, u_20, u_21, u_22, u_23⟩ := u
    obtain ⟨hP1, hD1⟩ := hB
    rw [ht] at hP1
    try dsimp only at hw hP1 hD1
    obtain ⟨hP, hD⟩ := va_join (wr := [(xz2, .inr (5, [.ref xz9, .ref xz10, .int 0])), (xz4, .inr (8, [.ref xz11, .ref xz12, .ref xz13, .ref xz14, .ref xz15, .ref xz16, .ref xz17, .ref xz18, .ref xz19, .ref xz20, .ref xz21, .int 0, .int 0])), (xz5, .inr (4, [.ref xz22, .int 0, .ref xz23, .ref xz24, .ref xz25])), (xz6, .inr (3, [.long 0, .long 0])), (xz8, .inl (cy 6, 6, .inr (.inr (.inr (.inr xu28))))), (xz15, .inl (cy 1, 1000, .inl (fun _ => 0))), (xz16, .inl (cy 1, 1000, .inl (fun _ => 0))), (xz17, .inl (cy 1, 1000, .inl (fun _ => 0))), (xz18, .inl (cy 1, 1000, .inl (fun _ => 0))), (xz19, .inl (cy 1, 1000, .inl (fun _ => 0))), (xz20, .inl (cy 1, 1000, .inl (fun _ => 0))), (xz21, .inr (5, [.ref xz30, .ref xz31, .int 0])), (xz22, .inl (cy 1, 5, .inl (fun _ => 0))), (xz23, .inl (cy 1, 256, .inl (fun _ => 0))), (xz24, .inl (cy 1, 256, .inl (fun _ => 0))), (xz25, .inl (cy 1, 256, .inl (fun _ => 0))), (xz29, .inr (6, [.int 1, .int 0, .int 0, .int 0, .ref xz33, .ref xz34])), (mz6, .inl (cy 1, 8, .inl (fun _ => 0))), (mz7, .inl (cy 1, 6, .inl (fun _ => 0))), (mz8, .inl (cy 1, 6, .inl (fun _ => 0))), (mz9, .inl (cy 3, 6, .inl (fun _ => 0))), (mz11, .inl (cy 1, 6, .inl (fun _ => 0))), (mz13, .inl (cy 1, 6, .inl (upd (upd (upd (upd (upd (upd (fun _ => 0) 0 (-1)) 1 (-1)) 2 (-1)) 3 (-1)) 4 (-1)) 5 (-1)))), (outD, .inl (cy 4, 1, .inr (.inr (.inr (.inl (fun _ => 0)))))), (out, .inl (cy 2, 1, .inr (.inl u_8)))]) (w1 := [(mm, .inr (10, [.ref mz1, .ref mz2, .ref mz3, .ref mz4, .ref mz5, .ref mz6, .ref mz7, .ref mz8, .ref mz9, .ref mz10, .ref mz11, .ref mz12, .ref mz13, .int 0, .int y_17, .int 0, .int 1, .int y_18])), (mz1, .inl (cy 0, 8, .inl u_19)), (mz2, .inl (cy 1, 8, .inl u_20)), (mz3, .inl (cy 1, 8, .inl u_21)), (mz4, .inl (cy 1, 8, .inl u_22)), (mz5, .inl (cy 1, 8, .inl u_23))]) hP hD [17, 18, 19, 20, 21, 22] [0, 1, 2, 3, 4, 5, 6, 7, 8, 9, 10, 11, 12, 13, 14, 15, 16, 23, 24, 25, 26, 27, 28, 29, 30] rfl rfl (by decide) (by decide) hk1 hFc hP1 hD1
    have hP : va_P D vwCl [(xz2, .inr (5, [.ref xz9, .ref xz10, .int 0])), (xz4, .inr (8, [.ref xz11, .ref xz12, .ref xz13, .ref xz14, .ref xz15, .ref xz16, .ref xz17, .ref xz18, .ref xz19, .ref xz20, .ref xz21, .int 0, .int 0])), (xz5, .inr (4, [.ref xz22, .int 0, .ref xz23, .ref xz24, .ref xz25])), (xz6, .inr (3, [.long 0, .long 0])), (xz8, .inl (cy 6, 6, .inr (.inr (.inr (.inr xu28))))), (xz15, .inl (cy 1, 1000, .inl (fun _ => 0))), (xz16, .inl (cy 1, 1000, .inl (fun _ => 0))), (xz17, .inl (cy 1, 1000, .inl (fun _ => 0))), (xz18, .inl (cy 1, 1000, .inl (fun _ => 0))), (xz19, .inl (cy 1, 1000, .inl (fun _ => 0))), (xz20, .inl (cy 1, 1000, .inl (fun _ => 0))), (xz21, .inr (5, [.ref xz30, .ref xz31, .int 0])), (xz22, .inl (cy 1, 5, .inl (fun _ => 0))), (xz23, .inl (cy 1, 256, .inl (fun _ => 0))), (xz24, .inl (cy 1, 256, .inl (fun _ => 0))), (xz25, .inl (cy 1, 256, .inl (fun _ => 0))), (xz29, .inr (6, [.int 1, .int 0, .int 0, .int 0, .ref xz33, .ref xz34])), (mz6, .inl (cy 1, 8, .inl (fun _ => 0))), (mz7, .inl (cy 1, 6, .inl (fun _ => 0))), (mz8, .inl (cy 1, 6, .inl (fun _ => 0))), (mz9, .inl (cy 3, 6, .inl (fun _ => 0))), (mz11, .inl (cy 1, 6, .inl (fun _ => 0))), (mz13, .inl (cy 1, 6, .inl (upd (upd (upd (upd (upd (upd (fun _ => 0) 0 (-1)) 1 (-1)) 2 (-1)) 3 (-1)) 4 (-1)) 5 (-1)))), (outD, .inl (cy 4, 1, .inr (.inr (.inr (.inl (fun _ => 0)))))), (out, .inl (cy 2, 1, .inr (.inl u_8))), (mm, .inr (10, [.ref mz1, .ref mz2, .ref mz3, .ref mz4, .ref mz5, .ref mz6, .ref mz7, .ref mz8, .ref mz9, .ref mz10, .ref mz11, .ref mz12, .ref mz13, .int 0, .int y_17, .int 0, .int 1, .int y_18])), (mz1, .inl (cy 0, 8, .inl u_19)), (mz2, .inl (cy 1, 8, .inl u_20)), (mz3, .inl (cy 1, 8, .inl u_21)), (mz4, .inl (cy 1, 8, .inl u_22)), (mz5, .inl (cy 1, 8, .inl u_23))] H := hP
    have hD : va_D A [(xz2, .inr (5, [.ref xz9, .ref xz10, .int 0])), (xz4, .inr (8, [.ref xz11, .ref xz12, .ref xz13, .ref xz14, .ref xz15, .ref xz16, .ref xz17, .ref xz18, .ref xz19, .ref xz20, .ref xz21, .int 0, .int 0])), (xz5, .inr (4, [.ref xz22, .int 0, .ref xz23, .ref xz24, .ref xz25])), (xz6, .inr (3, [.long 0, .long 0])), (xz8, .inl (cy 6, 6, .inr (.inr (.inr (.inr xu28))))), (xz15, .inl (cy 1, 1000, .inl (fun _ => 0))), (xz16, .inl (cy 1, 1000, .inl (fun _ => 0))), (xz17, .inl (cy 1, 1000, .inl (fun _ => 0))), (xz18, .inl (cy 1, 1000, .inl (fun _ => 0))), (xz19, .inl (cy 1, 1000, .inl (fun _ => 0))), (xz20, .inl (cy 1, 1000, .inl (fun _ => 0))), (xz21, .inr (5, [.ref xz30, .ref xz31, .int 0])), (xz22, .inl (cy 1, 5, .inl (fun _ => 0))), (xz23, .inl (cy 1, 256, .inl (fun _ => 0))), (xz24, .inl (cy 1, 256, .inl (fun _ => 0))), (xz25, .inl (cy 1, 256, .inl (fun _ => 0))), (xz29, .inr (6, [.int 1, .int 0, .int 0, .int 0, .ref xz33, .ref xz34])), (mz6, .inl (cy 1, 8, .inl (fun _ => 0))), (mz7, .inl (cy 1, 6, .inl (fun _ => 0))), (mz8, .inl (cy 1, 6, .inl (fun _ => 0))), (mz9, .inl (cy 3, 6, .inl (fun _ => 0))), (mz11, .inl (cy 1, 6, .inl (fun _ => 0))), (mz13, .inl (cy 1, 6, .inl (upd (upd (upd (upd (upd (upd (fun _ => 0) 0 (-1)) 1 (-1)) 2 (-1)) 3 (-1)) 4 (-1)) 5 (-1)))), (outD, .inl (cy 4, 1, .inr (.inr (.inr (.inl (fun _ => 0)))))), (out, .inl (cy 2, 1, .inr (.inl u_8))), (mm, .inr (10, [.ref mz1, .ref mz2, .ref mz3, .ref mz4, .ref mz5, .ref mz6, .ref mz7, .ref mz8, .ref mz9, .ref mz10, .ref mz11, .ref mz12, .ref mz13, .int 0, .int y_17, .int 0, .int 1, .int y_18])), (mz1, .inl (cy 0, 8, .inl u_19)), (mz2, .inl (cy 1, 8, .inl u_20)), (mz3, .inl (cy 1, 8, .inl u_21)), (mz4, .inl (cy 1, 8, .inl u_22)), (mz5, .inl (cy 1, 8, .inl u_23))] := hD
    rcases hw with ⟨rfl, hw⟩ | ⟨rfl, hw⟩
    · obtain ⟨rfl, hw⟩ := hw
      obtain ⟨rfl, hw⟩ := hw
      have f_24 : ¬ (((v_3.toInt = (99 : Int) ∨ v_3.toInt = (108 : Int) ∨ v_3.toInt = (113 : Int) ∨ v_3.toInt = (115 : Int)) ∧ ((0 : Int) ≤ v_5.toInt ∧ v_5.toInt ≤ (20 : Int)) ∧ ((0 : Int) ≤ v_7.toInt ∧ v_7.toInt ≤ (999 : Int)))) := hw
      refine lv_istore (lv' := [(7, .int 0), (6, .int 1), (5, .int 0), (4, .ref outD), (3, .ref out), (2, .ref mm), (1, .ref x), (0, .ref b)]) hx hb dL_law_281 hl (by decide) rfl (fun ls hl => ?_)
      refine lv_aload_n hx hb dL_law_283 rfl (lv_at hl 5 rfl) ?_
      have hPc := hP.sub (ws' := [(mm, .inr (10, [.ref mz1, .ref mz2, .ref mz3, .ref mz4, .ref mz5, .ref mz6, .ref mz7, .ref mz8, .ref mz9, .ref mz10, .ref mz11, .ref mz12, .ref mz13, .int 0, .int 0, .int 0, .int 1, .int 1]))]) [25] rfl
      refine va_calli (va_runV (As := []) (rest := []) ⟨hx, hb, hml, hown, hts⟩ (k_X8_thrown l D cy mm (.ref mz1) (.ref mz2) (.ref mz3) (.ref mz4) (.ref mz5) (.ref mz6) (.ref mz7) (.ref mz8) (.ref mz9) (.ref mz10) (.ref mz11) (.ref mz12) (.ref mz13) (.int 0) (.int 0) (.int 0) (.int 1)) (cwV 0 hts gv_L_151_X8_thrown rfl rfl rfl (by decide +kernel) ⟨(Nat.le_of_ble_eq_true rfl), (Nat.le_of_ble_eq_true rfl)⟩) ⟨kR_fb, va_recv hK hP (ci := 10) (q0 := 25) rfl rfl, (kR_go hPc hK)⟩ rfl rfl hl.1 rfl (lv_room (Nat.le_of_ble_eq_true rfl)) dL_law_284 ⟨(Nat.le_of_ble_eq_true rfl), (Nat.le_of_ble_eq_true rfl)⟩) hS (fun _ _ h => h.elim) (fun _ h => h.elim) (fun r9 u t H locs ht hvm hw hB hz1 hk1 hS => ?_)
      have hP := kx_kept hP hk1
      obtain ⟨rfl, hw⟩ := hw
      refine lv_iload hx hb dL_law_287 (lv_at hl 1 rfl) ?_
      refine lv_icmp_eq (tgt := 294) hx hb dL_law_289 (by decide) (fun _ => ?_) (fun h => absurd (by decide) h)
      refine lv_iload hx hb dL_law_294 (lv_at hl 1 rfl) ?_
      refine lv_if_ne (tgt := 311) hx hb dL_law_296 (by decide) (fun _ => ?_) (fun h => absurd h (by decide))
      refine lv_goto (tgt := 2608) hx hb dL_law_311 (by decide) ?_
      refine lv_iinc (v := 6) (lv' := [(5, .int 6), (7, .int 0), (6, .int 1), (4, .ref outD), (3, .ref out), (2, .ref mm), (1, .ref x), (0, .ref b)]) hx hb dL_law_2608 hl (k := 2) rfl (by decide) (by decide) rfl (fun ls hl => ?_)
      refine lv_goto (tgt := 28) hx hb dL_law_2611 (by decide) ?_
      refine lv_iload hx hb dL_law_28 (lv_at hl 0 rfl) ?_
      refine lv_aload_n hx hb dL_law_30 rfl (lv_at hl 7 rfl) ?_
      refine va_slen hx hb hX hbl hbA hS dL_law_31 ?_
      refine lv_topi (fun v_26 ev_26 => ?_)
      obtain rfl : v_26 = 6 := ev_26.trans (by decide)
      refine lv_bipush (v := 6) hx hb dL_law_32 (by decide) ?_
      refine lv_isub hx hb dL_law_34 ?_
      refine lv_topi (fun v_27 ev_27 => ?_)
      obtain rfl : v_27 = 0 := ev_27.trans (by decide)
      refine lv_icmp_gt (tgt := 2614) hx hb dL_law_35 (by decide) (fun _ => ?_) (fun h => absurd (by decide) h)
      exact hend _ _ _ _ _ hS (Nat.le_of_ble_eq_true rfl) (Nat.le_of_ble_eq_true rfl)
    · obtain ⟨rfl, hw⟩ := hw
      obtain ⟨rfl, hw⟩ := hw
      obtain ⟨kf_29, hw⟩ := hw
      obtain ⟨kf_30, hw⟩ := hw
      have f_28 : ((v_3.toInt = (99 : Int) ∨ v_3.toInt = (108 : Int) ∨ v_3.toInt = (113 : Int) ∨ v_3.toInt = (115 : Int)) ∧ ((0 : Int) ≤ v_5.toInt ∧ v_5.toInt ≤ (20 : Int)) ∧ ((0 : Int) ≤ v_7.toInt ∧ v_7.toInt ≤ (999 : Int))) := hw
      omega
  · obtain ⟨kf_32, hw⟩ := hw
    have f_31 : ((v_3.toInt = (99 : Int) ∨ v_3.toInt = (108 : Int) ∨ v_3.toInt = (113 : Int) ∨ v_3.toInt = (115 : Int)) ∧ ((0 : Int) ≤ v_5.toInt ∧ v_5.toInt ≤ (20 : Int)) ∧ ((0 : Int) ≤ v_7.toInt ∧ v_7.toInt ≤ (999 : Int))) := hw
    refine lv_istore (lv' := [(6, .int 0), (5, .int 0), (4, .ref outD), (3, .ref out), (2, .ref mm), (1, .ref x), (0, .ref b)]) hx hb dL_law_256 hl (by decide) rfl (fun ls hl => ?_)
    refine lv_aload_n hx hb dL_law_258 rfl (lv_at hl 4 rfl) ?_
    refine lv_aload_n hx hb dL_law_259 rfl (lv_at hl 6 rfl) ?_
    refine lv_iload hx hb dL_law_260 (lv_at hl 1 rfl) ?_
    refine lv_iconst (v := 1) hx hb dL_law_262 (by decide) ?_
    refine lv_iadd hx hb dL_law_263 ?_
    refine lv_topi (fun v_33 ev_33 => ?_)
    obtain rfl : v_33 = 1 := ev_33.trans (by decide)
    refine va_sld hx hb hX hbl hbA hS (kx_in 1 6 rfl ⟨(Nat.le_of_ble_eq_true rfl), (Nat.le_of_ble_eq_true rfl)⟩ (Nat.le_of_ble_eq_true rfl)) dL_law_264 ?_
    refine lv_topi (fun v_34 ev_34 => ?_)
    obtain rfl : v_2 = v_34 := ev_2.trans ev_34.symm
    refine lv_i2c hx hb dL_law_265 rfl ?_
    refine lv_topi (fun v_35 ev_35 => ?_)
    obtain rfl : v_3 = v_35 := ev_3.trans ev_35.symm
    refine lv_aload_n hx hb dL_law_266 rfl (lv_at hl 6 rfl) ?_
    refine lv_iload hx hb dL_law_267 (lv_at hl 1 rfl) ?_
    refine lv_iconst (v := 2) hx hb dL_law_269 (by decide) ?_
    refine lv_iadd hx hb dL_law_270 ?_
    refine lv_topi (fun v_36 ev_36 => ?_)
    obtain rfl : v_36 = 2 := ev_36.trans (by decide)
    refine va_sld hx hb hX hbl hbA hS (kx_in 2 6 rfl ⟨(Nat.le_of_ble_eq_true rfl), (Nat.le_of_ble_eq_true rfl)⟩ (Nat.le_of_ble_eq_true rfl)) dL_law_271 ?_
    refine lv_topi (fun v_37 ev_37 => ?_)
    obtain rfl : v_5 = v_37 := ev_5.trans ev_37.symm
    refine lv_aload_n hx hb dL_law_272 rfl (lv_at hl 6 rfl) ?_
    refine lv_iload hx hb dL_law_273 (lv_at hl 1 rfl) ?_
    refine lv_iconst (v := 3) hx hb dL_law_275 (by decide) ?_
    refine lv_iadd hx hb dL_law_276 ?_
    refine lv_topi (fun v_38 ev_38 => ?_)
    obtain rfl : v_38 = 3 := ev_38.trans (by decide)
    refine va_sld hx hb hX hbl hbA hS (kx_in 3 6 rfl ⟨(Nat.le_of_ble_eq_true rfl), (Nat.le_of_ble_eq_true rfl)⟩ (Nat.le_of_ble_eq_true rfl)) dL_law_277 ?_
    refine lv_topi (fun v_39 ev_39 => ?_)
    obtain rfl : v_7 = v_39 := ev_7.trans ev_39.symm
    have hPc := hP.sub (ws' := [(mm, .inr (10, [.ref mz1, .ref mz2, .ref mz3, .ref mz4, .ref mz5, .ref mz6, .ref mz7, .ref mz8, .ref mz9, .ref mz10, .ref mz11, .ref mz12, .ref mz13, .int 0, .int 0, .int 0, .int 1, .int 0])), (mz1, .inl (cy 0, 8, .inl (fun _ => 0))), (mz2, .inl (cy 1, 8, .inl (fun _ => 0))), (mz3, .inl (cy 1, 8, .inl (fun _ => 0))), (mz4, .inl (cy 1, 8, .inl (fun _ => 0))), (mz5, .inl (cy 1, 8, .inl (fun _ => 0)))]) [17, 18, 19, 20, 21, 22] rfl
    have hDc := hD.sub (ws' := [(mm, .inr (10, [.ref mz1, .ref mz2, .ref mz3, .ref mz4, .ref mz5, .ref mz6, .ref mz7, .ref mz8, .ref mz9, .ref mz10, .ref mz11, .ref mz12, .ref mz13, .int 0, .int 0, .int 0, .int 1, .int 0])), (mz1, .inl (cy 0, 8, .inl (fun _ => 0))), (mz2, .inl (cy 1, 8, .inl (fun _ => 0))), (mz3, .inl (cy 1, 8, .inl (fun _ => 0))), (mz4, .inl (cy 1, 8, .inl (fun _ => 0))), (mz5, .inl (cy 1, 8, .inl (fun _ => 0)))]) [17, 18, 19, 20, 21, 22] (by decide) rfl
    have hFc := va_free (wc := [(mm, .inr (10, [.ref mz1, .ref mz2, .ref mz3, .ref mz4, .ref mz5, .ref mz6, .ref mz7, .ref mz8, .ref mz9, .ref mz10, .ref mz11, .ref mz12, .ref mz13, .int 0, .int 0, .int 0, .int 1, .int 0])), (mz1, .inl (cy 0, 8, .inl (fun _ => 0))), (mz2, .inl (cy 1, 8, .inl (fun _ => 0))), (mz3, .inl (cy 1, 8, .inl (fun _ => 0))), (mz4, .inl (cy 1, 8, .inl (fun _ => 0))), (mz5, .inl (cy 1, 8, .inl (fun _ => 0)))]) hD hS hA [17, 18, 19, 20, 21, 22] rfl
    refine va_calli (va_runV (As := [.int v_3, .int v_5, .int v_7]) (rest := []) ⟨hx, hb, hml, hown, hts⟩ (k_X8_addResource l D cy mm v_3 v_5 v_7 mz1 mz2 mz3 mz4 mz5 (.ref mz6) (.ref mz7) (.ref mz8) (.ref mz9) (.ref mz10) (.ref mz11) (.ref mz12) (.ref mz13) (.int 0) (.int 0) (.int 1) (.int 0) (fun _ => 0) (fun _ => 0) (fun _ => 0) (fun _ => 0) (fun _ => 0) H.size) (cwV 3 hts gv_L_150_X8_addResource rfl rfl rfl (by decide +kernel) ⟨(Nat.le_of_ble_eq_true rfl), (Nat.le_of_ble_eq_true rfl)⟩) ⟨kW_fb, va_recv hK hP (ci := 10) (q0 := 17) rfl rfl, (kW_go hPc hK hDc)⟩ rfl rfl hl.1 rfl (lv_room (Nat.le_of_ble_eq_true rfl)) dL_law_278 ⟨(Nat.le_of_ble_eq_true rfl), (Nat.le_of_ble_eq_true rfl)⟩) hS (fun q _ h => hFc q h) hFc (fun r9 u t H locs ht hvm hw hB hz1 hk1 hS => ?_)
    obtain ⟨y_40, y_41, u_42, u_43, u_44, u_45, u_46⟩ := u
    obtain ⟨hP1, hD1⟩ := hB
    rw [ht] at hP1
    try dsimp only at hw hP1 hD1
    obtain ⟨hP, hD⟩ := va_join (wr := [(xz2, .inr (5, [.ref xz9, .ref xz10, .int 0])), (xz4, .inr (8, [.ref xz11, .ref xz12, .ref xz13, .ref xz14, .ref xz15, .ref xz16, .ref xz17, .ref xz18, .ref xz19, .ref xz20, .ref xz21, .int 0, .int 0])), (xz5, .inr (4, [.ref xz22, .int 0, .ref xz23, .ref xz24, .ref xz25])), (xz6, .inr (3, [.long 0, .long 0])), (xz8, .inl (cy 6, 6, .inr (.inr (.inr (.inr xu28))))), (xz15, .inl (cy 1, 1000, .inl (fun _ => 0))), (xz16, .inl (cy 1, 1000, .inl (fun _ => 0))), (xz17, .inl (cy 1, 1000, .inl (fun _ => 0))), (xz18, .inl (cy 1, 1000, .inl (fun _ => 0))), (xz19, .inl (cy 1, 1000, .inl (fun _ => 0))), (xz20, .inl (cy 1, 1000, .inl (fun _ => 0))), (xz21, .inr (5, [.ref xz30, .ref xz31, .int 0])), (xz22, .inl (cy 1, 5, .inl (fun _ => 0))), (xz23, .inl (cy 1, 256, .inl (fun _ => 0))), (xz24, .inl (cy 1, 256, .inl (fun _ => 0))), (xz25, .inl (cy 1, 256, .inl (fun _ => 0))), (xz29, .inr (6, [.int 1, .int 0, .int 0, .int 0, .ref xz33, .ref xz34])), (mz6, .inl (cy 1, 8, .inl (fun _ => 0))), (mz7, .inl (cy 1, 6, .inl (fun _ => 0))), (mz8, .inl (cy 1, 6, .inl (fun _ => 0))), (mz9, .inl (cy 3, 6, .inl (fun _ => 0))), (mz11, .inl (cy 1, 6, .inl (fun _ => 0))), (mz13, .inl (cy 1, 6, .inl (upd (upd (upd (upd (upd (upd (fun _ => 0) 0 (-1)) 1 (-1)) 2 (-1)) 3 (-1)) 4 (-1)) 5 (-1)))), (outD, .inl (cy 4, 1, .inr (.inr (.inr (.inl (fun _ => 0)))))), (out, .inl (cy 2, 1, .inr (.inl u_8)))]) (w1 := [(mm, .inr (10, [.ref mz1, .ref mz2, .ref mz3, .ref mz4, .ref mz5, .ref mz6, .ref mz7, .ref mz8, .ref mz9, .ref mz10, .ref mz11, .ref mz12, .ref mz13, .int 0, .int y_40, .int 0, .int 1, .int y_41])), (mz1, .inl (cy 0, 8, .inl u_42)), (mz2, .inl (cy 1, 8, .inl u_43)), (mz3, .inl (cy 1, 8, .inl u_44)), (mz4, .inl (cy 1, 8, .inl u_45)), (mz5, .inl (cy 1, 8, .inl u_46))]) hP hD [17, 18, 19, 20, 21, 22] [0, 1, 2, 3, 4, 5, 6, 7, 8, 9, 10, 11, 12, 13, 14, 15, 16, 23, 24, 25, 26, 27, 28, 29, 30] rfl rfl (by decide) (by decide) hk1 hFc hP1 hD1
    have hP : va_P D vwCl [(xz2, .inr (5, [.ref xz9, .ref xz10, .int 0])), (xz4, .inr (8, [.ref xz11, .ref xz12, .ref xz13, .ref xz14, .ref xz15, .ref xz16, .ref xz17, .ref xz18, .ref xz19, .ref xz20, .ref xz21, .int 0, .int 0])), (xz5, .inr (4, [.ref xz22, .int 0, .ref xz23, .ref xz24, .ref xz25])), (xz6, .inr (3, [.long 0, .long 0])), (xz8, .inl (cy 6, 6, .inr (.inr (.inr (.inr xu28))))), (xz15, .inl (cy 1, 1000, .inl (fun _ => 0))), (xz16, .inl (cy 1, 1000, .inl (fun _ => 0))), (xz17, .inl (cy 1, 1000, .inl (fun _ => 0))), (xz18, .inl (cy 1, 1000, .inl (fun _ => 0))), (xz19, .inl (cy 1, 1000, .inl (fun _ => 0))), (xz20, .inl (cy 1, 1000, .inl (fun _ => 0))), (xz21, .inr (5, [.ref xz30, .ref xz31, .int 0])), (xz22, .inl (cy 1, 5, .inl (fun _ => 0))), (xz23, .inl (cy 1, 256, .inl (fun _ => 0))), (xz24, .inl (cy 1, 256, .inl (fun _ => 0))), (xz25, .inl (cy 1, 256, .inl (fun _ => 0))), (xz29, .inr (6, [.int 1, .int 0, .int 0, .int 0, .ref xz33, .ref xz34])), (mz6, .inl (cy 1, 8, .inl (fun _ => 0))), (mz7, .inl (cy 1, 6, .inl (fun _ => 0))), (mz8, .inl (cy 1, 6, .inl (fun _ => 0))), (mz9, .inl (cy 3, 6, .inl (fun _ => 0))), (mz11, .inl (cy 1, 6, .inl (fun _ => 0))), (mz13, .inl (cy 1, 6, .inl (upd (upd (upd (upd (upd (upd (fun _ => 0) 0 (-1)) 1 (-1)) 2 (-1)) 3 (-1)) 4 (-1)) 5 (-1)))), (outD, .inl (cy 4, 1, .inr (.inr (.inr (.inl (fun _ => 0)))))), (out, .inl (cy 2, 1, .inr (.inl u_8))), (mm, .inr (10, [.ref mz1, .ref mz2, .ref mz3, .ref mz4, .ref mz5, .ref mz6, .ref mz7, .ref mz8, .ref mz9, .ref mz10, .ref mz11, .ref mz12, .ref mz13, .int 0, .int y_40, .int 0, .int 1, .int y_41])), (mz1, .inl (cy 0, 8, .inl u_42)), (mz2, .inl (cy 1, 8, .inl u_43)), (mz3, .inl (cy 1, 8, .inl u_44)), (mz4, .inl (cy 1, 8, .inl u_45)), (mz5, .inl (cy 1, 8, .inl u_46))] H := hP
    have hD : va_D A [(xz2, .inr (5, [.ref xz9, .ref xz10, .int 0])), (xz4, .inr (8, [.ref xz11, .ref xz12, .ref xz13, .ref xz14, .ref xz15, .ref xz16, .ref xz17, .ref xz18, .ref xz19, .ref xz20, .ref xz21, .int 0, .int 0])), (xz5, .inr (4, [.ref xz22, .int 0, .ref xz23, .ref xz24, .ref xz25])), (xz6, .inr (3, [.long 0, .long 0])), (xz8, .inl (cy 6, 6, .inr (.inr (.inr (.inr xu28))))), (xz15, .inl (cy 1, 1000, .inl (fun _ => 0))), (xz16, .inl (cy 1, 1000, .inl (fun _ => 0))), (xz17, .inl (cy 1, 1000, .inl (fun _ => 0))), (xz18, .inl (cy 1, 1000, .inl (fun _ => 0))), (xz19, .inl (cy 1, 1000, .inl (fun _ => 0))), (xz20, .inl (cy 1, 1000, .inl (fun _ => 0))), (xz21, .inr (5, [.ref xz30, .ref xz31, .int 0])), (xz22, .inl (cy 1, 5, .inl (fun _ => 0))), (xz23, .inl (cy 1, 256, .inl (fun _ => 0))), (xz24, .inl (cy 1, 256, .inl (fun _ => 0))), (xz25, .inl (cy 1, 256, .inl (fun _ => 0))), (xz29, .inr (6, [.int 1, .int 0, .int 0, .int 0, .ref xz33, .ref xz34])), (mz6, .inl (cy 1, 8, .inl (fun _ => 0))), (mz7, .inl (cy 1, 6, .inl (fun _ => 0))), (mz8, .inl (cy 1, 6, .inl (fun _ => 0))), (mz9, .inl (cy 3, 6, .inl (fun _ => 0))), (mz11, .inl (cy 1, 6, .inl (fun _ => 0))), (mz13, .inl (cy 1, 6, .inl (upd (upd (upd (upd (upd (upd (fun _ => 0) 0 (-1)) 1 (-1)) 2 (-1)) 3 (-1)) 4 (-1)) 5 (-1)))), (outD, .inl (cy 4, 1, .inr (.inr (.inr (.inl (fun _ => 0)))))), (out, .inl (cy 2, 1, .inr (.inl u_8))), (mm, .inr (10, [.ref mz1, .ref mz2, .ref mz3, .ref mz4, .ref mz5, .ref mz6, .ref mz7, .ref mz8, .ref mz9, .ref mz10, .ref mz11, .ref mz12, .ref mz13, .int 0, .int y_40, .int 0, .int 1, .int y_41])), (mz1, .inl (cy 0, 8, .inl u_42)), (mz2, .inl (cy 1, 8, .inl u_43)), (mz3, .inl (cy 1, 8, .inl u_44)), (mz4, .inl (cy 1, 8, .inl u_45)), (mz5, .inl (cy 1, 8, .inl u_46))] := hD
    rcases hw with ⟨rfl, hw⟩ | ⟨rfl, hw⟩
    · obtain ⟨rfl, hw⟩ := hw
      obtain ⟨rfl, hw⟩ := hw
      have f_47 : ¬ (((v_3.toInt = (99 : Int) ∨ v_3.toInt = (108 : Int) ∨ v_3.toInt = (113 : Int) ∨ v_3.toInt = (115 : Int)) ∧ ((0 : Int) ≤ v_5.toInt ∧ v_5.toInt ≤ (20 : Int)) ∧ ((0 : Int) ≤ v_7.toInt ∧ v_7.toInt ≤ (999 : Int)))) := hw
      omega
    · obtain ⟨rfl, hw⟩ := hw
      obtain ⟨rfl, hw⟩ := hw
      obtain ⟨kf_49, hw⟩ := hw
      obtain ⟨kf_50, hw⟩ := hw
      have f_48 : ((v_3.toInt = (99 : Int) ∨ v_3.toInt = (108 : Int) ∨ v_3.toInt = (113 : Int) ∨ v_3.toInt = (115 : Int)) ∧ ((0 : Int) ≤ v_5.toInt ∧ v_5.toInt ≤ (20 : Int)) ∧ ((0 : Int) ≤ v_7.toInt ∧ v_7.toInt ≤ (999 : Int))) := hw
      refine lv_istore (lv' := [(7, .int 0), (6, .int 0), (5, .int 0), (4, .ref outD), (3, .ref out), (2, .ref mm), (1, .ref x), (0, .ref b)]) hx hb dL_law_281 hl (by decide) rfl (fun ls hl => ?_)
      refine lv_aload_n hx hb dL_law_283 rfl (lv_at hl 5 rfl) ?_
      have hPc := hP.sub (ws' := [(mm, .inr (10, [.ref mz1, .ref mz2, .ref mz3, .ref mz4, .ref mz5, .ref mz6, .ref mz7, .ref mz8, .ref mz9, .ref mz10, .ref mz11, .ref mz12, .ref mz13, .int 0, .int 1, .int 0, .int 1, .int 0]))]) [25] rfl
      refine va_calli (va_runV (As := []) (rest := []) ⟨hx, hb, hml, hown, hts⟩ (k_X8_thrown_1 l D cy mm (.ref mz1) (.ref mz2) (.ref mz3) (.ref mz4) (.ref mz5) (.ref mz6) (.ref mz7) (.ref mz8) (.ref mz9) (.ref mz10) (.ref mz11) (.ref mz12) (.ref mz13) (.int 0) (.int 1) (.int 0) (.int 1)) (cwV 0 hts gv_L_151_X8_thrown rfl rfl rfl (by decide +kernel) ⟨(Nat.le_of_ble_eq_true rfl), (Nat.le_of_ble_eq_true rfl)⟩) ⟨kR_fb, va_recv hK hP (ci := 10) (q0 := 25) rfl rfl, (kR_go hPc hK)⟩ rfl rfl hl.1 rfl (lv_room (Nat.le_of_ble_eq_true rfl)) dL_law_284 ⟨(Nat.le_of_ble_eq_true rfl), (Nat.le_of_ble_eq_true rfl)⟩) hS (fun _ _ h => h.elim) (fun _ h => h.elim) (fun r9 u t H locs ht hvm hw hB hz1 hk1 hS => ?_)
      have hP := kx_kept hP hk1
      obtain ⟨rfl, hw⟩ := hw
      refine lv_iload hx hb dL_law_287 (lv_at hl 1 rfl) ?_
      refine lv_icmp_eq (tgt := 294) hx hb dL_law_289 (by decide) (fun _ => ?_) (fun h => absurd (by decide) h)
      refine lv_iload hx hb dL_law_294 (lv_at hl 1 rfl) ?_
      refine lv_if_ne (tgt := 311) hx hb dL_law_296 (by decide) (fun h => absurd (by decide) h) (fun _ => ?_)
      refine lv_aload_n hx hb dL_law_299 rfl (lv_at hl 4 rfl) ?_
      refine lv_iconst (v := 0) hx hb dL_law_300 (by decide) ?_
      refine va_lald hx hb hK hP 24 2 rfl rfl (kx_in 0 1 rfl ⟨(Nat.le_of_ble_eq_true rfl), (Nat.le_of_ble_eq_true rfl)⟩ (Nat.le_of_ble_eq_true rfl)) dL_law_301 ?_
      refine lv_topl (fun v_52 ev_52 => ?_)
      obtain rfl : v_52 = 0 := ev_52.trans (kf_32)
      refine lv_iload hx hb dL_law_302 (lv_at hl 0 rfl) ?_
      refine lv_i2l (v := 0) hx hb dL_law_304 (by decide) ?_
      refine W.lcmp hx hb dL_law_305 ?_
      refine lv_topi (fun v_53 ev_53 => ?_)
      obtain rfl : v_53 = 0 := ev_53.trans (by decide)
      refine lv_if_eq (tgt := 311) hx hb dL_law_306 (by decide) (fun _ => ?_) (fun h => absurd (by decide) h)
      refine lv_goto (tgt := 2608) hx hb dL_law_311 (by decide) ?_
      refine lv_iinc (v := 6) (lv' := [(5, .int 6), (7, .int 0), (6, .int 0), (4, .ref outD), (3, .ref out), (2, .ref mm), (1, .ref x), (0, .ref b)]) hx hb dL_law_2608 hl (k := 2) rfl (by decide) (by decide) rfl (fun ls hl => ?_)
      refine lv_goto (tgt := 28) hx hb dL_law_2611 (by decide) ?_
      refine lv_iload hx hb dL_law_28 (lv_at hl 0 rfl) ?_
      refine lv_aload_n hx hb dL_law_30 rfl (lv_at hl 7 rfl) ?_
      refine va_slen hx hb hX hbl hbA hS dL_law_31 ?_
      refine lv_topi (fun v_54 ev_54 => ?_)
      obtain rfl : v_54 = 6 := ev_54.trans (by decide)
      refine lv_bipush (v := 6) hx hb dL_law_32 (by decide) ?_
      refine lv_isub hx hb dL_law_34 ?_
      refine lv_topi (fun v_55 ev_55 => ?_)
      obtain rfl : v_55 = 0 := ev_55.trans (by decide)
      refine lv_icmp_gt (tgt := 2614) hx hb dL_law_35 (by decide) (fun _ => ?_) (fun h => absurd (by decide) h)
      exact hend _ _ _ _ _ hS (Nat.le_of_ble_eq_true rfl) (Nat.le_of_ble_eq_true rfl)
theorem dL_law_314 : decode cL_law 314 = .ok (.aload_n 1, 1) := by decide +kernel
theorem dL_law_315 : decode cL_law 315 = .ok (.aload_n 0, 1) := by decide +kernel
theorem dL_law_316 : decode cL_law 316 = .ok (.iload 5, 2) := by decide +kernel
theorem dL_law_318 : decode cL_law 318 = .ok (.iconst 1, 1) := by decide +kernel
theorem dL_law_319 : decode cL_law 319 = .ok (.iadd, 1) := by decide +kernel
theorem dL_law_320 : decode cL_law 320 = .ok (.iaload, 1) := by decide +kernel
theorem dL_law_321 : decode cL_law 321 = .ok (.aload_n 0, 1) := by decide +kernel
theorem dL_law_322 : decode cL_law 322 = .ok (.iload 5, 2) := by decide +kernel
theorem dL_law_324 : decode cL_law 324 = .ok (.iconst 2, 1) := by decide +kernel
theorem dL_law_325 : decode cL_law 325 = .ok (.iadd, 1) := by decide +kernel
theorem dL_law_326 : decode cL_law 326 = .ok (.iaload, 1) := by decide +kernel
theorem dL_law_327 : decode cL_law 327 = .ok (.aload_n 0, 1) := by decide +kernel
theorem dL_law_328 : decode cL_law 328 = .ok (.iload 5, 2) := by decide +kernel
theorem dL_law_330 : decode cL_law 330 = .ok (.iconst 3, 1) := by decide +kernel
theorem dL_law_331 : decode cL_law 331 = .ok (.iadd, 1) := by decide +kernel
theorem dL_law_332 : decode cL_law 332 = .ok (.iaload, 1) := by decide +kernel
theorem dL_law_333 : decode cL_law 333 = .ok (.i2c, 1) := by decide +kernel
theorem dL_law_334 : decode cL_law 334 = .ok (.aload_n 0, 1) := by decide +kernel
theorem dL_law_335 : decode cL_law 335 = .ok (.iload 5, 2) := by decide +kernel
theorem dL_law_337 : decode cL_law 337 = .ok (.iconst 4, 1) := by decide +kernel
theorem dL_law_338 : decode cL_law 338 = .ok (.iadd, 1) := by decide +kernel
theorem dL_law_339 : decode cL_law 339 = .ok (.iaload, 1) := by decide +kernel
theorem dL_law_340 : decode cL_law 340 = .ok (.aload_n 0, 1) := by decide +kernel
theorem dL_law_341 : decode cL_law 341 = .ok (.iload 5, 2) := by decide +kernel
theorem dL_law_343 : decode cL_law 343 = .ok (.iconst 5, 1) := by decide +kernel
theorem dL_law_344 : decode cL_law 344 = .ok (.iadd, 1) := by decide +kernel
theorem dL_law_345 : decode cL_law 345 = .ok (.iaload, 1) := by decide +kernel
theorem dL_law_346 : decode cL_law 346 = .ok (.aload_n 3, 1) := by decide +kernel
theorem dL_law_347 : decode cL_law 347 = .ok (.invokestatic 154, 3) := by decide +kernel
theorem dL_law_350 : decode cL_law 350 = .ok (.istore 6, 2) := by decide +kernel
theorem dL_law_352 : decode cL_law 352 = .ok (.aload_n 2, 1) := by decide +kernel
theorem dL_law_353 : decode cL_law 353 = .ok (.aload_n 0, 1) := by decide +kernel
theorem dL_law_354 : decode cL_law 354 = .ok (.iload 5, 2) := by decide +kernel
theorem dL_law_356 : decode cL_law 356 = .ok (.iconst 1, 1) := by decide +kernel
theorem dL_law_357 : decode cL_law 357 = .ok (.iadd, 1) := by decide +kernel
theorem dL_law_358 : decode cL_law 358 = .ok (.iaload, 1) := by decide +kernel
theorem dL_law_359 : decode cL_law 359 = .ok (.aload_n 0, 1) := by decide +kernel
theorem dL_law_360 : decode cL_law 360 = .ok (.iload 5, 2) := by decide +kernel
theorem dL_law_362 : decode cL_law 362 = .ok (.iconst 2, 1) := by decide +kernel
theorem dL_law_363 : decode cL_law 363 = .ok (.iadd, 1) := by decide +kernel
theorem dL_law_364 : decode cL_law 364 = .ok (.iaload, 1) := by decide +kernel
theorem dL_law_365 : decode cL_law 365 = .ok (.aload_n 0, 1) := by decide +kernel
theorem dL_law_366 : decode cL_law 366 = .ok (.iload 5, 2) := by decide +kernel
theorem dL_law_368 : decode cL_law 368 = .ok (.iconst 3, 1) := by decide +kernel
theorem dL_law_369 : decode cL_law 369 = .ok (.iadd, 1) := by decide +kernel
theorem dL_law_370 : decode cL_law 370 = .ok (.iaload, 1) := by decide +kernel
theorem dL_law_371 : decode cL_law 371 = .ok (.i2c, 1) := by decide +kernel
theorem dL_law_372 : decode cL_law 372 = .ok (.aload_n 0, 1) := by decide +kernel
theorem dL_law_373 : decode cL_law 373 = .ok (.iload 5, 2) := by decide +kernel
theorem dL_law_375 : decode cL_law 375 = .ok (.iconst 4, 1) := by decide +kernel
theorem dL_law_376 : decode cL_law 376 = .ok (.iadd, 1) := by decide +kernel
theorem dL_law_377 : decode cL_law 377 = .ok (.iaload, 1) := by decide +kernel
theorem dL_law_378 : decode cL_law 378 = .ok (.aload_n 0, 1) := by decide +kernel
theorem dL_law_379 : decode cL_law 379 = .ok (.iload 5, 2) := by decide +kernel
theorem dL_law_381 : decode cL_law 381 = .ok (.iconst 5, 1) := by decide +kernel
theorem dL_law_382 : decode cL_law 382 = .ok (.iadd, 1) := by decide +kernel
theorem dL_law_383 : decode cL_law 383 = .ok (.iaload, 1) := by decide +kernel
theorem dL_law_384 : decode cL_law 384 = .ok (.invokevirtual 157, 3) := by decide +kernel
theorem dL_law_387 : decode cL_law 387 = .ok (.istore 7, 2) := by decide +kernel
theorem dL_law_389 : decode cL_law 389 = .ok (.aload_n 2, 1) := by decide +kernel
theorem dL_law_390 : decode cL_law 390 = .ok (.invokevirtual 151, 3) := by decide +kernel
theorem dL_law_393 : decode cL_law 393 = .ok (.iload 6, 2) := by decide +kernel
theorem dL_law_395 : decode cL_law 395 = .ok (.if_icmp .eq 5, 3) := by decide +kernel
theorem dL_law_400 : decode cL_law 400 = .ok (.iload 6, 2) := by decide +kernel
theorem dL_law_402 : decode cL_law 402 = .ok (.ifCond .ne 15, 3) := by decide +kernel
theorem dL_law_417 : decode cL_law 417 = .ok (.goto 2191, 3) := by decide +kernel
theorem dL_law_405 : decode cL_law 405 = .ok (.aload_n 3, 1) := by decide +kernel
theorem dL_law_406 : decode cL_law 406 = .ok (.iconst 0, 1) := by decide +kernel
theorem dL_law_407 : decode cL_law 407 = .ok (.laload, 1) := by decide +kernel
theorem dL_law_408 : decode cL_law 408 = .ok (.iload 7, 2) := by decide +kernel
theorem dL_law_410 : decode cL_law 410 = .ok (.i2l, 1) := by decide +kernel
theorem dL_law_411 : decode cL_law 411 = .ok (.lcmp, 1) := by decide +kernel
theorem dL_law_412 : decode cL_law 412 = .ok (.ifCond .eq 5, 3) := by decide +kernel
set_option maxHeartbeats 4000000 in
set_option maxRecDepth 100000 in
theorem lc_1 {p : Program} {e : Env} {s : State} {m : MethodId} {args : Array Value} {below : List Frame} {meth : Method} {c : Code} {Q : State → Prop} (l : Launch) (hl9 : l.stackTraces = false) (D : va_G) (cy : Nat → ClassId) (de : Nat) {b : Nat} {xs : Nat → Int32} {A : Nat → Prop} (hx : p.tables.exec = Jvm.exec) (hb : c.code = cL_law) (hml : c.maxLocals = 9) (hown : s.vm.findClass RL = some m.cls) (hts : ∀ w ∈ lw_tbl, w.before args s = true) (hX : va_X b 6 xs s s.heap) (hbl : b < s.heap.size) (hbA : ¬ A b) (hA : ∀ q : Nat, s.heap.size ≤ q → A q) (hE : exP A s) (hY : deP cy de A s s.heap) (hK : va_K D vwCl (tyG cy) s) (x : Nat) (xz1 : Nat) (xz2 : Nat) (xz3 : Nat) (xz4 : Nat) (xz5 : Nat) (xz6 : Nat) (xz7 : Nat) (xz8 : Nat) (xz9 : Nat) (xz10 : Nat) (xz11 : Nat) (xz12 : Nat) (xz13 : Nat) (xz14 : Nat) (xz15 : Nat) (xz16 : Nat) (xz17 : Nat) (xz18 : Nat) (xz19 : Nat) (xz20 : Nat) (xz21 : Nat) (xz22 : Nat) (xz23 : Nat) (xz24 : Nat) (xz25 : Nat) (xu26 : Nat → Option Nat) (xz27 : Nat) (xu28 : Nat → Option Nat) (xz29 : Nat) (xz30 : Nat) (xz31 : Nat) (xz32 : Nat) (xz33 : Nat) (xz34 : Nat) (mm : Nat) (mz1 : Nat) (mz2 : Nat) (mz3 : Nat) (mz4 : Nat) (mz5 : Nat) (mz6 : Nat) (mz7 : Nat) (mz8 : Nat) (mz9 : Nat) (mz10 : Nat) (mz11 : Nat) (mz12 : Nat) (mz13 : Nat) (out : Nat) (outD : Nat) (xku26_0 : xu26 0 = some xz27) (xku28_0 : xu28 0 = some xz29) {H : Heap} {locs : List Loc} (hP : va_P D vwCl [(x, .inr (9, [.ref xz1, .ref xz2, .ref xz3, .ref xz4, .ref xz5, .ref xz6, .int 1])), (xz1, .inr (2, [.ref xz7, .ref xz8, .int 0, .int 0])), (xz2, .inr (5, [.ref xz9, .ref xz10, .int 0])), (xz4, .inr (8, [.ref xz11, .ref xz12, .ref xz13, .ref xz14, .ref xz15, .ref xz16, .ref xz17, .ref xz18, .ref xz19, .ref xz20, .ref xz21, .int 0, .int 0])), (xz5, .inr (4, [.ref xz22, .int 0, .ref xz23, .ref xz24, .ref xz25])), (xz6, .inr (3, [.long 0, .long 0])), (xz7, .inl (cy 5, 8, .inr (.inr (.inr (.inr xu26))))), (xz8, .inl (cy 6, 6, .inr (.inr (.inr (.inr xu28))))), (xz15, .inl (cy 1, 1000, .inl (fun _ => 0))), (xz16, .inl (cy 1, 1000, .inl (fun _ => 0))), (xz17, .inl (cy 1, 1000, .inl (fun _ => 0))), (xz18, .inl (cy 1, 1000, .inl (fun _ => 0))), (xz19, .inl (cy 1, 1000, .inl (fun _ => 0))), (xz20, .inl (cy 1, 1000, .inl (fun _ => 0))), (xz21, .inr (5, [.ref xz30, .ref xz31, .int 0])), (xz22, .inl (cy 1, 5, .inl (fun _ => 0))), (xz23, .inl (cy 1, 256, .inl (fun _ => 0))), (xz24, .inl (cy 1, 256, .inl (fun _ => 0))), (xz25, .inl (cy 1, 256, .inl (fun _ => 0))), (xz27, .inr (7, [.int 0, .int 0, .int 99, .int (-1), .int (-1), .int 0, .ref xz32])), (xz29, .inr (6, [.int 1, .int 0, .int 0, .int 0, .ref xz33, .ref xz34])), (xz32, .inl (cy 1, 19, .inl (fun _ => 0))), (mm, .inr (10, [.ref mz1, .ref mz2, .ref mz3, .ref mz4, .ref mz5, .ref mz6, .ref mz7, .ref mz8, .ref mz9, .ref mz10, .ref mz11, .ref mz12, .ref mz13, .int 0, .int 0, .int 0, .int 1, .int 0])), (mz1, .inl (cy 0, 8, .inl (fun _ => 0))), (mz2, .inl (cy 1, 8, .inl (fun _ => 0))), (mz3, .inl (cy 1, 8, .inl (fun _ => 0))), (mz4, .inl (cy 1, 8, .inl (fun _ => 0))), (mz5, .inl (cy 1, 8, .inl (fun _ => 0))), (mz6, .inl (cy 1, 8, .inl (fun _ => 0))), (mz7, .inl (cy 1, 6, .inl (fun _ => 0))), (mz8, .inl (cy 1, 6, .inl (fun _ => 0))), (mz9, .inl (cy 3, 6, .inl (fun _ => 0))), (mz11, .inl (cy 1, 6, .inl (fun _ => 0))), (mz13, .inl (cy 1, 6, .inl (upd (upd (upd (upd (upd (upd (fun _ => 0) 0 (-1)) 1 (-1)) 2 (-1)) 3 (-1)) 4 (-1)) 5 (-1)))), (out, .inl (cy 2, 1, .inr (.inl (fun _ => 0)))), (outD, .inl (cy 4, 1, .inr (.inr (.inr (.inl (fun _ => 0))))))] H) (hD : va_D A [(x, .inr (9, [.ref xz1, .ref xz2, .ref xz3, .ref xz4, .ref xz5, .ref xz6, .int 1])), (xz1, .inr (2, [.ref xz7, .ref xz8, .int 0, .int 0])), (xz2, .inr (5, [.ref xz9, .ref xz10, .int 0])), (xz4, .inr (8, [.ref xz11, .ref xz12, .ref xz13, .ref xz14, .ref xz15, .ref xz16, .ref xz17, .ref xz18, .ref xz19, .ref xz20, .ref xz21, .int 0, .int 0])), (xz5, .inr (4, [.ref xz22, .int 0, .ref xz23, .ref xz24, .ref xz25])), (xz6, .inr (3, [.long 0, .long 0])), (xz7, .inl (cy 5, 8, .inr (.inr (.inr (.inr xu26))))), (xz8, .inl (cy 6, 6, .inr (.inr (.inr (.inr xu28))))), (xz15, .inl (cy 1, 1000, .inl (fun _ => 0))), (xz16, .inl (cy 1, 1000, .inl (fun _ => 0))), (xz17, .inl (cy 1, 1000, .inl (fun _ => 0))), (xz18, .inl (cy 1, 1000, .inl (fun _ => 0))), (xz19, .inl (cy 1, 1000, .inl (fun _ => 0))), (xz20, .inl (cy 1, 1000, .inl (fun _ => 0))), (xz21, .inr (5, [.ref xz30, .ref xz31, .int 0])), (xz22, .inl (cy 1, 5, .inl (fun _ => 0))), (xz23, .inl (cy 1, 256, .inl (fun _ => 0))), (xz24, .inl (cy 1, 256, .inl (fun _ => 0))), (xz25, .inl (cy 1, 256, .inl (fun _ => 0))), (xz27, .inr (7, [.int 0, .int 0, .int 99, .int (-1), .int (-1), .int 0, .ref xz32])), (xz29, .inr (6, [.int 1, .int 0, .int 0, .int 0, .ref xz33, .ref xz34])), (xz32, .inl (cy 1, 19, .inl (fun _ => 0))), (mm, .inr (10, [.ref mz1, .ref mz2, .ref mz3, .ref mz4, .ref mz5, .ref mz6, .ref mz7, .ref mz8, .ref mz9, .ref mz10, .ref mz11, .ref mz12, .ref mz13, .int 0, .int 0, .int 0, .int 1, .int 0])), (mz1, .inl (cy 0, 8, .inl (fun _ => 0))), (mz2, .inl (cy 1, 8, .inl (fun _ => 0))), (mz3, .inl (cy 1, 8, .inl (fun _ => 0))), (mz4, .inl (cy 1, 8, .inl (fun _ => 0))), (mz5, .inl (cy 1, 8, .inl (fun _ => 0))), (mz6, .inl (cy 1, 8, .inl (fun _ => 0))), (mz7, .inl (cy 1, 6, .inl (fun _ => 0))), (mz8, .inl (cy 1, 6, .inl (fun _ => 0))), (mz9, .inl (cy 3, 6, .inl (fun _ => 0))), (mz11, .inl (cy 1, 6, .inl (fun _ => 0))), (mz13, .inl (cy 1, 6, .inl (upd (upd (upd (upd (upd (upd (fun _ => 0) 0 (-1)) 1 (-1)) 2 (-1)) 3 (-1)) 4 (-1)) 5 (-1)))), (out, .inl (cy 2, 1, .inr (.inl (fun _ => 0)))), (outD, .inl (cy 4, 1, .inr (.inr (.inr (.inl (fun _ => 0))))))]) (hS : va_S A s.heap H locs) {ls : Array Slot} (hl : lv_has ls 9 [(5, .int 0), (4, .ref outD), (3, .ref out), (2, .ref mm), (1, .ref x), (0, .ref b)]) (hend : ∀ (H : Heap) (locs : List Loc) (ls : Array Slot) (cells slots : Nat), va_S A s.heap H locs → cells ≤ 600006 → slots ≤ 7302032 → W p l e room_1 s m args below meth c H locs cells slots Q (F0 m 2614 ls [])) : W p l e room_1 s m args below meth c H locs 92 7500 Q (F0 m 314 ls []) := by
  refine lv_aload_n hx hb dL_law_314 rfl (lv_at hl 4 rfl) ?_
  refine lv_aload_n hx hb dL_law_315 rfl (lv_at hl 5 rfl) ?_
  refine lv_iload hx hb dL_law_316 (lv_at hl 0 rfl) ?_
  refine lv_iconst (v := 1) hx hb dL_law_318 (by decide) ?_
  refine lv_iadd hx hb dL_law_319 ?_
  refine lv_topi (fun v_1 ev_1 => ?_)
  obtain rfl : v_1 = 1 := ev_1.trans (by decide)
  refine va_sld hx hb hX hbl hbA hS (kx_in 1 6 rfl ⟨(Nat.le_of_ble_eq_true rfl), (Nat.le_of_ble_eq_true rfl)⟩ (Nat.le_of_ble_eq_true rfl)) dL_law_320 ?_
  refine lv_topi (fun v_2 ev_2 => ?_)
  refine lv_aload_n hx hb dL_law_321 rfl (lv_at hl 5 rfl) ?_
  refine lv_iload hx hb dL_law_322 (lv_at hl 0 rfl) ?_
  refine lv_iconst (v := 2) hx hb dL_law_324 (by decide) ?_
  refine lv_iadd hx hb dL_law_325 ?_
  refine lv_topi (fun v_3 ev_3 => ?_)
  obtain rfl : v_3 = 2 := ev_3.trans (by decide)
  refine va_sld hx hb hX hbl hbA hS (kx_in 2 6 rfl ⟨(Nat.le_of_ble_eq_true rfl), (Nat.le_of_ble_eq_true rfl)⟩ (Nat.le_of_ble_eq_true rfl)) dL_law_326 ?_
  refine lv_topi (fun v_4 ev_4 => ?_)
  refine lv_aload_n hx hb dL_law_327 rfl (lv_at hl 5 rfl) ?_
  refine lv_iload hx hb dL_law_328 (lv_at hl 0 rfl) ?_
  refine lv_iconst (v := 3) hx hb dL_law_330 (by decide) ?_
  refine lv_iadd hx hb dL_law_331 ?_
  refine lv_topi (fun v_5 ev_5 => ?_)
  obtain rfl : v_5 = 3 := ev_5.trans (by decide)
  refine va_sld hx hb hX hbl hbA hS (kx_in 3 6 rfl ⟨(Nat.le_of_ble_eq_true rfl), (Nat.le_of_ble_eq_true rfl)⟩ (Nat.le_of_ble_eq_true rfl)) dL_law_332 ?_
  refine lv_topi (fun v_6 ev_6 => ?_)
  refine lv_i2c hx hb dL_law_333 rfl ?_
  refine lv_topi (fun v_7 ev_7 => ?_)
  refine lv_aload_n hx hb dL_law_334 rfl (lv_at hl 5 rfl) ?_
  refine lv_iload hx hb dL_law_335 (lv_at hl 0 rfl) ?_
  refine lv_iconst (v := 4) hx hb dL_law_337 (by decide) ?_
  refine lv_iadd hx hb dL_law_338 ?_
  refine lv_topi (fun v_8 ev_8 => ?_)
  obtain rfl : v_8 = 4 := ev_8.trans (by decide)
  refine va_sld hx hb hX hbl hbA hS (kx_in 4 6 rfl ⟨(Nat.le_of_ble_eq_true rfl), (Nat.le_of_ble_eq_true rfl)⟩ (Nat.le_of_ble_eq_true rfl)) dL_law_339 ?_
  refine lv_topi (fun v_9 ev_9 => ?_)
  refine lv_aload_n hx hb dL_law_340 rfl (lv_at hl 5 rfl) ?_
  refine lv_iload hx hb dL_law_341 (lv_at hl 0 rfl) ?_
  refine lv_iconst (v := 5) hx hb dL_law_343 (by decide) ?_
  refine lv_iadd hx hb dL_law_344 ?_
  refine lv_topi (fun v_10 ev_10 => ?_)
  obtain rfl : v_10 = 5 := ev_10.trans (by decide)
  refine va_sld hx hb hX hbl hbA hS (kx_in 5 6 rfl ⟨(Nat.le_of_ble_eq_true rfl), (Nat.le_of_ble_eq_true rfl)⟩ (Nat.le_of_ble_eq_true rfl)) dL_law_345 ?_
  refine lv_topi (fun v_11 ev_11 => ?_)
  refine lv_aload_n hx hb dL_law_346 rfl (lv_at hl 2 rfl) ?_
  have hPc := hP.sub (ws' := [(x, .inr (9, [.ref xz1, .ref xz2, .ref xz3, .ref xz4, .ref xz5, .ref xz6, .int 1])), (out, .inl (cy 2, 1, .inr (.inl (fun _ => 0)))), (xz1, .inr (2, [.ref xz7, .ref xz8, .int 0, .int 0])), (xz7, .inl (cy 5, 8, .inr (.inr (.inr (.inr xu26))))), (xz27, .inr (7, [.int 0, .int 0, .int 99, .int (-1), .int (-1), .int 0, .ref xz32])), (xz32, .inl (cy 1, 19, .inl (fun _ => 0)))]) [0, 34, 1, 6, 19, 21] rfl
  have hDc := hD.sub (ws' := [(x, .inr (9, [.ref xz1, .ref xz2, .ref xz3, .ref xz4, .ref xz5, .ref xz6, .int 1])), (out, .inl (cy 2, 1, .inr (.inl (fun _ => 0)))), (xz1, .inr (2, [.ref xz7, .ref xz8, .int 0, .int 0])), (xz7, .inl (cy 5, 8, .inr (.inr (.inr (.inr xu26))))), (xz27, .inr (7, [.int 0, .int 0, .int 99, .int (-1), .int (-1), .int 0, .ref xz32])), (xz32, .inl (cy 1, 19, .inl (fun _ => 0)))]) [0, 34, 1, 6, 19, 21] (by decide) rfl
  have hFc := va_free (wc := [(x, .inr (9, [.ref xz1, .ref xz2, .ref xz3, .ref xz4, .ref xz5, .ref xz6, .int 1])), (out, .inl (cy 2, 1, .inr (.inl (fun _ => 0)))), (xz1, .inr (2, [.ref xz7, .ref xz8, .int 0, .int 0])), (xz7, .inl (cy 5, 8, .inr (.inr (.inr (.inr xu26))))), (xz27, .inr (7, [.int 0, .int 0, .int 99, .int (-1), .int (-1), .int 0, .ref xz32])), (xz32, .inl (cy 1, 19, .inl (fun _ => 0)))]) hD hS hA [0, 34, 1, 6, 19, 21] rfl
  refine va_calli (vx_runSW (As := [.ref x, .int v_2, .int v_4, .int v_7, .int v_9, .int v_11, .ref out]) (rest := []) ⟨hx, hb, hml, hown, hts⟩ (k_L_addRoad l hl9 D cy x v_2 v_4 v_7 v_9 v_11 out xz1 (.ref xz2) (.ref xz3) (.ref xz4) (.ref xz5) (.ref xz6) (.int 1) (fun _ => 0) xz7 (.ref xz8) (.int 0) xu26 xz27 (xku26_0) (.int (-1)) (.int (-1)) (.int 0) xz32 (fun _ => 0) H.size) (vx_cwSW 7 hts gs_L_154_L_addRoad rfl rfl rfl (by decide +kernel) ⟨(Nat.le_of_ble_eq_true rfl), (Nat.le_of_ble_eq_true rfl)⟩) ⟨kWX_fb, (kWX_go hPc hK hDc hFc hE hS)⟩ rfl rfl hl.1 rfl (lv_room (Nat.le_of_ble_eq_true rfl)) dL_law_347 ⟨(Nat.le_of_ble_eq_true rfl), (Nat.le_of_ble_eq_true rfl)⟩) hS (fun q _ h => hFc q h) hFc (fun r9 u t H locs ht hvm hw hB hz1 hk1 hS => ?_)
  obtain ⟨u_12, rfl⟩ : ∃ z, z = u := ⟨_, rfl⟩
  obtain ⟨hP1, hD1⟩ := hB
  rw [ht] at hP1
  try dsimp only at hw hP1 hD1
  obtain ⟨hP, hD⟩ := va_join (wr := [(xz2, .inr (5, [.ref xz9, .ref xz10, .int 0])), (xz4, .inr (8, [.ref xz11, .ref xz12, .ref xz13, .ref xz14, .ref xz15, .ref xz16, .ref xz17, .ref xz18, .ref xz19, .ref xz20, .ref xz21, .int 0, .int 0])), (xz5, .inr (4, [.ref xz22, .int 0, .ref xz23, .ref xz24, .ref xz25])), (xz6, .inr (3, [.long 0, .long 0])), (xz8, .inl (cy 6, 6, .inr (.inr (.inr (.inr xu28))))), (xz15, .inl (cy 1, 1000, .inl (fun _ => 0))), (xz16, .inl (cy 1, 1000, .inl (fun _ => 0))), (xz17, .inl (cy 1, 1000, .inl (fun _ => 0))), (xz18, .inl (cy 1, 1000, .inl (fun _ => 0))), (xz19, .inl (cy 1, 1000, .inl (fun _ => 0))), (xz20, .inl (cy 1, 1000, .inl (fun _ => 0))), (xz21, .inr (5, [.ref xz30, .ref xz31, .int 0])), (xz22, .inl (cy 1, 5, .inl (fun _ => 0))), (xz23, .inl (cy 1, 256, .inl (fun _ => 0))), (xz24, .inl (cy 1, 256, .inl (fun _ => 0))), (xz25, .inl (cy 1, 256, .inl (fun _ => 0))), (xz29, .inr (6, [.int 1, .int 0, .int 0, .int 0, .ref xz33, .ref xz34])), (mm, .inr (10, [.ref mz1, .ref mz2, .ref mz3, .ref mz4, .ref mz5, .ref mz6, .ref mz7, .ref mz8, .ref mz9, .ref mz10, .ref mz11, .ref mz12, .ref mz13, .int 0, .int 0, .int 0, .int 1, .int 0])), (mz1, .inl (cy 0, 8, .inl (fun _ => 0))), (mz2, .inl (cy 1, 8, .inl (fun _ => 0))), (mz3, .inl (cy 1, 8, .inl (fun _ => 0))), (mz4, .inl (cy 1, 8, .inl (fun _ => 0))), (mz5, .inl (cy 1, 8, .inl (fun _ => 0))), (mz6, .inl (cy 1, 8, .inl (fun _ => 0))), (mz7, .inl (cy 1, 6, .inl (fun _ => 0))), (mz8, .inl (cy 1, 6, .inl (fun _ => 0))), (mz9, .inl (cy 3, 6, .inl (fun _ => 0))), (mz11, .inl (cy 1, 6, .inl (fun _ => 0))), (mz13, .inl (cy 1, 6, .inl (upd (upd (upd (upd (upd (upd (fun _ => 0) 0 (-1)) 1 (-1)) 2 (-1)) 3 (-1)) 4 (-1)) 5 (-1)))), (outD, .inl (cy 4, 1, .inr (.inr (.inr (.inl (fun _ => 0))))))]) (w1 := [(out, .inl (cy 2, 1, .inr (.inl u_12)))]) hP hD [0, 34, 1, 6, 19, 21] [2, 3, 4, 5, 7, 8, 9, 10, 11, 12, 13, 14, 15, 16, 17, 18, 20, 22, 23, 24, 25, 26, 27, 28, 29, 30, 31, 32, 33, 35] rfl rfl (by decide) (by decide) hk1 hFc hP1 hD1
  have hP : va_P D vwCl [(xz2, .inr (5, [.ref xz9, .ref xz10, .int 0])), (xz4, .inr (8, [.ref xz11, .ref xz12, .ref xz13, .ref xz14, .ref xz15, .ref xz16, .ref xz17, .ref xz18, .ref xz19, .ref xz20, .ref xz21, .int 0, .int 0])), (xz5, .inr (4, [.ref xz22, .int 0, .ref xz23, .ref xz24, .ref xz25])), (xz6, .inr (3, [.long 0, .long 0])), (xz8, .inl (cy 6, 6, .inr (.inr (.inr (.inr xu28))))), (xz15, .inl (cy 1, 1000, .inl (fun _ => 0))), (xz16, .inl (cy 1, 1000, .inl (fun _ => 0))), (xz17, .inl (cy 1, 1000, .inl (fun _ => 0))), (xz18, .inl (cy 1, 1000, .inl (fun _ => 0))), (xz19, .inl (cy 1, 1000, .inl (fun _ => 0))), (xz20, .inl (cy 1, 1000, .inl (fun _ => 0))), (xz21, .inr (5, [.ref xz30, .ref xz31, .int 0])), (xz22, .inl (cy 1, 5, .inl (fun _ => 0))), (xz23, .inl (cy 1, 256, .inl (fun _ => 0))), (xz24, .inl (cy 1, 256, .inl (fun _ => 0))), (xz25, .inl (cy 1, 256, .inl (fun _ => 0))), (xz29, .inr (6, [.int 1, .int 0, .int 0, .int 0, .ref xz33, .ref xz34])), (mm, .inr (10, [.ref mz1, .ref mz2, .ref mz3, .ref mz4, .ref mz5, .ref mz6, .ref mz7, .ref mz8, .ref mz9, .ref mz10, .ref mz11, .ref mz12, .ref mz13, .int 0, .int 0, .int 0, .int 1, .int 0])), (mz1, .inl (cy 0, 8, .inl (fun _ => 0))), (mz2, .inl (cy 1, 8, .inl (fun _ => 0))), (mz3, .inl (cy 1, 8, .inl (fun _ => 0))), (mz4, .inl (cy 1, 8, .inl (fun _ => 0))), (mz5, .inl (cy 1, 8, .inl (fun _ => 0))), (mz6, .inl (cy 1, 8, .inl (fun _ => 0))), (mz7, .inl (cy 1, 6, .inl (fun _ => 0))), (mz8, .inl (cy 1, 6, .inl (fun _ => 0))), (mz9, .inl (cy 3, 6, .inl (fun _ => 0))), (mz11, .inl (cy 1, 6, .inl (fun _ => 0))), (mz13, .inl (cy 1, 6, .inl (upd (upd (upd (upd (upd (upd (fun _ => 0) 0 (-1)) 1 (-1)) 2 (-1)) 3 (-1)) 4 (-1)) 5 (-1)))), (outD, .inl (cy 4, 1, .inr (.inr (.inr (.inl (fun _ => 0)))))), (out, .inl (cy 2, 1, .inr (.inl u_12)))] H := hP
  have hD : va_D A [(xz2, .inr (5, [.ref xz9, .ref xz10, .int 0])), (xz4, .inr (8, [.ref xz11, .ref xz12, .ref xz13, .ref xz14, .ref xz15, .ref xz16, .ref xz17, .ref xz18, .ref xz19, .ref xz20, .ref xz21, .int 0, .int 0])), (xz5, .inr (4, [.ref xz22, .int 0, .ref xz23, .ref xz24, .ref xz25])), (xz6, .inr (3, [.long 0, .long 0])), (xz8, .inl (cy 6, 6, .inr (.inr (.inr (.inr xu28))))), (xz15, .inl (cy 1, 1000, .inl (fun _ => 0))), (xz16, .inl (cy 1, 1000, .inl (fun _ => 0))), (xz17, .inl (cy 1, 1000, .inl (fun _ => 0))), (xz18, .inl (cy 1, 1000, .inl (fun _ => 0))), (xz19, .inl (cy 1, 1000, .inl (fun _ => 0))), (xz20, .inl (cy 1, 1000, .inl (fun _ => 0))), (xz21, .inr (5, [.ref xz30, .ref xz31, .int 0])), (xz22, .inl (cy 1, 5, .inl (fun _ => 0))), (xz23, .inl (cy 1, 256, .inl (fun _ => 0))), (xz24, .inl (cy 1, 256, .inl (fun _ => 0))), (xz25, .inl (cy 1, 256, .inl (fun _ => 0))), (xz29, .inr (6, [.int 1, .int 0, .int 0, .int 0, .ref xz33, .ref xz34])), (mm, .inr (10, [.ref mz1, .ref mz2, .ref mz3, .ref mz4, .ref mz5, .ref mz6, .ref mz7, .ref mz8, .ref mz9, .ref mz10, .ref mz11, .ref mz12, .ref mz13, .int 0, .int 0, .int 0, .int 1, .int 0])), (mz1, .inl (cy 0, 8, .inl (fun _ => 0))), (mz2, .inl (cy 1, 8, .inl (fun _ => 0))), (mz3, .inl (cy 1, 8, .inl (fun _ => 0))), (mz4, .inl (cy 1, 8, .inl (fun _ => 0))), (mz5, .inl (cy 1, 8, .inl (fun _ => 0))), (mz6, .inl (cy 1, 8, .inl (fun _ => 0))), (mz7, .inl (cy 1, 6, .inl (fun _ => 0))), (mz8, .inl (cy 1, 6, .inl (fun _ => 0))), (mz9, .inl (cy 3, 6, .inl (fun _ => 0))), (mz11, .inl (cy 1, 6, .inl (fun _ => 0))), (mz13, .inl (cy 1, 6, .inl (upd (upd (upd (upd (upd (upd (fun _ => 0) 0 (-1)) 1 (-1)) 2 (-1)) 3 (-1)) 4 (-1)) 5 (-1)))), (outD, .inl (cy 4, 1, .inr (.inr (.inr (.inl (fun _ => 0)))))), (out, .inl (cy 2, 1, .inr (.inl u_12)))] := hD
  refine W.widen (k := 97) (n := 7530) (Nat.le_of_ble_eq_true rfl) (Nat.le_of_ble_eq_true rfl) ?_
  rcases hw with ⟨rfl, hw⟩ | ⟨rfl, hw⟩
  · have f_13 : (¬ ((((0 : Int) ≤ v_2.toInt ∧ v_2.toInt ≤ (5 : Int)) ∧ ((0 : Int) ≤ v_4.toInt ∧ v_4.toInt ≤ (5 : Int)) ∧ v_2.toInt ≠ v_4.toInt)) ∨ ((((0 : Int) ≤ v_2.toInt ∧ v_2.toInt ≤ (5 : Int)) ∧ ((0 : Int) ≤ v_4.toInt ∧ v_4.toInt ≤ (5 : Int)) ∧ v_2.toInt ≠ v_4.toInt) ∧ ¬ (((v_7.toInt = (99 : Int) ∨ v_7.toInt = (108 : Int) ∨ v_7.toInt = (113 : Int) ∨ v_7.toInt = (115 : Int)) ∧ ((0 : Int) ≤ v_9.toInt ∧ v_9.toInt ≤ (20 : Int)) ∧ ((0 : Int) ≤ v_11.toInt ∧ v_11.toInt ≤ (999 : Int)))))) := hw
    refine lv_istore (lv' := [(6, .int 1), (5, .int 0), (4, .ref outD), (3, .ref out), (2, .ref mm), (1, .ref x), (0, .ref b)]) hx hb dL_law_350 hl (by decide) rfl (fun ls hl => ?_)
    refine lv_aload_n hx hb dL_law_352 rfl (lv_at hl 4 rfl) ?_
    refine lv_aload_n hx hb dL_law_353 rfl (lv_at hl 6 rfl) ?_
    refine lv_iload hx hb dL_law_354 (lv_at hl 1 rfl) ?_
    refine lv_iconst (v := 1) hx hb dL_law_356 (by decide) ?_
    refine lv_iadd hx hb dL_law_357 ?_
    refine lv_topi (fun v_14 ev_14 => ?_)
    obtain rfl : v_14 = 1 := ev_14.trans (by decide)
    refine va_sld hx hb hX hbl hbA hS (kx_in 1 6 rfl ⟨(Nat.le_of_ble_eq_true rfl), (Nat.le_of_ble_eq_true rfl)⟩ (Nat.le_of_ble_eq_true rfl)) dL_law_358 ?_
    refine lv_topi (fun v_15 ev_15 => ?_)
    obtain rfl : v_2 = v_15 := ev_2.trans ev_15.symm
    refine lv_aload_n hx hb dL_law_359 rfl (lv_at hl 6 rfl) ?_
    refine lv_iload hx hb dL_law_360 (lv_at hl 1 rfl) ?_
    refine lv_iconst (v := 2) hx hb dL_law_362 (by decide) ?_
    refine lv_iadd hx hb dL_law_363 ?_
    refine lv_topi (fun v_16 ev_16 => ?_)
    obtain rfl : v_16 = 2 := ev_16.trans (by decide)
    refine va_sld hx hb hX hbl hbA hS (kx_in 2 6 rfl ⟨(Nat.le_of_ble_eq_true rfl), (Nat.le_of_ble_eq_true rfl)⟩ (Nat.le_of_ble_eq_true rfl)) dL_law_364 ?_
    refine lv_topi (fun v_17 ev_17 => ?_)
    obtain rfl : v_4 = v_17 := ev_4.trans ev_17.symm
    refine lv_aload_n hx hb dL_law_365 rfl (lv_at hl 6 rfl) ?_
    refine lv_iload hx hb dL_law_366 (lv_at hl 1 rfl) ?_
    refine lv_iconst (v := 3) hx hb dL_law_368 (by decide) ?_
    refine lv_iadd hx hb dL_law_369 ?_
    refine lv_topi (fun v_18 ev_18 => ?_)
    obtain rfl : v_18 = 3 := ev_18.trans (by decide)
    refine va_sld hx hb hX hbl hbA hS (kx_in 3 6 rfl ⟨(Nat.le_of_ble_eq_true rfl), (Nat.le_of_ble_eq_true rfl)⟩ (Nat.le_of_ble_eq_true rfl)) dL_law_370 ?_
    refine lv_topi (fun v_19 ev_19 => ?_)
    obtain rfl : v_6 = v_19 := ev_6.trans ev_19.symm
    refine lv_i2c hx hb dL_law_371 rfl ?_
    refine lv_topi (fun v_20 ev_20 => ?_)
    obtain rfl : v_7 = v_20 := ev_7.trans ev_20.symm
    refine lv_aload_n hx hb dL_law_372 rfl (lv_at hl 6 rfl) ?_
    refine lv_iload hx hb dL_law_373 (lv_at hl 1 rfl) ?_
    refine lv_iconst (v := 4) hx hb dL_law_375 (by decide) ?_
    refine lv_iadd hx hb dL_law_376 ?_
    refine lv_topi (fun v_21 ev_21 => ?_)
    obtain rfl : v_21 = 4 := ev_21.trans (by decide)
    refine va_sld hx hb hX hbl hbA hS (kx_in 4 6 rfl ⟨(Nat.le_of_ble_eq_true rfl), (Nat.le_of_ble_eq_true rfl)⟩ (Nat.le_of_ble_eq_true rfl)) dL_law_377 ?_
    refine lv_topi (fun v_22 ev_22 => ?_)
    obtain rfl : v_9 = v_22 := ev_9.trans ev_22.symm
    refine lv_aload_n hx hb dL_law_378 rfl (lv_at hl 6 rfl) ?_
    refine lv_iload hx hb dL_law_379 (lv_at hl 1 rfl) ?_
    refine lv_iconst (v := 5) hx hb dL_law_381 (by decide) ?_
    refine lv_iadd hx hb dL_law_382 ?_
    refine lv_topi (fun v_23 ev_23 => ?_)
    obtain rfl : v_23 = 5 := ev_23.trans (by decide)
    refine va_sld hx hb hX hbl hbA hS (kx_in 5 6 rfl ⟨(Nat.le_of_ble_eq_true rfl), (Nat.le_of_ble_eq_true rfl)⟩ (Nat.le_of_ble_eq_true rfl)) dL_law_383 ?_
    refine lv_topi (fun v_24 ev_24 => ?_)
    obtain rfl : v_11 = v_24 := ev_11.trans ev_24.symm
    have hPc := hP.sub (ws' := [(mm, .inr (10, [.ref mz1, .ref mz2, .ref mz3, .ref mz4, .ref mz5, .ref mz6, .ref mz7, .ref mz8, .ref mz9, .ref mz10, .ref mz11, .ref mz12, .ref mz13, .int 0, .int 0, .int 0, .int 1, .int 0])), (mz1, .inl (cy 0, 8, .inl (fun _ => 0))), (mz2, .inl (cy 1, 8, .inl (fun _ => 0))), (mz3, .inl (cy 1, 8, .inl (fun _ => 0))), (mz4, .inl (cy 1, 8, .inl (fun _ => 0))), (mz5, .inl (cy 1, 8, .inl (fun _ => 0)))]) [17, 18, 19, 20, 21, 22] rfl
    have hDc := hD.sub (ws' := [(mm, .inr (10, [.ref mz1, .ref mz2, .ref mz3, .ref mz4, .ref mz5, .ref mz6, .ref mz7, .ref mz8, .ref mz9, .ref mz10, .ref mz11, .ref mz12, .ref mz13, .int 0, .int 0, .int 0, .int 1, .int 0])), (mz1, .inl (cy 0, 8, .inl (fun _ => 0))), (mz2, .inl (cy 1, 8, .inl (fun _ => 0))), (mz3, .inl (cy 1, 8, .inl (fun _ => 0))), (mz4, .inl (cy 1, 8, .inl (fun _ => 0))), (mz5, .inl (cy 1, 8, .inl (fun _ => 0)))]) [17, 18, 19, 20, 21, 22] (by decide) rfl
    have hFc := va_free (wc := [(mm, .inr (10, [.ref mz1, .ref mz2, .ref mz3, .ref mz4, .ref mz5, .ref mz6, .ref mz7, .ref mz8, .ref mz9, .ref mz10, .ref mz11, .ref mz12, .ref mz13, .int 0, .int 0, .int 0, .int 1, .int 0])), (mz1, .inl (cy 0, 8, .inl (fun _ => 0))), (mz2, .inl (cy 1, 8, .inl (fun _ => 0))), (mz3, .inl (cy 1, 8, .inl (fun _ => 0))), (mz4, .inl (cy 1, 8, .inl (fun _ => 0))), (mz5, .inl (cy 1, 8, .inl (fun _ => 0)))]) hD hS hA [17, 18, 19, 20, 21, 22] rfl
    refine va_calli (va_runV (As := [.int v_2, .int v_4, .int v_7, .int v_9, .int v_11]) (rest := []) ⟨hx, hb, hml, hown, hts⟩ (k_X8_addRoad l D cy mm v_2 v_4 v_7 v_9 v_11 mz1 mz2 mz3 mz4 mz5 (.ref mz6) (.ref mz7) (.ref mz8) (.ref mz9) (.ref mz10) (.ref mz11) (.ref mz12) (.ref mz13) (.int 0) (.int 0) (.int 1) (.int 0) (fun _ => 0) (fun _ => 0) (fun _ => 0) (fun _ => 0) (fun _ => 0) H.size) (cwV 5 hts gv_L_157_X8_addRoad rfl rfl rfl (by decide +kernel) ⟨(Nat.le_of_ble_eq_true rfl), (Nat.le_of_ble_eq_true rfl)⟩) ⟨kW_fb, va_recv hK hP (ci := 10) (q0 := 17) rfl rfl, (kW_go hPc hK hDc)⟩ rfl rfl hl.1 rfl (lv_room (Nat.le_of_ble_eq_true rfl)) dL_law_384 ⟨(Nat.le_of_ble_eq_true rfl), (Nat.le_of_ble_eq_true rfl)⟩) hS (fun q _ h => hFc q h) hFc (fun r9 u t H locs ht hvm hw hB hz1 hk1 hS => ?_)
    obtain ⟨y_25, y_26, u_27, u_28, u_29, u_30, u_31⟩ := u
    obtain ⟨hP1, hD1⟩ := hB
    rw [ht] at hP1
    try dsimp only at hw hP1 hD1
    obtain ⟨hP, hD⟩ := va_join (wr := [(xz2, .inr (5, [.ref xz9, .ref xz10, .int 0])), (xz4, .inr (8, [.ref xz11, .ref xz12, .ref xz13, .ref xz14, .ref xz15, .ref xz16, .ref xz17, .ref xz18, .ref xz19, .ref xz20, .ref xz21, .int 0, .int 0])), (xz5, .inr (4, [.ref xz22, .int 0, .ref xz23, .ref xz24, .ref xz25])), (xz6, .inr (3, [.long 0, .long 0])), (xz8, .inl (cy 6, 6, .inr (.inr (.inr (.inr xu28))))), (xz15, .inl (cy 1, 1000, .inl (fun _ => 0))), (xz16, .inl (cy 1, 1000, .inl (fun _ => 0))), (xz17, .inl (cy 1, 1000, .inl (fun _ => 0))), (xz18, .inl (cy 1, 1000, .inl (fun _ => 0))), (xz19, .inl (cy 1, 1000, .inl (fun _ => 0))), (xz20, .inl (cy 1, 1000, .inl (fun _ => 0))), (xz21, .inr (5, [.ref xz30, .ref xz31, .int 0])), (xz22, .inl (cy 1, 5, .inl (fun _ => 0))), (xz23, .inl (cy 1, 256, .inl (fun _ => 0))), (xz24, .inl (cy 1, 256, .inl (fun _ => 0))), (xz25, .inl (cy 1, 256, .inl (fun _ => 0))), (xz29, .inr (6, [.int 1, .int 0, .int 0, .int 0, .ref xz33, .ref xz34])), (mz6, .inl (cy 1, 8, .inl (fun _ => 0))), (mz7, .inl (cy 1, 6, .inl (fun _ => 0))), (mz8, .inl (cy 1, 6, .inl (fun _ => 0))), (mz9, .inl (cy 3, 6, .inl (fun _ => 0))), (mz11, .inl (cy 1, 6, .inl (fun _ => 0))), (mz13, .inl (cy 1, 6, .inl (upd (upd (upd (upd (upd (upd (fun _ => 0) 0 (-1)) 1 (-1)) 2 (-1)) 3 (-1)) 4 (-1)) 5 (-1)))), (outD, .inl (cy 4, 1, .inr (.inr (.inr (.inl (fun _ => 0)))))), (out, .inl (cy 2, 1, .inr (.inl u_12)))]) (w1 := [(mm, .inr (10, [.ref mz1, .ref mz2, .ref mz3, .ref mz4, .ref mz5, .ref mz6, .ref mz7, .ref mz8, .ref mz9, .ref mz10, .ref mz11, .ref mz12, .ref mz13, .int 0, .int y_25, .int 0, .int 1, .int y_26])), (mz1, .inl (cy 0, 8, .inl u_27)), (mz2, .inl (cy 1, 8, .inl u_28)), (mz3, .inl (cy 1, 8, .inl u_29)), (mz4, .inl (cy 1, 8, .inl u_30)), (mz5, .inl (cy 1, 8, .inl u_31))]) hP hD [17, 18, 19, 20, 21, 22] [0, 1, 2, 3, 4, 5, 6, 7, 8, 9, 10, 11, 12, 13, 14, 15, 16, 23, 24, 25, 26, 27, 28, 29, 30] rfl rfl (by decide) (by decide) hk1 hFc hP1 hD1
    have hP : va_P D vwCl [(xz2, .inr (5, [.ref xz9, .ref xz10, .int 0])), (xz4, .inr (8, [.ref xz11, .ref xz12, .ref xz13, .ref xz14, .ref xz15, .ref xz16, .ref xz17, .ref xz18, .ref xz19, .ref xz20, .ref xz21, .int 0, .int 0])), (xz5, .inr (4, [.ref xz22, .int 0, .ref xz23, .ref xz24, .ref xz25])), (xz6, .inr (3, [.long 0, .long 0])), (xz8, .inl (cy 6, 6, .inr (.inr (.inr (.inr xu28))))), (xz15, .inl (cy 1, 1000, .inl (fun _ => 0))), (xz16, .inl (cy 1, 1000, .inl (fun _ => 0))), (xz17, .inl (cy 1, 1000, .inl (fun _ => 0))), (xz18, .inl (cy 1, 1000, .inl (fun _ => 0))), (xz19, .inl (cy 1, 1000, .inl (fun _ => 0))), (xz20, .inl (cy 1, 1000, .inl (fun _ => 0))), (xz21, .inr (5, [.ref xz30, .ref xz31, .int 0])), (xz22, .inl (cy 1, 5, .inl (fun _ => 0))), (xz23, .inl (cy 1, 256, .inl (fun _ => 0))), (xz24, .inl (cy 1, 256, .inl (fun _ => 0))), (xz25, .inl (cy 1, 256, .inl (fun _ => 0))), (xz29, .inr (6, [.int 1, .int 0, .int 0, .int 0, .ref xz33, .ref xz34])), (mz6, .inl (cy 1, 8, .inl (fun _ => 0))), (mz7, .inl (cy 1, 6, .inl (fun _ => 0))), (mz8, .inl (cy 1, 6, .inl (fun _ => 0))), (mz9, .inl (cy 3, 6, .inl (fun _ => 0))), (mz11, .inl (cy 1, 6, .inl (fun _ => 0))), (mz13, .inl (cy 1, 6, .inl (upd (upd (upd (upd (upd (upd (fun _ => 0) 0 (-1)) 1 (-1)) 2 (-1)) 3 (-1)) 4 (-1)) 5 (-1)))), (outD, .inl (cy 4, 1, .inr (.inr (.inr (.inl (fun _ => 0)))))), (out, .inl (cy 2, 1, .inr (.inl u_12))), (mm, .inr (10, [.ref mz1, .ref mz2, .ref mz3, .ref mz4, .ref mz5, .ref mz6, .ref mz7, .ref mz8, .ref mz9, .ref mz10, .ref mz11, .ref mz12, .ref mz13, .int 0, .int y_25, .int 0, .int 1, .int y_26])), (mz1, .inl (cy 0, 8, .inl u_27)), (mz2, .inl (cy 1, 8, .inl u_28)), (mz3, .inl (cy 1, 8, .inl u_29)), (mz4, .inl (cy 1, 8, .inl u_30)), (mz5, .inl (cy 1, 8, .inl u_31))] H := hP
    have hD : va_D A [(xz2, .inr (5, [.ref xz9, .ref xz10, .int 0])), (xz4, .inr (8, [.ref xz11, .ref xz12, .ref xz13, .ref xz14, .ref xz15, .ref xz16, .ref xz17, .ref xz18, .ref xz19, .ref xz20, .ref xz21, .int 0, .int 0])), (xz5, .inr (4, [.ref xz22, .int 0, .ref xz23, .ref xz24, .ref xz25])), (xz6, .inr (3, [.long 0, .long 0])), (xz8, .inl (cy 6, 6, .inr (.inr (.inr (.inr xu28))))), (xz15, .inl (cy 1, 1000, .inl (fun _ => 0))), (xz16, .inl (cy 1, 1000, .inl (fun _ => 0))), (xz17, .inl (cy 1, 1000, .inl (fun _ => 0))), (xz18, .inl (cy 1, 1000, .inl (fun _ => 0))), (xz19, .inl (cy 1, 1000, .inl (fun _ => 0))), (xz20, .inl (cy 1, 1000, .inl (fun _ => 0))), (xz21, .inr (5, [.ref xz30, .ref xz31, .int 0])), (xz22, .inl (cy 1, 5, .inl (fun _ => 0))), (xz23, .inl (cy 1, 256, .inl (fun _ => 0))), (xz24, .inl (cy 1, 256, .inl (fun _ => 0))), (xz25, .inl (cy 1, 256, .inl (fun _ => 0))), (xz29, .inr (6, [.int 1, .int 0, .int 0, .int 0, .ref xz33, .ref xz34])), (mz6, .inl (cy 1, 8, .inl (fun _ => 0))), (mz7, .inl (cy 1, 6, .inl (fun _ => 0))), (mz8, .inl (cy 1, 6, .inl (fun _ => 0))), (mz9, .inl (cy 3, 6, .inl (fun _ => 0))), (mz11, .inl (cy 1, 6, .inl (fun _ => 0))), (mz13, .inl (cy 1, 6, .inl (upd (upd (upd (upd (upd (upd (fun _ => 0) 0 (-1)) 1 (-1)) 2 (-1)) 3 (-1)) 4 (-1)) 5 (-1)))), (outD, .inl (cy 4, 1, .inr (.inr (.inr (.inl (fun _ => 0)))))), (out, .inl (cy 2, 1, .inr (.inl u_12))), (mm, .inr (10, [.ref mz1, .ref mz2, .ref mz3, .ref mz4, .ref mz5, .ref mz6, .ref mz7, .ref mz8, .ref mz9, .ref mz10, .ref mz11, .ref mz12, .ref mz13, .int 0, .int y_25, .int 0, .int 1, .int y_26])), (mz1, .inl (cy 0, 8, .inl u_27)), (mz2, .inl (cy 1, 8, .inl u_28)), (mz3, .inl (cy 1, 8, .inl u_29)), (mz4, .inl (cy 1, 8, .inl u_30)), (mz5, .inl (cy 1, 8, .inl u_31))] := hD
    rcases hw with ⟨rfl, hw⟩ | ⟨rfl, hw⟩
    · obtain ⟨rfl, hw⟩ := hw
      obtain ⟨rfl, hw⟩ := hw
      have f_32 : (¬ ((((0 : Int) ≤ v_2.toInt ∧ v_2.toInt ≤ (5 : Int)) ∧ ((0 : Int) ≤ v_4.toInt ∧ v_4.toInt ≤ (5 : Int)) ∧ v_2.toInt ≠ v_4.toInt)) ∨ ((((0 : Int) ≤ v_2.toInt ∧ v_2.toInt ≤ (5 : Int)) ∧ ((0 : Int) ≤ v_4.toInt ∧ v_4.toInt ≤ (5 : Int)) ∧ v_2.toInt ≠ v_4.toInt) ∧ ¬ (((v_7.toInt = (99 : Int) ∨ v_7.toInt = (108 : Int) ∨ v_7.toInt = (113 : Int) ∨ v_7.toInt = (115 : Int)) ∧ ((0 : Int) ≤ v_9.toInt ∧ v_9.toInt ≤ (20 : Int)) ∧ ((0 : Int) ≤ v_11.toInt ∧ v_11.toInt ≤ (999 : Int)))))) := hw
      refine lv_istore (lv' := [(7, .int 0), (6, .int 1), (5, .int 0), (4, .ref outD), (3, .ref out), (2, .ref mm), (1, .ref x), (0, .ref b)]) hx hb dL_law_387 hl (by decide) rfl (fun ls hl => ?_)
      refine lv_aload_n hx hb dL_law_389 rfl (lv_at hl 5 rfl) ?_
      have hPc := hP.sub (ws' := [(mm, .inr (10, [.ref mz1, .ref mz2, .ref mz3, .ref mz4, .ref mz5, .ref mz6, .ref mz7, .ref mz8, .ref mz9, .ref mz10, .ref mz11, .ref mz12, .ref mz13, .int 0, .int 0, .int 0, .int 1, .int 1]))]) [25] rfl
      refine va_calli (va_runV (As := []) (rest := []) ⟨hx, hb, hml, hown, hts⟩ (k_X8_thrown l D cy mm (.ref mz1) (.ref mz2) (.ref mz3) (.ref mz4) (.ref mz5) (.ref mz6) (.ref mz7) (.ref mz8) (.ref mz9) (.ref mz10) (.ref mz11) (.ref mz12) (.ref mz13) (.int 0) (.int 0) (.int 0) (.int 1)) (cwV 0 hts gv_L_151_X8_thrown rfl rfl rfl (by decide +kernel) ⟨(Nat.le_of_ble_eq_true rfl), (Nat.le_of_ble_eq_true rfl)⟩) ⟨kR_fb, va_recv hK hP (ci := 10) (q0 := 25) rfl rfl, (kR_go hPc hK)⟩ rfl rfl hl.1 rfl (lv_room (Nat.le_of_ble_eq_true rfl)) dL_law_390 ⟨(Nat.le_of_ble_eq_true rfl), (Nat.le_of_ble_eq_true rfl)⟩) hS (fun _ _ h => h.elim) (fun _ h => h.elim) (fun r9 u t H locs ht hvm hw hB hz1 hk1 hS => ?_)
      have hP := kx_kept hP hk1
      obtain ⟨rfl, hw⟩ := hw
      refine lv_iload hx hb dL_law_393 (lv_at hl 1 rfl) ?_
      refine lv_icmp_eq (tgt := 400) hx hb dL_law_395 (by decide) (fun _ => ?_) (fun h => absurd (by decide) h)
      refine lv_iload hx hb dL_law_400 (lv_at hl 1 rfl) ?_
      refine lv_if_ne (tgt := 417) hx hb dL_law_402 (by decide) (fun _ => ?_) (fun h => absurd h (by decide))
      refine lv_goto (tgt := 2608) hx hb dL_law_417 (by decide) ?_
      refine lv_iinc (v := 6) (lv' := [(5, .int 6), (7, .int 0), (6, .int 1), (4, .ref outD), (3, .ref out), (2, .ref mm), (1, .ref x), (0, .ref b)]) hx hb dL_law_2608 hl (k := 2) rfl (by decide) (by decide) rfl (fun ls hl => ?_)
      refine lv_goto (tgt := 28) hx hb dL_law_2611 (by decide) ?_
      refine lv_iload hx hb dL_law_28 (lv_at hl 0 rfl) ?_
      refine lv_aload_n hx hb dL_law_30 rfl (lv_at hl 7 rfl) ?_
      refine va_slen hx hb hX hbl hbA hS dL_law_31 ?_
      refine lv_topi (fun v_34 ev_34 => ?_)
      obtain rfl : v_34 = 6 := ev_34.trans (by decide)
      refine lv_bipush (v := 6) hx hb dL_law_32 (by decide) ?_
      refine lv_isub hx hb dL_law_34 ?_
      refine lv_topi (fun v_35 ev_35 => ?_)
      obtain rfl : v_35 = 0 := ev_35.trans (by decide)
      refine lv_icmp_gt (tgt := 2614) hx hb dL_law_35 (by decide) (fun _ => ?_) (fun h => absurd (by decide) h)
      exact hend _ _ _ _ _ hS (Nat.le_of_ble_eq_true rfl) (Nat.le_of_ble_eq_true rfl)
    · obtain ⟨rfl, hw⟩ := hw
      obtain ⟨rfl, hw⟩ := hw
      have f_36 : ((((0 : Int) ≤ v_2.toInt ∧ v_2.toInt ≤ (5 : Int)) ∧ ((0 : Int) ≤ v_4.toInt ∧ v_4.toInt ≤ (5 : Int)) ∧ v_2.toInt ≠ v_4.toInt) ∧ ((v_7.toInt = (99 : Int) ∨ v_7.toInt = (108 : Int) ∨ v_7.toInt = (113 : Int) ∨ v_7.toInt = (115 : Int)) ∧ ((0 : Int) ≤ v_9.toInt ∧ v_9.toInt ≤ (20 : Int)) ∧ ((0 : Int) ≤ v_11.toInt ∧ v_11.toInt ≤ (999 : Int)))) := hw
      omega
  · obtain ⟨kf_38, hw⟩ := hw
    have f_37 : ((((0 : Int) ≤ v_2.toInt ∧ v_2.toInt ≤ (5 : Int)) ∧ ((0 : Int) ≤ v_4.toInt ∧ v_4.toInt ≤ (5 : Int)) ∧ v_2.toInt ≠ v_4.toInt) ∧ ((v_7.toInt = (99 : Int) ∨ v_7.toInt = (108 : Int) ∨ v_7.toInt = (113 : Int) ∨ v_7.toInt = (115 : Int)) ∧ ((0 : Int) ≤ v_9.toInt ∧ v_9.toInt ≤ (20 : Int)) ∧ ((0 : Int) ≤ v_11.toInt ∧ v_11.toInt ≤ (999 : Int)))) := hw
    refine lv_istore (lv' := [(6, .int 0), (5, .int 0), (4, .ref outD), (3, .ref out), (2, .ref mm), (1, .ref x), (0, .ref b)]) hx hb dL_law_350 hl (by decide) rfl (fun ls hl => ?_)
    refine lv_aload_n hx hb dL_law_352 rfl (lv_at hl 4 rfl) ?_
    refine lv_aload_n hx hb dL_law_353 rfl (lv_at hl 6 rfl) ?_
    refine lv_iload hx hb dL_law_354 (lv_at hl 1 rfl) ?_
    refine lv_iconst (v := 1) hx hb dL_law_356 (by decide) ?_
    refine lv_iadd hx hb dL_law_357 ?_
    refine lv_topi (fun v_39 ev_39 => ?_)
    obtain rfl : v_39 = 1 := ev_39.trans (by decide)
    refine va_sld hx hb hX hbl hbA hS (kx_in 1 6 rfl ⟨(Nat.le_of_ble_eq_true rfl), (Nat.le_of_ble_eq_true rfl)⟩ (Nat.le_of_ble_eq_true rfl)) dL_law_358 ?_
    refine lv_topi (fun v_40 ev_40 => ?_)
    obtain rfl : v_2 = v_40 := ev_2.trans ev_40.symm
    refine lv_aload_n hx hb dL_law_359 rfl (lv_at hl 6 rfl) ?_
    refine lv_iload hx hb dL_law_360 (lv_at hl 1 rfl) ?_
    refine lv_iconst (v := 2) hx hb dL_law_362 (by decide) ?_
    refine lv_iadd hx hb dL_law_363 ?_
    refine lv_topi (fun v_41 ev_41 => ?_)
    obtain rfl : v_41 = 2 := ev_41.trans (by decide)
    refine va_sld hx hb hX hbl hbA hS (kx_in 2 6 rfl ⟨(Nat.le_of_ble_eq_true rfl), (Nat.le_of_ble_eq_true rfl)⟩ (Nat.le_of_ble_eq_true rfl)) dL_law_364 ?_
    refine lv_topi (fun v_42 ev_42 => ?_)
    obtain rfl : v_4 = v_42 := ev_4.trans ev_42.symm
    refine lv_aload_n hx hb dL_law_365 rfl (lv_at hl 6 rfl) ?_
    refine lv_iload hx hb dL_law_366 (lv_at hl 1 rfl) ?_
    refine lv_iconst (v := 3) hx hb dL_law_368 (by decide) ?_
    refine lv_iadd hx hb dL_law_369 ?_
    refine lv_topi (fun v_43 ev_43 => ?_)
    obtain rfl : v_43 = 3 := ev_43.trans (by decide)
    refine va_sld hx hb hX hbl hbA hS (kx_in 3 6 rfl ⟨(Nat.le_of_ble_eq_true rfl), (Nat.le_of_ble_eq_true rfl)⟩ (Nat.le_of_ble_eq_true rfl)) dL_law_370 ?_
    refine lv_topi (fun v_44 ev_44 => ?_)
    obtain rfl : v_6 = v_44 := ev_6.trans ev_44.symm
    refine lv_i2c hx hb dL_law_371 rfl ?_
    refine lv_topi (fun v_45 ev_45 => ?_)
    obtain rfl : v_7 = v_45 := ev_7.trans ev_45.symm
    refine lv_aload_n hx hb dL_law_372 rfl (lv_at hl 6 rfl) ?_
    refine lv_iload hx hb dL_law_373 (lv_at hl 1 rfl) ?_
    refine lv_iconst (v := 4) hx hb dL_law_375 (by decide) ?_
    refine lv_iadd hx hb dL_law_376 ?_
    refine lv_topi (fun v_46 ev_46 => ?_)
    obtain rfl : v_46 = 4 := ev_46.trans (by decide)
    refine va_sld hx hb hX hbl hbA hS (kx_in 4 6 rfl ⟨(Nat.le_of_ble_eq_true rfl), (Nat.le_of_ble_eq_true rfl)⟩ (Nat.le_of_ble_eq_true rfl)) dL_law_377 ?_
    refine lv_topi (fun v_47 ev_47 => ?_)
    obtain rfl : v_9 = v_47 := ev_9.trans ev_47.symm
    refine lv_aload_n hx hb dL_law_378 rfl (lv_at hl 6 rfl) ?_
    refine lv_iload hx hb dL_law_379 (lv_at hl 1 rfl) ?_
    refine lv_iconst (v := 5) hx hb dL_law_381 (by decide) ?_
    refine lv_iadd hx hb dL_law_382 ?_
    refine lv_topi (fun v_48 ev_48 => ?_)
    obtain rfl : v_48 = 5 := ev_48.trans (by decide)
    refine va_sld hx hb hX hbl hbA hS (kx_in 5 6 rfl ⟨(Nat.le_of_ble_eq_true rfl), (Nat.le_of_ble_eq_true rfl)⟩ (Nat.le_of_ble_eq_true rfl)) dL_law_383 ?_
    refine lv_topi (fun v_49 ev_49 => ?_)
    obtain rfl : v_11 = v_49 := ev_11.trans ev_49.symm
    have hPc := hP.sub (ws' := [(mm, .inr (10, [.ref mz1, .ref mz2, .ref mz3, .ref mz4, .ref mz5, .ref mz6, .ref mz7, .ref mz8, .ref mz9, .ref mz10, .ref mz11, .ref mz12, .ref mz13, .int 0, .int 0, .int 0, .int 1, .int 0])), (mz1, .inl (cy 0, 8, .inl (fun _ => 0))), (mz2, .inl (cy 1, 8, .inl (fun _ => 0))), (mz3, .inl (cy 1, 8, .inl (fun _ => 0))), (mz4, .inl (cy 1, 8, .inl (fun _ => 0))), (mz5, .inl (cy 1, 8, .inl (fun _ => 0)))]) [17, 18, 19, 20, 21, 22] rfl
    have hDc := hD.sub (ws' := [(mm, .inr (10, [.ref mz1, .ref mz2, .ref mz3, .ref mz4, .ref mz5, .ref mz6, .ref mz7, .ref mz8, .ref mz9, .ref mz10, .ref mz11, .ref mz12, .ref mz13, .int 0, .int 0, .int 0, .int 1, .int 0])), (mz1, .inl (cy 0, 8, .inl (fun _ => 0))), (mz2, .inl (cy 1, 8, .inl (fun _ => 0))), (mz3, .inl (cy 1, 8, .inl (fun _ => 0))), (mz4, .inl (cy 1, 8, .inl (fun _ => 0))), (mz5, .inl (cy 1, 8, .inl (fun _ => 0)))]) [17, 18, 19, 20, 21, 22] (by decide) rfl
    have hFc := va_free (wc := [(mm, .inr (10, [.ref mz1, .ref mz2, .ref mz3, .ref mz4, .ref mz5, .ref mz6, .ref mz7, .ref mz8, .ref mz9, .ref mz10, .ref mz11, .ref mz12, .ref mz13, .int 0, .int 0, .int 0, .int 1, .int 0])), (mz1, .inl (cy 0, 8, .inl (fun _ => 0))), (mz2, .inl (cy 1, 8, .inl (fun _ => 0))), (mz3, .inl (cy 1, 8, .inl (fun _ => 0))), (mz4, .inl (cy 1, 8, .inl (fun _ => 0))), (mz5, .inl (cy 1, 8, .inl (fun _ => 0)))]) hD hS hA [17, 18, 19, 20, 21, 22] rfl
    refine va_calli (va_runV (As := [.int v_2, .int v_4, .int v_7, .int v_9, .int v_11]) (rest := []) ⟨hx, hb, hml, hown, hts⟩ (k_X8_addRoad l D cy mm v_2 v_4 v_7 v_9 v_11 mz1 mz2 mz3 mz4 mz5 (.ref mz6) (.ref mz7) (.ref mz8) (.ref mz9) (.ref mz10) (.ref mz11) (.ref mz12) (.ref mz13) (.int 0) (.int 0) (.int 1) (.int 0) (fun _ => 0) (fun _ => 0) (fun _ => 0) (fun _ => 0) (fun _ => 0) H.size) (cwV 5 hts gv_L_157_X8_addRoad rfl rfl rfl (by decide +kernel) ⟨(Nat.le_of_ble_eq_true rfl), (Nat.le_of_ble_eq_true rfl)⟩) ⟨kW_fb, va_recv hK hP (ci := 10) (q0 := 17) rfl rfl, (kW_go hPc hK hDc)⟩ rfl rfl hl.1 rfl (lv_room (Nat.le_of_ble_eq_true rfl)) dL_law_384 ⟨(Nat.le_of_ble_eq_true rfl), (Nat.le_of_ble_eq_true rfl)⟩) hS (fun q _ h => hFc q h) hFc (fun r9 u t H locs ht hvm hw hB hz1 hk1 hS => ?_)
    obtain ⟨y_50, y_51, u_52, u_53, u_54, u_55, u_56⟩ := u
    obtain ⟨hP1, hD1⟩ := hB
    rw [ht] at hP1
    try dsimp only at hw hP1 hD1
    obtain ⟨hP, hD⟩ := va_join (wr := [(xz2, .inr (5, [.ref xz9, .ref xz10, .int 0])), (xz4, .inr (8, [.ref xz11, .ref xz12, .ref xz13, .ref xz14, .ref xz15, .ref xz16, .ref xz17, .ref xz18, .ref xz19, .ref xz20, .ref xz21, .int 0, .int 0])), (xz5, .inr (4, [.ref xz22, .int 0, .ref xz23, .ref xz24, .ref xz25])), (xz6, .inr (3, [.long 0, .long 0])), (xz8, .inl (cy 6, 6, .inr (.inr (.inr (.inr xu28))))), (xz15, .inl (cy 1, 1000, .inl (fun _ => 0))), (xz16, .inl (cy 1, 1000, .inl (fun _ => 0))), (xz17, .inl (cy 1, 1000, .inl (fun _ => 0))), (xz18, .inl (cy 1, 1000, .inl (fun _ => 0))), (xz19, .inl (cy 1, 1000, .inl (fun _ => 0))), (xz20, .inl (cy 1, 1000, .inl (fun _ => 0))), (xz21, .inr (5, [.ref xz30, .ref xz31, .int 0])), (xz22, .inl (cy 1, 5, .inl (fun _ => 0))), (xz23, .inl (cy 1, 256, .inl (fun _ => 0))), (xz24, .inl (cy 1, 256, .inl (fun _ => 0))), (xz25, .inl (cy 1, 256, .inl (fun _ => 0))), (xz29, .inr (6, [.int 1, .int 0, .int 0, .int 0, .ref xz33, .ref xz34])), (mz6, .inl (cy 1, 8, .inl (fun _ => 0))), (mz7, .inl (cy 1, 6, .inl (fun _ => 0))), (mz8, .inl (cy 1, 6, .inl (fun _ => 0))), (mz9, .inl (cy 3, 6, .inl (fun _ => 0))), (mz11, .inl (cy 1, 6, .inl (fun _ => 0))), (mz13, .inl (cy 1, 6, .inl (upd (upd (upd (upd (upd (upd (fun _ => 0) 0 (-1)) 1 (-1)) 2 (-1)) 3 (-1)) 4 (-1)) 5 (-1)))), (outD, .inl (cy 4, 1, .inr (.inr (.inr (.inl (fun _ => 0)))))), (out, .inl (cy 2, 1, .inr (.inl u_12)))]) (w1 := [(mm, .inr (10, [.ref mz1, .ref mz2, .ref mz3, .ref mz4, .ref mz5, .ref mz6, .ref mz7, .ref mz8, .ref mz9, .ref mz10, .ref mz11, .ref mz12, .ref mz13, .int 0, .int y_50, .int 0, .int 1, .int y_51])), (mz1, .inl (cy 0, 8, .inl u_52)), (mz2, .inl (cy 1, 8, .inl u_53)), (mz3, .inl (cy 1, 8, .inl u_54)), (mz4, .inl (cy 1, 8, .inl u_55)), (mz5, .inl (cy 1, 8, .inl u_56))]) hP hD [17, 18, 19, 20, 21, 22] [0, 1, 2, 3, 4, 5, 6, 7, 8, 9, 10, 11, 12, 13, 14, 15, 16, 23, 24, 25, 26, 27, 28, 29, 30] rfl rfl (by decide) (by decide) hk1 hFc hP1 hD1
    have hP : va_P D vwCl [(xz2, .inr (5, [.ref xz9, .ref xz10, .int 0])), (xz4, .inr (8, [.ref xz11, .ref xz12, .ref xz13, .ref xz14, .ref xz15, .ref xz16, .ref xz17, .ref xz18, .ref xz19, .ref xz20, .ref xz21, .int 0, .int 0])), (xz5, .inr (4, [.ref xz22, .int 0, .ref xz23, .ref xz24, .ref xz25])), (xz6, .inr (3, [.long 0, .long 0])), (xz8, .inl (cy 6, 6, .inr (.inr (.inr (.inr xu28))))), (xz15, .inl (cy 1, 1000, .inl (fun _ => 0))), (xz16, .inl (cy 1, 1000, .inl (fun _ => 0))), (xz17, .inl (cy 1, 1000, .inl (fun _ => 0))), (xz18, .inl (cy 1, 1000, .inl (fun _ => 0))), (xz19, .inl (cy 1, 1000, .inl (fun _ => 0))), (xz20, .inl (cy 1, 1000, .inl (fun _ => 0))), (xz21, .inr (5, [.ref xz30, .ref xz31, .int 0])), (xz22, .inl (cy 1, 5, .inl (fun _ => 0))), (xz23, .inl (cy 1, 256, .inl (fun _ => 0))), (xz24, .inl (cy 1, 256, .inl (fun _ => 0))), (xz25, .inl (cy 1, 256, .inl (fun _ => 0))), (xz29, .inr (6, [.int 1, .int 0, .int 0, .int 0, .ref xz33, .ref xz34])), (mz6, .inl (cy 1, 8, .inl (fun _ => 0))), (mz7, .inl (cy 1, 6, .inl (fun _ => 0))), (mz8, .inl (cy 1, 6, .inl (fun _ => 0))), (mz9, .inl (cy 3, 6, .inl (fun _ => 0))), (mz11, .inl (cy 1, 6, .inl (fun _ => 0))), (mz13, .inl (cy 1, 6, .inl (upd (upd (upd (upd (upd (upd (fun _ => 0) 0 (-1)) 1 (-1)) 2 (-1)) 3 (-1)) 4 (-1)) 5 (-1)))), (outD, .inl (cy 4, 1, .inr (.inr (.inr (.inl (fun _ => 0)))))), (out, .inl (cy 2, 1, .inr (.inl u_12))), (mm, .inr (10, [.ref mz1, .ref mz2, .ref mz3, .ref mz4, .ref mz5, .ref mz6, .ref mz7, .ref mz8, .ref mz9, .ref mz10, .ref mz11, .ref mz12, .ref mz13, .int 0, .int y_50, .int 0, .int 1, .int y_51])), (mz1, .inl (cy 0, 8, .inl u_52)), (mz2, .inl (cy 1, 8, .inl u_53)), (mz3, .inl (cy 1, 8, .inl u_54)), (mz4, .inl (cy 1, 8, .inl u_55)), (mz5, .inl (cy 1, 8, .inl u_56))] H := hP
    have hD : va_D A [(xz2, .inr (5, [.ref xz9, .ref xz10, .int 0])), (xz4, .inr (8, [.ref xz11, .ref xz12, .ref xz13, .ref xz14, .ref xz15, .ref xz16, .ref xz17, .ref xz18, .ref xz19, .ref xz20, .ref xz21, .int 0, .int 0])), (xz5, .inr (4, [.ref xz22, .int 0, .ref xz23, .ref xz24, .ref xz25])), (xz6, .inr (3, [.long 0, .long 0])), (xz8, .inl (cy 6, 6, .inr (.inr (.inr (.inr xu28))))), (xz15, .inl (cy 1, 1000, .inl (fun _ => 0))), (xz16, .inl (cy 1, 1000, .inl (fun _ => 0))), (xz17, .inl (cy 1, 1000, .inl (fun _ => 0))), (xz18, .inl (cy 1, 1000, .inl (fun _ => 0))), (xz19, .inl (cy 1, 1000, .inl (fun _ => 0))), (xz20, .inl (cy 1, 1000, .inl (fun _ => 0))), (xz21, .inr (5, [.ref xz30, .ref xz31, .int 0])), (xz22, .inl (cy 1, 5, .inl (fun _ => 0))), (xz23, .inl (cy 1, 256, .inl (fun _ => 0))), (xz24, .inl (cy 1, 256, .inl (fun _ => 0))), (xz25, .inl (cy 1, 256, .inl (fun _ => 0))), (xz29, .inr (6, [.int 1, .int 0, .int 0, .int 0, .ref xz33, .ref xz34])), (mz6, .inl (cy 1, 8, .inl (fun _ => 0))), (mz7, .inl (cy 1, 6, .inl (fun _ => 0))), (mz8, .inl (cy 1, 6, .inl (fun _ => 0))), (mz9, .inl (cy 3, 6, .inl (fun _ => 0))), (mz11, .inl (cy 1, 6, .inl (fun _ => 0))), (mz13, .inl (cy 1, 6, .inl (upd (upd (upd (upd (upd (upd (fun _ => 0) 0 (-1)) 1 (-1)) 2 (-1)) 3 (-1)) 4 (-1)) 5 (-1)))), (outD, .inl (cy 4, 1, .inr (.inr (.inr (.inl (fun _ => 0)))))), (out, .inl (cy 2, 1, .inr (.inl u_12))), (mm, .inr (10, [.ref mz1, .ref mz2, .ref mz3, .ref mz4, .ref mz5, .ref mz6, .ref mz7, .ref mz8, .ref mz9, .ref mz10, .ref mz11, .ref mz12, .ref mz13, .int 0, .int y_50, .int 0, .int 1, .int y_51])), (mz1, .inl (cy 0, 8, .inl u_52)), (mz2, .inl (cy 1, 8, .inl u_53)), (mz3, .inl (cy 1, 8, .inl u_54)), (mz4, .inl (cy 1, 8, .inl u_55)), (mz5, .inl (cy 1, 8, .inl u_56))] := hD
    rcases hw with ⟨rfl, hw⟩ | ⟨rfl, hw⟩
    · obtain ⟨rfl, hw⟩ := hw
      obtain ⟨rfl, hw⟩ := hw
      have f_57 : (¬ ((((0 : Int) ≤ v_2.toInt ∧ v_2.toInt ≤ (5 : Int)) ∧ ((0 : Int) ≤ v_4.toInt ∧ v_4.toInt ≤ (5 : Int)) ∧ v_2.toInt ≠ v_4.toInt)) ∨ ((((0 : Int) ≤ v_2.toInt ∧ v_2.toInt ≤ (5 : Int)) ∧ ((0 : Int) ≤ v_4.toInt ∧ v_4.toInt ≤ (5 : Int)) ∧ v_2.toInt ≠ v_4.toInt) ∧ ¬ (((v_7.toInt = (99 : Int) ∨ v_7.toInt = (108 : Int) ∨ v_7.toInt = (113 : Int) ∨ v_7.toInt = (115 : Int)) ∧ ((0 : Int) ≤ v_9.toInt ∧ v_9.toInt ≤ (20 : Int)) ∧ ((0 : Int) ≤ v_11.toInt ∧ v_11.toInt ≤ (999 : Int)))))) := hw
      omega
    · obtain ⟨rfl, hw⟩ := hw
      obtain ⟨rfl, hw⟩ := hw
      have f_58 : ((((0 : Int) ≤ v_2.toInt ∧ v_2.toInt ≤ (5 : Int)) ∧ ((0 : Int) ≤ v_4.toInt ∧ v_4.toInt ≤ (5 : Int)) ∧ v_2.toInt ≠ v_4.toInt) ∧ ((v_7.toInt = (99 : Int) ∨ v_7.toInt = (108 : Int) ∨ v_7.toInt = (113 : Int) ∨ v_7.toInt = (115 : Int)) ∧ ((0 : Int) ≤ v_9.toInt ∧ v_9.toInt ≤ (20 : Int)) ∧ ((0 : Int) ≤ v_11.toInt ∧ v_11.toInt ≤ (999 : Int)))) := hw
      refine lv_istore (lv' := [(7, .int 0), (6, .int 0), (5, .int 0), (4, .ref outD), (3, .ref out), (2, .ref mm), (1, .ref x), (0, .ref b)]) hx hb dL_law_387 hl (by decide) rfl (fun ls hl => ?_)
      refine lv_aload_n hx hb dL_law_389 rfl (lv_at hl 5 rfl) ?_
      have hPc := hP.sub (ws' := [(mm, .inr (10, [.ref mz1, .ref mz2, .ref mz3, .ref mz4, .ref mz5, .ref mz6, .ref mz7, .ref mz8, .ref mz9, .ref mz10, .ref mz11, .ref mz12, .ref mz13, .int 0, .int 1, .int 0, .int 1, .int 0]))]) [25] rfl
      refine va_calli (va_runV (As := []) (rest := []) ⟨hx, hb, hml, hown, hts⟩ (k_X8_thrown_1 l D cy mm (.ref mz1) (.ref mz2) (.ref mz3) (.ref mz4) (.ref mz5) (.ref mz6) (.ref mz7) (.ref mz8) (.ref mz9) (.ref mz10) (.ref mz11) (.ref mz12) (.ref mz13) (.int 0) (.int 1) (.int 0) (.int 1)) (cwV 0 hts gv_L_151_X8_thrown rfl rfl rfl (by decide +kernel) ⟨(Nat.le_of_ble_eq_true rfl), (Nat.le_of_ble_eq_true rfl)⟩) ⟨kR_fb, va_recv hK hP (ci := 10) (q0 := 25) rfl rfl, (kR_go hPc hK)⟩ rfl rfl hl.1 rfl (lv_room (Nat.le_of_ble_eq_true rfl)) dL_law_390 ⟨(Nat.le_of_ble_eq_true rfl), (Nat.le_of_ble_eq_true rfl)⟩) hS (fun _ _ h => h.elim) (fun _ h => h.elim) (fun r9 u t H locs ht hvm hw hB hz1 hk1 hS => ?_)
      have hP := kx_kept hP hk1
      obtain ⟨rfl, hw⟩ := hw
      refine lv_iload hx hb dL_law_393 (lv_at hl 1 rfl) ?_
      refine lv_icmp_eq (tgt := 400) hx hb dL_law_395 (by decide) (fun _ => ?_) (fun h => absurd (by decide) h)
      refine lv_iload hx hb dL_law_400 (lv_at hl 1 rfl) ?_
      refine lv_if_ne (tgt := 417) hx hb dL_law_402 (by decide) (fun h => absurd (by decide) h) (fun _ => ?_)
      refine lv_aload_n hx hb dL_law_405 rfl (lv_at hl 4 rfl) ?_
      refine lv_iconst (v := 0) hx hb dL_law_406 (by decide) ?_
      refine va_lald hx hb hK hP 24 2 rfl rfl (kx_in 0 1 rfl ⟨(Nat.le_of_ble_eq_true rfl), (Nat.le_of_ble_eq_true rfl)⟩ (Nat.le_of_ble_eq_true rfl)) dL_law_407 ?_
      refine lv_topl (fun v_60 ev_60 => ?_)
      obtain rfl : v_60 = 0 := ev_60.trans (kf_38)
      refine lv_iload hx hb dL_law_408 (lv_at hl 0 rfl) ?_
      refine lv_i2l (v := 0) hx hb dL_law_410 (by decide) ?_
      refine W.lcmp hx hb dL_law_411 ?_
      refine lv_topi (fun v_61 ev_61 => ?_)
      obtain rfl : v_61 = 0 := ev_61.trans (by decide)
      refine lv_if_eq (tgt := 417) hx hb dL_law_412 (by decide) (fun _ => ?_) (fun h => absurd (by decide) h)
      refine lv_goto (tgt := 2608) hx hb dL_law_417 (by decide) ?_
      refine lv_iinc (v := 6) (lv' := [(5, .int 6), (7, .int 0), (6, .int 0), (4, .ref outD), (3, .ref out), (2, .ref mm), (1, .ref x), (0, .ref b)]) hx hb dL_law_2608 hl (k := 2) rfl (by decide) (by decide) rfl (fun ls hl => ?_)
      refine lv_goto (tgt := 28) hx hb dL_law_2611 (by decide) ?_
      refine lv_iload hx hb dL_law_28 (lv_at hl 0 rfl) ?_
      refine lv_aload_n hx hb dL_law_30 rfl (lv_at hl 7 rfl) ?_
      refine va_slen hx hb hX hbl hbA hS dL_law_31 ?_
      refine lv_topi (fun v_62 ev_62 => ?_)
      obtain rfl : v_62 = 6 := ev_62.trans (by decide)
      refine lv_bipush (v := 6) hx hb dL_law_32 (by decide) ?_
      refine lv_isub hx hb dL_law_34 ?_
      refine lv_topi (fun v_63 ev_63 => ?_)
      obtain rfl : v_63 = 0 := ev_63.trans (by decide)
      refine lv_icmp_gt (tgt := 2614) hx hb dL_law_35 (by decide) (fun _ => ?_) (fun h => absurd (by decide) h)
      exact hend _ _ _ _ _ hS (Nat.le_of_ble_eq_true rfl) (Nat.le_of_ble_eq_true rfl)
theorem dL_law_420 : decode cL_law 420 = .ok (.aload_n 1, 1) := by decide +kernel
theorem dL_law_421 : decode cL_law 421 = .ok (.aload_n 0, 1) := by decide +kernel
theorem dL_law_422 : decode cL_law 422 = .ok (.iload 5, 2) := by decide +kernel
theorem dL_law_424 : decode cL_law 424 = .ok (.iconst 1, 1) := by decide +kernel
theorem dL_law_425 : decode cL_law 425 = .ok (.iadd, 1) := by decide +kernel
theorem dL_law_426 : decode cL_law 426 = .ok (.iaload, 1) := by decide +kernel
theorem dL_law_427 : decode cL_law 427 = .ok (.aload_n 0, 1) := by decide +kernel
theorem dL_law_428 : decode cL_law 428 = .ok (.iload 5, 2) := by decide +kernel
theorem dL_law_430 : decode cL_law 430 = .ok (.iconst 2, 1) := by decide +kernel
theorem dL_law_431 : decode cL_law 431 = .ok (.iadd, 1) := by decide +kernel
theorem dL_law_432 : decode cL_law 432 = .ok (.iaload, 1) := by decide +kernel
theorem dL_law_433 : decode cL_law 433 = .ok (.aload_n 3, 1) := by decide +kernel
theorem dL_law_434 : decode cL_law 434 = .ok (.invokestatic 158, 3) := by decide +kernel
theorem dL_law_437 : decode cL_law 437 = .ok (.istore 6, 2) := by decide +kernel
theorem dL_law_439 : decode cL_law 439 = .ok (.aload_n 2, 1) := by decide +kernel
theorem dL_law_440 : decode cL_law 440 = .ok (.aload_n 0, 1) := by decide +kernel
theorem dL_law_441 : decode cL_law 441 = .ok (.iload 5, 2) := by decide +kernel
theorem dL_law_443 : decode cL_law 443 = .ok (.iconst 1, 1) := by decide +kernel
theorem dL_law_444 : decode cL_law 444 = .ok (.iadd, 1) := by decide +kernel
theorem dL_law_445 : decode cL_law 445 = .ok (.iaload, 1) := by decide +kernel
theorem dL_law_446 : decode cL_law 446 = .ok (.aload_n 0, 1) := by decide +kernel
theorem dL_law_447 : decode cL_law 447 = .ok (.iload 5, 2) := by decide +kernel
theorem dL_law_449 : decode cL_law 449 = .ok (.iconst 2, 1) := by decide +kernel
theorem dL_law_450 : decode cL_law 450 = .ok (.iadd, 1) := by decide +kernel
theorem dL_law_451 : decode cL_law 451 = .ok (.iaload, 1) := by decide +kernel
theorem dL_law_452 : decode cL_law 452 = .ok (.invokevirtual 161, 3) := by decide +kernel
theorem dL_law_455 : decode cL_law 455 = .ok (.istore 7, 2) := by decide +kernel
theorem dL_law_457 : decode cL_law 457 = .ok (.aload_n 2, 1) := by decide +kernel
theorem dL_law_458 : decode cL_law 458 = .ok (.invokevirtual 151, 3) := by decide +kernel
theorem dL_law_461 : decode cL_law 461 = .ok (.iload 6, 2) := by decide +kernel
theorem dL_law_463 : decode cL_law 463 = .ok (.if_icmp .eq 5, 3) := by decide +kernel
theorem dL_law_468 : decode cL_law 468 = .ok (.iload 6, 2) := by decide +kernel
theorem dL_law_470 : decode cL_law 470 = .ok (.ifCond .ne 15, 3) := by decide +kernel
theorem dL_law_485 : decode cL_law 485 = .ok (.goto 2123, 3) := by decide +kernel
theorem dL_law_473 : decode cL_law 473 = .ok (.aload_n 3, 1) := by decide +kernel
theorem dL_law_474 : decode cL_law 474 = .ok (.iconst 0, 1) := by decide +kernel
theorem dL_law_475 : decode cL_law 475 = .ok (.laload, 1) := by decide +kernel
theorem dL_law_476 : decode cL_law 476 = .ok (.iload 7, 2) := by decide +kernel
theorem dL_law_478 : decode cL_law 478 = .ok (.i2l, 1) := by decide +kernel
theorem dL_law_479 : decode cL_law 479 = .ok (.lcmp, 1) := by decide +kernel
theorem dL_law_480 : decode cL_law 480 = .ok (.ifCond .eq 5, 3) := by decide +kernel
set_option maxHeartbeats 4000000 in
set_option maxRecDepth 100000 in
theorem lc_2 {p : Program} {e : Env} {s : State} {m : MethodId} {args : Array Value} {below : List Frame} {meth : Method} {c : Code} {Q : State → Prop} (l : Launch) (hl9 : l.stackTraces = false) (D : va_G) (cy : Nat → ClassId) (de : Nat) {b : Nat} {xs : Nat → Int32} {A : Nat → Prop} (hx : p.tables.exec = Jvm.exec) (hb : c.code = cL_law) (hml : c.maxLocals = 9) (hown : s.vm.findClass RL = some m.cls) (hts : ∀ w ∈ lw_tbl, w.before args s = true) (hX : va_X b 6 xs s s.heap) (hbl : b < s.heap.size) (hbA : ¬ A b) (hA : ∀ q : Nat, s.heap.size ≤ q → A q) (hE : exP A s) (hY : deP cy de A s s.heap) (hK : va_K D vwCl (tyG cy) s) (x : Nat) (xz1 : Nat) (xz2 : Nat) (xz3 : Nat) (xz4 : Nat) (xz5 : Nat) (xz6 : Nat) (xz7 : Nat) (xz8 : Nat) (xz9 : Nat) (xz10 : Nat) (xz11 : Nat) (xz12 : Nat) (xz13 : Nat) (xz14 : Nat) (xz15 : Nat) (xz16 : Nat) (xz17 : Nat) (xz18 : Nat) (xz19 : Nat) (xz20 : Nat) (xz21 : Nat) (xz22 : Nat) (xz23 : Nat) (xz24 : Nat) (xz25 : Nat) (xu26 : Nat → Option Nat) (xz27 : Nat) (xu28 : Nat → Option Nat) (xz29 : Nat) (xz30 : Nat) (xz31 : Nat) (xz32 : Nat) (xz33 : Nat) (xz34 : Nat) (mm : Nat) (mz1 : Nat) (mz2 : Nat) (mz3 : Nat) (mz4 : Nat) (mz5 : Nat) (mz6 : Nat) (mz7 : Nat) (mz8 : Nat) (mz9 : Nat) (mz10 : Nat) (mz11 : Nat) (mz12 : Nat) (mz13 : Nat) (out : Nat) (outD : Nat) (xku26_0 : xu26 0 = some xz27) (xku28_0 : xu28 0 = some xz29) {H : Heap} {locs : List Loc} (hP : va_P D vwCl [(x, .inr (9, [.ref xz1, .ref xz2, .ref xz3, .ref xz4, .ref xz5, .ref xz6, .int 1])), (xz1, .inr (2, [.ref xz7, .ref xz8, .int 0, .int 0])), (xz2, .inr (5, [.ref xz9, .ref xz10, .int 0])), (xz4, .inr (8, [.ref xz11, .ref xz12, .ref xz13, .ref xz14, .ref xz15, .ref xz16, .ref xz17, .ref xz18, .ref xz19, .ref xz20, .ref xz21, .int 0, .int 0])), (xz5, .inr (4, [.ref xz22, .int 0, .ref xz23, .ref xz24, .ref xz25])), (xz6, .inr (3, [.long 0, .long 0])), (xz7, .inl (cy 5, 8, .inr (.inr (.inr (.inr xu26))))), (xz8, .inl (cy 6, 6, .inr (.inr (.inr (.inr xu28))))), (xz15, .inl (cy 1, 1000, .inl (fun _ => 0))), (xz16, .inl (cy 1, 1000, .inl (fun _ => 0))), (xz17, .inl (cy 1, 1000, .inl (fun _ => 0))), (xz18, .inl (cy 1, 1000, .inl (fun _ => 0))), (xz19, .inl (cy 1, 1000, .inl (fun _ => 0))), (xz20, .inl (cy 1, 1000, .inl (fun _ => 0))), (xz21, .inr (5, [.ref xz30, .ref xz31, .int 0])), (xz22, .inl (cy 1, 5, .inl (fun _ => 0))), (xz23, .inl (cy 1, 256, .inl (fun _ => 0))), (xz24, .inl (cy 1, 256, .inl (fun _ => 0))), (xz25, .inl (cy 1, 256, .inl (fun _ => 0))), (xz27, .inr (7, [.int 0, .int 0, .int 99, .int (-1), .int (-1), .int 0, .ref xz32])), (xz29, .inr (6, [.int 1, .int 0, .int 0, .int 0, .ref xz33, .ref xz34])), (xz32, .inl (cy 1, 19, .inl (fun _ => 0))), (mm, .inr (10, [.ref mz1, .ref mz2, .ref mz3, .ref mz4, .ref mz5, .ref mz6, .ref mz7, .ref mz8, .ref mz9, .ref mz10, .ref mz11, .ref mz12, .ref mz13, .int 0, .int 0, .int 0, .int 1, .int 0])), (mz1, .inl (cy 0, 8, .inl (fun _ => 0))), (mz2, .inl (cy 1, 8, .inl (fun _ => 0))), (mz3, .inl (cy 1, 8, .inl (fun _ => 0))), (mz4, .inl (cy 1, 8, .inl (fun _ => 0))), (mz5, .inl (cy 1, 8, .inl (fun _ => 0))), (mz6, .inl (cy 1, 8, .inl (fun _ => 0))), (mz7, .inl (cy 1, 6, .inl (fun _ => 0))), (mz8, .inl (cy 1, 6, .inl (fun _ => 0))), (mz9, .inl (cy 3, 6, .inl (fun _ => 0))), (mz11, .inl (cy 1, 6, .inl (fun _ => 0))), (mz13, .inl (cy 1, 6, .inl (upd (upd (upd (upd (upd (upd (fun _ => 0) 0 (-1)) 1 (-1)) 2 (-1)) 3 (-1)) 4 (-1)) 5 (-1)))), (out, .inl (cy 2, 1, .inr (.inl (fun _ => 0)))), (outD, .inl (cy 4, 1, .inr (.inr (.inr (.inl (fun _ => 0))))))] H) (hD : va_D A [(x, .inr (9, [.ref xz1, .ref xz2, .ref xz3, .ref xz4, .ref xz5, .ref xz6, .int 1])), (xz1, .inr (2, [.ref xz7, .ref xz8, .int 0, .int 0])), (xz2, .inr (5, [.ref xz9, .ref xz10, .int 0])), (xz4, .inr (8, [.ref xz11, .ref xz12, .ref xz13, .ref xz14, .ref xz15, .ref xz16, .ref xz17, .ref xz18, .ref xz19, .ref xz20, .ref xz21, .int 0, .int 0])), (xz5, .inr (4, [.ref xz22, .int 0, .ref xz23, .ref xz24, .ref xz25])), (xz6, .inr (3, [.long 0, .long 0])), (xz7, .inl (cy 5, 8, .inr (.inr (.inr (.inr xu26))))), (xz8, .inl (cy 6, 6, .inr (.inr (.inr (.inr xu28))))), (xz15, .inl (cy 1, 1000, .inl (fun _ => 0))), (xz16, .inl (cy 1, 1000, .inl (fun _ => 0))), (xz17, .inl (cy 1, 1000, .inl (fun _ => 0))), (xz18, .inl (cy 1, 1000, .inl (fun _ => 0))), (xz19, .inl (cy 1, 1000, .inl (fun _ => 0))), (xz20, .inl (cy 1, 1000, .inl (fun _ => 0))), (xz21, .inr (5, [.ref xz30, .ref xz31, .int 0])), (xz22, .inl (cy 1, 5, .inl (fun _ => 0))), (xz23, .inl (cy 1, 256, .inl (fun _ => 0))), (xz24, .inl (cy 1, 256, .inl (fun _ => 0))), (xz25, .inl (cy 1, 256, .inl (fun _ => 0))), (xz27, .inr (7, [.int 0, .int 0, .int 99, .int (-1), .int (-1), .int 0, .ref xz32])), (xz29, .inr (6, [.int 1, .int 0, .int 0, .int 0, .ref xz33, .ref xz34])), (xz32, .inl (cy 1, 19, .inl (fun _ => 0))), (mm, .inr (10, [.ref mz1, .ref mz2, .ref mz3, .ref mz4, .ref mz5, .ref mz6, .ref mz7, .ref mz8, .ref mz9, .ref mz10, .ref mz11, .ref mz12, .ref mz13, .int 0, .int 0, .int 0, .int 1, .int 0])), (mz1, .inl (cy 0, 8, .inl (fun _ => 0))), (mz2, .inl (cy 1, 8, .inl (fun _ => 0))), (mz3, .inl (cy 1, 8, .inl (fun _ => 0))), (mz4, .inl (cy 1, 8, .inl (fun _ => 0))), (mz5, .inl (cy 1, 8, .inl (fun _ => 0))), (mz6, .inl (cy 1, 8, .inl (fun _ => 0))), (mz7, .inl (cy 1, 6, .inl (fun _ => 0))), (mz8, .inl (cy 1, 6, .inl (fun _ => 0))), (mz9, .inl (cy 3, 6, .inl (fun _ => 0))), (mz11, .inl (cy 1, 6, .inl (fun _ => 0))), (mz13, .inl (cy 1, 6, .inl (upd (upd (upd (upd (upd (upd (fun _ => 0) 0 (-1)) 1 (-1)) 2 (-1)) 3 (-1)) 4 (-1)) 5 (-1)))), (out, .inl (cy 2, 1, .inr (.inl (fun _ => 0)))), (outD, .inl (cy 4, 1, .inr (.inr (.inr (.inl (fun _ => 0))))))]) (hS : va_S A s.heap H locs) {ls : Array Slot} (hl : lv_has ls 9 [(5, .int 0), (4, .ref outD), (3, .ref out), (2, .ref mm), (1, .ref x), (0, .ref b)]) (hend : ∀ (H : Heap) (locs : List Loc) (ls : Array Slot) (cells slots : Nat), va_S A s.heap H locs → cells ≤ 600006 → slots ≤ 7302032 → W p l e room_1 s m args below meth c H locs cells slots Q (F0 m 2614 ls [])) : W p l e room_1 s m args below meth c H locs 92 7500 Q (F0 m 420 ls []) := by
  refine lv_aload_n hx hb dL_law_420 rfl (lv_at hl 4 rfl) ?_
  refine lv_aload_n hx hb dL_law_421 rfl (lv_at hl 5 rfl) ?_
  refine lv_iload hx hb dL_law_422 (lv_at hl 0 rfl) ?_
  refine lv_iconst (v := 1) hx hb dL_law_424 (by decide) ?_
  refine lv_iadd hx hb dL_law_425 ?_
  refine lv_topi (fun v_1 ev_1 => ?_)
  obtain rfl : v_1 = 1 := ev_1.trans (by decide)
  refine va_sld hx hb hX hbl hbA hS (kx_in 1 6 rfl ⟨(Nat.le_of_ble_eq_true rfl), (Nat.le_of_ble_eq_true rfl)⟩ (Nat.le_of_ble_eq_true rfl)) dL_law_426 ?_
  refine lv_topi (fun v_2 ev_2 => ?_)
  refine lv_aload_n hx hb dL_law_427 rfl (lv_at hl 5 rfl) ?_
  refine lv_iload hx hb dL_law_428 (lv_at hl 0 rfl) ?_
  refine lv_iconst (v := 2) hx hb dL_law_430 (by decide) ?_
  refine lv_iadd hx hb dL_law_431 ?_
  refine lv_topi (fun v_3 ev_3 => ?_)
  obtain rfl : v_3 = 2 := ev_3.trans (by decide)
  refine va_sld hx hb hX hbl hbA hS (kx_in 2 6 rfl ⟨(Nat.le_of_ble_eq_true rfl), (Nat.le_of_ble_eq_true rfl)⟩ (Nat.le_of_ble_eq_true rfl)) dL_law_432 ?_
  refine lv_topi (fun v_4 ev_4 => ?_)
  refine lv_aload_n hx hb dL_law_433 rfl (lv_at hl 2 rfl) ?_
  have hPc := hP.sub (ws' := [(x, .inr (9, [.ref xz1, .ref xz2, .ref xz3, .ref xz4, .ref xz5, .ref xz6, .int 1])), (out, .inl (cy 2, 1, .inr (.inl (fun _ => 0)))), (xz1, .inr (2, [.ref xz7, .ref xz8, .int 0, .int 0])), (xz8, .inl (cy 6, 6, .inr (.inr (.inr (.inr xu28))))), (xz29, .inr (6, [.int 1, .int 0, .int 0, .int 0, .ref xz33, .ref xz34]))]) [0, 34, 1, 7, 20] rfl
  have hDc := hD.sub (ws' := [(x, .inr (9, [.ref xz1, .ref xz2, .ref xz3, .ref xz4, .ref xz5, .ref xz6, .int 1])), (out, .inl (cy 2, 1, .inr (.inl (fun _ => 0)))), (xz1, .inr (2, [.ref xz7, .ref xz8, .int 0, .int 0])), (xz8, .inl (cy 6, 6, .inr (.inr (.inr (.inr xu28))))), (xz29, .inr (6, [.int 1, .int 0, .int 0, .int 0, .ref xz33, .ref xz34]))]) [0, 34, 1, 7, 20] (by decide) rfl
  have hFc := va_free (wc := [(x, .inr (9, [.ref xz1, .ref xz2, .ref xz3, .ref xz4, .ref xz5, .ref xz6, .int 1])), (out, .inl (cy 2, 1, .inr (.inl (fun _ => 0)))), (xz1, .inr (2, [.ref xz7, .ref xz8, .int 0, .int 0])), (xz8, .inl (cy 6, 6, .inr (.inr (.inr (.inr xu28))))), (xz29, .inr (6, [.int 1, .int 0, .int 0, .int 0, .ref xz33, .ref xz34]))]) hD hS hA [0, 34, 1, 7, 20] rfl
  refine va_calli (vx_runSW (As := [.ref x, .int v_2, .int v_4, .ref out]) (rest := []) ⟨hx, hb, hml, hown, hts⟩ (k_L_addPlayer l hl9 D cy x v_2 v_4 out xz1 (.ref xz2) (.ref xz3) (.ref xz4) (.ref xz5) (.ref xz6) (.int 1) (fun _ => 0) (.ref xz7) xz8 (.int 0) xu28 xz29 (xku28_0) (.int 1) (.int 0) (.int 0) (.int 0) (.ref xz33) (.ref xz34) H.size) (vx_cwSW 4 hts gs_L_158_L_addPlayer rfl rfl rfl (by decide +kernel) ⟨(Nat.le_of_ble_eq_true rfl), (Nat.le_of_ble_eq_true rfl)⟩) ⟨kWX_fb, (kWX_go hPc hK hDc hFc hE hS)⟩ rfl rfl hl.1 rfl (lv_room (Nat.le_of_ble_eq_true rfl)) dL_law_434 ⟨(Nat.le_of_ble_eq_true rfl), (Nat.le_of_ble_eq_true rfl)⟩) hS (fun q _ h => hFc q h) hFc (fun r9 u t H locs ht hvm hw hB hz1 hk1 hS => ?_)
  obtain ⟨u_5, rfl⟩ : ∃ z, z = u := ⟨_, rfl⟩
  obtain ⟨hP1, hD1⟩ := hB
  rw [ht] at hP1
  try dsimp only at hw hP1 hD1
  obtain ⟨hP, hD⟩ := va_join (wr := [(xz2, .inr (5, [.ref xz9, .ref xz10, .int 0])), (xz4, .inr (8, [.ref xz11, .ref xz12, .ref xz13, .ref xz14, .ref xz15, .ref xz16, .ref xz17, .ref xz18, .ref xz19, .ref xz20, .ref xz21, .int 0, .int 0])), (xz5, .inr (4, [.ref xz22, .int 0, .ref xz23, .ref xz24, .ref xz25])), (xz6, .inr (3, [.long 0, .long 0])), (xz7, .inl (cy 5, 8, .inr (.inr (.inr (.inr xu26))))), (xz15, .inl (cy 1, 1000, .inl (fun _ => 0))), (xz16, .inl (cy 1, 1000, .inl (fun _ => 0))), (xz17, .inl (cy 1, 1000, .inl (fun _ => 0))), (xz18, .inl (cy 1, 1000, .inl (fun _ => 0))), (xz19, .inl (cy 1, 1000, .inl (fun _ => 0))), (xz20, .inl (cy 1, 1000, .inl (fun _ => 0))), (xz21, .inr (5, [.ref xz30, .ref xz31, .int 0])), (xz22, .inl (cy 1, 5, .inl (fun _ => 0))), (xz23, .inl (cy 1, 256, .inl (fun _ => 0))), (xz24, .inl (cy 1, 256, .inl (fun _ => 0))), (xz25, .inl (cy 1, 256, .inl (fun _ => 0))), (xz27, .inr (7, [.int 0, .int 0, .int 99, .int (-1), .int (-1), .int 0, .ref xz32])), (xz32, .inl (cy 1, 19, .inl (fun _ => 0))), (mm, .inr (10, [.ref mz1, .ref mz2, .ref mz3, .ref mz4, .ref mz5, .ref mz6, .ref mz7, .ref mz8, .ref mz9, .ref mz10, .ref mz11, .ref mz12, .ref mz13, .int 0, .int 0, .int 0, .int 1, .int 0])), (mz1, .inl (cy 0, 8, .inl (fun _ => 0))), (mz2, .inl (cy 1, 8, .inl (fun _ => 0))), (mz3, .inl (cy 1, 8, .inl (fun _ => 0))), (mz4, .inl (cy 1, 8, .inl (fun _ => 0))), (mz5, .inl (cy 1, 8, .inl (fun _ => 0))), (mz6, .inl (cy 1, 8, .inl (fun _ => 0))), (mz7, .inl (cy 1, 6, .inl (fun _ => 0))), (mz8, .inl (cy 1, 6, .inl (fun _ => 0))), (mz9, .inl (cy 3, 6, .inl (fun _ => 0))), (mz11, .inl (cy 1, 6, .inl (fun _ => 0))), (mz13, .inl (cy 1, 6, .inl (upd (upd (upd (upd (upd (upd (fun _ => 0) 0 (-1)) 1 (-1)) 2 (-1)) 3 (-1)) 4 (-1)) 5 (-1)))), (outD, .inl (cy 4, 1, .inr (.inr (.inr (.inl (fun _ => 0))))))]) (w1 := [(out, .inl (cy 2, 1, .inr (.inl u_5)))]) hP hD [0, 34, 1, 7, 20] [2, 3, 4, 5, 6, 8, 9, 10, 11, 12, 13, 14, 15, 16, 17, 18, 19, 21, 22, 23, 24, 25, 26, 27, 28, 29, 30, 31, 32, 33, 35] rfl rfl (by decide) (by decide) hk1 hFc hP1 hD1
  have hP : va_P D vwCl [(xz2, .inr (5, [.ref xz9, .ref xz10, .int 0])), (xz4, .inr (8, [.ref xz11, .ref xz12, .ref xz13, .ref xz14, .ref xz15, .ref xz16, .ref xz17, .ref xz18, .ref xz19, .ref xz20, .ref xz21, .int 0, .int 0])), (xz5, .inr (4, [.ref xz22, .int 0, .ref xz23, .ref xz24, .ref xz25])), (xz6, .inr (3, [.long 0, .long 0])), (xz7, .inl (cy 5, 8, .inr (.inr (.inr (.inr xu26))))), (xz15, .inl (cy 1, 1000, .inl (fun _ => 0))), (xz16, .inl (cy 1, 1000, .inl (fun _ => 0))), (xz17, .inl (cy 1, 1000, .inl (fun _ => 0))), (xz18, .inl (cy 1, 1000, .inl (fun _ => 0))), (xz19, .inl (cy 1, 1000, .inl (fun _ => 0))), (xz20, .inl (cy 1, 1000, .inl (fun _ => 0))), (xz21, .inr (5, [.ref xz30, .ref xz31, .int 0])), (xz22, .inl (cy 1, 5, .inl (fun _ => 0))), (xz23, .inl (cy 1, 256, .inl (fun _ => 0))), (xz24, .inl (cy 1, 256, .inl (fun _ => 0))), (xz25, .inl (cy 1, 256, .inl (fun _ => 0))), (xz27, .inr (7, [.int 0, .int 0, .int 99, .int (-1), .int (-1), .int 0, .ref xz32])), (xz32, .inl (cy 1, 19, .inl (fun _ => 0))), (mm, .inr (10, [.ref mz1, .ref mz2, .ref mz3, .ref mz4, .ref mz5, .ref mz6, .ref mz7, .ref mz8, .ref mz9, .ref mz10, .ref mz11, .ref mz12, .ref mz13, .int 0, .int 0, .int 0, .int 1, .int 0])), (mz1, .inl (cy 0, 8, .inl (fun _ => 0))), (mz2, .inl (cy 1, 8, .inl (fun _ => 0))), (mz3, .inl (cy 1, 8, .inl (fun _ => 0))), (mz4, .inl (cy 1, 8, .inl (fun _ => 0))), (mz5, .inl (cy 1, 8, .inl (fun _ => 0))), (mz6, .inl (cy 1, 8, .inl (fun _ => 0))), (mz7, .inl (cy 1, 6, .inl (fun _ => 0))), (mz8, .inl (cy 1, 6, .inl (fun _ => 0))), (mz9, .inl (cy 3, 6, .inl (fun _ => 0))), (mz11, .inl (cy 1, 6, .inl (fun _ => 0))), (mz13, .inl (cy 1, 6, .inl (upd (upd (upd (upd (upd (upd (fun _ => 0) 0 (-1)) 1 (-1)) 2 (-1)) 3 (-1)) 4 (-1)) 5 (-1)))), (outD, .inl (cy 4, 1, .inr (.inr (.inr (.inl (fun _ => 0)))))), (out, .inl (cy 2, 1, .inr (.inl u_5)))] H := hP
  have hD : va_D A [(xz2, .inr (5, [.ref xz9, .ref xz10, .int 0])), (xz4, .inr (8, [.ref xz11, .ref xz12, .ref xz13, .ref xz14, .ref xz15, .ref xz16, .ref xz17, .ref xz18, .ref xz19, .ref xz20, .ref xz21, .int 0, .int 0])), (xz5, .inr (4, [.ref xz22, .int 0, .ref xz23, .ref xz24, .ref xz25])), (xz6, .inr (3, [.long 0, .long 0])), (xz7, .inl (cy 5, 8, .inr (.inr (.inr (.inr xu26))))), (xz15, .inl (cy 1, 1000, .inl (fun _ => 0))), (xz16, .inl (cy 1, 1000, .inl (fun _ => 0))), (xz17, .inl (cy 1, 1000, .inl (fun _ => 0))), (xz18, .inl (cy 1, 1000, .inl (fun _ => 0))), (xz19, .inl (cy 1, 1000, .inl (fun _ => 0))), (xz20, .inl (cy 1, 1000, .inl (fun _ => 0))), (xz21, .inr (5, [.ref xz30, .ref xz31, .int 0])), (xz22, .inl (cy 1, 5, .inl (fun _ => 0))), (xz23, .inl (cy 1, 256, .inl (fun _ => 0))), (xz24, .inl (cy 1, 256, .inl (fun _ => 0))), (xz25, .inl (cy 1, 256, .inl (fun _ => 0))), (xz27, .inr (7, [.int 0, .int 0, .int 99, .int (-1), .int (-1), .int 0, .ref xz32])), (xz32, .inl (cy 1, 19, .inl (fun _ => 0))), (mm, .inr (10, [.ref mz1, .ref mz2, .ref mz3, .ref mz4, .ref mz5, .ref mz6, .ref mz7, .ref mz8, .ref mz9, .ref mz10, .ref mz11, .ref mz12, .ref mz13, .int 0, .int 0, .int 0, .int 1, .int 0])), (mz1, .inl (cy 0, 8, .inl (fun _ => 0))), (mz2, .inl (cy 1, 8, .inl (fun _ => 0))), (mz3, .inl (cy 1, 8, .inl (fun _ => 0))), (mz4, .inl (cy 1, 8, .inl (fun _ => 0))), (mz5, .inl (cy 1, 8, .inl (fun _ => 0))), (mz6, .inl (cy 1, 8, .inl (fun _ => 0))), (mz7, .inl (cy 1, 6, .inl (fun _ => 0))), (mz8, .inl (cy 1, 6, .inl (fun _ => 0))), (mz9, .inl (cy 3, 6, .inl (fun _ => 0))), (mz11, .inl (cy 1, 6, .inl (fun _ => 0))), (mz13, .inl (cy 1, 6, .inl (upd (upd (upd (upd (upd (upd (fun _ => 0) 0 (-1)) 1 (-1)) 2 (-1)) 3 (-1)) 4 (-1)) 5 (-1)))), (outD, .inl (cy 4, 1, .inr (.inr (.inr (.inl (fun _ => 0)))))), (out, .inl (cy 2, 1, .inr (.inl u_5)))] := hD
  refine W.widen (k := 94) (n := 7512) (Nat.le_of_ble_eq_true rfl) (Nat.le_of_ble_eq_true rfl) ?_
  rcases hw with ⟨rfl, hw⟩ | ⟨rfl, hw⟩
  · have f_6 : ¬ ((((1 : Int) ≤ v_2.toInt ∧ v_2.toInt ≤ (3 : Int)) ∧ ((0 : Int) ≤ v_4.toInt ∧ v_4.toInt ≤ (9 : Int)))) := hw
    refine lv_istore (lv' := [(6, .int 1), (5, .int 0), (4, .ref outD), (3, .ref out), (2, .ref mm), (1, .ref x), (0, .ref b)]) hx hb dL_law_437 hl (by decide) rfl (fun ls hl => ?_)
    refine lv_aload_n hx hb dL_law_439 rfl (lv_at hl 4 rfl) ?_
    refine lv_aload_n hx hb dL_law_440 rfl (lv_at hl 6 rfl) ?_
    refine lv_iload hx hb dL_law_441 (lv_at hl 1 rfl) ?_
    refine lv_iconst (v := 1) hx hb dL_law_443 (by decide) ?_
    refine lv_iadd hx hb dL_law_444 ?_
    refine lv_topi (fun v_7 ev_7 => ?_)
    obtain rfl : v_7 = 1 := ev_7.trans (by decide)
    refine va_sld hx hb hX hbl hbA hS (kx_in 1 6 rfl ⟨(Nat.le_of_ble_eq_true rfl), (Nat.le_of_ble_eq_true rfl)⟩ (Nat.le_of_ble_eq_true rfl)) dL_law_445 ?_
    refine lv_topi (fun v_8 ev_8 => ?_)
    obtain rfl : v_2 = v_8 := ev_2.trans ev_8.symm
    refine lv_aload_n hx hb dL_law_446 rfl (lv_at hl 6 rfl) ?_
    refine lv_iload hx hb dL_law_447 (lv_at hl 1 rfl) ?_
    refine lv_iconst (v := 2) hx hb dL_law_449 (by decide) ?_
    refine lv_iadd hx hb dL_law_450 ?_
    refine lv_topi (fun v_9 ev_9 => ?_)
    obtain rfl : v_9 = 2 := ev_9.trans (by decide)
    refine va_sld hx hb hX hbl hbA hS (kx_in 2 6 rfl ⟨(Nat.le_of_ble_eq_true rfl), (Nat.le_of_ble_eq_true rfl)⟩ (Nat.le_of_ble_eq_true rfl)) dL_law_451 ?_
    refine lv_topi (fun v_10 ev_10 => ?_)
    obtain rfl : v_4 = v_10 := ev_4.trans ev_10.symm
    have hPc := hP.sub (ws' := [(mm, .inr (10, [.ref mz1, .ref mz2, .ref mz3, .ref mz4, .ref mz5, .ref mz6, .ref mz7, .ref mz8, .ref mz9, .ref mz10, .ref mz11, .ref mz12, .ref mz13, .int 0, .int 0, .int 0, .int 1, .int 0])), (mz7, .inl (cy 1, 6, .inl (fun _ => 0))), (mz8, .inl (cy 1, 6, .inl (fun _ => 0)))]) [18, 25, 26] rfl
    have hDc := hD.sub (ws' := [(mm, .inr (10, [.ref mz1, .ref mz2, .ref mz3, .ref mz4, .ref mz5, .ref mz6, .ref mz7, .ref mz8, .ref mz9, .ref mz10, .ref mz11, .ref mz12, .ref mz13, .int 0, .int 0, .int 0, .int 1, .int 0])), (mz7, .inl (cy 1, 6, .inl (fun _ => 0))), (mz8, .inl (cy 1, 6, .inl (fun _ => 0)))]) [18, 25, 26] (by decide) rfl
    have hFc := va_free (wc := [(mm, .inr (10, [.ref mz1, .ref mz2, .ref mz3, .ref mz4, .ref mz5, .ref mz6, .ref mz7, .ref mz8, .ref mz9, .ref mz10, .ref mz11, .ref mz12, .ref mz13, .int 0, .int 0, .int 0, .int 1, .int 0])), (mz7, .inl (cy 1, 6, .inl (fun _ => 0))), (mz8, .inl (cy 1, 6, .inl (fun _ => 0)))]) hD hS hA [18, 25, 26] rfl
    refine va_calli (va_runV (As := [.int v_2, .int v_4]) (rest := []) ⟨hx, hb, hml, hown, hts⟩ (k_X8_addPlayer l D cy mm v_2 v_4 (.ref mz1) (.ref mz2) (.ref mz3) (.ref mz4) (.ref mz5) (.ref mz6) mz7 mz8 (.ref mz9) (.ref mz10) (.ref mz11) (.ref mz12) (.ref mz13) (.int 0) (.int 0) (.int 1) (.int 0) (fun _ => 0) (fun _ => 0) H.size) (cwV 2 hts gv_L_161_X8_addPlayer rfl rfl rfl (by decide +kernel) ⟨(Nat.le_of_ble_eq_true rfl), (Nat.le_of_ble_eq_true rfl)⟩) ⟨kW_fb, va_recv hK hP (ci := 10) (q0 := 18) rfl rfl, (kW_go hPc hK hDc)⟩ rfl rfl hl.1 rfl (lv_room (Nat.le_of_ble_eq_true rfl)) dL_law_452 ⟨(Nat.le_of_ble_eq_true rfl), (Nat.le_of_ble_eq_true rfl)⟩) hS (fun q _ h => hFc q h) hFc (fun r9 u t H locs ht hvm hw hB hz1 hk1 hS => ?_)
    obtain ⟨y_11, y_12, u_13, u_14⟩ := u
    obtain ⟨hP1, hD1⟩ := hB
    rw [ht] at hP1
    try dsimp only at hw hP1 hD1
    obtain ⟨hP, hD⟩ := va_join (wr := [(xz2, .inr (5, [.ref xz9, .ref xz10, .int 0])), (xz4, .inr (8, [.ref xz11, .ref xz12, .ref xz13, .ref xz14, .ref xz15, .ref xz16, .ref xz17, .ref xz18, .ref xz19, .ref xz20, .ref xz21, .int 0, .int 0])), (xz5, .inr (4, [.ref xz22, .int 0, .ref xz23, .ref xz24, .ref xz25])), (xz6, .inr (3, [.long 0, .long 0])), (xz7, .inl (cy 5, 8, .inr (.inr (.inr (.inr xu26))))), (xz15, .inl (cy 1, 1000, .inl (fun _ => 0))), (xz16, .inl (cy 1, 1000, .inl (fun _ => 0))), (xz17, .inl (cy 1, 1000, .inl (fun _ => 0))), (xz18, .inl (cy 1, 1000, .inl (fun _ => 0))), (xz19, .inl (cy 1, 1000, .inl (fun _ => 0))), (xz20, .inl (cy 1, 1000, .inl (fun _ => 0))), (xz21, .inr (5, [.ref xz30, .ref xz31, .int 0])), (xz22, .inl (cy 1, 5, .inl (fun _ => 0))), (xz23, .inl (cy 1, 256, .inl (fun _ => 0))), (xz24, .inl (cy 1, 256, .inl (fun _ => 0))), (xz25, .inl (cy 1, 256, .inl (fun _ => 0))), (xz27, .inr (7, [.int 0, .int 0, .int 99, .int (-1), .int (-1), .int 0, .ref xz32])), (xz32, .inl (cy 1, 19, .inl (fun _ => 0))), (mz1, .inl (cy 0, 8, .inl (fun _ => 0))), (mz2, .inl (cy 1, 8, .inl (fun _ => 0))), (mz3, .inl (cy 1, 8, .inl (fun _ => 0))), (mz4, .inl (cy 1, 8, .inl (fun _ => 0))), (mz5, .inl (cy 1, 8, .inl (fun _ => 0))), (mz6, .inl (cy 1, 8, .inl (fun _ => 0))), (mz9, .inl (cy 3, 6, .inl (fun _ => 0))), (mz11, .inl (cy 1, 6, .inl (fun _ => 0))), (mz13, .inl (cy 1, 6, .inl (upd (upd (upd (upd (upd (upd (fun _ => 0) 0 (-1)) 1 (-1)) 2 (-1)) 3 (-1)) 4 (-1)) 5 (-1)))), (outD, .inl (cy 4, 1, .inr (.inr (.inr (.inl (fun _ => 0)))))), (out, .inl (cy 2, 1, .inr (.inl u_5)))]) (w1 := [(mm, .inr (10, [.ref mz1, .ref mz2, .ref mz3, .ref mz4, .ref mz5, .ref mz6, .ref mz7, .ref mz8, .ref mz9, .ref mz10, .ref mz11, .ref mz12, .ref mz13, .int 0, .int 0, .int y_11, .int 1, .int y_12])), (mz7, .inl (cy 1, 6, .inl u_13)), (mz8, .inl (cy 1, 6, .inl u_14))]) hP hD [18, 25, 26] [0, 1, 2, 3, 4, 5, 6, 7, 8, 9, 10, 11, 12, 13, 14, 15, 16, 17, 19, 20, 21, 22, 23, 24, 27, 28, 29, 30, 31] rfl rfl (by decide) (by decide) hk1 hFc hP1 hD1
    have hP : va_P D vwCl [(xz2, .inr (5, [.ref xz9, .ref xz10, .int 0])), (xz4, .inr (8, [.ref xz11, .ref xz12, .ref xz13, .ref xz14, .ref xz15, .ref xz16, .ref xz17, .ref xz18, .ref xz19, .ref xz20, .ref xz21, .int 0, .int 0])), (xz5, .inr (4, [.ref xz22, .int 0, .ref xz23, .ref xz24, .ref xz25])), (xz6, .inr (3, [.long 0, .long 0])), (xz7, .inl (cy 5, 8, .inr (.inr (.inr (.inr xu26))))), (xz15, .inl (cy 1, 1000, .inl (fun _ => 0))), (xz16, .inl (cy 1, 1000, .inl (fun _ => 0))), (xz17, .inl (cy 1, 1000, .inl (fun _ => 0))), (xz18, .inl (cy 1, 1000, .inl (fun _ => 0))), (xz19, .inl (cy 1, 1000, .inl (fun _ => 0))), (xz20, .inl (cy 1, 1000, .inl (fun _ => 0))), (xz21, .inr (5, [.ref xz30, .ref xz31, .int 0])), (xz22, .inl (cy 1, 5, .inl (fun _ => 0))), (xz23, .inl (cy 1, 256, .inl (fun _ => 0))), (xz24, .inl (cy 1, 256, .inl (fun _ => 0))), (xz25, .inl (cy 1, 256, .inl (fun _ => 0))), (xz27, .inr (7, [.int 0, .int 0, .int 99, .int (-1), .int (-1), .int 0, .ref xz32])), (xz32, .inl (cy 1, 19, .inl (fun _ => 0))), (mz1, .inl (cy 0, 8, .inl (fun _ => 0))), (mz2, .inl (cy 1, 8, .inl (fun _ => 0))), (mz3, .inl (cy 1, 8, .inl (fun _ => 0))), (mz4, .inl (cy 1, 8, .inl (fun _ => 0))), (mz5, .inl (cy 1, 8, .inl (fun _ => 0))), (mz6, .inl (cy 1, 8, .inl (fun _ => 0))), (mz9, .inl (cy 3, 6, .inl (fun _ => 0))), (mz11, .inl (cy 1, 6, .inl (fun _ => 0))), (mz13, .inl (cy 1, 6, .inl (upd (upd (upd (upd (upd (upd (fun _ => 0) 0 (-1)) 1 (-1)) 2 (-1)) 3 (-1)) 4 (-1)) 5 (-1)))), (outD, .inl (cy 4, 1, .inr (.inr (.inr (.inl (fun _ => 0)))))), (out, .inl (cy 2, 1, .inr (.inl u_5))), (mm, .inr (10, [.ref mz1, .ref mz2, .ref mz3, .ref mz4, .ref mz5, .ref mz6, .ref mz7, .ref mz8, .ref mz9, .ref mz10, .ref mz11, .ref mz12, .ref mz13, .int 0, .int 0, .int y_11, .int 1, .int y_12])), (mz7, .inl (cy 1, 6, .inl u_13)), (mz8, .inl (cy 1, 6, .inl u_14))] H := hP
    have hD : va_D A [(xz2, .inr (5, [.ref xz9, .ref xz10, .int 0])), (xz4, .inr (8, [.ref xz11, .ref xz12, .ref xz13, .ref xz14, .ref xz15, .ref xz16, .ref xz17, .ref xz18, .ref xz19, .ref xz20, .ref xz21, .int 0, .int 0])), (xz5, .inr (4, [.ref xz22, .int 0, .ref xz23, .ref xz24, .ref xz25])), (xz6, .inr (3, [.long 0, .long 0])), (xz7, .inl (cy 5, 8, .inr (.inr (.inr (.inr xu26))))), (xz15, .inl (cy 1, 1000, .inl (fun _ => 0))), (xz16, .inl (cy 1, 1000, .inl (fun _ => 0))), (xz17, .inl (cy 1, 1000, .inl (fun _ => 0))), (xz18, .inl (cy 1, 1000, .inl (fun _ => 0))), (xz19, .inl (cy 1, 1000, .inl (fun _ => 0))), (xz20, .inl (cy 1, 1000, .inl (fun _ => 0))), (xz21, .inr (5, [.ref xz30, .ref xz31, .int 0])), (xz22, .inl (cy 1, 5, .inl (fun _ => 0))), (xz23, .inl (cy 1, 256, .inl (fun _ => 0))), (xz24, .inl (cy 1, 256, .inl (fun _ => 0))), (xz25, .inl (cy 1, 256, .inl (fun _ => 0))), (xz27, .inr (7, [.int 0, .int 0, .int 99, .int (-1), .int (-1), .int 0, .ref xz32])), (xz32, .inl (cy 1, 19, .inl (fun _ => 0))), (mz1, .inl (cy 0, 8, .inl (fun _ => 0))), (mz2, .inl (cy 1, 8, .inl (fun _ => 0))), (mz3, .inl (cy 1, 8, .inl (fun _ => 0))), (mz4, .inl (cy 1, 8, .inl (fun _ => 0))), (mz5, .inl (cy 1, 8, .inl (fun _ => 0))), (mz6, .inl (cy 1, 8, .inl (fun _ => 0))), (mz9, .inl (cy 3, 6, .inl (fun _ => 0))), (mz11, .inl (cy 1, 6, .inl (fun _ => 0))), (mz13, .inl (cy 1, 6, .inl (upd (upd (upd (upd (upd (upd (fun _ => 0) 0 (-1)) 1 (-1)) 2 (-1)) 3 (-1)) 4 (-1)) 5 (-1)))), (outD, .inl (cy 4, 1, .inr (.inr (.inr (.inl (fun _ => 0)))))), (out, .inl (cy 2, 1, .inr (.inl u_5))), (mm, .inr (10, [.ref mz1, .ref mz2, .ref mz3, .ref mz4, .ref mz5, .ref mz6, .ref mz7, .ref mz8, .ref mz9, .ref mz10, .ref mz11, .ref mz12, .ref mz13, .int 0, .int 0, .int y_11, .int 1, .int y_12])), (mz7, .inl (cy 1, 6, .inl u_13)), (mz8, .inl (cy 1, 6, .inl u_14))] := hD
    rcases hw with ⟨rfl, hw⟩ | ⟨rfl, hw⟩
    · obtain ⟨rfl, hw⟩ := hw
      obtain ⟨rfl, hw⟩ := hw
      have f_15 : ¬ ((((1 : Int) ≤ v_2.toInt ∧ v_2.toInt ≤ (3 : Int)) ∧ ((0 : Int) ≤ v_4.toInt ∧ v_4.toInt ≤ (9 : Int)))) := hw
      refine lv_istore (lv' := [(7, .int 0), (6, .int 1), (5, .int 0), (4, .ref outD), (3, .ref out), (2, .ref mm), (1, .ref x), (0, .ref b)]) hx hb dL_law_455 hl (by decide) rfl (fun ls hl => ?_)
      refine lv_aload_n hx hb dL_law_457 rfl (lv_at hl 5 rfl) ?_
      have hPc := hP.sub (ws' := [(mm, .inr (10, [.ref mz1, .ref mz2, .ref mz3, .ref mz4, .ref mz5, .ref mz6, .ref mz7, .ref mz8, .ref mz9, .ref mz10, .ref mz11, .ref mz12, .ref mz13, .int 0, .int 0, .int 0, .int 1, .int 1]))]) [29] rfl
      refine va_calli (va_runV (As := []) (rest := []) ⟨hx, hb, hml, hown, hts⟩ (k_X8_thrown l D cy mm (.ref mz1) (.ref mz2) (.ref mz3) (.ref mz4) (.ref mz5) (.ref mz6) (.ref mz7) (.ref mz8) (.ref mz9) (.ref mz10) (.ref mz11) (.ref mz12) (.ref mz13) (.int 0) (.int 0) (.int 0) (.int 1)) (cwV 0 hts gv_L_151_X8_thrown rfl rfl rfl (by decide +kernel) ⟨(Nat.le_of_ble_eq_true rfl), (Nat.le_of_ble_eq_true rfl)⟩) ⟨kR_fb, va_recv hK hP (ci := 10) (q0 := 29) rfl rfl, (kR_go hPc hK)⟩ rfl rfl hl.1 rfl (lv_room (Nat.le_of_ble_eq_true rfl)) dL_law_458 ⟨(Nat.le_of_ble_eq_true rfl), (Nat.le_of_ble_eq_true rfl)⟩) hS (fun _ _ h => h.elim) (fun _ h => h.elim) (fun r9 u t H locs ht hvm hw hB hz1 hk1 hS => ?_)
      have hP := kx_kept hP hk1
      obtain ⟨rfl, hw⟩ := hw
      refine lv_iload hx hb dL_law_461 (lv_at hl 1 rfl) ?_
      refine lv_icmp_eq (tgt := 468) hx hb dL_law_463 (by decide) (fun _ => ?_) (fun h => absurd (by decide) h)
      refine lv_iload hx hb dL_law_468 (lv_at hl 1 rfl) ?_
      refine lv_if_ne (tgt := 485) hx hb dL_law_470 (by decide) (fun _ => ?_) (fun h => absurd h (by decide))
      refine lv_goto (tgt := 2608) hx hb dL_law_485 (by decide) ?_
      refine lv_iinc (v := 6) (lv' := [(5, .int 6), (7, .int 0), (6, .int 1), (4, .ref outD), (3, .ref out), (2, .ref mm), (1, .ref x), (0, .ref b)]) hx hb dL_law_2608 hl (k := 2) rfl (by decide) (by decide) rfl (fun ls hl => ?_)
      refine lv_goto (tgt := 28) hx hb dL_law_2611 (by decide) ?_
      refine lv_iload hx hb dL_law_28 (lv_at hl 0 rfl) ?_
      refine lv_aload_n hx hb dL_law_30 rfl (lv_at hl 7 rfl) ?_
      refine va_slen hx hb hX hbl hbA hS dL_law_31 ?_
      refine lv_topi (fun v_17 ev_17 => ?_)
      obtain rfl : v_17 = 6 := ev_17.trans (by decide)
      refine lv_bipush (v := 6) hx hb dL_law_32 (by decide) ?_
      refine lv_isub hx hb dL_law_34 ?_
      refine lv_topi (fun v_18 ev_18 => ?_)
      obtain rfl : v_18 = 0 := ev_18.trans (by decide)
      refine lv_icmp_gt (tgt := 2614) hx hb dL_law_35 (by decide) (fun _ => ?_) (fun h => absurd (by decide) h)
      exact hend _ _ _ _ _ hS (Nat.le_of_ble_eq_true rfl) (Nat.le_of_ble_eq_true rfl)
    · obtain ⟨rfl, hw⟩ := hw
      obtain ⟨rfl, hw⟩ := hw
      have f_19 : (((1 : Int) ≤ v_2.toInt ∧ v_2.toInt ≤ (3 : Int)) ∧ ((0 : Int) ≤ v_4.toInt ∧ v_4.toInt ≤ (9 : Int))) := hw
      omega
  · obtain ⟨kf_21, hw⟩ := hw
    have f_20 : (((1 : Int) ≤ v_2.toInt ∧ v_2.toInt ≤ (3 : Int)) ∧ ((0 : Int) ≤ v_4.toInt ∧ v_4.toInt ≤ (9 : Int))) := hw
    refine lv_istore (lv' := [(6, .int 0), (5, .int 0), (4, .ref outD), (3, .ref out), (2, .ref mm), (1, .ref x), (0, .ref b)]) hx hb dL_law_437 hl (by decide) rfl (fun ls hl => ?_)
    refine lv_aload_n hx hb dL_law_439 rfl (lv_at hl 4 rfl) ?_
    refine lv_aload_n hx hb dL_law_440 rfl (lv_at hl 6 rfl) ?_
    refine lv_iload hx hb dL_law_441 (lv_at hl 1 rfl) ?_
    refine lv_iconst (v := 1) hx hb dL_law_443 (by decide) ?_
    refine lv_iadd hx hb dL_law_444 ?_
    refine lv_topi (fun v_22 ev_22 => ?_)
    obtain rfl : v_22 = 1 := ev_22.trans (by decide)
    refine va_sld hx hb hX hbl hbA hS (kx_in 1 6 rfl ⟨(Nat.le_of_ble_eq_true rfl), (Nat.le_of_ble_eq_true rfl)⟩ (Nat.le_of_ble_eq_true rfl)) dL_law_445 ?_
    refine lv_topi (fun v_23 ev_23 => ?_)
    obtain rfl : v_2 = v_23 := ev_2.trans ev_23.symm
    refine lv_aload_n hx hb dL_law_446 rfl (lv_at hl 6 rfl) ?_
    refine lv_iload hx hb dL_law_447 (lv_at hl 1 rfl) ?_
    refine lv_iconst (v := 2) hx hb dL_law_449 (by decide) ?_
    refine lv_iadd hx hb dL_law_450 ?_
    refine lv_topi (fun v_24 ev_24 => ?_)
    obtain rfl : v_24 = 2 := ev_24.trans (by decide)
    refine va_sld hx hb hX hbl hbA hS (kx_in 2 6 rfl ⟨(Nat.le_of_ble_eq_true rfl), (Nat.le_of_ble_eq_true rfl)⟩ (Nat.le_of_ble_eq_true rfl)) dL_law_451 ?_
    refine lv_topi (fun v_25 ev_25 => ?_)
    obtain rfl : v_4 = v_25 := ev_4.trans ev_25.symm
    have hPc := hP.sub (ws' := [(mm, .inr (10, [.ref mz1, .ref mz2, .ref mz3, .ref mz4, .ref mz5, .ref mz6, .ref mz7, .ref mz8, .ref mz9, .ref mz10, .ref mz11, .ref mz12, .ref mz13, .int 0, .int 0, .int 0, .int 1, .int 0])), (mz7, .inl (cy 1, 6, .inl (fun _ => 0))), (mz8, .inl (cy 1, 6, .inl (fun _ => 0)))]) [18, 25, 26] rfl
    have hDc := hD.sub (ws' := [(mm, .inr (10, [.ref mz1, .ref mz2, .ref mz3, .ref mz4, .ref mz5, .ref mz6, .ref mz7, .ref mz8, .ref mz9, .ref mz10, .ref mz11, .ref mz12, .ref mz13, .int 0, .int 0, .int 0, .int 1, .int 0])), (mz7, .inl (cy 1, 6, .inl (fun _ => 0))), (mz8, .inl (cy 1, 6, .inl (fun _ => 0)))]) [18, 25, 26] (by decide) rfl
    have hFc := va_free (wc := [(mm, .inr (10, [.ref mz1, .ref mz2, .ref mz3, .ref mz4, .ref mz5, .ref mz6, .ref mz7, .ref mz8, .ref mz9, .ref mz10, .ref mz11, .ref mz12, .ref mz13, .int 0, .int 0, .int 0, .int 1, .int 0])), (mz7, .inl (cy 1, 6, .inl (fun _ => 0))), (mz8, .inl (cy 1, 6, .inl (fun _ => 0)))]) hD hS hA [18, 25, 26] rfl
    refine va_calli (va_runV (As := [.int v_2, .int v_4]) (rest := []) ⟨hx, hb, hml, hown, hts⟩ (k_X8_addPlayer l D cy mm v_2 v_4 (.ref mz1) (.ref mz2) (.ref mz3) (.ref mz4) (.ref mz5) (.ref mz6) mz7 mz8 (.ref mz9) (.ref mz10) (.ref mz11) (.ref mz12) (.ref mz13) (.int 0) (.int 0) (.int 1) (.int 0) (fun _ => 0) (fun _ => 0) H.size) (cwV 2 hts gv_L_161_X8_addPlayer rfl rfl rfl (by decide +kernel) ⟨(Nat.le_of_ble_eq_true rfl), (Nat.le_of_ble_eq_true rfl)⟩) ⟨kW_fb, va_recv hK hP (ci := 10) (q0 := 18) rfl rfl, (kW_go hPc hK hDc)⟩ rfl rfl hl.1 rfl (lv_room (Nat.le_of_ble_eq_true rfl)) dL_law_452 ⟨(Nat.le_of_ble_eq_true rfl), (Nat.le_of_ble_eq_true rfl)⟩) hS (fun q _ h => hFc q h) hFc (fun r9 u t H locs ht hvm hw hB hz1 hk1 hS => ?_)
    obtain ⟨y_26, y_27, u_28, u_29⟩ := u
    obtain ⟨hP1, hD1⟩ := hB
    rw [ht] at hP1
    try dsimp only at hw hP1 hD1
    obtain ⟨hP, hD⟩ := va_join (wr := [(xz2, .inr (5, [.ref xz9, .ref xz10, .int 0])), (xz4, .inr (8, [.ref xz11, .ref xz12, .ref xz13, .ref xz14, .ref xz15, .ref xz16, .ref xz17, .ref xz18, .ref xz19, .ref xz20, .ref xz21, .int 0, .int 0])), (xz5, .inr (4, [.ref xz22, .int 0, .ref xz23, .ref xz24, .ref xz25])), (xz6, .inr (3, [.long 0, .long 0])), (xz7, .inl (cy 5, 8, .inr (.inr (.inr (.inr xu26))))), (xz15, .inl (cy 1, 1000, .inl (fun _ => 0))), (xz16, .inl (cy 1, 1000, .inl (fun _ => 0))), (xz17, .inl (cy 1, 1000, .inl (fun _ => 0))), (xz18, .inl (cy 1, 1000, .inl (fun _ => 0))), (xz19, .inl (cy 1, 1000, .inl (fun _ => 0))), (xz20, .inl (cy 1, 1000, .inl (fun _ => 0))), (xz21, .inr (5, [.ref xz30, .ref xz31, .int 0])), (xz22, .inl (cy 1, 5, .inl (fun _ => 0))), (xz23, .inl (cy 1, 256, .inl (fun _ => 0))), (xz24, .inl (cy 1, 256, .inl (fun _ => 0))), (xz25, .inl (cy 1, 256, .inl (fun _ => 0))), (xz27, .inr (7, [.int 0, .int 0, .int 99, .int (-1), .int (-1), .int 0, .ref xz32])), (xz32, .inl (cy 1, 19, .inl (fun _ => 0))), (mz1, .inl (cy 0, 8, .inl (fun _ => 0))), (mz2, .inl (cy 1, 8, .inl (fun _ => 0))), (mz3, .inl (cy 1, 8, .inl (fun _ => 0))), (mz4, .inl (cy 1, 8, .inl (fun _ => 0))), (mz5, .inl (cy 1, 8, .inl (fun _ => 0))), (mz6, .inl (cy 1, 8, .inl (fun _ => 0))), (mz9, .inl (cy 3, 6, .inl (fun _ => 0))), (mz11, .inl (cy 1, 6, .inl (fun _ => 0))), (mz13, .inl (cy 1, 6, .inl (upd (upd (upd (upd (upd (upd (fun _ => 0) 0 (-1)) 1 (-1)) 2 (-1)) 3 (-1)) 4 (-1)) 5 (-1)))), (outD, .inl (cy 4, 1, .inr (.inr (.inr (.inl (fun _ => 0)))))), (out, .inl (cy 2, 1, .inr (.inl u_5)))]) (w1 := [(mm, .inr (10, [.ref mz1, .ref mz2, .ref mz3, .ref mz4, .ref mz5, .ref mz6, .ref mz7, .ref mz8, .ref mz9, .ref mz10, .ref mz11, .ref mz12, .ref mz13, .int 0, .int 0, .int y_26, .int 1, .int y_27])), (mz7, .inl (cy 1, 6, .inl u_28)), (mz8, .inl (cy 1, 6, .inl u_29))]) hP hD [18, 25, 26] [0, 1, 2, 3, 4, 5, 6, 7, 8, 9, 10, 11, 12, 13, 14, 15, 16, 17, 19, 20, 21, 22, 23, 24, 27, 28, 29, 30, 31] rfl rfl (by decide) (by decide) hk1 hFc hP1 hD1
    have hP : va_P D vwCl [(xz2, .inr (5, [.ref xz9, .ref xz10, .int 0])), (xz4, .inr (8, [.ref xz11, .ref xz12, .ref xz13, .ref xz14, .ref xz15, .ref xz16, .ref xz17, .ref xz18, .ref xz19, .ref xz20, .ref xz21, .int 0, .int 0])), (xz5, .inr (4, [.ref xz22, .int 0, .ref xz23, .ref xz24, .ref xz25])), (xz6, .inr (3, [.long 0, .long 0])), (xz7, .inl (cy 5, 8, .inr (.inr (.inr (.inr xu26))))), (xz15, .inl (cy 1, 1000, .inl (fun _ => 0))), (xz16, .inl (cy 1, 1000, .inl (fun _ => 0))), (xz17, .inl (cy 1, 1000, .inl (fun _ => 0))), (xz18, .inl (cy 1, 1000, .inl (fun _ => 0))), (xz19, .inl (cy 1, 1000, .inl (fun _ => 0))), (xz20, .inl (cy 1, 1000, .inl (fun _ => 0))), (xz21, .inr (5, [.ref xz30, .ref xz31, .int 0])), (xz22, .inl (cy 1, 5, .inl (fun _ => 0))), (xz23, .inl (cy 1, 256, .inl (fun _ => 0))), (xz24, .inl (cy 1, 256, .inl (fun _ => 0))), (xz25, .inl (cy 1, 256, .inl (fun _ => 0))), (xz27, .inr (7, [.int 0, .int 0, .int 99, .int (-1), .int (-1), .int 0, .ref xz32])), (xz32, .inl (cy 1, 19, .inl (fun _ => 0))), (mz1, .inl (cy 0, 8, .inl (fun _ => 0))), (mz2, .inl (cy 1, 8, .inl (fun _ => 0))), (mz3, .inl (cy 1, 8, .inl (fun _ => 0))), (mz4, .inl (cy 1, 8, .inl (fun _ => 0))), (mz5, .inl (cy 1, 8, .inl (fun _ => 0))), (mz6, .inl (cy 1, 8, .inl (fun _ => 0))), (mz9, .inl (cy 3, 6, .inl (fun _ => 0))), (mz11, .inl (cy 1, 6, .inl (fun _ => 0))), (mz13, .inl (cy 1, 6, .inl (upd (upd (upd (upd (upd (upd (fun _ => 0) 0 (-1)) 1 (-1)) 2 (-1)) 3 (-1)) 4 (-1)) 5 (-1)))), (outD, .inl (cy 4, 1, .inr (.inr (.inr (.inl (fun _ => 0)))))), (out, .inl (cy 2, 1, .inr (.inl u_5))), (mm, .inr (10, [.ref mz1, .ref mz2, .ref mz3, .ref mz4, .ref mz5, .ref mz6, .ref mz7, .ref mz8, .ref mz9, .ref mz10, .ref mz11, .ref mz12, .ref mz13, .int 0, .int 0, .int y_26, .int 1, .int y_27])), (mz7, .inl (cy 1, 6, .inl u_28)), (mz8, .inl (cy 1, 6, .inl u_29))] H := hP
    have hD : va_D A [(xz2, .inr (5, [.ref xz9, .ref xz10, .int 0])), (xz4, .inr (8, [.ref xz11, .ref xz12, .ref xz13, .ref xz14, .ref xz15, .ref xz16, .ref xz17, .ref xz18, .ref xz19, .ref xz20, .ref xz21, .int 0, .int 0])), (xz5, .inr (4, [.ref xz22, .int 0, .ref xz23, .ref xz24, .ref xz25])), (xz6, .inr (3, [.long 0, .long 0])), (xz7, .inl (cy 5, 8, .inr (.inr (.inr (.inr xu26))))), (xz15, .inl (cy 1, 1000, .inl (fun _ => 0))), (xz16, .inl (cy 1, 1000, .inl (fun _ => 0))), (xz17, .inl (cy 1, 1000, .inl (fun _ => 0))), (xz18, .inl (cy 1, 1000, .inl (fun _ => 0))), (xz19, .inl (cy 1, 1000, .inl (fun _ => 0))), (xz20, .inl (cy 1, 1000, .inl (fun _ => 0))), (xz21, .inr (5, [.ref xz30, .ref xz31, .int 0])), (xz22, .inl (cy 1, 5, .inl (fun _ => 0))), (xz23, .inl (cy 1, 256, .inl (fun _ => 0))), (xz24, .inl (cy 1, 256, .inl (fun _ => 0))), (xz25, .inl (cy 1, 256, .inl (fun _ => 0))), (xz27, .inr (7, [.int 0, .int 0, .int 99, .int (-1), .int (-1), .int 0, .ref xz32])), (xz32, .inl (cy 1, 19, .inl (fun _ => 0))), (mz1, .inl (cy 0, 8, .inl (fun _ => 0))), (mz2, .inl (cy 1, 8, .inl (fun _ => 0))), (mz3, .inl (cy 1, 8, .inl (fun _ => 0))), (mz4, .inl (cy 1, 8, .inl (fun _ => 0))), (mz5, .inl (cy 1, 8, .inl (fun _ => 0))), (mz6, .inl (cy 1, 8, .inl (fun _ => 0))), (mz9, .inl (cy 3, 6, .inl (fun _ => 0))), (mz11, .inl (cy 1, 6, .inl (fun _ => 0))), (mz13, .inl (cy 1, 6, .inl (upd (upd (upd (upd (upd (upd (fun _ => 0) 0 (-1)) 1 (-1)) 2 (-1)) 3 (-1)) 4 (-1)) 5 (-1)))), (outD, .inl (cy 4, 1, .inr (.inr (.inr (.inl (fun _ => 0)))))), (out, .inl (cy 2, 1, .inr (.inl u_5))), (mm, .inr (10, [.ref mz1, .ref mz2, .ref mz3, .ref mz4, .ref mz5, .ref mz6, .ref mz7, .ref mz8, .ref mz9, .ref mz10, .ref mz11, .ref mz12, .ref mz13, .int 0, .int 0, .int y_26, .int 1, .int y_27])), (mz7, .inl (cy 1, 6, .inl u_28)), (mz8, .inl (cy 1, 6, .inl u_29))] := hD
    rcases hw with ⟨rfl, hw⟩ | ⟨rfl, hw⟩
    · obtain ⟨rfl, hw⟩ := hw
      obtain ⟨rfl, hw⟩ := hw
      have f_30 : ¬ ((((1 : Int) ≤ v_2.toInt ∧ v_2.toInt ≤ (3 : Int)) ∧ ((0 : Int) ≤ v_4.toInt ∧ v_4.toInt ≤ (9 : Int)))) := hw
      omega
    · obtain ⟨rfl, hw⟩ := hw
      obtain ⟨rfl, hw⟩ := hw
      have f_31 : (((1 : Int) ≤ v_2.toInt ∧ v_2.toInt ≤ (3 : Int)) ∧ ((0 : Int) ≤ v_4.toInt ∧ v_4.toInt ≤ (9 : Int))) := hw
      refine lv_istore (lv' := [(7, .int 0), (6, .int 0), (5, .int 0), (4, .ref outD), (3, .ref out), (2, .ref mm), (1, .ref x), (0, .ref b)]) hx hb dL_law_455 hl (by decide) rfl (fun ls hl => ?_)
      refine lv_aload_n hx hb dL_law_457 rfl (lv_at hl 5 rfl) ?_
      have hPc := hP.sub (ws' := [(mm, .inr (10, [.ref mz1, .ref mz2, .ref mz3, .ref mz4, .ref mz5, .ref mz6, .ref mz7, .ref mz8, .ref mz9, .ref mz10, .ref mz11, .ref mz12, .ref mz13, .int 0, .int 0, .int 1, .int 1, .int 0]))]) [29] rfl
      refine va_calli (va_runV (As := []) (rest := []) ⟨hx, hb, hml, hown, hts⟩ (k_X8_thrown_1 l D cy mm (.ref mz1) (.ref mz2) (.ref mz3) (.ref mz4) (.ref mz5) (.ref mz6) (.ref mz7) (.ref mz8) (.ref mz9) (.ref mz10) (.ref mz11) (.ref mz12) (.ref mz13) (.int 0) (.int 0) (.int 1) (.int 1)) (cwV 0 hts gv_L_151_X8_thrown rfl rfl rfl (by decide +kernel) ⟨(Nat.le_of_ble_eq_true rfl), (Nat.le_of_ble_eq_true rfl)⟩) ⟨kR_fb, va_recv hK hP (ci := 10) (q0 := 29) rfl rfl, (kR_go hPc hK)⟩ rfl rfl hl.1 rfl (lv_room (Nat.le_of_ble_eq_true rfl)) dL_law_458 ⟨(Nat.le_of_ble_eq_true rfl), (Nat.le_of_ble_eq_true rfl)⟩) hS (fun _ _ h => h.elim) (fun _ h => h.elim) (fun r9 u t H locs ht hvm hw hB hz1 hk1 hS => ?_)
      have hP := kx_kept hP hk1
      obtain ⟨rfl, hw⟩ := hw
      refine lv_iload hx hb dL_law_461 (lv_at hl 1 rfl) ?_
      refine lv_icmp_eq (tgt := 468) hx hb dL_law_463 (by decide) (fun _ => ?_) (fun h => absurd (by decide) h)
      refine lv_iload hx hb dL_law_468 (lv_at hl 1 rfl) ?_
      refine lv_if_ne (tgt := 485) hx hb dL_law_470 (by decide) (fun h => absurd (by decide) h) (fun _ => ?_)
      refine lv_aload_n hx hb dL_law_473 rfl (lv_at hl 4 rfl) ?_
      refine lv_iconst (v := 0) hx hb dL_law_474 (by decide) ?_
      refine va_lald hx hb hK hP 28 2 rfl rfl (kx_in 0 1 rfl ⟨(Nat.le_of_ble_eq_true rfl), (Nat.le_of_ble_eq_true rfl)⟩ (Nat.le_of_ble_eq_true rfl)) dL_law_475 ?_
      refine lv_topl (fun v_33 ev_33 => ?_)
      obtain rfl : v_33 = 0 := ev_33.trans (kf_21)
      refine lv_iload hx hb dL_law_476 (lv_at hl 0 rfl) ?_
      refine lv_i2l (v := 0) hx hb dL_law_478 (by decide) ?_
      refine W.lcmp hx hb dL_law_479 ?_
      refine lv_topi (fun v_34 ev_34 => ?_)
      obtain rfl : v_34 = 0 := ev_34.trans (by decide)
      refine lv_if_eq (tgt := 485) hx hb dL_law_480 (by decide) (fun _ => ?_) (fun h => absurd (by decide) h)
      refine lv_goto (tgt := 2608) hx hb dL_law_485 (by decide) ?_
      refine lv_iinc (v := 6) (lv' := [(5, .int 6), (7, .int 0), (6, .int 0), (4, .ref outD), (3, .ref out), (2, .ref mm), (1, .ref x), (0, .ref b)]) hx hb dL_law_2608 hl (k := 2) rfl (by decide) (by decide) rfl (fun ls hl => ?_)
      refine lv_goto (tgt := 28) hx hb dL_law_2611 (by decide) ?_
      refine lv_iload hx hb dL_law_28 (lv_at hl 0 rfl) ?_
      refine lv_aload_n hx hb dL_law_30 rfl (lv_at hl 7 rfl) ?_
      refine va_slen hx hb hX hbl hbA hS dL_law_31 ?_
      refine lv_topi (fun v_35 ev_35 => ?_)
      obtain rfl : v_35 = 6 := ev_35.trans (by decide)
      refine lv_bipush (v := 6) hx hb dL_law_32 (by decide) ?_
      refine lv_isub hx hb dL_law_34 ?_
      refine lv_topi (fun v_36 ev_36 => ?_)
      obtain rfl : v_36 = 0 := ev_36.trans (by decide)
      refine lv_icmp_gt (tgt := 2614) hx hb dL_law_35 (by decide) (fun _ => ?_) (fun h => absurd (by decide) h)
      exact hend _ _ _ _ _ hS (Nat.le_of_ble_eq_true rfl) (Nat.le_of_ble_eq_true rfl)
theorem dL_law_488 : decode cL_law 488 = .ok (.aload_n 1, 1) := by decide +kernel
theorem dL_law_489 : decode cL_law 489 = .ok (.aload_n 0, 1) := by decide +kernel
theorem dL_law_490 : decode cL_law 490 = .ok (.iload 5, 2) := by decide +kernel
theorem dL_law_492 : decode cL_law 492 = .ok (.iconst 1, 1) := by decide +kernel
theorem dL_law_493 : decode cL_law 493 = .ok (.iadd, 1) := by decide +kernel
theorem dL_law_494 : decode cL_law 494 = .ok (.iaload, 1) := by decide +kernel
theorem dL_law_495 : decode cL_law 495 = .ok (.aload_n 0, 1) := by decide +kernel
theorem dL_law_496 : decode cL_law 496 = .ok (.iload 5, 2) := by decide +kernel
theorem dL_law_498 : decode cL_law 498 = .ok (.iconst 2, 1) := by decide +kernel
theorem dL_law_499 : decode cL_law 499 = .ok (.iadd, 1) := by decide +kernel
theorem dL_law_500 : decode cL_law 500 = .ok (.iaload, 1) := by decide +kernel
theorem dL_law_501 : decode cL_law 501 = .ok (.aload_n 3, 1) := by decide +kernel
theorem dL_law_502 : decode cL_law 502 = .ok (.invokestatic 162, 3) := by decide +kernel
theorem dL_law_505 : decode cL_law 505 = .ok (.istore 6, 2) := by decide +kernel
theorem dL_law_507 : decode cL_law 507 = .ok (.aload_n 2, 1) := by decide +kernel
theorem dL_law_508 : decode cL_law 508 = .ok (.aload_n 0, 1) := by decide +kernel
theorem dL_law_509 : decode cL_law 509 = .ok (.iload 5, 2) := by decide +kernel
theorem dL_law_511 : decode cL_law 511 = .ok (.iconst 1, 1) := by decide +kernel
theorem dL_law_512 : decode cL_law 512 = .ok (.iadd, 1) := by decide +kernel
theorem dL_law_513 : decode cL_law 513 = .ok (.iaload, 1) := by decide +kernel
theorem dL_law_514 : decode cL_law 514 = .ok (.aload_n 0, 1) := by decide +kernel
theorem dL_law_515 : decode cL_law 515 = .ok (.iload 5, 2) := by decide +kernel
theorem dL_law_517 : decode cL_law 517 = .ok (.iconst 2, 1) := by decide +kernel
theorem dL_law_518 : decode cL_law 518 = .ok (.iadd, 1) := by decide +kernel
theorem dL_law_519 : decode cL_law 519 = .ok (.iaload, 1) := by decide +kernel
theorem dL_law_520 : decode cL_law 520 = .ok (.invokevirtual 164, 3) := by decide +kernel
theorem dL_law_523 : decode cL_law 523 = .ok (.istore 7, 2) := by decide +kernel
theorem dL_law_525 : decode cL_law 525 = .ok (.aload_n 2, 1) := by decide +kernel
theorem dL_law_526 : decode cL_law 526 = .ok (.invokevirtual 151, 3) := by decide +kernel
theorem dL_law_529 : decode cL_law 529 = .ok (.iload 6, 2) := by decide +kernel
theorem dL_law_531 : decode cL_law 531 = .ok (.if_icmp .eq 5, 3) := by decide +kernel
theorem dL_law_536 : decode cL_law 536 = .ok (.iload 6, 2) := by decide +kernel
theorem dL_law_538 : decode cL_law 538 = .ok (.ifCond .ne 15, 3) := by decide +kernel
theorem dL_law_553 : decode cL_law 553 = .ok (.goto 2055, 3) := by decide +kernel
set_option maxHeartbeats 4000000 in
set_option maxRecDepth 100000 in
theorem lc_3 {p : Program} {e : Env} {s : State} {m : MethodId} {args : Array Value} {below : List Frame} {meth : Method} {c : Code} {Q : State → Prop} (l : Launch) (hl9 : l.stackTraces = false) (D : va_G) (cy : Nat → ClassId) (de : Nat) {b : Nat} {xs : Nat → Int32} {A : Nat → Prop} (hx : p.tables.exec = Jvm.exec) (hb : c.code = cL_law) (hml : c.maxLocals = 9) (hown : s.vm.findClass RL = some m.cls) (hts : ∀ w ∈ lw_tbl, w.before args s = true) (hX : va_X b 6 xs s s.heap) (hbl : b < s.heap.size) (hbA : ¬ A b) (hA : ∀ q : Nat, s.heap.size ≤ q → A q) (hE : exP A s) (hY : deP cy de A s s.heap) (hK : va_K D vwCl (tyG cy) s) (x : Nat) (xz1 : Nat) (xz2 : Nat) (xz3 : Nat) (xz4 : Nat) (xz5 : Nat) (xz6 : Nat) (xz7 : Nat) (xz8 : Nat) (xz9 : Nat) (xz10 : Nat) (xz11 : Nat) (xz12 : Nat) (xz13 : Nat) (xz14 : Nat) (xz15 : Nat) (xz16 : Nat) (xz17 : Nat) (xz18 : Nat) (xz19 : Nat) (xz20 : Nat) (xz21 : Nat) (xz22 : Nat) (xz23 : Nat) (xz24 : Nat) (xz25 : Nat) (xu26 : Nat → Option Nat) (xz27 : Nat) (xu28 : Nat → Option Nat) (xz29 : Nat) (xz30 : Nat) (xz31 : Nat) (xz32 : Nat) (xz33 : Nat) (xz34 : Nat) (mm : Nat) (mz1 : Nat) (mz2 : Nat) (mz3 : Nat) (mz4 : Nat) (mz5 : Nat) (mz6 : Nat) (mz7 : Nat) (mz8 : Nat) (mz9 : Nat) (mz10 : Nat) (mz11 : Nat) (mz12 : Nat) (mz13 : Nat) (out : Nat) (outD : Nat) (xku26_0 : xu26 0 = some xz27) (xku28_0 : xu28 0 = some xz29) {H : Heap} {locs : List Loc} (hP : va_P D vwCl [(x, .inr (9, [.ref xz1, .ref xz2, .ref xz3, .ref xz4, .ref xz5, .ref xz6, .int 1])), (xz1, .inr (2, [.ref xz7, .ref xz8, .int 0, .int 0])), (xz2, .inr (5, [.ref xz9, .ref xz10, .int 0])), (xz4, .inr (8, [.ref xz11, .ref xz12, .ref xz13, .ref xz14, .ref xz15, .ref xz16, .ref xz17, .ref xz18, .ref xz19, .ref xz20, .ref xz21, .int 0, .int 0])), (xz5, .inr (4, [.ref xz22, .int 0, .ref xz23, .ref xz24, .ref xz25])), (xz6, .inr (3, [.long 0, .long 0])), (xz7, .inl (cy 5, 8, .inr (.inr (.inr (.inr xu26))))), (xz8, .inl (cy 6, 6, .inr (.inr (.inr (.inr xu28))))), (xz15, .inl (cy 1, 1000, .inl (fun _ => 0))), (xz16, .inl (cy 1, 1000, .inl (fun _ => 0))), (xz17, .inl (cy 1, 1000, .inl (fun _ => 0))), (xz18, .inl (cy 1, 1000, .inl (fun _ => 0))), (xz19, .inl (cy 1, 1000, .inl (fun _ => 0))), (xz20, .inl (cy 1, 1000, .inl (fun _ => 0))), (xz21, .inr (5, [.ref xz30, .ref xz31, .int 0])), (xz22, .inl (cy 1, 5, .inl (fun _ => 0))), (xz23, .inl (cy 1, 256, .inl (fun _ => 0))), (xz24, .inl (cy 1, 256, .inl (fun _ => 0))), (xz25, .inl (cy 1, 256, .inl (fun _ => 0))), (xz27, .inr (7, [.int 0, .int 0, .int 99, .int (-1), .int (-1), .int 0, .ref xz32])), (xz29, .inr (6, [.int 1, .int 0, .int 0, .int 0, .ref xz33, .ref xz34])), (xz32, .inl (cy 1, 19, .inl (fun _ => 0))), (mm, .inr (10, [.ref mz1, .ref mz2, .ref mz3, .ref mz4, .ref mz5, .ref mz6, .ref mz7, .ref mz8, .ref mz9, .ref mz10, .ref mz11, .ref mz12, .ref mz13, .int 0, .int 0, .int 0, .int 1, .int 0])), (mz1, .inl (cy 0, 8, .inl (fun _ => 0))), (mz2, .inl (cy 1, 8, .inl (fun _ => 0))), (mz3, .inl (cy 1, 8, .inl (fun _ => 0))), (mz4, .inl (cy 1, 8, .inl (fun _ => 0))), (mz5, .inl (cy 1, 8, .inl (fun _ => 0))), (mz6, .inl (cy 1, 8, .inl (fun _ => 0))), (mz7, .inl (cy 1, 6, .inl (fun _ => 0))), (mz8, .inl (cy 1, 6, .inl (fun _ => 0))), (mz9, .inl (cy 3, 6, .inl (fun _ => 0))), (mz11, .inl (cy 1, 6, .inl (fun _ => 0))), (mz13, .inl (cy 1, 6, .inl (upd (upd (upd (upd (upd (upd (fun _ => 0) 0 (-1)) 1 (-1)) 2 (-1)) 3 (-1)) 4 (-1)) 5 (-1)))), (out, .inl (cy 2, 1, .inr (.inl (fun _ => 0)))), (outD, .inl (cy 4, 1, .inr (.inr (.inr (.inl (fun _ => 0))))))] H) (hD : va_D A [(x, .inr (9, [.ref xz1, .ref xz2, .ref xz3, .ref xz4, .ref xz5, .ref xz6, .int 1])), (xz1, .inr (2, [.ref xz7, .ref xz8, .int 0, .int 0])), (xz2, .inr (5, [.ref xz9, .ref xz10, .int 0])), (xz4, .inr (8, [.ref xz11, .ref xz12, .ref xz13, .ref xz14, .ref xz15, .ref xz16, .ref xz17, .ref xz18, .ref xz19, .ref xz20, .ref xz21, .int 0, .int 0])), (xz5, .inr (4, [.ref xz22, .int 0, .ref xz23, .ref xz24, .ref xz25])), (xz6, .inr (3, [.long 0, .long 0])), (xz7, .inl (cy 5, 8, .inr (.inr (.inr (.inr xu26))))), (xz8, .inl (cy 6, 6, .inr (.inr (.inr (.inr xu28))))), (xz15, .inl (cy 1, 1000, .inl (fun _ => 0))), (xz16, .inl (cy 1, 1000, .inl (fun _ => 0))), (xz17, .inl (cy 1, 1000, .inl (fun _ => 0))), (xz18, .inl (cy 1, 1000, .inl (fun _ => 0))), (xz19, .inl (cy 1, 1000, .inl (fun _ => 0))), (xz20, .inl (cy 1, 1000, .inl (fun _ => 0))), (xz21, .inr (5, [.ref xz30, .ref xz31, .int 0])), (xz22, .inl (cy 1, 5, .inl (fun _ => 0))), (xz23, .inl (cy 1, 256, .inl (fun _ => 0))), (xz24, .inl (cy 1, 256, .inl (fun _ => 0))), (xz25, .inl (cy 1, 256, .inl (fun _ => 0))), (xz27, .inr (7, [.int 0, .int 0, .int 99, .int (-1), .int (-1), .int 0, .ref xz32])), (xz29, .inr (6, [.int 1, .int 0, .int 0, .int 0, .ref xz33, .ref xz34])), (xz32, .inl (cy 1, 19, .inl (fun _ => 0))), (mm, .inr (10, [.ref mz1, .ref mz2, .ref mz3, .ref mz4, .ref mz5, .ref mz6, .ref mz7, .ref mz8, .ref mz9, .ref mz10, .ref mz11, .ref mz12, .ref mz13, .int 0, .int 0, .int 0, .int 1, .int 0])), (mz1, .inl (cy 0, 8, .inl (fun _ => 0))), (mz2, .inl (cy 1, 8, .inl (fun _ => 0))), (mz3, .inl (cy 1, 8, .inl (fun _ => 0))), (mz4, .inl (cy 1, 8, .inl (fun _ => 0))), (mz5, .inl (cy 1, 8, .inl (fun _ => 0))), (mz6, .inl (cy 1, 8, .inl (fun _ => 0))), (mz7, .inl (cy 1, 6, .inl (fun _ => 0))), (mz8, .inl (cy 1, 6, .inl (fun _ => 0))), (mz9, .inl (cy 3, 6, .inl (fun _ => 0))), (mz11, .inl (cy 1, 6, .inl (fun _ => 0))), (mz13, .inl (cy 1, 6, .inl (upd (upd (upd (upd (upd (upd (fun _ => 0) 0 (-1)) 1 (-1)) 2 (-1)) 3 (-1)) 4 (-1)) 5 (-1)))), (out, .inl (cy 2, 1, .inr (.inl (fun _ => 0)))), (outD, .inl (cy 4, 1, .inr (.inr (.inr (.inl (fun _ => 0))))))]) (hS : va_S A s.heap H locs) {ls : Array Slot} (hl : lv_has ls 9 [(5, .int 0), (4, .ref outD), (3, .ref out), (2, .ref mm), (1, .ref x), (0, .ref b)]) (hend : ∀ (H : Heap) (locs : List Loc) (ls : Array Slot) (cells slots : Nat), va_S A s.heap H locs → cells ≤ 600006 → slots ≤ 7302032 → W p l e room_1 s m args below meth c H locs cells slots Q (F0 m 2614 ls [])) : W p l e room_1 s m args below meth c H locs 92 7500 Q (F0 m 488 ls []) := by
  refine lv_aload_n hx hb dL_law_488 rfl (lv_at hl 4 rfl) ?_
  refine lv_aload_n hx hb dL_law_489 rfl (lv_at hl 5 rfl) ?_
  refine lv_iload hx hb dL_law_490 (lv_at hl 0 rfl) ?_
  refine lv_iconst (v := 1) hx hb dL_law_492 (by decide) ?_
  refine lv_iadd hx hb dL_law_493 ?_
  refine lv_topi (fun v_1 ev_1 => ?_)
  obtain rfl : v_1 = 1 := ev_1.trans (by decide)
  refine va_sld hx hb hX hbl hbA hS (kx_in 1 6 rfl ⟨(Nat.le_of_ble_eq_true rfl), (Nat.le_of_ble_eq_true rfl)⟩ (Nat.le_of_ble_eq_true rfl)) dL_law_494 ?_
  refine lv_topi (fun v_2 ev_2 => ?_)
  refine lv_aload_n hx hb dL_law_495 rfl (lv_at hl 5 rfl) ?_
  refine lv_iload hx hb dL_law_496 (lv_at hl 0 rfl) ?_
  refine lv_iconst (v := 2) hx hb dL_law_498 (by decide) ?_
  refine lv_iadd hx hb dL_law_499 ?_
  refine lv_topi (fun v_3 ev_3 => ?_)
  obtain rfl : v_3 = 2 := ev_3.trans (by decide)
  refine va_sld hx hb hX hbl hbA hS (kx_in 2 6 rfl ⟨(Nat.le_of_ble_eq_true rfl), (Nat.le_of_ble_eq_true rfl)⟩ (Nat.le_of_ble_eq_true rfl)) dL_law_500 ?_
  refine lv_topi (fun v_4 ev_4 => ?_)
  refine lv_aload_n hx hb dL_law_501 rfl (lv_at hl 2 rfl) ?_
  have hPc := hP.sub (ws' := [(x, .inr (9, [.ref xz1, .ref xz2, .ref xz3, .ref xz4, .ref xz5, .ref xz6, .int 1])), (xz1, .inr (2, [.ref xz7, .ref xz8, .int 0, .int 0]))]) [0, 1] rfl
  refine va_calli (vx_runSW (As := [.ref x, .int v_2, .int v_4, .ref out]) (rest := []) ⟨hx, hb, hml, hown, hts⟩ (k_L_addWay l hl9 D cy x v_2 v_4 out xz1 (.ref xz2) (.ref xz3) (.ref xz4) (.ref xz5) (.ref xz6) (.int 1) (.ref xz7) (.ref xz8) (.int 0)) (vx_cwSW 4 hts gs_L_162_L_addWay rfl rfl rfl (by decide +kernel) ⟨(Nat.le_of_ble_eq_true rfl), (Nat.le_of_ble_eq_true rfl)⟩) ⟨kRX_fb, (kRX_go hPc hK hE hS)⟩ rfl rfl hl.1 rfl (lv_room (Nat.le_of_ble_eq_true rfl)) dL_law_502 ⟨(Nat.le_of_ble_eq_true rfl), (Nat.le_of_ble_eq_true rfl)⟩) hS (fun _ _ h => h.elim) (fun _ h => h.elim) (fun r9 u t H locs ht hvm hw hB hz1 hk1 hS => ?_)
  have hP := kx_kept hP hk1
  obtain ⟨rfl, hw⟩ := hw
  refine lv_istore (lv' := [(6, .int 1), (5, .int 0), (4, .ref outD), (3, .ref out), (2, .ref mm), (1, .ref x), (0, .ref b)]) hx hb dL_law_505 hl (by decide) rfl (fun ls hl => ?_)
  refine lv_aload_n hx hb dL_law_507 rfl (lv_at hl 4 rfl) ?_
  refine lv_aload_n hx hb dL_law_508 rfl (lv_at hl 6 rfl) ?_
  refine lv_iload hx hb dL_law_509 (lv_at hl 1 rfl) ?_
  refine lv_iconst (v := 1) hx hb dL_law_511 (by decide) ?_
  refine lv_iadd hx hb dL_law_512 ?_
  refine lv_topi (fun v_6 ev_6 => ?_)
  obtain rfl : v_6 = 1 := ev_6.trans (by decide)
  refine va_sld hx hb hX hbl hbA hS (kx_in 1 6 rfl ⟨(Nat.le_of_ble_eq_true rfl), (Nat.le_of_ble_eq_true rfl)⟩ (Nat.le_of_ble_eq_true rfl)) dL_law_513 ?_
  refine lv_topi (fun v_7 ev_7 => ?_)
  obtain rfl : v_2 = v_7 := ev_2.trans ev_7.symm
  refine lv_aload_n hx hb dL_law_514 rfl (lv_at hl 6 rfl) ?_
  refine lv_iload hx hb dL_law_515 (lv_at hl 1 rfl) ?_
  refine lv_iconst (v := 2) hx hb dL_law_517 (by decide) ?_
  refine lv_iadd hx hb dL_law_518 ?_
  refine lv_topi (fun v_8 ev_8 => ?_)
  obtain rfl : v_8 = 2 := ev_8.trans (by decide)
  refine va_sld hx hb hX hbl hbA hS (kx_in 2 6 rfl ⟨(Nat.le_of_ble_eq_true rfl), (Nat.le_of_ble_eq_true rfl)⟩ (Nat.le_of_ble_eq_true rfl)) dL_law_519 ?_
  refine lv_topi (fun v_9 ev_9 => ?_)
  obtain rfl : v_4 = v_9 := ev_4.trans ev_9.symm
  have hPc := hP.sub (ws' := [(mm, .inr (10, [.ref mz1, .ref mz2, .ref mz3, .ref mz4, .ref mz5, .ref mz6, .ref mz7, .ref mz8, .ref mz9, .ref mz10, .ref mz11, .ref mz12, .ref mz13, .int 0, .int 0, .int 0, .int 1, .int 0]))]) [22] rfl
  have hDc := hD.sub (ws' := [(mm, .inr (10, [.ref mz1, .ref mz2, .ref mz3, .ref mz4, .ref mz5, .ref mz6, .ref mz7, .ref mz8, .ref mz9, .ref mz10, .ref mz11, .ref mz12, .ref mz13, .int 0, .int 0, .int 0, .int 1, .int 0]))]) [22] (by decide) rfl
  have hFc := va_free (wc := [(mm, .inr (10, [.ref mz1, .ref mz2, .ref mz3, .ref mz4, .ref mz5, .ref mz6, .ref mz7, .ref mz8, .ref mz9, .ref mz10, .ref mz11, .ref mz12, .ref mz13, .int 0, .int 0, .int 0, .int 1, .int 0]))]) hD hS hA [22] rfl
  refine va_calli (va_runV (As := [.int v_2, .int v_4]) (rest := []) ⟨hx, hb, hml, hown, hts⟩ (k_X8_addWay l D cy mm v_2 v_4 (.ref mz1) (.ref mz2) (.ref mz3) (.ref mz4) (.ref mz5) (.ref mz6) (.ref mz7) (.ref mz8) (.ref mz9) (.ref mz10) (.ref mz11) (.ref mz12) (.ref mz13) (.int 0) (.int 0) (.int 1) (.int 0) H.size) (cwV 2 hts gv_L_164_X8_addWay rfl rfl rfl (by decide +kernel) ⟨(Nat.le_of_ble_eq_true rfl), (Nat.le_of_ble_eq_true rfl)⟩) ⟨kW_fb, va_recv hK hP (ci := 10) (q0 := 22) rfl rfl, (kW_go hPc hK hDc)⟩ rfl rfl hl.1 rfl (lv_room (Nat.le_of_ble_eq_true rfl)) dL_law_520 ⟨(Nat.le_of_ble_eq_true rfl), (Nat.le_of_ble_eq_true rfl)⟩) hS (fun q _ h => hFc q h) hFc (fun r9 u t H locs ht hvm hw hB hz1 hk1 hS => ?_)
  obtain ⟨hP1, hD1⟩ := hB
  rw [ht] at hP1
  try dsimp only at hw hP1 hD1
  obtain ⟨hP, hD⟩ := va_join (wr := [(x, .inr (9, [.ref xz1, .ref xz2, .ref xz3, .ref xz4, .ref xz5, .ref xz6, .int 1])), (xz1, .inr (2, [.ref xz7, .ref xz8, .int 0, .int 0])), (xz2, .inr (5, [.ref xz9, .ref xz10, .int 0])), (xz4, .inr (8, [.ref xz11, .ref xz12, .ref xz13, .ref xz14, .ref xz15, .ref xz16, .ref xz17, .ref xz18, .ref xz19, .ref xz20, .ref xz21, .int 0, .int 0])), (xz5, .inr (4, [.ref xz22, .int 0, .ref xz23, .ref xz24, .ref xz25])), (xz6, .inr (3, [.long 0, .long 0])), (xz7, .inl (cy 5, 8, .inr (.inr (.inr (.inr xu26))))), (xz8, .inl (cy 6, 6, .inr (.inr (.inr (.inr xu28))))), (xz15, .inl (cy 1, 1000, .inl (fun _ => 0))), (xz16, .inl (cy 1, 1000, .inl (fun _ => 0))), (xz17, .inl (cy 1, 1000, .inl (fun _ => 0))), (xz18, .inl (cy 1, 1000, .inl (fun _ => 0))), (xz19, .inl (cy 1, 1000, .inl (fun _ => 0))), (xz20, .inl (cy 1, 1000, .inl (fun _ => 0))), (xz21, .inr (5, [.ref xz30, .ref xz31, .int 0])), (xz22, .inl (cy 1, 5, .inl (fun _ => 0))), (xz23, .inl (cy 1, 256, .inl (fun _ => 0))), (xz24, .inl (cy 1, 256, .inl (fun _ => 0))), (xz25, .inl (cy 1, 256, .inl (fun _ => 0))), (xz27, .inr (7, [.int 0, .int 0, .int 99, .int (-1), .int (-1), .int 0, .ref xz32])), (xz29, .inr (6, [.int 1, .int 0, .int 0, .int 0, .ref xz33, .ref xz34])), (xz32, .inl (cy 1, 19, .inl (fun _ => 0))), (mz1, .inl (cy 0, 8, .inl (fun _ => 0))), (mz2, .inl (cy 1, 8, .inl (fun _ => 0))), (mz3, .inl (cy 1, 8, .inl (fun _ => 0))), (mz4, .inl (cy 1, 8, .inl (fun _ => 0))), (mz5, .inl (cy 1, 8, .inl (fun _ => 0))), (mz6, .inl (cy 1, 8, .inl (fun _ => 0))), (mz7, .inl (cy 1, 6, .inl (fun _ => 0))), (mz8, .inl (cy 1, 6, .inl (fun _ => 0))), (mz9, .inl (cy 3, 6, .inl (fun _ => 0))), (mz11, .inl (cy 1, 6, .inl (fun _ => 0))), (mz13, .inl (cy 1, 6, .inl (upd (upd (upd (upd (upd (upd (fun _ => 0) 0 (-1)) 1 (-1)) 2 (-1)) 3 (-1)) 4 (-1)) 5 (-1)))), (out, .inl (cy 2, 1, .inr (.inl (fun _ => 0)))), (outD, .inl (cy 4, 1, .inr (.inr (.inr (.inl (fun _ => 0))))))]) (w1 := [(mm, .inr (10, [.ref mz1, .ref mz2, .ref mz3, .ref mz4, .ref mz5, .ref mz6, .ref mz7, .ref mz8, .ref mz9, .ref mz10, .ref mz11, .ref mz12, .ref mz13, .int 0, .int 0, .int 0, .int 1, .int 1]))]) hP hD [22] [0, 1, 2, 3, 4, 5, 6, 7, 8, 9, 10, 11, 12, 13, 14, 15, 16, 17, 18, 19, 20, 21, 23, 24, 25, 26, 27, 28, 29, 30, 31, 32, 33, 34, 35] rfl rfl (by decide) (by decide) hk1 hFc hP1 hD1
  have hP : va_P D vwCl [(x, .inr (9, [.ref xz1, .ref xz2, .ref xz3, .ref xz4, .ref xz5, .ref xz6, .int 1])), (xz1, .inr (2, [.ref xz7, .ref xz8, .int 0, .int 0])), (xz2, .inr (5, [.ref xz9, .ref xz10, .int 0])), (xz4, .inr (8, [.ref xz11, .ref xz12, .ref xz13, .ref xz14, .ref xz15, .ref xz16, .ref xz17, .ref xz18, .ref xz19, .ref xz20, .ref xz21, .int 0, .int 0])), (xz5, .inr (4, [.ref xz22, .int 0, .ref xz23, .ref xz24, .ref xz25])), (xz6, .inr (3, [.long 0, .long 0])), (xz7, .inl (cy 5, 8, .inr (.inr (.inr (.inr xu26))))), (xz8, .inl (cy 6, 6, .inr (.inr (.inr (.inr xu28))))), (xz15, .inl (cy 1, 1000, .inl (fun _ => 0))), (xz16, .inl (cy 1, 1000, .inl (fun _ => 0))), (xz17, .inl (cy 1, 1000, .inl (fun _ => 0))), (xz18, .inl (cy 1, 1000, .inl (fun _ => 0))), (xz19, .inl (cy 1, 1000, .inl (fun _ => 0))), (xz20, .inl (cy 1, 1000, .inl (fun _ => 0))), (xz21, .inr (5, [.ref xz30, .ref xz31, .int 0])), (xz22, .inl (cy 1, 5, .inl (fun _ => 0))), (xz23, .inl (cy 1, 256, .inl (fun _ => 0))), (xz24, .inl (cy 1, 256, .inl (fun _ => 0))), (xz25, .inl (cy 1, 256, .inl (fun _ => 0))), (xz27, .inr (7, [.int 0, .int 0, .int 99, .int (-1), .int (-1), .int 0, .ref xz32])), (xz29, .inr (6, [.int 1, .int 0, .int 0, .int 0, .ref xz33, .ref xz34])), (xz32, .inl (cy 1, 19, .inl (fun _ => 0))), (mz1, .inl (cy 0, 8, .inl (fun _ => 0))), (mz2, .inl (cy 1, 8, .inl (fun _ => 0))), (mz3, .inl (cy 1, 8, .inl (fun _ => 0))), (mz4, .inl (cy 1, 8, .inl (fun _ => 0))), (mz5, .inl (cy 1, 8, .inl (fun _ => 0))), (mz6, .inl (cy 1, 8, .inl (fun _ => 0))), (mz7, .inl (cy 1, 6, .inl (fun _ => 0))), (mz8, .inl (cy 1, 6, .inl (fun _ => 0))), (mz9, .inl (cy 3, 6, .inl (fun _ => 0))), (mz11, .inl (cy 1, 6, .inl (fun _ => 0))), (mz13, .inl (cy 1, 6, .inl (upd (upd (upd (upd (upd (upd (fun _ => 0) 0 (-1)) 1 (-1)) 2 (-1)) 3 (-1)) 4 (-1)) 5 (-1)))), (out, .inl (cy 2, 1, .inr (.inl (fun _ => 0)))), (outD, .inl (cy 4, 1, .inr (.inr (.inr (.inl (fun _ => 0)))))), (mm, .inr (10, [.ref mz1, .ref mz2, .ref mz3, .ref mz4, .ref mz5, .ref mz6, .ref mz7, .ref mz8, .ref mz9, .ref mz10, .ref mz11, .ref mz12, .ref mz13, .int 0, .int 0, .int 0, .int 1, .int 1]))] H := hP
  have hD : va_D A [(x, .inr (9, [.ref xz1, .ref xz2, .ref xz3, .ref xz4, .ref xz5, .ref xz6, .int 1])), (xz1, .inr (2, [.ref xz7, .ref xz8, .int 0, .int 0])), (xz2, .inr (5, [.ref xz9, .ref xz10, .int 0])), (xz4, .inr (8, [.ref xz11, .ref xz12, .ref xz13, .ref xz14, .ref xz15, .ref xz16, .ref xz17, .ref xz18, .ref xz19, .ref xz20, .ref xz21, .int 0, .int 0])), (xz5, .inr (4, [.ref xz22, .int 0, .ref xz23, .ref xz24, .ref xz25])), (xz6, .inr (3, [.long 0, .long 0])), (xz7, .inl (cy 5, 8, .inr (.inr (.inr (.inr xu26))))), (xz8, .inl (cy 6, 6, .inr (.inr (.inr (.inr xu28))))), (xz15, .inl (cy 1, 1000, .inl (fun _ => 0))), (xz16, .inl (cy 1, 1000, .inl (fun _ => 0))), (xz17, .inl (cy 1, 1000, .inl (fun _ => 0))), (xz18, .inl (cy 1, 1000, .inl (fun _ => 0))), (xz19, .inl (cy 1, 1000, .inl (fun _ => 0))), (xz20, .inl (cy 1, 1000, .inl (fun _ => 0))), (xz21, .inr (5, [.ref xz30, .ref xz31, .int 0])), (xz22, .inl (cy 1, 5, .inl (fun _ => 0))), (xz23, .inl (cy 1, 256, .inl (fun _ => 0))), (xz24, .inl (cy 1, 256, .inl (fun _ => 0))), (xz25, .inl (cy 1, 256, .inl (fun _ => 0))), (xz27, .inr (7, [.int 0, .int 0, .int 99, .int (-1), .int (-1), .int 0, .ref xz32])), (xz29, .inr (6, [.int 1, .int 0, .int 0, .int 0, .ref xz33, .ref xz34])), (xz32, .inl (cy 1, 19, .inl (fun _ => 0))), (mz1, .inl (cy 0, 8, .inl (fun _ => 0))), (mz2, .inl (cy 1, 8, .inl (fun _ => 0))), (mz3, .inl (cy 1, 8, .inl (fun _ => 0))), (mz4, .inl (cy 1, 8, .inl (fun _ => 0))), (mz5, .inl (cy 1, 8, .inl (fun _ => 0))), (mz6, .inl (cy 1, 8, .inl (fun _ => 0))), (mz7, .inl (cy 1, 6, .inl (fun _ => 0))), (mz8, .inl (cy 1, 6, .inl (fun _ => 0))), (mz9, .inl (cy 3, 6, .inl (fun _ => 0))), (mz11, .inl (cy 1, 6, .inl (fun _ => 0))), (mz13, .inl (cy 1, 6, .inl (upd (upd (upd (upd (upd (upd (fun _ => 0) 0 (-1)) 1 (-1)) 2 (-1)) 3 (-1)) 4 (-1)) 5 (-1)))), (out, .inl (cy 2, 1, .inr (.inl (fun _ => 0)))), (outD, .inl (cy 4, 1, .inr (.inr (.inr (.inl (fun _ => 0)))))), (mm, .inr (10, [.ref mz1, .ref mz2, .ref mz3, .ref mz4, .ref mz5, .ref mz6, .ref mz7, .ref mz8, .ref mz9, .ref mz10, .ref mz11, .ref mz12, .ref mz13, .int 0, .int 0, .int 0, .int 1, .int 1]))] := hD
  obtain ⟨rfl, hw⟩ := hw
  refine lv_istore (lv' := [(7, .int 0), (6, .int 1), (5, .int 0), (4, .ref outD), (3, .ref out), (2, .ref mm), (1, .ref x), (0, .ref b)]) hx hb dL_law_523 hl (by decide) rfl (fun ls hl => ?_)
  refine lv_aload_n hx hb dL_law_525 rfl (lv_at hl 5 rfl) ?_
  have hPc := hP.sub (ws' := [(mm, .inr (10, [.ref mz1, .ref mz2, .ref mz3, .ref mz4, .ref mz5, .ref mz6, .ref mz7, .ref mz8, .ref mz9, .ref mz10, .ref mz11, .ref mz12, .ref mz13, .int 0, .int 0, .int 0, .int 1, .int 1]))]) [35] rfl
  refine va_calli (va_runV (As := []) (rest := []) ⟨hx, hb, hml, hown, hts⟩ (k_X8_thrown l D cy mm (.ref mz1) (.ref mz2) (.ref mz3) (.ref mz4) (.ref mz5) (.ref mz6) (.ref mz7) (.ref mz8) (.ref mz9) (.ref mz10) (.ref mz11) (.ref mz12) (.ref mz13) (.int 0) (.int 0) (.int 0) (.int 1)) (cwV 0 hts gv_L_151_X8_thrown rfl rfl rfl (by decide +kernel) ⟨(Nat.le_of_ble_eq_true rfl), (Nat.le_of_ble_eq_true rfl)⟩) ⟨kR_fb, va_recv hK hP (ci := 10) (q0 := 35) rfl rfl, (kR_go hPc hK)⟩ rfl rfl hl.1 rfl (lv_room (Nat.le_of_ble_eq_true rfl)) dL_law_526 ⟨(Nat.le_of_ble_eq_true rfl), (Nat.le_of_ble_eq_true rfl)⟩) hS (fun _ _ h => h.elim) (fun _ h => h.elim) (fun r9 u t H locs ht hvm hw hB hz1 hk1 hS => ?_)
  have hP := kx_kept hP hk1
  obtain ⟨rfl, hw⟩ := hw
  refine lv_iload hx hb dL_law_529 (lv_at hl 1 rfl) ?_
  refine lv_icmp_eq (tgt := 536) hx hb dL_law_531 (by decide) (fun _ => ?_) (fun h => absurd (by decide) h)
  refine lv_iload hx hb dL_law_536 (lv_at hl 1 rfl) ?_
  refine lv_if_ne (tgt := 553) hx hb dL_law_538 (by decide) (fun _ => ?_) (fun h => absurd h (by decide))
  refine lv_goto (tgt := 2608) hx hb dL_law_553 (by decide) ?_
  refine lv_iinc (v := 6) (lv' := [(5, .int 6), (7, .int 0), (6, .int 1), (4, .ref outD), (3, .ref out), (2, .ref mm), (1, .ref x), (0, .ref b)]) hx hb dL_law_2608 hl (k := 2) rfl (by decide) (by decide) rfl (fun ls hl => ?_)
  refine lv_goto (tgt := 28) hx hb dL_law_2611 (by decide) ?_
  refine lv_iload hx hb dL_law_28 (lv_at hl 0 rfl) ?_
  refine lv_aload_n hx hb dL_law_30 rfl (lv_at hl 7 rfl) ?_
  refine va_slen hx hb hX hbl hbA hS dL_law_31 ?_
  refine lv_topi (fun v_12 ev_12 => ?_)
  obtain rfl : v_12 = 6 := ev_12.trans (by decide)
  refine lv_bipush (v := 6) hx hb dL_law_32 (by decide) ?_
  refine lv_isub hx hb dL_law_34 ?_
  refine lv_topi (fun v_13 ev_13 => ?_)
  obtain rfl : v_13 = 0 := ev_13.trans (by decide)
  refine lv_icmp_gt (tgt := 2614) hx hb dL_law_35 (by decide) (fun _ => ?_) (fun h => absurd (by decide) h)
  exact hend _ _ _ _ _ hS (Nat.le_of_ble_eq_true rfl) (Nat.le_of_ble_eq_true rfl)
