theorem dX2_search_0 : decode cX2_search 0 = .ok (.aload_n 0, 1) := by decide +kernel
theorem dX2_search_1 : decode cX2_search 1 = .ok (.iconst 0, 1) := by decide +kernel
theorem dX2_search_2 : decode cX2_search 2 = .ok (.putfield 24, 3) := by decide +kernel
theorem dX2_search_5 : decode cX2_search 5 = .ok (.aload_n 0, 1) := by decide +kernel
theorem dX2_search_6 : decode cX2_search 6 = .ok (.getfield 15, 3) := by decide +kernel
theorem dX2_search_9 : decode cX2_search 9 = .ok (.iconst 0, 1) := by decide +kernel
theorem dX2_search_10 : decode cX2_search 10 = .ok (.iconst 0, 1) := by decide +kernel
theorem dX2_search_11 : decode cX2_search 11 = .ok (.iastore, 1) := by decide +kernel
theorem dX2_search_12 : decode cX2_search 12 = .ok (.aload_n 0, 1) := by decide +kernel
theorem dX2_search_13 : decode cX2_search 13 = .ok (.getfield 18, 3) := by decide +kernel
theorem dX2_search_16 : decode cX2_search 16 = .ok (.iconst 0, 1) := by decide +kernel
theorem dX2_search_17 : decode cX2_search 17 = .ok (.iload_n 3, 1) := by decide +kernel
theorem dX2_search_18 : decode cX2_search 18 = .ok (.iastore, 1) := by decide +kernel
theorem dX2_search_19 : decode cX2_search 19 = .ok (.aload_n 0, 1) := by decide +kernel
theorem dX2_search_20 : decode cX2_search 20 = .ok (.getfield 21, 3) := by decide +kernel
theorem dX2_search_23 : decode cX2_search 23 = .ok (.iconst 0, 1) := by decide +kernel
theorem dX2_search_24 : decode cX2_search 24 = .ok (.iconst 1, 1) := by decide +kernel
theorem dX2_search_25 : decode cX2_search 25 = .ok (.iload_n 3, 1) := by decide +kernel
theorem dX2_search_26 : decode cX2_search 26 = .ok (.ishl, 1) := by decide +kernel
theorem dX2_search_27 : decode cX2_search 27 = .ok (.iastore, 1) := by decide +kernel
theorem dX2_search_28 : decode cX2_search 28 = .ok (.iconst 1, 1) := by decide +kernel
theorem dX2_search_29 : decode cX2_search 29 = .ok (.istore 5, 2) := by decide +kernel
theorem dX2_search_31 : decode cX2_search 31 = .ok (.iconst 0, 1) := by decide +kernel
theorem dX2_search_32 : decode cX2_search 32 = .ok (.istore 6, 2) := by decide +kernel
theorem dX2_search_34 : decode cX2_search 34 = .ok (.iload 6, 2) := by decide +kernel
theorem dX2_search_36 : decode cX2_search 36 = .ok (.iload 5, 2) := by decide +kernel
theorem dX2_search_38 : decode cX2_search 38 = .ok (.if_icmp .ge 190, 3) := by decide +kernel
theorem dX2_search_41 : decode cX2_search 41 = .ok (.iload 6, 2) := by decide +kernel
theorem dX2_search_43 : decode cX2_search 43 = .ok (.sipush 256, 3) := by decide +kernel
theorem dX2_search_46 : decode cX2_search 46 = .ok (.if_icmp .ge 182, 3) := by decide +kernel
theorem dX2_search_49 : decode cX2_search 49 = .ok (.aload_n 0, 1) := by decide +kernel
theorem dX2_search_50 : decode cX2_search 50 = .ok (.getfield 24, 3) := by decide +kernel
theorem dX2_search_53 : decode cX2_search 53 = .ok (.iconst 5, 1) := by decide +kernel
theorem dX2_search_54 : decode cX2_search 54 = .ok (.if_icmp .ge 174, 3) := by decide +kernel
theorem dX2_search_57 : decode cX2_search 57 = .ok (.iconst 0, 1) := by decide +kernel
theorem dX2_search_58 : decode cX2_search 58 = .ok (.istore 7, 2) := by decide +kernel
theorem dX2_search_60 : decode cX2_search 60 = .ok (.iload 7, 2) := by decide +kernel
theorem dX2_search_62 : decode cX2_search 62 = .ok (.aload_n 1, 1) := by decide +kernel
theorem dX2_search_63 : decode cX2_search 63 = .ok (.getfield 28, 3) := by decide +kernel
theorem dX2_search_66 : decode cX2_search 66 = .ok (.if_icmp .ge 156, 3) := by decide +kernel
theorem dX2_search_222 : decode cX2_search 222 = .ok (.iinc 6 1, 3) := by decide +kernel
theorem dX2_search_225 : decode cX2_search 225 = .ok (.goto (-191), 3) := by decide +kernel
theorem dX2_search_228 : decode cX2_search 228 = .ok (.return_, 1) := by decide +kernel
set_option maxHeartbeats 4000000 in
set_option maxRecDepth 100000 in
theorem k_X2_search (l : Launch) (D : va_G) (cy : Nat → ClassId) (h1 : Nat) (h2 : Nat) (p2 : Int32) (p3 : Int32) (x3 : Value) (h4 : Nat) (h5 : Nat) (h6 : Nat) (x7 : Value) (x8 : Value) (x9 : Value) (g10 : Nat → Int32) (g11 : Nat → Int32) (g12 : Nat → Int32) (sz : Nat) : Met l yX2_search wsX2_search ({ frames := 0, cells := 0, slots := 0, locals := 0 }) (kW D cy [.ref h1, .ref h2, .int 0, .int p2, .int p3] [(h1, .inr (4, [x3, .int 0, .ref h4, .ref h5, .ref h6])), (h2, .inr (2, [x7, x8, .int 0, x9])), (h4, .inl (cy 1, 256, .inl g10)), (h5, .inl (cy 1, 256, .inl g11)), (h6, .inl (cy 1, 256, .inl g12))] sz) (va_Qv (fun (u : (Nat → Int32)) => match u with | u1 => True) (fun (u : (Nat → Int32)) (t : State) => match u with | u1 => va_P D vwCl [(h1, .inr (4, [x3, .int 0, .ref h4, .ref h5, .ref h6])), (h2, .inr (2, [x7, x8, .int 0, x9])), (h4, .inl (cy 1, 256, .inl (upd g10 0 0))), (h5, .inl (cy 1, 256, .inl (upd g11 0 p2))), (h6, .inl (cy 1, 256, .inl u1))] t.heap ∧ va_D (va_A [(h1, .inr (4, [x3, .int 0, .ref h4, .ref h5, .ref h6])), (h2, .inr (2, [x7, x8, .int 0, x9])), (h4, .inl (cy 1, 256, .inl g10)), (h5, .inl (cy 1, 256, .inl g11)), (h6, .inl (cy 1, 256, .inl g12))] sz) [(h1, .inr (4, [x3, .int 0, .ref h4, .ref h5, .ref h6])), (h2, .inr (2, [x7, x8, .int 0, x9])), (h4, .inl (cy 1, 256, .inl (upd g10 0 0))), (h5, .inl (cy 1, 256, .inl (upd g11 0 p2))), (h6, .inl (cy 1, 256, .inl u1))]) (va_A [(h1, .inr (4, [x3, .int 0, .ref h4, .ref h5, .ref h6])), (h2, .inr (2, [x7, x8, .int 0, x9])), (h4, .inl (cy 1, 256, .inl g10)), (h5, .inl (cy 1, 256, .inl g11)), (h6, .inl (cy 1, 256, .inl g12))] sz)) 0 0 (va_A [(h1, .inr (4, [x3, .int 0, .ref h4, .ref h5, .ref h6])), (h2, .inr (2, [x7, x8, .int 0, x9])), (h4, .inl (cy 1, 256, .inl g10)), (h5, .inl (cy 1, 256, .inl g11)), (h6, .inl (cy 1, 256, .inl g12))] sz) := by
  refine Met.ofW (cc := cX2_search) (maxL := 9) (ret := none) (by decide) rfl ?_
  intro p e s m args below meth c s₁ B hml hv
  obtain ⟨rfl, hsz, hP, hK, hD0⟩ := hv
  have hx := B.exec
  have hb := B.bytes
  have hr := B.returns
  have hts := atoms_spec (ws := wsX2_search) B.pre
  have hown : s.vm.findClass RX2 = some m.cls := findClass_of_methodNamed B.named
  have hlocks := B.notSynchronized
  subst hsz
  have hD := hD0.self (sz := s.heap.size)
  generalize hAe : va_A [(h1, .inr (4, [x3, .int 0, .ref h4, .ref h5, .ref h6])), (h2, .inr (2, [x7, x8, .int 0, x9])), (h4, .inl (cy 1, 256, .inl g10)), (h5, .inl (cy 1, 256, .inl g11)), (h6, .inl (cy 1, 256, .inl g12))] s.heap.size = A at hD ⊢
  have hA : ∀ q : Nat, s.heap.size ≤ q → A q := fun q h => by rw [← hAe]; exact Or.inr h
  have hS : va_S A s.heap s.heap [] := va_S.rf
  have hP : va_P D vwCl [(h1, .inr (4, [x3, .int 0, .ref h4, .ref h5, .ref h6])), (h2, .inr (2, [x7, x8, .int 0, x9])), (h4, .inl (cy 1, 256, .inl g10)), (h5, .inl (cy 1, 256, .inl g11)), (h6, .inl (cy 1, 256, .inl g12))] s.heap := hP
  have hl := lv_entry ([.ref h1, .ref h2, .int 0, .int p2, .int p3]) (n := 9) (Nat.le_of_ble_eq_true rfl)
  rw [lg_entry_eq]
  generalize (lg_sl ([.ref h1, .ref h2, .int 0, .int p2, .int p3]) ++ List.replicate (9 - (lg_sl ([.ref h1, .ref h2, .int 0, .int p2, .int p3])).length) Slot.unset).toArray = ls at hl ⊢
  have hl : lv_has ls 9 [(0, .ref h1), (1, .ref h2), (2, .int 0), (3, .int p2), (4, .int p3)] := hl
  refine lv_aload_n hx hb dX2_search_0 rfl (lv_at hl 0 rfl) ?_
  refine lv_iconst (v := 0) hx hb dX2_search_1 (by decide) ?_
  refine va_put (D := D) (ci := 4) (v := .int 0) (ty := .int) (C := RX2) (T := TX2) (N := 5) hx hb hts (fun _ h => (List.mem_cons_of_mem _ (List.mem_append_left _ (List.mem_append_left _ (List.mem_append_left _ (List.mem_append_right _ h)))))) tyX2 tyX2_ok nmX2 hown hK hP hD hS 0 rfl rfl 1 (by decide) (hts (.fieldLink RX2 24 "SelfishJunction$Paths" "found" "I") (List.mem_cons_of_mem _ (List.mem_append_left _ (List.mem_append_left _ (List.mem_append_left _ (List.mem_append_left _ (List.mem_of_getElem? (i := 0) rfl))))))) (fun _ h9 => h9) rfl (by decide +kernel) rfl rfl (Nat.le_of_ble_eq_true rfl) dX2_search_2 (fun H locs hP hD hS => ?_)
  have hP : va_P D vwCl [(h1, .inr (4, [x3, .int 0, .ref h4, .ref h5, .ref h6])), (h2, .inr (2, [x7, x8, .int 0, x9])), (h4, .inl (cy 1, 256, .inl g10)), (h5, .inl (cy 1, 256, .inl g11)), (h6, .inl (cy 1, 256, .inl g12))] H := hP
  have hD : va_D A [(h1, .inr (4, [x3, .int 0, .ref h4, .ref h5, .ref h6])), (h2, .inr (2, [x7, x8, .int 0, x9])), (h4, .inl (cy 1, 256, .inl g10)), (h5, .inl (cy 1, 256, .inl g11)), (h6, .inl (cy 1, 256, .inl g12))] := hD
  refine lv_aload_n hx hb dX2_search_5 rfl (lv_at hl 0 rfl) ?_
  refine va_get (D := D) (ci := 4) (v := .ref h4) (C := RX2) (T := TX2) (N := 5) hx hb hts (fun _ h => (List.mem_cons_of_mem _ (List.mem_append_left _ (List.mem_append_left _ (List.mem_append_left _ (List.mem_append_right _ h)))))) hown hK hP 0 rfl rfl 2 (by decide) (hts (.fieldLink RX2 15 "SelfishJunction$Paths" "roads" "[I") (List.mem_cons_of_mem _ (List.mem_append_left _ (List.mem_append_left _ (List.mem_append_left _ (List.mem_append_left _ (List.mem_of_getElem? (i := 1) rfl))))))) (fun _ h9 => h9) rfl dX2_search_6 ?_
  refine lv_iconst (v := 0) hx hb dX2_search_9 (by decide) ?_
  refine lv_iconst (v := 0) hx hb dX2_search_10 (by decide) ?_
  refine va_iast hx hb hK hP hD hS 2 1 rfl rfl (kx_in 0 256 rfl ⟨(Nat.le_of_ble_eq_true rfl), (Nat.le_of_ble_eq_true rfl)⟩ (Nat.le_of_ble_eq_true rfl)) dX2_search_11 (fun H locs hP hD hS => ?_)
  have hP : va_P D vwCl [(h1, .inr (4, [x3, .int 0, .ref h4, .ref h5, .ref h6])), (h2, .inr (2, [x7, x8, .int 0, x9])), (h4, .inl (cy 1, 256, .inl (upd g10 0 0))), (h5, .inl (cy 1, 256, .inl g11)), (h6, .inl (cy 1, 256, .inl g12))] H := hP
  have hD : va_D A [(h1, .inr (4, [x3, .int 0, .ref h4, .ref h5, .ref h6])), (h2, .inr (2, [x7, x8, .int 0, x9])), (h4, .inl (cy 1, 256, .inl (upd g10 0 0))), (h5, .inl (cy 1, 256, .inl g11)), (h6, .inl (cy 1, 256, .inl g12))] := hD
  refine lv_aload_n hx hb dX2_search_12 rfl (lv_at hl 0 rfl) ?_
  refine va_get (D := D) (ci := 4) (v := .ref h5) (C := RX2) (T := TX2) (N := 5) hx hb hts (fun _ h => (List.mem_cons_of_mem _ (List.mem_append_left _ (List.mem_append_left _ (List.mem_append_left _ (List.mem_append_right _ h)))))) hown hK hP 0 rfl rfl 3 (by decide) (hts (.fieldLink RX2 18 "SelfishJunction$Paths" "ends" "[I") (List.mem_cons_of_mem _ (List.mem_append_left _ (List.mem_append_left _ (List.mem_append_left _ (List.mem_append_left _ (List.mem_of_getElem? (i := 2) rfl))))))) (fun _ h9 => h9) rfl dX2_search_13 ?_
  refine lv_iconst (v := 0) hx hb dX2_search_16 (by decide) ?_
  refine lv_iload_n hx hb dX2_search_17 rfl (lv_at hl 3 rfl) ?_
  refine va_iast hx hb hK hP hD hS 3 1 rfl rfl (kx_in 0 256 rfl ⟨(Nat.le_of_ble_eq_true rfl), (Nat.le_of_ble_eq_true rfl)⟩ (Nat.le_of_ble_eq_true rfl)) dX2_search_18 (fun H locs hP hD hS => ?_)
  have hP : va_P D vwCl [(h1, .inr (4, [x3, .int 0, .ref h4, .ref h5, .ref h6])), (h2, .inr (2, [x7, x8, .int 0, x9])), (h4, .inl (cy 1, 256, .inl (upd g10 0 0))), (h5, .inl (cy 1, 256, .inl (upd g11 0 p2))), (h6, .inl (cy 1, 256, .inl g12))] H := hP
  have hD : va_D A [(h1, .inr (4, [x3, .int 0, .ref h4, .ref h5, .ref h6])), (h2, .inr (2, [x7, x8, .int 0, x9])), (h4, .inl (cy 1, 256, .inl (upd g10 0 0))), (h5, .inl (cy 1, 256, .inl (upd g11 0 p2))), (h6, .inl (cy 1, 256, .inl g12))] := hD
  refine lv_aload_n hx hb dX2_search_19 rfl (lv_at hl 0 rfl) ?_
  refine va_get (D := D) (ci := 4) (v := .ref h6) (C := RX2) (T := TX2) (N := 5) hx hb hts (fun _ h => (List.mem_cons_of_mem _ (List.mem_append_left _ (List.mem_append_left _ (List.mem_append_left _ (List.mem_append_right _ h)))))) hown hK hP 0 rfl rfl 4 (by decide) (hts (.fieldLink RX2 21 "SelfishJunction$Paths" "seen" "[I") (List.mem_cons_of_mem _ (List.mem_append_left _ (List.mem_append_left _ (List.mem_append_left _ (List.mem_append_left _ (List.mem_of_getElem? (i := 3) rfl))))))) (fun _ h9 => h9) rfl dX2_search_20 ?_
  refine lv_iconst (v := 0) hx hb dX2_search_23 (by decide) ?_
  refine lv_iconst (v := 1) hx hb dX2_search_24 (by decide) ?_
  refine lv_iload_n hx hb dX2_search_25 rfl (lv_at hl 3 rfl) ?_
  refine lv_ishl hx hb dX2_search_26 ?_
  refine lv_topi (fun v_1 ev_1 => ?_)
  refine va_iast hx hb hK hP hD hS 4 1 rfl rfl (kx_in 0 256 rfl ⟨(Nat.le_of_ble_eq_true rfl), (Nat.le_of_ble_eq_true rfl)⟩ (Nat.le_of_ble_eq_true rfl)) dX2_search_27 (fun H locs hP hD hS => ?_)
  have hP : va_P D vwCl [(h1, .inr (4, [x3, .int 0, .ref h4, .ref h5, .ref h6])), (h2, .inr (2, [x7, x8, .int 0, x9])), (h4, .inl (cy 1, 256, .inl (upd g10 0 0))), (h5, .inl (cy 1, 256, .inl (upd g11 0 p2))), (h6, .inl (cy 1, 256, .inl (upd g12 0 v_1)))] H := hP
  have hD : va_D A [(h1, .inr (4, [x3, .int 0, .ref h4, .ref h5, .ref h6])), (h2, .inr (2, [x7, x8, .int 0, x9])), (h4, .inl (cy 1, 256, .inl (upd g10 0 0))), (h5, .inl (cy 1, 256, .inl (upd g11 0 p2))), (h6, .inl (cy 1, 256, .inl (upd g12 0 v_1)))] := hD
  refine lv_iconst (v := 1) hx hb dX2_search_28 (by decide) ?_
  refine lv_istore (lv' := [(5, .int 1), (0, .ref h1), (1, .ref h2), (2, .int 0), (3, .int p2), (4, .int p3)]) hx hb dX2_search_29 hl (by decide) rfl (fun ls hl => ?_)
  refine lv_iconst (v := 0) hx hb dX2_search_31 (by decide) ?_
  refine lv_istore (lv' := [(6, .int 0), (5, .int 1), (0, .ref h1), (1, .ref h2), (2, .int 0), (3, .int p2), (4, .int p3)]) hx hb dX2_search_32 hl (by decide) rfl (fun ls hl => ?_)
  refine lv_iload hx hb dX2_search_34 (lv_at hl 0 rfl) ?_
  refine lv_iload hx hb dX2_search_36 (lv_at hl 1 rfl) ?_
  refine lv_icmp_ge (tgt := 228) hx hb dX2_search_38 (by decide) (fun h => absurd h (by decide)) (fun _ => ?_)
  refine lv_iload hx hb dX2_search_41 (lv_at hl 0 rfl) ?_
  refine lv_sipush (v := 256) hx hb dX2_search_43 (by decide) ?_
  refine lv_icmp_ge (tgt := 228) hx hb dX2_search_46 (by decide) (fun h => absurd h (by decide)) (fun _ => ?_)
  refine lv_aload_n hx hb dX2_search_49 rfl (lv_at hl 2 rfl) ?_
  refine va_get (D := D) (ci := 4) (v := .int 0) (C := RX2) (T := TX2) (N := 5) hx hb hts (fun _ h => (List.mem_cons_of_mem _ (List.mem_append_left _ (List.mem_append_left _ (List.mem_append_left _ (List.mem_append_right _ h)))))) hown hK hP 0 rfl rfl 1 (by decide) (hts (.fieldLink RX2 24 "SelfishJunction$Paths" "found" "I") (List.mem_cons_of_mem _ (List.mem_append_left _ (List.mem_append_left _ (List.mem_append_left _ (List.mem_append_left _ (List.mem_of_getElem? (i := 0) rfl))))))) (fun _ h9 => h9) rfl dX2_search_50 ?_
  refine lv_iconst (v := 5) hx hb dX2_search_53 (by decide) ?_
  refine lv_icmp_ge (tgt := 228) hx hb dX2_search_54 (by decide) (fun h => absurd h (by decide)) (fun _ => ?_)
  refine lv_iconst (v := 0) hx hb dX2_search_57 (by decide) ?_
  refine lv_istore (lv' := [(7, .int 0), (6, .int 0), (5, .int 1), (0, .ref h1), (1, .ref h2), (2, .int 0), (3, .int p2), (4, .int p3)]) hx hb dX2_search_58 hl (by decide) rfl (fun ls hl => ?_)
  refine lv_iload hx hb dX2_search_60 (lv_at hl 0 rfl) ?_
  refine lv_aload_n hx hb dX2_search_62 rfl (lv_at hl 4 rfl) ?_
  refine va_get (D := D) (ci := 2) (v := .int 0) (C := RX0) (T := TX0) (N := 4) hx hb hts (fun _ h => (List.mem_cons_of_mem _ (List.mem_append_left _ (List.mem_append_left _ (List.mem_append_right _ h))))) hown hK hP 1 rfl rfl 2 (by decide) (hts (.fieldLink RX2 28 "SelfishJunction$Board" "resourceCount" "I") (List.mem_cons_of_mem _ (List.mem_append_left _ (List.mem_append_left _ (List.mem_append_left _ (List.mem_append_left _ (List.mem_of_getElem? (i := 4) rfl))))))) (fun _ h9 => h9) rfl dX2_search_63 ?_
  refine lv_icmp_ge (tgt := 222) hx hb dX2_search_66 (by decide) (fun _ => ?_) (fun h => absurd (by decide) h)
  refine lv_iinc (v := 1) (lv' := [(6, .int 1), (7, .int 0), (5, .int 1), (0, .ref h1), (1, .ref h2), (2, .int 0), (3, .int p2), (4, .int p3)]) hx hb dX2_search_222 hl (k := 1) rfl (by decide) (by decide) rfl (fun ls hl => ?_)
  refine lv_goto (tgt := 34) hx hb dX2_search_225 (by decide) ?_
  refine lv_iload hx hb dX2_search_34 (lv_at hl 0 rfl) ?_
  refine lv_iload hx hb dX2_search_36 (lv_at hl 2 rfl) ?_
  refine lv_icmp_ge (tgt := 228) hx hb dX2_search_38 (by decide) (fun _ => ?_) (fun h => absurd (by decide) h)
  refine W.widen (k := 0) (n := 0) (Nat.le_of_ble_eq_true rfl) (Nat.le_of_ble_eq_true rfl) ?_
  have hP9 := hP.sub (ws' := [(h1, .inr (4, [x3, .int 0, .ref h4, .ref h5, .ref h6])), (h2, .inr (2, [x7, x8, .int 0, x9])), (h4, .inl (cy 1, 256, .inl (upd g10 0 0))), (h5, .inl (cy 1, 256, .inl (upd g11 0 p2))), (h6, .inl (cy 1, 256, .inl (upd g12 0 v_1)))]) [0, 1, 2, 3, 4] rfl
  have hD9 := hD.sub (ws' := [(h1, .inr (4, [x3, .int 0, .ref h4, .ref h5, .ref h6])), (h2, .inr (2, [x7, x8, .int 0, x9])), (h4, .inl (cy 1, 256, .inl (upd g10 0 0))), (h5, .inl (cy 1, 256, .inl (upd g11 0 p2))), (h6, .inl (cy 1, 256, .inl (upd g12 0 v_1)))]) [0, 1, 2, 3, 4] (by decide) rfl
  exact W.vret hx hb hr (fun t ht hW => ⟨⟨((upd g12 0 v_1)), rfl, trivial, ⟨by rw [ht]; exact hP9, hD9⟩⟩, hS.F ht⟩) hS.2.2 dX2_search_228
theorem dX7_addTraveller_0 : decode cX7_addTraveller 0 = .ok (.aload_n 0, 1) := by decide +kernel
theorem dX7_addTraveller_1 : decode cX7_addTraveller 1 = .ok (.iload_n 1, 1) := by decide +kernel
theorem dX7_addTraveller_2 : decode cX7_addTraveller 2 = .ok (.iload_n 2, 1) := by decide +kernel
theorem dX7_addTraveller_3 : decode cX7_addTraveller 3 = .ok (.invokevirtual 62, 3) := by decide +kernel
set_option maxRecDepth 20000 in
theorem ggX7_addTraveller_X7_checkNodes : GoodIn wsX7_addTraveller wsX7_checkNodes := goodIn_ca (goodIn_r _ [13, 14, 15, 16, 17, 18, 12, 19] (by decide +kernel) (by decide +kernel)) (goodIn_sub (fun _ h => List.mem_cons_of_mem _ (List.mem_append_left _ (List.mem_append_right _ h))) (by decide +kernel))
set_option maxRecDepth 20000 in
theorem gX7_addTraveller_X7_checkNodes : GoodIn wsX7_addTraveller (wsV RX7 62 RX7 yX7_checkNodes wsX7_checkNodes) := goodIn_app (goodIn_of _ (by decide +kernel)) ggX7_addTraveller_X7_checkNodes
theorem dX7_addTraveller_6 : decode cX7_addTraveller 6 = .ok (.aload_n 0, 1) := by decide +kernel
theorem dX7_addTraveller_7 : decode cX7_addTraveller 7 = .ok (.iload_n 3, 1) := by decide +kernel
theorem dX7_addTraveller_8 : decode cX7_addTraveller 8 = .ok (.iload 4, 2) := by decide +kernel
theorem dX7_addTraveller_10 : decode cX7_addTraveller 10 = .ok (.invokevirtual 78, 3) := by decide +kernel
set_option maxRecDepth 20000 in
theorem ggX7_addTraveller_X7_checkBody : GoodIn wsX7_addTraveller wsX7_checkBody := goodIn_ca (goodIn_r _ [23, 16, 17, 18, 12, 19, 14, 15] (by decide +kernel) (by decide +kernel)) (goodIn_sub (fun _ h => List.mem_cons_of_mem _ (List.mem_append_left _ (List.mem_append_right _ h))) (by decide +kernel))
set_option maxRecDepth 20000 in
theorem gX7_addTraveller_X7_checkBody : GoodIn wsX7_addTraveller (wsV RX7 78 RX7 yX7_checkBody wsX7_checkBody) := goodIn_app (goodIn_of _ (by decide +kernel)) ggX7_addTraveller_X7_checkBody
theorem dX7_addTraveller_13 : decode cX7_addTraveller 13 = .ok (.aload_n 0, 1) := by decide +kernel
theorem dX7_addTraveller_14 : decode cX7_addTraveller 14 = .ok (.getfield 36, 3) := by decide +kernel
theorem dX7_addTraveller_17 : decode cX7_addTraveller 17 = .ok (.aload_n 0, 1) := by decide +kernel
theorem dX7_addTraveller_18 : decode cX7_addTraveller 18 = .ok (.getfield 10, 3) := by decide +kernel
theorem dX7_addTraveller_21 : decode cX7_addTraveller 21 = .ok (.aload_n 0, 1) := by decide +kernel
theorem dX7_addTraveller_22 : decode cX7_addTraveller 22 = .ok (.getfield 19, 3) := by decide +kernel
theorem dX7_addTraveller_25 : decode cX7_addTraveller 25 = .ok (.getfield 102, 3) := by decide +kernel
theorem dX7_addTraveller_28 : decode cX7_addTraveller 28 = .ok (.iload_n 1, 1) := by decide +kernel
theorem dX7_addTraveller_29 : decode cX7_addTraveller 29 = .ok (.iload_n 2, 1) := by decide +kernel
theorem dX7_addTraveller_30 : decode cX7_addTraveller 30 = .ok (.invokevirtual 132, 3) := by decide +kernel
set_option maxRecDepth 20000 in
theorem ggX7_addTraveller_X2_search : GoodIn wsX7_addTraveller wsX2_search := goodIn_ca (goodIn_r _ [28, 29, 30, 31, 32, 33, 34, 35, 36, 37, 12, 38, 39, 40, 41, 27, 42, 43, 90, 91, 92, 93, 94, 95, 96, 97, 98, 99, 100, 101, 102, 103, 104, 105] (by decide +kernel) (by decide +kernel)) (goodIn_sub (fun _ h => List.mem_cons_of_mem _ (List.mem_append_left _ (List.mem_append_left _ (List.mem_append_right _ h)))) (by decide +kernel))
set_option maxRecDepth 20000 in
theorem gX7_addTraveller_X2_search : GoodIn wsX7_addTraveller (wsV RX7 132 RX2 yX2_search wsX2_search) := goodIn_app (goodIn_of _ (by decide +kernel)) ggX7_addTraveller_X2_search
theorem dX7_addTraveller_33 : decode cX7_addTraveller 33 = .ok (.aload_n 0, 1) := by decide +kernel
theorem dX7_addTraveller_34 : decode cX7_addTraveller 34 = .ok (.getfield 36, 3) := by decide +kernel
theorem dX7_addTraveller_37 : decode cX7_addTraveller 37 = .ok (.getfield 136, 3) := by decide +kernel
theorem dX7_addTraveller_40 : decode cX7_addTraveller 40 = .ok (.ifCond .ne 13, 3) := by decide +kernel
theorem dX7_addTraveller_43 : decode cX7_addTraveller 43 = .ok (.new 139, 3) := by decide +kernel
theorem dX7_addTraveller_46 : decode cX7_addTraveller 46 = .ok (.dup, 1) := by decide +kernel
theorem dX7_addTraveller_47 : decode cX7_addTraveller 47 = .ok (.ldc 141, 2) := by decide +kernel
theorem dX7_addTraveller_49 : decode cX7_addTraveller 49 = .ok (.invokespecial 143, 3) := by decide +kernel
theorem dX7_addTraveller_52 : decode cX7_addTraveller 52 = .ok (.athrow, 1) := by decide +kernel
set_option maxHeartbeats 4000000 in
set_option maxRecDepth 100000 in
theorem k_X7_addTraveller (l : Launch) (hl9 : l.stackTraces = false) (D : va_G) (cy : Nat → ClassId) (h1 : Nat) (p0 : Int32) (p1 : Int32) (p2 : Int32) (p3 : Int32) (h2 : Nat) (h3 : Nat) (x4 : Value) (x5 : Value) (h6 : Nat) (x7 : Value) (x8 : Value) (x9 : Value) (x10 : Value) (x11 : Value) (x12 : Value) (x13 : Value) (x14 : Value) (h15 : Nat) (h16 : Nat) (h17 : Nat) (g18 : Nat → Int32) (g19 : Nat → Int32) (g20 : Nat → Int32) (sz : Nat) : vx_Met l yX7_addTraveller wsX7_addTraveller ({ frames := 8, cells := 6, slots := 36, locals := 127 }) (kWX D cy [.ref h1, .int p0, .int p1, .int p2, .int p3] [(h1, .inr (9, [.ref h2, .ref h3, x4, x5, .ref h6, x7, x8])), (h2, .inr (2, [x9, x10, .int 0, x11])), (h3, .inr (5, [x12, x13, .int 0])), (h6, .inr (4, [x14, .int 0, .ref h15, .ref h16, .ref h17])), (h15, .inl (cy 1, 256, .inl g18)), (h16, .inl (cy 1, 256, .inl g19)), (h17, .inl (cy 1, 256, .inl g20))] sz) (va_Qi (fun (r : Int32) (_ : Unit) => False) (fun (_ : Unit) (t : State) => True) (va_A [(h1, .inr (9, [.ref h2, .ref h3, x4, x5, .ref h6, x7, x8])), (h2, .inr (2, [x9, x10, .int 0, x11])), (h3, .inr (5, [x12, x13, .int 0])), (h6, .inr (4, [x14, .int 0, .ref h15, .ref h16, .ref h17])), (h15, .inl (cy 1, 256, .inl g18)), (h16, .inl (cy 1, 256, .inl g19)), (h17, .inl (cy 1, 256, .inl g20))] sz)) (vx_X (fun _ : Unit => True) (fun (E : String) (_ : Unit) (_ : State) => (E = "java/lang/IllegalArgumentException" ∧ (¬ ((((0 : Int) ≤ p0.toInt ∧ p0.toInt ≤ (5 : Int)) ∧ ((0 : Int) ≤ p1.toInt ∧ p1.toInt ≤ (5 : Int)) ∧ p0.toInt ≠ p1.toInt)) ∨ ((((0 : Int) ≤ p0.toInt ∧ p0.toInt ≤ (5 : Int)) ∧ ((0 : Int) ≤ p1.toInt ∧ p1.toInt ≤ (5 : Int)) ∧ p0.toInt ≠ p1.toInt) ∧ ¬ ((((1 : Int) ≤ p2.toInt ∧ p2.toInt ≤ (3 : Int)) ∧ ((0 : Int) ≤ p3.toInt ∧ p3.toInt ≤ (9 : Int))))))) ∨ (E = "java/util/NoSuchElementException" ∧ ((((0 : Int) ≤ p0.toInt ∧ p0.toInt ≤ (5 : Int)) ∧ ((0 : Int) ≤ p1.toInt ∧ p1.toInt ≤ (5 : Int)) ∧ p0.toInt ≠ p1.toInt) ∧ (((1 : Int) ≤ p2.toInt ∧ p2.toInt ≤ (3 : Int)) ∧ ((0 : Int) ≤ p3.toInt ∧ p3.toInt ≤ (9 : Int)))))) (va_A [(h1, .inr (9, [.ref h2, .ref h3, x4, x5, .ref h6, x7, x8])), (h2, .inr (2, [x9, x10, .int 0, x11])), (h3, .inr (5, [x12, x13, .int 0])), (h6, .inr (4, [x14, .int 0, .ref h15, .ref h16, .ref h17])), (h15, .inl (cy 1, 256, .inl g18)), (h16, .inl (cy 1, 256, .inl g19)), (h17, .inl (cy 1, 256, .inl g20))] sz)) 6 36 (va_A [(h1, .inr (9, [.ref h2, .ref h3, x4, x5, .ref h6, x7, x8])), (h2, .inr (2, [x9, x10, .int 0, x11])), (h3, .inr (5, [x12, x13, .int 0])), (h6, .inr (4, [x14, .int 0, .ref h15, .ref h16, .ref h17])), (h15, .inl (cy 1, 256, .inl g18)), (h16, .inl (cy 1, 256, .inl g19)), (h17, .inl (cy 1, 256, .inl g20))] sz) := by
  refine vx_ofW (cc := cX7_addTraveller) (maxL := 7) (ret := (some .int)) (by decide) rfl ?_
  intro p e s m args below meth c s₁ B hml ht9 hv
  obtain ⟨rfl, hsz, hP, hK, hD0, hE⟩ := hv
  have hx := B.exec
  have hb := B.bytes
  have hr := B.returns
  have hts := atoms_spec (ws := wsX7_addTraveller) B.pre
  have hown : s.vm.findClass RX7 = some m.cls := findClass_of_methodNamed B.named
  have hlocks := B.notSynchronized
  subst hsz
  have hD := hD0.self (sz := s.heap.size)
  generalize hAe : va_A [(h1, .inr (9, [.ref h2, .ref h3, x4, x5, .ref h6, x7, x8])), (h2, .inr (2, [x9, x10, .int 0, x11])), (h3, .inr (5, [x12, x13, .int 0])), (h6, .inr (4, [x14, .int 0, .ref h15, .ref h16, .ref h17])), (h15, .inl (cy 1, 256, .inl g18)), (h16, .inl (cy 1, 256, .inl g19)), (h17, .inl (cy 1, 256, .inl g20))] s.heap.size = A at hD hE ⊢
  have hA : ∀ q : Nat, s.heap.size ≤ q → A q := fun q h => by rw [← hAe]; exact Or.inr h
  have hS : va_S A s.heap s.heap [] := va_S.rf
  have hP : va_P D vwCl [(h1, .inr (9, [.ref h2, .ref h3, x4, x5, .ref h6, x7, x8])), (h2, .inr (2, [x9, x10, .int 0, x11])), (h3, .inr (5, [x12, x13, .int 0])), (h6, .inr (4, [x14, .int 0, .ref h15, .ref h16, .ref h17])), (h15, .inl (cy 1, 256, .inl g18)), (h16, .inl (cy 1, 256, .inl g19)), (h17, .inl (cy 1, 256, .inl g20))] s.heap := hP
  have hl := lv_entry ([.ref h1, .int p0, .int p1, .int p2, .int p3]) (n := 7) (Nat.le_of_ble_eq_true rfl)
  rw [lg_entry_eq]
  generalize (lg_sl ([.ref h1, .int p0, .int p1, .int p2, .int p3]) ++ List.replicate (7 - (lg_sl ([.ref h1, .int p0, .int p1, .int p2, .int p3])).length) Slot.unset).toArray = ls at hl ⊢
  have hl : lv_has ls 7 [(0, .ref h1), (1, .int p0), (2, .int p1), (3, .int p2), (4, .int p3)] := hl
  refine lv_aload_n hx hb dX7_addTraveller_0 rfl (lv_at hl 0 rfl) ?_
  refine lv_iload_n hx hb dX7_addTraveller_1 rfl (lv_at hl 1 rfl) ?_
  refine lv_iload_n hx hb dX7_addTraveller_2 rfl (lv_at hl 2 rfl) ?_
  have hPc := hP.sub (ws' := [(h1, .inr (9, [.ref h2, .ref h3, x4, x5, .ref h6, x7, x8]))]) [0] rfl
  refine vx_callv (vx_runV (As := [.int p0, .int p1]) (rest := []) ⟨hx, hb, hml, hown, hts⟩ (k_X7_checkNodes l hl9 D cy h1 p0 p1 (.ref h2) (.ref h3) (x4) (x5) (.ref h6) (x7) (x8)) (cwV 2 hts gX7_addTraveller_X7_checkNodes rfl rfl rfl (by decide +kernel) ⟨(Nat.le_of_ble_eq_true rfl), (Nat.le_of_ble_eq_true rfl)⟩) ⟨kRX_fb, va_recv hK hP (ci := 9) (q0 := 0) rfl rfl, (kRX_go hPc hK hE hS)⟩ rfl rfl hl.1 rfl (lv_room (Nat.le_of_ble_eq_true rfl)) dX7_addTraveller_3 ⟨(Nat.le_of_ble_eq_true rfl), (Nat.le_of_ble_eq_true rfl)⟩) hS (fun _ _ h => h.elim) (fun _ h => h.elim) (fun _ _ h => h.elim) (fun E9 ce9 q9 u t H locs ht hvm hw hB hz1 hk1 hS hce hcv hcl => ?_) (fun u t H locs ht hvm hw hB hz1 hk1 hS => ?_)
  · obtain ⟨rfl, hB⟩ := hB
    have f_1 : ¬ ((((0 : Int) ≤ p0.toInt ∧ p0.toInt ≤ (5 : Int)) ∧ ((0 : Int) ≤ p1.toInt ∧ p1.toInt ≤ (5 : Int)) ∧ p0.toInt ≠ p1.toInt)) := hB
    exact vx_out (fun x hx => (ht9 x hx).elim) hlocks hce hcv hcl (fun t ht _ => ⟨(), trivial, (Or.inl (⟨rfl, (by omega)⟩)), hS.F ht⟩) hS.2.2 (Nat.le_of_ble_eq_true rfl) (Nat.le_of_ble_eq_true rfl)
  · have hP := kx_kept hP hk1
    have f_2 : (((0 : Int) ≤ p0.toInt ∧ p0.toInt ≤ (5 : Int)) ∧ ((0 : Int) ≤ p1.toInt ∧ p1.toInt ≤ (5 : Int)) ∧ p0.toInt ≠ p1.toInt) := hw
    refine lv_aload_n hx hb dX7_addTraveller_6 rfl (lv_at hl 0 rfl) ?_
    refine lv_iload_n hx hb dX7_addTraveller_7 rfl (lv_at hl 3 rfl) ?_
    refine lv_iload hx hb dX7_addTraveller_8 (lv_at hl 4 rfl) ?_
    have hPc := hP.sub (ws' := [(h1, .inr (9, [.ref h2, .ref h3, x4, x5, .ref h6, x7, x8]))]) [0] rfl
    refine vx_callv (vx_runV (As := [.int p2, .int p3]) (rest := []) ⟨hx, hb, hml, hown, hts⟩ (k_X7_checkBody l hl9 D cy h1 p2 p3 (.ref h2) (.ref h3) (x4) (x5) (.ref h6) (x7) (x8)) (cwV 2 hts gX7_addTraveller_X7_checkBody rfl rfl rfl (by decide +kernel) ⟨(Nat.le_of_ble_eq_true rfl), (Nat.le_of_ble_eq_true rfl)⟩) ⟨kRX_fb, va_recv hK hP (ci := 9) (q0 := 0) rfl rfl, (kRX_go hPc hK hE hS)⟩ rfl rfl hl.1 rfl (lv_room (Nat.le_of_ble_eq_true rfl)) dX7_addTraveller_10 ⟨(Nat.le_of_ble_eq_true rfl), (Nat.le_of_ble_eq_true rfl)⟩) hS (fun _ _ h => h.elim) (fun _ h => h.elim) (fun _ _ h => h.elim) (fun E9 ce9 q9 u t H locs ht hvm hw hB hz1 hk1 hS hce hcv hcl => ?_) (fun u t H locs ht hvm hw hB hz1 hk1 hS => ?_)
    · obtain ⟨rfl, hB⟩ := hB
      have f_3 : ¬ ((((1 : Int) ≤ p2.toInt ∧ p2.toInt ≤ (3 : Int)) ∧ ((0 : Int) ≤ p3.toInt ∧ p3.toInt ≤ (9 : Int)))) := hB
      exact vx_out (fun x hx => (ht9 x hx).elim) hlocks hce hcv hcl (fun t ht _ => ⟨(), trivial, (Or.inl (⟨rfl, (by omega)⟩)), hS.F ht⟩) hS.2.2 (Nat.le_of_ble_eq_true rfl) (Nat.le_of_ble_eq_true rfl)
    · have hP := kx_kept hP hk1
      have f_4 : (((1 : Int) ≤ p2.toInt ∧ p2.toInt ≤ (3 : Int)) ∧ ((0 : Int) ≤ p3.toInt ∧ p3.toInt ≤ (9 : Int))) := hw
      refine lv_aload_n hx hb dX7_addTraveller_13 rfl (lv_at hl 0 rfl) ?_
      refine va_get (D := D) (ci := 9) (v := .ref h6) (C := RX7) (T := TX7) (N := 7) hx hb hts (fun _ h => (List.mem_cons_of_mem _ (List.mem_append_left _ (List.mem_append_left _ (List.mem_append_left _ (List.mem_append_left _ (List.mem_append_left _ (List.mem_append_left _ (List.mem_append_left _ (List.mem_append_left _ (List.mem_append_left _ (List.mem_append_right _ h)))))))))))) hown hK hP 0 rfl rfl 4 (by decide) (hts (.fieldLink RX7 36 "SelfishJunction" "paths" "LSelfishJunction$Paths;") (List.mem_cons_of_mem _ (List.mem_append_left _ (List.mem_append_left _ (List.mem_append_left _ (List.mem_append_left _ (List.mem_append_left _ (List.mem_append_left _ (List.mem_append_left _ (List.mem_append_left _ (List.mem_append_left _ (List.mem_append_left _ (List.mem_append_left _ (List.mem_of_getElem? (i := 2) rfl)))))))))))))) (fun _ h9 => h9) rfl dX7_addTraveller_14 ?_
      refine lv_aload_n hx hb dX7_addTraveller_17 rfl (lv_at hl 0 rfl) ?_
      refine va_get (D := D) (ci := 9) (v := .ref h2) (C := RX7) (T := TX7) (N := 7) hx hb hts (fun _ h => (List.mem_cons_of_mem _ (List.mem_append_left _ (List.mem_append_left _ (List.mem_append_left _ (List.mem_append_left _ (List.mem_append_left _ (List.mem_append_left _ (List.mem_append_left _ (List.mem_append_left _ (List.mem_append_left _ (List.mem_append_right _ h)))))))))))) hown hK hP 0 rfl rfl 0 (by decide) (hts (.fieldLink RX7 10 "SelfishJunction" "board" "LSelfishJunction$Board;") (List.mem_cons_of_mem _ (List.mem_append_left _ (List.mem_append_left _ (List.mem_append_left _ (List.mem_append_left _ (List.mem_append_left _ (List.mem_append_left _ (List.mem_append_left _ (List.mem_append_left _ (List.mem_append_left _ (List.mem_append_left _ (List.mem_append_left _ (List.mem_of_getElem? (i := 3) rfl)))))))))))))) (fun _ h9 => h9) rfl dX7_addTraveller_18 ?_
      refine lv_aload_n hx hb dX7_addTraveller_21 rfl (lv_at hl 0 rfl) ?_
      refine va_get (D := D) (ci := 9) (v := .ref h3) (C := RX7) (T := TX7) (N := 7) hx hb hts (fun _ h => (List.mem_cons_of_mem _ (List.mem_append_left _ (List.mem_append_left _ (List.mem_append_left _ (List.mem_append_left _ (List.mem_append_left _ (List.mem_append_left _ (List.mem_append_left _ (List.mem_append_left _ (List.mem_append_left _ (List.mem_append_right _ h)))))))))))) hown hK hP 0 rfl rfl 1 (by decide) (hts (.fieldLink RX7 19 "SelfishJunction" "now" "LSelfishJunction$Play;") (List.mem_cons_of_mem _ (List.mem_append_left _ (List.mem_append_left _ (List.mem_append_left _ (List.mem_append_left _ (List.mem_append_left _ (List.mem_append_left _ (List.mem_append_left _ (List.mem_append_left _ (List.mem_append_left _ (List.mem_append_left _ (List.mem_append_left _ (List.mem_of_getElem? (i := 4) rfl)))))))))))))) (fun _ h9 => h9) rfl dX7_addTraveller_22 ?_
      refine va_get (D := D) (ci := 5) (v := .int 0) (C := RX3) (T := TX3) (N := 3) hx hb hts (fun _ h => (List.mem_cons_of_mem _ (List.mem_append_left _ (List.mem_append_left _ (List.mem_append_left _ (List.mem_append_left _ (List.mem_append_left _ (List.mem_append_left _ (List.mem_append_left _ (List.mem_append_left _ (List.mem_append_right _ h))))))))))) hown hK hP 2 rfl rfl 2 (by decide) (hts (.fieldLink RX7 102 "SelfishJunction$Play" "closed" "I") (List.mem_cons_of_mem _ (List.mem_append_left _ (List.mem_append_left _ (List.mem_append_left _ (List.mem_append_left _ (List.mem_append_left _ (List.mem_append_left _ (List.mem_append_left _ (List.mem_append_left _ (List.mem_append_left _ (List.mem_append_left _ (List.mem_append_left _ (List.mem_of_getElem? (i := 5) rfl)))))))))))))) (fun _ h9 => h9) rfl dX7_addTraveller_25 ?_
      refine lv_iload_n hx hb dX7_addTraveller_28 rfl (lv_at hl 1 rfl) ?_
      refine lv_iload_n hx hb dX7_addTraveller_29 rfl (lv_at hl 2 rfl) ?_
      have hPc := hP.sub (ws' := [(h6, .inr (4, [x14, .int 0, .ref h15, .ref h16, .ref h17])), (h2, .inr (2, [x9, x10, .int 0, x11])), (h15, .inl (cy 1, 256, .inl g18)), (h16, .inl (cy 1, 256, .inl g19)), (h17, .inl (cy 1, 256, .inl g20))]) [3, 1, 4, 5, 6] rfl
      have hDc := hD.sub (ws' := [(h6, .inr (4, [x14, .int 0, .ref h15, .ref h16, .ref h17])), (h2, .inr (2, [x9, x10, .int 0, x11])), (h15, .inl (cy 1, 256, .inl g18)), (h16, .inl (cy 1, 256, .inl g19)), (h17, .inl (cy 1, 256, .inl g20))]) [3, 1, 4, 5, 6] (by decide) rfl
      have hFc := va_free (wc := [(h6, .inr (4, [x14, .int 0, .ref h15, .ref h16, .ref h17])), (h2, .inr (2, [x9, x10, .int 0, x11])), (h15, .inl (cy 1, 256, .inl g18)), (h16, .inl (cy 1, 256, .inl g19)), (h17, .inl (cy 1, 256, .inl g20))]) hD hS hA [3, 1, 4, 5, 6] rfl
      refine va_callv (va_runV (As := [.ref h2, .int 0, .int p0, .int p1]) (rest := []) ⟨hx, hb, hml, hown, hts⟩ (k_X2_search l D cy h6 h2 p0 p1 (x14) h15 h16 h17 (x9) (x10) (x11) g18 g19 g20 H.size) (cwV 4 hts gX7_addTraveller_X2_search rfl rfl rfl (by decide +kernel) ⟨(Nat.le_of_ble_eq_true rfl), (Nat.le_of_ble_eq_true rfl)⟩) ⟨kW_fb, va_recv hK hP (ci := 4) (q0 := 3) rfl rfl, (kW_go hPc hK hDc)⟩ rfl rfl hl.1 rfl (lv_room (Nat.le_of_ble_eq_true rfl)) dX7_addTraveller_30 ⟨(Nat.le_of_ble_eq_true rfl), (Nat.le_of_ble_eq_true rfl)⟩) hS (fun q _ h => hFc q h) hFc (fun u t H locs ht hvm hw hB hz1 hk1 hS => ?_)
      obtain ⟨u_5, rfl⟩ : ∃ z, z = u := ⟨_, rfl⟩
      obtain ⟨hP1, hD1⟩ := hB
      rw [ht] at hP1
      try dsimp only at hw hP1 hD1
      obtain ⟨hP, hD⟩ := va_join (wr := [(h1, .inr (9, [.ref h2, .ref h3, x4, x5, .ref h6, x7, x8])), (h3, .inr (5, [x12, x13, .int 0]))]) (w1 := [(h6, .inr (4, [x14, .int 0, .ref h15, .ref h16, .ref h17])), (h2, .inr (2, [x9, x10, .int 0, x11])), (h15, .inl (cy 1, 256, .inl (upd g18 0 0))), (h16, .inl (cy 1, 256, .inl (upd g19 0 p0))), (h17, .inl (cy 1, 256, .inl u_5))]) hP hD [3, 1, 4, 5, 6] [0, 2] rfl rfl (by decide) (by decide) hk1 hFc hP1 hD1
      have hP : va_P D vwCl [(h1, .inr (9, [.ref h2, .ref h3, x4, x5, .ref h6, x7, x8])), (h3, .inr (5, [x12, x13, .int 0])), (h6, .inr (4, [x14, .int 0, .ref h15, .ref h16, .ref h17])), (h2, .inr (2, [x9, x10, .int 0, x11])), (h15, .inl (cy 1, 256, .inl (upd g18 0 0))), (h16, .inl (cy 1, 256, .inl (upd g19 0 p0))), (h17, .inl (cy 1, 256, .inl u_5))] H := hP
      have hD : va_D A [(h1, .inr (9, [.ref h2, .ref h3, x4, x5, .ref h6, x7, x8])), (h3, .inr (5, [x12, x13, .int 0])), (h6, .inr (4, [x14, .int 0, .ref h15, .ref h16, .ref h17])), (h2, .inr (2, [x9, x10, .int 0, x11])), (h15, .inl (cy 1, 256, .inl (upd g18 0 0))), (h16, .inl (cy 1, 256, .inl (upd g19 0 p0))), (h17, .inl (cy 1, 256, .inl u_5))] := hD
      refine lv_aload_n hx hb dX7_addTraveller_33 rfl (lv_at hl 0 rfl) ?_
      refine va_get (D := D) (ci := 9) (v := .ref h6) (C := RX7) (T := TX7) (N := 7) hx hb hts (fun _ h => (List.mem_cons_of_mem _ (List.mem_append_left _ (List.mem_append_left _ (List.mem_append_left _ (List.mem_append_left _ (List.mem_append_left _ (List.mem_append_left _ (List.mem_append_left _ (List.mem_append_left _ (List.mem_append_left _ (List.mem_append_right _ h)))))))))))) hown hK hP 0 rfl rfl 4 (by decide) (hts (.fieldLink RX7 36 "SelfishJunction" "paths" "LSelfishJunction$Paths;") (List.mem_cons_of_mem _ (List.mem_append_left _ (List.mem_append_left _ (List.mem_append_left _ (List.mem_append_left _ (List.mem_append_left _ (List.mem_append_left _ (List.mem_append_left _ (List.mem_append_left _ (List.mem_append_left _ (List.mem_append_left _ (List.mem_append_left _ (List.mem_of_getElem? (i := 2) rfl)))))))))))))) (fun _ h9 => h9) rfl dX7_addTraveller_34 ?_
      refine va_get (D := D) (ci := 4) (v := .int 0) (C := RX2) (T := TX2) (N := 5) hx hb hts (fun _ h => (List.mem_cons_of_mem _ (List.mem_append_left _ (List.mem_append_left _ (List.mem_append_left _ (List.mem_append_left _ (List.mem_append_left _ (List.mem_append_left _ (List.mem_append_left _ (List.mem_append_right _ h)))))))))) hown hK hP 2 rfl rfl 1 (by decide) (hts (.fieldLink RX7 136 "SelfishJunction$Paths" "found" "I") (List.mem_cons_of_mem _ (List.mem_append_left _ (List.mem_append_left _ (List.mem_append_left _ (List.mem_append_left _ (List.mem_append_left _ (List.mem_append_left _ (List.mem_append_left _ (List.mem_append_left _ (List.mem_append_left _ (List.mem_append_left _ (List.mem_append_left _ (List.mem_of_getElem? (i := 6) rfl)))))))))))))) (fun _ h9 => h9) rfl dX7_addTraveller_37 ?_
      refine lv_if_ne (tgt := 53) hx hb dX7_addTraveller_40 (by decide) (fun h => absurd (by decide) h) (fun _ => ?_)
      obtain ⟨sa9, hsa9⟩ := hE.2.1 (141, "no path") (by decide +kernel)
      exact vn_throwS (own := RX7) (text := "no path") (A := A) hx hb hl9 hown (hts (.classLink RX7 139 "java/util/NoSuchElementException") (List.mem_cons_of_mem _ (List.mem_append_left _ (List.mem_append_left _ (List.mem_append_left _ (List.mem_append_left _ (List.mem_append_left _ (List.mem_append_left _ (List.mem_append_left _ (List.mem_append_left _ (List.mem_append_left _ (List.mem_append_left _ (List.mem_append_left _ (List.mem_of_getElem? (i := 0) rfl)))))))))))))) (hts (.initialized "java/util/NoSuchElementException") (List.mem_cons_of_mem _ (List.mem_append_left _ (List.mem_append_left _ (List.mem_append_left _ (List.mem_append_left _ (List.mem_append_left _ (List.mem_append_left _ (List.mem_append_left _ (List.mem_append_left _ (List.mem_append_left _ (List.mem_append_left _ (List.mem_append_left _ (List.mem_of_getElem? (i := 1) rfl)))))))))))))) hsa9 (ex_hatN hE (fun w h => hts w (List.mem_cons_of_mem _ (List.mem_append_left _ (List.mem_append_left _ (List.mem_append_left _ (List.mem_append_right _ h)))))) (by decide +kernel)) (by decide +kernel) hE.1.1 hE.1.2 hS (by rw [hml]; exact hl.1) dX7_addTraveller_43 dX7_addTraveller_46 dX7_addTraveller_47 dX7_addTraveller_49 dX7_addTraveller_52 (fun x hx => (ht9 x hx).elim) (Nat.le_of_ble_eq_true rfl) (Nat.le_of_ble_eq_true rfl) (Nat.le_of_ble_eq_true rfl) (Nat.le_of_ble_eq_true rfl) hlocks (fun t hal hz hk => ⟨(), trivial, (Or.inr (⟨rfl, (by omega)⟩)), kx_thr hS hz hk⟩) hS.2.2 (Nat.le_of_ble_eq_true rfl) (Nat.le_of_ble_eq_true rfl)
theorem dL_addTraveller_0 : decode cL_addTraveller 0 = .ok (.aload 5, 2) := by decide +kernel
theorem dL_addTraveller_2 : decode cL_addTraveller 2 = .ok (.iconst 0, 1) := by decide +kernel
theorem dL_addTraveller_3 : decode cL_addTraveller 3 = .ok (.aload_n 0, 1) := by decide +kernel
theorem dL_addTraveller_4 : decode cL_addTraveller 4 = .ok (.iload_n 1, 1) := by decide +kernel
theorem dL_addTraveller_5 : decode cL_addTraveller 5 = .ok (.iload_n 2, 1) := by decide +kernel
theorem dL_addTraveller_6 : decode cL_addTraveller 6 = .ok (.iload_n 3, 1) := by decide +kernel
theorem dL_addTraveller_7 : decode cL_addTraveller 7 = .ok (.iload 4, 2) := by decide +kernel
theorem dL_addTraveller_9 : decode cL_addTraveller 9 = .ok (.invokevirtual 32, 3) := by decide +kernel
set_option maxRecDepth 20000 in
theorem ggL_addTraveller_X7_addTraveller : GoodIn wsL_addTraveller wsX7_addTraveller := goodIn_ca (goodIn_ca (goodIn_ca (goodIn_ca (goodIn_r _ [8, 9, 10, 11, 12, 13, 14, 15, 16, 17, 18, 19, 7, 20, 21, 22, 23, 24, 25, 26, 27, 28, 29, 30, 31, 32, 33, 34, 35, 36, 37, 38, 39, 40, 41, 42, 43, 44, 45, 46, 47, 48, 49, 50, 51, 52, 53, 54, 55, 56, 57, 58, 59, 60, 61, 62, 63, 64, 65, 66, 67, 68, 69, 70, 71, 72, 73, 74, 75, 76, 77, 78, 79, 80, 81, 82, 83, 84, 85, 86, 87, 88, 89, 90, 91, 92, 93, 94, 95, 96, 97, 98, 99, 100, 101, 102, 103, 104, 105, 106, 107, 108, 109, 110, 111, 112, 113, 114, 115, 116, 117, 118] (by decide +kernel) (by decide +kernel)) (goodIn_sub (fun _ h => List.mem_cons_of_mem _ (List.mem_append_left _ (List.mem_append_left _ (List.mem_append_right _ h)))) (by decide +kernel))) (goodIn_sub (fun _ h => List.mem_cons_of_mem _ (List.mem_append_left _ (List.mem_append_left _ (List.mem_append_left _ (List.mem_append_right _ h))))) (by decide +kernel))) (goodIn_sub (fun _ h => List.mem_cons_of_mem _ (List.mem_append_left _ (List.mem_append_right _ h))) (by decide +kernel))) (goodIn_sub (fun _ h => List.mem_cons_of_mem _ (List.mem_append_right _ h)) (by decide +kernel))
set_option maxRecDepth 20000 in
theorem gL_addTraveller_X7_addTraveller : GoodIn wsL_addTraveller (wsV RL 32 RX7 yX7_addTraveller wsX7_addTraveller) := goodIn_app (goodIn_of _ (by decide +kernel)) ggL_addTraveller_X7_addTraveller
theorem dL_addTraveller_17 : decode cL_addTraveller 17 = .ok (.astore 6, 2) := by decide +kernel
theorem dL_addTraveller_19 : decode cL_addTraveller 19 = .ok (.iconst 1, 1) := by decide +kernel
theorem dL_addTraveller_20 : decode cL_addTraveller 20 = .ok (.ireturn, 1) := by decide +kernel
theorem dL_addTraveller_21 : decode cL_addTraveller 21 = .ok (.astore 6, 2) := by decide +kernel
theorem dL_addTraveller_23 : decode cL_addTraveller 23 = .ok (.iconst 2, 1) := by decide +kernel
theorem dL_addTraveller_24 : decode cL_addTraveller 24 = .ok (.ireturn, 1) := by decide +kernel
set_option maxHeartbeats 4000000 in
set_option maxRecDepth 100000 in
theorem k_L_addTraveller (l : Launch) (hl9 : l.stackTraces = false) (D : va_G) (cy : Nat → ClassId) (h1 : Nat) (p1 : Int32) (p2 : Int32) (p3 : Int32) (p4 : Int32) (h2 : Nat) (h3 : Nat) (h4 : Nat) (x5 : Value) (x6 : Value) (h7 : Nat) (x8 : Value) (x9 : Value) (x10 : Value) (x11 : Value) (x12 : Value) (x13 : Value) (x14 : Value) (x15 : Value) (h16 : Nat) (h17 : Nat) (h18 : Nat) (g19 : Nat → Int32) (g20 : Nat → Int32) (g21 : Nat → Int32) (sz : Nat) : Met l yL_addTraveller wsL_addTraveller ({ frames := 9, cells := 6, slots := 36, locals := 153 }) (kWX D cy [.ref h1, .int p1, .int p2, .int p3, .int p4, .ref h2] [(h1, .inr (9, [.ref h3, .ref h4, x5, x6, .ref h7, x8, x9])), (h3, .inr (2, [x10, x11, .int 0, x12])), (h4, .inr (5, [x13, x14, .int 0])), (h7, .inr (4, [x15, .int 0, .ref h16, .ref h17, .ref h18])), (h16, .inl (cy 1, 256, .inl g19)), (h17, .inl (cy 1, 256, .inl g20)), (h18, .inl (cy 1, 256, .inl g21))] sz) (va_Qi (fun (r : Int32) (_ : Unit) => ((r = 1 ∧ (¬ ((((0 : Int) ≤ p1.toInt ∧ p1.toInt ≤ (5 : Int)) ∧ ((0 : Int) ≤ p2.toInt ∧ p2.toInt ≤ (5 : Int)) ∧ p1.toInt ≠ p2.toInt)) ∨ ((((0 : Int) ≤ p1.toInt ∧ p1.toInt ≤ (5 : Int)) ∧ ((0 : Int) ≤ p2.toInt ∧ p2.toInt ≤ (5 : Int)) ∧ p1.toInt ≠ p2.toInt) ∧ ¬ ((((1 : Int) ≤ p3.toInt ∧ p3.toInt ≤ (3 : Int)) ∧ ((0 : Int) ≤ p4.toInt ∧ p4.toInt ≤ (9 : Int))))))) ∨ (r = 2 ∧ ((((0 : Int) ≤ p1.toInt ∧ p1.toInt ≤ (5 : Int)) ∧ ((0 : Int) ≤ p2.toInt ∧ p2.toInt ≤ (5 : Int)) ∧ p1.toInt ≠ p2.toInt) ∧ (((1 : Int) ≤ p3.toInt ∧ p3.toInt ≤ (3 : Int)) ∧ ((0 : Int) ≤ p4.toInt ∧ p4.toInt ≤ (9 : Int))))))) (fun (_ : Unit) (t : State) => va_P D vwCl [] t.heap ∧ va_D (va_A [(h1, .inr (9, [.ref h3, .ref h4, x5, x6, .ref h7, x8, x9])), (h3, .inr (2, [x10, x11, .int 0, x12])), (h4, .inr (5, [x13, x14, .int 0])), (h7, .inr (4, [x15, .int 0, .ref h16, .ref h17, .ref h18])), (h16, .inl (cy 1, 256, .inl g19)), (h17, .inl (cy 1, 256, .inl g20)), (h18, .inl (cy 1, 256, .inl g21))] sz) []) (va_A [(h1, .inr (9, [.ref h3, .ref h4, x5, x6, .ref h7, x8, x9])), (h3, .inr (2, [x10, x11, .int 0, x12])), (h4, .inr (5, [x13, x14, .int 0])), (h7, .inr (4, [x15, .int 0, .ref h16, .ref h17, .ref h18])), (h16, .inl (cy 1, 256, .inl g19)), (h17, .inl (cy 1, 256, .inl g20)), (h18, .inl (cy 1, 256, .inl g21))] sz)) 6 36 (va_A [(h1, .inr (9, [.ref h3, .ref h4, x5, x6, .ref h7, x8, x9])), (h3, .inr (2, [x10, x11, .int 0, x12])), (h4, .inr (5, [x13, x14, .int 0])), (h7, .inr (4, [x15, .int 0, .ref h16, .ref h17, .ref h18])), (h16, .inl (cy 1, 256, .inl g19)), (h17, .inl (cy 1, 256, .inl g20)), (h18, .inl (cy 1, 256, .inl g21))] sz) := by
  refine va_MetW (cc := cL_addTraveller) (maxL := 7) (ret := (some .int)) (by decide) rfl ?_
  intro p e s m args below meth c s₁ B hml hv
  obtain ⟨rfl, hsz, hP, hK, hD0, hE⟩ := hv
  have hx := B.exec
  have hb := B.bytes
  have hr := B.returns
  have hts := atoms_spec (ws := wsL_addTraveller) B.pre
  have hown : s.vm.findClass RL = some m.cls := findClass_of_methodNamed B.named
  have hlocks := B.notSynchronized
  have htb := vx_table (x := yL_addTraveller) B (hts _ (List.mem_cons_self))
  subst hsz
  have hD := hD0.self (sz := s.heap.size)
  generalize hAe : va_A [(h1, .inr (9, [.ref h3, .ref h4, x5, x6, .ref h7, x8, x9])), (h3, .inr (2, [x10, x11, .int 0, x12])), (h4, .inr (5, [x13, x14, .int 0])), (h7, .inr (4, [x15, .int 0, .ref h16, .ref h17, .ref h18])), (h16, .inl (cy 1, 256, .inl g19)), (h17, .inl (cy 1, 256, .inl g20)), (h18, .inl (cy 1, 256, .inl g21))] s.heap.size = A at hD hE ⊢
  have hA : ∀ q : Nat, s.heap.size ≤ q → A q := fun q h => by rw [← hAe]; exact Or.inr h
  have hS : va_S A s.heap s.heap [] := va_S.rf
  have hP : va_P D vwCl [(h1, .inr (9, [.ref h3, .ref h4, x5, x6, .ref h7, x8, x9])), (h3, .inr (2, [x10, x11, .int 0, x12])), (h4, .inr (5, [x13, x14, .int 0])), (h7, .inr (4, [x15, .int 0, .ref h16, .ref h17, .ref h18])), (h16, .inl (cy 1, 256, .inl g19)), (h17, .inl (cy 1, 256, .inl g20)), (h18, .inl (cy 1, 256, .inl g21))] s.heap := hP
  have hl := lv_entry ([.ref h1, .int p1, .int p2, .int p3, .int p4, .ref h2]) (n := 7) (Nat.le_of_ble_eq_true rfl)
  rw [lg_entry_eq]
  generalize (lg_sl ([.ref h1, .int p1, .int p2, .int p3, .int p4, .ref h2]) ++ List.replicate (7 - (lg_sl ([.ref h1, .int p1, .int p2, .int p3, .int p4, .ref h2])).length) Slot.unset).toArray = ls at hl ⊢
  have hl : lv_has ls 7 [(0, .ref h1), (1, .int p1), (2, .int p2), (3, .int p3), (4, .int p4), (5, .ref h2)] := hl
  refine lv_aload hx hb dL_addTraveller_0 (lv_at hl 5 rfl) ?_
  refine lv_iconst (v := 0) hx hb dL_addTraveller_2 (by decide) ?_
  refine lv_aload_n hx hb dL_addTraveller_3 rfl (lv_at hl 0 rfl) ?_
  refine lv_iload_n hx hb dL_addTraveller_4 rfl (lv_at hl 1 rfl) ?_
  refine lv_iload_n hx hb dL_addTraveller_5 rfl (lv_at hl 2 rfl) ?_
  refine lv_iload_n hx hb dL_addTraveller_6 rfl (lv_at hl 3 rfl) ?_
  refine lv_iload hx hb dL_addTraveller_7 (lv_at hl 4 rfl) ?_
  have hPc := hP.sub (ws' := [(h1, .inr (9, [.ref h3, .ref h4, x5, x6, .ref h7, x8, x9])), (h3, .inr (2, [x10, x11, .int 0, x12])), (h4, .inr (5, [x13, x14, .int 0])), (h7, .inr (4, [x15, .int 0, .ref h16, .ref h17, .ref h18])), (h16, .inl (cy 1, 256, .inl g19)), (h17, .inl (cy 1, 256, .inl g20)), (h18, .inl (cy 1, 256, .inl g21))]) [0, 1, 2, 3, 4, 5, 6] rfl
  have hDc := hD.sub (ws' := [(h1, .inr (9, [.ref h3, .ref h4, x5, x6, .ref h7, x8, x9])), (h3, .inr (2, [x10, x11, .int 0, x12])), (h4, .inr (5, [x13, x14, .int 0])), (h7, .inr (4, [x15, .int 0, .ref h16, .ref h17, .ref h18])), (h16, .inl (cy 1, 256, .inl g19)), (h17, .inl (cy 1, 256, .inl g20)), (h18, .inl (cy 1, 256, .inl g21))]) [0, 1, 2, 3, 4, 5, 6] (by decide) rfl
  have hFc := va_free (wc := [(h1, .inr (9, [.ref h3, .ref h4, x5, x6, .ref h7, x8, x9])), (h3, .inr (2, [x10, x11, .int 0, x12])), (h4, .inr (5, [x13, x14, .int 0])), (h7, .inr (4, [x15, .int 0, .ref h16, .ref h17, .ref h18])), (h16, .inl (cy 1, 256, .inl g19)), (h17, .inl (cy 1, 256, .inl g20)), (h18, .inl (cy 1, 256, .inl g21))]) hD hS hA [0, 1, 2, 3, 4, 5, 6] rfl
  refine vx_calli (vx_runV (As := [.int p1, .int p2, .int p3, .int p4]) (rest := [.int 0, .ref h2]) ⟨hx, hb, hml, hown, hts⟩ (k_X7_addTraveller l hl9 D cy h1 p1 p2 p3 p4 h3 h4 (x5) (x6) h7 (x8) (x9) (x10) (x11) (x12) (x13) (x14) (x15) h16 h17 h18 g19 g20 g21 s.heap.size) (cwV 4 hts gL_addTraveller_X7_addTraveller rfl rfl rfl (by decide +kernel) ⟨(Nat.le_of_ble_eq_true rfl), (Nat.le_of_ble_eq_true rfl)⟩) ⟨kWX_fb, va_recv hK hP (ci := 9) (q0 := 0) rfl rfl, (kWX_go hPc hK hDc hFc hE hS)⟩ rfl rfl hl.1 rfl (lv_room (Nat.le_of_ble_eq_true rfl)) dL_addTraveller_9 ⟨(Nat.le_of_ble_eq_true rfl), (Nat.le_of_ble_eq_true rfl)⟩) hS (fun q _ h => hFc q h) hFc (fun q _ h => hFc q h) (fun E9 ce9 q9 u t H locs ht hvm hw hB hz1 hk1 hS hce hcv hcl => ?_) (fun r9 u t H locs ht hvm hw hB hz1 hk1 hS => ?_)
  · rcases hB with ⟨rfl, hB⟩ | ⟨rfl, hB⟩
    · have f_1 : (¬ ((((0 : Int) ≤ p1.toInt ∧ p1.toInt ≤ (5 : Int)) ∧ ((0 : Int) ≤ p2.toInt ∧ p2.toInt ≤ (5 : Int)) ∧ p1.toInt ≠ p2.toInt)) ∨ ((((0 : Int) ≤ p1.toInt ∧ p1.toInt ≤ (5 : Int)) ∧ ((0 : Int) ≤ p2.toInt ∧ p2.toInt ≤ (5 : Int)) ∧ p1.toInt ≠ p2.toInt) ∧ ¬ ((((1 : Int) ≤ p3.toInt ∧ p3.toInt ≤ (3 : Int)) ∧ ((0 : Int) ≤ p4.toInt ∧ p4.toInt ≤ (9 : Int)))))) := hB
      obtain ⟨hP, hD⟩ := va_join (wr := []) (w1 := []) hP hD [0, 1, 2, 3, 4, 5, 6] [] rfl rfl (by decide) (by decide) hk1 hFc (fun k q h => by simp at h) ⟨fun i j p q h => by simp at h, fun k q h => by simp at h⟩
      have hP : va_P D vwCl [] H := hP
      have hD : va_D A [] := hD
      refine vx_catch (E := "java/lang/IllegalArgumentException") (name := "java/lang/IllegalArgumentException") hown [] (⟨0, 14, 17, 13⟩ : ExceptionTableEntry) [(⟨0, 14, 21, 36⟩ : ExceptionTableEntry), (⟨0, 14, 25, 15⟩ : ExceptionTableEntry)] htb (fun _ h => absurd h List.not_mem_nil) rfl (by decide) (hts (.classLink RL 13 "java/lang/IllegalArgumentException") (List.mem_cons_of_mem _ (List.mem_append_left _ (List.mem_append_left _ (List.mem_append_left _ (List.mem_append_left _ (List.mem_append_left _ (List.mem_append_left _ (List.mem_append_left _ (List.mem_append_left _ (List.mem_append_left _ (List.mem_append_left _ (List.mem_append_left _ (List.mem_of_getElem? (i := 0) rfl)))))))))))))) (exP.cast hE "java/lang/IllegalArgumentException" (by decide +kernel)) hce hcv hcl ?_
      refine lv_astore (lv' := [(6, .ref q9), (0, .ref h1), (1, .int p1), (2, .int p2), (3, .int p3), (4, .int p4), (5, .ref h2)]) hx hb dL_addTraveller_17 hl (by decide) rfl (fun ls hl => ?_)
      refine lv_iconst (v := 1) hx hb dL_addTraveller_19 (by decide) ?_
      refine W.widen (k := 6) (n := 36) (Nat.le_of_ble_eq_true rfl) (Nat.le_of_ble_eq_true rfl) ?_
      have hP9 := hP.sub (ws' := []) [] rfl
      have hD9 := hD.sub (ws' := []) [] (by decide) rfl
      exact W.iret (v := 1) hx hb hr (fun t ht hW => ⟨⟨1, (), rfl, Or.inl (⟨rfl, (by omega)⟩), ⟨by rw [ht]; exact hP9, hD9⟩⟩, hS.F ht⟩) hS.2.2 dL_addTraveller_20
    · have f_2 : ((((0 : Int) ≤ p1.toInt ∧ p1.toInt ≤ (5 : Int)) ∧ ((0 : Int) ≤ p2.toInt ∧ p2.toInt ≤ (5 : Int)) ∧ p1.toInt ≠ p2.toInt) ∧ (((1 : Int) ≤ p3.toInt ∧ p3.toInt ≤ (3 : Int)) ∧ ((0 : Int) ≤ p4.toInt ∧ p4.toInt ≤ (9 : Int)))) := hB
      obtain ⟨hP, hD⟩ := va_join (wr := []) (w1 := []) hP hD [0, 1, 2, 3, 4, 5, 6] [] rfl rfl (by decide) (by decide) hk1 hFc (fun k q h => by simp at h) ⟨fun i j p q h => by simp at h, fun k q h => by simp at h⟩
      have hP : va_P D vwCl [] H := hP
      have hD : va_D A [] := hD
      refine vx_catch (E := "java/util/NoSuchElementException") (name := "java/util/NoSuchElementException") hown [(⟨0, 14, 17, 13⟩ : ExceptionTableEntry)] (⟨0, 14, 21, 36⟩ : ExceptionTableEntry) [(⟨0, 14, 25, 15⟩ : ExceptionTableEntry)] htb (List.forall_mem_cons.mpr ⟨Or.inr ⟨by decide, "java/lang/IllegalArgumentException", (hts (.classLink RL 13 "java/lang/IllegalArgumentException") (List.mem_cons_of_mem _ (List.mem_append_left _ (List.mem_append_left _ (List.mem_append_left _ (List.mem_append_left _ (List.mem_append_left _ (List.mem_append_left _ (List.mem_append_left _ (List.mem_append_left _ (List.mem_append_left _ (List.mem_append_left _ (List.mem_append_left _ (List.mem_of_getElem? (i := 0) rfl)))))))))))))), exP.nc hE "java/util/NoSuchElementException" "java/lang/IllegalArgumentException" (by decide +kernel) (by decide +kernel) (by decide +kernel)⟩, (fun _ h => absurd h List.not_mem_nil)⟩) rfl (by decide) (hts (.classLink RL 36 "java/util/NoSuchElementException") (List.mem_cons_of_mem _ (List.mem_append_left _ (List.mem_append_left _ (List.mem_append_left _ (List.mem_append_left _ (List.mem_append_left _ (List.mem_append_left _ (List.mem_append_left _ (List.mem_append_left _ (List.mem_append_left _ (List.mem_append_left _ (List.mem_append_left _ (List.mem_of_getElem? (i := 1) rfl)))))))))))))) (exP.cast hE "java/util/NoSuchElementException" (by decide +kernel)) hce hcv hcl ?_
      refine lv_astore (lv' := [(6, .ref q9), (0, .ref h1), (1, .int p1), (2, .int p2), (3, .int p3), (4, .int p4), (5, .ref h2)]) hx hb dL_addTraveller_21 hl (by decide) rfl (fun ls hl => ?_)
      refine lv_iconst (v := 2) hx hb dL_addTraveller_23 (by decide) ?_
      refine W.widen (k := 6) (n := 36) (Nat.le_of_ble_eq_true rfl) (Nat.le_of_ble_eq_true rfl) ?_
      have hP9 := hP.sub (ws' := []) [] rfl
      have hD9 := hD.sub (ws' := []) [] (by decide) rfl
      exact W.iret (v := 2) hx hb hr (fun t ht hW => ⟨⟨2, (), rfl, Or.inr (⟨rfl, (by omega)⟩), ⟨by rw [ht]; exact hP9, hD9⟩⟩, hS.F ht⟩) hS.2.2 dL_addTraveller_24
  · exact (show False from hw).elim
theorem dJxa1e45_init_da8c8_0 : decode cJxa1e45_init_da8c8 0 = .ok (.aload_n 0, 1) := by decide +kernel
theorem dJxa1e45_init_da8c8_1 : decode cJxa1e45_init_da8c8 1 = .ok (.invokespecial 1, 3) := by decide +kernel
theorem dJxa1e45_init_da8c8_4 : decode cJxa1e45_init_da8c8 4 = .ok (.return_, 1) := by decide +kernel
set_option maxHeartbeats 4000000 in
set_option maxRecDepth 100000 in
theorem k_Jxa1e45_init_da8c8 (l : Launch) (D : va_G) (cy : Nat → ClassId) (h1 : Nat) : Met l yJxa1e45_init_da8c8 wsJxa1e45_init_da8c8 ({ frames := 1, cells := 0, slots := 0, locals := 12 }) (kR D cy [.ref h1] []) (va_Qv (fun (_ : Unit) => True) (fun (_ : Unit) (_ : State) => True) (fun _ : Nat => False)) 0 0 (fun _ : Nat => False) := by
  refine Met.ofW (cc := cJxa1e45_init_da8c8) (maxL := 1) (ret := none) (by decide) rfl ?_
  intro p e s m args below meth c s₁ B hml hv
  obtain ⟨rfl, hP, hK⟩ := hv
  have hx := B.exec
  have hb := B.bytes
  have hr := B.returns
  have hts := atoms_spec (ws := wsJxa1e45_init_da8c8) B.pre
  have hown : s.vm.findClass RJxa1e45 = some m.cls := findClass_of_methodNamed B.named
  have hlocks := B.notSynchronized
  have hin : meth.name = "<init>" := (name_of_methodNamed B.named B.method).1
  have hS : va_S (fun _ : Nat => False) s.heap s.heap [] := va_S.rf
  have hP : va_P D vwCl [] s.heap := hP
  have hl := lv_entry ([.ref h1]) (n := 1) (Nat.le_of_ble_eq_true rfl)
  rw [lg_entry_eq]
  generalize (lg_sl ([.ref h1]) ++ List.replicate (1 - (lg_sl ([.ref h1])).length) Slot.unset).toArray = ls at hl ⊢
  have hl : lv_has ls 1 [(0, .ref h1)] := hl
  refine lv_aload_n hx hb dJxa1e45_init_da8c8_0 rfl (lv_at hl 0 rfl) ?_
  refine W.objInit hx hb hown (hts (.methodLink RJxa1e45 1 objectInit) (List.mem_cons_of_mem _ (List.mem_of_getElem? (i := 0) rfl))) (hts (.instanceMethod objectInit) (List.mem_cons_of_mem _ (List.mem_of_getElem? (i := 1) rfl))) (hts (.code objectInit ⟨#[0xb1]⟩ 1 none) (List.mem_cons_of_mem _ (List.mem_of_getElem? (i := 2) rfl))) rfl (by rw [hml]; exact hl.1) rfl dJxa1e45_init_da8c8_1 (Nat.le_of_ble_eq_true rfl) (Nat.le_of_ble_eq_true rfl) ?_
  refine W.eq (g2 := F0 m 4 ls []) rfl ?_
  refine W.widen (k := 0) (n := 0) (Nat.le_of_ble_eq_true rfl) (Nat.le_of_ble_eq_true rfl) ?_
  exact W.vret hx hb hr (fun t ht hW => ⟨⟨(), rfl, trivial, trivial⟩, hS.F ht⟩) hS.2.2 dJxa1e45_init_da8c8_4
theorem dJxc12de_init_da8c8_0 : decode cJxc12de_init_da8c8 0 = .ok (.aload_n 0, 1) := by decide +kernel
theorem dJxc12de_init_da8c8_1 : decode cJxc12de_init_da8c8 1 = .ok (.invokespecial 1, 3) := by decide +kernel
set_option maxRecDepth 20000 in
theorem ggJxc12de_init_da8c8_Jxa1e45_init_da8c8 : GoodIn wsJxc12de_init_da8c8 wsJxa1e45_init_da8c8 := goodIn_r _ [5, 6, 7, 8] (by decide +kernel) (by decide +kernel)
set_option maxRecDepth 20000 in
theorem gJxc12de_init_da8c8_Jxa1e45_init_da8c8 : GoodIn wsJxc12de_init_da8c8 (wsJxa1e45_init_da8c8) := ggJxc12de_init_da8c8_Jxa1e45_init_da8c8
theorem dJxc12de_init_da8c8_4 : decode cJxc12de_init_da8c8 4 = .ok (.aload_n 0, 1) := by decide +kernel
theorem dJxc12de_init_da8c8_5 : decode cJxc12de_init_da8c8 5 = .ok (.iconst 0, 1) := by decide +kernel
theorem dJxc12de_init_da8c8_6 : decode cJxc12de_init_da8c8 6 = .ok (.putfield 7, 3) := by decide +kernel
theorem dJxc12de_init_da8c8_9 : decode cJxc12de_init_da8c8 9 = .ok (.return_, 1) := by decide +kernel
set_option maxHeartbeats 4000000 in
set_option maxRecDepth 100000 in
theorem k_Jxc12de_init_da8c8 (l : Launch) (D : va_G) (cy : Nat → ClassId) (h1 : Nat) (x2 : Value) (x3 : Value) (x4 : Value) (sz : Nat) : Met l yJxc12de_init_da8c8 wsJxc12de_init_da8c8 ({ frames := 2, cells := 0, slots := 0, locals := 32 }) (kW D cy [.ref h1] [(h1, .inr (1, [x2, x3, x4]))] sz) (va_Qv (fun (_ : Unit) => True) (fun (_ : Unit) (t : State) => va_P D vwCl [(h1, .inr (1, [.int 0, x3, x4]))] t.heap ∧ va_D (va_A [(h1, .inr (1, [x2, x3, x4]))] sz) [(h1, .inr (1, [.int 0, x3, x4]))]) (va_A [(h1, .inr (1, [x2, x3, x4]))] sz)) 0 0 (va_A [(h1, .inr (1, [x2, x3, x4]))] sz) := by
  refine Met.ofW (cc := cJxc12de_init_da8c8) (maxL := 1) (ret := none) (by decide) rfl ?_
  intro p e s m args below meth c s₁ B hml hv
  obtain ⟨rfl, hsz, hP, hK, hD0⟩ := hv
  have hx := B.exec
  have hb := B.bytes
  have hr := B.returns
  have hts := atoms_spec (ws := wsJxc12de_init_da8c8) B.pre
  have hown : s.vm.findClass RJxc12de = some m.cls := findClass_of_methodNamed B.named
  have hlocks := B.notSynchronized
  have hin : meth.name = "<init>" := (name_of_methodNamed B.named B.method).1
  subst hsz
  have hD := hD0.self (sz := s.heap.size)
  generalize hAe : va_A [(h1, .inr (1, [x2, x3, x4]))] s.heap.size = A at hD ⊢
  have hA : ∀ q : Nat, s.heap.size ≤ q → A q := fun q h => by rw [← hAe]; exact Or.inr h
  have hS : va_S A s.heap s.heap [] := va_S.rf
  have hP : va_P D vwCl [(h1, .inr (1, [x2, x3, x4]))] s.heap := hP
  have hl := lv_entry ([.ref h1]) (n := 1) (Nat.le_of_ble_eq_true rfl)
  rw [lg_entry_eq]
  generalize (lg_sl ([.ref h1]) ++ List.replicate (1 - (lg_sl ([.ref h1])).length) Slot.unset).toArray = ls at hl ⊢
  have hl : lv_has ls 1 [(0, .ref h1)] := hl
  refine lv_aload_n hx hb dJxc12de_init_da8c8_0 rfl (lv_at hl 0 rfl) ?_
  have hPc := hP.sub (ws' := []) [] rfl
  refine va_callv (va_runI (As := []) (rest := []) ⟨hx, hb, hml, hown, hts⟩ (k_Jxa1e45_init_da8c8 l D cy h1) (cwI 0 hts gJxc12de_init_da8c8_Jxa1e45_init_da8c8 rfl rfl rfl (hts (.initialized RJxa1e45) (List.mem_cons_of_mem _ (List.mem_append_left _ (List.mem_of_getElem? (i := 3) rfl)))) (hts (.methodLink RJxc12de 1 yJxa1e45_init_da8c8) (List.mem_cons_of_mem _ (List.mem_append_left _ (List.mem_of_getElem? (i := 1) rfl)))) (hts (.instanceMethod yJxa1e45_init_da8c8) (List.mem_cons_of_mem _ (List.mem_append_left _ (List.mem_of_getElem? (i := 2) rfl)))) rfl (by decide +kernel) ⟨(Nat.le_of_ble_eq_true rfl), (Nat.le_of_ble_eq_true rfl)⟩) ⟨kR_fb, (kR_go hPc hK)⟩ rfl rfl hl.1 rfl (lv_room (Nat.le_of_ble_eq_true rfl)) dJxc12de_init_da8c8_1 ⟨(Nat.le_of_ble_eq_true rfl), (Nat.le_of_ble_eq_true rfl)⟩) hS (fun _ _ h => h.elim) (fun _ h => h.elim) (fun u t H locs ht hvm hw hB hz1 hk1 hS => ?_)
  have hP := kx_kept hP hk1
  refine lv_aload_n hx hb dJxc12de_init_da8c8_4 rfl (lv_at hl 0 rfl) ?_
  refine lv_iconst (v := 0) hx hb dJxc12de_init_da8c8_5 (by decide) ?_
  refine va_put (D := D) (ci := 1) (v := .int 0) (ty := .int) (C := RJx4a65c) (T := TJx4a65c) (N := 3) hx hb hts (fun _ h => (List.mem_cons_of_mem _ (List.mem_append_right _ h))) tyJx4a65c tyJx4a65c_ok nmJx4a65c hown hK hP hD hS 0 rfl rfl 0 (by decide) (hts (.fieldLink RJxc12de 7 "java/util/AbstractList" "modCount" "I") (List.mem_cons_of_mem _ (List.mem_append_left _ (List.mem_of_getElem? (i := 0) rfl)))) (fun _ h9 => h9) rfl (by decide +kernel) rfl rfl (Nat.le_of_ble_eq_true rfl) dJxc12de_init_da8c8_6 (fun H locs hP hD hS => ?_)
  have hP : va_P D vwCl [(h1, .inr (1, [.int 0, x3, x4]))] H := hP
  have hD : va_D A [(h1, .inr (1, [.int 0, x3, x4]))] := hD
  refine W.widen (k := 0) (n := 0) (Nat.le_of_ble_eq_true rfl) (Nat.le_of_ble_eq_true rfl) ?_
  have hP9 := hP.sub (ws' := [(h1, .inr (1, [.int 0, x3, x4]))]) [0] rfl
  have hD9 := hD.sub (ws' := [(h1, .inr (1, [.int 0, x3, x4]))]) [0] (by decide) rfl
  exact W.vret hx hb hr (fun t ht hW => ⟨⟨(), rfl, trivial, ⟨by rw [ht]; exact hP9, hD9⟩⟩, hS.F ht⟩) hS.2.2 dJxc12de_init_da8c8_9
theorem dJx4a65c_init_da8c8_0 : decode cJx4a65c_init_da8c8 0 = .ok (.aload_n 0, 1) := by decide +kernel
theorem dJx4a65c_init_da8c8_1 : decode cJx4a65c_init_da8c8 1 = .ok (.invokespecial 1, 3) := by decide +kernel
set_option maxRecDepth 20000 in
theorem ggJx4a65c_init_da8c8_Jxc12de_init_da8c8 : GoodIn wsJx4a65c_init_da8c8 wsJxc12de_init_da8c8 := goodIn_r _ [6, 7, 8, 9, 10, 11, 12, 13, 14, 15, 16, 17] (by decide +kernel) (by decide +kernel)
set_option maxRecDepth 20000 in
theorem gJx4a65c_init_da8c8_Jxc12de_init_da8c8 : GoodIn wsJx4a65c_init_da8c8 (wsJxc12de_init_da8c8) := ggJx4a65c_init_da8c8_Jxc12de_init_da8c8
theorem dJx4a65c_init_da8c8_4 : decode cJx4a65c_init_da8c8 4 = .ok (.aload_n 0, 1) := by decide +kernel
theorem dJx4a65c_init_da8c8_5 : decode cJx4a65c_init_da8c8 5 = .ok (.getstatic 39, 3) := by decide +kernel
theorem dJx4a65c_init_da8c8_8 : decode cJx4a65c_init_da8c8 8 = .ok (.putfield 9, 3) := by decide +kernel
theorem dJx4a65c_init_da8c8_11 : decode cJx4a65c_init_da8c8 11 = .ok (.return_, 1) := by decide +kernel
set_option maxHeartbeats 4000000 in
set_option maxRecDepth 100000 in
theorem k_Jx4a65c_init_da8c8 (l : Launch) (hl9 : l.stackTraces = false) (D : va_G) (cy : Nat → ClassId) (de : Nat) (h1 : Nat) (x2 : Value) (x3 : Value) (x4 : Value) (sz : Nat) : Met l yJx4a65c_init_da8c8 wsJx4a65c_init_da8c8 ({ frames := 3, cells := 0, slots := 0, locals := 52 }) (kWY D cy de [.ref h1] [(h1, .inr (1, [x2, x3, x4]))] sz) (va_Qv (fun (_ : Unit) => True) (fun (_ : Unit) (t : State) => va_P D vwCl [(h1, .inr (1, [.int 0, .ref de, x4]))] t.heap ∧ va_D (va_A [(h1, .inr (1, [x2, x3, x4]))] sz) [(h1, .inr (1, [.int 0, .ref de, x4]))]) (va_A [(h1, .inr (1, [x2, x3, x4]))] sz)) 0 0 (va_A [(h1, .inr (1, [x2, x3, x4]))] sz) := by
  refine Met.ofW (cc := cJx4a65c_init_da8c8) (maxL := 1) (ret := none) (by decide) rfl ?_
  intro p e s m args below meth c s₁ B hml hv
  obtain ⟨rfl, hsz, hP, hK, hD0, hE, hY⟩ := hv
  have hx := B.exec
  have hb := B.bytes
  have hr := B.returns
  have hts := atoms_spec (ws := wsJx4a65c_init_da8c8) B.pre
  have hown : s.vm.findClass RJx4a65c = some m.cls := findClass_of_methodNamed B.named
  have hlocks := B.notSynchronized
  have hin : meth.name = "<init>" := (name_of_methodNamed B.named B.method).1
  subst hsz
  have hD := hD0.self (sz := s.heap.size)
  generalize hAe : va_A [(h1, .inr (1, [x2, x3, x4]))] s.heap.size = A at hD hE hY ⊢
  have hA : ∀ q : Nat, s.heap.size ≤ q → A q := fun q h => by rw [← hAe]; exact Or.inr h
  have hS : va_S A s.heap s.heap [] := va_S.rf
  have hP : va_P D vwCl [(h1, .inr (1, [x2, x3, x4]))] s.heap := hP
  have hl := lv_entry ([.ref h1]) (n := 1) (Nat.le_of_ble_eq_true rfl)
  rw [lg_entry_eq]
  generalize (lg_sl ([.ref h1]) ++ List.replicate (1 - (lg_sl ([.ref h1])).length) Slot.unset).toArray = ls at hl ⊢
  have hl : lv_has ls 1 [(0, .ref h1)] := hl
  refine lv_aload_n hx hb dJx4a65c_init_da8c8_0 rfl (lv_at hl 0 rfl) ?_
  have hPc := hP.sub (ws' := [(h1, .inr (1, [x2, x3, x4]))]) [0] rfl
  have hDc := hD.sub (ws' := [(h1, .inr (1, [x2, x3, x4]))]) [0] (by decide) rfl
  have hFc := va_free (wc := [(h1, .inr (1, [x2, x3, x4]))]) hD hS hA [0] rfl
  refine va_callv (va_runI (As := []) (rest := []) ⟨hx, hb, hml, hown, hts⟩ (k_Jxc12de_init_da8c8 l D cy h1 (x2) (x3) (x4) s.heap.size) (cwI 0 hts gJx4a65c_init_da8c8_Jxc12de_init_da8c8 rfl rfl rfl (hts (.initialized RJxc12de) (List.mem_cons_of_mem _ (List.mem_append_left _ (List.mem_of_getElem? (i := 4) rfl)))) (hts (.methodLink RJx4a65c 1 yJxc12de_init_da8c8) (List.mem_cons_of_mem _ (List.mem_append_left _ (List.mem_of_getElem? (i := 2) rfl)))) (hts (.instanceMethod yJxc12de_init_da8c8) (List.mem_cons_of_mem _ (List.mem_append_left _ (List.mem_of_getElem? (i := 3) rfl)))) rfl (by decide +kernel) ⟨(Nat.le_of_ble_eq_true rfl), (Nat.le_of_ble_eq_true rfl)⟩) ⟨kW_fb, (kW_go hPc hK hDc)⟩ rfl rfl hl.1 rfl (lv_room (Nat.le_of_ble_eq_true rfl)) dJx4a65c_init_da8c8_1 ⟨(Nat.le_of_ble_eq_true rfl), (Nat.le_of_ble_eq_true rfl)⟩) hS (fun q _ h => hFc q h) hFc (fun u t H locs ht hvm hw hB hz1 hk1 hS => ?_)
  obtain ⟨hP1, hD1⟩ := hB
  rw [ht] at hP1
  try dsimp only at hw hP1 hD1
  obtain ⟨hP, hD⟩ := va_join (wr := []) (w1 := [(h1, .inr (1, [.int 0, x3, x4]))]) hP hD [0] [] rfl rfl (by decide) (by decide) hk1 hFc hP1 hD1
  have hP : va_P D vwCl [(h1, .inr (1, [.int 0, x3, x4]))] H := hP
  have hD : va_D A [(h1, .inr (1, [.int 0, x3, x4]))] := hD
  refine lv_aload_n hx hb dJx4a65c_init_da8c8_4 rfl (lv_at hl 0 rfl) ?_
  refine va_gets hx hb hY.1 hS hown (hts (.fieldLink RJx4a65c 39 "java/util/ArrayList" "DEFAULTCAPACITY_EMPTY_ELEMENTDATA" "[Ljava/lang/Object;") (List.mem_cons_of_mem _ (List.mem_append_left _ (List.mem_of_getElem? (i := 0) rfl)))) (fun _ h9 => h9) dJx4a65c_init_da8c8_5 ?_
  refine va_put (D := D) (ci := 1) (v := .ref de) (ty := .array (.object "java/lang/Object")) (C := RJx4a65c) (T := TJx4a65c) (N := 3) hx hb hts (fun _ h => (List.mem_cons_of_mem _ (List.mem_append_right _ h))) tyJx4a65c tyJx4a65c_ok nmJx4a65c hown hK hP hD hS 0 rfl rfl 1 (by decide) (hts (.fieldLink RJx4a65c 9 "java/util/ArrayList" "elementData" "[Ljava/lang/Object;") (List.mem_cons_of_mem _ (List.mem_append_left _ (List.mem_of_getElem? (i := 1) rfl)))) (fun _ h9 => h9) rfl (by decide +kernel) rfl rfl (Nat.le_of_ble_eq_true rfl) dJx4a65c_init_da8c8_8 (fun H locs hP hD hS => ?_)
  have hP : va_P D vwCl [(h1, .inr (1, [.int 0, .ref de, x4]))] H := hP
  have hD : va_D A [(h1, .inr (1, [.int 0, .ref de, x4]))] := hD
  refine W.widen (k := 0) (n := 0) (Nat.le_of_ble_eq_true rfl) (Nat.le_of_ble_eq_true rfl) ?_
  have hP9 := hP.sub (ws' := [(h1, .inr (1, [.int 0, .ref de, x4]))]) [0] rfl
  have hD9 := hD.sub (ws' := [(h1, .inr (1, [.int 0, .ref de, x4]))]) [0] (by decide) rfl
  exact W.vret hx hb hr (fun t ht hW => ⟨⟨(), rfl, trivial, ⟨by rw [ht]; exact hP9, hD9⟩⟩, hS.F ht⟩) hS.2.2 dJx4a65c_init_da8c8_11
theorem dX8_walks_0 : decode cX8_walks 0 = .ok (.iload_n 3, 1) := by decide +kernel
theorem dX8_walks_1 : decode cX8_walks 1 = .ok (.ifCond .ne 20, 3) := by decide +kernel
theorem dX8_walks_21 : decode cX8_walks 21 = .ok (.iconst 0, 1) := by decide +kernel
theorem dX8_walks_22 : decode cX8_walks 22 = .ok (.istore 7, 2) := by decide +kernel
theorem dX8_walks_24 : decode cX8_walks 24 = .ok (.iload 7, 2) := by decide +kernel
theorem dX8_walks_26 : decode cX8_walks 26 = .ok (.aload_n 0, 1) := by decide +kernel
theorem dX8_walks_27 : decode cX8_walks 27 = .ok (.getfield 62, 3) := by decide +kernel
theorem dX8_walks_30 : decode cX8_walks 30 = .ok (.if_icmp .ge 88, 3) := by decide +kernel
theorem dX8_walks_118 : decode cX8_walks 118 = .ok (.return_, 1) := by decide +kernel
set_option maxHeartbeats 4000000 in
set_option maxRecDepth 100000 in
theorem k_X8_walks (l : Launch) (D : va_G) (cy : Nat → ClassId) (h1 : Nat) (p0 : Int32) (p1 : Int32) (p3 : Int32) (h2 : Nat) (x3 : Value) (x4 : Value) (x5 : Value) (x6 : Value) (x7 : Value) (x8 : Value) (x9 : Value) (x10 : Value) (x11 : Value) (x12 : Value) (x13 : Value) (x14 : Value) (x15 : Value) (x16 : Value) (x17 : Value) (x18 : Value) (x19 : Value) : Met l yX8_walks wsX8_walks ({ frames := 0, cells := 0, slots := 0, locals := 0 }) (kR D cy [.ref h1, .int p0, .int p1, .int 1, .int p3, .int 0, .ref h2] [(h1, .inr (10, [x3, x4, x5, x6, x7, x8, x9, x10, x11, x12, x13, x14, x15, x16, .int 0, x17, x18, x19]))]) (va_Qv (fun (_ : Unit) => True) (fun (_ : Unit) (_ : State) => True) (fun _ : Nat => False)) 0 0 (fun _ : Nat => False) := by
  refine Met.ofW (cc := cX8_walks) (maxL := 8) (ret := none) (by decide) rfl ?_
  intro p e s m args below meth c s₁ B hml hv
  obtain ⟨rfl, hP, hK⟩ := hv
  have hx := B.exec
  have hb := B.bytes
  have hr := B.returns
  have hts := atoms_spec (ws := wsX8_walks) B.pre
  have hown : s.vm.findClass RX8 = some m.cls := findClass_of_methodNamed B.named
  have hlocks := B.notSynchronized
  have hS : va_S (fun _ : Nat => False) s.heap s.heap [] := va_S.rf
  have hP : va_P D vwCl [(h1, .inr (10, [x3, x4, x5, x6, x7, x8, x9, x10, x11, x12, x13, x14, x15, x16, .int 0, x17, x18, x19]))] s.heap := hP
  have hl := lv_entry ([.ref h1, .int p0, .int p1, .int 1, .int p3, .int 0, .ref h2]) (n := 8) (Nat.le_of_ble_eq_true rfl)
  rw [lg_entry_eq]
  generalize (lg_sl ([.ref h1, .int p0, .int p1, .int 1, .int p3, .int 0, .ref h2]) ++ List.replicate (8 - (lg_sl ([.ref h1, .int p0, .int p1, .int 1, .int p3, .int 0, .ref h2])).length) Slot.unset).toArray = ls at hl ⊢
  have hl : lv_has ls 8 [(0, .ref h1), (1, .int p0), (2, .int p1), (3, .int 1), (4, .int p3), (5, .int 0), (6, .ref h2)] := hl
  refine lv_iload_n hx hb dX8_walks_0 rfl (lv_at hl 3 rfl) ?_
  refine lv_if_ne (tgt := 21) hx hb dX8_walks_1 (by decide) (fun _ => ?_) (fun h => absurd h (by decide))
  refine lv_iconst (v := 0) hx hb dX8_walks_21 (by decide) ?_
  refine lv_istore (lv' := [(7, .int 0), (0, .ref h1), (1, .int p0), (2, .int p1), (3, .int 1), (4, .int p3), (5, .int 0), (6, .ref h2)]) hx hb dX8_walks_22 hl (by decide) rfl (fun ls hl => ?_)
  refine lv_iload hx hb dX8_walks_24 (lv_at hl 0 rfl) ?_
  refine lv_aload_n hx hb dX8_walks_26 rfl (lv_at hl 1 rfl) ?_
  refine va_get (D := D) (ci := 10) (v := .int 0) (C := RX8) (T := TX8) (N := 18) hx hb hts (fun _ h => (List.mem_cons_of_mem _ (List.mem_append_left _ (List.mem_append_left _ (List.mem_append_left _ (List.mem_append_right _ h)))))) hown hK hP 0 rfl rfl 14 (by decide) (hts (.fieldLink RX8 62 "SelfishJunctionModel" "resources" "I") (List.mem_cons_of_mem _ (List.mem_append_left _ (List.mem_append_left _ (List.mem_append_left _ (List.mem_append_left _ (List.mem_append_left _ (List.mem_of_getElem? (i := 0) rfl)))))))) (fun _ h9 => h9) rfl dX8_walks_27 ?_
  refine lv_icmp_ge (tgt := 118) hx hb dX8_walks_30 (by decide) (fun _ => ?_) (fun h => absurd (by decide) h)
  refine W.widen (k := 0) (n := 0) (Nat.le_of_ble_eq_true rfl) (Nat.le_of_ble_eq_true rfl) ?_
  exact W.vret hx hb hr (fun t ht hW => ⟨⟨(), rfl, trivial, trivial⟩, hS.F ht⟩) hS.2.2 dX8_walks_118
set_option maxHeartbeats 4000000 in
set_option maxRecDepth 100000 in
theorem k_X8_walks_1 (l : Launch) (D : va_G) (cy : Nat → ClassId) (h1 : Nat) (p0 : Int32) (p1 : Int32) (p3 : Int32) (h2 : Nat) (x3 : Value) (x4 : Value) (x5 : Value) (x6 : Value) (x7 : Value) (x8 : Value) (x9 : Value) (x10 : Value) (x11 : Value) (x12 : Value) (x13 : Value) (x14 : Value) (x15 : Value) (x16 : Value) (x17 : Value) (x18 : Value) (x19 : Value) : Met l yX8_walks wsX8_walks ({ frames := 0, cells := 0, slots := 0, locals := 0 }) (kR D cy [.ref h1, .int p0, .int p1, .int 2, .int p3, .int 0, .ref h2] [(h1, .inr (10, [x3, x4, x5, x6, x7, x8, x9, x10, x11, x12, x13, x14, x15, x16, .int 0, x17, x18, x19]))]) (va_Qv (fun (_ : Unit) => True) (fun (_ : Unit) (_ : State) => True) (fun _ : Nat => False)) 0 0 (fun _ : Nat => False) := by
  refine Met.ofW (cc := cX8_walks) (maxL := 8) (ret := none) (by decide) rfl ?_
  intro p e s m args below meth c s₁ B hml hv
  obtain ⟨rfl, hP, hK⟩ := hv
  have hx := B.exec
  have hb := B.bytes
  have hr := B.returns
  have hts := atoms_spec (ws := wsX8_walks) B.pre
  have hown : s.vm.findClass RX8 = some m.cls := findClass_of_methodNamed B.named
  have hlocks := B.notSynchronized
  have hS : va_S (fun _ : Nat => False) s.heap s.heap [] := va_S.rf
  have hP : va_P D vwCl [(h1, .inr (10, [x3, x4, x5, x6, x7, x8, x9, x10, x11, x12, x13, x14, x15, x16, .int 0, x17, x18, x19]))] s.heap := hP
  have hl := lv_entry ([.ref h1, .int p0, .int p1, .int 2, .int p3, .int 0, .ref h2]) (n := 8) (Nat.le_of_ble_eq_true rfl)
  rw [lg_entry_eq]
  generalize (lg_sl ([.ref h1, .int p0, .int p1, .int 2, .int p3, .int 0, .ref h2]) ++ List.replicate (8 - (lg_sl ([.ref h1, .int p0, .int p1, .int 2, .int p3, .int 0, .ref h2])).length) Slot.unset).toArray = ls at hl ⊢
  have hl : lv_has ls 8 [(0, .ref h1), (1, .int p0), (2, .int p1), (3, .int 2), (4, .int p3), (5, .int 0), (6, .ref h2)] := hl
  refine lv_iload_n hx hb dX8_walks_0 rfl (lv_at hl 3 rfl) ?_
  refine lv_if_ne (tgt := 21) hx hb dX8_walks_1 (by decide) (fun _ => ?_) (fun h => absurd h (by decide))
  refine lv_iconst (v := 0) hx hb dX8_walks_21 (by decide) ?_
  refine lv_istore (lv' := [(7, .int 0), (0, .ref h1), (1, .int p0), (2, .int p1), (3, .int 2), (4, .int p3), (5, .int 0), (6, .ref h2)]) hx hb dX8_walks_22 hl (by decide) rfl (fun ls hl => ?_)
  refine lv_iload hx hb dX8_walks_24 (lv_at hl 0 rfl) ?_
  refine lv_aload_n hx hb dX8_walks_26 rfl (lv_at hl 1 rfl) ?_
  refine va_get (D := D) (ci := 10) (v := .int 0) (C := RX8) (T := TX8) (N := 18) hx hb hts (fun _ h => (List.mem_cons_of_mem _ (List.mem_append_left _ (List.mem_append_left _ (List.mem_append_left _ (List.mem_append_right _ h)))))) hown hK hP 0 rfl rfl 14 (by decide) (hts (.fieldLink RX8 62 "SelfishJunctionModel" "resources" "I") (List.mem_cons_of_mem _ (List.mem_append_left _ (List.mem_append_left _ (List.mem_append_left _ (List.mem_append_left _ (List.mem_append_left _ (List.mem_of_getElem? (i := 0) rfl)))))))) (fun _ h9 => h9) rfl dX8_walks_27 ?_
  refine lv_icmp_ge (tgt := 118) hx hb dX8_walks_30 (by decide) (fun _ => ?_) (fun h => absurd (by decide) h)
  refine W.widen (k := 0) (n := 0) (Nat.le_of_ble_eq_true rfl) (Nat.le_of_ble_eq_true rfl) ?_
  exact W.vret hx hb hr (fun t ht hW => ⟨⟨(), rfl, trivial, trivial⟩, hS.F ht⟩) hS.2.2 dX8_walks_118
set_option maxHeartbeats 4000000 in
set_option maxRecDepth 100000 in
theorem k_X8_walks_2 (l : Launch) (D : va_G) (cy : Nat → ClassId) (h1 : Nat) (p0 : Int32) (p1 : Int32) (p3 : Int32) (h2 : Nat) (x3 : Value) (x4 : Value) (x5 : Value) (x6 : Value) (x7 : Value) (x8 : Value) (x9 : Value) (x10 : Value) (x11 : Value) (x12 : Value) (x13 : Value) (x14 : Value) (x15 : Value) (x16 : Value) (x17 : Value) (x18 : Value) (x19 : Value) : Met l yX8_walks wsX8_walks ({ frames := 0, cells := 0, slots := 0, locals := 0 }) (kR D cy [.ref h1, .int p0, .int p1, .int 3, .int p3, .int 0, .ref h2] [(h1, .inr (10, [x3, x4, x5, x6, x7, x8, x9, x10, x11, x12, x13, x14, x15, x16, .int 0, x17, x18, x19]))]) (va_Qv (fun (_ : Unit) => True) (fun (_ : Unit) (_ : State) => True) (fun _ : Nat => False)) 0 0 (fun _ : Nat => False) := by
  refine Met.ofW (cc := cX8_walks) (maxL := 8) (ret := none) (by decide) rfl ?_
  intro p e s m args below meth c s₁ B hml hv
  obtain ⟨rfl, hP, hK⟩ := hv
  have hx := B.exec
  have hb := B.bytes
  have hr := B.returns
  have hts := atoms_spec (ws := wsX8_walks) B.pre
  have hown : s.vm.findClass RX8 = some m.cls := findClass_of_methodNamed B.named
  have hlocks := B.notSynchronized
  have hS : va_S (fun _ : Nat => False) s.heap s.heap [] := va_S.rf
  have hP : va_P D vwCl [(h1, .inr (10, [x3, x4, x5, x6, x7, x8, x9, x10, x11, x12, x13, x14, x15, x16, .int 0, x17, x18, x19]))] s.heap := hP
  have hl := lv_entry ([.ref h1, .int p0, .int p1, .int 3, .int p3, .int 0, .ref h2]) (n := 8) (Nat.le_of_ble_eq_true rfl)
  rw [lg_entry_eq]
  generalize (lg_sl ([.ref h1, .int p0, .int p1, .int 3, .int p3, .int 0, .ref h2]) ++ List.replicate (8 - (lg_sl ([.ref h1, .int p0, .int p1, .int 3, .int p3, .int 0, .ref h2])).length) Slot.unset).toArray = ls at hl ⊢
  have hl : lv_has ls 8 [(0, .ref h1), (1, .int p0), (2, .int p1), (3, .int 3), (4, .int p3), (5, .int 0), (6, .ref h2)] := hl
  refine lv_iload_n hx hb dX8_walks_0 rfl (lv_at hl 3 rfl) ?_
  refine lv_if_ne (tgt := 21) hx hb dX8_walks_1 (by decide) (fun _ => ?_) (fun h => absurd h (by decide))
  refine lv_iconst (v := 0) hx hb dX8_walks_21 (by decide) ?_
  refine lv_istore (lv' := [(7, .int 0), (0, .ref h1), (1, .int p0), (2, .int p1), (3, .int 3), (4, .int p3), (5, .int 0), (6, .ref h2)]) hx hb dX8_walks_22 hl (by decide) rfl (fun ls hl => ?_)
  refine lv_iload hx hb dX8_walks_24 (lv_at hl 0 rfl) ?_
  refine lv_aload_n hx hb dX8_walks_26 rfl (lv_at hl 1 rfl) ?_
  refine va_get (D := D) (ci := 10) (v := .int 0) (C := RX8) (T := TX8) (N := 18) hx hb hts (fun _ h => (List.mem_cons_of_mem _ (List.mem_append_left _ (List.mem_append_left _ (List.mem_append_left _ (List.mem_append_right _ h)))))) hown hK hP 0 rfl rfl 14 (by decide) (hts (.fieldLink RX8 62 "SelfishJunctionModel" "resources" "I") (List.mem_cons_of_mem _ (List.mem_append_left _ (List.mem_append_left _ (List.mem_append_left _ (List.mem_append_left _ (List.mem_append_left _ (List.mem_of_getElem? (i := 0) rfl)))))))) (fun _ h9 => h9) rfl dX8_walks_27 ?_
  refine lv_icmp_ge (tgt := 118) hx hb dX8_walks_30 (by decide) (fun _ => ?_) (fun h => absurd (by decide) h)
  refine W.widen (k := 0) (n := 0) (Nat.le_of_ble_eq_true rfl) (Nat.le_of_ble_eq_true rfl) ?_
  exact W.vret hx hb hr (fun t ht hW => ⟨⟨(), rfl, trivial, trivial⟩, hS.F ht⟩) hS.2.2 dX8_walks_118
set_option maxHeartbeats 4000000 in
set_option maxRecDepth 100000 in
theorem k_X8_walks_3 (l : Launch) (D : va_G) (cy : Nat → ClassId) (h1 : Nat) (p0 : Int32) (p1 : Int32) (p3 : Int32) (h2 : Nat) (x3 : Value) (x4 : Value) (x5 : Value) (x6 : Value) (x7 : Value) (x8 : Value) (x9 : Value) (x10 : Value) (x11 : Value) (x12 : Value) (x13 : Value) (x14 : Value) (x15 : Value) (x16 : Value) (x17 : Value) (x18 : Value) (x19 : Value) : Met l yX8_walks wsX8_walks ({ frames := 0, cells := 0, slots := 0, locals := 0 }) (kR D cy [.ref h1, .int p0, .int p1, .int 4, .int p3, .int 0, .ref h2] [(h1, .inr (10, [x3, x4, x5, x6, x7, x8, x9, x10, x11, x12, x13, x14, x15, x16, .int 0, x17, x18, x19]))]) (va_Qv (fun (_ : Unit) => True) (fun (_ : Unit) (_ : State) => True) (fun _ : Nat => False)) 0 0 (fun _ : Nat => False) := by
  refine Met.ofW (cc := cX8_walks) (maxL := 8) (ret := none) (by decide) rfl ?_
  intro p e s m args below meth c s₁ B hml hv
  obtain ⟨rfl, hP, hK⟩ := hv
  have hx := B.exec
  have hb := B.bytes
  have hr := B.returns
  have hts := atoms_spec (ws := wsX8_walks) B.pre
  have hown : s.vm.findClass RX8 = some m.cls := findClass_of_methodNamed B.named
  have hlocks := B.notSynchronized
  have hS : va_S (fun _ : Nat => False) s.heap s.heap [] := va_S.rf
  have hP : va_P D vwCl [(h1, .inr (10, [x3, x4, x5, x6, x7, x8, x9, x10, x11, x12, x13, x14, x15, x16, .int 0, x17, x18, x19]))] s.heap := hP
  have hl := lv_entry ([.ref h1, .int p0, .int p1, .int 4, .int p3, .int 0, .ref h2]) (n := 8) (Nat.le_of_ble_eq_true rfl)
  rw [lg_entry_eq]
  generalize (lg_sl ([.ref h1, .int p0, .int p1, .int 4, .int p3, .int 0, .ref h2]) ++ List.replicate (8 - (lg_sl ([.ref h1, .int p0, .int p1, .int 4, .int p3, .int 0, .ref h2])).length) Slot.unset).toArray = ls at hl ⊢
  have hl : lv_has ls 8 [(0, .ref h1), (1, .int p0), (2, .int p1), (3, .int 4), (4, .int p3), (5, .int 0), (6, .ref h2)] := hl
  refine lv_iload_n hx hb dX8_walks_0 rfl (lv_at hl 3 rfl) ?_
  refine lv_if_ne (tgt := 21) hx hb dX8_walks_1 (by decide) (fun _ => ?_) (fun h => absurd h (by decide))
  refine lv_iconst (v := 0) hx hb dX8_walks_21 (by decide) ?_
  refine lv_istore (lv' := [(7, .int 0), (0, .ref h1), (1, .int p0), (2, .int p1), (3, .int 4), (4, .int p3), (5, .int 0), (6, .ref h2)]) hx hb dX8_walks_22 hl (by decide) rfl (fun ls hl => ?_)
  refine lv_iload hx hb dX8_walks_24 (lv_at hl 0 rfl) ?_
  refine lv_aload_n hx hb dX8_walks_26 rfl (lv_at hl 1 rfl) ?_
  refine va_get (D := D) (ci := 10) (v := .int 0) (C := RX8) (T := TX8) (N := 18) hx hb hts (fun _ h => (List.mem_cons_of_mem _ (List.mem_append_left _ (List.mem_append_left _ (List.mem_append_left _ (List.mem_append_right _ h)))))) hown hK hP 0 rfl rfl 14 (by decide) (hts (.fieldLink RX8 62 "SelfishJunctionModel" "resources" "I") (List.mem_cons_of_mem _ (List.mem_append_left _ (List.mem_append_left _ (List.mem_append_left _ (List.mem_append_left _ (List.mem_append_left _ (List.mem_of_getElem? (i := 0) rfl)))))))) (fun _ h9 => h9) rfl dX8_walks_27 ?_
  refine lv_icmp_ge (tgt := 118) hx hb dX8_walks_30 (by decide) (fun _ => ?_) (fun h => absurd (by decide) h)
  refine W.widen (k := 0) (n := 0) (Nat.le_of_ble_eq_true rfl) (Nat.le_of_ble_eq_true rfl) ?_
  exact W.vret hx hb hr (fun t ht hW => ⟨⟨(), rfl, trivial, trivial⟩, hS.F ht⟩) hS.2.2 dX8_walks_118
set_option maxHeartbeats 4000000 in
set_option maxRecDepth 100000 in
theorem k_X8_walks_4 (l : Launch) (D : va_G) (cy : Nat → ClassId) (h1 : Nat) (p0 : Int32) (p1 : Int32) (p3 : Int32) (h2 : Nat) (x3 : Value) (x4 : Value) (x5 : Value) (x6 : Value) (x7 : Value) (x8 : Value) (x9 : Value) (x10 : Value) (x11 : Value) (x12 : Value) (x13 : Value) (x14 : Value) (x15 : Value) (x16 : Value) (x17 : Value) (x18 : Value) (x19 : Value) : Met l yX8_walks wsX8_walks ({ frames := 0, cells := 0, slots := 0, locals := 0 }) (kR D cy [.ref h1, .int p0, .int p1, .int 5, .int p3, .int 0, .ref h2] [(h1, .inr (10, [x3, x4, x5, x6, x7, x8, x9, x10, x11, x12, x13, x14, x15, x16, .int 0, x17, x18, x19]))]) (va_Qv (fun (_ : Unit) => True) (fun (_ : Unit) (_ : State) => True) (fun _ : Nat => False)) 0 0 (fun _ : Nat => False) := by
  refine Met.ofW (cc := cX8_walks) (maxL := 8) (ret := none) (by decide) rfl ?_
  intro p e s m args below meth c s₁ B hml hv
  obtain ⟨rfl, hP, hK⟩ := hv
  have hx := B.exec
  have hb := B.bytes
  have hr := B.returns
  have hts := atoms_spec (ws := wsX8_walks) B.pre
  have hown : s.vm.findClass RX8 = some m.cls := findClass_of_methodNamed B.named
  have hlocks := B.notSynchronized
  have hS : va_S (fun _ : Nat => False) s.heap s.heap [] := va_S.rf
  have hP : va_P D vwCl [(h1, .inr (10, [x3, x4, x5, x6, x7, x8, x9, x10, x11, x12, x13, x14, x15, x16, .int 0, x17, x18, x19]))] s.heap := hP
  have hl := lv_entry ([.ref h1, .int p0, .int p1, .int 5, .int p3, .int 0, .ref h2]) (n := 8) (Nat.le_of_ble_eq_true rfl)
  rw [lg_entry_eq]
  generalize (lg_sl ([.ref h1, .int p0, .int p1, .int 5, .int p3, .int 0, .ref h2]) ++ List.replicate (8 - (lg_sl ([.ref h1, .int p0, .int p1, .int 5, .int p3, .int 0, .ref h2])).length) Slot.unset).toArray = ls at hl ⊢
  have hl : lv_has ls 8 [(0, .ref h1), (1, .int p0), (2, .int p1), (3, .int 5), (4, .int p3), (5, .int 0), (6, .ref h2)] := hl
  refine lv_iload_n hx hb dX8_walks_0 rfl (lv_at hl 3 rfl) ?_
  refine lv_if_ne (tgt := 21) hx hb dX8_walks_1 (by decide) (fun _ => ?_) (fun h => absurd h (by decide))
  refine lv_iconst (v := 0) hx hb dX8_walks_21 (by decide) ?_
  refine lv_istore (lv' := [(7, .int 0), (0, .ref h1), (1, .int p0), (2, .int p1), (3, .int 5), (4, .int p3), (5, .int 0), (6, .ref h2)]) hx hb dX8_walks_22 hl (by decide) rfl (fun ls hl => ?_)
  refine lv_iload hx hb dX8_walks_24 (lv_at hl 0 rfl) ?_
  refine lv_aload_n hx hb dX8_walks_26 rfl (lv_at hl 1 rfl) ?_
  refine va_get (D := D) (ci := 10) (v := .int 0) (C := RX8) (T := TX8) (N := 18) hx hb hts (fun _ h => (List.mem_cons_of_mem _ (List.mem_append_left _ (List.mem_append_left _ (List.mem_append_left _ (List.mem_append_right _ h)))))) hown hK hP 0 rfl rfl 14 (by decide) (hts (.fieldLink RX8 62 "SelfishJunctionModel" "resources" "I") (List.mem_cons_of_mem _ (List.mem_append_left _ (List.mem_append_left _ (List.mem_append_left _ (List.mem_append_left _ (List.mem_append_left _ (List.mem_of_getElem? (i := 0) rfl)))))))) (fun _ h9 => h9) rfl dX8_walks_27 ?_
  refine lv_icmp_ge (tgt := 118) hx hb dX8_walks_30 (by decide) (fun _ => ?_) (fun h => absurd (by decide) h)
  refine W.widen (k := 0) (n := 0) (Nat.le_of_ble_eq_true rfl) (Nat.le_of_ble_eq_true rfl) ?_
  exact W.vret hx hb hr (fun t ht hW => ⟨⟨(), rfl, trivial, trivial⟩, hS.F ht⟩) hS.2.2 dX8_walks_118
theorem dJx4a65c_isEmpty_aae02_0 : decode cJx4a65c_isEmpty_aae02 0 = .ok (.aload_n 0, 1) := by decide +kernel
theorem dJx4a65c_isEmpty_aae02_1 : decode cJx4a65c_isEmpty_aae02 1 = .ok (.getfield 48, 3) := by decide +kernel
theorem dJx4a65c_isEmpty_aae02_4 : decode cJx4a65c_isEmpty_aae02 4 = .ok (.ifCond .ne 7, 3) := by decide +kernel
theorem dJx4a65c_isEmpty_aae02_7 : decode cJx4a65c_isEmpty_aae02 7 = .ok (.iconst 1, 1) := by decide +kernel
theorem dJx4a65c_isEmpty_aae02_8 : decode cJx4a65c_isEmpty_aae02 8 = .ok (.goto 4, 3) := by decide +kernel
theorem dJx4a65c_isEmpty_aae02_12 : decode cJx4a65c_isEmpty_aae02 12 = .ok (.ireturn, 1) := by decide +kernel
set_option maxHeartbeats 4000000 in
set_option maxRecDepth 100000 in
theorem k_Jx4a65c_isEmpty_aae02 (l : Launch) (D : va_G) (cy : Nat → ClassId) (h1 : Nat) (x2 : Value) (x3 : Value) : Met l yJx4a65c_isEmpty_aae02 wsJx4a65c_isEmpty_aae02 ({ frames := 0, cells := 0, slots := 0, locals := 0 }) (kR D cy [.ref h1] [(h1, .inr (1, [x2, x3, .int 0]))]) (va_Qi (fun (r : Int32) (_ : Unit) => r = 1 ∧ True) (fun (_ : Unit) (_ : State) => True) (fun _ : Nat => False)) 0 0 (fun _ : Nat => False) := by
  refine Met.ofW (cc := cJx4a65c_isEmpty_aae02) (maxL := 1) (ret := (some .boolean)) (by decide) rfl ?_
  intro p e s m args below meth c s₁ B hml hv
  obtain ⟨rfl, hP, hK⟩ := hv
  have hx := B.exec
  have hb := B.bytes
  have hr := B.returns
  have hts := atoms_spec (ws := wsJx4a65c_isEmpty_aae02) B.pre
  have hown : s.vm.findClass RJx4a65c = some m.cls := findClass_of_methodNamed B.named
  have hlocks := B.notSynchronized
  have hS : va_S (fun _ : Nat => False) s.heap s.heap [] := va_S.rf
  have hP : va_P D vwCl [(h1, .inr (1, [x2, x3, .int 0]))] s.heap := hP
  have hl := lv_entry ([.ref h1]) (n := 1) (Nat.le_of_ble_eq_true rfl)
  rw [lg_entry_eq]
  generalize (lg_sl ([.ref h1]) ++ List.replicate (1 - (lg_sl ([.ref h1])).length) Slot.unset).toArray = ls at hl ⊢
  have hl : lv_has ls 1 [(0, .ref h1)] := hl
  refine lv_aload_n hx hb dJx4a65c_isEmpty_aae02_0 rfl (lv_at hl 0 rfl) ?_
  refine va_get (D := D) (ci := 1) (v := .int 0) (C := RJx4a65c) (T := TJx4a65c) (N := 3) hx hb hts (fun _ h => (List.mem_cons_of_mem _ (List.mem_append_right _ h))) hown hK hP 0 rfl rfl 2 (by decide) (hts (.fieldLink RJx4a65c 48 "java/util/ArrayList" "size" "I") (List.mem_cons_of_mem _ (List.mem_append_left _ (List.mem_of_getElem? (i := 0) rfl)))) (fun _ h9 => h9) rfl dJx4a65c_isEmpty_aae02_1 ?_
  refine lv_if_ne (tgt := 11) hx hb dJx4a65c_isEmpty_aae02_4 (by decide) (fun h => absurd (by decide) h) (fun _ => ?_)
  refine lv_iconst (v := 1) hx hb dJx4a65c_isEmpty_aae02_7 (by decide) ?_
  refine lv_goto (tgt := 12) hx hb dJx4a65c_isEmpty_aae02_8 (by decide) ?_
  refine W.widen (k := 0) (n := 0) (Nat.le_of_ble_eq_true rfl) (Nat.le_of_ble_eq_true rfl) ?_
  exact W.zret (v := 1) hx hb hr rfl (fun t ht hW => ⟨⟨1, (), rfl, ⟨rfl, trivial⟩, trivial⟩, hS.F ht⟩) hS.2.2 dJx4a65c_isEmpty_aae02_12
theorem dX8_addTraveller_0 : decode cX8_addTraveller 0 = .ok (.aload_n 0, 1) := by decide +kernel
theorem dX8_addTraveller_1 : decode cX8_addTraveller 1 = .ok (.iload_n 1, 1) := by decide +kernel
theorem dX8_addTraveller_2 : decode cX8_addTraveller 2 = .ok (.iload_n 2, 1) := by decide +kernel
theorem dX8_addTraveller_3 : decode cX8_addTraveller 3 = .ok (.invokestatic 81, 3) := by decide +kernel
set_option maxRecDepth 20000 in
theorem ggX8_addTraveller_X8_areNoNodes : GoodIn wsX8_addTraveller wsX8_areNoNodes := goodIn_r _ [9, 10, 11, 8, 12] (by decide +kernel) (by decide +kernel)
set_option maxRecDepth 20000 in
theorem gX8_addTraveller_X8_areNoNodes : GoodIn wsX8_addTraveller (va_wsS RX8 81 yX8_areNoNodes wsX8_areNoNodes) := goodIn_app (goodIn_of _ (by decide +kernel)) ggX8_addTraveller_X8_areNoNodes
theorem dX8_addTraveller_6 : decode cX8_addTraveller 6 = .ok (.ifCond .ne 12, 3) := by decide +kernel
theorem dX8_addTraveller_18 : decode cX8_addTraveller 18 = .ok (.iconst 1, 1) := by decide +kernel
theorem dX8_addTraveller_19 : decode cX8_addTraveller 19 = .ok (.goto 4, 3) := by decide +kernel
theorem dX8_addTraveller_23 : decode cX8_addTraveller 23 = .ok (.iconst 1, 1) := by decide +kernel
theorem dX8_addTraveller_24 : decode cX8_addTraveller 24 = .ok (.invokevirtual 73, 3) := by decide +kernel
set_option maxRecDepth 20000 in
theorem ggX8_addTraveller_X8_isThrown : GoodIn wsX8_addTraveller wsX8_isThrown := goodIn_r _ [19, 20, 161, 162, 163, 164, 165, 166, 167, 168, 169, 170, 171, 172, 173, 174, 175, 176, 177, 178] (by decide +kernel) (by decide +kernel)
set_option maxRecDepth 20000 in
theorem gX8_addTraveller_X8_isThrown : GoodIn wsX8_addTraveller (wsV RX8 73 RX8 yX8_isThrown wsX8_isThrown) := goodIn_app (goodIn_of _ (by decide +kernel)) ggX8_addTraveller_X8_isThrown
theorem dX8_addTraveller_27 : decode cX8_addTraveller 27 = .ok (.ifCond .eq 5, 3) := by decide +kernel
theorem dX8_addTraveller_30 : decode cX8_addTraveller 30 = .ok (.iconst 0, 1) := by decide +kernel
theorem dX8_addTraveller_31 : decode cX8_addTraveller 31 = .ok (.ireturn, 1) := by decide +kernel
theorem dX8_addTraveller_9 : decode cX8_addTraveller 9 = .ok (.iload_n 3, 1) := by decide +kernel
theorem dX8_addTraveller_10 : decode cX8_addTraveller 10 = .ok (.iload 4, 2) := by decide +kernel
theorem dX8_addTraveller_12 : decode cX8_addTraveller 12 = .ok (.invokestatic 88, 3) := by decide +kernel
set_option maxRecDepth 20000 in
theorem ggX8_addTraveller_X8_isNoPlayer : GoodIn wsX8_addTraveller wsX8_isNoPlayer := goodIn_r _ [15, 10, 11, 8, 12] (by decide +kernel) (by decide +kernel)
set_option maxRecDepth 20000 in
theorem gX8_addTraveller_X8_isNoPlayer : GoodIn wsX8_addTraveller (va_wsS RX8 88 yX8_isNoPlayer wsX8_isNoPlayer) := goodIn_app (goodIn_of _ (by decide +kernel)) ggX8_addTraveller_X8_isNoPlayer
theorem dX8_addTraveller_15 : decode cX8_addTraveller 15 = .ok (.ifCond .eq 7, 3) := by decide +kernel
theorem dX8_addTraveller_22 : decode cX8_addTraveller 22 = .ok (.iconst 0, 1) := by decide +kernel
theorem dX8_addTraveller_32 : decode cX8_addTraveller 32 = .ok (.new 117, 3) := by decide +kernel
theorem dX8_addTraveller_35 : decode cX8_addTraveller 35 = .ok (.dup, 1) := by decide +kernel
theorem dX8_addTraveller_36 : decode cX8_addTraveller 36 = .ok (.invokespecial 126, 3) := by decide +kernel
set_option maxRecDepth 20000 in
theorem ggX8_addTraveller_Jx4a65c_init_da8c8 : GoodIn wsX8_addTraveller wsJx4a65c_init_da8c8 := goodIn_r _ [23, 24, 25, 26, 27, 28, 29, 30, 31, 32, 33, 34, 35, 36, 37, 158, 159, 160] (by decide +kernel) (by decide +kernel)
set_option maxRecDepth 20000 in
theorem gX8_addTraveller_Jx4a65c_init_da8c8 : GoodIn wsX8_addTraveller (wsJx4a65c_init_da8c8) := ggX8_addTraveller_Jx4a65c_init_da8c8
theorem dX8_addTraveller_39 : decode cX8_addTraveller 39 = .ok (.astore 5, 2) := by decide +kernel
theorem dX8_addTraveller_41 : decode cX8_addTraveller 41 = .ok (.iconst 1, 1) := by decide +kernel
theorem dX8_addTraveller_42 : decode cX8_addTraveller 42 = .ok (.istore 6, 2) := by decide +kernel
theorem dX8_addTraveller_44 : decode cX8_addTraveller 44 = .ok (.iload 6, 2) := by decide +kernel
theorem dX8_addTraveller_46 : decode cX8_addTraveller 46 = .ok (.iconst 5, 1) := by decide +kernel
theorem dX8_addTraveller_47 : decode cX8_addTraveller 47 = .ok (.if_icmp .gt 23, 3) := by decide +kernel
theorem dX8_addTraveller_50 : decode cX8_addTraveller 50 = .ok (.aload_n 0, 1) := by decide +kernel
theorem dX8_addTraveller_51 : decode cX8_addTraveller 51 = .ok (.iload_n 1, 1) := by decide +kernel
theorem dX8_addTraveller_52 : decode cX8_addTraveller 52 = .ok (.iload_n 2, 1) := by decide +kernel
theorem dX8_addTraveller_53 : decode cX8_addTraveller 53 = .ok (.iload 6, 2) := by decide +kernel
theorem dX8_addTraveller_55 : decode cX8_addTraveller 55 = .ok (.iconst 1, 1) := by decide +kernel
theorem dX8_addTraveller_56 : decode cX8_addTraveller 56 = .ok (.iload_n 1, 1) := by decide +kernel
theorem dX8_addTraveller_57 : decode cX8_addTraveller 57 = .ok (.ishl, 1) := by decide +kernel
theorem dX8_addTraveller_58 : decode cX8_addTraveller 58 = .ok (.iconst 0, 1) := by decide +kernel
theorem dX8_addTraveller_59 : decode cX8_addTraveller 59 = .ok (.aload 5, 2) := by decide +kernel
theorem dX8_addTraveller_61 : decode cX8_addTraveller 61 = .ok (.invokevirtual 122, 3) := by decide +kernel
set_option maxRecDepth 20000 in
theorem ggX8_addTraveller_X8_walks : GoodIn wsX8_addTraveller wsX8_walks := goodIn_ca (goodIn_r _ [41, 42, 43, 44, 45, 46, 47, 48, 49, 50, 51, 52, 53, 54, 55, 56, 57, 58, 59, 60, 61, 62, 36, 37, 63, 64, 65, 3, 66, 67, 68, 25, 69, 70, 71, 72, 73, 74, 75, 76, 77, 78, 79, 80, 81, 24, 82, 83, 84, 85, 86, 87, 88, 89, 90, 91, 92, 93, 94, 95, 96, 97, 98, 99, 100, 101, 102, 103, 104, 105, 106, 107, 108, 109, 110, 111, 112, 113, 114, 115, 38, 39, 40, 8, 161, 162, 163, 164, 165, 166, 167, 168, 169, 170, 171, 172, 173, 174, 175, 176, 177, 178, 179, 158, 159, 160] (by decide +kernel) (by decide +kernel)) (goodIn_sub (fun _ h => List.mem_cons_of_mem _ (List.mem_append_right _ h)) (by decide +kernel))
set_option maxRecDepth 20000 in
theorem gX8_addTraveller_X8_walks : GoodIn wsX8_addTraveller (wsV RX8 122 RX8 yX8_walks wsX8_walks) := goodIn_app (goodIn_of _ (by decide +kernel)) ggX8_addTraveller_X8_walks
theorem dX8_addTraveller_64 : decode cX8_addTraveller 64 = .ok (.iinc 6 1, 3) := by decide +kernel
theorem dX8_addTraveller_67 : decode cX8_addTraveller 67 = .ok (.goto (-23), 3) := by decide +kernel
theorem dX8_addTraveller_70 : decode cX8_addTraveller 70 = .ok (.aload_n 0, 1) := by decide +kernel
theorem dX8_addTraveller_71 : decode cX8_addTraveller 71 = .ok (.aload 5, 2) := by decide +kernel
theorem dX8_addTraveller_73 : decode cX8_addTraveller 73 = .ok (.invokevirtual 127, 3) := by decide +kernel
set_option maxRecDepth 20000 in
theorem ggX8_addTraveller_Jx4a65c_isEmpty_aae02 : GoodIn wsX8_addTraveller wsJx4a65c_isEmpty_aae02 := goodIn_r _ [119, 69, 158, 159, 160] (by decide +kernel) (by decide +kernel)
set_option maxRecDepth 20000 in
theorem gX8_addTraveller_Jx4a65c_isEmpty_aae02 : GoodIn wsX8_addTraveller (wsV RX8 127 RJx4a65c yJx4a65c_isEmpty_aae02 wsJx4a65c_isEmpty_aae02) := goodIn_app (goodIn_of _ (by decide +kernel)) ggX8_addTraveller_Jx4a65c_isEmpty_aae02
theorem dX8_addTraveller_76 : decode cX8_addTraveller 76 = .ok (.iconst 2, 1) := by decide +kernel
theorem dX8_addTraveller_77 : decode cX8_addTraveller 77 = .ok (.invokevirtual 73, 3) := by decide +kernel
theorem dX8_addTraveller_80 : decode cX8_addTraveller 80 = .ok (.ifCond .ne 25, 3) := by decide +kernel
theorem dX8_addTraveller_105 : decode cX8_addTraveller 105 = .ok (.iconst 0, 1) := by decide +kernel
theorem dX8_addTraveller_106 : decode cX8_addTraveller 106 = .ok (.ireturn, 1) := by decide +kernel
set_option maxHeartbeats 4000000 in
set_option maxRecDepth 100000 in
theorem k_X8_addTraveller (l : Launch) (hl9 : l.stackTraces = false) (D : va_G) (cy : Nat → ClassId) (de : Nat) (h1 : Nat) (p0 : Int32) (p1 : Int32) (p2 : Int32) (p3 : Int32) (x2 : Value) (x3 : Value) (x4 : Value) (x5 : Value) (x6 : Value) (x7 : Value) (x8 : Value) (x9 : Value) (x10 : Value) (x11 : Value) (x12 : Value) (x13 : Value) (x14 : Value) (x15 : Value) (x16 : Value) (x17 : Value) (x18 : Value) (sz : Nat) : Met l yX8_addTraveller wsX8_addTraveller ({ frames := 4, cells := 1, slots := 3, locals := 72 }) (kWY D cy de [.ref h1, .int p0, .int p1, .int p2, .int p3] [(h1, .inr (10, [x2, x3, x4, x5, x6, x7, x8, x9, x10, x11, x12, x13, x14, x15, .int 0, x16, x17, x18]))] sz) (va_Qi (fun (r : Int32) (u : Int32) => match u with | y1 => ((r = 0 ∧ (y1 = 1) ∧ (¬ ((((0 : Int) ≤ p0.toInt ∧ p0.toInt ≤ (5 : Int)) ∧ ((0 : Int) ≤ p1.toInt ∧ p1.toInt ≤ (5 : Int)) ∧ p0.toInt ≠ p1.toInt)) ∨ ((((0 : Int) ≤ p0.toInt ∧ p0.toInt ≤ (5 : Int)) ∧ ((0 : Int) ≤ p1.toInt ∧ p1.toInt ≤ (5 : Int)) ∧ p0.toInt ≠ p1.toInt) ∧ ¬ ((((1 : Int) ≤ p2.toInt ∧ p2.toInt ≤ (3 : Int)) ∧ ((0 : Int) ≤ p3.toInt ∧ p3.toInt ≤ (9 : Int))))))) ∨ (r = 0 ∧ (y1 = 2) ∧ ((((0 : Int) ≤ p0.toInt ∧ p0.toInt ≤ (5 : Int)) ∧ ((0 : Int) ≤ p1.toInt ∧ p1.toInt ≤ (5 : Int)) ∧ p0.toInt ≠ p1.toInt) ∧ (((1 : Int) ≤ p2.toInt ∧ p2.toInt ≤ (3 : Int)) ∧ ((0 : Int) ≤ p3.toInt ∧ p3.toInt ≤ (9 : Int))))))) (fun (u : Int32) (t : State) => match u with | y1 => va_P D vwCl [(h1, .inr (10, [x2, x3, x4, x5, x6, x7, x8, x9, x10, x11, x12, x13, x14, x15, .int 0, x16, x17, .int y1]))] t.heap ∧ va_D (va_A [(h1, .inr (10, [x2, x3, x4, x5, x6, x7, x8, x9, x10, x11, x12, x13, x14, x15, .int 0, x16, x17, x18]))] sz) [(h1, .inr (10, [x2, x3, x4, x5, x6, x7, x8, x9, x10, x11, x12, x13, x14, x15, .int 0, x16, x17, .int y1]))]) (va_A [(h1, .inr (10, [x2, x3, x4, x5, x6, x7, x8, x9, x10, x11, x12, x13, x14, x15, .int 0, x16, x17, x18]))] sz)) 1 3 (va_A [(h1, .inr (10, [x2, x3, x4, x5, x6, x7, x8, x9, x10, x11, x12, x13, x14, x15, .int 0, x16, x17, x18]))] sz) := by
  refine Met.ofW (cc := cX8_addTraveller) (maxL := 9) (ret := (some .int)) (by decide) rfl ?_
  intro p e s m args below meth c s₁ B hml hv
  obtain ⟨rfl, hsz, hP, hK, hD0, hE, hY⟩ := hv
  have hx := B.exec
  have hb := B.bytes
  have hr := B.returns
  have hts := atoms_spec (ws := wsX8_addTraveller) B.pre
  have hown : s.vm.findClass RX8 = some m.cls := findClass_of_methodNamed B.named
  have hlocks := B.notSynchronized
  subst hsz
  have hD := hD0.self (sz := s.heap.size)
  generalize hAe : va_A [(h1, .inr (10, [x2, x3, x4, x5, x6, x7, x8, x9, x10, x11, x12, x13, x14, x15, .int 0, x16, x17, x18]))] s.heap.size = A at hD hE hY ⊢
  have hA : ∀ q : Nat, s.heap.size ≤ q → A q := fun q h => by rw [← hAe]; exact Or.inr h
  have hS : va_S A s.heap s.heap [] := va_S.rf
  have hP : va_P D vwCl [(h1, .inr (10, [x2, x3, x4, x5, x6, x7, x8, x9, x10, x11, x12, x13, x14, x15, .int 0, x16, x17, x18]))] s.heap := hP
  have hl := lv_entry ([.ref h1, .int p0, .int p1, .int p2, .int p3]) (n := 9) (Nat.le_of_ble_eq_true rfl)
  rw [lg_entry_eq]
  generalize (lg_sl ([.ref h1, .int p0, .int p1, .int p2, .int p3]) ++ List.replicate (9 - (lg_sl ([.ref h1, .int p0, .int p1, .int p2, .int p3])).length) Slot.unset).toArray = ls at hl ⊢
  have hl : lv_has ls 9 [(0, .ref h1), (1, .int p0), (2, .int p1), (3, .int p2), (4, .int p3)] := hl
  refine lv_aload_n hx hb dX8_addTraveller_0 rfl (lv_at hl 0 rfl) ?_
  refine lv_iload_n hx hb dX8_addTraveller_1 rfl (lv_at hl 1 rfl) ?_
  refine lv_iload_n hx hb dX8_addTraveller_2 rfl (lv_at hl 2 rfl) ?_
  have hPc := hP.sub (ws' := []) [] rfl
  refine va_calli (va_runS (As := [.int p0, .int p1]) (rest := [.ref h1]) ⟨hx, hb, hml, hown, hts⟩ (k_X8_areNoNodes l D cy p0 p1) (va_cwS 2 hts gX8_addTraveller_X8_areNoNodes rfl rfl rfl (by decide +kernel) ⟨(Nat.le_of_ble_eq_true rfl), (Nat.le_of_ble_eq_true rfl)⟩) ⟨kR_fb, (kR_go hPc hK)⟩ rfl rfl hl.1 rfl (lv_room (Nat.le_of_ble_eq_true rfl)) dX8_addTraveller_3 ⟨(Nat.le_of_ble_eq_true rfl), (Nat.le_of_ble_eq_true rfl)⟩) hS (fun _ _ h => h.elim) (fun _ h => h.elim) (fun r9 u t H locs ht hvm hw hB hz1 hk1 hS => ?_)
  have hP := kx_kept hP hk1
  rcases hw with ⟨rfl, hw⟩ | ⟨rfl, hw⟩
  · have f_1 : ¬ ((((0 : Int) ≤ p0.toInt ∧ p0.toInt ≤ (5 : Int)) ∧ ((0 : Int) ≤ p1.toInt ∧ p1.toInt ≤ (5 : Int)) ∧ p0.toInt ≠ p1.toInt)) := hw
    refine lv_if_ne (tgt := 18) hx hb dX8_addTraveller_6 (by decide) (fun _ => ?_) (fun h => absurd h (by decide))
    refine lv_iconst (v := 1) hx hb dX8_addTraveller_18 (by decide) ?_
    refine lv_goto (tgt := 23) hx hb dX8_addTraveller_19 (by decide) ?_
    refine lv_iconst (v := 1) hx hb dX8_addTraveller_23 (by decide) ?_
    have hPc := hP.sub (ws' := [(h1, .inr (10, [x2, x3, x4, x5, x6, x7, x8, x9, x10, x11, x12, x13, x14, x15, .int 0, x16, x17, x18]))]) [0] rfl
    have hDc := hD.sub (ws' := [(h1, .inr (10, [x2, x3, x4, x5, x6, x7, x8, x9, x10, x11, x12, x13, x14, x15, .int 0, x16, x17, x18]))]) [0] (by decide) rfl
    have hFc := va_free (wc := [(h1, .inr (10, [x2, x3, x4, x5, x6, x7, x8, x9, x10, x11, x12, x13, x14, x15, .int 0, x16, x17, x18]))]) hD hS hA [0] rfl
    refine va_calli (va_runV (As := [.int 1, .int 1]) (rest := []) ⟨hx, hb, hml, hown, hts⟩ (k_X8_isThrown l D cy h1 (x2) (x3) (x4) (x5) (x6) (x7) (x8) (x9) (x10) (x11) (x12) (x13) (x14) (x15) (.int 0) (x16) (x17) (x18) H.size) (cwV 2 hts gX8_addTraveller_X8_isThrown rfl rfl rfl (by decide +kernel) ⟨(Nat.le_of_ble_eq_true rfl), (Nat.le_of_ble_eq_true rfl)⟩) ⟨kW_fb, va_recv hK hP (ci := 10) (q0 := 0) rfl rfl, (kW_go hPc hK hDc)⟩ rfl rfl hl.1 rfl (lv_room (Nat.le_of_ble_eq_true rfl)) dX8_addTraveller_24 ⟨(Nat.le_of_ble_eq_true rfl), (Nat.le_of_ble_eq_true rfl)⟩) hS (fun q _ h => hFc q h) hFc (fun r9 u t H locs ht hvm hw hB hz1 hk1 hS => ?_)
    obtain ⟨hP1, hD1⟩ := hB
    rw [ht] at hP1
    try dsimp only at hw hP1 hD1
    obtain ⟨hP, hD⟩ := va_join (wr := []) (w1 := [(h1, .inr (10, [x2, x3, x4, x5, x6, x7, x8, x9, x10, x11, x12, x13, x14, x15, .int 0, x16, x17, .int 1]))]) hP hD [0] [] rfl rfl (by decide) (by decide) hk1 hFc hP1 hD1
    have hP : va_P D vwCl [(h1, .inr (10, [x2, x3, x4, x5, x6, x7, x8, x9, x10, x11, x12, x13, x14, x15, .int 0, x16, x17, .int 1]))] H := hP
    have hD : va_D A [(h1, .inr (10, [x2, x3, x4, x5, x6, x7, x8, x9, x10, x11, x12, x13, x14, x15, .int 0, x16, x17, .int 1]))] := hD
    obtain ⟨rfl, hw⟩ := hw
    refine lv_if_eq (tgt := 32) hx hb dX8_addTraveller_27 (by decide) (fun h => absurd h (by decide)) (fun _ => ?_)
    refine lv_iconst (v := 0) hx hb dX8_addTraveller_30 (by decide) ?_
    refine W.widen (k := 1) (n := 3) (Nat.le_of_ble_eq_true rfl) (Nat.le_of_ble_eq_true rfl) ?_
    have hP9 := hP.sub (ws' := [(h1, .inr (10, [x2, x3, x4, x5, x6, x7, x8, x9, x10, x11, x12, x13, x14, x15, .int 0, x16, x17, .int 1]))]) [0] rfl
    have hD9 := hD.sub (ws' := [(h1, .inr (10, [x2, x3, x4, x5, x6, x7, x8, x9, x10, x11, x12, x13, x14, x15, .int 0, x16, x17, .int 1]))]) [0] (by decide) rfl
    exact W.iret (v := 0) hx hb hr (fun t ht hW => ⟨⟨0, (1), rfl, Or.inl (⟨rfl, rfl, (by omega)⟩), ⟨by rw [ht]; exact hP9, hD9⟩⟩, hS.F ht⟩) hS.2.2 dX8_addTraveller_31
  · have f_3 : (((0 : Int) ≤ p0.toInt ∧ p0.toInt ≤ (5 : Int)) ∧ ((0 : Int) ≤ p1.toInt ∧ p1.toInt ≤ (5 : Int)) ∧ p0.toInt ≠ p1.toInt) := hw
    refine lv_if_ne (tgt := 18) hx hb dX8_addTraveller_6 (by decide) (fun h => absurd (by decide) h) (fun _ => ?_)
    refine lv_iload_n hx hb dX8_addTraveller_9 rfl (lv_at hl 3 rfl) ?_
    refine lv_iload hx hb dX8_addTraveller_10 (lv_at hl 4 rfl) ?_
    have hPc := hP.sub (ws' := []) [] rfl
    refine va_calli (va_runS (As := [.int p2, .int p3]) (rest := [.ref h1]) ⟨hx, hb, hml, hown, hts⟩ (k_X8_isNoPlayer l D cy p2 p3) (va_cwS 2 hts gX8_addTraveller_X8_isNoPlayer rfl rfl rfl (by decide +kernel) ⟨(Nat.le_of_ble_eq_true rfl), (Nat.le_of_ble_eq_true rfl)⟩) ⟨kR_fb, (kR_go hPc hK)⟩ rfl rfl hl.1 rfl (lv_room (Nat.le_of_ble_eq_true rfl)) dX8_addTraveller_12 ⟨(Nat.le_of_ble_eq_true rfl), (Nat.le_of_ble_eq_true rfl)⟩) hS (fun _ _ h => h.elim) (fun _ h => h.elim) (fun r9 u t H locs ht hvm hw hB hz1 hk1 hS => ?_)
    have hP := kx_kept hP hk1
    rcases hw with ⟨rfl, hw⟩ | ⟨rfl, hw⟩
    · have f_4 : ¬ ((((1 : Int) ≤ p2.toInt ∧ p2.toInt ≤ (3 : Int)) ∧ ((0 : Int) ≤ p3.toInt ∧ p3.toInt ≤ (9 : Int)))) := hw
      refine lv_if_eq (tgt := 22) hx hb dX8_addTraveller_15 (by decide) (fun h => absurd h (by decide)) (fun _ => ?_)
      refine lv_iconst (v := 1) hx hb dX8_addTraveller_18 (by decide) ?_
      refine lv_goto (tgt := 23) hx hb dX8_addTraveller_19 (by decide) ?_
      refine lv_iconst (v := 1) hx hb dX8_addTraveller_23 (by decide) ?_
      have hPc := hP.sub (ws' := [(h1, .inr (10, [x2, x3, x4, x5, x6, x7, x8, x9, x10, x11, x12, x13, x14, x15, .int 0, x16, x17, x18]))]) [0] rfl
      have hDc := hD.sub (ws' := [(h1, .inr (10, [x2, x3, x4, x5, x6, x7, x8, x9, x10, x11, x12, x13, x14, x15, .int 0, x16, x17, x18]))]) [0] (by decide) rfl
      have hFc := va_free (wc := [(h1, .inr (10, [x2, x3, x4, x5, x6, x7, x8, x9, x10, x11, x12, x13, x14, x15, .int 0, x16, x17, x18]))]) hD hS hA [0] rfl
      refine va_calli (va_runV (As := [.int 1, .int 1]) (rest := []) ⟨hx, hb, hml, hown, hts⟩ (k_X8_isThrown l D cy h1 (x2) (x3) (x4) (x5) (x6) (x7) (x8) (x9) (x10) (x11) (x12) (x13) (x14) (x15) (.int 0) (x16) (x17) (x18) H.size) (cwV 2 hts gX8_addTraveller_X8_isThrown rfl rfl rfl (by decide +kernel) ⟨(Nat.le_of_ble_eq_true rfl), (Nat.le_of_ble_eq_true rfl)⟩) ⟨kW_fb, va_recv hK hP (ci := 10) (q0 := 0) rfl rfl, (kW_go hPc hK hDc)⟩ rfl rfl hl.1 rfl (lv_room (Nat.le_of_ble_eq_true rfl)) dX8_addTraveller_24 ⟨(Nat.le_of_ble_eq_true rfl), (Nat.le_of_ble_eq_true rfl)⟩) hS (fun q _ h => hFc q h) hFc (fun r9 u t H locs ht hvm hw hB hz1 hk1 hS => ?_)
      obtain ⟨hP1, hD1⟩ := hB
      rw [ht] at hP1
      try dsimp only at hw hP1 hD1
      obtain ⟨hP, hD⟩ := va_join (wr := []) (w1 := [(h1, .inr (10, [x2, x3, x4, x5, x6, x7, x8, x9, x10, x11, x12, x13, x14, x15, .int 0, x16, x17, .int 1]))]) hP hD [0] [] rfl rfl (by decide) (by decide) hk1 hFc hP1 hD1
      have hP : va_P D vwCl [(h1, .inr (10, [x2, x3, x4, x5, x6, x7, x8, x9, x10, x11, x12, x13, x14, x15, .int 0, x16, x17, .int 1]))] H := hP
      have hD : va_D A [(h1, .inr (10, [x2, x3, x4, x5, x6, x7, x8, x9, x10, x11, x12, x13, x14, x15, .int 0, x16, x17, .int 1]))] := hD
      obtain ⟨rfl, hw⟩ := hw
      refine lv_if_eq (tgt := 32) hx hb dX8_addTraveller_27 (by decide) (fun h => absurd h (by decide)) (fun _ => ?_)
      refine lv_iconst (v := 0) hx hb dX8_addTraveller_30 (by decide) ?_
      refine W.widen (k := 1) (n := 3) (Nat.le_of_ble_eq_true rfl) (Nat.le_of_ble_eq_true rfl) ?_
      have hP9 := hP.sub (ws' := [(h1, .inr (10, [x2, x3, x4, x5, x6, x7, x8, x9, x10, x11, x12, x13, x14, x15, .int 0, x16, x17, .int 1]))]) [0] rfl
      have hD9 := hD.sub (ws' := [(h1, .inr (10, [x2, x3, x4, x5, x6, x7, x8, x9, x10, x11, x12, x13, x14, x15, .int 0, x16, x17, .int 1]))]) [0] (by decide) rfl
      exact W.iret (v := 0) hx hb hr (fun t ht hW => ⟨⟨0, (1), rfl, Or.inl (⟨rfl, rfl, (by omega)⟩), ⟨by rw [ht]; exact hP9, hD9⟩⟩, hS.F ht⟩) hS.2.2 dX8_addTraveller_31
    · have f_6 : (((1 : Int) ≤ p2.toInt ∧ p2.toInt ≤ (3 : Int)) ∧ ((0 : Int) ≤ p3.toInt ∧ p3.toInt ≤ (9 : Int))) := hw
      refine lv_if_eq (tgt := 22) hx hb dX8_addTraveller_15 (by decide) (fun _ => ?_) (fun h => absurd (by decide) h)
      refine lv_iconst (v := 0) hx hb dX8_addTraveller_22 (by decide) ?_
      refine lv_iconst (v := 1) hx hb dX8_addTraveller_23 (by decide) ?_
      have hPc := hP.sub (ws' := [(h1, .inr (10, [x2, x3, x4, x5, x6, x7, x8, x9, x10, x11, x12, x13, x14, x15, .int 0, x16, x17, x18]))]) [0] rfl
      have hDc := hD.sub (ws' := [(h1, .inr (10, [x2, x3, x4, x5, x6, x7, x8, x9, x10, x11, x12, x13, x14, x15, .int 0, x16, x17, x18]))]) [0] (by decide) rfl
      have hFc := va_free (wc := [(h1, .inr (10, [x2, x3, x4, x5, x6, x7, x8, x9, x10, x11, x12, x13, x14, x15, .int 0, x16, x17, x18]))]) hD hS hA [0] rfl
      refine va_calli (va_runV (As := [.int 0, .int 1]) (rest := []) ⟨hx, hb, hml, hown, hts⟩ (k_X8_isThrown_1 l D cy h1 (x2) (x3) (x4) (x5) (x6) (x7) (x8) (x9) (x10) (x11) (x12) (x13) (x14) (x15) (.int 0) (x16) (x17) (x18) H.size) (cwV 2 hts gX8_addTraveller_X8_isThrown rfl rfl rfl (by decide +kernel) ⟨(Nat.le_of_ble_eq_true rfl), (Nat.le_of_ble_eq_true rfl)⟩) ⟨kW_fb, va_recv hK hP (ci := 10) (q0 := 0) rfl rfl, (kW_go hPc hK hDc)⟩ rfl rfl hl.1 rfl (lv_room (Nat.le_of_ble_eq_true rfl)) dX8_addTraveller_24 ⟨(Nat.le_of_ble_eq_true rfl), (Nat.le_of_ble_eq_true rfl)⟩) hS (fun q _ h => hFc q h) hFc (fun r9 u t H locs ht hvm hw hB hz1 hk1 hS => ?_)
      obtain ⟨hP1, hD1⟩ := hB
      rw [ht] at hP1
      try dsimp only at hw hP1 hD1
      obtain ⟨hP, hD⟩ := va_join (wr := []) (w1 := [(h1, .inr (10, [x2, x3, x4, x5, x6, x7, x8, x9, x10, x11, x12, x13, x14, x15, .int 0, x16, x17, .int 0]))]) hP hD [0] [] rfl rfl (by decide) (by decide) hk1 hFc hP1 hD1
      have hP : va_P D vwCl [(h1, .inr (10, [x2, x3, x4, x5, x6, x7, x8, x9, x10, x11, x12, x13, x14, x15, .int 0, x16, x17, .int 0]))] H := hP
      have hD : va_D A [(h1, .inr (10, [x2, x3, x4, x5, x6, x7, x8, x9, x10, x11, x12, x13, x14, x15, .int 0, x16, x17, .int 0]))] := hD
      obtain ⟨rfl, hw⟩ := hw
      refine lv_if_eq (tgt := 32) hx hb dX8_addTraveller_27 (by decide) (fun _ => ?_) (fun h => absurd (by decide) h)
      refine va_new (ci := 1) (fs := [.int 0, .null, .int 0]) (C := RJx4a65c) (T := TJx4a65c) (N := 3) hx hb hts (fun _ h => (List.mem_cons_of_mem _ (List.mem_append_left _ (List.mem_append_left _ (List.mem_append_left _ (List.mem_append_right _ h)))))) tyJx4a65c tyJx4a65c_ok hown (hts (.classLink RX8 117 RJx4a65c) (List.mem_cons_of_mem _ (List.mem_append_left _ (List.mem_append_left _ (List.mem_append_left _ (List.mem_append_left _ (List.mem_append_left _ (List.mem_of_getElem? (i := 0) rfl)))))))) (hts (.instantiable RJx4a65c 3) (List.mem_cons_of_mem _ (List.mem_append_left _ (List.mem_append_left _ (List.mem_append_left _ (List.mem_append_left _ (List.mem_append_left _ (List.mem_of_getElem? (i := 1) rfl)))))))) (hts (.initialized RJx4a65c) (List.mem_cons_of_mem _ (List.mem_append_left _ (List.mem_append_left _ (List.mem_append_left _ (List.mem_append_left _ (List.mem_append_left _ (List.mem_of_getElem? (i := 2) rfl)))))))) hK hP hD hS hA rfl (fun j hj => by rcases (show j = 0 ∨ j = 1 ∨ j = 2 by omega) with rfl | rfl | rfl <;> rfl) (Nat.le_of_ble_eq_true rfl) (Nat.le_of_ble_eq_true rfl) dX8_addTraveller_32 (fun q_8 H hP hD hS => ?_)
      have hP : va_P D vwCl [(h1, .inr (10, [x2, x3, x4, x5, x6, x7, x8, x9, x10, x11, x12, x13, x14, x15, .int 0, x16, x17, .int 0])), (q_8, .inr (1, [.int 0, .null, .int 0]))] H := hP
      have hD : va_D A [(h1, .inr (10, [x2, x3, x4, x5, x6, x7, x8, x9, x10, x11, x12, x13, x14, x15, .int 0, x16, x17, .int 0])), (q_8, .inr (1, [.int 0, .null, .int 0]))] := hD
      refine W.widen (k := 1) (n := 3) (Nat.le_of_ble_eq_true rfl) (Nat.le_of_ble_eq_true rfl) ?_
      refine lv_dup hx hb dX8_addTraveller_35 rfl ?_
      have hPc := hP.sub (ws' := [(q_8, .inr (1, [.int 0, .null, .int 0]))]) [1] rfl
      have hDc := hD.sub (ws' := [(q_8, .inr (1, [.int 0, .null, .int 0]))]) [1] (by decide) rfl
      have hFc := va_free (wc := [(q_8, .inr (1, [.int 0, .null, .int 0]))]) hD hS hA [1] rfl
      refine va_callv (va_runI (As := []) (rest := [.ref q_8]) ⟨hx, hb, hml, hown, hts⟩ (k_Jx4a65c_init_da8c8 l hl9 D cy de q_8 (.int 0) (.null) (.int 0) H.size) (cwI 0 hts gX8_addTraveller_Jx4a65c_init_da8c8 rfl rfl rfl (hts (.initialized RJx4a65c) (List.mem_cons_of_mem _ (List.mem_append_left _ (List.mem_append_left _ (List.mem_append_left _ (List.mem_append_left _ (List.mem_append_left _ (List.mem_of_getElem? (i := 2) rfl)))))))) (hts (.methodLink RX8 126 yJx4a65c_init_da8c8) (List.mem_cons_of_mem _ (List.mem_append_left _ (List.mem_append_left _ (List.mem_append_left _ (List.mem_append_left _ (List.mem_append_left _ (List.mem_of_getElem? (i := 20) rfl)))))))) (hts (.instanceMethod yJx4a65c_init_da8c8) (List.mem_cons_of_mem _ (List.mem_append_left _ (List.mem_append_left _ (List.mem_append_left _ (List.mem_append_left _ (List.mem_append_left _ (List.mem_of_getElem? (i := 21) rfl)))))))) rfl (by decide +kernel) ⟨(Nat.le_of_ble_eq_true rfl), (Nat.le_of_ble_eq_true rfl)⟩) ⟨kWY_fb, (kWY_go hPc hK hDc hFc hE hY hS)⟩ rfl rfl hl.1 rfl (lv_room (Nat.le_of_ble_eq_true rfl)) dX8_addTraveller_36 ⟨(Nat.le_of_ble_eq_true rfl), (Nat.le_of_ble_eq_true rfl)⟩) hS (fun q _ h => hFc q h) hFc (fun u t H locs ht hvm hw hB hz1 hk1 hS => ?_)
      obtain ⟨hP1, hD1⟩ := hB
      rw [ht] at hP1
      try dsimp only at hw hP1 hD1
      obtain ⟨hP, hD⟩ := va_join (wr := [(h1, .inr (10, [x2, x3, x4, x5, x6, x7, x8, x9, x10, x11, x12, x13, x14, x15, .int 0, x16, x17, .int 0]))]) (w1 := [(q_8, .inr (1, [.int 0, .ref de, .int 0]))]) hP hD [1] [0] rfl rfl (by decide) (by decide) hk1 hFc hP1 hD1
      have hP : va_P D vwCl [(h1, .inr (10, [x2, x3, x4, x5, x6, x7, x8, x9, x10, x11, x12, x13, x14, x15, .int 0, x16, x17, .int 0])), (q_8, .inr (1, [.int 0, .ref de, .int 0]))] H := hP
      have hD : va_D A [(h1, .inr (10, [x2, x3, x4, x5, x6, x7, x8, x9, x10, x11, x12, x13, x14, x15, .int 0, x16, x17, .int 0])), (q_8, .inr (1, [.int 0, .ref de, .int 0]))] := hD
      refine lv_astore (lv' := [(5, .ref q_8), (0, .ref h1), (1, .int p0), (2, .int p1), (3, .int p2), (4, .int p3)]) hx hb dX8_addTraveller_39 hl (by decide) rfl (fun ls hl => ?_)
      refine lv_iconst (v := 1) hx hb dX8_addTraveller_41 (by decide) ?_
      refine lv_istore (lv' := [(6, .int 1), (5, .ref q_8), (0, .ref h1), (1, .int p0), (2, .int p1), (3, .int p2), (4, .int p3)]) hx hb dX8_addTraveller_42 hl (by decide) rfl (fun ls hl => ?_)
      refine lv_iload hx hb dX8_addTraveller_44 (lv_at hl 0 rfl) ?_
      refine lv_iconst (v := 5) hx hb dX8_addTraveller_46 (by decide) ?_
      refine lv_icmp_gt (tgt := 70) hx hb dX8_addTraveller_47 (by decide) (fun h => absurd h (by decide)) (fun _ => ?_)
      refine lv_aload_n hx hb dX8_addTraveller_50 rfl (lv_at hl 2 rfl) ?_
      refine lv_iload_n hx hb dX8_addTraveller_51 rfl (lv_at hl 3 rfl) ?_
      refine lv_iload_n hx hb dX8_addTraveller_52 rfl (lv_at hl 4 rfl) ?_
      refine lv_iload hx hb dX8_addTraveller_53 (lv_at hl 0 rfl) ?_
      refine lv_iconst (v := 1) hx hb dX8_addTraveller_55 (by decide) ?_
      refine lv_iload_n hx hb dX8_addTraveller_56 rfl (lv_at hl 3 rfl) ?_
      refine lv_ishl hx hb dX8_addTraveller_57 ?_
      refine lv_topi (fun v_10 ev_10 => ?_)
      refine lv_iconst (v := 0) hx hb dX8_addTraveller_58 (by decide) ?_
      refine lv_aload hx hb dX8_addTraveller_59 (lv_at hl 1 rfl) ?_
      have hPc := hP.sub (ws' := [(h1, .inr (10, [x2, x3, x4, x5, x6, x7, x8, x9, x10, x11, x12, x13, x14, x15, .int 0, x16, x17, .int 0]))]) [0] rfl
      refine va_callv (va_runV (As := [.int p0, .int p1, .int 1, .int v_10, .int 0, .ref q_8]) (rest := []) ⟨hx, hb, hml, hown, hts⟩ (k_X8_walks l D cy h1 p0 p1 v_10 q_8 (x2) (x3) (x4) (x5) (x6) (x7) (x8) (x9) (x10) (x11) (x12) (x13) (x14) (x15) (x16) (x17) (.int 0)) (cwV 6 hts gX8_addTraveller_X8_walks rfl rfl rfl (by decide +kernel) ⟨(Nat.le_of_ble_eq_true rfl), (Nat.le_of_ble_eq_true rfl)⟩) ⟨kR_fb, va_recv hK hP (ci := 10) (q0 := 0) rfl rfl, (kR_go hPc hK)⟩ rfl rfl hl.1 rfl (lv_room (Nat.le_of_ble_eq_true rfl)) dX8_addTraveller_61 ⟨(Nat.le_of_ble_eq_true rfl), (Nat.le_of_ble_eq_true rfl)⟩) hS (fun _ _ h => h.elim) (fun _ h => h.elim) (fun u t H locs ht hvm hw hB hz1 hk1 hS => ?_)
      have hP := kx_kept hP hk1
      refine lv_iinc (v := 2) (lv' := [(6, .int 2), (5, .ref q_8), (0, .ref h1), (1, .int p0), (2, .int p1), (3, .int p2), (4, .int p3)]) hx hb dX8_addTraveller_64 hl (k := 0) rfl (by decide) (by decide) rfl (fun ls hl => ?_)
      refine lv_goto (tgt := 44) hx hb dX8_addTraveller_67 (by decide) ?_
      refine lv_iload hx hb dX8_addTraveller_44 (lv_at hl 0 rfl) ?_
      refine lv_iconst (v := 5) hx hb dX8_addTraveller_46 (by decide) ?_
      refine lv_icmp_gt (tgt := 70) hx hb dX8_addTraveller_47 (by decide) (fun h => absurd h (by decide)) (fun _ => ?_)
      refine lv_aload_n hx hb dX8_addTraveller_50 rfl (lv_at hl 2 rfl) ?_
      refine lv_iload_n hx hb dX8_addTraveller_51 rfl (lv_at hl 3 rfl) ?_
      refine lv_iload_n hx hb dX8_addTraveller_52 rfl (lv_at hl 4 rfl) ?_
      refine lv_iload hx hb dX8_addTraveller_53 (lv_at hl 0 rfl) ?_
      refine lv_iconst (v := 1) hx hb dX8_addTraveller_55 (by decide) ?_
      refine lv_iload_n hx hb dX8_addTraveller_56 rfl (lv_at hl 3 rfl) ?_
      refine lv_ishl hx hb dX8_addTraveller_57 ?_
      refine lv_topi (fun v_12 ev_12 => ?_)
      refine lv_iconst (v := 0) hx hb dX8_addTraveller_58 (by decide) ?_
      refine lv_aload hx hb dX8_addTraveller_59 (lv_at hl 1 rfl) ?_
      have hPc := hP.sub (ws' := [(h1, .inr (10, [x2, x3, x4, x5, x6, x7, x8, x9, x10, x11, x12, x13, x14, x15, .int 0, x16, x17, .int 0]))]) [0] rfl
      refine va_callv (va_runV (As := [.int p0, .int p1, .int 2, .int v_12, .int 0, .ref q_8]) (rest := []) ⟨hx, hb, hml, hown, hts⟩ (k_X8_walks_1 l D cy h1 p0 p1 v_12 q_8 (x2) (x3) (x4) (x5) (x6) (x7) (x8) (x9) (x10) (x11) (x12) (x13) (x14) (x15) (x16) (x17) (.int 0)) (cwV 6 hts gX8_addTraveller_X8_walks rfl rfl rfl (by decide +kernel) ⟨(Nat.le_of_ble_eq_true rfl), (Nat.le_of_ble_eq_true rfl)⟩) ⟨kR_fb, va_recv hK hP (ci := 10) (q0 := 0) rfl rfl, (kR_go hPc hK)⟩ rfl rfl hl.1 rfl (lv_room (Nat.le_of_ble_eq_true rfl)) dX8_addTraveller_61 ⟨(Nat.le_of_ble_eq_true rfl), (Nat.le_of_ble_eq_true rfl)⟩) hS (fun _ _ h => h.elim) (fun _ h => h.elim) (fun u t H locs ht hvm hw hB hz1 hk1 hS => ?_)
      have hP := kx_kept hP hk1
      refine lv_iinc (v := 3) (lv' := [(6, .int 3), (5, .ref q_8), (0, .ref h1), (1, .int p0), (2, .int p1), (3, .int p2), (4, .int p3)]) hx hb dX8_addTraveller_64 hl (k := 0) rfl (by decide) (by decide) rfl (fun ls hl => ?_)
      refine lv_goto (tgt := 44) hx hb dX8_addTraveller_67 (by decide) ?_
      refine lv_iload hx hb dX8_addTraveller_44 (lv_at hl 0 rfl) ?_
      refine lv_iconst (v := 5) hx hb dX8_addTraveller_46 (by decide) ?_
      refine lv_icmp_gt (tgt := 70) hx hb dX8_addTraveller_47 (by decide) (fun h => absurd h (by decide)) (fun _ => ?_)
      refine lv_aload_n hx hb dX8_addTraveller_50 rfl (lv_at hl 2 rfl) ?_
      refine lv_iload_n hx hb dX8_addTraveller_51 rfl (lv_at hl 3 rfl) ?_
      refine lv_iload_n hx hb dX8_addTraveller_52 rfl (lv_at hl 4 rfl) ?_
      refine lv_iload hx hb dX8_addTraveller_53 (lv_at hl 0 rfl) ?_
      refine lv_iconst (v := 1) hx hb dX8_addTraveller_55 (by decide) ?_
      refine lv_iload_n hx hb dX8_addTraveller_56 rfl (lv_at hl 3 rfl) ?_
      refine lv_ishl hx hb dX8_addTraveller_57 ?_
      refine lv_topi (fun v_14 ev_14 => ?_)
      refine lv_iconst (v := 0) hx hb dX8_addTraveller_58 (by decide) ?_
      refine lv_aload hx hb dX8_addTraveller_59 (lv_at hl 1 rfl) ?_
      have hPc := hP.sub (ws' := [(h1, .inr (10, [x2, x3, x4, x5, x6, x7, x8, x9, x10, x11, x12, x13, x14, x15, .int 0, x16, x17, .int 0]))]) [0] rfl
      refine va_callv (va_runV (As := [.int p0, .int p1, .int 3, .int v_14, .int 0, .ref q_8]) (rest := []) ⟨hx, hb, hml, hown, hts⟩ (k_X8_walks_2 l D cy h1 p0 p1 v_14 q_8 (x2) (x3) (x4) (x5) (x6) (x7) (x8) (x9) (x10) (x11) (x12) (x13) (x14) (x15) (x16) (x17) (.int 0)) (cwV 6 hts gX8_addTraveller_X8_walks rfl rfl rfl (by decide +kernel) ⟨(Nat.le_of_ble_eq_true rfl), (Nat.le_of_ble_eq_true rfl)⟩) ⟨kR_fb, va_recv hK hP (ci := 10) (q0 := 0) rfl rfl, (kR_go hPc hK)⟩ rfl rfl hl.1 rfl (lv_room (Nat.le_of_ble_eq_true rfl)) dX8_addTraveller_61 ⟨(Nat.le_of_ble_eq_true rfl), (Nat.le_of_ble_eq_true rfl)⟩) hS (fun _ _ h => h.elim) (fun _ h => h.elim) (fun u t H locs ht hvm hw hB hz1 hk1 hS => ?_)
      have hP := kx_kept hP hk1
      refine lv_iinc (v := 4) (lv' := [(6, .int 4), (5, .ref q_8), (0, .ref h1), (1, .int p0), (2, .int p1), (3, .int p2), (4, .int p3)]) hx hb dX8_addTraveller_64 hl (k := 0) rfl (by decide) (by decide) rfl (fun ls hl => ?_)
      refine lv_goto (tgt := 44) hx hb dX8_addTraveller_67 (by decide) ?_
      refine lv_iload hx hb dX8_addTraveller_44 (lv_at hl 0 rfl) ?_
      refine lv_iconst (v := 5) hx hb dX8_addTraveller_46 (by decide) ?_
      refine lv_icmp_gt (tgt := 70) hx hb dX8_addTraveller_47 (by decide) (fun h => absurd h (by decide)) (fun _ => ?_)
      refine lv_aload_n hx hb dX8_addTraveller_50 rfl (lv_at hl 2 rfl) ?_
      refine lv_iload_n hx hb dX8_addTraveller_51 rfl (lv_at hl 3 rfl) ?_
      refine lv_iload_n hx hb dX8_addTraveller_52 rfl (lv_at hl 4 rfl) ?_
      refine lv_iload hx hb dX8_addTraveller_53 (lv_at hl 0 rfl) ?_
      refine lv_iconst (v := 1) hx hb dX8_addTraveller_55 (by decide) ?_
      refine lv_iload_n hx hb dX8_addTraveller_56 rfl (lv_at hl 3 rfl) ?_
      refine lv_ishl hx hb dX8_addTraveller_57 ?_
      refine lv_topi (fun v_16 ev_16 => ?_)
      refine lv_iconst (v := 0) hx hb dX8_addTraveller_58 (by decide) ?_
      refine lv_aload hx hb dX8_addTraveller_59 (lv_at hl 1 rfl) ?_
      have hPc := hP.sub (ws' := [(h1, .inr (10, [x2, x3, x4, x5, x6, x7, x8, x9, x10, x11, x12, x13, x14, x15, .int 0, x16, x17, .int 0]))]) [0] rfl
      refine va_callv (va_runV (As := [.int p0, .int p1, .int 4, .int v_16, .int 0, .ref q_8]) (rest := []) ⟨hx, hb, hml, hown, hts⟩ (k_X8_walks_3 l D cy h1 p0 p1 v_16 q_8 (x2) (x3) (x4) (x5) (x6) (x7) (x8) (x9) (x10) (x11) (x12) (x13) (x14) (x15) (x16) (x17) (.int 0)) (cwV 6 hts gX8_addTraveller_X8_walks rfl rfl rfl (by decide +kernel) ⟨(Nat.le_of_ble_eq_true rfl), (Nat.le_of_ble_eq_true rfl)⟩) ⟨kR_fb, va_recv hK hP (ci := 10) (q0 := 0) rfl rfl, (kR_go hPc hK)⟩ rfl rfl hl.1 rfl (lv_room (Nat.le_of_ble_eq_true rfl)) dX8_addTraveller_61 ⟨(Nat.le_of_ble_eq_true rfl), (Nat.le_of_ble_eq_true rfl)⟩) hS (fun _ _ h => h.elim) (fun _ h => h.elim) (fun u t H locs ht hvm hw hB hz1 hk1 hS => ?_)
      have hP := kx_kept hP hk1
      refine lv_iinc (v := 5) (lv' := [(6, .int 5), (5, .ref q_8), (0, .ref h1), (1, .int p0), (2, .int p1), (3, .int p2), (4, .int p3)]) hx hb dX8_addTraveller_64 hl (k := 0) rfl (by decide) (by decide) rfl (fun ls hl => ?_)
      refine lv_goto (tgt := 44) hx hb dX8_addTraveller_67 (by decide) ?_
      refine lv_iload hx hb dX8_addTraveller_44 (lv_at hl 0 rfl) ?_
      refine lv_iconst (v := 5) hx hb dX8_addTraveller_46 (by decide) ?_
      refine lv_icmp_gt (tgt := 70) hx hb dX8_addTraveller_47 (by decide) (fun h => absurd h (by decide)) (fun _ => ?_)
      refine lv_aload_n hx hb dX8_addTraveller_50 rfl (lv_at hl 2 rfl) ?_
      refine lv_iload_n hx hb dX8_addTraveller_51 rfl (lv_at hl 3 rfl) ?_
      refine lv_iload_n hx hb dX8_addTraveller_52 rfl (lv_at hl 4 rfl) ?_
      refine lv_iload hx hb dX8_addTraveller_53 (lv_at hl 0 rfl) ?_
      refine lv_iconst (v := 1) hx hb dX8_addTraveller_55 (by decide) ?_
      refine lv_iload_n hx hb dX8_addTraveller_56 rfl (lv_at hl 3 rfl) ?_
      refine lv_ishl hx hb dX8_addTraveller_57 ?_
      refine lv_topi (fun v_18 ev_18 => ?_)
      refine lv_iconst (v := 0) hx hb dX8_addTraveller_58 (by decide) ?_
      refine lv_aload hx hb dX8_addTraveller_59 (lv_at hl 1 rfl) ?_
      have hPc := hP.sub (ws' := [(h1, .inr (10, [x2, x3, x4, x5, x6, x7, x8, x9, x10, x11, x12, x13, x14, x15, .int 0, x16, x17, .int 0]))]) [0] rfl
      refine va_callv (va_runV (As := [.int p0, .int p1, .int 5, .int v_18, .int 0, .ref q_8]) (rest := []) ⟨hx, hb, hml, hown, hts⟩ (k_X8_walks_4 l D cy h1 p0 p1 v_18 q_8 (x2) (x3) (x4) (x5) (x6) (x7) (x8) (x9) (x10) (x11) (x12) (x13) (x14) (x15) (x16) (x17) (.int 0)) (cwV 6 hts gX8_addTraveller_X8_walks rfl rfl rfl (by decide +kernel) ⟨(Nat.le_of_ble_eq_true rfl), (Nat.le_of_ble_eq_true rfl)⟩) ⟨kR_fb, va_recv hK hP (ci := 10) (q0 := 0) rfl rfl, (kR_go hPc hK)⟩ rfl rfl hl.1 rfl (lv_room (Nat.le_of_ble_eq_true rfl)) dX8_addTraveller_61 ⟨(Nat.le_of_ble_eq_true rfl), (Nat.le_of_ble_eq_true rfl)⟩) hS (fun _ _ h => h.elim) (fun _ h => h.elim) (fun u t H locs ht hvm hw hB hz1 hk1 hS => ?_)
      have hP := kx_kept hP hk1
      refine lv_iinc (v := 6) (lv' := [(6, .int 6), (5, .ref q_8), (0, .ref h1), (1, .int p0), (2, .int p1), (3, .int p2), (4, .int p3)]) hx hb dX8_addTraveller_64 hl (k := 0) rfl (by decide) (by decide) rfl (fun ls hl => ?_)
      refine lv_goto (tgt := 44) hx hb dX8_addTraveller_67 (by decide) ?_
      refine lv_iload hx hb dX8_addTraveller_44 (lv_at hl 0 rfl) ?_
      refine lv_iconst (v := 5) hx hb dX8_addTraveller_46 (by decide) ?_
      refine lv_icmp_gt (tgt := 70) hx hb dX8_addTraveller_47 (by decide) (fun _ => ?_) (fun h => absurd (by decide) h)
      refine lv_aload_n hx hb dX8_addTraveller_70 rfl (lv_at hl 2 rfl) ?_
      refine lv_aload hx hb dX8_addTraveller_71 (lv_at hl 1 rfl) ?_
      have hPc := hP.sub (ws' := [(q_8, .inr (1, [.int 0, .ref de, .int 0]))]) [1] rfl
      refine va_calli (va_runV (As := []) (rest := [.ref h1]) ⟨hx, hb, hml, hown, hts⟩ (k_Jx4a65c_isEmpty_aae02 l D cy q_8 (.int 0) (.ref de)) (cwV 0 hts gX8_addTraveller_Jx4a65c_isEmpty_aae02 rfl rfl rfl (by decide +kernel) ⟨(Nat.le_of_ble_eq_true rfl), (Nat.le_of_ble_eq_true rfl)⟩) ⟨kR_fb, va_recv hK hP (ci := 1) (q0 := 1) rfl rfl, (kR_go hPc hK)⟩ rfl rfl hl.1 rfl (lv_room (Nat.le_of_ble_eq_true rfl)) dX8_addTraveller_73 ⟨(Nat.le_of_ble_eq_true rfl), (Nat.le_of_ble_eq_true rfl)⟩) hS (fun _ _ h => h.elim) (fun _ h => h.elim) (fun r9 u t H locs ht hvm hw hB hz1 hk1 hS => ?_)
      have hP := kx_kept hP hk1
      obtain ⟨rfl, hw⟩ := hw
      refine lv_iconst (v := 2) hx hb dX8_addTraveller_76 (by decide) ?_
      have hPc := hP.sub (ws' := [(h1, .inr (10, [x2, x3, x4, x5, x6, x7, x8, x9, x10, x11, x12, x13, x14, x15, .int 0, x16, x17, .int 0]))]) [0] rfl
      have hDc := hD.sub (ws' := [(h1, .inr (10, [x2, x3, x4, x5, x6, x7, x8, x9, x10, x11, x12, x13, x14, x15, .int 0, x16, x17, .int 0]))]) [0] (by decide) rfl
      have hFc := va_free (wc := [(h1, .inr (10, [x2, x3, x4, x5, x6, x7, x8, x9, x10, x11, x12, x13, x14, x15, .int 0, x16, x17, .int 0]))]) hD hS hA [0] rfl
      refine va_calli (va_runV (As := [.int 1, .int 2]) (rest := []) ⟨hx, hb, hml, hown, hts⟩ (k_X8_isThrown_3 l D cy h1 (x2) (x3) (x4) (x5) (x6) (x7) (x8) (x9) (x10) (x11) (x12) (x13) (x14) (x15) (.int 0) (x16) (x17) (.int 0) H.size) (cwV 2 hts gX8_addTraveller_X8_isThrown rfl rfl rfl (by decide +kernel) ⟨(Nat.le_of_ble_eq_true rfl), (Nat.le_of_ble_eq_true rfl)⟩) ⟨kW_fb, va_recv hK hP (ci := 10) (q0 := 0) rfl rfl, (kW_go hPc hK hDc)⟩ rfl rfl hl.1 rfl (lv_room (Nat.le_of_ble_eq_true rfl)) dX8_addTraveller_77 ⟨(Nat.le_of_ble_eq_true rfl), (Nat.le_of_ble_eq_true rfl)⟩) hS (fun q _ h => hFc q h) hFc (fun r9 u t H locs ht hvm hw hB hz1 hk1 hS => ?_)
      obtain ⟨hP1, hD1⟩ := hB
      rw [ht] at hP1
      try dsimp only at hw hP1 hD1
      obtain ⟨hP, hD⟩ := va_join (wr := [(q_8, .inr (1, [.int 0, .ref de, .int 0]))]) (w1 := [(h1, .inr (10, [x2, x3, x4, x5, x6, x7, x8, x9, x10, x11, x12, x13, x14, x15, .int 0, x16, x17, .int 2]))]) hP hD [0] [1] rfl rfl (by decide) (by decide) hk1 hFc hP1 hD1
      have hP : va_P D vwCl [(q_8, .inr (1, [.int 0, .ref de, .int 0])), (h1, .inr (10, [x2, x3, x4, x5, x6, x7, x8, x9, x10, x11, x12, x13, x14, x15, .int 0, x16, x17, .int 2]))] H := hP
      have hD : va_D A [(q_8, .inr (1, [.int 0, .ref de, .int 0])), (h1, .inr (10, [x2, x3, x4, x5, x6, x7, x8, x9, x10, x11, x12, x13, x14, x15, .int 0, x16, x17, .int 2]))] := hD
      obtain ⟨rfl, hw⟩ := hw
      refine lv_if_ne (tgt := 105) hx hb dX8_addTraveller_80 (by decide) (fun _ => ?_) (fun h => absurd h (by decide))
      refine lv_iconst (v := 0) hx hb dX8_addTraveller_105 (by decide) ?_
      refine W.widen (k := 1) (n := 3) (Nat.le_of_ble_eq_true rfl) (Nat.le_of_ble_eq_true rfl) ?_
      have hP9 := hP.sub (ws' := [(h1, .inr (10, [x2, x3, x4, x5, x6, x7, x8, x9, x10, x11, x12, x13, x14, x15, .int 0, x16, x17, .int 2]))]) [1] rfl
      have hD9 := hD.sub (ws' := [(h1, .inr (10, [x2, x3, x4, x5, x6, x7, x8, x9, x10, x11, x12, x13, x14, x15, .int 0, x16, x17, .int 2]))]) [1] (by decide) rfl
      exact W.iret (v := 0) hx hb hr (fun t ht hW => ⟨⟨0, (2), rfl, Or.inr (⟨rfl, rfl, (by omega)⟩), ⟨by rw [ht]; exact hP9, hD9⟩⟩, hS.F ht⟩) hS.2.2 dX8_addTraveller_106
theorem dX0_countGainers_0 : decode cX0_countGainers 0 = .ok (.iconst 0, 1) := by decide +kernel
theorem dX0_countGainers_1 : decode cX0_countGainers 1 = .ok (.istore_n 2, 1) := by decide +kernel
theorem dX0_countGainers_2 : decode cX0_countGainers 2 = .ok (.iconst 0, 1) := by decide +kernel
theorem dX0_countGainers_3 : decode cX0_countGainers 3 = .ok (.istore_n 3, 1) := by decide +kernel
theorem dX0_countGainers_4 : decode cX0_countGainers 4 = .ok (.iload_n 3, 1) := by decide +kernel
theorem dX0_countGainers_5 : decode cX0_countGainers 5 = .ok (.aload_n 0, 1) := by decide +kernel
theorem dX0_countGainers_6 : decode cX0_countGainers 6 = .ok (.getfield 42, 3) := by decide +kernel
theorem dX0_countGainers_9 : decode cX0_countGainers 9 = .ok (.if_icmp .ge 21, 3) := by decide +kernel
theorem dX0_countGainers_30 : decode cX0_countGainers 30 = .ok (.iload_n 2, 1) := by decide +kernel
theorem dX0_countGainers_31 : decode cX0_countGainers 31 = .ok (.ireturn, 1) := by decide +kernel
set_option maxHeartbeats 4000000 in
set_option maxRecDepth 100000 in
theorem k_X0_countGainers (l : Launch) (D : va_G) (cy : Nat → ClassId) (h1 : Nat) (h2 : Nat) (x3 : Value) (x4 : Value) (x5 : Value) : Met l yX0_countGainers wsX0_countGainers ({ frames := 0, cells := 0, slots := 0, locals := 0 }) (kR D cy [.ref h1, .ref h2] [(h1, .inr (2, [x3, x4, x5, .int 0]))]) (va_Qi (fun (r : Int32) (_ : Unit) => r = 0 ∧ True) (fun (_ : Unit) (_ : State) => True) (fun _ : Nat => False)) 0 0 (fun _ : Nat => False) := by
  refine Met.ofW (cc := cX0_countGainers) (maxL := 4) (ret := (some .int)) (by decide) rfl ?_
  intro p e s m args below meth c s₁ B hml hv
  obtain ⟨rfl, hP, hK⟩ := hv
  have hx := B.exec
  have hb := B.bytes
  have hr := B.returns
  have hts := atoms_spec (ws := wsX0_countGainers) B.pre
  have hown : s.vm.findClass RX0 = some m.cls := findClass_of_methodNamed B.named
  have hlocks := B.notSynchronized
  have hS : va_S (fun _ : Nat => False) s.heap s.heap [] := va_S.rf
  have hP : va_P D vwCl [(h1, .inr (2, [x3, x4, x5, .int 0]))] s.heap := hP
  have hl := lv_entry ([.ref h1, .ref h2]) (n := 4) (Nat.le_of_ble_eq_true rfl)
  rw [lg_entry_eq]
  generalize (lg_sl ([.ref h1, .ref h2]) ++ List.replicate (4 - (lg_sl ([.ref h1, .ref h2])).length) Slot.unset).toArray = ls at hl ⊢
  have hl : lv_has ls 4 [(0, .ref h1), (1, .ref h2)] := hl
  refine lv_iconst (v := 0) hx hb dX0_countGainers_0 (by decide) ?_
  refine lv_istore_n (lv' := [(2, .int 0), (0, .ref h1), (1, .ref h2)]) hx hb dX0_countGainers_1 rfl hl (by decide) rfl (fun ls hl => ?_)
  refine lv_iconst (v := 0) hx hb dX0_countGainers_2 (by decide) ?_
  refine lv_istore_n (lv' := [(3, .int 0), (2, .int 0), (0, .ref h1), (1, .ref h2)]) hx hb dX0_countGainers_3 rfl hl (by decide) rfl (fun ls hl => ?_)
  refine lv_iload_n hx hb dX0_countGainers_4 rfl (lv_at hl 0 rfl) ?_
  refine lv_aload_n hx hb dX0_countGainers_5 rfl (lv_at hl 2 rfl) ?_
  refine va_get (D := D) (ci := 2) (v := .int 0) (C := RX0) (T := TX0) (N := 4) hx hb hts (fun _ h => (List.mem_cons_of_mem _ (List.mem_append_left _ (List.mem_append_left _ (List.mem_append_left _ (List.mem_append_left _ (List.mem_append_right _ h))))))) hown hK hP 0 rfl rfl 3 (by decide) (hts (.fieldLink RX0 42 "SelfishJunction$Board" "playerCount" "I") (List.mem_cons_of_mem _ (List.mem_append_left _ (List.mem_append_left _ (List.mem_append_left _ (List.mem_append_left _ (List.mem_append_left _ (List.mem_append_left _ (List.mem_of_getElem? (i := 0) rfl))))))))) (fun _ h9 => h9) rfl dX0_countGainers_6 ?_
  refine lv_icmp_ge (tgt := 30) hx hb dX0_countGainers_9 (by decide) (fun _ => ?_) (fun h => absurd (by decide) h)
  refine lv_iload_n hx hb dX0_countGainers_30 rfl (lv_at hl 1 rfl) ?_
  refine W.widen (k := 0) (n := 0) (Nat.le_of_ble_eq_true rfl) (Nat.le_of_ble_eq_true rfl) ?_
  exact W.iret (v := 0) hx hb hr (fun t ht hW => ⟨⟨0, (), rfl, ⟨rfl, trivial⟩, trivial⟩, hS.F ht⟩) hS.2.2 dX0_countGainers_31
theorem dX7_nextToChange_0 : decode cX7_nextToChange 0 = .ok (.iload_n 1, 1) := by decide +kernel
theorem dX7_nextToChange_1 : decode cX7_nextToChange 1 = .ok (.bipush 103, 2) := by decide +kernel
theorem dX7_nextToChange_3 : decode cX7_nextToChange 3 = .ok (.if_icmp .ne 15, 3) := by decide +kernel
theorem dX7_nextToChange_18 : decode cX7_nextToChange 18 = .ok (.iload_n 1, 1) := by decide +kernel
theorem dX7_nextToChange_19 : decode cX7_nextToChange 19 = .ok (.bipush 114, 2) := by decide +kernel
theorem dX7_nextToChange_21 : decode cX7_nextToChange 21 = .ok (.if_icmp .ne 18, 3) := by decide +kernel
theorem dX7_nextToChange_39 : decode cX7_nextToChange 39 = .ok (.aload_n 0, 1) := by decide +kernel
theorem dX7_nextToChange_40 : decode cX7_nextToChange 40 = .ok (.getfield 10, 3) := by decide +kernel
theorem dX7_nextToChange_43 : decode cX7_nextToChange 43 = .ok (.aload_n 0, 1) := by decide +kernel
theorem dX7_nextToChange_44 : decode cX7_nextToChange 44 = .ok (.getfield 19, 3) := by decide +kernel
theorem dX7_nextToChange_47 : decode cX7_nextToChange 47 = .ok (.invokevirtual 392, 3) := by decide +kernel
set_option maxRecDepth 20000 in
theorem ggX7_nextToChange_X0_countGainers : GoodIn wsX7_nextToChange wsX0_countGainers := goodIn_ca (goodIn_r _ [71, 8, 9, 10, 11, 6, 12, 13, 14, 15, 16, 17, 18, 19, 20, 21, 22, 23, 24, 25, 26, 27, 28, 29, 30, 31, 32, 33, 34, 35, 36, 37, 38, 39, 40, 41, 42, 43, 44, 45, 46, 47, 48, 49, 50, 51, 52, 53, 54, 55, 56, 57, 58, 59, 90, 91, 92, 93, 94, 95, 96, 97, 98, 99, 100, 101, 102, 103, 104, 105, 106, 107, 108, 109] (by decide +kernel) (by decide +kernel)) (goodIn_sub (fun _ h => List.mem_cons_of_mem _ (List.mem_append_right _ h)) (by decide +kernel))
set_option maxRecDepth 20000 in
theorem gX7_nextToChange_X0_countGainers : GoodIn wsX7_nextToChange (wsV RX7 392 RX0 yX0_countGainers wsX0_countGainers) := goodIn_app (goodIn_of _ (by decide +kernel)) ggX7_nextToChange_X0_countGainers
theorem dX7_nextToChange_50 : decode cX7_nextToChange 50 = .ok (.istore_n 3, 1) := by decide +kernel
theorem dX7_nextToChange_51 : decode cX7_nextToChange 51 = .ok (.iload_n 3, 1) := by decide +kernel
theorem dX7_nextToChange_52 : decode cX7_nextToChange 52 = .ok (.iconst 1, 1) := by decide +kernel
theorem dX7_nextToChange_53 : decode cX7_nextToChange 53 = .ok (.if_icmp .ge 7, 3) := by decide +kernel
theorem dX7_nextToChange_56 : decode cX7_nextToChange 56 = .ok (.iconst (-1), 1) := by decide +kernel
theorem dX7_nextToChange_57 : decode cX7_nextToChange 57 = .ok (.goto 20, 3) := by decide +kernel
theorem dX7_nextToChange_77 : decode cX7_nextToChange 77 = .ok (.ireturn, 1) := by decide +kernel
theorem dX7_nextToChange_24 : decode cX7_nextToChange 24 = .ok (.aload_n 0, 1) := by decide +kernel
theorem dX7_nextToChange_25 : decode cX7_nextToChange 25 = .ok (.getfield 10, 3) := by decide +kernel
theorem dX7_nextToChange_28 : decode cX7_nextToChange 28 = .ok (.aload_n 0, 1) := by decide +kernel
theorem dX7_nextToChange_29 : decode cX7_nextToChange 29 = .ok (.getfield 19, 3) := by decide +kernel
theorem dX7_nextToChange_32 : decode cX7_nextToChange 32 = .ok (.iload_n 2, 1) := by decide +kernel
theorem dX7_nextToChange_33 : decode cX7_nextToChange 33 = .ok (.iconst 1, 1) := by decide +kernel
theorem dX7_nextToChange_34 : decode cX7_nextToChange 34 = .ok (.iadd, 1) := by decide +kernel
theorem dX7_nextToChange_35 : decode cX7_nextToChange 35 = .ok (.invokevirtual 236, 3) := by decide +kernel
set_option maxRecDepth 20000 in
theorem ggX7_nextToChange_X0_firstToGain : GoodIn wsX7_nextToChange wsX0_firstToGain := goodIn_ca (goodIn_r _ [63, 8, 64, 65, 66, 67, 9, 10, 11, 6, 12, 13, 14, 15, 16, 17, 18, 19, 20, 21, 22, 23, 24, 25, 26, 27, 28, 29, 30, 31, 32, 33, 34, 35, 36, 37, 38, 39, 40, 41, 42, 43, 44, 45, 46, 47, 48, 49, 50, 51, 52, 53, 54, 55, 56, 57, 58, 59, 90, 91, 92, 93, 94, 95, 96, 97, 98, 99, 100, 101, 102, 103, 104, 105, 106, 107, 108, 109] (by decide +kernel) (by decide +kernel)) (goodIn_sub (fun _ h => List.mem_cons_of_mem _ (List.mem_append_right _ h)) (by decide +kernel))
set_option maxRecDepth 20000 in
theorem gX7_nextToChange_X0_firstToGain : GoodIn wsX7_nextToChange (wsV RX7 236 RX0 yX0_firstToGain wsX0_firstToGain) := goodIn_app (goodIn_of _ (by decide +kernel)) ggX7_nextToChange_X0_firstToGain
theorem dX7_nextToChange_38 : decode cX7_nextToChange 38 = .ok (.ireturn, 1) := by decide +kernel
theorem dX7_nextToChange_6 : decode cX7_nextToChange 6 = .ok (.aload_n 0, 1) := by decide +kernel
theorem dX7_nextToChange_7 : decode cX7_nextToChange 7 = .ok (.getfield 10, 3) := by decide +kernel
theorem dX7_nextToChange_10 : decode cX7_nextToChange 10 = .ok (.aload_n 0, 1) := by decide +kernel
theorem dX7_nextToChange_11 : decode cX7_nextToChange 11 = .ok (.getfield 19, 3) := by decide +kernel
theorem dX7_nextToChange_14 : decode cX7_nextToChange 14 = .ok (.invokevirtual 239, 3) := by decide +kernel
set_option maxRecDepth 20000 in
theorem ggX7_nextToChange_X0_mostToGain : GoodIn wsX7_nextToChange wsX0_mostToGain := goodIn_ca (goodIn_r _ [7, 8, 9, 10, 11, 6, 12, 13, 14, 15, 16, 17, 18, 19, 20, 21, 22, 23, 24, 25, 26, 27, 28, 29, 30, 31, 32, 33, 34, 35, 36, 37, 38, 39, 40, 41, 42, 43, 44, 45, 46, 47, 48, 49, 50, 51, 52, 53, 54, 55, 56, 57, 58, 59, 90, 91, 92, 93, 94, 95, 96, 97, 98, 99, 100, 101, 102, 103, 104, 105, 106, 107, 108, 109] (by decide +kernel) (by decide +kernel)) (goodIn_sub (fun _ h => List.mem_cons_of_mem _ (List.mem_append_right _ h)) (by decide +kernel))
set_option maxRecDepth 20000 in
theorem gX7_nextToChange_X0_mostToGain : GoodIn wsX7_nextToChange (wsV RX7 239 RX0 yX0_mostToGain wsX0_mostToGain) := goodIn_app (goodIn_of _ (by decide +kernel)) ggX7_nextToChange_X0_mostToGain
theorem dX7_nextToChange_17 : decode cX7_nextToChange 17 = .ok (.ireturn, 1) := by decide +kernel
set_option maxHeartbeats 4000000 in
set_option maxRecDepth 100000 in
theorem k_X7_nextToChange (l : Launch) (D : va_G) (cy : Nat → ClassId) (h1 : Nat) (p0 : Int32) (h2 : Nat) (h3 : Nat) (x4 : Value) (x5 : Value) (x6 : Value) (x7 : Value) (x8 : Value) (x9 : Value) (x10 : Value) (x11 : Value) : Met l yX7_nextToChange wsX7_nextToChange ({ frames := 1, cells := 0, slots := 0, locals := 25 }) (kR D cy [.ref h1, .int p0, .int (-1)] [(h1, .inr (9, [.ref h2, .ref h3, x4, x5, x6, x7, x8])), (h2, .inr (2, [x9, x10, x11, .int 0]))]) (va_Qi (fun (r : Int32) (_ : Unit) => r = (-1) ∧ True) (fun (_ : Unit) (_ : State) => True) (fun _ : Nat => False)) 0 0 (fun _ : Nat => False) := by
  refine Met.ofW (cc := cX7_nextToChange) (maxL := 4) (ret := (some .int)) (by decide) rfl ?_
  intro p e s m args below meth c s₁ B hml hv
  obtain ⟨rfl, hP, hK⟩ := hv
  have hx := B.exec
  have hb := B.bytes
  have hr := B.returns
  have hts := atoms_spec (ws := wsX7_nextToChange) B.pre
  have hown : s.vm.findClass RX7 = some m.cls := findClass_of_methodNamed B.named
  have hlocks := B.notSynchronized
  have hS : va_S (fun _ : Nat => False) s.heap s.heap [] := va_S.rf
  have hP : va_P D vwCl [(h1, .inr (9, [.ref h2, .ref h3, x4, x5, x6, x7, x8])), (h2, .inr (2, [x9, x10, x11, .int 0]))] s.heap := hP
  have hl := lv_entry ([.ref h1, .int p0, .int (-1)]) (n := 4) (Nat.le_of_ble_eq_true rfl)
  rw [lg_entry_eq]
  generalize (lg_sl ([.ref h1, .int p0, .int (-1)]) ++ List.replicate (4 - (lg_sl ([.ref h1, .int p0, .int (-1)])).length) Slot.unset).toArray = ls at hl ⊢
  have hl : lv_has ls 4 [(0, .ref h1), (1, .int p0), (2, .int (-1))] := hl
  refine lv_iload_n hx hb dX7_nextToChange_0 rfl (lv_at hl 1 rfl) ?_
  refine lv_bipush (v := 103) hx hb dX7_nextToChange_1 (by decide) ?_
  refine lv_icmp_ne (tgt := 18) hx hb dX7_nextToChange_3 (by decide) (fun c_1 => ?_) (fun c_1 => ?_)
  · have f_2 : p0.toInt ≠ (103 : Int) := kx_ne c_1
    refine lv_iload_n hx hb dX7_nextToChange_18 rfl (lv_at hl 1 rfl) ?_
    refine lv_bipush (v := 114) hx hb dX7_nextToChange_19 (by decide) ?_
    refine lv_icmp_ne (tgt := 39) hx hb dX7_nextToChange_21 (by decide) (fun c_3 => ?_) (fun c_3 => ?_)
    · have f_4 : p0.toInt ≠ (114 : Int) := kx_ne c_3
      refine lv_aload_n hx hb dX7_nextToChange_39 rfl (lv_at hl 0 rfl) ?_
      refine va_get (D := D) (ci := 9) (v := .ref h2) (C := RX7) (T := TX7) (N := 7) hx hb hts (fun _ h => (List.mem_cons_of_mem _ (List.mem_append_left _ (List.mem_append_left _ (List.mem_append_left _ (List.mem_append_left _ (List.mem_append_left _ (List.mem_append_left _ (List.mem_append_right _ h))))))))) hown hK hP 0 rfl rfl 0 (by decide) (hts (.fieldLink RX7 10 "SelfishJunction" "board" "LSelfishJunction$Board;") (List.mem_cons_of_mem _ (List.mem_append_left _ (List.mem_append_left _ (List.mem_append_left _ (List.mem_append_left _ (List.mem_append_left _ (List.mem_append_left _ (List.mem_append_left _ (List.mem_append_left _ (List.mem_of_getElem? (i := 0) rfl))))))))))) (fun _ h9 => h9) rfl dX7_nextToChange_40 ?_
      refine lv_aload_n hx hb dX7_nextToChange_43 rfl (lv_at hl 0 rfl) ?_
      refine va_get (D := D) (ci := 9) (v := .ref h3) (C := RX7) (T := TX7) (N := 7) hx hb hts (fun _ h => (List.mem_cons_of_mem _ (List.mem_append_left _ (List.mem_append_left _ (List.mem_append_left _ (List.mem_append_left _ (List.mem_append_left _ (List.mem_append_left _ (List.mem_append_right _ h))))))))) hown hK hP 0 rfl rfl 1 (by decide) (hts (.fieldLink RX7 19 "SelfishJunction" "now" "LSelfishJunction$Play;") (List.mem_cons_of_mem _ (List.mem_append_left _ (List.mem_append_left _ (List.mem_append_left _ (List.mem_append_left _ (List.mem_append_left _ (List.mem_append_left _ (List.mem_append_left _ (List.mem_append_left _ (List.mem_of_getElem? (i := 1) rfl))))))))))) (fun _ h9 => h9) rfl dX7_nextToChange_44 ?_
      have hPc := hP.sub (ws' := [(h2, .inr (2, [x9, x10, x11, .int 0]))]) [1] rfl
      refine va_calli (va_runV (As := [.ref h3]) (rest := []) ⟨hx, hb, hml, hown, hts⟩ (k_X0_countGainers l D cy h2 h3 (x9) (x10) (x11)) (cwV 1 hts gX7_nextToChange_X0_countGainers rfl rfl rfl (by decide +kernel) ⟨(Nat.le_of_ble_eq_true rfl), (Nat.le_of_ble_eq_true rfl)⟩) ⟨kR_fb, va_recv hK hP (ci := 2) (q0 := 1) rfl rfl, (kR_go hPc hK)⟩ rfl rfl hl.1 rfl (lv_room (Nat.le_of_ble_eq_true rfl)) dX7_nextToChange_47 ⟨(Nat.le_of_ble_eq_true rfl), (Nat.le_of_ble_eq_true rfl)⟩) hS (fun _ _ h => h.elim) (fun _ h => h.elim) (fun r9 u t H locs ht hvm hw hB hz1 hk1 hS => ?_)
      have hP := kx_kept hP hk1
      obtain ⟨rfl, hw⟩ := hw
      refine lv_istore_n (lv' := [(3, .int 0), (0, .ref h1), (1, .int p0), (2, .int (-1))]) hx hb dX7_nextToChange_50 rfl hl (by decide) rfl (fun ls hl => ?_)
      refine lv_iload_n hx hb dX7_nextToChange_51 rfl (lv_at hl 0 rfl) ?_
      refine lv_iconst (v := 1) hx hb dX7_nextToChange_52 (by decide) ?_
      refine lv_icmp_ge (tgt := 60) hx hb dX7_nextToChange_53 (by decide) (fun h => absurd h (by decide)) (fun _ => ?_)
      refine lv_iconst (v := (-1)) hx hb dX7_nextToChange_56 (by decide) ?_
      refine lv_goto (tgt := 77) hx hb dX7_nextToChange_57 (by decide) ?_
      refine W.widen (k := 0) (n := 0) (Nat.le_of_ble_eq_true rfl) (Nat.le_of_ble_eq_true rfl) ?_
      exact W.iret (v := (-1)) hx hb hr (fun t ht hW => ⟨⟨(-1), (), rfl, ⟨rfl, trivial⟩, trivial⟩, hS.F ht⟩) hS.2.2 dX7_nextToChange_77
    · have f_6 : p0.toInt = (114 : Int) := kx_eq c_3
      refine lv_aload_n hx hb dX7_nextToChange_24 rfl (lv_at hl 0 rfl) ?_
      refine va_get (D := D) (ci := 9) (v := .ref h2) (C := RX7) (T := TX7) (N := 7) hx hb hts (fun _ h => (List.mem_cons_of_mem _ (List.mem_append_left _ (List.mem_append_left _ (List.mem_append_left _ (List.mem_append_left _ (List.mem_append_left _ (List.mem_append_left _ (List.mem_append_right _ h))))))))) hown hK hP 0 rfl rfl 0 (by decide) (hts (.fieldLink RX7 10 "SelfishJunction" "board" "LSelfishJunction$Board;") (List.mem_cons_of_mem _ (List.mem_append_left _ (List.mem_append_left _ (List.mem_append_left _ (List.mem_append_left _ (List.mem_append_left _ (List.mem_append_left _ (List.mem_append_left _ (List.mem_append_left _ (List.mem_of_getElem? (i := 0) rfl))))))))))) (fun _ h9 => h9) rfl dX7_nextToChange_25 ?_
      refine lv_aload_n hx hb dX7_nextToChange_28 rfl (lv_at hl 0 rfl) ?_
      refine va_get (D := D) (ci := 9) (v := .ref h3) (C := RX7) (T := TX7) (N := 7) hx hb hts (fun _ h => (List.mem_cons_of_mem _ (List.mem_append_left _ (List.mem_append_left _ (List.mem_append_left _ (List.mem_append_left _ (List.mem_append_left _ (List.mem_append_left _ (List.mem_append_right _ h))))))))) hown hK hP 0 rfl rfl 1 (by decide) (hts (.fieldLink RX7 19 "SelfishJunction" "now" "LSelfishJunction$Play;") (List.mem_cons_of_mem _ (List.mem_append_left _ (List.mem_append_left _ (List.mem_append_left _ (List.mem_append_left _ (List.mem_append_left _ (List.mem_append_left _ (List.mem_append_left _ (List.mem_append_left _ (List.mem_of_getElem? (i := 1) rfl))))))))))) (fun _ h9 => h9) rfl dX7_nextToChange_29 ?_
      refine lv_iload_n hx hb dX7_nextToChange_32 rfl (lv_at hl 2 rfl) ?_
      refine lv_iconst (v := 1) hx hb dX7_nextToChange_33 (by decide) ?_
      refine lv_iadd hx hb dX7_nextToChange_34 ?_
      refine lv_topi (fun v_7 ev_7 => ?_)
      obtain rfl : v_7 = 0 := ev_7.trans (by decide)
      have hPc := hP.sub (ws' := [(h2, .inr (2, [x9, x10, x11, .int 0]))]) [1] rfl
      refine va_calli (va_runV (As := [.ref h3, .int 0]) (rest := []) ⟨hx, hb, hml, hown, hts⟩ (k_X0_firstToGain l D cy h2 h3 (x9) (x10) (x11)) (cwV 2 hts gX7_nextToChange_X0_firstToGain rfl rfl rfl (by decide +kernel) ⟨(Nat.le_of_ble_eq_true rfl), (Nat.le_of_ble_eq_true rfl)⟩) ⟨kR_fb, va_recv hK hP (ci := 2) (q0 := 1) rfl rfl, (kR_go hPc hK)⟩ rfl rfl hl.1 rfl (lv_room (Nat.le_of_ble_eq_true rfl)) dX7_nextToChange_35 ⟨(Nat.le_of_ble_eq_true rfl), (Nat.le_of_ble_eq_true rfl)⟩) hS (fun _ _ h => h.elim) (fun _ h => h.elim) (fun r9 u t H locs ht hvm hw hB hz1 hk1 hS => ?_)
      have hP := kx_kept hP hk1
      obtain ⟨rfl, hw⟩ := hw
      refine W.widen (k := 0) (n := 0) (Nat.le_of_ble_eq_true rfl) (Nat.le_of_ble_eq_true rfl) ?_
      exact W.iret (v := (-1)) hx hb hr (fun t ht hW => ⟨⟨(-1), (), rfl, ⟨rfl, trivial⟩, trivial⟩, hS.F ht⟩) hS.2.2 dX7_nextToChange_38
  · have f_9 : p0.toInt = (103 : Int) := kx_eq c_1
    refine lv_aload_n hx hb dX7_nextToChange_6 rfl (lv_at hl 0 rfl) ?_
    refine va_get (D := D) (ci := 9) (v := .ref h2) (C := RX7) (T := TX7) (N := 7) hx hb hts (fun _ h => (List.mem_cons_of_mem _ (List.mem_append_left _ (List.mem_append_left _ (List.mem_append_left _ (List.mem_append_left _ (List.mem_append_left _ (List.mem_append_left _ (List.mem_append_right _ h))))))))) hown hK hP 0 rfl rfl 0 (by decide) (hts (.fieldLink RX7 10 "SelfishJunction" "board" "LSelfishJunction$Board;") (List.mem_cons_of_mem _ (List.mem_append_left _ (List.mem_append_left _ (List.mem_append_left _ (List.mem_append_left _ (List.mem_append_left _ (List.mem_append_left _ (List.mem_append_left _ (List.mem_append_left _ (List.mem_of_getElem? (i := 0) rfl))))))))))) (fun _ h9 => h9) rfl dX7_nextToChange_7 ?_
    refine lv_aload_n hx hb dX7_nextToChange_10 rfl (lv_at hl 0 rfl) ?_
    refine va_get (D := D) (ci := 9) (v := .ref h3) (C := RX7) (T := TX7) (N := 7) hx hb hts (fun _ h => (List.mem_cons_of_mem _ (List.mem_append_left _ (List.mem_append_left _ (List.mem_append_left _ (List.mem_append_left _ (List.mem_append_left _ (List.mem_append_left _ (List.mem_append_right _ h))))))))) hown hK hP 0 rfl rfl 1 (by decide) (hts (.fieldLink RX7 19 "SelfishJunction" "now" "LSelfishJunction$Play;") (List.mem_cons_of_mem _ (List.mem_append_left _ (List.mem_append_left _ (List.mem_append_left _ (List.mem_append_left _ (List.mem_append_left _ (List.mem_append_left _ (List.mem_append_left _ (List.mem_append_left _ (List.mem_of_getElem? (i := 1) rfl))))))))))) (fun _ h9 => h9) rfl dX7_nextToChange_11 ?_
    have hPc := hP.sub (ws' := [(h2, .inr (2, [x9, x10, x11, .int 0]))]) [1] rfl
    refine va_calli (va_runV (As := [.ref h3]) (rest := []) ⟨hx, hb, hml, hown, hts⟩ (k_X0_mostToGain l D cy h2 h3 (x9) (x10) (x11)) (cwV 1 hts gX7_nextToChange_X0_mostToGain rfl rfl rfl (by decide +kernel) ⟨(Nat.le_of_ble_eq_true rfl), (Nat.le_of_ble_eq_true rfl)⟩) ⟨kR_fb, va_recv hK hP (ci := 2) (q0 := 1) rfl rfl, (kR_go hPc hK)⟩ rfl rfl hl.1 rfl (lv_room (Nat.le_of_ble_eq_true rfl)) dX7_nextToChange_14 ⟨(Nat.le_of_ble_eq_true rfl), (Nat.le_of_ble_eq_true rfl)⟩) hS (fun _ _ h => h.elim) (fun _ h => h.elim) (fun r9 u t H locs ht hvm hw hB hz1 hk1 hS => ?_)
    have hP := kx_kept hP hk1
    obtain ⟨rfl, hw⟩ := hw
    refine W.widen (k := 0) (n := 0) (Nat.le_of_ble_eq_true rfl) (Nat.le_of_ble_eq_true rfl) ?_
    exact W.iret (v := (-1)) hx hb hr (fun t ht hW => ⟨⟨(-1), (), rfl, ⟨rfl, trivial⟩, trivial⟩, hS.F ht⟩) hS.2.2 dX7_nextToChange_17
theorem dX7_run_0 : decode cX7_run 0 = .ok (.iload_n 1, 1) := by decide +kernel
theorem dX7_run_1 : decode cX7_run 1 = .ok (.bipush 114, 2) := by decide +kernel
theorem dX7_run_3 : decode cX7_run 3 = .ok (.if_icmp .eq 25, 3) := by decide +kernel
theorem dX7_run_28 : decode cX7_run 28 = .ok (.aload_n 0, 1) := by decide +kernel
theorem dX7_run_29 : decode cX7_run 29 = .ok (.iload_n 2, 1) := by decide +kernel
theorem dX7_run_30 : decode cX7_run 30 = .ok (.iconst 1, 1) := by decide +kernel
theorem dX7_run_31 : decode cX7_run 31 = .ok (.sipush 200, 3) := by decide +kernel
theorem dX7_run_34 : decode cX7_run 34 = .ok (.invokevirtual 174, 3) := by decide +kernel
set_option maxRecDepth 20000 in
theorem ggX7_run_X7_checkRange : GoodIn wsX7_run wsX7_checkRange := goodIn_ca (goodIn_r _ [9, 1, 2] (by decide +kernel) (by decide +kernel)) (goodIn_sub (fun _ h => List.mem_cons_of_mem _ (List.mem_append_left _ (List.mem_append_left _ (List.mem_append_right _ h)))) (by decide +kernel))
set_option maxRecDepth 20000 in
theorem gX7_run_X7_checkRange : GoodIn wsX7_run (wsV RX7 174 RX7 yX7_checkRange wsX7_checkRange) := goodIn_app (goodIn_of _ (by decide +kernel)) ggX7_run_X7_checkRange
theorem dX7_run_37 : decode cX7_run 37 = .ok (.iconst (-1), 1) := by decide +kernel
theorem dX7_run_38 : decode cX7_run 38 = .ok (.istore_n 3, 1) := by decide +kernel
theorem dX7_run_39 : decode cX7_run 39 = .ok (.iconst 0, 1) := by decide +kernel
theorem dX7_run_40 : decode cX7_run 40 = .ok (.istore 4, 2) := by decide +kernel
theorem dX7_run_42 : decode cX7_run 42 = .ok (.iload 4, 2) := by decide +kernel
theorem dX7_run_44 : decode cX7_run 44 = .ok (.iload_n 2, 1) := by decide +kernel
theorem dX7_run_45 : decode cX7_run 45 = .ok (.if_icmp .ge 47, 3) := by decide +kernel
theorem dX7_run_48 : decode cX7_run 48 = .ok (.aload_n 0, 1) := by decide +kernel
theorem dX7_run_49 : decode cX7_run 49 = .ok (.iload_n 1, 1) := by decide +kernel
theorem dX7_run_50 : decode cX7_run 50 = .ok (.iload_n 3, 1) := by decide +kernel
theorem dX7_run_51 : decode cX7_run 51 = .ok (.invokevirtual 244, 3) := by decide +kernel
set_option maxRecDepth 20000 in
theorem ggX7_run_X7_nextToChange : GoodIn wsX7_run wsX7_nextToChange := goodIn_ca (goodIn_ca (goodIn_r _ [13, 3, 4, 14, 15, 16, 17, 18, 19, 20, 21, 22, 23, 24, 25, 26, 27, 28, 29, 30, 31, 32, 33, 34, 35, 36, 37, 38, 39, 40, 41, 42, 43, 44, 45, 46, 47, 48, 49, 50, 51, 52, 8, 53, 54, 55, 56, 57, 58, 59, 60, 61, 62, 63, 64, 65, 66, 67, 68, 69, 70, 71, 72, 73, 74, 75, 76, 77, 78, 79, 80, 81, 82, 83, 84, 85, 86, 87, 88, 89, 90, 91, 92, 98, 99, 100, 101, 102, 103, 104, 105, 106, 107, 108, 109, 110, 111, 112, 113, 114, 115, 116, 117, 118, 119, 120, 121, 122, 123, 124] (by decide +kernel) (by decide +kernel)) (goodIn_sub (fun _ h => List.mem_cons_of_mem _ (List.mem_append_left _ (List.mem_append_right _ h))) (by decide +kernel))) (goodIn_sub (fun _ h => List.mem_cons_of_mem _ (List.mem_append_right _ h)) (by decide +kernel))
set_option maxRecDepth 20000 in
theorem gX7_run_X7_nextToChange : GoodIn wsX7_run (wsV RX7 244 RX7 yX7_nextToChange wsX7_nextToChange) := goodIn_app (goodIn_of _ (by decide +kernel)) ggX7_run_X7_nextToChange
theorem dX7_run_54 : decode cX7_run 54 = .ok (.istore_n 3, 1) := by decide +kernel
theorem dX7_run_55 : decode cX7_run 55 = .ok (.iload_n 3, 1) := by decide +kernel
theorem dX7_run_56 : decode cX7_run 56 = .ok (.ifCond .ge 6, 3) := by decide +kernel
theorem dX7_run_59 : decode cX7_run 59 = .ok (.iload 4, 2) := by decide +kernel
theorem dX7_run_61 : decode cX7_run 61 = .ok (.ireturn, 1) := by decide +kernel
theorem dX7_run_6 : decode cX7_run 6 = .ok (.iload_n 1, 1) := by decide +kernel
theorem dX7_run_7 : decode cX7_run 7 = .ok (.bipush 103, 2) := by decide +kernel
theorem dX7_run_9 : decode cX7_run 9 = .ok (.if_icmp .eq 19, 3) := by decide +kernel
theorem dX7_run_12 : decode cX7_run 12 = .ok (.iload_n 1, 1) := by decide +kernel
theorem dX7_run_13 : decode cX7_run 13 = .ok (.bipush 122, 2) := by decide +kernel
theorem dX7_run_15 : decode cX7_run 15 = .ok (.if_icmp .eq 13, 3) := by decide +kernel
theorem dX7_run_18 : decode cX7_run 18 = .ok (.new 95, 3) := by decide +kernel
theorem dX7_run_21 : decode cX7_run 21 = .ok (.dup, 1) := by decide +kernel
theorem dX7_run_22 : decode cX7_run 22 = .ok (.ldc 242, 2) := by decide +kernel
theorem dX7_run_24 : decode cX7_run 24 = .ok (.invokespecial 99, 3) := by decide +kernel
theorem dX7_run_27 : decode cX7_run 27 = .ok (.athrow, 1) := by decide +kernel
set_option maxHeartbeats 4000000 in
set_option maxRecDepth 100000 in
theorem k_X7_run (l : Launch) (hl9 : l.stackTraces = false) (D : va_G) (cy : Nat → ClassId) (h1 : Nat) (p0 : Int32) (p1 : Int32) (h2 : Nat) (h3 : Nat) (x4 : Value) (x5 : Value) (x6 : Value) (x7 : Value) (x8 : Value) (x9 : Value) (x10 : Value) (x11 : Value) : vx_Met l yX7_run wsX7_run ({ frames := 7, cells := 1, slots := 6, locals := 105 }) (kRX D cy [.ref h1, .int p0, .int p1] [(h1, .inr (9, [.ref h2, .ref h3, x4, x5, x6, x7, x8])), (h2, .inr (2, [x9, x10, x11, .int 0]))]) (va_Qi (fun (r : Int32) (_ : Unit) => r = 0 ∧ (((p0.toInt = (114 : Int) ∧ ((1 : Int) ≤ p1.toInt ∧ p1.toInt ≤ (200 : Int)) ∧ (0 : Int) < p1.toInt) ∨ (p0.toInt ≠ (114 : Int) ∧ p0.toInt = (103 : Int) ∧ ((1 : Int) ≤ p1.toInt ∧ p1.toInt ≤ (200 : Int)) ∧ (0 : Int) < p1.toInt)) ∨ (p0.toInt ≠ (114 : Int) ∧ p0.toInt ≠ (103 : Int) ∧ p0.toInt = (122 : Int) ∧ ((1 : Int) ≤ p1.toInt ∧ p1.toInt ≤ (200 : Int)) ∧ (0 : Int) < p1.toInt))) (fun (_ : Unit) (_ : State) => True) (fun _ : Nat => False)) (vx_X (fun _ : Unit => True) (fun (E : String) (_ : Unit) (_ : State) => (E = "java/lang/IllegalArgumentException" ∧ ((((p0.toInt = (114 : Int) ∧ ¬ (((1 : Int) ≤ p1.toInt ∧ p1.toInt ≤ (200 : Int)))) ∨ (p0.toInt ≠ (114 : Int) ∧ p0.toInt = (103 : Int) ∧ ¬ (((1 : Int) ≤ p1.toInt ∧ p1.toInt ≤ (200 : Int))))) ∨ (p0.toInt ≠ (114 : Int) ∧ p0.toInt ≠ (103 : Int) ∧ p0.toInt = (122 : Int) ∧ ¬ (((1 : Int) ≤ p1.toInt ∧ p1.toInt ≤ (200 : Int))))) ∨ (p0.toInt ≠ (114 : Int) ∧ p0.toInt ≠ (103 : Int) ∧ p0.toInt ≠ (122 : Int))))) (fun _ : Nat => False)) 1 6 (fun _ : Nat => False) := by
  refine vx_ofW (cc := cX7_run) (maxL := 5) (ret := (some .int)) (by decide) rfl ?_
  intro p e s m args below meth c s₁ B hml ht9 hv
  obtain ⟨rfl, hP, hK, hE⟩ := hv
  have hx := B.exec
  have hb := B.bytes
  have hr := B.returns
  have hts := atoms_spec (ws := wsX7_run) B.pre
  have hown : s.vm.findClass RX7 = some m.cls := findClass_of_methodNamed B.named
  have hlocks := B.notSynchronized
  have hS : va_S (fun _ : Nat => False) s.heap s.heap [] := va_S.rf
  have hP : va_P D vwCl [(h1, .inr (9, [.ref h2, .ref h3, x4, x5, x6, x7, x8])), (h2, .inr (2, [x9, x10, x11, .int 0]))] s.heap := hP
  have hl := lv_entry ([.ref h1, .int p0, .int p1]) (n := 5) (Nat.le_of_ble_eq_true rfl)
  rw [lg_entry_eq]
  generalize (lg_sl ([.ref h1, .int p0, .int p1]) ++ List.replicate (5 - (lg_sl ([.ref h1, .int p0, .int p1])).length) Slot.unset).toArray = ls at hl ⊢
  have hl : lv_has ls 5 [(0, .ref h1), (1, .int p0), (2, .int p1)] := hl
  refine lv_iload_n hx hb dX7_run_0 rfl (lv_at hl 1 rfl) ?_
  refine lv_bipush (v := 114) hx hb dX7_run_1 (by decide) ?_
  refine lv_icmp_eq (tgt := 28) hx hb dX7_run_3 (by decide) (fun c_1 => ?_) (fun c_1 => ?_)
  · have f_2 : p0.toInt = (114 : Int) := kx_eq c_1
    refine lv_aload_n hx hb dX7_run_28 rfl (lv_at hl 0 rfl) ?_
    refine lv_iload_n hx hb dX7_run_29 rfl (lv_at hl 2 rfl) ?_
    refine lv_iconst (v := 1) hx hb dX7_run_30 (by decide) ?_
    refine lv_sipush (v := 200) hx hb dX7_run_31 (by decide) ?_
    have hPc := hP.sub (ws' := []) [] rfl
    refine vx_callv (vx_runV (As := [.int p1, .int 1, .int 200]) (rest := []) ⟨hx, hb, hml, hown, hts⟩ (k_X7_checkRange l hl9 D cy h1 p1 1 200) (cwV 3 hts gX7_run_X7_checkRange rfl rfl rfl (by decide +kernel) ⟨(Nat.le_of_ble_eq_true rfl), (Nat.le_of_ble_eq_true rfl)⟩) ⟨kRX_fb, va_recv hK hP (ci := 9) (q0 := 0) rfl rfl, (kRX_go hPc hK hE hS)⟩ rfl rfl hl.1 rfl (lv_room (Nat.le_of_ble_eq_true rfl)) dX7_run_34 ⟨(Nat.le_of_ble_eq_true rfl), (Nat.le_of_ble_eq_true rfl)⟩) hS (fun _ _ h => h.elim) (fun _ h => h.elim) (fun _ _ h => h.elim) (fun E9 ce9 q9 u t H locs ht hvm hw hB hz1 hk1 hS hce hcv hcl => ?_) (fun u t H locs ht hvm hw hB hz1 hk1 hS => ?_)
    · obtain ⟨rfl, hB⟩ := hB
      have f_3 : ¬ (((1 : Int) ≤ p1.toInt ∧ p1.toInt ≤ (200 : Int))) := hB
      exact vx_out (fun x hx => (ht9 x hx).elim) hlocks hce hcv hcl (fun t ht _ => ⟨(), trivial, (⟨rfl, (by omega)⟩), hS.F ht⟩) hS.2.2 (Nat.le_of_ble_eq_true rfl) (Nat.le_of_ble_eq_true rfl)
    · have hP := kx_kept hP hk1
      have f_4 : ((1 : Int) ≤ p1.toInt ∧ p1.toInt ≤ (200 : Int)) := hw
      refine lv_iconst (v := (-1)) hx hb dX7_run_37 (by decide) ?_
      refine lv_istore_n (lv' := [(3, .int (-1)), (0, .ref h1), (1, .int p0), (2, .int p1)]) hx hb dX7_run_38 rfl hl (by decide) rfl (fun ls hl => ?_)
      refine lv_iconst (v := 0) hx hb dX7_run_39 (by decide) ?_
      refine lv_istore (lv' := [(4, .int 0), (3, .int (-1)), (0, .ref h1), (1, .int p0), (2, .int p1)]) hx hb dX7_run_40 hl (by decide) rfl (fun ls hl => ?_)
      refine lv_iload hx hb dX7_run_42 (lv_at hl 0 rfl) ?_
      refine lv_iload_n hx hb dX7_run_44 rfl (lv_at hl 4 rfl) ?_
      refine lv_icmp_ge (tgt := 92) hx hb dX7_run_45 (by decide) (fun c_5 => ?_) (fun c_5 => ?_)
      · have f_6 : p1.toInt ≤ (0 : Int) := kx_le c_5
        omega
      · have f_7 : (0 : Int) < p1.toInt := kx_nle c_5
        refine lv_aload_n hx hb dX7_run_48 rfl (lv_at hl 2 rfl) ?_
        refine lv_iload_n hx hb dX7_run_49 rfl (lv_at hl 3 rfl) ?_
        refine lv_iload_n hx hb dX7_run_50 rfl (lv_at hl 1 rfl) ?_
        have hPc := hP.sub (ws' := [(h1, .inr (9, [.ref h2, .ref h3, x4, x5, x6, x7, x8])), (h2, .inr (2, [x9, x10, x11, .int 0]))]) [0, 1] rfl
        refine va_calli (va_runV (As := [.int p0, .int (-1)]) (rest := []) ⟨hx, hb, hml, hown, hts⟩ (k_X7_nextToChange l D cy h1 p0 h2 h3 (x4) (x5) (x6) (x7) (x8) (x9) (x10) (x11)) (cwV 2 hts gX7_run_X7_nextToChange rfl rfl rfl (by decide +kernel) ⟨(Nat.le_of_ble_eq_true rfl), (Nat.le_of_ble_eq_true rfl)⟩) ⟨kR_fb, va_recv hK hP (ci := 9) (q0 := 0) rfl rfl, (kR_go hPc hK)⟩ rfl rfl hl.1 rfl (lv_room (Nat.le_of_ble_eq_true rfl)) dX7_run_51 ⟨(Nat.le_of_ble_eq_true rfl), (Nat.le_of_ble_eq_true rfl)⟩) hS (fun _ _ h => h.elim) (fun _ h => h.elim) (fun r9 u t H locs ht hvm hw hB hz1 hk1 hS => ?_)
        have hP := kx_kept hP hk1
        obtain ⟨rfl, hw⟩ := hw
        refine lv_istore_n (lv' := [(3, .int (-1)), (4, .int 0), (0, .ref h1), (1, .int p0), (2, .int p1)]) hx hb dX7_run_54 rfl hl (by decide) rfl (fun ls hl => ?_)
        refine lv_iload_n hx hb dX7_run_55 rfl (lv_at hl 0 rfl) ?_
        refine lv_if_ge (tgt := 62) hx hb dX7_run_56 (by decide) (fun h => absurd h (by decide)) (fun _ => ?_)
        refine lv_iload hx hb dX7_run_59 (lv_at hl 1 rfl) ?_
        refine vx_ret ?_
        refine W.widen (k := 1) (n := 6) (Nat.le_of_ble_eq_true rfl) (Nat.le_of_ble_eq_true rfl) ?_
        exact W.iret (v := 0) hx hb hr (fun t ht hW => ⟨⟨0, (), rfl, ⟨rfl, (by omega)⟩, trivial⟩, hS.F ht⟩) hS.2.2 dX7_run_61
  · have f_9 : p0.toInt ≠ (114 : Int) := kx_ne c_1
    refine lv_iload_n hx hb dX7_run_6 rfl (lv_at hl 1 rfl) ?_
    refine lv_bipush (v := 103) hx hb dX7_run_7 (by decide) ?_
    refine lv_icmp_eq (tgt := 28) hx hb dX7_run_9 (by decide) (fun c_10 => ?_) (fun c_10 => ?_)
    · have f_11 : p0.toInt = (103 : Int) := kx_eq c_10
      refine lv_aload_n hx hb dX7_run_28 rfl (lv_at hl 0 rfl) ?_
      refine lv_iload_n hx hb dX7_run_29 rfl (lv_at hl 2 rfl) ?_
      refine lv_iconst (v := 1) hx hb dX7_run_30 (by decide) ?_
      refine lv_sipush (v := 200) hx hb dX7_run_31 (by decide) ?_
      have hPc := hP.sub (ws' := []) [] rfl
      refine vx_callv (vx_runV (As := [.int p1, .int 1, .int 200]) (rest := []) ⟨hx, hb, hml, hown, hts⟩ (k_X7_checkRange l hl9 D cy h1 p1 1 200) (cwV 3 hts gX7_run_X7_checkRange rfl rfl rfl (by decide +kernel) ⟨(Nat.le_of_ble_eq_true rfl), (Nat.le_of_ble_eq_true rfl)⟩) ⟨kRX_fb, va_recv hK hP (ci := 9) (q0 := 0) rfl rfl, (kRX_go hPc hK hE hS)⟩ rfl rfl hl.1 rfl (lv_room (Nat.le_of_ble_eq_true rfl)) dX7_run_34 ⟨(Nat.le_of_ble_eq_true rfl), (Nat.le_of_ble_eq_true rfl)⟩) hS (fun _ _ h => h.elim) (fun _ h => h.elim) (fun _ _ h => h.elim) (fun E9 ce9 q9 u t H locs ht hvm hw hB hz1 hk1 hS hce hcv hcl => ?_) (fun u t H locs ht hvm hw hB hz1 hk1 hS => ?_)
      · obtain ⟨rfl, hB⟩ := hB
        have f_12 : ¬ (((1 : Int) ≤ p1.toInt ∧ p1.toInt ≤ (200 : Int))) := hB
        exact vx_out (fun x hx => (ht9 x hx).elim) hlocks hce hcv hcl (fun t ht _ => ⟨(), trivial, (⟨rfl, (by omega)⟩), hS.F ht⟩) hS.2.2 (Nat.le_of_ble_eq_true rfl) (Nat.le_of_ble_eq_true rfl)
      · have hP := kx_kept hP hk1
        have f_13 : ((1 : Int) ≤ p1.toInt ∧ p1.toInt ≤ (200 : Int)) := hw
        refine lv_iconst (v := (-1)) hx hb dX7_run_37 (by decide) ?_
        refine lv_istore_n (lv' := [(3, .int (-1)), (0, .ref h1), (1, .int p0), (2, .int p1)]) hx hb dX7_run_38 rfl hl (by decide) rfl (fun ls hl => ?_)
        refine lv_iconst (v := 0) hx hb dX7_run_39 (by decide) ?_
        refine lv_istore (lv' := [(4, .int 0), (3, .int (-1)), (0, .ref h1), (1, .int p0), (2, .int p1)]) hx hb dX7_run_40 hl (by decide) rfl (fun ls hl => ?_)
        refine lv_iload hx hb dX7_run_42 (lv_at hl 0 rfl) ?_
        refine lv_iload_n hx hb dX7_run_44 rfl (lv_at hl 4 rfl) ?_
        refine lv_icmp_ge (tgt := 92) hx hb dX7_run_45 (by decide) (fun c_14 => ?_) (fun c_14 => ?_)
        · have f_15 : p1.toInt ≤ (0 : Int) := kx_le c_14
          omega
        · have f_16 : (0 : Int) < p1.toInt := kx_nle c_14
          refine lv_aload_n hx hb dX7_run_48 rfl (lv_at hl 2 rfl) ?_
          refine lv_iload_n hx hb dX7_run_49 rfl (lv_at hl 3 rfl) ?_
          refine lv_iload_n hx hb dX7_run_50 rfl (lv_at hl 1 rfl) ?_
          have hPc := hP.sub (ws' := [(h1, .inr (9, [.ref h2, .ref h3, x4, x5, x6, x7, x8])), (h2, .inr (2, [x9, x10, x11, .int 0]))]) [0, 1] rfl
          refine va_calli (va_runV (As := [.int p0, .int (-1)]) (rest := []) ⟨hx, hb, hml, hown, hts⟩ (k_X7_nextToChange l D cy h1 p0 h2 h3 (x4) (x5) (x6) (x7) (x8) (x9) (x10) (x11)) (cwV 2 hts gX7_run_X7_nextToChange rfl rfl rfl (by decide +kernel) ⟨(Nat.le_of_ble_eq_true rfl), (Nat.le_of_ble_eq_true rfl)⟩) ⟨kR_fb, va_recv hK hP (ci := 9) (q0 := 0) rfl rfl, (kR_go hPc hK)⟩ rfl rfl hl.1 rfl (lv_room (Nat.le_of_ble_eq_true rfl)) dX7_run_51 ⟨(Nat.le_of_ble_eq_true rfl), (Nat.le_of_ble_eq_true rfl)⟩) hS (fun _ _ h => h.elim) (fun _ h => h.elim) (fun r9 u t H locs ht hvm hw hB hz1 hk1 hS => ?_)
          have hP := kx_kept hP hk1
          obtain ⟨rfl, hw⟩ := hw
          refine lv_istore_n (lv' := [(3, .int (-1)), (4, .int 0), (0, .ref h1), (1, .int p0), (2, .int p1)]) hx hb dX7_run_54 rfl hl (by decide) rfl (fun ls hl => ?_)
          refine lv_iload_n hx hb dX7_run_55 rfl (lv_at hl 0 rfl) ?_
          refine lv_if_ge (tgt := 62) hx hb dX7_run_56 (by decide) (fun h => absurd h (by decide)) (fun _ => ?_)
          refine lv_iload hx hb dX7_run_59 (lv_at hl 1 rfl) ?_
          refine vx_ret ?_
          refine W.widen (k := 1) (n := 6) (Nat.le_of_ble_eq_true rfl) (Nat.le_of_ble_eq_true rfl) ?_
          exact W.iret (v := 0) hx hb hr (fun t ht hW => ⟨⟨0, (), rfl, ⟨rfl, (by omega)⟩, trivial⟩, hS.F ht⟩) hS.2.2 dX7_run_61
    · have f_18 : p0.toInt ≠ (103 : Int) := kx_ne c_10
      refine lv_iload_n hx hb dX7_run_12 rfl (lv_at hl 1 rfl) ?_
      refine lv_bipush (v := 122) hx hb dX7_run_13 (by decide) ?_
      refine lv_icmp_eq (tgt := 28) hx hb dX7_run_15 (by decide) (fun c_19 => ?_) (fun c_19 => ?_)
      · have f_20 : p0.toInt = (122 : Int) := kx_eq c_19
        refine lv_aload_n hx hb dX7_run_28 rfl (lv_at hl 0 rfl) ?_
        refine lv_iload_n hx hb dX7_run_29 rfl (lv_at hl 2 rfl) ?_
        refine lv_iconst (v := 1) hx hb dX7_run_30 (by decide) ?_
        refine lv_sipush (v := 200) hx hb dX7_run_31 (by decide) ?_
        have hPc := hP.sub (ws' := []) [] rfl
        refine vx_callv (vx_runV (As := [.int p1, .int 1, .int 200]) (rest := []) ⟨hx, hb, hml, hown, hts⟩ (k_X7_checkRange l hl9 D cy h1 p1 1 200) (cwV 3 hts gX7_run_X7_checkRange rfl rfl rfl (by decide +kernel) ⟨(Nat.le_of_ble_eq_true rfl), (Nat.le_of_ble_eq_true rfl)⟩) ⟨kRX_fb, va_recv hK hP (ci := 9) (q0 := 0) rfl rfl, (kRX_go hPc hK hE hS)⟩ rfl rfl hl.1 rfl (lv_room (Nat.le_of_ble_eq_true rfl)) dX7_run_34 ⟨(Nat.le_of_ble_eq_true rfl), (Nat.le_of_ble_eq_true rfl)⟩) hS (fun _ _ h => h.elim) (fun _ h => h.elim) (fun _ _ h => h.elim) (fun E9 ce9 q9 u t H locs ht hvm hw hB hz1 hk1 hS hce hcv hcl => ?_) (fun u t H locs ht hvm hw hB hz1 hk1 hS => ?_)
        · obtain ⟨rfl, hB⟩ := hB
          have f_21 : ¬ (((1 : Int) ≤ p1.toInt ∧ p1.toInt ≤ (200 : Int))) := hB
          exact vx_out (fun x hx => (ht9 x hx).elim) hlocks hce hcv hcl (fun t ht _ => ⟨(), trivial, (⟨rfl, (by omega)⟩), hS.F ht⟩) hS.2.2 (Nat.le_of_ble_eq_true rfl) (Nat.le_of_ble_eq_true rfl)
        · have hP := kx_kept hP hk1
          have f_22 : ((1 : Int) ≤ p1.toInt ∧ p1.toInt ≤ (200 : Int)) := hw
          refine lv_iconst (v := (-1)) hx hb dX7_run_37 (by decide) ?_
          refine lv_istore_n (lv' := [(3, .int (-1)), (0, .ref h1), (1, .int p0), (2, .int p1)]) hx hb dX7_run_38 rfl hl (by decide) rfl (fun ls hl => ?_)
          refine lv_iconst (v := 0) hx hb dX7_run_39 (by decide) ?_
          refine lv_istore (lv' := [(4, .int 0), (3, .int (-1)), (0, .ref h1), (1, .int p0), (2, .int p1)]) hx hb dX7_run_40 hl (by decide) rfl (fun ls hl => ?_)
          refine lv_iload hx hb dX7_run_42 (lv_at hl 0 rfl) ?_
          refine lv_iload_n hx hb dX7_run_44 rfl (lv_at hl 4 rfl) ?_
          refine lv_icmp_ge (tgt := 92) hx hb dX7_run_45 (by decide) (fun c_23 => ?_) (fun c_23 => ?_)
          · have f_24 : p1.toInt ≤ (0 : Int) := kx_le c_23
            omega
          · have f_25 : (0 : Int) < p1.toInt := kx_nle c_23
            refine lv_aload_n hx hb dX7_run_48 rfl (lv_at hl 2 rfl) ?_
            refine lv_iload_n hx hb dX7_run_49 rfl (lv_at hl 3 rfl) ?_
            refine lv_iload_n hx hb dX7_run_50 rfl (lv_at hl 1 rfl) ?_
            have hPc := hP.sub (ws' := [(h1, .inr (9, [.ref h2, .ref h3, x4, x5, x6, x7, x8])), (h2, .inr (2, [x9, x10, x11, .int 0]))]) [0, 1] rfl
            refine va_calli (va_runV (As := [.int p0, .int (-1)]) (rest := []) ⟨hx, hb, hml, hown, hts⟩ (k_X7_nextToChange l D cy h1 p0 h2 h3 (x4) (x5) (x6) (x7) (x8) (x9) (x10) (x11)) (cwV 2 hts gX7_run_X7_nextToChange rfl rfl rfl (by decide +kernel) ⟨(Nat.le_of_ble_eq_true rfl), (Nat.le_of_ble_eq_true rfl)⟩) ⟨kR_fb, va_recv hK hP (ci := 9) (q0 := 0) rfl rfl, (kR_go hPc hK)⟩ rfl rfl hl.1 rfl (lv_room (Nat.le_of_ble_eq_true rfl)) dX7_run_51 ⟨(Nat.le_of_ble_eq_true rfl), (Nat.le_of_ble_eq_true rfl)⟩) hS (fun _ _ h => h.elim) (fun _ h => h.elim) (fun r9 u t H locs ht hvm hw hB hz1 hk1 hS => ?_)
            have hP := kx_kept hP hk1
            obtain ⟨rfl, hw⟩ := hw
            refine lv_istore_n (lv' := [(3, .int (-1)), (4, .int 0), (0, .ref h1), (1, .int p0), (2, .int p1)]) hx hb dX7_run_54 rfl hl (by decide) rfl (fun ls hl => ?_)
            refine lv_iload_n hx hb dX7_run_55 rfl (lv_at hl 0 rfl) ?_
            refine lv_if_ge (tgt := 62) hx hb dX7_run_56 (by decide) (fun h => absurd h (by decide)) (fun _ => ?_)
            refine lv_iload hx hb dX7_run_59 (lv_at hl 1 rfl) ?_
            refine vx_ret ?_
            refine W.widen (k := 1) (n := 6) (Nat.le_of_ble_eq_true rfl) (Nat.le_of_ble_eq_true rfl) ?_
            exact W.iret (v := 0) hx hb hr (fun t ht hW => ⟨⟨0, (), rfl, ⟨rfl, (by omega)⟩, trivial⟩, hS.F ht⟩) hS.2.2 dX7_run_61
      · have f_27 : p0.toInt ≠ (122 : Int) := kx_ne c_19
        obtain ⟨sa9, hsa9⟩ := hE.2.1 (242, "no such rule") (by decide +kernel)
        exact vx_throwS (own := RX7) (cls := "java/lang/IllegalArgumentException") (text := "no such rule") (names := ["java/lang/RuntimeException", "java/lang/Exception"]) (A := (fun _ : Nat => False)) hx hb hl9 hown (by decide +kernel) (by decide +kernel) (hts (.classLink RX7 95 "java/lang/IllegalArgumentException") (List.mem_cons_of_mem _ (List.mem_append_left _ (List.mem_append_left _ (List.mem_append_left _ (List.mem_append_left _ (List.mem_append_left _ (List.mem_append_left _ (List.mem_append_left _ (List.mem_append_left _ (List.mem_append_left _ (List.mem_of_getElem? (i := 0) rfl)))))))))))) (hts (.initialized "java/lang/IllegalArgumentException") (List.mem_cons_of_mem _ (List.mem_append_left _ (List.mem_append_left _ (List.mem_append_left _ (List.mem_append_left _ (List.mem_append_left _ (List.mem_append_left _ (List.mem_append_left _ (List.mem_append_left _ (List.mem_append_left _ (List.mem_of_getElem? (i := 1) rfl)))))))))))) hsa9 (ex_hat hE (fun w h => hts w (List.mem_cons_of_mem _ (List.mem_append_left _ (List.mem_append_left _ (List.mem_append_right _ h))))) (by decide +kernel) (by decide +kernel)) (by decide +kernel) hE.1.1 hE.1.2 hS (by rw [hml]; exact hl.1) dX7_run_18 dX7_run_21 dX7_run_22 dX7_run_24 dX7_run_27 (fun x hx => (ht9 x hx).elim) (Nat.le_of_ble_eq_true rfl) (Nat.le_of_ble_eq_true rfl) (Nat.le_of_ble_eq_true rfl) (Nat.le_of_ble_eq_true rfl) hlocks (fun t hal hz hk => ⟨(), trivial, (⟨rfl, (by omega)⟩), kx_thr hS hz hk⟩) hS.2.2 (Nat.le_of_ble_eq_true rfl) (Nat.le_of_ble_eq_true rfl)
theorem dL_run_0 : decode cL_run 0 = .ok (.aload_n 3, 1) := by decide +kernel
theorem dL_run_1 : decode cL_run 1 = .ok (.iconst 0, 1) := by decide +kernel
theorem dL_run_2 : decode cL_run 2 = .ok (.aload_n 0, 1) := by decide +kernel
theorem dL_run_3 : decode cL_run 3 = .ok (.iload_n 1, 1) := by decide +kernel
theorem dL_run_4 : decode cL_run 4 = .ok (.iload_n 2, 1) := by decide +kernel
theorem dL_run_5 : decode cL_run 5 = .ok (.invokevirtual 85, 3) := by decide +kernel
set_option maxRecDepth 20000 in
theorem ggL_run_X7_run : GoodIn wsL_run wsX7_run := goodIn_ca (goodIn_ca (goodIn_ca (goodIn_r _ [6, 7, 8, 9, 10, 11, 12, 13, 5, 14, 15, 16, 17, 18, 19, 20, 21, 22, 23, 24, 25, 26, 27, 28, 29, 30, 31, 32, 33, 34, 35, 36, 37, 38, 39, 40, 41, 42, 43, 44, 45, 46, 47, 48, 49, 50, 51, 52, 53, 54, 55, 56, 57, 58, 59, 60, 61, 62, 63, 64, 65, 66, 67, 68, 69, 70, 71, 72, 73, 74, 75, 76, 77, 78, 79, 80, 81, 82, 83, 84, 85, 86, 87, 88, 89, 90, 91, 92, 93, 94, 95, 96, 97, 98, 99, 100, 101, 102, 103, 104, 105, 106, 107, 108, 109, 110, 111, 112, 113, 114, 115, 116, 117, 118, 119, 120, 121, 122, 123, 124, 125, 126, 127, 128, 129] (by decide +kernel) (by decide +kernel)) (goodIn_sub (fun _ h => List.mem_cons_of_mem _ (List.mem_append_left _ (List.mem_append_right _ h))) (by decide +kernel))) (goodIn_sub (fun _ h => List.mem_cons_of_mem _ (List.mem_append_right _ h)) (by decide +kernel))) (goodIn_sub (fun _ h => List.mem_cons_of_mem _ (List.mem_append_left _ (List.mem_append_left _ (List.mem_append_right _ h)))) (by decide +kernel))
set_option maxRecDepth 20000 in
theorem gL_run_X7_run : GoodIn wsL_run (wsV RL 85 RX7 yX7_run wsX7_run) := goodIn_app (goodIn_of _ (by decide +kernel)) ggL_run_X7_run
theorem dL_run_13 : decode cL_run 13 = .ok (.astore 4, 2) := by decide +kernel
theorem dL_run_15 : decode cL_run 15 = .ok (.iconst 1, 1) := by decide +kernel
theorem dL_run_16 : decode cL_run 16 = .ok (.ireturn, 1) := by decide +kernel
theorem dL_run_8 : decode cL_run 8 = .ok (.i2l, 1) := by decide +kernel
theorem dL_run_9 : decode cL_run 9 = .ok (.lastore, 1) := by decide +kernel
theorem dL_run_10 : decode cL_run 10 = .ok (.goto 7, 3) := by decide +kernel
theorem dL_run_17 : decode cL_run 17 = .ok (.iconst 0, 1) := by decide +kernel
theorem dL_run_18 : decode cL_run 18 = .ok (.ireturn, 1) := by decide +kernel
set_option maxHeartbeats 4000000 in
set_option maxRecDepth 100000 in
theorem k_L_run (l : Launch) (hl9 : l.stackTraces = false) (D : va_G) (cy : Nat → ClassId) (h1 : Nat) (p1 : Int32) (p2 : Int32) (h2 : Nat) (h3 : Nat) (h4 : Nat) (x5 : Value) (x6 : Value) (x7 : Value) (x8 : Value) (x9 : Value) (g10 : Nat → Int64) (x11 : Value) (x12 : Value) (x13 : Value) (sz : Nat) : Met l yL_run wsL_run ({ frames := 8, cells := 1, slots := 6, locals := 129 }) (kWX D cy [.ref h1, .int p1, .int p2, .ref h2] [(h1, .inr (9, [.ref h3, .ref h4, x5, x6, x7, x8, x9])), (h2, .inl (cy 2, 1, .inr (.inl g10))), (h3, .inr (2, [x11, x12, x13, .int 0]))] sz) (va_Qi (fun (r : Int32) (u : (Nat → Int64)) => match u with | u1 => ((r = 1 ∧ ((((p1.toInt = (114 : Int) ∧ ¬ (((1 : Int) ≤ p2.toInt ∧ p2.toInt ≤ (200 : Int)))) ∨ (p1.toInt ≠ (114 : Int) ∧ p1.toInt = (103 : Int) ∧ ¬ (((1 : Int) ≤ p2.toInt ∧ p2.toInt ≤ (200 : Int))))) ∨ (p1.toInt ≠ (114 : Int) ∧ p1.toInt ≠ (103 : Int) ∧ p1.toInt = (122 : Int) ∧ ¬ (((1 : Int) ≤ p2.toInt ∧ p2.toInt ≤ (200 : Int))))) ∨ (p1.toInt ≠ (114 : Int) ∧ p1.toInt ≠ (103 : Int) ∧ p1.toInt ≠ (122 : Int)))) ∨ (r = 0 ∧ (u1 0 = 0) ∧ (((p1.toInt = (114 : Int) ∧ ((1 : Int) ≤ p2.toInt ∧ p2.toInt ≤ (200 : Int)) ∧ (0 : Int) < p2.toInt) ∨ (p1.toInt ≠ (114 : Int) ∧ p1.toInt = (103 : Int) ∧ ((1 : Int) ≤ p2.toInt ∧ p2.toInt ≤ (200 : Int)) ∧ (0 : Int) < p2.toInt)) ∨ (p1.toInt ≠ (114 : Int) ∧ p1.toInt ≠ (103 : Int) ∧ p1.toInt = (122 : Int) ∧ ((1 : Int) ≤ p2.toInt ∧ p2.toInt ≤ (200 : Int)) ∧ (0 : Int) < p2.toInt))))) (fun (u : (Nat → Int64)) (t : State) => match u with | u1 => va_P D vwCl [(h2, .inl (cy 2, 1, .inr (.inl u1)))] t.heap ∧ va_D (va_A [(h1, .inr (9, [.ref h3, .ref h4, x5, x6, x7, x8, x9])), (h2, .inl (cy 2, 1, .inr (.inl g10))), (h3, .inr (2, [x11, x12, x13, .int 0]))] sz) [(h2, .inl (cy 2, 1, .inr (.inl u1)))]) (va_A [(h1, .inr (9, [.ref h3, .ref h4, x5, x6, x7, x8, x9])), (h2, .inl (cy 2, 1, .inr (.inl g10))), (h3, .inr (2, [x11, x12, x13, .int 0]))] sz)) 1 6 (va_A [(h1, .inr (9, [.ref h3, .ref h4, x5, x6, x7, x8, x9])), (h2, .inl (cy 2, 1, .inr (.inl g10))), (h3, .inr (2, [x11, x12, x13, .int 0]))] sz) := by
  refine va_MetW (cc := cL_run) (maxL := 5) (ret := (some .int)) (by decide) rfl ?_
  intro p e s m args below meth c s₁ B hml hv
  obtain ⟨rfl, hsz, hP, hK, hD0, hE⟩ := hv
  have hx := B.exec
  have hb := B.bytes
  have hr := B.returns
  have hts := atoms_spec (ws := wsL_run) B.pre
  have hown : s.vm.findClass RL = some m.cls := findClass_of_methodNamed B.named
  have hlocks := B.notSynchronized
  have htb := vx_table (x := yL_run) B (hts _ (List.mem_cons_self))
  subst hsz
  have hD := hD0.self (sz := s.heap.size)
  generalize hAe : va_A [(h1, .inr (9, [.ref h3, .ref h4, x5, x6, x7, x8, x9])), (h2, .inl (cy 2, 1, .inr (.inl g10))), (h3, .inr (2, [x11, x12, x13, .int 0]))] s.heap.size = A at hD hE ⊢
  have hA : ∀ q : Nat, s.heap.size ≤ q → A q := fun q h => by rw [← hAe]; exact Or.inr h
  have hS : va_S A s.heap s.heap [] := va_S.rf
  have hP : va_P D vwCl [(h1, .inr (9, [.ref h3, .ref h4, x5, x6, x7, x8, x9])), (h2, .inl (cy 2, 1, .inr (.inl g10))), (h3, .inr (2, [x11, x12, x13, .int 0]))] s.heap := hP
  have hl := lv_entry ([.ref h1, .int p1, .int p2, .ref h2]) (n := 5) (Nat.le_of_ble_eq_true rfl)
  rw [lg_entry_eq]
  generalize (lg_sl ([.ref h1, .int p1, .int p2, .ref h2]) ++ List.replicate (5 - (lg_sl ([.ref h1, .int p1, .int p2, .ref h2])).length) Slot.unset).toArray = ls at hl ⊢
  have hl : lv_has ls 5 [(0, .ref h1), (1, .int p1), (2, .int p2), (3, .ref h2)] := hl
  refine lv_aload_n hx hb dL_run_0 rfl (lv_at hl 3 rfl) ?_
  refine lv_iconst (v := 0) hx hb dL_run_1 (by decide) ?_
  refine lv_aload_n hx hb dL_run_2 rfl (lv_at hl 0 rfl) ?_
  refine lv_iload_n hx hb dL_run_3 rfl (lv_at hl 1 rfl) ?_
  refine lv_iload_n hx hb dL_run_4 rfl (lv_at hl 2 rfl) ?_
  have hPc := hP.sub (ws' := [(h1, .inr (9, [.ref h3, .ref h4, x5, x6, x7, x8, x9])), (h3, .inr (2, [x11, x12, x13, .int 0]))]) [0, 2] rfl
  refine vx_calli (vx_runV (As := [.int p1, .int p2]) (rest := [.int 0, .ref h2]) ⟨hx, hb, hml, hown, hts⟩ (k_X7_run l hl9 D cy h1 p1 p2 h3 h4 (x5) (x6) (x7) (x8) (x9) (x11) (x12) (x13)) (cwV 2 hts gL_run_X7_run rfl rfl rfl (by decide +kernel) ⟨(Nat.le_of_ble_eq_true rfl), (Nat.le_of_ble_eq_true rfl)⟩) ⟨kRX_fb, va_recv hK hP (ci := 9) (q0 := 0) rfl rfl, (kRX_go hPc hK hE hS)⟩ rfl rfl hl.1 rfl (lv_room (Nat.le_of_ble_eq_true rfl)) dL_run_5 ⟨(Nat.le_of_ble_eq_true rfl), (Nat.le_of_ble_eq_true rfl)⟩) hS (fun _ _ h => h.elim) (fun _ h => h.elim) (fun _ _ h => h.elim) (fun E9 ce9 q9 u t H locs ht hvm hw hB hz1 hk1 hS hce hcv hcl => ?_) (fun r9 u t H locs ht hvm hw hB hz1 hk1 hS => ?_)
  · obtain ⟨rfl, hB⟩ := hB
    have f_1 : ((((p1.toInt = (114 : Int) ∧ ¬ (((1 : Int) ≤ p2.toInt ∧ p2.toInt ≤ (200 : Int)))) ∨ (p1.toInt ≠ (114 : Int) ∧ p1.toInt = (103 : Int) ∧ ¬ (((1 : Int) ≤ p2.toInt ∧ p2.toInt ≤ (200 : Int))))) ∨ (p1.toInt ≠ (114 : Int) ∧ p1.toInt ≠ (103 : Int) ∧ p1.toInt = (122 : Int) ∧ ¬ (((1 : Int) ≤ p2.toInt ∧ p2.toInt ≤ (200 : Int))))) ∨ (p1.toInt ≠ (114 : Int) ∧ p1.toInt ≠ (103 : Int) ∧ p1.toInt ≠ (122 : Int))) := hB
    have hP := kx_kept hP hk1
    refine vx_catch (E := "java/lang/IllegalArgumentException") (name := "java/lang/IllegalArgumentException") hown [] (⟨0, 10, 13, 13⟩ : ExceptionTableEntry) [] htb (fun _ h => absurd h List.not_mem_nil) rfl (by decide) (hts (.classLink RL 13 "java/lang/IllegalArgumentException") (List.mem_cons_of_mem _ (List.mem_append_left _ (List.mem_append_left _ (List.mem_append_left _ (List.mem_append_left _ (List.mem_append_left _ (List.mem_append_left _ (List.mem_append_left _ (List.mem_append_left _ (List.mem_append_left _ (List.mem_of_getElem? (i := 0) rfl)))))))))))) (exP.cast hE "java/lang/IllegalArgumentException" (by decide +kernel)) hce hcv hcl ?_
    refine lv_astore (lv' := [(4, .ref q9), (0, .ref h1), (1, .int p1), (2, .int p2), (3, .ref h2)]) hx hb dL_run_13 hl (by decide) rfl (fun ls hl => ?_)
    refine lv_iconst (v := 1) hx hb dL_run_15 (by decide) ?_
    refine W.widen (k := 1) (n := 6) (Nat.le_of_ble_eq_true rfl) (Nat.le_of_ble_eq_true rfl) ?_
    have hP9 := hP.sub (ws' := [(h2, .inl (cy 2, 1, .inr (.inl g10)))]) [1] rfl
    have hD9 := hD.sub (ws' := [(h2, .inl (cy 2, 1, .inr (.inl g10)))]) [1] (by decide) rfl
    exact W.iret (v := 1) hx hb hr (fun t ht hW => ⟨⟨1, (g10), rfl, Or.inl (⟨rfl, (by omega)⟩), ⟨by rw [ht]; exact hP9, hD9⟩⟩, hS.F ht⟩) hS.2.2 dL_run_16
  · have hP := kx_kept hP hk1
    obtain ⟨rfl, hw⟩ := hw
    have f_2 : (((p1.toInt = (114 : Int) ∧ ((1 : Int) ≤ p2.toInt ∧ p2.toInt ≤ (200 : Int)) ∧ (0 : Int) < p2.toInt) ∨ (p1.toInt ≠ (114 : Int) ∧ p1.toInt = (103 : Int) ∧ ((1 : Int) ≤ p2.toInt ∧ p2.toInt ≤ (200 : Int)) ∧ (0 : Int) < p2.toInt)) ∨ (p1.toInt ≠ (114 : Int) ∧ p1.toInt ≠ (103 : Int) ∧ p1.toInt = (122 : Int) ∧ ((1 : Int) ≤ p2.toInt ∧ p2.toInt ≤ (200 : Int)) ∧ (0 : Int) < p2.toInt)) := hw
    refine lv_i2l (v := 0) hx hb dL_run_8 (by decide) ?_
    refine va_last hx hb hK hP hD hS 1 2 rfl rfl (kx_in 0 1 rfl ⟨(Nat.le_of_ble_eq_true rfl), (Nat.le_of_ble_eq_true rfl)⟩ (Nat.le_of_ble_eq_true rfl)) dL_run_9 (fun H locs hP hD hS => ?_)
    have hP : va_P D vwCl [(h1, .inr (9, [.ref h3, .ref h4, x5, x6, x7, x8, x9])), (h2, .inl (cy 2, 1, .inr (.inl (vp_updL g10 0 0)))), (h3, .inr (2, [x11, x12, x13, .int 0]))] H := hP
    have hD : va_D A [(h1, .inr (9, [.ref h3, .ref h4, x5, x6, x7, x8, x9])), (h2, .inl (cy 2, 1, .inr (.inl (vp_updL g10 0 0)))), (h3, .inr (2, [x11, x12, x13, .int 0]))] := hD
    refine lv_goto (tgt := 17) hx hb dL_run_10 (by decide) ?_
    refine lv_iconst (v := 0) hx hb dL_run_17 (by decide) ?_
    refine W.widen (k := 1) (n := 6) (Nat.le_of_ble_eq_true rfl) (Nat.le_of_ble_eq_true rfl) ?_
    have hP9 := hP.sub (ws' := [(h2, .inl (cy 2, 1, .inr (.inl (vp_updL g10 0 0))))]) [1] rfl
    have hD9 := hD.sub (ws' := [(h2, .inl (cy 2, 1, .inr (.inl (vp_updL g10 0 0))))]) [1] (by decide) rfl
    exact W.iret (v := 0) hx hb hr (fun t ht hW => ⟨⟨0, ((vp_updL g10 0 0)), rfl, Or.inr (⟨rfl, (rfl), (by omega)⟩), ⟨by rw [ht]; exact hP9, hD9⟩⟩, hS.F ht⟩) hS.2.2 dL_run_18
theorem dX8_next_0 : decode cX8_next 0 = .ok (.new 117, 3) := by decide +kernel
theorem dX8_next_3 : decode cX8_next 3 = .ok (.dup, 1) := by decide +kernel
theorem dX8_next_4 : decode cX8_next 4 = .ok (.invokespecial 126, 3) := by decide +kernel
set_option maxRecDepth 20000 in
theorem ggX8_next_Jx4a65c_init_da8c8 : GoodIn wsX8_next wsJx4a65c_init_da8c8 := goodIn_r _ [10, 11, 12, 13, 14, 15, 16, 17, 18, 19, 20, 21, 22, 23, 24, 208, 209, 210] (by decide +kernel) (by decide +kernel)
set_option maxRecDepth 20000 in
theorem gX8_next_Jx4a65c_init_da8c8 : GoodIn wsX8_next (wsJx4a65c_init_da8c8) := ggX8_next_Jx4a65c_init_da8c8
theorem dX8_next_7 : decode cX8_next 7 = .ok (.astore_n 3, 1) := by decide +kernel
theorem dX8_next_8 : decode cX8_next 8 = .ok (.iconst 0, 1) := by decide +kernel
theorem dX8_next_9 : decode cX8_next 9 = .ok (.istore 4, 2) := by decide +kernel
theorem dX8_next_11 : decode cX8_next 11 = .ok (.iload 4, 2) := by decide +kernel
theorem dX8_next_13 : decode cX8_next 13 = .ok (.aload_n 0, 1) := by decide +kernel
theorem dX8_next_14 : decode cX8_next 14 = .ok (.getfield 85, 3) := by decide +kernel
theorem dX8_next_17 : decode cX8_next 17 = .ok (.if_icmp .ge 54, 3) := by decide +kernel
theorem dX8_next_71 : decode cX8_next 71 = .ok (.aload_n 3, 1) := by decide +kernel
theorem dX8_next_72 : decode cX8_next 72 = .ok (.invokevirtual 127, 3) := by decide +kernel
set_option maxRecDepth 20000 in
theorem ggX8_next_Jx4a65c_isEmpty_aae02 : GoodIn wsX8_next wsJx4a65c_isEmpty_aae02 := goodIn_r _ [148, 101, 208, 209, 210] (by decide +kernel) (by decide +kernel)
set_option maxRecDepth 20000 in
theorem gX8_next_Jx4a65c_isEmpty_aae02 : GoodIn wsX8_next (wsV RX8 127 RJx4a65c yJx4a65c_isEmpty_aae02 wsJx4a65c_isEmpty_aae02) := goodIn_app (goodIn_of _ (by decide +kernel)) ggX8_next_Jx4a65c_isEmpty_aae02
theorem dX8_next_75 : decode cX8_next 75 = .ok (.ifCond .eq 5, 3) := by decide +kernel
theorem dX8_next_78 : decode cX8_next 78 = .ok (.iconst (-1), 1) := by decide +kernel
theorem dX8_next_79 : decode cX8_next 79 = .ok (.ireturn, 1) := by decide +kernel
set_option maxHeartbeats 4000000 in
set_option maxRecDepth 100000 in
theorem k_X8_next (l : Launch) (hl9 : l.stackTraces = false) (D : va_G) (cy : Nat → ClassId) (de : Nat) (h1 : Nat) (p0 : Int32) (x2 : Value) (x3 : Value) (x4 : Value) (x5 : Value) (x6 : Value) (x7 : Value) (x8 : Value) (x9 : Value) (x10 : Value) (x11 : Value) (x12 : Value) (x13 : Value) (x14 : Value) (x15 : Value) (x16 : Value) (x17 : Value) (x18 : Value) (sz : Nat) : Met l yX8_next wsX8_next ({ frames := 4, cells := 1, slots := 3, locals := 72 }) (kWY D cy de [.ref h1, .int p0, .int 0] [(h1, .inr (10, [x2, x3, x4, x5, x6, x7, x8, x9, x10, x11, x12, x13, x14, x15, x16, .int 0, x17, x18]))] sz) (va_Qi (fun (r : Int32) (_ : Unit) => r = (-1) ∧ True) (fun (_ : Unit) (t : State) => va_P D vwCl [(h1, .inr (10, [x2, x3, x4, x5, x6, x7, x8, x9, x10, x11, x12, x13, x14, x15, x16, .int 0, x17, x18]))] t.heap ∧ va_D (va_A [(h1, .inr (10, [x2, x3, x4, x5, x6, x7, x8, x9, x10, x11, x12, x13, x14, x15, x16, .int 0, x17, x18]))] sz) [(h1, .inr (10, [x2, x3, x4, x5, x6, x7, x8, x9, x10, x11, x12, x13, x14, x15, x16, .int 0, x17, x18]))]) (va_A [(h1, .inr (10, [x2, x3, x4, x5, x6, x7, x8, x9, x10, x11, x12, x13, x14, x15, x16, .int 0, x17, x18]))] sz)) 1 3 (va_A [(h1, .inr (10, [x2, x3, x4, x5, x6, x7, x8, x9, x10, x11, x12, x13, x14, x15, x16, .int 0, x17, x18]))] sz) := by
  refine Met.ofW (cc := cX8_next) (maxL := 7) (ret := (some .int)) (by decide) rfl ?_
  intro p e s m args below meth c s₁ B hml hv
  obtain ⟨rfl, hsz, hP, hK, hD0, hE, hY⟩ := hv
  have hx := B.exec
  have hb := B.bytes
  have hr := B.returns
  have hts := atoms_spec (ws := wsX8_next) B.pre
  have hown : s.vm.findClass RX8 = some m.cls := findClass_of_methodNamed B.named
  have hlocks := B.notSynchronized
  subst hsz
  have hD := hD0.self (sz := s.heap.size)
  generalize hAe : va_A [(h1, .inr (10, [x2, x3, x4, x5, x6, x7, x8, x9, x10, x11, x12, x13, x14, x15, x16, .int 0, x17, x18]))] s.heap.size = A at hD hE hY ⊢
  have hA : ∀ q : Nat, s.heap.size ≤ q → A q := fun q h => by rw [← hAe]; exact Or.inr h
  have hS : va_S A s.heap s.heap [] := va_S.rf
  have hP : va_P D vwCl [(h1, .inr (10, [x2, x3, x4, x5, x6, x7, x8, x9, x10, x11, x12, x13, x14, x15, x16, .int 0, x17, x18]))] s.heap := hP
  have hl := lv_entry ([.ref h1, .int p0, .int 0]) (n := 7) (Nat.le_of_ble_eq_true rfl)
  rw [lg_entry_eq]
  generalize (lg_sl ([.ref h1, .int p0, .int 0]) ++ List.replicate (7 - (lg_sl ([.ref h1, .int p0, .int 0])).length) Slot.unset).toArray = ls at hl ⊢
  have hl : lv_has ls 7 [(0, .ref h1), (1, .int p0), (2, .int 0)] := hl
  refine va_new (ci := 1) (fs := [.int 0, .null, .int 0]) (C := RJx4a65c) (T := TJx4a65c) (N := 3) hx hb hts (fun _ h => (List.mem_cons_of_mem _ (List.mem_append_left _ (List.mem_append_left _ (List.mem_append_left _ (List.mem_append_left _ (List.mem_append_left _ (List.mem_append_right _ h)))))))) tyJx4a65c tyJx4a65c_ok hown (hts (.classLink RX8 117 RJx4a65c) (List.mem_cons_of_mem _ (List.mem_append_left _ (List.mem_append_left _ (List.mem_append_left _ (List.mem_append_left _ (List.mem_append_left _ (List.mem_append_left _ (List.mem_append_left _ (List.mem_of_getElem? (i := 0) rfl)))))))))) (hts (.instantiable RJx4a65c 3) (List.mem_cons_of_mem _ (List.mem_append_left _ (List.mem_append_left _ (List.mem_append_left _ (List.mem_append_left _ (List.mem_append_left _ (List.mem_append_left _ (List.mem_append_left _ (List.mem_of_getElem? (i := 1) rfl)))))))))) (hts (.initialized RJx4a65c) (List.mem_cons_of_mem _ (List.mem_append_left _ (List.mem_append_left _ (List.mem_append_left _ (List.mem_append_left _ (List.mem_append_left _ (List.mem_append_left _ (List.mem_append_left _ (List.mem_of_getElem? (i := 2) rfl)))))))))) hK hP hD hS hA rfl (fun j hj => by rcases (show j = 0 ∨ j = 1 ∨ j = 2 by omega) with rfl | rfl | rfl <;> rfl) (Nat.le_of_ble_eq_true rfl) (Nat.le_of_ble_eq_true rfl) dX8_next_0 (fun q_1 H hP hD hS => ?_)
  have hP : va_P D vwCl [(h1, .inr (10, [x2, x3, x4, x5, x6, x7, x8, x9, x10, x11, x12, x13, x14, x15, x16, .int 0, x17, x18])), (q_1, .inr (1, [.int 0, .null, .int 0]))] H := hP
  have hD : va_D A [(h1, .inr (10, [x2, x3, x4, x5, x6, x7, x8, x9, x10, x11, x12, x13, x14, x15, x16, .int 0, x17, x18])), (q_1, .inr (1, [.int 0, .null, .int 0]))] := hD
  refine W.widen (k := 1) (n := 3) (Nat.le_of_ble_eq_true rfl) (Nat.le_of_ble_eq_true rfl) ?_
  refine lv_dup hx hb dX8_next_3 rfl ?_
  have hPc := hP.sub (ws' := [(q_1, .inr (1, [.int 0, .null, .int 0]))]) [1] rfl
  have hDc := hD.sub (ws' := [(q_1, .inr (1, [.int 0, .null, .int 0]))]) [1] (by decide) rfl
  have hFc := va_free (wc := [(q_1, .inr (1, [.int 0, .null, .int 0]))]) hD hS hA [1] rfl
  refine va_callv (va_runI (As := []) (rest := [.ref q_1]) ⟨hx, hb, hml, hown, hts⟩ (k_Jx4a65c_init_da8c8 l hl9 D cy de q_1 (.int 0) (.null) (.int 0) H.size) (cwI 0 hts gX8_next_Jx4a65c_init_da8c8 rfl rfl rfl (hts (.initialized RJx4a65c) (List.mem_cons_of_mem _ (List.mem_append_left _ (List.mem_append_left _ (List.mem_append_left _ (List.mem_append_left _ (List.mem_append_left _ (List.mem_append_left _ (List.mem_append_left _ (List.mem_of_getElem? (i := 2) rfl)))))))))) (hts (.methodLink RX8 126 yJx4a65c_init_da8c8) (List.mem_cons_of_mem _ (List.mem_append_left _ (List.mem_append_left _ (List.mem_append_left _ (List.mem_append_left _ (List.mem_append_left _ (List.mem_append_left _ (List.mem_append_left _ (List.mem_of_getElem? (i := 7) rfl)))))))))) (hts (.instanceMethod yJx4a65c_init_da8c8) (List.mem_cons_of_mem _ (List.mem_append_left _ (List.mem_append_left _ (List.mem_append_left _ (List.mem_append_left _ (List.mem_append_left _ (List.mem_append_left _ (List.mem_append_left _ (List.mem_of_getElem? (i := 8) rfl)))))))))) rfl (by decide +kernel) ⟨(Nat.le_of_ble_eq_true rfl), (Nat.le_of_ble_eq_true rfl)⟩) ⟨kWY_fb, (kWY_go hPc hK hDc hFc hE hY hS)⟩ rfl rfl hl.1 rfl (lv_room (Nat.le_of_ble_eq_true rfl)) dX8_next_4 ⟨(Nat.le_of_ble_eq_true rfl), (Nat.le_of_ble_eq_true rfl)⟩) hS (fun q _ h => hFc q h) hFc (fun u t H locs ht hvm hw hB hz1 hk1 hS => ?_)
  obtain ⟨hP1, hD1⟩ := hB
  rw [ht] at hP1
  try dsimp only at hw hP1 hD1
  obtain ⟨hP, hD⟩ := va_join (wr := [(h1, .inr (10, [x2, x3, x4, x5, x6, x7, x8, x9, x10, x11, x12, x13, x14, x15, x16, .int 0, x17, x18]))]) (w1 := [(q_1, .inr (1, [.int 0, .ref de, .int 0]))]) hP hD [1] [0] rfl rfl (by decide) (by decide) hk1 hFc hP1 hD1
  have hP : va_P D vwCl [(h1, .inr (10, [x2, x3, x4, x5, x6, x7, x8, x9, x10, x11, x12, x13, x14, x15, x16, .int 0, x17, x18])), (q_1, .inr (1, [.int 0, .ref de, .int 0]))] H := hP
  have hD : va_D A [(h1, .inr (10, [x2, x3, x4, x5, x6, x7, x8, x9, x10, x11, x12, x13, x14, x15, x16, .int 0, x17, x18])), (q_1, .inr (1, [.int 0, .ref de, .int 0]))] := hD
  refine lv_astore_n (lv' := [(3, .ref q_1), (0, .ref h1), (1, .int p0), (2, .int 0)]) hx hb dX8_next_7 rfl hl (by decide) rfl (fun ls hl => ?_)
  refine lv_iconst (v := 0) hx hb dX8_next_8 (by decide) ?_
  refine lv_istore (lv' := [(4, .int 0), (3, .ref q_1), (0, .ref h1), (1, .int p0), (2, .int 0)]) hx hb dX8_next_9 hl (by decide) rfl (fun ls hl => ?_)
  refine lv_iload hx hb dX8_next_11 (lv_at hl 0 rfl) ?_
  refine lv_aload_n hx hb dX8_next_13 rfl (lv_at hl 2 rfl) ?_
  refine va_get (D := D) (ci := 10) (v := .int 0) (C := RX8) (T := TX8) (N := 18) hx hb hts (fun _ h => (List.mem_cons_of_mem _ (List.mem_append_left _ (List.mem_append_left _ (List.mem_append_left _ (List.mem_append_left _ (List.mem_append_right _ h))))))) hown hK hP 0 rfl rfl 15 (by decide) (hts (.fieldLink RX8 85 "SelfishJunctionModel" "players" "I") (List.mem_cons_of_mem _ (List.mem_append_left _ (List.mem_append_left _ (List.mem_append_left _ (List.mem_append_left _ (List.mem_append_left _ (List.mem_append_left _ (List.mem_append_left _ (List.mem_of_getElem? (i := 3) rfl)))))))))) (fun _ h9 => h9) rfl dX8_next_14 ?_
  refine lv_icmp_ge (tgt := 71) hx hb dX8_next_17 (by decide) (fun _ => ?_) (fun h => absurd (by decide) h)
  refine lv_aload_n hx hb dX8_next_71 rfl (lv_at hl 1 rfl) ?_
  have hPc := hP.sub (ws' := [(q_1, .inr (1, [.int 0, .ref de, .int 0]))]) [1] rfl
  refine va_calli (va_runV (As := []) (rest := []) ⟨hx, hb, hml, hown, hts⟩ (k_Jx4a65c_isEmpty_aae02 l D cy q_1 (.int 0) (.ref de)) (cwV 0 hts gX8_next_Jx4a65c_isEmpty_aae02 rfl rfl rfl (by decide +kernel) ⟨(Nat.le_of_ble_eq_true rfl), (Nat.le_of_ble_eq_true rfl)⟩) ⟨kR_fb, va_recv hK hP (ci := 1) (q0 := 1) rfl rfl, (kR_go hPc hK)⟩ rfl rfl hl.1 rfl (lv_room (Nat.le_of_ble_eq_true rfl)) dX8_next_72 ⟨(Nat.le_of_ble_eq_true rfl), (Nat.le_of_ble_eq_true rfl)⟩) hS (fun _ _ h => h.elim) (fun _ h => h.elim) (fun r9 u t H locs ht hvm hw hB hz1 hk1 hS => ?_)
  have hP := kx_kept hP hk1
  obtain ⟨rfl, hw⟩ := hw
  refine lv_if_eq (tgt := 80) hx hb dX8_next_75 (by decide) (fun h => absurd h (by decide)) (fun _ => ?_)
  refine lv_iconst (v := (-1)) hx hb dX8_next_78 (by decide) ?_
  refine W.widen (k := 1) (n := 3) (Nat.le_of_ble_eq_true rfl) (Nat.le_of_ble_eq_true rfl) ?_
  have hP9 := hP.sub (ws' := [(h1, .inr (10, [x2, x3, x4, x5, x6, x7, x8, x9, x10, x11, x12, x13, x14, x15, x16, .int 0, x17, x18]))]) [0] rfl
  have hD9 := hD.sub (ws' := [(h1, .inr (10, [x2, x3, x4, x5, x6, x7, x8, x9, x10, x11, x12, x13, x14, x15, x16, .int 0, x17, x18]))]) [0] (by decide) rfl
  exact W.iret (v := (-1)) hx hb hr (fun t ht hW => ⟨⟨(-1), (), rfl, ⟨rfl, trivial⟩, ⟨by rw [ht]; exact hP9, hD9⟩⟩, hS.F ht⟩) hS.2.2 dX8_next_79
theorem dX8_run_0 : decode cX8_run 0 = .ok (.aload_n 0, 1) := by decide +kernel
theorem dX8_run_1 : decode cX8_run 1 = .ok (.iload_n 1, 1) := by decide +kernel
theorem dX8_run_2 : decode cX8_run 2 = .ok (.bipush 114, 2) := by decide +kernel
theorem dX8_run_4 : decode cX8_run 4 = .ok (.if_icmp .eq 15, 3) := by decide +kernel
theorem dX8_run_19 : decode cX8_run 19 = .ok (.iload_n 2, 1) := by decide +kernel
theorem dX8_run_20 : decode cX8_run 20 = .ok (.iconst 1, 1) := by decide +kernel
theorem dX8_run_21 : decode cX8_run 21 = .ok (.sipush 200, 3) := by decide +kernel
theorem dX8_run_24 : decode cX8_run 24 = .ok (.invokestatic 65, 3) := by decide +kernel
set_option maxRecDepth 20000 in
theorem ggX8_run_X8_isIn : GoodIn wsX8_run wsX8_isIn := goodIn_r _ [5] (by decide +kernel) (by decide +kernel)
set_option maxRecDepth 20000 in
theorem gX8_run_X8_isIn : GoodIn wsX8_run (va_wsS RX8 65 yX8_isIn wsX8_isIn) := goodIn_app (goodIn_of _ (by decide +kernel)) ggX8_run_X8_isIn
theorem dX8_run_27 : decode cX8_run 27 = .ok (.ifCond .ne 7, 3) := by decide +kernel
theorem dX8_run_34 : decode cX8_run 34 = .ok (.iconst 0, 1) := by decide +kernel
theorem dX8_run_35 : decode cX8_run 35 = .ok (.iconst 1, 1) := by decide +kernel
theorem dX8_run_36 : decode cX8_run 36 = .ok (.invokevirtual 73, 3) := by decide +kernel
set_option maxRecDepth 20000 in
theorem ggX8_run_X8_isThrown : GoodIn wsX8_run wsX8_isThrown := goodIn_r _ [9, 10, 220, 221, 222, 223, 224, 225, 226, 227, 228, 229, 230, 231, 232, 233, 234, 235, 236, 237] (by decide +kernel) (by decide +kernel)
set_option maxRecDepth 20000 in
theorem gX8_run_X8_isThrown : GoodIn wsX8_run (wsV RX8 73 RX8 yX8_isThrown wsX8_isThrown) := goodIn_app (goodIn_of _ (by decide +kernel)) ggX8_run_X8_isThrown
theorem dX8_run_39 : decode cX8_run 39 = .ok (.ifCond .eq 5, 3) := by decide +kernel
theorem dX8_run_44 : decode cX8_run 44 = .ok (.iconst 0, 1) := by decide +kernel
theorem dX8_run_45 : decode cX8_run 45 = .ok (.istore_n 3, 1) := by decide +kernel
theorem dX8_run_46 : decode cX8_run 46 = .ok (.iconst 0, 1) := by decide +kernel
theorem dX8_run_47 : decode cX8_run 47 = .ok (.istore 4, 2) := by decide +kernel
theorem dX8_run_49 : decode cX8_run 49 = .ok (.aload_n 0, 1) := by decide +kernel
theorem dX8_run_50 : decode cX8_run 50 = .ok (.iload_n 1, 1) := by decide +kernel
theorem dX8_run_51 : decode cX8_run 51 = .ok (.iload 4, 2) := by decide +kernel
theorem dX8_run_53 : decode cX8_run 53 = .ok (.invokevirtual 223, 3) := by decide +kernel
set_option maxRecDepth 20000 in
theorem ggX8_run_X8_next : GoodIn wsX8_run wsX8_next := goodIn_ca (goodIn_ca (goodIn_r _ [14, 15, 16, 17, 18, 1, 19, 20, 21, 22, 23, 24, 25, 26, 27, 28, 29, 30, 31, 32, 33, 34, 35, 36, 37, 38, 39, 40, 4, 41, 42, 43, 44, 45, 46, 47, 48, 49, 50, 51, 52, 53, 54, 55, 56, 57, 58, 59, 60, 61, 62, 63, 64, 65, 66, 67, 68, 69, 70, 71, 72, 73, 74, 75, 76, 77, 78, 79, 80, 81, 82, 83, 84, 85, 86, 87, 88, 89, 90, 91, 92, 93, 94, 95, 96, 97, 98, 99, 100, 101, 102, 103, 104, 105, 106, 107, 108, 109, 110, 111, 112, 113, 114, 115, 116, 117, 118, 119, 120, 121, 122, 123, 124, 125, 126, 127, 128, 129, 130, 131, 132, 133, 134, 135, 136, 137, 138, 139, 140, 141, 142, 143, 144, 145, 146, 147, 148, 149, 150, 151, 152, 153, 154, 155, 156, 157, 158, 159, 160, 161, 162, 163, 164, 165, 166, 167, 168, 169, 170, 171, 172, 173, 174, 175, 176, 177, 178, 179, 180, 181, 182, 183, 184, 185, 186, 187, 188, 189, 190, 191, 192, 193, 194, 195, 196, 197, 198, 199, 200, 201, 202, 203, 204, 205, 206, 207, 208, 209, 210, 211, 212, 213, 214, 215, 216, 217, 218, 219, 238, 239, 240, 220, 221, 222, 223, 224, 225, 226, 227, 228, 229, 230, 231, 232, 233, 234, 235, 236, 237, 241, 242, 243, 244, 245] (by decide +kernel) (by decide +kernel)) (goodIn_sub (fun _ h => List.mem_cons_of_mem _ (List.mem_append_right _ h)) (by decide +kernel))) (goodIn_sub (fun _ h => List.mem_cons_of_mem _ (List.mem_append_left _ (List.mem_append_right _ h))) (by decide +kernel))
set_option maxRecDepth 20000 in
theorem gX8_run_X8_next : GoodIn wsX8_run (wsV RX8 223 RX8 yX8_next wsX8_next) := goodIn_app (goodIn_of _ (by decide +kernel)) ggX8_run_X8_next
theorem dX8_run_56 : decode cX8_run 56 = .ok (.istore 5, 2) := by decide +kernel
theorem dX8_run_58 : decode cX8_run 58 = .ok (.iload 5, 2) := by decide +kernel
theorem dX8_run_60 : decode cX8_run 60 = .ok (.iconst (-1), 1) := by decide +kernel
theorem dX8_run_61 : decode cX8_run 61 = .ok (.if_icmp .eq 50, 3) := by decide +kernel
theorem dX8_run_111 : decode cX8_run 111 = .ok (.iload_n 3, 1) := by decide +kernel
theorem dX8_run_112 : decode cX8_run 112 = .ok (.ireturn, 1) := by decide +kernel
theorem dX8_run_30 : decode cX8_run 30 = .ok (.iconst 1, 1) := by decide +kernel
theorem dX8_run_31 : decode cX8_run 31 = .ok (.goto 4, 3) := by decide +kernel
theorem dX8_run_42 : decode cX8_run 42 = .ok (.iconst 0, 1) := by decide +kernel
theorem dX8_run_43 : decode cX8_run 43 = .ok (.ireturn, 1) := by decide +kernel
theorem dX8_run_7 : decode cX8_run 7 = .ok (.iload_n 1, 1) := by decide +kernel
theorem dX8_run_8 : decode cX8_run 8 = .ok (.bipush 103, 2) := by decide +kernel
theorem dX8_run_10 : decode cX8_run 10 = .ok (.if_icmp .eq 9, 3) := by decide +kernel
theorem dX8_run_13 : decode cX8_run 13 = .ok (.iload_n 1, 1) := by decide +kernel
theorem dX8_run_14 : decode cX8_run 14 = .ok (.bipush 122, 2) := by decide +kernel
theorem dX8_run_16 : decode cX8_run 16 = .ok (.if_icmp .ne 14, 3) := by decide +kernel
set_option maxHeartbeats 4000000 in
set_option maxRecDepth 100000 in
theorem k_X8_run (l : Launch) (hl9 : l.stackTraces = false) (D : va_G) (cy : Nat → ClassId) (de : Nat) (h1 : Nat) (p0 : Int32) (p1 : Int32) (x2 : Value) (x3 : Value) (x4 : Value) (x5 : Value) (x6 : Value) (x7 : Value) (x8 : Value) (x9 : Value) (x10 : Value) (x11 : Value) (x12 : Value) (x13 : Value) (x14 : Value) (x15 : Value) (x16 : Value) (x17 : Value) (x18 : Value) (sz : Nat) : Met l yX8_run wsX8_run ({ frames := 5, cells := 1, slots := 3, locals := 98 }) (kWY D cy de [.ref h1, .int p0, .int p1] [(h1, .inr (10, [x2, x3, x4, x5, x6, x7, x8, x9, x10, x11, x12, x13, x14, x15, x16, .int 0, x17, x18]))] sz) (va_Qi (fun (r : Int32) (u : Int32) => match u with | y1 => ((r = 0 ∧ (y1 = 0) ∧ (((p0.toInt = (114 : Int) ∧ ((1 : Int) ≤ p1.toInt ∧ p1.toInt ≤ (200 : Int))) ∨ (p0.toInt ≠ (114 : Int) ∧ p0.toInt = (103 : Int) ∧ ((1 : Int) ≤ p1.toInt ∧ p1.toInt ≤ (200 : Int)))) ∨ (p0.toInt ≠ (114 : Int) ∧ p0.toInt ≠ (103 : Int) ∧ p0.toInt = (122 : Int) ∧ ((1 : Int) ≤ p1.toInt ∧ p1.toInt ≤ (200 : Int))))) ∨ (r = 0 ∧ (y1 = 1) ∧ ((((p0.toInt = (114 : Int) ∧ ¬ (((1 : Int) ≤ p1.toInt ∧ p1.toInt ≤ (200 : Int)))) ∨ (p0.toInt ≠ (114 : Int) ∧ p0.toInt = (103 : Int) ∧ ¬ (((1 : Int) ≤ p1.toInt ∧ p1.toInt ≤ (200 : Int))))) ∨ (p0.toInt ≠ (114 : Int) ∧ p0.toInt ≠ (103 : Int) ∧ p0.toInt ≠ (122 : Int))) ∨ (p0.toInt ≠ (114 : Int) ∧ p0.toInt ≠ (103 : Int) ∧ p0.toInt = (122 : Int) ∧ ¬ (((1 : Int) ≤ p1.toInt ∧ p1.toInt ≤ (200 : Int)))))))) (fun (u : Int32) (t : State) => match u with | y1 => va_P D vwCl [(h1, .inr (10, [x2, x3, x4, x5, x6, x7, x8, x9, x10, x11, x12, x13, x14, x15, x16, .int 0, x17, .int y1]))] t.heap ∧ va_D (va_A [(h1, .inr (10, [x2, x3, x4, x5, x6, x7, x8, x9, x10, x11, x12, x13, x14, x15, x16, .int 0, x17, x18]))] sz) [(h1, .inr (10, [x2, x3, x4, x5, x6, x7, x8, x9, x10, x11, x12, x13, x14, x15, x16, .int 0, x17, .int y1]))]) (va_A [(h1, .inr (10, [x2, x3, x4, x5, x6, x7, x8, x9, x10, x11, x12, x13, x14, x15, x16, .int 0, x17, x18]))] sz)) 1 3 (va_A [(h1, .inr (10, [x2, x3, x4, x5, x6, x7, x8, x9, x10, x11, x12, x13, x14, x15, x16, .int 0, x17, x18]))] sz) := by
  refine Met.ofW (cc := cX8_run) (maxL := 6) (ret := (some .int)) (by decide) rfl ?_
  intro p e s m args below meth c s₁ B hml hv
  obtain ⟨rfl, hsz, hP, hK, hD0, hE, hY⟩ := hv
  have hx := B.exec
  have hb := B.bytes
  have hr := B.returns
  have hts := atoms_spec (ws := wsX8_run) B.pre
  have hown : s.vm.findClass RX8 = some m.cls := findClass_of_methodNamed B.named
  have hlocks := B.notSynchronized
  subst hsz
  have hD := hD0.self (sz := s.heap.size)
  generalize hAe : va_A [(h1, .inr (10, [x2, x3, x4, x5, x6, x7, x8, x9, x10, x11, x12, x13, x14, x15, x16, .int 0, x17, x18]))] s.heap.size = A at hD hE hY ⊢
  have hA : ∀ q : Nat, s.heap.size ≤ q → A q := fun q h => by rw [← hAe]; exact Or.inr h
  have hS : va_S A s.heap s.heap [] := va_S.rf
  have hP : va_P D vwCl [(h1, .inr (10, [x2, x3, x4, x5, x6, x7, x8, x9, x10, x11, x12, x13, x14, x15, x16, .int 0, x17, x18]))] s.heap := hP
  have hl := lv_entry ([.ref h1, .int p0, .int p1]) (n := 6) (Nat.le_of_ble_eq_true rfl)
  rw [lg_entry_eq]
  generalize (lg_sl ([.ref h1, .int p0, .int p1]) ++ List.replicate (6 - (lg_sl ([.ref h1, .int p0, .int p1])).length) Slot.unset).toArray = ls at hl ⊢
  have hl : lv_has ls 6 [(0, .ref h1), (1, .int p0), (2, .int p1)] := hl
  refine lv_aload_n hx hb dX8_run_0 rfl (lv_at hl 0 rfl) ?_
  refine lv_iload_n hx hb dX8_run_1 rfl (lv_at hl 1 rfl) ?_
  refine lv_bipush (v := 114) hx hb dX8_run_2 (by decide) ?_
  refine lv_icmp_eq (tgt := 19) hx hb dX8_run_4 (by decide) (fun c_1 => ?_) (fun c_1 => ?_)
  · have f_2 : p0.toInt = (114 : Int) := kx_eq c_1
    refine lv_iload_n hx hb dX8_run_19 rfl (lv_at hl 2 rfl) ?_
    refine lv_iconst (v := 1) hx hb dX8_run_20 (by decide) ?_
    refine lv_sipush (v := 200) hx hb dX8_run_21 (by decide) ?_
    have hPc := hP.sub (ws' := []) [] rfl
    refine va_calli (va_runS (As := [.int p1, .int 1, .int 200]) (rest := [.ref h1]) ⟨hx, hb, hml, hown, hts⟩ (k_X8_isIn l D cy p1 1 200) (va_cwS 3 hts gX8_run_X8_isIn rfl rfl rfl (by decide +kernel) ⟨(Nat.le_of_ble_eq_true rfl), (Nat.le_of_ble_eq_true rfl)⟩) ⟨kR_fb, (kR_go hPc hK)⟩ rfl rfl hl.1 rfl (lv_room (Nat.le_of_ble_eq_true rfl)) dX8_run_24 ⟨(Nat.le_of_ble_eq_true rfl), (Nat.le_of_ble_eq_true rfl)⟩) hS (fun _ _ h => h.elim) (fun _ h => h.elim) (fun r9 u t H locs ht hvm hw hB hz1 hk1 hS => ?_)
    have hP := kx_kept hP hk1
    rcases hw with ⟨rfl, hw⟩ | ⟨rfl, hw⟩
    · have f_3 : ((1 : Int) ≤ p1.toInt ∧ p1.toInt ≤ (200 : Int)) := hw
      refine lv_if_ne (tgt := 34) hx hb dX8_run_27 (by decide) (fun _ => ?_) (fun h => absurd h (by decide))
      refine lv_iconst (v := 0) hx hb dX8_run_34 (by decide) ?_
      refine lv_iconst (v := 1) hx hb dX8_run_35 (by decide) ?_
      have hPc := hP.sub (ws' := [(h1, .inr (10, [x2, x3, x4, x5, x6, x7, x8, x9, x10, x11, x12, x13, x14, x15, x16, .int 0, x17, x18]))]) [0] rfl
      have hDc := hD.sub (ws' := [(h1, .inr (10, [x2, x3, x4, x5, x6, x7, x8, x9, x10, x11, x12, x13, x14, x15, x16, .int 0, x17, x18]))]) [0] (by decide) rfl
      have hFc := va_free (wc := [(h1, .inr (10, [x2, x3, x4, x5, x6, x7, x8, x9, x10, x11, x12, x13, x14, x15, x16, .int 0, x17, x18]))]) hD hS hA [0] rfl
      refine va_calli (va_runV (As := [.int 0, .int 1]) (rest := []) ⟨hx, hb, hml, hown, hts⟩ (k_X8_isThrown_1 l D cy h1 (x2) (x3) (x4) (x5) (x6) (x7) (x8) (x9) (x10) (x11) (x12) (x13) (x14) (x15) (x16) (.int 0) (x17) (x18) H.size) (cwV 2 hts gX8_run_X8_isThrown rfl rfl rfl (by decide +kernel) ⟨(Nat.le_of_ble_eq_true rfl), (Nat.le_of_ble_eq_true rfl)⟩) ⟨kW_fb, va_recv hK hP (ci := 10) (q0 := 0) rfl rfl, (kW_go hPc hK hDc)⟩ rfl rfl hl.1 rfl (lv_room (Nat.le_of_ble_eq_true rfl)) dX8_run_36 ⟨(Nat.le_of_ble_eq_true rfl), (Nat.le_of_ble_eq_true rfl)⟩) hS (fun q _ h => hFc q h) hFc (fun r9 u t H locs ht hvm hw hB hz1 hk1 hS => ?_)
      obtain ⟨hP1, hD1⟩ := hB
      rw [ht] at hP1
      try dsimp only at hw hP1 hD1
      obtain ⟨hP, hD⟩ := va_join (wr := []) (w1 := [(h1, .inr (10, [x2, x3, x4, x5, x6, x7, x8, x9, x10, x11, x12, x13, x14, x15, x16, .int 0, x17, .int 0]))]) hP hD [0] [] rfl rfl (by decide) (by decide) hk1 hFc hP1 hD1
      have hP : va_P D vwCl [(h1, .inr (10, [x2, x3, x4, x5, x6, x7, x8, x9, x10, x11, x12, x13, x14, x15, x16, .int 0, x17, .int 0]))] H := hP
      have hD : va_D A [(h1, .inr (10, [x2, x3, x4, x5, x6, x7, x8, x9, x10, x11, x12, x13, x14, x15, x16, .int 0, x17, .int 0]))] := hD
      obtain ⟨rfl, hw⟩ := hw
      refine lv_if_eq (tgt := 44) hx hb dX8_run_39 (by decide) (fun _ => ?_) (fun h => absurd (by decide) h)
      refine lv_iconst (v := 0) hx hb dX8_run_44 (by decide) ?_
      refine lv_istore_n (lv' := [(3, .int 0), (0, .ref h1), (1, .int p0), (2, .int p1)]) hx hb dX8_run_45 rfl hl (by decide) rfl (fun ls hl => ?_)
      refine lv_iconst (v := 0) hx hb dX8_run_46 (by decide) ?_
      refine lv_istore (lv' := [(4, .int 0), (3, .int 0), (0, .ref h1), (1, .int p0), (2, .int p1)]) hx hb dX8_run_47 hl (by decide) rfl (fun ls hl => ?_)
      refine lv_aload_n hx hb dX8_run_49 rfl (lv_at hl 2 rfl) ?_
      refine lv_iload_n hx hb dX8_run_50 rfl (lv_at hl 3 rfl) ?_
      refine lv_iload hx hb dX8_run_51 (lv_at hl 0 rfl) ?_
      have hPc := hP.sub (ws' := [(h1, .inr (10, [x2, x3, x4, x5, x6, x7, x8, x9, x10, x11, x12, x13, x14, x15, x16, .int 0, x17, .int 0]))]) [0] rfl
      have hDc := hD.sub (ws' := [(h1, .inr (10, [x2, x3, x4, x5, x6, x7, x8, x9, x10, x11, x12, x13, x14, x15, x16, .int 0, x17, .int 0]))]) [0] (by decide) rfl
      have hFc := va_free (wc := [(h1, .inr (10, [x2, x3, x4, x5, x6, x7, x8, x9, x10, x11, x12, x13, x14, x15, x16, .int 0, x17, .int 0]))]) hD hS hA [0] rfl
      refine va_calli (va_runV (As := [.int p0, .int 0]) (rest := []) ⟨hx, hb, hml, hown, hts⟩ (k_X8_next l hl9 D cy de h1 p0 (x2) (x3) (x4) (x5) (x6) (x7) (x8) (x9) (x10) (x11) (x12) (x13) (x14) (x15) (x16) (x17) (.int 0) H.size) (cwV 2 hts gX8_run_X8_next rfl rfl rfl (by decide +kernel) ⟨(Nat.le_of_ble_eq_true rfl), (Nat.le_of_ble_eq_true rfl)⟩) ⟨kWY_fb, va_recv hK hP (ci := 10) (q0 := 0) rfl rfl, (kWY_go hPc hK hDc hFc hE hY hS)⟩ rfl rfl hl.1 rfl (lv_room (Nat.le_of_ble_eq_true rfl)) dX8_run_53 ⟨(Nat.le_of_ble_eq_true rfl), (Nat.le_of_ble_eq_true rfl)⟩) hS (fun q _ h => hFc q h) hFc (fun r9 u t H locs ht hvm hw hB hz1 hk1 hS => ?_)
      obtain ⟨hP1, hD1⟩ := hB
      rw [ht] at hP1
      try dsimp only at hw hP1 hD1
      obtain ⟨hP, hD⟩ := va_join (wr := []) (w1 := [(h1, .inr (10, [x2, x3, x4, x5, x6, x7, x8, x9, x10, x11, x12, x13, x14, x15, x16, .int 0, x17, .int 0]))]) hP hD [0] [] rfl rfl (by decide) (by decide) hk1 hFc hP1 hD1
      have hP : va_P D vwCl [(h1, .inr (10, [x2, x3, x4, x5, x6, x7, x8, x9, x10, x11, x12, x13, x14, x15, x16, .int 0, x17, .int 0]))] H := hP
      have hD : va_D A [(h1, .inr (10, [x2, x3, x4, x5, x6, x7, x8, x9, x10, x11, x12, x13, x14, x15, x16, .int 0, x17, .int 0]))] := hD
      refine W.widen (k := 1) (n := 3) (Nat.le_of_ble_eq_true rfl) (Nat.le_of_ble_eq_true rfl) ?_
      obtain ⟨rfl, hw⟩ := hw
      refine lv_istore (lv' := [(5, .int (-1)), (4, .int 0), (3, .int 0), (0, .ref h1), (1, .int p0), (2, .int p1)]) hx hb dX8_run_56 hl (by decide) rfl (fun ls hl => ?_)
      refine lv_iload hx hb dX8_run_58 (lv_at hl 0 rfl) ?_
      refine lv_iconst (v := (-1)) hx hb dX8_run_60 (by decide) ?_
      refine lv_icmp_eq (tgt := 111) hx hb dX8_run_61 (by decide) (fun _ => ?_) (fun h => absurd (by decide) h)
      refine lv_iload_n hx hb dX8_run_111 rfl (lv_at hl 2 rfl) ?_
      refine W.widen (k := 1) (n := 3) (Nat.le_of_ble_eq_true rfl) (Nat.le_of_ble_eq_true rfl) ?_
      have hP9 := hP.sub (ws' := [(h1, .inr (10, [x2, x3, x4, x5, x6, x7, x8, x9, x10, x11, x12, x13, x14, x15, x16, .int 0, x17, .int 0]))]) [0] rfl
      have hD9 := hD.sub (ws' := [(h1, .inr (10, [x2, x3, x4, x5, x6, x7, x8, x9, x10, x11, x12, x13, x14, x15, x16, .int 0, x17, .int 0]))]) [0] (by decide) rfl
      exact W.iret (v := 0) hx hb hr (fun t ht hW => ⟨⟨0, (0), rfl, Or.inl (⟨rfl, rfl, (by omega)⟩), ⟨by rw [ht]; exact hP9, hD9⟩⟩, hS.F ht⟩) hS.2.2 dX8_run_112
    · have f_6 : ¬ (((1 : Int) ≤ p1.toInt ∧ p1.toInt ≤ (200 : Int))) := hw
      refine lv_if_ne (tgt := 34) hx hb dX8_run_27 (by decide) (fun h => absurd (by decide) h) (fun _ => ?_)
      refine lv_iconst (v := 1) hx hb dX8_run_30 (by decide) ?_
      refine lv_goto (tgt := 35) hx hb dX8_run_31 (by decide) ?_
      refine lv_iconst (v := 1) hx hb dX8_run_35 (by decide) ?_
      have hPc := hP.sub (ws' := [(h1, .inr (10, [x2, x3, x4, x5, x6, x7, x8, x9, x10, x11, x12, x13, x14, x15, x16, .int 0, x17, x18]))]) [0] rfl
      have hDc := hD.sub (ws' := [(h1, .inr (10, [x2, x3, x4, x5, x6, x7, x8, x9, x10, x11, x12, x13, x14, x15, x16, .int 0, x17, x18]))]) [0] (by decide) rfl
      have hFc := va_free (wc := [(h1, .inr (10, [x2, x3, x4, x5, x6, x7, x8, x9, x10, x11, x12, x13, x14, x15, x16, .int 0, x17, x18]))]) hD hS hA [0] rfl
      refine va_calli (va_runV (As := [.int 1, .int 1]) (rest := []) ⟨hx, hb, hml, hown, hts⟩ (k_X8_isThrown l D cy h1 (x2) (x3) (x4) (x5) (x6) (x7) (x8) (x9) (x10) (x11) (x12) (x13) (x14) (x15) (x16) (.int 0) (x17) (x18) H.size) (cwV 2 hts gX8_run_X8_isThrown rfl rfl rfl (by decide +kernel) ⟨(Nat.le_of_ble_eq_true rfl), (Nat.le_of_ble_eq_true rfl)⟩) ⟨kW_fb, va_recv hK hP (ci := 10) (q0 := 0) rfl rfl, (kW_go hPc hK hDc)⟩ rfl rfl hl.1 rfl (lv_room (Nat.le_of_ble_eq_true rfl)) dX8_run_36 ⟨(Nat.le_of_ble_eq_true rfl), (Nat.le_of_ble_eq_true rfl)⟩) hS (fun q _ h => hFc q h) hFc (fun r9 u t H locs ht hvm hw hB hz1 hk1 hS => ?_)
      obtain ⟨hP1, hD1⟩ := hB
      rw [ht] at hP1
      try dsimp only at hw hP1 hD1
      obtain ⟨hP, hD⟩ := va_join (wr := []) (w1 := [(h1, .inr (10, [x2, x3, x4, x5, x6, x7, x8, x9, x10, x11, x12, x13, x14, x15, x16, .int 0, x17, .int 1]))]) hP hD [0] [] rfl rfl (by decide) (by decide) hk1 hFc hP1 hD1
      have hP : va_P D vwCl [(h1, .inr (10, [x2, x3, x4, x5, x6, x7, x8, x9, x10, x11, x12, x13, x14, x15, x16, .int 0, x17, .int 1]))] H := hP
      have hD : va_D A [(h1, .inr (10, [x2, x3, x4, x5, x6, x7, x8, x9, x10, x11, x12, x13, x14, x15, x16, .int 0, x17, .int 1]))] := hD
      obtain ⟨rfl, hw⟩ := hw
      refine lv_if_eq (tgt := 44) hx hb dX8_run_39 (by decide) (fun h => absurd h (by decide)) (fun _ => ?_)
      refine lv_iconst (v := 0) hx hb dX8_run_42 (by decide) ?_
      refine W.widen (k := 1) (n := 3) (Nat.le_of_ble_eq_true rfl) (Nat.le_of_ble_eq_true rfl) ?_
      have hP9 := hP.sub (ws' := [(h1, .inr (10, [x2, x3, x4, x5, x6, x7, x8, x9, x10, x11, x12, x13, x14, x15, x16, .int 0, x17, .int 1]))]) [0] rfl
      have hD9 := hD.sub (ws' := [(h1, .inr (10, [x2, x3, x4, x5, x6, x7, x8, x9, x10, x11, x12, x13, x14, x15, x16, .int 0, x17, .int 1]))]) [0] (by decide) rfl
      exact W.iret (v := 0) hx hb hr (fun t ht hW => ⟨⟨0, (1), rfl, Or.inr (⟨rfl, rfl, (by omega)⟩), ⟨by rw [ht]; exact hP9, hD9⟩⟩, hS.F ht⟩) hS.2.2 dX8_run_43
  · have f_8 : p0.toInt ≠ (114 : Int) := kx_ne c_1
    refine lv_iload_n hx hb dX8_run_7 rfl (lv_at hl 1 rfl) ?_
    refine lv_bipush (v := 103) hx hb dX8_run_8 (by decide) ?_
    refine lv_icmp_eq (tgt := 19) hx hb dX8_run_10 (by decide) (fun c_9 => ?_) (fun c_9 => ?_)
    · have f_10 : p0.toInt = (103 : Int) := kx_eq c_9
      refine lv_iload_n hx hb dX8_run_19 rfl (lv_at hl 2 rfl) ?_
      refine lv_iconst (v := 1) hx hb dX8_run_20 (by decide) ?_
      refine lv_sipush (v := 200) hx hb dX8_run_21 (by decide) ?_
      have hPc := hP.sub (ws' := []) [] rfl
      refine va_calli (va_runS (As := [.int p1, .int 1, .int 200]) (rest := [.ref h1]) ⟨hx, hb, hml, hown, hts⟩ (k_X8_isIn l D cy p1 1 200) (va_cwS 3 hts gX8_run_X8_isIn rfl rfl rfl (by decide +kernel) ⟨(Nat.le_of_ble_eq_true rfl), (Nat.le_of_ble_eq_true rfl)⟩) ⟨kR_fb, (kR_go hPc hK)⟩ rfl rfl hl.1 rfl (lv_room (Nat.le_of_ble_eq_true rfl)) dX8_run_24 ⟨(Nat.le_of_ble_eq_true rfl), (Nat.le_of_ble_eq_true rfl)⟩) hS (fun _ _ h => h.elim) (fun _ h => h.elim) (fun r9 u t H locs ht hvm hw hB hz1 hk1 hS => ?_)
      have hP := kx_kept hP hk1
      rcases hw with ⟨rfl, hw⟩ | ⟨rfl, hw⟩
      · have f_11 : ((1 : Int) ≤ p1.toInt ∧ p1.toInt ≤ (200 : Int)) := hw
        refine lv_if_ne (tgt := 34) hx hb dX8_run_27 (by decide) (fun _ => ?_) (fun h => absurd h (by decide))
        refine lv_iconst (v := 0) hx hb dX8_run_34 (by decide) ?_
        refine lv_iconst (v := 1) hx hb dX8_run_35 (by decide) ?_
        have hPc := hP.sub (ws' := [(h1, .inr (10, [x2, x3, x4, x5, x6, x7, x8, x9, x10, x11, x12, x13, x14, x15, x16, .int 0, x17, x18]))]) [0] rfl
        have hDc := hD.sub (ws' := [(h1, .inr (10, [x2, x3, x4, x5, x6, x7, x8, x9, x10, x11, x12, x13, x14, x15, x16, .int 0, x17, x18]))]) [0] (by decide) rfl
        have hFc := va_free (wc := [(h1, .inr (10, [x2, x3, x4, x5, x6, x7, x8, x9, x10, x11, x12, x13, x14, x15, x16, .int 0, x17, x18]))]) hD hS hA [0] rfl
        refine va_calli (va_runV (As := [.int 0, .int 1]) (rest := []) ⟨hx, hb, hml, hown, hts⟩ (k_X8_isThrown_1 l D cy h1 (x2) (x3) (x4) (x5) (x6) (x7) (x8) (x9) (x10) (x11) (x12) (x13) (x14) (x15) (x16) (.int 0) (x17) (x18) H.size) (cwV 2 hts gX8_run_X8_isThrown rfl rfl rfl (by decide +kernel) ⟨(Nat.le_of_ble_eq_true rfl), (Nat.le_of_ble_eq_true rfl)⟩) ⟨kW_fb, va_recv hK hP (ci := 10) (q0 := 0) rfl rfl, (kW_go hPc hK hDc)⟩ rfl rfl hl.1 rfl (lv_room (Nat.le_of_ble_eq_true rfl)) dX8_run_36 ⟨(Nat.le_of_ble_eq_true rfl), (Nat.le_of_ble_eq_true rfl)⟩) hS (fun q _ h => hFc q h) hFc (fun r9 u t H locs ht hvm hw hB hz1 hk1 hS => ?_)
        obtain ⟨hP1, hD1⟩ := hB
        rw [ht] at hP1
        try dsimp only at hw hP1 hD1
        obtain ⟨hP, hD⟩ := va_join (wr := []) (w1 := [(h1, .inr (10, [x2, x3, x4, x5, x6, x7, x8, x9, x10, x11, x12, x13, x14, x15, x16, .int 0, x17, .int 0]))]) hP hD [0] [] rfl rfl (by decide) (by decide) hk1 hFc hP1 hD1
        have hP : va_P D vwCl [(h1, .inr (10, [x2, x3, x4, x5, x6, x7, x8, x9, x10, x11, x12, x13, x14, x15, x16, .int 0, x17, .int 0]))] H := hP
        have hD : va_D A [(h1, .inr (10, [x2, x3, x4, x5, x6, x7, x8, x9, x10, x11, x12, x13, x14, x15, x16, .int 0, x17, .int 0]))] := hD
        obtain ⟨rfl, hw⟩ := hw
        refine lv_if_eq (tgt := 44) hx hb dX8_run_39 (by decide) (fun _ => ?_) (fun h => absurd (by decide) h)
        refine lv_iconst (v := 0) hx hb dX8_run_44 (by decide) ?_
        refine lv_istore_n (lv' := [(3, .int 0), (0, .ref h1), (1, .int p0), (2, .int p1)]) hx hb dX8_run_45 rfl hl (by decide) rfl (fun ls hl => ?_)
        refine lv_iconst (v := 0) hx hb dX8_run_46 (by decide) ?_
        refine lv_istore (lv' := [(4, .int 0), (3, .int 0), (0, .ref h1), (1, .int p0), (2, .int p1)]) hx hb dX8_run_47 hl (by decide) rfl (fun ls hl => ?_)
        refine lv_aload_n hx hb dX8_run_49 rfl (lv_at hl 2 rfl) ?_
        refine lv_iload_n hx hb dX8_run_50 rfl (lv_at hl 3 rfl) ?_
        refine lv_iload hx hb dX8_run_51 (lv_at hl 0 rfl) ?_
        have hPc := hP.sub (ws' := [(h1, .inr (10, [x2, x3, x4, x5, x6, x7, x8, x9, x10, x11, x12, x13, x14, x15, x16, .int 0, x17, .int 0]))]) [0] rfl
        have hDc := hD.sub (ws' := [(h1, .inr (10, [x2, x3, x4, x5, x6, x7, x8, x9, x10, x11, x12, x13, x14, x15, x16, .int 0, x17, .int 0]))]) [0] (by decide) rfl
        have hFc := va_free (wc := [(h1, .inr (10, [x2, x3, x4, x5, x6, x7, x8, x9, x10, x11, x12, x13, x14, x15, x16, .int 0, x17, .int 0]))]) hD hS hA [0] rfl
        refine va_calli (va_runV (As := [.int p0, .int 0]) (rest := []) ⟨hx, hb, hml, hown, hts⟩ (k_X8_next l hl9 D cy de h1 p0 (x2) (x3) (x4) (x5) (x6) (x7) (x8) (x9) (x10) (x11) (x12) (x13) (x14) (x15) (x16) (x17) (.int 0) H.size) (cwV 2 hts gX8_run_X8_next rfl rfl rfl (by decide +kernel) ⟨(Nat.le_of_ble_eq_true rfl), (Nat.le_of_ble_eq_true rfl)⟩) ⟨kWY_fb, va_recv hK hP (ci := 10) (q0 := 0) rfl rfl, (kWY_go hPc hK hDc hFc hE hY hS)⟩ rfl rfl hl.1 rfl (lv_room (Nat.le_of_ble_eq_true rfl)) dX8_run_53 ⟨(Nat.le_of_ble_eq_true rfl), (Nat.le_of_ble_eq_true rfl)⟩) hS (fun q _ h => hFc q h) hFc (fun r9 u t H locs ht hvm hw hB hz1 hk1 hS => ?_)
        obtain ⟨hP1, hD1⟩ := hB
        rw [ht] at hP1
        try dsimp only at hw hP1 hD1
        obtain ⟨hP, hD⟩ := va_join (wr := []) (w1 := [(h1, .inr (10, [x2, x3, x4, x5, x6, x7, x8, x9, x10, x11, x12, x13, x14, x15, x16, .int 0, x17, .int 0]))]) hP hD [0] [] rfl rfl (by decide) (by decide) hk1 hFc hP1 hD1
        have hP : va_P D vwCl [(h1, .inr (10, [x2, x3, x4, x5, x6, x7, x8, x9, x10, x11, x12, x13, x14, x15, x16, .int 0, x17, .int 0]))] H := hP
        have hD : va_D A [(h1, .inr (10, [x2, x3, x4, x5, x6, x7, x8, x9, x10, x11, x12, x13, x14, x15, x16, .int 0, x17, .int 0]))] := hD
        refine W.widen (k := 1) (n := 3) (Nat.le_of_ble_eq_true rfl) (Nat.le_of_ble_eq_true rfl) ?_
        obtain ⟨rfl, hw⟩ := hw
        refine lv_istore (lv' := [(5, .int (-1)), (4, .int 0), (3, .int 0), (0, .ref h1), (1, .int p0), (2, .int p1)]) hx hb dX8_run_56 hl (by decide) rfl (fun ls hl => ?_)
        refine lv_iload hx hb dX8_run_58 (lv_at hl 0 rfl) ?_
        refine lv_iconst (v := (-1)) hx hb dX8_run_60 (by decide) ?_
        refine lv_icmp_eq (tgt := 111) hx hb dX8_run_61 (by decide) (fun _ => ?_) (fun h => absurd (by decide) h)
        refine lv_iload_n hx hb dX8_run_111 rfl (lv_at hl 2 rfl) ?_
        refine W.widen (k := 1) (n := 3) (Nat.le_of_ble_eq_true rfl) (Nat.le_of_ble_eq_true rfl) ?_
        have hP9 := hP.sub (ws' := [(h1, .inr (10, [x2, x3, x4, x5, x6, x7, x8, x9, x10, x11, x12, x13, x14, x15, x16, .int 0, x17, .int 0]))]) [0] rfl
        have hD9 := hD.sub (ws' := [(h1, .inr (10, [x2, x3, x4, x5, x6, x7, x8, x9, x10, x11, x12, x13, x14, x15, x16, .int 0, x17, .int 0]))]) [0] (by decide) rfl
        exact W.iret (v := 0) hx hb hr (fun t ht hW => ⟨⟨0, (0), rfl, Or.inl (⟨rfl, rfl, (by omega)⟩), ⟨by rw [ht]; exact hP9, hD9⟩⟩, hS.F ht⟩) hS.2.2 dX8_run_112
      · have f_14 : ¬ (((1 : Int) ≤ p1.toInt ∧ p1.toInt ≤ (200 : Int))) := hw
        refine lv_if_ne (tgt := 34) hx hb dX8_run_27 (by decide) (fun h => absurd (by decide) h) (fun _ => ?_)
        refine lv_iconst (v := 1) hx hb dX8_run_30 (by decide) ?_
        refine lv_goto (tgt := 35) hx hb dX8_run_31 (by decide) ?_
        refine lv_iconst (v := 1) hx hb dX8_run_35 (by decide) ?_
        have hPc := hP.sub (ws' := [(h1, .inr (10, [x2, x3, x4, x5, x6, x7, x8, x9, x10, x11, x12, x13, x14, x15, x16, .int 0, x17, x18]))]) [0] rfl
        have hDc := hD.sub (ws' := [(h1, .inr (10, [x2, x3, x4, x5, x6, x7, x8, x9, x10, x11, x12, x13, x14, x15, x16, .int 0, x17, x18]))]) [0] (by decide) rfl
        have hFc := va_free (wc := [(h1, .inr (10, [x2, x3, x4, x5, x6, x7, x8, x9, x10, x11, x12, x13, x14, x15, x16, .int 0, x17, x18]))]) hD hS hA [0] rfl
        refine va_calli (va_runV (As := [.int 1, .int 1]) (rest := []) ⟨hx, hb, hml, hown, hts⟩ (k_X8_isThrown l D cy h1 (x2) (x3) (x4) (x5) (x6) (x7) (x8) (x9) (x10) (x11) (x12) (x13) (x14) (x15) (x16) (.int 0) (x17) (x18) H.size) (cwV 2 hts gX8_run_X8_isThrown rfl rfl rfl (by decide +kernel) ⟨(Nat.le_of_ble_eq_true rfl), (Nat.le_of_ble_eq_true rfl)⟩) ⟨kW_fb, va_recv hK hP (ci := 10) (q0 := 0) rfl rfl, (kW_go hPc hK hDc)⟩ rfl rfl hl.1 rfl (lv_room (Nat.le_of_ble_eq_true rfl)) dX8_run_36 ⟨(Nat.le_of_ble_eq_true rfl), (Nat.le_of_ble_eq_true rfl)⟩) hS (fun q _ h => hFc q h) hFc (fun r9 u t H locs ht hvm hw hB hz1 hk1 hS => ?_)
        obtain ⟨hP1, hD1⟩ := hB
        rw [ht] at hP1
        try dsimp only at hw hP1 hD1
        obtain ⟨hP, hD⟩ := va_join (wr := []) (w1 := [(h1, .inr (10, [x2, x3, x4, x5, x6, x7, x8, x9, x10, x11, x12, x13, x14, x15, x16, .int 0, x17, .int 1]))]) hP hD [0] [] rfl rfl (by decide) (by decide) hk1 hFc hP1 hD1
        have hP : va_P D vwCl [(h1, .inr (10, [x2, x3, x4, x5, x6, x7, x8, x9, x10, x11, x12, x13, x14, x15, x16, .int 0, x17, .int 1]))] H := hP
        have hD : va_D A [(h1, .inr (10, [x2, x3, x4, x5, x6, x7, x8, x9, x10, x11, x12, x13, x14, x15, x16, .int 0, x17, .int 1]))] := hD
        obtain ⟨rfl, hw⟩ := hw
        refine lv_if_eq (tgt := 44) hx hb dX8_run_39 (by decide) (fun h => absurd h (by decide)) (fun _ => ?_)
        refine lv_iconst (v := 0) hx hb dX8_run_42 (by decide) ?_
        refine W.widen (k := 1) (n := 3) (Nat.le_of_ble_eq_true rfl) (Nat.le_of_ble_eq_true rfl) ?_
        have hP9 := hP.sub (ws' := [(h1, .inr (10, [x2, x3, x4, x5, x6, x7, x8, x9, x10, x11, x12, x13, x14, x15, x16, .int 0, x17, .int 1]))]) [0] rfl
        have hD9 := hD.sub (ws' := [(h1, .inr (10, [x2, x3, x4, x5, x6, x7, x8, x9, x10, x11, x12, x13, x14, x15, x16, .int 0, x17, .int 1]))]) [0] (by decide) rfl
        exact W.iret (v := 0) hx hb hr (fun t ht hW => ⟨⟨0, (1), rfl, Or.inr (⟨rfl, rfl, (by omega)⟩), ⟨by rw [ht]; exact hP9, hD9⟩⟩, hS.F ht⟩) hS.2.2 dX8_run_43
    · have f_16 : p0.toInt ≠ (103 : Int) := kx_ne c_9
      refine lv_iload_n hx hb dX8_run_13 rfl (lv_at hl 1 rfl) ?_
      refine lv_bipush (v := 122) hx hb dX8_run_14 (by decide) ?_
      refine lv_icmp_ne (tgt := 30) hx hb dX8_run_16 (by decide) (fun c_17 => ?_) (fun c_17 => ?_)
      · have f_18 : p0.toInt ≠ (122 : Int) := kx_ne c_17
        refine lv_iconst (v := 1) hx hb dX8_run_30 (by decide) ?_
        refine lv_goto (tgt := 35) hx hb dX8_run_31 (by decide) ?_
        refine lv_iconst (v := 1) hx hb dX8_run_35 (by decide) ?_
        have hPc := hP.sub (ws' := [(h1, .inr (10, [x2, x3, x4, x5, x6, x7, x8, x9, x10, x11, x12, x13, x14, x15, x16, .int 0, x17, x18]))]) [0] rfl
        have hDc := hD.sub (ws' := [(h1, .inr (10, [x2, x3, x4, x5, x6, x7, x8, x9, x10, x11, x12, x13, x14, x15, x16, .int 0, x17, x18]))]) [0] (by decide) rfl
        have hFc := va_free (wc := [(h1, .inr (10, [x2, x3, x4, x5, x6, x7, x8, x9, x10, x11, x12, x13, x14, x15, x16, .int 0, x17, x18]))]) hD hS hA [0] rfl
        refine va_calli (va_runV (As := [.int 1, .int 1]) (rest := []) ⟨hx, hb, hml, hown, hts⟩ (k_X8_isThrown l D cy h1 (x2) (x3) (x4) (x5) (x6) (x7) (x8) (x9) (x10) (x11) (x12) (x13) (x14) (x15) (x16) (.int 0) (x17) (x18) s.heap.size) (cwV 2 hts gX8_run_X8_isThrown rfl rfl rfl (by decide +kernel) ⟨(Nat.le_of_ble_eq_true rfl), (Nat.le_of_ble_eq_true rfl)⟩) ⟨kW_fb, va_recv hK hP (ci := 10) (q0 := 0) rfl rfl, (kW_go hPc hK hDc)⟩ rfl rfl hl.1 rfl (lv_room (Nat.le_of_ble_eq_true rfl)) dX8_run_36 ⟨(Nat.le_of_ble_eq_true rfl), (Nat.le_of_ble_eq_true rfl)⟩) hS (fun q _ h => hFc q h) hFc (fun r9 u t H locs ht hvm hw hB hz1 hk1 hS => ?_)
        obtain ⟨hP1, hD1⟩ := hB
        rw [ht] at hP1
        try dsimp only at hw hP1 hD1
        obtain ⟨hP, hD⟩ := va_join (wr := []) (w1 := [(h1, .inr (10, [x2, x3, x4, x5, x6, x7, x8, x9, x10, x11, x12, x13, x14, x15, x16, .int 0, x17, .int 1]))]) hP hD [0] [] rfl rfl (by decide) (by decide) hk1 hFc hP1 hD1
        have hP : va_P D vwCl [(h1, .inr (10, [x2, x3, x4, x5, x6, x7, x8, x9, x10, x11, x12, x13, x14, x15, x16, .int 0, x17, .int 1]))] H := hP
        have hD : va_D A [(h1, .inr (10, [x2, x3, x4, x5, x6, x7, x8, x9, x10, x11, x12, x13, x14, x15, x16, .int 0, x17, .int 1]))] := hD
        obtain ⟨rfl, hw⟩ := hw
        refine lv_if_eq (tgt := 44) hx hb dX8_run_39 (by decide) (fun h => absurd h (by decide)) (fun _ => ?_)
        refine lv_iconst (v := 0) hx hb dX8_run_42 (by decide) ?_
        refine W.widen (k := 1) (n := 3) (Nat.le_of_ble_eq_true rfl) (Nat.le_of_ble_eq_true rfl) ?_
        have hP9 := hP.sub (ws' := [(h1, .inr (10, [x2, x3, x4, x5, x6, x7, x8, x9, x10, x11, x12, x13, x14, x15, x16, .int 0, x17, .int 1]))]) [0] rfl
        have hD9 := hD.sub (ws' := [(h1, .inr (10, [x2, x3, x4, x5, x6, x7, x8, x9, x10, x11, x12, x13, x14, x15, x16, .int 0, x17, .int 1]))]) [0] (by decide) rfl
        exact W.iret (v := 0) hx hb hr (fun t ht hW => ⟨⟨0, (1), rfl, Or.inr (⟨rfl, rfl, (by omega)⟩), ⟨by rw [ht]; exact hP9, hD9⟩⟩, hS.F ht⟩) hS.2.2 dX8_run_43
      · have f_20 : p0.toInt = (122 : Int) := kx_eq c_17
        refine lv_iload_n hx hb dX8_run_19 rfl (lv_at hl 2 rfl) ?_
        refine lv_iconst (v := 1) hx hb dX8_run_20 (by decide) ?_
        refine lv_sipush (v := 200) hx hb dX8_run_21 (by decide) ?_
        have hPc := hP.sub (ws' := []) [] rfl
        refine va_calli (va_runS (As := [.int p1, .int 1, .int 200]) (rest := [.ref h1]) ⟨hx, hb, hml, hown, hts⟩ (k_X8_isIn l D cy p1 1 200) (va_cwS 3 hts gX8_run_X8_isIn rfl rfl rfl (by decide +kernel) ⟨(Nat.le_of_ble_eq_true rfl), (Nat.le_of_ble_eq_true rfl)⟩) ⟨kR_fb, (kR_go hPc hK)⟩ rfl rfl hl.1 rfl (lv_room (Nat.le_of_ble_eq_true rfl)) dX8_run_24 ⟨(Nat.le_of_ble_eq_true rfl), (Nat.le_of_ble_eq_true rfl)⟩) hS (fun _ _ h => h.elim) (fun _ h => h.elim) (fun r9 u t H locs ht hvm hw hB hz1 hk1 hS => ?_)
        have hP := kx_kept hP hk1
        rcases hw with ⟨rfl, hw⟩ | ⟨rfl, hw⟩
        · have f_21 : ((1 : Int) ≤ p1.toInt ∧ p1.toInt ≤ (200 : Int)) := hw
          refine lv_if_ne (tgt := 34) hx hb dX8_run_27 (by decide) (fun _ => ?_) (fun h => absurd h (by decide))
          refine lv_iconst (v := 0) hx hb dX8_run_34 (by decide) ?_
          refine lv_iconst (v := 1) hx hb dX8_run_35 (by decide) ?_
          have hPc := hP.sub (ws' := [(h1, .inr (10, [x2, x3, x4, x5, x6, x7, x8, x9, x10, x11, x12, x13, x14, x15, x16, .int 0, x17, x18]))]) [0] rfl
          have hDc := hD.sub (ws' := [(h1, .inr (10, [x2, x3, x4, x5, x6, x7, x8, x9, x10, x11, x12, x13, x14, x15, x16, .int 0, x17, x18]))]) [0] (by decide) rfl
          have hFc := va_free (wc := [(h1, .inr (10, [x2, x3, x4, x5, x6, x7, x8, x9, x10, x11, x12, x13, x14, x15, x16, .int 0, x17, x18]))]) hD hS hA [0] rfl
          refine va_calli (va_runV (As := [.int 0, .int 1]) (rest := []) ⟨hx, hb, hml, hown, hts⟩ (k_X8_isThrown_1 l D cy h1 (x2) (x3) (x4) (x5) (x6) (x7) (x8) (x9) (x10) (x11) (x12) (x13) (x14) (x15) (x16) (.int 0) (x17) (x18) H.size) (cwV 2 hts gX8_run_X8_isThrown rfl rfl rfl (by decide +kernel) ⟨(Nat.le_of_ble_eq_true rfl), (Nat.le_of_ble_eq_true rfl)⟩) ⟨kW_fb, va_recv hK hP (ci := 10) (q0 := 0) rfl rfl, (kW_go hPc hK hDc)⟩ rfl rfl hl.1 rfl (lv_room (Nat.le_of_ble_eq_true rfl)) dX8_run_36 ⟨(Nat.le_of_ble_eq_true rfl), (Nat.le_of_ble_eq_true rfl)⟩) hS (fun q _ h => hFc q h) hFc (fun r9 u t H locs ht hvm hw hB hz1 hk1 hS => ?_)
          obtain ⟨hP1, hD1⟩ := hB
          rw [ht] at hP1
          try dsimp only at hw hP1 hD1
          obtain ⟨hP, hD⟩ := va_join (wr := []) (w1 := [(h1, .inr (10, [x2, x3, x4, x5, x6, x7, x8, x9, x10, x11, x12, x13, x14, x15, x16, .int 0, x17, .int 0]))]) hP hD [0] [] rfl rfl (by decide) (by decide) hk1 hFc hP1 hD1
          have hP : va_P D vwCl [(h1, .inr (10, [x2, x3, x4, x5, x6, x7, x8, x9, x10, x11, x12, x13, x14, x15, x16, .int 0, x17, .int 0]))] H := hP
          have hD : va_D A [(h1, .inr (10, [x2, x3, x4, x5, x6, x7, x8, x9, x10, x11, x12, x13, x14, x15, x16, .int 0, x17, .int 0]))] := hD
          obtain ⟨rfl, hw⟩ := hw
          refine lv_if_eq (tgt := 44) hx hb dX8_run_39 (by decide) (fun _ => ?_) (fun h => absurd (by decide) h)
          refine lv_iconst (v := 0) hx hb dX8_run_44 (by decide) ?_
          refine lv_istore_n (lv' := [(3, .int 0), (0, .ref h1), (1, .int p0), (2, .int p1)]) hx hb dX8_run_45 rfl hl (by decide) rfl (fun ls hl => ?_)
          refine lv_iconst (v := 0) hx hb dX8_run_46 (by decide) ?_
          refine lv_istore (lv' := [(4, .int 0), (3, .int 0), (0, .ref h1), (1, .int p0), (2, .int p1)]) hx hb dX8_run_47 hl (by decide) rfl (fun ls hl => ?_)
          refine lv_aload_n hx hb dX8_run_49 rfl (lv_at hl 2 rfl) ?_
          refine lv_iload_n hx hb dX8_run_50 rfl (lv_at hl 3 rfl) ?_
          refine lv_iload hx hb dX8_run_51 (lv_at hl 0 rfl) ?_
          have hPc := hP.sub (ws' := [(h1, .inr (10, [x2, x3, x4, x5, x6, x7, x8, x9, x10, x11, x12, x13, x14, x15, x16, .int 0, x17, .int 0]))]) [0] rfl
          have hDc := hD.sub (ws' := [(h1, .inr (10, [x2, x3, x4, x5, x6, x7, x8, x9, x10, x11, x12, x13, x14, x15, x16, .int 0, x17, .int 0]))]) [0] (by decide) rfl
          have hFc := va_free (wc := [(h1, .inr (10, [x2, x3, x4, x5, x6, x7, x8, x9, x10, x11, x12, x13, x14, x15, x16, .int 0, x17, .int 0]))]) hD hS hA [0] rfl
          refine va_calli (va_runV (As := [.int p0, .int 0]) (rest := []) ⟨hx, hb, hml, hown, hts⟩ (k_X8_next l hl9 D cy de h1 p0 (x2) (x3) (x4) (x5) (x6) (x7) (x8) (x9) (x10) (x11) (x12) (x13) (x14) (x15) (x16) (x17) (.int 0) H.size) (cwV 2 hts gX8_run_X8_next rfl rfl rfl (by decide +kernel) ⟨(Nat.le_of_ble_eq_true rfl), (Nat.le_of_ble_eq_true rfl)⟩) ⟨kWY_fb, va_recv hK hP (ci := 10) (q0 := 0) rfl rfl, (kWY_go hPc hK hDc hFc hE hY hS)⟩ rfl rfl hl.1 rfl (lv_room (Nat.le_of_ble_eq_true rfl)) dX8_run_53 ⟨(Nat.le_of_ble_eq_true rfl), (Nat.le_of_ble_eq_true rfl)⟩) hS (fun q _ h => hFc q h) hFc (fun r9 u t H locs ht hvm hw hB hz1 hk1 hS => ?_)
          obtain ⟨hP1, hD1⟩ := hB
          rw [ht] at hP1
          try dsimp only at hw hP1 hD1
          obtain ⟨hP, hD⟩ := va_join (wr := []) (w1 := [(h1, .inr (10, [x2, x3, x4, x5, x6, x7, x8, x9, x10, x11, x12, x13, x14, x15, x16, .int 0, x17, .int 0]))]) hP hD [0] [] rfl rfl (by decide) (by decide) hk1 hFc hP1 hD1
          have hP : va_P D vwCl [(h1, .inr (10, [x2, x3, x4, x5, x6, x7, x8, x9, x10, x11, x12, x13, x14, x15, x16, .int 0, x17, .int 0]))] H := hP
          have hD : va_D A [(h1, .inr (10, [x2, x3, x4, x5, x6, x7, x8, x9, x10, x11, x12, x13, x14, x15, x16, .int 0, x17, .int 0]))] := hD
          refine W.widen (k := 1) (n := 3) (Nat.le_of_ble_eq_true rfl) (Nat.le_of_ble_eq_true rfl) ?_
          obtain ⟨rfl, hw⟩ := hw
          refine lv_istore (lv' := [(5, .int (-1)), (4, .int 0), (3, .int 0), (0, .ref h1), (1, .int p0), (2, .int p1)]) hx hb dX8_run_56 hl (by decide) rfl (fun ls hl => ?_)
          refine lv_iload hx hb dX8_run_58 (lv_at hl 0 rfl) ?_
          refine lv_iconst (v := (-1)) hx hb dX8_run_60 (by decide) ?_
          refine lv_icmp_eq (tgt := 111) hx hb dX8_run_61 (by decide) (fun _ => ?_) (fun h => absurd (by decide) h)
          refine lv_iload_n hx hb dX8_run_111 rfl (lv_at hl 2 rfl) ?_
          refine W.widen (k := 1) (n := 3) (Nat.le_of_ble_eq_true rfl) (Nat.le_of_ble_eq_true rfl) ?_
          have hP9 := hP.sub (ws' := [(h1, .inr (10, [x2, x3, x4, x5, x6, x7, x8, x9, x10, x11, x12, x13, x14, x15, x16, .int 0, x17, .int 0]))]) [0] rfl
          have hD9 := hD.sub (ws' := [(h1, .inr (10, [x2, x3, x4, x5, x6, x7, x8, x9, x10, x11, x12, x13, x14, x15, x16, .int 0, x17, .int 0]))]) [0] (by decide) rfl
          exact W.iret (v := 0) hx hb hr (fun t ht hW => ⟨⟨0, (0), rfl, Or.inl (⟨rfl, rfl, (by omega)⟩), ⟨by rw [ht]; exact hP9, hD9⟩⟩, hS.F ht⟩) hS.2.2 dX8_run_112
        · have f_24 : ¬ (((1 : Int) ≤ p1.toInt ∧ p1.toInt ≤ (200 : Int))) := hw
          refine lv_if_ne (tgt := 34) hx hb dX8_run_27 (by decide) (fun h => absurd (by decide) h) (fun _ => ?_)
          refine lv_iconst (v := 1) hx hb dX8_run_30 (by decide) ?_
          refine lv_goto (tgt := 35) hx hb dX8_run_31 (by decide) ?_
          refine lv_iconst (v := 1) hx hb dX8_run_35 (by decide) ?_
          have hPc := hP.sub (ws' := [(h1, .inr (10, [x2, x3, x4, x5, x6, x7, x8, x9, x10, x11, x12, x13, x14, x15, x16, .int 0, x17, x18]))]) [0] rfl
          have hDc := hD.sub (ws' := [(h1, .inr (10, [x2, x3, x4, x5, x6, x7, x8, x9, x10, x11, x12, x13, x14, x15, x16, .int 0, x17, x18]))]) [0] (by decide) rfl
          have hFc := va_free (wc := [(h1, .inr (10, [x2, x3, x4, x5, x6, x7, x8, x9, x10, x11, x12, x13, x14, x15, x16, .int 0, x17, x18]))]) hD hS hA [0] rfl
          refine va_calli (va_runV (As := [.int 1, .int 1]) (rest := []) ⟨hx, hb, hml, hown, hts⟩ (k_X8_isThrown l D cy h1 (x2) (x3) (x4) (x5) (x6) (x7) (x8) (x9) (x10) (x11) (x12) (x13) (x14) (x15) (x16) (.int 0) (x17) (x18) H.size) (cwV 2 hts gX8_run_X8_isThrown rfl rfl rfl (by decide +kernel) ⟨(Nat.le_of_ble_eq_true rfl), (Nat.le_of_ble_eq_true rfl)⟩) ⟨kW_fb, va_recv hK hP (ci := 10) (q0 := 0) rfl rfl, (kW_go hPc hK hDc)⟩ rfl rfl hl.1 rfl (lv_room (Nat.le_of_ble_eq_true rfl)) dX8_run_36 ⟨(Nat.le_of_ble_eq_true rfl), (Nat.le_of_ble_eq_true rfl)⟩) hS (fun q _ h => hFc q h) hFc (fun r9 u t H locs ht hvm hw hB hz1 hk1 hS => ?_)
          obtain ⟨hP1, hD1⟩ := hB
          rw [ht] at hP1
          try dsimp only at hw hP1 hD1
          obtain ⟨hP, hD⟩ := va_join (wr := []) (w1 := [(h1, .inr (10, [x2, x3, x4, x5, x6, x7, x8, x9, x10, x11, x12, x13, x14, x15, x16, .int 0, x17, .int 1]))]) hP hD [0] [] rfl rfl (by decide) (by decide) hk1 hFc hP1 hD1
          have hP : va_P D vwCl [(h1, .inr (10, [x2, x3, x4, x5, x6, x7, x8, x9, x10, x11, x12, x13, x14, x15, x16, .int 0, x17, .int 1]))] H := hP
          have hD : va_D A [(h1, .inr (10, [x2, x3, x4, x5, x6, x7, x8, x9, x10, x11, x12, x13, x14, x15, x16, .int 0, x17, .int 1]))] := hD
          obtain ⟨rfl, hw⟩ := hw
          refine lv_if_eq (tgt := 44) hx hb dX8_run_39 (by decide) (fun h => absurd h (by decide)) (fun _ => ?_)
          refine lv_iconst (v := 0) hx hb dX8_run_42 (by decide) ?_
          refine W.widen (k := 1) (n := 3) (Nat.le_of_ble_eq_true rfl) (Nat.le_of_ble_eq_true rfl) ?_
          have hP9 := hP.sub (ws' := [(h1, .inr (10, [x2, x3, x4, x5, x6, x7, x8, x9, x10, x11, x12, x13, x14, x15, x16, .int 0, x17, .int 1]))]) [0] rfl
          have hD9 := hD.sub (ws' := [(h1, .inr (10, [x2, x3, x4, x5, x6, x7, x8, x9, x10, x11, x12, x13, x14, x15, x16, .int 0, x17, .int 1]))]) [0] (by decide) rfl
          exact W.iret (v := 0) hx hb hr (fun t ht hW => ⟨⟨0, (1), rfl, Or.inr (⟨rfl, rfl, (by omega)⟩), ⟨by rw [ht]; exact hP9, hD9⟩⟩, hS.F ht⟩) hS.2.2 dX8_run_43
