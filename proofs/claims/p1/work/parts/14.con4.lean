theorem dX0_totalOf_0 : decode cX0_totalOf 0 = .ok (.iconst 0, 1) := by decide +kernel
theorem dX0_totalOf_1 : decode cX0_totalOf 1 = .ok (.istore_n 2, 1) := by decide +kernel
theorem dX0_totalOf_2 : decode cX0_totalOf 2 = .ok (.iconst 0, 1) := by decide +kernel
theorem dX0_totalOf_3 : decode cX0_totalOf 3 = .ok (.istore_n 3, 1) := by decide +kernel
theorem dX0_totalOf_4 : decode cX0_totalOf 4 = .ok (.iload_n 3, 1) := by decide +kernel
theorem dX0_totalOf_5 : decode cX0_totalOf 5 = .ok (.aload_n 0, 1) := by decide +kernel
theorem dX0_totalOf_6 : decode cX0_totalOf 6 = .ok (.getfield 42, 3) := by decide +kernel
theorem dX0_totalOf_9 : decode cX0_totalOf 9 = .ok (.if_icmp .ge 84, 3) := by decide +kernel
theorem dX0_totalOf_93 : decode cX0_totalOf 93 = .ok (.iload_n 2, 1) := by decide +kernel
theorem dX0_totalOf_94 : decode cX0_totalOf 94 = .ok (.ireturn, 1) := by decide +kernel
set_option maxHeartbeats 4000000 in
set_option maxRecDepth 100000 in
theorem k_X0_totalOf (l : Launch) (D : va_G) (cy : Nat → ClassId) (h1 : Nat) (h2 : Nat) (x3 : Value) (x4 : Value) (x5 : Value) : Met l yX0_totalOf wsX0_totalOf ({ frames := 0, cells := 0, slots := 0, locals := 0 }) (kR D cy [.ref h1, .ref h2] [(h1, .inr (2, [x3, x4, x5, .int 0]))]) (va_Qi (fun (r : Int32) (_ : Unit) => r = 0 ∧ True) (fun (_ : Unit) (_ : State) => True) (fun _ : Nat => False)) 0 0 (fun _ : Nat => False) := by
  refine Met.ofW (cc := cX0_totalOf) (maxL := 6) (ret := (some .int)) (by decide) rfl ?_
  intro p e s m args below meth c s₁ B hml hv
  obtain ⟨rfl, hP, hK⟩ := hv
  have hx := B.exec
  have hb := B.bytes
  have hr := B.returns
  have hts := atoms_spec (ws := wsX0_totalOf) B.pre
  have hown : s.vm.findClass RX0 = some m.cls := findClass_of_methodNamed B.named
  have hlocks := B.notSynchronized
  have hS : va_S (fun _ : Nat => False) s.heap s.heap [] := va_S.rf
  have hP : va_P D vwCl [(h1, .inr (2, [x3, x4, x5, .int 0]))] s.heap := hP
  have hl := lv_entry ([.ref h1, .ref h2]) (n := 6) (Nat.le_of_ble_eq_true rfl)
  rw [lg_entry_eq]
  generalize (lg_sl ([.ref h1, .ref h2]) ++ List.replicate (6 - (lg_sl ([.ref h1, .ref h2])).length) Slot.unset).toArray = ls at hl ⊢
  have hl : lv_has ls 6 [(0, .ref h1), (1, .ref h2)] := hl
  refine lv_iconst (v := 0) hx hb dX0_totalOf_0 (by decide) ?_
  refine lv_istore_n (lv' := [(2, .int 0), (0, .ref h1), (1, .ref h2)]) hx hb dX0_totalOf_1 rfl hl (by decide) rfl (fun ls hl => ?_)
  refine lv_iconst (v := 0) hx hb dX0_totalOf_2 (by decide) ?_
  refine lv_istore_n (lv' := [(3, .int 0), (2, .int 0), (0, .ref h1), (1, .ref h2)]) hx hb dX0_totalOf_3 rfl hl (by decide) rfl (fun ls hl => ?_)
  refine lv_iload_n hx hb dX0_totalOf_4 rfl (lv_at hl 0 rfl) ?_
  refine lv_aload_n hx hb dX0_totalOf_5 rfl (lv_at hl 2 rfl) ?_
  refine va_get (D := D) (ci := 2) (v := .int 0) (C := RX0) (T := TX0) (N := 4) hx hb hts (fun _ h => (List.mem_cons_of_mem _ (List.mem_append_left _ (List.mem_append_left _ (List.mem_append_left _ (List.mem_append_left _ (List.mem_append_right _ h))))))) hown hK hP 0 rfl rfl 3 (by decide) (hts (.fieldLink RX0 42 "SelfishJunction$Board" "playerCount" "I") (List.mem_cons_of_mem _ (List.mem_append_left _ (List.mem_append_left _ (List.mem_append_left _ (List.mem_append_left _ (List.mem_append_left _ (List.mem_of_getElem? (i := 0) rfl)))))))) (fun _ h9 => h9) rfl dX0_totalOf_6 ?_
  refine lv_icmp_ge (tgt := 93) hx hb dX0_totalOf_9 (by decide) (fun _ => ?_) (fun h => absurd (by decide) h)
  refine lv_iload_n hx hb dX0_totalOf_93 rfl (lv_at hl 1 rfl) ?_
  refine W.widen (k := 0) (n := 0) (Nat.le_of_ble_eq_true rfl) (Nat.le_of_ble_eq_true rfl) ?_
  exact W.iret (v := 0) hx hb hr (fun t ht hW => ⟨⟨0, (), rfl, ⟨rfl, trivial⟩, trivial⟩, hS.F ht⟩) hS.2.2 dX0_totalOf_94
theorem dX7_getTotal_0 : decode cX7_getTotal 0 = .ok (.aload_n 0, 1) := by decide +kernel
theorem dX7_getTotal_1 : decode cX7_getTotal 1 = .ok (.getfield 10, 3) := by decide +kernel
theorem dX7_getTotal_4 : decode cX7_getTotal 4 = .ok (.aload_n 0, 1) := by decide +kernel
theorem dX7_getTotal_5 : decode cX7_getTotal 5 = .ok (.getfield 19, 3) := by decide +kernel
theorem dX7_getTotal_8 : decode cX7_getTotal 8 = .ok (.invokevirtual 188, 3) := by decide +kernel
set_option maxRecDepth 20000 in
theorem ggX7_getTotal_X0_totalOf : GoodIn wsX7_getTotal wsX0_totalOf := goodIn_ca (goodIn_r _ [7, 8, 9, 10, 11, 12, 13, 14, 15, 16, 17, 18, 19, 20, 21, 22, 23, 24, 25, 26, 27, 28, 29, 30, 38, 39, 40, 41, 42, 43, 44, 45, 46, 47, 48, 49, 50, 51, 52, 53, 54, 55, 56, 57] (by decide +kernel) (by decide +kernel)) (goodIn_sub (fun _ h => List.mem_cons_of_mem _ (List.mem_append_right _ h)) (by decide +kernel))
set_option maxRecDepth 20000 in
theorem gX7_getTotal_X0_totalOf : GoodIn wsX7_getTotal (wsV RX7 188 RX0 yX0_totalOf wsX0_totalOf) := goodIn_app (goodIn_of _ (by decide +kernel)) ggX7_getTotal_X0_totalOf
theorem dX7_getTotal_11 : decode cX7_getTotal 11 = .ok (.ireturn, 1) := by decide +kernel
set_option maxHeartbeats 4000000 in
set_option maxRecDepth 100000 in
theorem k_X7_getTotal (l : Launch) (D : va_G) (cy : Nat → ClassId) (h1 : Nat) (h2 : Nat) (h3 : Nat) (x4 : Value) (x5 : Value) (x6 : Value) (x7 : Value) (x8 : Value) (x9 : Value) (x10 : Value) (x11 : Value) : Met l yX7_getTotal wsX7_getTotal ({ frames := 1, cells := 0, slots := 0, locals := 25 }) (kR D cy [.ref h1] [(h1, .inr (9, [.ref h2, .ref h3, x4, x5, x6, x7, x8])), (h2, .inr (2, [x9, x10, x11, .int 0]))]) (va_Qi (fun (r : Int32) (_ : Unit) => r = 0 ∧ True) (fun (_ : Unit) (_ : State) => True) (fun _ : Nat => False)) 0 0 (fun _ : Nat => False) := by
  refine Met.ofW (cc := cX7_getTotal) (maxL := 1) (ret := (some .int)) (by decide) rfl ?_
  intro p e s m args below meth c s₁ B hml hv
  obtain ⟨rfl, hP, hK⟩ := hv
  have hx := B.exec
  have hb := B.bytes
  have hr := B.returns
  have hts := atoms_spec (ws := wsX7_getTotal) B.pre
  have hown : s.vm.findClass RX7 = some m.cls := findClass_of_methodNamed B.named
  have hlocks := B.notSynchronized
  have hS : va_S (fun _ : Nat => False) s.heap s.heap [] := va_S.rf
  have hP : va_P D vwCl [(h1, .inr (9, [.ref h2, .ref h3, x4, x5, x6, x7, x8])), (h2, .inr (2, [x9, x10, x11, .int 0]))] s.heap := hP
  have hl := lv_entry ([.ref h1]) (n := 1) (Nat.le_of_ble_eq_true rfl)
  rw [lg_entry_eq]
  generalize (lg_sl ([.ref h1]) ++ List.replicate (1 - (lg_sl ([.ref h1])).length) Slot.unset).toArray = ls at hl ⊢
  have hl : lv_has ls 1 [(0, .ref h1)] := hl
  refine lv_aload_n hx hb dX7_getTotal_0 rfl (lv_at hl 0 rfl) ?_
  refine va_get (D := D) (ci := 9) (v := .ref h2) (C := RX7) (T := TX7) (N := 7) hx hb hts (fun _ h => (List.mem_cons_of_mem _ (List.mem_append_left _ (List.mem_append_left _ (List.mem_append_left _ (List.mem_append_left _ (List.mem_append_left _ (List.mem_append_right _ h)))))))) hown hK hP 0 rfl rfl 0 (by decide) (hts (.fieldLink RX7 10 "SelfishJunction" "board" "LSelfishJunction$Board;") (List.mem_cons_of_mem _ (List.mem_append_left _ (List.mem_append_left _ (List.mem_append_left _ (List.mem_append_left _ (List.mem_append_left _ (List.mem_append_left _ (List.mem_append_left _ (List.mem_of_getElem? (i := 0) rfl)))))))))) (fun _ h9 => h9) rfl dX7_getTotal_1 ?_
  refine lv_aload_n hx hb dX7_getTotal_4 rfl (lv_at hl 0 rfl) ?_
  refine va_get (D := D) (ci := 9) (v := .ref h3) (C := RX7) (T := TX7) (N := 7) hx hb hts (fun _ h => (List.mem_cons_of_mem _ (List.mem_append_left _ (List.mem_append_left _ (List.mem_append_left _ (List.mem_append_left _ (List.mem_append_left _ (List.mem_append_right _ h)))))))) hown hK hP 0 rfl rfl 1 (by decide) (hts (.fieldLink RX7 19 "SelfishJunction" "now" "LSelfishJunction$Play;") (List.mem_cons_of_mem _ (List.mem_append_left _ (List.mem_append_left _ (List.mem_append_left _ (List.mem_append_left _ (List.mem_append_left _ (List.mem_append_left _ (List.mem_append_left _ (List.mem_of_getElem? (i := 1) rfl)))))))))) (fun _ h9 => h9) rfl dX7_getTotal_5 ?_
  have hPc := hP.sub (ws' := [(h2, .inr (2, [x9, x10, x11, .int 0]))]) [1] rfl
  refine va_calli (va_runV (As := [.ref h3]) (rest := []) ⟨hx, hb, hml, hown, hts⟩ (k_X0_totalOf l D cy h2 h3 (x9) (x10) (x11)) (cwV 1 hts gX7_getTotal_X0_totalOf rfl rfl rfl (by decide +kernel) ⟨(Nat.le_of_ble_eq_true rfl), (Nat.le_of_ble_eq_true rfl)⟩) ⟨kR_fb, va_recv hK hP (ci := 2) (q0 := 1) rfl rfl, (kR_go hPc hK)⟩ rfl rfl hl.1 rfl (lv_room (Nat.le_of_ble_eq_true rfl)) dX7_getTotal_8 ⟨(Nat.le_of_ble_eq_true rfl), (Nat.le_of_ble_eq_true rfl)⟩) hS (fun _ _ h => h.elim) (fun _ h => h.elim) (fun r9 u t H locs ht hvm hw hB hz1 hk1 hS => ?_)
  have hP := kx_kept hP hk1
  obtain ⟨rfl, hw⟩ := hw
  refine W.widen (k := 0) (n := 0) (Nat.le_of_ble_eq_true rfl) (Nat.le_of_ble_eq_true rfl) ?_
  exact W.iret (v := 0) hx hb hr (fun t ht hW => ⟨⟨0, (), rfl, ⟨rfl, trivial⟩, trivial⟩, hS.F ht⟩) hS.2.2 dX7_getTotal_11
theorem dX8_total_0 : decode cX8_total 0 = .ok (.iconst 0, 1) := by decide +kernel
theorem dX8_total_1 : decode cX8_total 1 = .ok (.istore_n 2, 1) := by decide +kernel
theorem dX8_total_2 : decode cX8_total 2 = .ok (.iconst 0, 1) := by decide +kernel
theorem dX8_total_3 : decode cX8_total 3 = .ok (.istore_n 3, 1) := by decide +kernel
theorem dX8_total_4 : decode cX8_total 4 = .ok (.iload_n 3, 1) := by decide +kernel
theorem dX8_total_5 : decode cX8_total 5 = .ok (.aload_n 0, 1) := by decide +kernel
theorem dX8_total_6 : decode cX8_total 6 = .ok (.getfield 85, 3) := by decide +kernel
theorem dX8_total_9 : decode cX8_total 9 = .ok (.if_icmp .ge 80, 3) := by decide +kernel
theorem dX8_total_89 : decode cX8_total 89 = .ok (.iload_n 2, 1) := by decide +kernel
theorem dX8_total_90 : decode cX8_total 90 = .ok (.ireturn, 1) := by decide +kernel
set_option maxHeartbeats 4000000 in
set_option maxRecDepth 100000 in
theorem k_X8_total (l : Launch) (D : va_G) (cy : Nat → ClassId) (h1 : Nat) (h2 : Nat) (x3 : Value) (x4 : Value) (x5 : Value) (x6 : Value) (x7 : Value) (x8 : Value) (x9 : Value) (x10 : Value) (x11 : Value) (x12 : Value) (x13 : Value) (x14 : Value) (x15 : Value) (x16 : Value) (x17 : Value) (x18 : Value) (x19 : Value) : Met l yX8_total wsX8_total ({ frames := 0, cells := 0, slots := 0, locals := 0 }) (kR D cy [.ref h1, .ref h2] [(h1, .inr (10, [x3, x4, x5, x6, x7, x8, x9, x10, x11, x12, x13, x14, x15, x16, x17, .int 0, x18, x19]))]) (va_Qi (fun (r : Int32) (_ : Unit) => r = 0 ∧ True) (fun (_ : Unit) (_ : State) => True) (fun _ : Nat => False)) 0 0 (fun _ : Nat => False) := by
  refine Met.ofW (cc := cX8_total) (maxL := 5) (ret := (some .int)) (by decide) rfl ?_
  intro p e s m args below meth c s₁ B hml hv
  obtain ⟨rfl, hP, hK⟩ := hv
  have hx := B.exec
  have hb := B.bytes
  have hr := B.returns
  have hts := atoms_spec (ws := wsX8_total) B.pre
  have hown : s.vm.findClass RX8 = some m.cls := findClass_of_methodNamed B.named
  have hlocks := B.notSynchronized
  have hS : va_S (fun _ : Nat => False) s.heap s.heap [] := va_S.rf
  have hP : va_P D vwCl [(h1, .inr (10, [x3, x4, x5, x6, x7, x8, x9, x10, x11, x12, x13, x14, x15, x16, x17, .int 0, x18, x19]))] s.heap := hP
  have hl := lv_entry ([.ref h1, .ref h2]) (n := 5) (Nat.le_of_ble_eq_true rfl)
  rw [lg_entry_eq]
  generalize (lg_sl ([.ref h1, .ref h2]) ++ List.replicate (5 - (lg_sl ([.ref h1, .ref h2])).length) Slot.unset).toArray = ls at hl ⊢
  have hl : lv_has ls 5 [(0, .ref h1), (1, .ref h2)] := hl
  refine lv_iconst (v := 0) hx hb dX8_total_0 (by decide) ?_
  refine lv_istore_n (lv' := [(2, .int 0), (0, .ref h1), (1, .ref h2)]) hx hb dX8_total_1 rfl hl (by decide) rfl (fun ls hl => ?_)
  refine lv_iconst (v := 0) hx hb dX8_total_2 (by decide) ?_
  refine lv_istore_n (lv' := [(3, .int 0), (2, .int 0), (0, .ref h1), (1, .ref h2)]) hx hb dX8_total_3 rfl hl (by decide) rfl (fun ls hl => ?_)
  refine lv_iload_n hx hb dX8_total_4 rfl (lv_at hl 0 rfl) ?_
  refine lv_aload_n hx hb dX8_total_5 rfl (lv_at hl 2 rfl) ?_
  refine va_get (D := D) (ci := 10) (v := .int 0) (C := RX8) (T := TX8) (N := 18) hx hb hts (fun _ h => (List.mem_cons_of_mem _ (List.mem_append_left _ (List.mem_append_left _ (List.mem_append_right _ h))))) hown hK hP 0 rfl rfl 15 (by decide) (hts (.fieldLink RX8 85 "SelfishJunctionModel" "players" "I") (List.mem_cons_of_mem _ (List.mem_append_left _ (List.mem_append_left _ (List.mem_append_left _ (List.mem_of_getElem? (i := 0) rfl)))))) (fun _ h9 => h9) rfl dX8_total_6 ?_
  refine lv_icmp_ge (tgt := 89) hx hb dX8_total_9 (by decide) (fun _ => ?_) (fun h => absurd (by decide) h)
  refine lv_iload_n hx hb dX8_total_89 rfl (lv_at hl 1 rfl) ?_
  refine W.widen (k := 0) (n := 0) (Nat.le_of_ble_eq_true rfl) (Nat.le_of_ble_eq_true rfl) ?_
  exact W.iret (v := 0) hx hb hr (fun t ht hW => ⟨⟨0, (), rfl, ⟨rfl, trivial⟩, trivial⟩, hS.F ht⟩) hS.2.2 dX8_total_90
theorem dX8_getTotal_0 : decode cX8_getTotal 0 = .ok (.aload_n 0, 1) := by decide +kernel
theorem dX8_getTotal_1 : decode cX8_getTotal 1 = .ok (.iconst 0, 1) := by decide +kernel
theorem dX8_getTotal_2 : decode cX8_getTotal 2 = .ok (.putfield 59, 3) := by decide +kernel
theorem dX8_getTotal_5 : decode cX8_getTotal 5 = .ok (.aload_n 0, 1) := by decide +kernel
theorem dX8_getTotal_6 : decode cX8_getTotal 6 = .ok (.aload_n 0, 1) := by decide +kernel
theorem dX8_getTotal_7 : decode cX8_getTotal 7 = .ok (.getfield 52, 3) := by decide +kernel
theorem dX8_getTotal_10 : decode cX8_getTotal 10 = .ok (.invokevirtual 170, 3) := by decide +kernel
set_option maxRecDepth 20000 in
theorem ggX8_getTotal_X8_total : GoodIn wsX8_getTotal wsX8_total := goodIn_ca (goodIn_ca (goodIn_r _ [7, 8, 9, 10, 11, 12, 13, 14, 6, 15, 16, 17, 18, 19, 20, 21, 22, 23, 24, 25, 26, 27, 28, 29, 30, 31, 32, 33, 34, 35, 36, 37, 38, 39, 40] (by decide +kernel) (by decide +kernel)) (goodIn_sub (fun _ h => List.mem_cons_of_mem _ (List.mem_append_left _ (List.mem_append_right _ h))) (by decide +kernel))) (goodIn_sub (fun _ h => List.mem_cons_of_mem _ (List.mem_append_right _ h)) (by decide +kernel))
set_option maxRecDepth 20000 in
theorem gX8_getTotal_X8_total : GoodIn wsX8_getTotal (wsV RX8 170 RX8 yX8_total wsX8_total) := goodIn_app (goodIn_of _ (by decide +kernel)) ggX8_getTotal_X8_total
theorem dX8_getTotal_13 : decode cX8_getTotal 13 = .ok (.ireturn, 1) := by decide +kernel
set_option maxHeartbeats 4000000 in
set_option maxRecDepth 100000 in
theorem k_X8_getTotal (l : Launch) (D : va_G) (cy : Nat → ClassId) (h1 : Nat) (x2 : Value) (x3 : Value) (x4 : Value) (x5 : Value) (x6 : Value) (x7 : Value) (x8 : Value) (x9 : Value) (x10 : Value) (x11 : Value) (x12 : Value) (x13 : Value) (h14 : Nat) (x15 : Value) (x16 : Value) (x17 : Value) (x18 : Value) (sz : Nat) : Met l yX8_getTotal wsX8_getTotal ({ frames := 1, cells := 0, slots := 0, locals := 24 }) (kW D cy [.ref h1] [(h1, .inr (10, [x2, x3, x4, x5, x6, x7, x8, x9, x10, x11, x12, x13, .ref h14, x15, x16, .int 0, x17, x18]))] sz) (va_Qi (fun (r : Int32) (_ : Unit) => r = 0 ∧ True) (fun (_ : Unit) (t : State) => va_P D vwCl [(h1, .inr (10, [x2, x3, x4, x5, x6, x7, x8, x9, x10, x11, x12, x13, .ref h14, x15, x16, .int 0, x17, .int 0]))] t.heap ∧ va_D (va_A [(h1, .inr (10, [x2, x3, x4, x5, x6, x7, x8, x9, x10, x11, x12, x13, .ref h14, x15, x16, .int 0, x17, x18]))] sz) [(h1, .inr (10, [x2, x3, x4, x5, x6, x7, x8, x9, x10, x11, x12, x13, .ref h14, x15, x16, .int 0, x17, .int 0]))]) (va_A [(h1, .inr (10, [x2, x3, x4, x5, x6, x7, x8, x9, x10, x11, x12, x13, .ref h14, x15, x16, .int 0, x17, x18]))] sz)) 0 0 (va_A [(h1, .inr (10, [x2, x3, x4, x5, x6, x7, x8, x9, x10, x11, x12, x13, .ref h14, x15, x16, .int 0, x17, x18]))] sz) := by
  refine Met.ofW (cc := cX8_getTotal) (maxL := 1) (ret := (some .int)) (by decide) rfl ?_
  intro p e s m args below meth c s₁ B hml hv
  obtain ⟨rfl, hsz, hP, hK, hD0⟩ := hv
  have hx := B.exec
  have hb := B.bytes
  have hr := B.returns
  have hts := atoms_spec (ws := wsX8_getTotal) B.pre
  have hown : s.vm.findClass RX8 = some m.cls := findClass_of_methodNamed B.named
  have hlocks := B.notSynchronized
  subst hsz
  have hD := hD0.self (sz := s.heap.size)
  generalize hAe : va_A [(h1, .inr (10, [x2, x3, x4, x5, x6, x7, x8, x9, x10, x11, x12, x13, .ref h14, x15, x16, .int 0, x17, x18]))] s.heap.size = A at hD ⊢
  have hA : ∀ q : Nat, s.heap.size ≤ q → A q := fun q h => by rw [← hAe]; exact Or.inr h
  have hS : va_S A s.heap s.heap [] := va_S.rf
  have hP : va_P D vwCl [(h1, .inr (10, [x2, x3, x4, x5, x6, x7, x8, x9, x10, x11, x12, x13, .ref h14, x15, x16, .int 0, x17, x18]))] s.heap := hP
  have hl := lv_entry ([.ref h1]) (n := 1) (Nat.le_of_ble_eq_true rfl)
  rw [lg_entry_eq]
  generalize (lg_sl ([.ref h1]) ++ List.replicate (1 - (lg_sl ([.ref h1])).length) Slot.unset).toArray = ls at hl ⊢
  have hl : lv_has ls 1 [(0, .ref h1)] := hl
  refine lv_aload_n hx hb dX8_getTotal_0 rfl (lv_at hl 0 rfl) ?_
  refine lv_iconst (v := 0) hx hb dX8_getTotal_1 (by decide) ?_
  refine va_put (D := D) (ci := 10) (v := .int 0) (ty := .int) (C := RX8) (T := TX8) (N := 18) hx hb hts (fun _ h => (List.mem_cons_of_mem _ (List.mem_append_left _ (List.mem_append_left _ (List.mem_append_right _ h))))) tyX8 tyX8_ok nmX8 hown hK hP hD hS 0 rfl rfl 17 (by decide) (hts (.fieldLink RX8 59 "SelfishJunctionModel" "thrown" "I") (List.mem_cons_of_mem _ (List.mem_append_left _ (List.mem_append_left _ (List.mem_append_left _ (List.mem_of_getElem? (i := 0) rfl)))))) (fun _ h9 => h9) rfl (by decide +kernel) rfl rfl (Nat.le_of_ble_eq_true rfl) dX8_getTotal_2 (fun H locs hP hD hS => ?_)
  have hP : va_P D vwCl [(h1, .inr (10, [x2, x3, x4, x5, x6, x7, x8, x9, x10, x11, x12, x13, .ref h14, x15, x16, .int 0, x17, .int 0]))] H := hP
  have hD : va_D A [(h1, .inr (10, [x2, x3, x4, x5, x6, x7, x8, x9, x10, x11, x12, x13, .ref h14, x15, x16, .int 0, x17, .int 0]))] := hD
  refine lv_aload_n hx hb dX8_getTotal_5 rfl (lv_at hl 0 rfl) ?_
  refine lv_aload_n hx hb dX8_getTotal_6 rfl (lv_at hl 0 rfl) ?_
  refine va_get (D := D) (ci := 10) (v := .ref h14) (C := RX8) (T := TX8) (N := 18) hx hb hts (fun _ h => (List.mem_cons_of_mem _ (List.mem_append_left _ (List.mem_append_left _ (List.mem_append_right _ h))))) hown hK hP 0 rfl rfl 12 (by decide) (hts (.fieldLink RX8 52 "SelfishJunctionModel" "chosen" "[I") (List.mem_cons_of_mem _ (List.mem_append_left _ (List.mem_append_left _ (List.mem_append_left _ (List.mem_of_getElem? (i := 1) rfl)))))) (fun _ h9 => h9) rfl dX8_getTotal_7 ?_
  have hPc := hP.sub (ws' := [(h1, .inr (10, [x2, x3, x4, x5, x6, x7, x8, x9, x10, x11, x12, x13, .ref h14, x15, x16, .int 0, x17, .int 0]))]) [0] rfl
  refine va_calli (va_runV (As := [.ref h14]) (rest := []) ⟨hx, hb, hml, hown, hts⟩ (k_X8_total l D cy h1 h14 (x2) (x3) (x4) (x5) (x6) (x7) (x8) (x9) (x10) (x11) (x12) (x13) (.ref h14) (x15) (x16) (x17) (.int 0)) (cwV 1 hts gX8_getTotal_X8_total rfl rfl rfl (by decide +kernel) ⟨(Nat.le_of_ble_eq_true rfl), (Nat.le_of_ble_eq_true rfl)⟩) ⟨kR_fb, va_recv hK hP (ci := 10) (q0 := 0) rfl rfl, (kR_go hPc hK)⟩ rfl rfl hl.1 rfl (lv_room (Nat.le_of_ble_eq_true rfl)) dX8_getTotal_10 ⟨(Nat.le_of_ble_eq_true rfl), (Nat.le_of_ble_eq_true rfl)⟩) hS (fun _ _ h => h.elim) (fun _ h => h.elim) (fun r9 u t H locs ht hvm hw hB hz1 hk1 hS => ?_)
  have hP := kx_kept hP hk1
  obtain ⟨rfl, hw⟩ := hw
  refine W.widen (k := 0) (n := 0) (Nat.le_of_ble_eq_true rfl) (Nat.le_of_ble_eq_true rfl) ?_
  have hP9 := hP.sub (ws' := [(h1, .inr (10, [x2, x3, x4, x5, x6, x7, x8, x9, x10, x11, x12, x13, .ref h14, x15, x16, .int 0, x17, .int 0]))]) [0] rfl
  have hD9 := hD.sub (ws' := [(h1, .inr (10, [x2, x3, x4, x5, x6, x7, x8, x9, x10, x11, x12, x13, .ref h14, x15, x16, .int 0, x17, .int 0]))]) [0] (by decide) rfl
  exact W.iret (v := 0) hx hb hr (fun t ht hW => ⟨⟨0, (), rfl, ⟨rfl, trivial⟩, ⟨by rw [ht]; exact hP9, hD9⟩⟩, hS.F ht⟩) hS.2.2 dX8_getTotal_13
theorem dX7_setToll_0 : decode cX7_setToll 0 = .ok (.aload_n 0, 1) := by decide +kernel
theorem dX7_setToll_1 : decode cX7_setToll 1 = .ok (.iload_n 1, 1) := by decide +kernel
theorem dX7_setToll_2 : decode cX7_setToll 2 = .ok (.invokevirtual 168, 3) := by decide +kernel
set_option maxRecDepth 20000 in
theorem ggX7_setToll_X7_checkResource : GoodIn wsX7_setToll wsX7_checkResource := goodIn_ca (goodIn_r _ [8, 9, 10, 1, 11, 18, 19, 20, 21, 22, 23, 24, 25, 26, 27, 28] (by decide +kernel) (by decide +kernel)) (goodIn_sub (fun _ h => List.mem_cons_of_mem _ (List.mem_append_left _ (List.mem_append_right _ h))) (by decide +kernel))
set_option maxRecDepth 20000 in
theorem gX7_setToll_X7_checkResource : GoodIn wsX7_setToll (wsV RX7 168 RX7 yX7_checkResource wsX7_checkResource) := goodIn_app (goodIn_of _ (by decide +kernel)) ggX7_setToll_X7_checkResource
set_option maxHeartbeats 4000000 in
set_option maxRecDepth 100000 in
theorem k_X7_setToll (l : Launch) (hl9 : l.stackTraces = false) (D : va_G) (cy : Nat → ClassId) (h1 : Nat) (p0 : Int32) (p1 : Int32) (h2 : Nat) (x3 : Value) (x4 : Value) (x5 : Value) (x6 : Value) (x7 : Value) (x8 : Value) (x9 : Value) (x10 : Value) (x11 : Value) : vx_Met l yX7_setToll wsX7_setToll ({ frames := 7, cells := 1, slots := 6, locals := 103 }) (kRX D cy [.ref h1, .int p0, .int p1] [(h1, .inr (9, [.ref h2, x3, x4, x5, x6, x7, x8])), (h2, .inr (2, [x9, x10, .int 0, x11]))]) (va_Qi (fun (r : Int32) (_ : Unit) => False) (fun (_ : Unit) (_ : State) => True) (fun _ : Nat => False)) (vx_X (fun _ : Unit => True) (fun (E : String) (_ : Unit) (_ : State) => (E = "java/lang/IndexOutOfBoundsException" ∧ True)) (fun _ : Nat => False)) 1 6 (fun _ : Nat => False) := by
  refine vx_ofW (cc := cX7_setToll) (maxL := 4) (ret := (some .int)) (by decide) rfl ?_
  intro p e s m args below meth c s₁ B hml ht9 hv
  obtain ⟨rfl, hP, hK, hE⟩ := hv
  have hx := B.exec
  have hb := B.bytes
  have hr := B.returns
  have hts := atoms_spec (ws := wsX7_setToll) B.pre
  have hown : s.vm.findClass RX7 = some m.cls := findClass_of_methodNamed B.named
  have hlocks := B.notSynchronized
  have hS : va_S (fun _ : Nat => False) s.heap s.heap [] := va_S.rf
  have hP : va_P D vwCl [(h1, .inr (9, [.ref h2, x3, x4, x5, x6, x7, x8])), (h2, .inr (2, [x9, x10, .int 0, x11]))] s.heap := hP
  have hl := lv_entry ([.ref h1, .int p0, .int p1]) (n := 4) (Nat.le_of_ble_eq_true rfl)
  rw [lg_entry_eq]
  generalize (lg_sl ([.ref h1, .int p0, .int p1]) ++ List.replicate (4 - (lg_sl ([.ref h1, .int p0, .int p1])).length) Slot.unset).toArray = ls at hl ⊢
  have hl : lv_has ls 4 [(0, .ref h1), (1, .int p0), (2, .int p1)] := hl
  refine lv_aload_n hx hb dX7_setToll_0 rfl (lv_at hl 0 rfl) ?_
  refine lv_iload_n hx hb dX7_setToll_1 rfl (lv_at hl 1 rfl) ?_
  have hPc := hP.sub (ws' := [(h1, .inr (9, [.ref h2, x3, x4, x5, x6, x7, x8])), (h2, .inr (2, [x9, x10, .int 0, x11]))]) [0, 1] rfl
  refine vx_callv (vx_runV (As := [.int p0]) (rest := []) ⟨hx, hb, hml, hown, hts⟩ (k_X7_checkResource l hl9 D cy h1 p0 h2 (x3) (x4) (x5) (x6) (x7) (x8) (x9) (x10) (x11)) (cwV 1 hts gX7_setToll_X7_checkResource rfl rfl rfl (by decide +kernel) ⟨(Nat.le_of_ble_eq_true rfl), (Nat.le_of_ble_eq_true rfl)⟩) ⟨kRX_fb, va_recv hK hP (ci := 9) (q0 := 0) rfl rfl, (kRX_go hPc hK hE hS)⟩ rfl rfl hl.1 rfl (lv_room (Nat.le_of_ble_eq_true rfl)) dX7_setToll_2 ⟨(Nat.le_of_ble_eq_true rfl), (Nat.le_of_ble_eq_true rfl)⟩) hS (fun _ _ h => h.elim) (fun _ h => h.elim) (fun _ _ h => h.elim) (fun E9 ce9 q9 u t H locs ht hvm hw hB hz1 hk1 hS hce hcv hcl => ?_) (fun u t H locs ht hvm hw hB hz1 hk1 hS => ?_)
  · obtain ⟨rfl, hB⟩ := hB
    have f_1 : True := hB
    exact vx_out (fun x hx => (ht9 x hx).elim) hlocks hce hcv hcl (fun t ht _ => ⟨(), trivial, (⟨rfl, trivial⟩), hS.F ht⟩) hS.2.2 (Nat.le_of_ble_eq_true rfl) (Nat.le_of_ble_eq_true rfl)
  · exact (show False from hw).elim
theorem dL_setToll_0 : decode cL_setToll 0 = .ok (.aload_n 3, 1) := by decide +kernel
theorem dL_setToll_1 : decode cL_setToll 1 = .ok (.iconst 0, 1) := by decide +kernel
theorem dL_setToll_2 : decode cL_setToll 2 = .ok (.aload_n 0, 1) := by decide +kernel
theorem dL_setToll_3 : decode cL_setToll 3 = .ok (.iload_n 1, 1) := by decide +kernel
theorem dL_setToll_4 : decode cL_setToll 4 = .ok (.iload_n 2, 1) := by decide +kernel
theorem dL_setToll_5 : decode cL_setToll 5 = .ok (.invokevirtual 63, 3) := by decide +kernel
set_option maxRecDepth 20000 in
theorem ggL_setToll_X7_setToll : GoodIn wsL_setToll wsX7_setToll := goodIn_ca (goodIn_ca (goodIn_r _ [7, 8, 9, 10, 11, 12, 13, 6, 14, 15, 16, 17, 18, 19, 20, 21, 22, 23, 24, 25, 26, 27, 28, 29, 30, 31, 32, 33, 34, 35, 36, 37, 38, 39, 40, 41] (by decide +kernel) (by decide +kernel)) (goodIn_sub (fun _ h => List.mem_cons_of_mem _ (List.mem_append_left _ (List.mem_append_right _ h))) (by decide +kernel))) (goodIn_sub (fun _ h => List.mem_cons_of_mem _ (List.mem_append_right _ h)) (by decide +kernel))
set_option maxRecDepth 20000 in
theorem gL_setToll_X7_setToll : GoodIn wsL_setToll (wsV RL 63 RX7 yX7_setToll wsX7_setToll) := goodIn_app (goodIn_of _ (by decide +kernel)) ggL_setToll_X7_setToll
theorem dL_setToll_13 : decode cL_setToll 13 = .ok (.astore 4, 2) := by decide +kernel
theorem dL_setToll_15 : decode cL_setToll 15 = .ok (.iconst 1, 1) := by decide +kernel
theorem dL_setToll_16 : decode cL_setToll 16 = .ok (.ireturn, 1) := by decide +kernel
set_option maxHeartbeats 4000000 in
set_option maxRecDepth 100000 in
theorem k_L_setToll (l : Launch) (hl9 : l.stackTraces = false) (D : va_G) (cy : Nat → ClassId) (h1 : Nat) (p1 : Int32) (p2 : Int32) (h2 : Nat) (h3 : Nat) (x4 : Value) (x5 : Value) (x6 : Value) (x7 : Value) (x8 : Value) (x9 : Value) (x10 : Value) (x11 : Value) (x12 : Value) : Met l yL_setToll wsL_setToll ({ frames := 8, cells := 1, slots := 6, locals := 126 }) (kRX D cy [.ref h1, .int p1, .int p2, .ref h2] [(h1, .inr (9, [.ref h3, x4, x5, x6, x7, x8, x9])), (h3, .inr (2, [x10, x11, .int 0, x12]))]) (va_Qi (fun (r : Int32) (_ : Unit) => r = 1 ∧ True) (fun (_ : Unit) (_ : State) => True) (fun _ : Nat => False)) 1 6 (fun _ : Nat => False) := by
  refine va_MetW (cc := cL_setToll) (maxL := 5) (ret := (some .int)) (by decide) rfl ?_
  intro p e s m args below meth c s₁ B hml hv
  obtain ⟨rfl, hP, hK, hE⟩ := hv
  have hx := B.exec
  have hb := B.bytes
  have hr := B.returns
  have hts := atoms_spec (ws := wsL_setToll) B.pre
  have hown : s.vm.findClass RL = some m.cls := findClass_of_methodNamed B.named
  have hlocks := B.notSynchronized
  have htb := vx_table (x := yL_setToll) B (hts _ (List.mem_cons_self))
  have hS : va_S (fun _ : Nat => False) s.heap s.heap [] := va_S.rf
  have hP : va_P D vwCl [(h1, .inr (9, [.ref h3, x4, x5, x6, x7, x8, x9])), (h3, .inr (2, [x10, x11, .int 0, x12]))] s.heap := hP
  have hl := lv_entry ([.ref h1, .int p1, .int p2, .ref h2]) (n := 5) (Nat.le_of_ble_eq_true rfl)
  rw [lg_entry_eq]
  generalize (lg_sl ([.ref h1, .int p1, .int p2, .ref h2]) ++ List.replicate (5 - (lg_sl ([.ref h1, .int p1, .int p2, .ref h2])).length) Slot.unset).toArray = ls at hl ⊢
  have hl : lv_has ls 5 [(0, .ref h1), (1, .int p1), (2, .int p2), (3, .ref h2)] := hl
  refine lv_aload_n hx hb dL_setToll_0 rfl (lv_at hl 3 rfl) ?_
  refine lv_iconst (v := 0) hx hb dL_setToll_1 (by decide) ?_
  refine lv_aload_n hx hb dL_setToll_2 rfl (lv_at hl 0 rfl) ?_
  refine lv_iload_n hx hb dL_setToll_3 rfl (lv_at hl 1 rfl) ?_
  refine lv_iload_n hx hb dL_setToll_4 rfl (lv_at hl 2 rfl) ?_
  have hPc := hP.sub (ws' := [(h1, .inr (9, [.ref h3, x4, x5, x6, x7, x8, x9])), (h3, .inr (2, [x10, x11, .int 0, x12]))]) [0, 1] rfl
  refine vx_calli (vx_runV (As := [.int p1, .int p2]) (rest := [.int 0, .ref h2]) ⟨hx, hb, hml, hown, hts⟩ (k_X7_setToll l hl9 D cy h1 p1 p2 h3 (x4) (x5) (x6) (x7) (x8) (x9) (x10) (x11) (x12)) (cwV 2 hts gL_setToll_X7_setToll rfl rfl rfl (by decide +kernel) ⟨(Nat.le_of_ble_eq_true rfl), (Nat.le_of_ble_eq_true rfl)⟩) ⟨kRX_fb, va_recv hK hP (ci := 9) (q0 := 0) rfl rfl, (kRX_go hPc hK hE hS)⟩ rfl rfl hl.1 rfl (lv_room (Nat.le_of_ble_eq_true rfl)) dL_setToll_5 ⟨(Nat.le_of_ble_eq_true rfl), (Nat.le_of_ble_eq_true rfl)⟩) hS (fun _ _ h => h.elim) (fun _ h => h.elim) (fun _ _ h => h.elim) (fun E9 ce9 q9 u t H locs ht hvm hw hB hz1 hk1 hS hce hcv hcl => ?_) (fun r9 u t H locs ht hvm hw hB hz1 hk1 hS => ?_)
  · obtain ⟨rfl, hB⟩ := hB
    have f_1 : True := hB
    have hP := kx_kept hP hk1
    refine vx_catch (E := "java/lang/IndexOutOfBoundsException") (name := "java/lang/IndexOutOfBoundsException") hown [] (⟨0, 10, 13, 28⟩ : ExceptionTableEntry) [(⟨0, 10, 17, 13⟩ : ExceptionTableEntry)] htb (fun _ h => absurd h List.not_mem_nil) rfl (by decide) (hts (.classLink RL 28 "java/lang/IndexOutOfBoundsException") (List.mem_cons_of_mem _ (List.mem_append_left _ (List.mem_append_left _ (List.mem_append_left _ (List.mem_append_left _ (List.mem_append_left _ (List.mem_append_left _ (List.mem_of_getElem? (i := 0) rfl))))))))) (exP.cast hE "java/lang/IndexOutOfBoundsException" (by decide +kernel)) hce hcv hcl ?_
    refine lv_astore (lv' := [(4, .ref q9), (0, .ref h1), (1, .int p1), (2, .int p2), (3, .ref h2)]) hx hb dL_setToll_13 hl (by decide) rfl (fun ls hl => ?_)
    refine lv_iconst (v := 1) hx hb dL_setToll_15 (by decide) ?_
    refine W.widen (k := 1) (n := 6) (Nat.le_of_ble_eq_true rfl) (Nat.le_of_ble_eq_true rfl) ?_
    exact W.iret (v := 1) hx hb hr (fun t ht hW => ⟨⟨1, (), rfl, ⟨rfl, trivial⟩, trivial⟩, hS.F ht⟩) hS.2.2 dL_setToll_16
  · exact (show False from hw).elim
theorem dX8_setToll_0 : decode cX8_setToll 0 = .ok (.aload_n 0, 1) := by decide +kernel
theorem dX8_setToll_1 : decode cX8_setToll 1 = .ok (.aload_n 0, 1) := by decide +kernel
theorem dX8_setToll_2 : decode cX8_setToll 2 = .ok (.iload_n 1, 1) := by decide +kernel
theorem dX8_setToll_3 : decode cX8_setToll 3 = .ok (.invokevirtual 167, 3) := by decide +kernel
set_option maxRecDepth 20000 in
theorem ggX8_setToll_X8_isNoLoad : GoodIn wsX8_setToll wsX8_isNoLoad := goodIn_r _ [6, 7, 8, 9, 5, 10, 16, 17, 18, 19, 20, 21, 22, 23, 24, 25, 26, 27, 28, 29, 30, 31, 32, 33] (by decide +kernel) (by decide +kernel)
set_option maxRecDepth 20000 in
theorem gX8_setToll_X8_isNoLoad : GoodIn wsX8_setToll (wsV RX8 167 RX8 yX8_isNoLoad wsX8_isNoLoad) := goodIn_app (goodIn_of _ (by decide +kernel)) ggX8_setToll_X8_isNoLoad
theorem dX8_setToll_6 : decode cX8_setToll 6 = .ok (.iconst 1, 1) := by decide +kernel
theorem dX8_setToll_7 : decode cX8_setToll 7 = .ok (.invokevirtual 73, 3) := by decide +kernel
set_option maxRecDepth 20000 in
theorem ggX8_setToll_X8_isThrown : GoodIn wsX8_setToll wsX8_isThrown := goodIn_r _ [14, 15, 16, 17, 18, 19, 20, 21, 22, 23, 24, 25, 26, 27, 28, 29, 30, 31, 32, 33] (by decide +kernel) (by decide +kernel)
set_option maxRecDepth 20000 in
theorem gX8_setToll_X8_isThrown : GoodIn wsX8_setToll (wsV RX8 73 RX8 yX8_isThrown wsX8_isThrown) := goodIn_app (goodIn_of _ (by decide +kernel)) ggX8_setToll_X8_isThrown
theorem dX8_setToll_10 : decode cX8_setToll 10 = .ok (.ifCond .ne 27, 3) := by decide +kernel
theorem dX8_setToll_37 : decode cX8_setToll 37 = .ok (.iconst 0, 1) := by decide +kernel
theorem dX8_setToll_38 : decode cX8_setToll 38 = .ok (.ireturn, 1) := by decide +kernel
set_option maxHeartbeats 4000000 in
set_option maxRecDepth 100000 in
theorem k_X8_setToll (l : Launch) (D : va_G) (cy : Nat → ClassId) (h1 : Nat) (p0 : Int32) (p1 : Int32) (x2 : Value) (x3 : Value) (x4 : Value) (x5 : Value) (x6 : Value) (x7 : Value) (x8 : Value) (x9 : Value) (x10 : Value) (x11 : Value) (x12 : Value) (x13 : Value) (x14 : Value) (x15 : Value) (x16 : Value) (x17 : Value) (x18 : Value) (sz : Nat) : Met l yX8_setToll wsX8_setToll ({ frames := 2, cells := 0, slots := 0, locals := 43 }) (kW D cy [.ref h1, .int p0, .int p1] [(h1, .inr (10, [x2, x3, x4, x5, x6, x7, x8, x9, x10, x11, x12, x13, x14, x15, .int 0, x16, x17, x18]))] sz) (va_Qi (fun (r : Int32) (_ : Unit) => r = 0 ∧ True) (fun (_ : Unit) (t : State) => va_P D vwCl [(h1, .inr (10, [x2, x3, x4, x5, x6, x7, x8, x9, x10, x11, x12, x13, x14, x15, .int 0, x16, x17, .int 1]))] t.heap ∧ va_D (va_A [(h1, .inr (10, [x2, x3, x4, x5, x6, x7, x8, x9, x10, x11, x12, x13, x14, x15, .int 0, x16, x17, x18]))] sz) [(h1, .inr (10, [x2, x3, x4, x5, x6, x7, x8, x9, x10, x11, x12, x13, x14, x15, .int 0, x16, x17, .int 1]))]) (va_A [(h1, .inr (10, [x2, x3, x4, x5, x6, x7, x8, x9, x10, x11, x12, x13, x14, x15, .int 0, x16, x17, x18]))] sz)) 0 0 (va_A [(h1, .inr (10, [x2, x3, x4, x5, x6, x7, x8, x9, x10, x11, x12, x13, x14, x15, .int 0, x16, x17, x18]))] sz) := by
  refine Met.ofW (cc := cX8_setToll) (maxL := 4) (ret := (some .int)) (by decide) rfl ?_
  intro p e s m args below meth c s₁ B hml hv
  obtain ⟨rfl, hsz, hP, hK, hD0⟩ := hv
  have hx := B.exec
  have hb := B.bytes
  have hr := B.returns
  have hts := atoms_spec (ws := wsX8_setToll) B.pre
  have hown : s.vm.findClass RX8 = some m.cls := findClass_of_methodNamed B.named
  have hlocks := B.notSynchronized
  subst hsz
  have hD := hD0.self (sz := s.heap.size)
  generalize hAe : va_A [(h1, .inr (10, [x2, x3, x4, x5, x6, x7, x8, x9, x10, x11, x12, x13, x14, x15, .int 0, x16, x17, x18]))] s.heap.size = A at hD ⊢
  have hA : ∀ q : Nat, s.heap.size ≤ q → A q := fun q h => by rw [← hAe]; exact Or.inr h
  have hS : va_S A s.heap s.heap [] := va_S.rf
  have hP : va_P D vwCl [(h1, .inr (10, [x2, x3, x4, x5, x6, x7, x8, x9, x10, x11, x12, x13, x14, x15, .int 0, x16, x17, x18]))] s.heap := hP
  have hl := lv_entry ([.ref h1, .int p0, .int p1]) (n := 4) (Nat.le_of_ble_eq_true rfl)
  rw [lg_entry_eq]
  generalize (lg_sl ([.ref h1, .int p0, .int p1]) ++ List.replicate (4 - (lg_sl ([.ref h1, .int p0, .int p1])).length) Slot.unset).toArray = ls at hl ⊢
  have hl : lv_has ls 4 [(0, .ref h1), (1, .int p0), (2, .int p1)] := hl
  refine lv_aload_n hx hb dX8_setToll_0 rfl (lv_at hl 0 rfl) ?_
  refine lv_aload_n hx hb dX8_setToll_1 rfl (lv_at hl 0 rfl) ?_
  refine lv_iload_n hx hb dX8_setToll_2 rfl (lv_at hl 1 rfl) ?_
  have hPc := hP.sub (ws' := [(h1, .inr (10, [x2, x3, x4, x5, x6, x7, x8, x9, x10, x11, x12, x13, x14, x15, .int 0, x16, x17, x18]))]) [0] rfl
  refine va_calli (va_runV (As := [.int p0]) (rest := [.ref h1]) ⟨hx, hb, hml, hown, hts⟩ (k_X8_isNoLoad l D cy h1 p0 (x2) (x3) (x4) (x5) (x6) (x7) (x8) (x9) (x10) (x11) (x12) (x13) (x14) (x15) (x16) (x17) (x18)) (cwV 1 hts gX8_setToll_X8_isNoLoad rfl rfl rfl (by decide +kernel) ⟨(Nat.le_of_ble_eq_true rfl), (Nat.le_of_ble_eq_true rfl)⟩) ⟨kR_fb, va_recv hK hP (ci := 10) (q0 := 0) rfl rfl, (kR_go hPc hK)⟩ rfl rfl hl.1 rfl (lv_room (Nat.le_of_ble_eq_true rfl)) dX8_setToll_3 ⟨(Nat.le_of_ble_eq_true rfl), (Nat.le_of_ble_eq_true rfl)⟩) hS (fun _ _ h => h.elim) (fun _ h => h.elim) (fun r9 u t H locs ht hvm hw hB hz1 hk1 hS => ?_)
  have hP := kx_kept hP hk1
  obtain ⟨rfl, hw⟩ := hw
  refine lv_iconst (v := 1) hx hb dX8_setToll_6 (by decide) ?_
  have hPc := hP.sub (ws' := [(h1, .inr (10, [x2, x3, x4, x5, x6, x7, x8, x9, x10, x11, x12, x13, x14, x15, .int 0, x16, x17, x18]))]) [0] rfl
  have hDc := hD.sub (ws' := [(h1, .inr (10, [x2, x3, x4, x5, x6, x7, x8, x9, x10, x11, x12, x13, x14, x15, .int 0, x16, x17, x18]))]) [0] (by decide) rfl
  have hFc := va_free (wc := [(h1, .inr (10, [x2, x3, x4, x5, x6, x7, x8, x9, x10, x11, x12, x13, x14, x15, .int 0, x16, x17, x18]))]) hD hS hA [0] rfl
  refine va_calli (va_runV (As := [.int 1, .int 1]) (rest := []) ⟨hx, hb, hml, hown, hts⟩ (k_X8_isThrown l D cy h1 (x2) (x3) (x4) (x5) (x6) (x7) (x8) (x9) (x10) (x11) (x12) (x13) (x14) (x15) (.int 0) (x16) (x17) (x18) H.size) (cwV 2 hts gX8_setToll_X8_isThrown rfl rfl rfl (by decide +kernel) ⟨(Nat.le_of_ble_eq_true rfl), (Nat.le_of_ble_eq_true rfl)⟩) ⟨kW_fb, va_recv hK hP (ci := 10) (q0 := 0) rfl rfl, (kW_go hPc hK hDc)⟩ rfl rfl hl.1 rfl (lv_room (Nat.le_of_ble_eq_true rfl)) dX8_setToll_7 ⟨(Nat.le_of_ble_eq_true rfl), (Nat.le_of_ble_eq_true rfl)⟩) hS (fun q _ h => hFc q h) hFc (fun r9 u t H locs ht hvm hw hB hz1 hk1 hS => ?_)
  obtain ⟨hP1, hD1⟩ := hB
  rw [ht] at hP1
  try dsimp only at hw hP1 hD1
  obtain ⟨hP, hD⟩ := va_join (wr := []) (w1 := [(h1, .inr (10, [x2, x3, x4, x5, x6, x7, x8, x9, x10, x11, x12, x13, x14, x15, .int 0, x16, x17, .int 1]))]) hP hD [0] [] rfl rfl (by decide) (by decide) hk1 hFc hP1 hD1
  have hP : va_P D vwCl [(h1, .inr (10, [x2, x3, x4, x5, x6, x7, x8, x9, x10, x11, x12, x13, x14, x15, .int 0, x16, x17, .int 1]))] H := hP
  have hD : va_D A [(h1, .inr (10, [x2, x3, x4, x5, x6, x7, x8, x9, x10, x11, x12, x13, x14, x15, .int 0, x16, x17, .int 1]))] := hD
  obtain ⟨rfl, hw⟩ := hw
  refine lv_if_ne (tgt := 37) hx hb dX8_setToll_10 (by decide) (fun _ => ?_) (fun h => absurd h (by decide))
  refine lv_iconst (v := 0) hx hb dX8_setToll_37 (by decide) ?_
  refine W.widen (k := 0) (n := 0) (Nat.le_of_ble_eq_true rfl) (Nat.le_of_ble_eq_true rfl) ?_
  have hP9 := hP.sub (ws' := [(h1, .inr (10, [x2, x3, x4, x5, x6, x7, x8, x9, x10, x11, x12, x13, x14, x15, .int 0, x16, x17, .int 1]))]) [0] rfl
  have hD9 := hD.sub (ws' := [(h1, .inr (10, [x2, x3, x4, x5, x6, x7, x8, x9, x10, x11, x12, x13, x14, x15, .int 0, x16, x17, .int 1]))]) [0] (by decide) rfl
  exact W.iret (v := 0) hx hb hr (fun t ht hW => ⟨⟨0, (), rfl, ⟨rfl, trivial⟩, ⟨by rw [ht]; exact hP9, hD9⟩⟩, hS.F ht⟩) hS.2.2 dX8_setToll_38
theorem dX7_getMargin_0 : decode cX7_getMargin 0 = .ok (.aload_n 0, 1) := by decide +kernel
theorem dX7_getMargin_1 : decode cX7_getMargin 1 = .ok (.iload_n 1, 1) := by decide +kernel
theorem dX7_getMargin_2 : decode cX7_getMargin 2 = .ok (.invokevirtual 168, 3) := by decide +kernel
set_option maxRecDepth 20000 in
theorem ggX7_getMargin_X7_checkResource : GoodIn wsX7_getMargin wsX7_checkResource := goodIn_ca (goodIn_r _ [9, 10, 11, 1, 12, 27, 28, 29, 30, 31, 32, 33, 34, 35, 36, 37] (by decide +kernel) (by decide +kernel)) (goodIn_sub (fun _ h => List.mem_cons_of_mem _ (List.mem_append_right _ h)) (by decide +kernel))
set_option maxRecDepth 20000 in
theorem gX7_getMargin_X7_checkResource : GoodIn wsX7_getMargin (wsV RX7 168 RX7 yX7_checkResource wsX7_checkResource) := goodIn_app (goodIn_of _ (by decide +kernel)) ggX7_getMargin_X7_checkResource
set_option maxHeartbeats 4000000 in
set_option maxRecDepth 100000 in
theorem k_X7_getMargin (l : Launch) (hl9 : l.stackTraces = false) (D : va_G) (cy : Nat → ClassId) (h1 : Nat) (p0 : Int32) (h2 : Nat) (x3 : Value) (x4 : Value) (x5 : Value) (x6 : Value) (x7 : Value) (x8 : Value) (x9 : Value) (x10 : Value) (x11 : Value) : vx_Met l yX7_getMargin wsX7_getMargin ({ frames := 7, cells := 1, slots := 6, locals := 103 }) (kRX D cy [.ref h1, .int p0] [(h1, .inr (9, [.ref h2, x3, x4, x5, x6, x7, x8])), (h2, .inr (2, [x9, x10, .int 0, x11]))]) (va_Qi (fun (r : Int32) (_ : Unit) => False) (fun (_ : Unit) (_ : State) => True) (fun _ : Nat => False)) (vx_X (fun _ : Unit => True) (fun (E : String) (_ : Unit) (_ : State) => (E = "java/lang/IndexOutOfBoundsException" ∧ True)) (fun _ : Nat => False)) 1 6 (fun _ : Nat => False) := by
  refine vx_ofW (cc := cX7_getMargin) (maxL := 2) (ret := (some .int)) (by decide) rfl ?_
  intro p e s m args below meth c s₁ B hml ht9 hv
  obtain ⟨rfl, hP, hK, hE⟩ := hv
  have hx := B.exec
  have hb := B.bytes
  have hr := B.returns
  have hts := atoms_spec (ws := wsX7_getMargin) B.pre
  have hown : s.vm.findClass RX7 = some m.cls := findClass_of_methodNamed B.named
  have hlocks := B.notSynchronized
  have hS : va_S (fun _ : Nat => False) s.heap s.heap [] := va_S.rf
  have hP : va_P D vwCl [(h1, .inr (9, [.ref h2, x3, x4, x5, x6, x7, x8])), (h2, .inr (2, [x9, x10, .int 0, x11]))] s.heap := hP
  have hl := lv_entry ([.ref h1, .int p0]) (n := 2) (Nat.le_of_ble_eq_true rfl)
  rw [lg_entry_eq]
  generalize (lg_sl ([.ref h1, .int p0]) ++ List.replicate (2 - (lg_sl ([.ref h1, .int p0])).length) Slot.unset).toArray = ls at hl ⊢
  have hl : lv_has ls 2 [(0, .ref h1), (1, .int p0)] := hl
  refine lv_aload_n hx hb dX7_getMargin_0 rfl (lv_at hl 0 rfl) ?_
  refine lv_iload_n hx hb dX7_getMargin_1 rfl (lv_at hl 1 rfl) ?_
  have hPc := hP.sub (ws' := [(h1, .inr (9, [.ref h2, x3, x4, x5, x6, x7, x8])), (h2, .inr (2, [x9, x10, .int 0, x11]))]) [0, 1] rfl
  refine vx_callv (vx_runV (As := [.int p0]) (rest := []) ⟨hx, hb, hml, hown, hts⟩ (k_X7_checkResource l hl9 D cy h1 p0 h2 (x3) (x4) (x5) (x6) (x7) (x8) (x9) (x10) (x11)) (cwV 1 hts gX7_getMargin_X7_checkResource rfl rfl rfl (by decide +kernel) ⟨(Nat.le_of_ble_eq_true rfl), (Nat.le_of_ble_eq_true rfl)⟩) ⟨kRX_fb, va_recv hK hP (ci := 9) (q0 := 0) rfl rfl, (kRX_go hPc hK hE hS)⟩ rfl rfl hl.1 rfl (lv_room (Nat.le_of_ble_eq_true rfl)) dX7_getMargin_2 ⟨(Nat.le_of_ble_eq_true rfl), (Nat.le_of_ble_eq_true rfl)⟩) hS (fun _ _ h => h.elim) (fun _ h => h.elim) (fun _ _ h => h.elim) (fun E9 ce9 q9 u t H locs ht hvm hw hB hz1 hk1 hS hce hcv hcl => ?_) (fun u t H locs ht hvm hw hB hz1 hk1 hS => ?_)
  · obtain ⟨rfl, hB⟩ := hB
    have f_1 : True := hB
    exact vx_out (fun x hx => (ht9 x hx).elim) hlocks hce hcv hcl (fun t ht _ => ⟨(), trivial, (⟨rfl, trivial⟩), hS.F ht⟩) hS.2.2 (Nat.le_of_ble_eq_true rfl) (Nat.le_of_ble_eq_true rfl)
  · exact (show False from hw).elim
theorem dL_getMargin_0 : decode cL_getMargin 0 = .ok (.aload_n 2, 1) := by decide +kernel
theorem dL_getMargin_1 : decode cL_getMargin 1 = .ok (.iconst 0, 1) := by decide +kernel
theorem dL_getMargin_2 : decode cL_getMargin 2 = .ok (.aload_n 0, 1) := by decide +kernel
theorem dL_getMargin_3 : decode cL_getMargin 3 = .ok (.iload_n 1, 1) := by decide +kernel
theorem dL_getMargin_4 : decode cL_getMargin 4 = .ok (.invokevirtual 66, 3) := by decide +kernel
set_option maxRecDepth 20000 in
theorem ggL_getMargin_X7_getMargin : GoodIn wsL_getMargin wsX7_getMargin := goodIn_ca (goodIn_ca (goodIn_r _ [6, 7, 8, 9, 10, 11, 12, 13, 5, 14, 15, 16, 17, 18, 19, 20, 21, 22, 23, 24, 25, 26, 27, 28, 29, 30, 31, 32, 33, 34, 35, 36, 37, 38, 39, 40, 41, 42, 43, 44, 45, 46, 47, 48, 49, 50, 51, 52] (by decide +kernel) (by decide +kernel)) (goodIn_sub (fun _ h => List.mem_cons_of_mem _ (List.mem_append_left _ (List.mem_append_right _ h))) (by decide +kernel))) (goodIn_sub (fun _ h => List.mem_cons_of_mem _ (List.mem_append_right _ h)) (by decide +kernel))
set_option maxRecDepth 20000 in
theorem gL_getMargin_X7_getMargin : GoodIn wsL_getMargin (wsV RL 66 RX7 yX7_getMargin wsX7_getMargin) := goodIn_app (goodIn_of _ (by decide +kernel)) ggL_getMargin_X7_getMargin
theorem dL_getMargin_12 : decode cL_getMargin 12 = .ok (.astore_n 3, 1) := by decide +kernel
theorem dL_getMargin_13 : decode cL_getMargin 13 = .ok (.iconst 1, 1) := by decide +kernel
theorem dL_getMargin_14 : decode cL_getMargin 14 = .ok (.ireturn, 1) := by decide +kernel
set_option maxHeartbeats 4000000 in
set_option maxRecDepth 100000 in
theorem k_L_getMargin (l : Launch) (hl9 : l.stackTraces = false) (D : va_G) (cy : Nat → ClassId) (h1 : Nat) (p1 : Int32) (h2 : Nat) (h3 : Nat) (x4 : Value) (x5 : Value) (x6 : Value) (x7 : Value) (x8 : Value) (x9 : Value) (x10 : Value) (x11 : Value) (x12 : Value) : Met l yL_getMargin wsL_getMargin ({ frames := 8, cells := 1, slots := 6, locals := 124 }) (kRX D cy [.ref h1, .int p1, .ref h2] [(h1, .inr (9, [.ref h3, x4, x5, x6, x7, x8, x9])), (h3, .inr (2, [x10, x11, .int 0, x12]))]) (va_Qi (fun (r : Int32) (_ : Unit) => r = 1 ∧ True) (fun (_ : Unit) (_ : State) => True) (fun _ : Nat => False)) 1 6 (fun _ : Nat => False) := by
  refine va_MetW (cc := cL_getMargin) (maxL := 4) (ret := (some .int)) (by decide) rfl ?_
  intro p e s m args below meth c s₁ B hml hv
  obtain ⟨rfl, hP, hK, hE⟩ := hv
  have hx := B.exec
  have hb := B.bytes
  have hr := B.returns
  have hts := atoms_spec (ws := wsL_getMargin) B.pre
  have hown : s.vm.findClass RL = some m.cls := findClass_of_methodNamed B.named
  have hlocks := B.notSynchronized
  have htb := vx_table (x := yL_getMargin) B (hts _ (List.mem_cons_self))
  have hS : va_S (fun _ : Nat => False) s.heap s.heap [] := va_S.rf
  have hP : va_P D vwCl [(h1, .inr (9, [.ref h3, x4, x5, x6, x7, x8, x9])), (h3, .inr (2, [x10, x11, .int 0, x12]))] s.heap := hP
  have hl := lv_entry ([.ref h1, .int p1, .ref h2]) (n := 4) (Nat.le_of_ble_eq_true rfl)
  rw [lg_entry_eq]
  generalize (lg_sl ([.ref h1, .int p1, .ref h2]) ++ List.replicate (4 - (lg_sl ([.ref h1, .int p1, .ref h2])).length) Slot.unset).toArray = ls at hl ⊢
  have hl : lv_has ls 4 [(0, .ref h1), (1, .int p1), (2, .ref h2)] := hl
  refine lv_aload_n hx hb dL_getMargin_0 rfl (lv_at hl 2 rfl) ?_
  refine lv_iconst (v := 0) hx hb dL_getMargin_1 (by decide) ?_
  refine lv_aload_n hx hb dL_getMargin_2 rfl (lv_at hl 0 rfl) ?_
  refine lv_iload_n hx hb dL_getMargin_3 rfl (lv_at hl 1 rfl) ?_
  have hPc := hP.sub (ws' := [(h1, .inr (9, [.ref h3, x4, x5, x6, x7, x8, x9])), (h3, .inr (2, [x10, x11, .int 0, x12]))]) [0, 1] rfl
  refine vx_calli (vx_runV (As := [.int p1]) (rest := [.int 0, .ref h2]) ⟨hx, hb, hml, hown, hts⟩ (k_X7_getMargin l hl9 D cy h1 p1 h3 (x4) (x5) (x6) (x7) (x8) (x9) (x10) (x11) (x12)) (cwV 1 hts gL_getMargin_X7_getMargin rfl rfl rfl (by decide +kernel) ⟨(Nat.le_of_ble_eq_true rfl), (Nat.le_of_ble_eq_true rfl)⟩) ⟨kRX_fb, va_recv hK hP (ci := 9) (q0 := 0) rfl rfl, (kRX_go hPc hK hE hS)⟩ rfl rfl hl.1 rfl (lv_room (Nat.le_of_ble_eq_true rfl)) dL_getMargin_4 ⟨(Nat.le_of_ble_eq_true rfl), (Nat.le_of_ble_eq_true rfl)⟩) hS (fun _ _ h => h.elim) (fun _ h => h.elim) (fun _ _ h => h.elim) (fun E9 ce9 q9 u t H locs ht hvm hw hB hz1 hk1 hS hce hcv hcl => ?_) (fun r9 u t H locs ht hvm hw hB hz1 hk1 hS => ?_)
  · obtain ⟨rfl, hB⟩ := hB
    have f_1 : True := hB
    have hP := kx_kept hP hk1
    refine vx_catch (E := "java/lang/IndexOutOfBoundsException") (name := "java/lang/IndexOutOfBoundsException") hown [] (⟨0, 9, 12, 28⟩ : ExceptionTableEntry) [] htb (fun _ h => absurd h List.not_mem_nil) rfl (by decide) (hts (.classLink RL 28 "java/lang/IndexOutOfBoundsException") (List.mem_cons_of_mem _ (List.mem_append_left _ (List.mem_append_left _ (List.mem_append_left _ (List.mem_append_left _ (List.mem_append_left _ (List.mem_append_left _ (List.mem_append_left _ (List.mem_of_getElem? (i := 0) rfl)))))))))) (exP.cast hE "java/lang/IndexOutOfBoundsException" (by decide +kernel)) hce hcv hcl ?_
    refine lv_astore_n (lv' := [(3, .ref q9), (0, .ref h1), (1, .int p1), (2, .ref h2)]) hx hb dL_getMargin_12 rfl hl (by decide) rfl (fun ls hl => ?_)
    refine lv_iconst (v := 1) hx hb dL_getMargin_13 (by decide) ?_
    refine W.widen (k := 1) (n := 6) (Nat.le_of_ble_eq_true rfl) (Nat.le_of_ble_eq_true rfl) ?_
    exact W.iret (v := 1) hx hb hr (fun t ht hW => ⟨⟨1, (), rfl, ⟨rfl, trivial⟩, trivial⟩, hS.F ht⟩) hS.2.2 dL_getMargin_14
  · exact (show False from hw).elim
theorem dX8_getMargin_0 : decode cX8_getMargin 0 = .ok (.aload_n 0, 1) := by decide +kernel
theorem dX8_getMargin_1 : decode cX8_getMargin 1 = .ok (.aload_n 0, 1) := by decide +kernel
theorem dX8_getMargin_2 : decode cX8_getMargin 2 = .ok (.iload_n 1, 1) := by decide +kernel
theorem dX8_getMargin_3 : decode cX8_getMargin 3 = .ok (.invokevirtual 167, 3) := by decide +kernel
set_option maxRecDepth 20000 in
theorem ggX8_getMargin_X8_isNoLoad : GoodIn wsX8_getMargin wsX8_isNoLoad := goodIn_r _ [5, 6, 7, 8, 4, 9, 38, 39, 40, 41, 42, 43, 44, 45, 46, 47, 48, 49, 50, 51, 52, 53, 54, 55] (by decide +kernel) (by decide +kernel)
set_option maxRecDepth 20000 in
theorem gX8_getMargin_X8_isNoLoad : GoodIn wsX8_getMargin (wsV RX8 167 RX8 yX8_isNoLoad wsX8_isNoLoad) := goodIn_app (goodIn_of _ (by decide +kernel)) ggX8_getMargin_X8_isNoLoad
theorem dX8_getMargin_6 : decode cX8_getMargin 6 = .ok (.iconst 1, 1) := by decide +kernel
theorem dX8_getMargin_7 : decode cX8_getMargin 7 = .ok (.invokevirtual 73, 3) := by decide +kernel
set_option maxRecDepth 20000 in
theorem ggX8_getMargin_X8_isThrown : GoodIn wsX8_getMargin wsX8_isThrown := goodIn_r _ [13, 14, 38, 39, 40, 41, 42, 43, 44, 45, 46, 47, 48, 49, 50, 51, 52, 53, 54, 55] (by decide +kernel) (by decide +kernel)
set_option maxRecDepth 20000 in
theorem gX8_getMargin_X8_isThrown : GoodIn wsX8_getMargin (wsV RX8 73 RX8 yX8_isThrown wsX8_isThrown) := goodIn_app (goodIn_of _ (by decide +kernel)) ggX8_getMargin_X8_isThrown
theorem dX8_getMargin_10 : decode cX8_getMargin 10 = .ok (.ifCond .eq 7, 3) := by decide +kernel
theorem dX8_getMargin_13 : decode cX8_getMargin 13 = .ok (.iconst 0, 1) := by decide +kernel
theorem dX8_getMargin_14 : decode cX8_getMargin 14 = .ok (.goto 8, 3) := by decide +kernel
theorem dX8_getMargin_22 : decode cX8_getMargin 22 = .ok (.ireturn, 1) := by decide +kernel
set_option maxHeartbeats 4000000 in
set_option maxRecDepth 100000 in
theorem k_X8_getMargin (l : Launch) (D : va_G) (cy : Nat → ClassId) (h1 : Nat) (p0 : Int32) (x2 : Value) (x3 : Value) (x4 : Value) (x5 : Value) (x6 : Value) (x7 : Value) (x8 : Value) (x9 : Value) (x10 : Value) (x11 : Value) (x12 : Value) (x13 : Value) (x14 : Value) (x15 : Value) (x16 : Value) (x17 : Value) (x18 : Value) (sz : Nat) : Met l yX8_getMargin wsX8_getMargin ({ frames := 2, cells := 0, slots := 0, locals := 43 }) (kW D cy [.ref h1, .int p0] [(h1, .inr (10, [x2, x3, x4, x5, x6, x7, x8, x9, x10, x11, x12, x13, x14, x15, .int 0, x16, x17, x18]))] sz) (va_Qi (fun (r : Int32) (_ : Unit) => r = 0 ∧ True) (fun (_ : Unit) (t : State) => va_P D vwCl [(h1, .inr (10, [x2, x3, x4, x5, x6, x7, x8, x9, x10, x11, x12, x13, x14, x15, .int 0, x16, x17, .int 1]))] t.heap ∧ va_D (va_A [(h1, .inr (10, [x2, x3, x4, x5, x6, x7, x8, x9, x10, x11, x12, x13, x14, x15, .int 0, x16, x17, x18]))] sz) [(h1, .inr (10, [x2, x3, x4, x5, x6, x7, x8, x9, x10, x11, x12, x13, x14, x15, .int 0, x16, x17, .int 1]))]) (va_A [(h1, .inr (10, [x2, x3, x4, x5, x6, x7, x8, x9, x10, x11, x12, x13, x14, x15, .int 0, x16, x17, x18]))] sz)) 0 0 (va_A [(h1, .inr (10, [x2, x3, x4, x5, x6, x7, x8, x9, x10, x11, x12, x13, x14, x15, .int 0, x16, x17, x18]))] sz) := by
  refine Met.ofW (cc := cX8_getMargin) (maxL := 2) (ret := (some .int)) (by decide) rfl ?_
  intro p e s m args below meth c s₁ B hml hv
  obtain ⟨rfl, hsz, hP, hK, hD0⟩ := hv
  have hx := B.exec
  have hb := B.bytes
  have hr := B.returns
  have hts := atoms_spec (ws := wsX8_getMargin) B.pre
  have hown : s.vm.findClass RX8 = some m.cls := findClass_of_methodNamed B.named
  have hlocks := B.notSynchronized
  subst hsz
  have hD := hD0.self (sz := s.heap.size)
  generalize hAe : va_A [(h1, .inr (10, [x2, x3, x4, x5, x6, x7, x8, x9, x10, x11, x12, x13, x14, x15, .int 0, x16, x17, x18]))] s.heap.size = A at hD ⊢
  have hA : ∀ q : Nat, s.heap.size ≤ q → A q := fun q h => by rw [← hAe]; exact Or.inr h
  have hS : va_S A s.heap s.heap [] := va_S.rf
  have hP : va_P D vwCl [(h1, .inr (10, [x2, x3, x4, x5, x6, x7, x8, x9, x10, x11, x12, x13, x14, x15, .int 0, x16, x17, x18]))] s.heap := hP
  have hl := lv_entry ([.ref h1, .int p0]) (n := 2) (Nat.le_of_ble_eq_true rfl)
  rw [lg_entry_eq]
  generalize (lg_sl ([.ref h1, .int p0]) ++ List.replicate (2 - (lg_sl ([.ref h1, .int p0])).length) Slot.unset).toArray = ls at hl ⊢
  have hl : lv_has ls 2 [(0, .ref h1), (1, .int p0)] := hl
  refine lv_aload_n hx hb dX8_getMargin_0 rfl (lv_at hl 0 rfl) ?_
  refine lv_aload_n hx hb dX8_getMargin_1 rfl (lv_at hl 0 rfl) ?_
  refine lv_iload_n hx hb dX8_getMargin_2 rfl (lv_at hl 1 rfl) ?_
  have hPc := hP.sub (ws' := [(h1, .inr (10, [x2, x3, x4, x5, x6, x7, x8, x9, x10, x11, x12, x13, x14, x15, .int 0, x16, x17, x18]))]) [0] rfl
  refine va_calli (va_runV (As := [.int p0]) (rest := [.ref h1]) ⟨hx, hb, hml, hown, hts⟩ (k_X8_isNoLoad l D cy h1 p0 (x2) (x3) (x4) (x5) (x6) (x7) (x8) (x9) (x10) (x11) (x12) (x13) (x14) (x15) (x16) (x17) (x18)) (cwV 1 hts gX8_getMargin_X8_isNoLoad rfl rfl rfl (by decide +kernel) ⟨(Nat.le_of_ble_eq_true rfl), (Nat.le_of_ble_eq_true rfl)⟩) ⟨kR_fb, va_recv hK hP (ci := 10) (q0 := 0) rfl rfl, (kR_go hPc hK)⟩ rfl rfl hl.1 rfl (lv_room (Nat.le_of_ble_eq_true rfl)) dX8_getMargin_3 ⟨(Nat.le_of_ble_eq_true rfl), (Nat.le_of_ble_eq_true rfl)⟩) hS (fun _ _ h => h.elim) (fun _ h => h.elim) (fun r9 u t H locs ht hvm hw hB hz1 hk1 hS => ?_)
  have hP := kx_kept hP hk1
  obtain ⟨rfl, hw⟩ := hw
  refine lv_iconst (v := 1) hx hb dX8_getMargin_6 (by decide) ?_
  have hPc := hP.sub (ws' := [(h1, .inr (10, [x2, x3, x4, x5, x6, x7, x8, x9, x10, x11, x12, x13, x14, x15, .int 0, x16, x17, x18]))]) [0] rfl
  have hDc := hD.sub (ws' := [(h1, .inr (10, [x2, x3, x4, x5, x6, x7, x8, x9, x10, x11, x12, x13, x14, x15, .int 0, x16, x17, x18]))]) [0] (by decide) rfl
  have hFc := va_free (wc := [(h1, .inr (10, [x2, x3, x4, x5, x6, x7, x8, x9, x10, x11, x12, x13, x14, x15, .int 0, x16, x17, x18]))]) hD hS hA [0] rfl
  refine va_calli (va_runV (As := [.int 1, .int 1]) (rest := []) ⟨hx, hb, hml, hown, hts⟩ (k_X8_isThrown l D cy h1 (x2) (x3) (x4) (x5) (x6) (x7) (x8) (x9) (x10) (x11) (x12) (x13) (x14) (x15) (.int 0) (x16) (x17) (x18) H.size) (cwV 2 hts gX8_getMargin_X8_isThrown rfl rfl rfl (by decide +kernel) ⟨(Nat.le_of_ble_eq_true rfl), (Nat.le_of_ble_eq_true rfl)⟩) ⟨kW_fb, va_recv hK hP (ci := 10) (q0 := 0) rfl rfl, (kW_go hPc hK hDc)⟩ rfl rfl hl.1 rfl (lv_room (Nat.le_of_ble_eq_true rfl)) dX8_getMargin_7 ⟨(Nat.le_of_ble_eq_true rfl), (Nat.le_of_ble_eq_true rfl)⟩) hS (fun q _ h => hFc q h) hFc (fun r9 u t H locs ht hvm hw hB hz1 hk1 hS => ?_)
  obtain ⟨hP1, hD1⟩ := hB
  rw [ht] at hP1
  try dsimp only at hw hP1 hD1
  obtain ⟨hP, hD⟩ := va_join (wr := []) (w1 := [(h1, .inr (10, [x2, x3, x4, x5, x6, x7, x8, x9, x10, x11, x12, x13, x14, x15, .int 0, x16, x17, .int 1]))]) hP hD [0] [] rfl rfl (by decide) (by decide) hk1 hFc hP1 hD1
  have hP : va_P D vwCl [(h1, .inr (10, [x2, x3, x4, x5, x6, x7, x8, x9, x10, x11, x12, x13, x14, x15, .int 0, x16, x17, .int 1]))] H := hP
  have hD : va_D A [(h1, .inr (10, [x2, x3, x4, x5, x6, x7, x8, x9, x10, x11, x12, x13, x14, x15, .int 0, x16, x17, .int 1]))] := hD
  obtain ⟨rfl, hw⟩ := hw
  refine lv_if_eq (tgt := 17) hx hb dX8_getMargin_10 (by decide) (fun h => absurd h (by decide)) (fun _ => ?_)
  refine lv_iconst (v := 0) hx hb dX8_getMargin_13 (by decide) ?_
  refine lv_goto (tgt := 22) hx hb dX8_getMargin_14 (by decide) ?_
  refine W.widen (k := 0) (n := 0) (Nat.le_of_ble_eq_true rfl) (Nat.le_of_ble_eq_true rfl) ?_
  have hP9 := hP.sub (ws' := [(h1, .inr (10, [x2, x3, x4, x5, x6, x7, x8, x9, x10, x11, x12, x13, x14, x15, .int 0, x16, x17, .int 1]))]) [0] rfl
  have hD9 := hD.sub (ws' := [(h1, .inr (10, [x2, x3, x4, x5, x6, x7, x8, x9, x10, x11, x12, x13, x14, x15, .int 0, x16, x17, .int 1]))]) [0] (by decide) rfl
  exact W.iret (v := 0) hx hb hr (fun t ht hW => ⟨⟨0, (), rfl, ⟨rfl, trivial⟩, ⟨by rw [ht]; exact hP9, hD9⟩⟩, hS.F ht⟩) hS.2.2 dX8_getMargin_22
theorem dX7_tollByMargins_0 : decode cX7_tollByMargins 0 = .ok (.iconst 0, 1) := by decide +kernel
theorem dX7_tollByMargins_1 : decode cX7_tollByMargins 1 = .ok (.istore_n 1, 1) := by decide +kernel
theorem dX7_tollByMargins_2 : decode cX7_tollByMargins 2 = .ok (.iconst 0, 1) := by decide +kernel
theorem dX7_tollByMargins_3 : decode cX7_tollByMargins 3 = .ok (.istore_n 2, 1) := by decide +kernel
theorem dX7_tollByMargins_4 : decode cX7_tollByMargins 4 = .ok (.iload_n 2, 1) := by decide +kernel
theorem dX7_tollByMargins_5 : decode cX7_tollByMargins 5 = .ok (.aload_n 0, 1) := by decide +kernel
theorem dX7_tollByMargins_6 : decode cX7_tollByMargins 6 = .ok (.getfield 10, 3) := by decide +kernel
theorem dX7_tollByMargins_9 : decode cX7_tollByMargins 9 = .ok (.getfield 92, 3) := by decide +kernel
theorem dX7_tollByMargins_12 : decode cX7_tollByMargins 12 = .ok (.if_icmp .ge 54, 3) := by decide +kernel
theorem dX7_tollByMargins_66 : decode cX7_tollByMargins 66 = .ok (.iload_n 1, 1) := by decide +kernel
theorem dX7_tollByMargins_67 : decode cX7_tollByMargins 67 = .ok (.ireturn, 1) := by decide +kernel
set_option maxHeartbeats 4000000 in
set_option maxRecDepth 100000 in
theorem k_X7_tollByMargins (l : Launch) (D : va_G) (cy : Nat → ClassId) (h1 : Nat) (h2 : Nat) (x3 : Value) (x4 : Value) (x5 : Value) (x6 : Value) (x7 : Value) (x8 : Value) (x9 : Value) (x10 : Value) (x11 : Value) : Met l yX7_tollByMargins wsX7_tollByMargins ({ frames := 0, cells := 0, slots := 0, locals := 0 }) (kR D cy [.ref h1] [(h1, .inr (9, [.ref h2, x3, x4, x5, x6, x7, x8])), (h2, .inr (2, [x9, x10, .int 0, x11]))]) (va_Qi (fun (r : Int32) (_ : Unit) => r = 0 ∧ True) (fun (_ : Unit) (_ : State) => True) (fun _ : Nat => False)) 0 0 (fun _ : Nat => False) := by
  refine Met.ofW (cc := cX7_tollByMargins) (maxL := 4) (ret := (some .int)) (by decide) rfl ?_
  intro p e s m args below meth c s₁ B hml hv
  obtain ⟨rfl, hP, hK⟩ := hv
  have hx := B.exec
  have hb := B.bytes
  have hr := B.returns
  have hts := atoms_spec (ws := wsX7_tollByMargins) B.pre
  have hown : s.vm.findClass RX7 = some m.cls := findClass_of_methodNamed B.named
  have hlocks := B.notSynchronized
  have hS : va_S (fun _ : Nat => False) s.heap s.heap [] := va_S.rf
  have hP : va_P D vwCl [(h1, .inr (9, [.ref h2, x3, x4, x5, x6, x7, x8])), (h2, .inr (2, [x9, x10, .int 0, x11]))] s.heap := hP
  have hl := lv_entry ([.ref h1]) (n := 4) (Nat.le_of_ble_eq_true rfl)
  rw [lg_entry_eq]
  generalize (lg_sl ([.ref h1]) ++ List.replicate (4 - (lg_sl ([.ref h1])).length) Slot.unset).toArray = ls at hl ⊢
  have hl : lv_has ls 4 [(0, .ref h1)] := hl
  refine lv_iconst (v := 0) hx hb dX7_tollByMargins_0 (by decide) ?_
  refine lv_istore_n (lv' := [(1, .int 0), (0, .ref h1)]) hx hb dX7_tollByMargins_1 rfl hl (by decide) rfl (fun ls hl => ?_)
  refine lv_iconst (v := 0) hx hb dX7_tollByMargins_2 (by decide) ?_
  refine lv_istore_n (lv' := [(2, .int 0), (1, .int 0), (0, .ref h1)]) hx hb dX7_tollByMargins_3 rfl hl (by decide) rfl (fun ls hl => ?_)
  refine lv_iload_n hx hb dX7_tollByMargins_4 rfl (lv_at hl 0 rfl) ?_
  refine lv_aload_n hx hb dX7_tollByMargins_5 rfl (lv_at hl 2 rfl) ?_
  refine va_get (D := D) (ci := 9) (v := .ref h2) (C := RX7) (T := TX7) (N := 7) hx hb hts (fun _ h => (List.mem_cons_of_mem _ (List.mem_append_left _ (List.mem_append_left _ (List.mem_append_left _ (List.mem_append_left _ (List.mem_append_right _ h))))))) hown hK hP 0 rfl rfl 0 (by decide) (hts (.fieldLink RX7 10 "SelfishJunction" "board" "LSelfishJunction$Board;") (List.mem_cons_of_mem _ (List.mem_append_left _ (List.mem_append_left _ (List.mem_append_left _ (List.mem_append_left _ (List.mem_append_left _ (List.mem_of_getElem? (i := 0) rfl)))))))) (fun _ h9 => h9) rfl dX7_tollByMargins_6 ?_
  refine va_get (D := D) (ci := 2) (v := .int 0) (C := RX0) (T := TX0) (N := 4) hx hb hts (fun _ h => (List.mem_cons_of_mem _ (List.mem_append_left _ (List.mem_append_left _ (List.mem_append_left _ (List.mem_append_right _ h)))))) hown hK hP 1 rfl rfl 2 (by decide) (hts (.fieldLink RX7 92 "SelfishJunction$Board" "resourceCount" "I") (List.mem_cons_of_mem _ (List.mem_append_left _ (List.mem_append_left _ (List.mem_append_left _ (List.mem_append_left _ (List.mem_append_left _ (List.mem_of_getElem? (i := 1) rfl)))))))) (fun _ h9 => h9) rfl dX7_tollByMargins_9 ?_
  refine lv_icmp_ge (tgt := 66) hx hb dX7_tollByMargins_12 (by decide) (fun _ => ?_) (fun h => absurd (by decide) h)
  refine lv_iload_n hx hb dX7_tollByMargins_66 rfl (lv_at hl 1 rfl) ?_
  refine W.widen (k := 0) (n := 0) (Nat.le_of_ble_eq_true rfl) (Nat.le_of_ble_eq_true rfl) ?_
  exact W.iret (v := 0) hx hb hr (fun t ht hW => ⟨⟨0, (), rfl, ⟨rfl, trivial⟩, trivial⟩, hS.F ht⟩) hS.2.2 dX7_tollByMargins_67
theorem dX8_tollByMargins_0 : decode cX8_tollByMargins 0 = .ok (.aload_n 0, 1) := by decide +kernel
theorem dX8_tollByMargins_1 : decode cX8_tollByMargins 1 = .ok (.iconst 0, 1) := by decide +kernel
theorem dX8_tollByMargins_2 : decode cX8_tollByMargins 2 = .ok (.putfield 59, 3) := by decide +kernel
theorem dX8_tollByMargins_5 : decode cX8_tollByMargins 5 = .ok (.iconst 0, 1) := by decide +kernel
theorem dX8_tollByMargins_6 : decode cX8_tollByMargins 6 = .ok (.istore_n 1, 1) := by decide +kernel
theorem dX8_tollByMargins_7 : decode cX8_tollByMargins 7 = .ok (.iconst 0, 1) := by decide +kernel
theorem dX8_tollByMargins_8 : decode cX8_tollByMargins 8 = .ok (.istore_n 2, 1) := by decide +kernel
theorem dX8_tollByMargins_9 : decode cX8_tollByMargins 9 = .ok (.iload_n 2, 1) := by decide +kernel
theorem dX8_tollByMargins_10 : decode cX8_tollByMargins 10 = .ok (.aload_n 0, 1) := by decide +kernel
theorem dX8_tollByMargins_11 : decode cX8_tollByMargins 11 = .ok (.getfield 62, 3) := by decide +kernel
theorem dX8_tollByMargins_14 : decode cX8_tollByMargins 14 = .ok (.if_icmp .ge 35, 3) := by decide +kernel
theorem dX8_tollByMargins_49 : decode cX8_tollByMargins 49 = .ok (.iload_n 1, 1) := by decide +kernel
theorem dX8_tollByMargins_50 : decode cX8_tollByMargins 50 = .ok (.ireturn, 1) := by decide +kernel
set_option maxHeartbeats 4000000 in
set_option maxRecDepth 100000 in
theorem k_X8_tollByMargins (l : Launch) (D : va_G) (cy : Nat → ClassId) (h1 : Nat) (x2 : Value) (x3 : Value) (x4 : Value) (x5 : Value) (x6 : Value) (x7 : Value) (x8 : Value) (x9 : Value) (x10 : Value) (x11 : Value) (x12 : Value) (x13 : Value) (x14 : Value) (x15 : Value) (x16 : Value) (x17 : Value) (x18 : Value) (sz : Nat) : Met l yX8_tollByMargins wsX8_tollByMargins ({ frames := 0, cells := 0, slots := 0, locals := 0 }) (kW D cy [.ref h1] [(h1, .inr (10, [x2, x3, x4, x5, x6, x7, x8, x9, x10, x11, x12, x13, x14, x15, .int 0, x16, x17, x18]))] sz) (va_Qi (fun (r : Int32) (_ : Unit) => r = 0 ∧ True) (fun (_ : Unit) (t : State) => va_P D vwCl [(h1, .inr (10, [x2, x3, x4, x5, x6, x7, x8, x9, x10, x11, x12, x13, x14, x15, .int 0, x16, x17, .int 0]))] t.heap ∧ va_D (va_A [(h1, .inr (10, [x2, x3, x4, x5, x6, x7, x8, x9, x10, x11, x12, x13, x14, x15, .int 0, x16, x17, x18]))] sz) [(h1, .inr (10, [x2, x3, x4, x5, x6, x7, x8, x9, x10, x11, x12, x13, x14, x15, .int 0, x16, x17, .int 0]))]) (va_A [(h1, .inr (10, [x2, x3, x4, x5, x6, x7, x8, x9, x10, x11, x12, x13, x14, x15, .int 0, x16, x17, x18]))] sz)) 0 0 (va_A [(h1, .inr (10, [x2, x3, x4, x5, x6, x7, x8, x9, x10, x11, x12, x13, x14, x15, .int 0, x16, x17, x18]))] sz) := by
  refine Met.ofW (cc := cX8_tollByMargins) (maxL := 3) (ret := (some .int)) (by decide) rfl ?_
  intro p e s m args below meth c s₁ B hml hv
  obtain ⟨rfl, hsz, hP, hK, hD0⟩ := hv
  have hx := B.exec
  have hb := B.bytes
  have hr := B.returns
  have hts := atoms_spec (ws := wsX8_tollByMargins) B.pre
  have hown : s.vm.findClass RX8 = some m.cls := findClass_of_methodNamed B.named
  have hlocks := B.notSynchronized
  subst hsz
  have hD := hD0.self (sz := s.heap.size)
  generalize hAe : va_A [(h1, .inr (10, [x2, x3, x4, x5, x6, x7, x8, x9, x10, x11, x12, x13, x14, x15, .int 0, x16, x17, x18]))] s.heap.size = A at hD ⊢
  have hA : ∀ q : Nat, s.heap.size ≤ q → A q := fun q h => by rw [← hAe]; exact Or.inr h
  have hS : va_S A s.heap s.heap [] := va_S.rf
  have hP : va_P D vwCl [(h1, .inr (10, [x2, x3, x4, x5, x6, x7, x8, x9, x10, x11, x12, x13, x14, x15, .int 0, x16, x17, x18]))] s.heap := hP
  have hl := lv_entry ([.ref h1]) (n := 3) (Nat.le_of_ble_eq_true rfl)
  rw [lg_entry_eq]
  generalize (lg_sl ([.ref h1]) ++ List.replicate (3 - (lg_sl ([.ref h1])).length) Slot.unset).toArray = ls at hl ⊢
  have hl : lv_has ls 3 [(0, .ref h1)] := hl
  refine lv_aload_n hx hb dX8_tollByMargins_0 rfl (lv_at hl 0 rfl) ?_
  refine lv_iconst (v := 0) hx hb dX8_tollByMargins_1 (by decide) ?_
  refine va_put (D := D) (ci := 10) (v := .int 0) (ty := .int) (C := RX8) (T := TX8) (N := 18) hx hb hts (fun _ h => (List.mem_cons_of_mem _ (List.mem_append_left _ (List.mem_append_left _ (List.mem_append_right _ h))))) tyX8 tyX8_ok nmX8 hown hK hP hD hS 0 rfl rfl 17 (by decide) (hts (.fieldLink RX8 59 "SelfishJunctionModel" "thrown" "I") (List.mem_cons_of_mem _ (List.mem_append_left _ (List.mem_append_left _ (List.mem_append_left _ (List.mem_append_left _ (List.mem_of_getElem? (i := 0) rfl))))))) (fun _ h9 => h9) rfl (by decide +kernel) rfl rfl (Nat.le_of_ble_eq_true rfl) dX8_tollByMargins_2 (fun H locs hP hD hS => ?_)
  have hP : va_P D vwCl [(h1, .inr (10, [x2, x3, x4, x5, x6, x7, x8, x9, x10, x11, x12, x13, x14, x15, .int 0, x16, x17, .int 0]))] H := hP
  have hD : va_D A [(h1, .inr (10, [x2, x3, x4, x5, x6, x7, x8, x9, x10, x11, x12, x13, x14, x15, .int 0, x16, x17, .int 0]))] := hD
  refine lv_iconst (v := 0) hx hb dX8_tollByMargins_5 (by decide) ?_
  refine lv_istore_n (lv' := [(1, .int 0), (0, .ref h1)]) hx hb dX8_tollByMargins_6 rfl hl (by decide) rfl (fun ls hl => ?_)
  refine lv_iconst (v := 0) hx hb dX8_tollByMargins_7 (by decide) ?_
  refine lv_istore_n (lv' := [(2, .int 0), (1, .int 0), (0, .ref h1)]) hx hb dX8_tollByMargins_8 rfl hl (by decide) rfl (fun ls hl => ?_)
  refine lv_iload_n hx hb dX8_tollByMargins_9 rfl (lv_at hl 0 rfl) ?_
  refine lv_aload_n hx hb dX8_tollByMargins_10 rfl (lv_at hl 2 rfl) ?_
  refine va_get (D := D) (ci := 10) (v := .int 0) (C := RX8) (T := TX8) (N := 18) hx hb hts (fun _ h => (List.mem_cons_of_mem _ (List.mem_append_left _ (List.mem_append_left _ (List.mem_append_right _ h))))) hown hK hP 0 rfl rfl 14 (by decide) (hts (.fieldLink RX8 62 "SelfishJunctionModel" "resources" "I") (List.mem_cons_of_mem _ (List.mem_append_left _ (List.mem_append_left _ (List.mem_append_left _ (List.mem_append_left _ (List.mem_of_getElem? (i := 1) rfl))))))) (fun _ h9 => h9) rfl dX8_tollByMargins_11 ?_
  refine lv_icmp_ge (tgt := 49) hx hb dX8_tollByMargins_14 (by decide) (fun _ => ?_) (fun h => absurd (by decide) h)
  refine lv_iload_n hx hb dX8_tollByMargins_49 rfl (lv_at hl 1 rfl) ?_
  refine W.widen (k := 0) (n := 0) (Nat.le_of_ble_eq_true rfl) (Nat.le_of_ble_eq_true rfl) ?_
  have hP9 := hP.sub (ws' := [(h1, .inr (10, [x2, x3, x4, x5, x6, x7, x8, x9, x10, x11, x12, x13, x14, x15, .int 0, x16, x17, .int 0]))]) [0] rfl
  have hD9 := hD.sub (ws' := [(h1, .inr (10, [x2, x3, x4, x5, x6, x7, x8, x9, x10, x11, x12, x13, x14, x15, .int 0, x16, x17, .int 0]))]) [0] (by decide) rfl
  exact W.iret (v := 0) hx hb hr (fun t ht hW => ⟨⟨0, (), rfl, ⟨rfl, trivial⟩, ⟨by rw [ht]; exact hP9, hD9⟩⟩, hS.F ht⟩) hS.2.2 dX8_tollByMargins_50
theorem dX7_setMind_0 : decode cX7_setMind 0 = .ok (.aload_n 0, 1) := by decide +kernel
theorem dX7_setMind_1 : decode cX7_setMind 1 = .ok (.iload_n 1, 1) := by decide +kernel
theorem dX7_setMind_2 : decode cX7_setMind 2 = .ok (.invokevirtual 88, 3) := by decide +kernel
set_option maxRecDepth 20000 in
theorem ggX7_setMind_X7_checkPlayer : GoodIn wsX7_setMind wsX7_checkPlayer := goodIn_ca (goodIn_r _ [8, 9, 10, 1, 11, 18, 19, 20, 21, 22, 23, 24, 25, 26, 27, 28] (by decide +kernel) (by decide +kernel)) (goodIn_sub (fun _ h => List.mem_cons_of_mem _ (List.mem_append_left _ (List.mem_append_right _ h))) (by decide +kernel))
set_option maxRecDepth 20000 in
theorem gX7_setMind_X7_checkPlayer : GoodIn wsX7_setMind (wsV RX7 88 RX7 yX7_checkPlayer wsX7_checkPlayer) := goodIn_app (goodIn_of _ (by decide +kernel)) ggX7_setMind_X7_checkPlayer
set_option maxHeartbeats 4000000 in
set_option maxRecDepth 100000 in
theorem k_X7_setMind (l : Launch) (hl9 : l.stackTraces = false) (D : va_G) (cy : Nat → ClassId) (h1 : Nat) (p0 : Int32) (p1 : Int32) (h2 : Nat) (x3 : Value) (x4 : Value) (x5 : Value) (x6 : Value) (x7 : Value) (x8 : Value) (x9 : Value) (x10 : Value) (x11 : Value) : vx_Met l yX7_setMind wsX7_setMind ({ frames := 7, cells := 1, slots := 6, locals := 103 }) (kRX D cy [.ref h1, .int p0, .int p1] [(h1, .inr (9, [.ref h2, x3, x4, x5, x6, x7, x8])), (h2, .inr (2, [x9, x10, x11, .int 0]))]) (va_Qi (fun (r : Int32) (_ : Unit) => False) (fun (_ : Unit) (_ : State) => True) (fun _ : Nat => False)) (vx_X (fun _ : Unit => True) (fun (E : String) (_ : Unit) (_ : State) => (E = "java/lang/IndexOutOfBoundsException" ∧ True)) (fun _ : Nat => False)) 1 6 (fun _ : Nat => False) := by
  refine vx_ofW (cc := cX7_setMind) (maxL := 4) (ret := (some .int)) (by decide) rfl ?_
  intro p e s m args below meth c s₁ B hml ht9 hv
  obtain ⟨rfl, hP, hK, hE⟩ := hv
  have hx := B.exec
  have hb := B.bytes
  have hr := B.returns
  have hts := atoms_spec (ws := wsX7_setMind) B.pre
  have hown : s.vm.findClass RX7 = some m.cls := findClass_of_methodNamed B.named
  have hlocks := B.notSynchronized
  have hS : va_S (fun _ : Nat => False) s.heap s.heap [] := va_S.rf
  have hP : va_P D vwCl [(h1, .inr (9, [.ref h2, x3, x4, x5, x6, x7, x8])), (h2, .inr (2, [x9, x10, x11, .int 0]))] s.heap := hP
  have hl := lv_entry ([.ref h1, .int p0, .int p1]) (n := 4) (Nat.le_of_ble_eq_true rfl)
  rw [lg_entry_eq]
  generalize (lg_sl ([.ref h1, .int p0, .int p1]) ++ List.replicate (4 - (lg_sl ([.ref h1, .int p0, .int p1])).length) Slot.unset).toArray = ls at hl ⊢
  have hl : lv_has ls 4 [(0, .ref h1), (1, .int p0), (2, .int p1)] := hl
  refine lv_aload_n hx hb dX7_setMind_0 rfl (lv_at hl 0 rfl) ?_
  refine lv_iload_n hx hb dX7_setMind_1 rfl (lv_at hl 1 rfl) ?_
  have hPc := hP.sub (ws' := [(h1, .inr (9, [.ref h2, x3, x4, x5, x6, x7, x8])), (h2, .inr (2, [x9, x10, x11, .int 0]))]) [0, 1] rfl
  refine vx_callv (vx_runV (As := [.int p0]) (rest := []) ⟨hx, hb, hml, hown, hts⟩ (k_X7_checkPlayer l hl9 D cy h1 p0 h2 (x3) (x4) (x5) (x6) (x7) (x8) (x9) (x10) (x11)) (cwV 1 hts gX7_setMind_X7_checkPlayer rfl rfl rfl (by decide +kernel) ⟨(Nat.le_of_ble_eq_true rfl), (Nat.le_of_ble_eq_true rfl)⟩) ⟨kRX_fb, va_recv hK hP (ci := 9) (q0 := 0) rfl rfl, (kRX_go hPc hK hE hS)⟩ rfl rfl hl.1 rfl (lv_room (Nat.le_of_ble_eq_true rfl)) dX7_setMind_2 ⟨(Nat.le_of_ble_eq_true rfl), (Nat.le_of_ble_eq_true rfl)⟩) hS (fun _ _ h => h.elim) (fun _ h => h.elim) (fun _ _ h => h.elim) (fun E9 ce9 q9 u t H locs ht hvm hw hB hz1 hk1 hS hce hcv hcl => ?_) (fun u t H locs ht hvm hw hB hz1 hk1 hS => ?_)
  · obtain ⟨rfl, hB⟩ := hB
    have f_1 : True := hB
    exact vx_out (fun x hx => (ht9 x hx).elim) hlocks hce hcv hcl (fun t ht _ => ⟨(), trivial, (⟨rfl, trivial⟩), hS.F ht⟩) hS.2.2 (Nat.le_of_ble_eq_true rfl) (Nat.le_of_ble_eq_true rfl)
  · exact (show False from hw).elim
theorem dL_setMind_0 : decode cL_setMind 0 = .ok (.aload_n 3, 1) := by decide +kernel
theorem dL_setMind_1 : decode cL_setMind 1 = .ok (.iconst 0, 1) := by decide +kernel
theorem dL_setMind_2 : decode cL_setMind 2 = .ok (.aload_n 0, 1) := by decide +kernel
theorem dL_setMind_3 : decode cL_setMind 3 = .ok (.iload_n 1, 1) := by decide +kernel
theorem dL_setMind_4 : decode cL_setMind 4 = .ok (.iload_n 2, 1) := by decide +kernel
theorem dL_setMind_5 : decode cL_setMind 5 = .ok (.invokevirtual 69, 3) := by decide +kernel
set_option maxRecDepth 20000 in
theorem ggL_setMind_X7_setMind : GoodIn wsL_setMind wsX7_setMind := goodIn_ca (goodIn_ca (goodIn_r _ [7, 8, 9, 10, 11, 12, 13, 6, 14, 15, 16, 17, 18, 19, 20, 21, 22, 23, 24, 25, 26, 27, 28, 29, 30, 31, 32, 33, 34, 35, 36, 37, 38, 39, 40] (by decide +kernel) (by decide +kernel)) (goodIn_sub (fun _ h => List.mem_cons_of_mem _ (List.mem_append_left _ (List.mem_append_right _ h))) (by decide +kernel))) (goodIn_sub (fun _ h => List.mem_cons_of_mem _ (List.mem_append_right _ h)) (by decide +kernel))
set_option maxRecDepth 20000 in
theorem gL_setMind_X7_setMind : GoodIn wsL_setMind (wsV RL 69 RX7 yX7_setMind wsX7_setMind) := goodIn_app (goodIn_of _ (by decide +kernel)) ggL_setMind_X7_setMind
theorem dL_setMind_13 : decode cL_setMind 13 = .ok (.astore 4, 2) := by decide +kernel
theorem dL_setMind_15 : decode cL_setMind 15 = .ok (.iconst 1, 1) := by decide +kernel
theorem dL_setMind_16 : decode cL_setMind 16 = .ok (.ireturn, 1) := by decide +kernel
set_option maxHeartbeats 4000000 in
set_option maxRecDepth 100000 in
theorem k_L_setMind (l : Launch) (hl9 : l.stackTraces = false) (D : va_G) (cy : Nat → ClassId) (h1 : Nat) (p1 : Int32) (p2 : Int32) (h2 : Nat) (h3 : Nat) (x4 : Value) (x5 : Value) (x6 : Value) (x7 : Value) (x8 : Value) (x9 : Value) (x10 : Value) (x11 : Value) (x12 : Value) : Met l yL_setMind wsL_setMind ({ frames := 8, cells := 1, slots := 6, locals := 126 }) (kRX D cy [.ref h1, .int p1, .int p2, .ref h2] [(h1, .inr (9, [.ref h3, x4, x5, x6, x7, x8, x9])), (h3, .inr (2, [x10, x11, x12, .int 0]))]) (va_Qi (fun (r : Int32) (_ : Unit) => r = 1 ∧ True) (fun (_ : Unit) (_ : State) => True) (fun _ : Nat => False)) 1 6 (fun _ : Nat => False) := by
  refine va_MetW (cc := cL_setMind) (maxL := 5) (ret := (some .int)) (by decide) rfl ?_
  intro p e s m args below meth c s₁ B hml hv
  obtain ⟨rfl, hP, hK, hE⟩ := hv
  have hx := B.exec
  have hb := B.bytes
  have hr := B.returns
  have hts := atoms_spec (ws := wsL_setMind) B.pre
  have hown : s.vm.findClass RL = some m.cls := findClass_of_methodNamed B.named
  have hlocks := B.notSynchronized
  have htb := vx_table (x := yL_setMind) B (hts _ (List.mem_cons_self))
  have hS : va_S (fun _ : Nat => False) s.heap s.heap [] := va_S.rf
  have hP : va_P D vwCl [(h1, .inr (9, [.ref h3, x4, x5, x6, x7, x8, x9])), (h3, .inr (2, [x10, x11, x12, .int 0]))] s.heap := hP
  have hl := lv_entry ([.ref h1, .int p1, .int p2, .ref h2]) (n := 5) (Nat.le_of_ble_eq_true rfl)
  rw [lg_entry_eq]
  generalize (lg_sl ([.ref h1, .int p1, .int p2, .ref h2]) ++ List.replicate (5 - (lg_sl ([.ref h1, .int p1, .int p2, .ref h2])).length) Slot.unset).toArray = ls at hl ⊢
  have hl : lv_has ls 5 [(0, .ref h1), (1, .int p1), (2, .int p2), (3, .ref h2)] := hl
  refine lv_aload_n hx hb dL_setMind_0 rfl (lv_at hl 3 rfl) ?_
  refine lv_iconst (v := 0) hx hb dL_setMind_1 (by decide) ?_
  refine lv_aload_n hx hb dL_setMind_2 rfl (lv_at hl 0 rfl) ?_
  refine lv_iload_n hx hb dL_setMind_3 rfl (lv_at hl 1 rfl) ?_
  refine lv_iload_n hx hb dL_setMind_4 rfl (lv_at hl 2 rfl) ?_
  have hPc := hP.sub (ws' := [(h1, .inr (9, [.ref h3, x4, x5, x6, x7, x8, x9])), (h3, .inr (2, [x10, x11, x12, .int 0]))]) [0, 1] rfl
  refine vx_calli (vx_runV (As := [.int p1, .int p2]) (rest := [.int 0, .ref h2]) ⟨hx, hb, hml, hown, hts⟩ (k_X7_setMind l hl9 D cy h1 p1 p2 h3 (x4) (x5) (x6) (x7) (x8) (x9) (x10) (x11) (x12)) (cwV 2 hts gL_setMind_X7_setMind rfl rfl rfl (by decide +kernel) ⟨(Nat.le_of_ble_eq_true rfl), (Nat.le_of_ble_eq_true rfl)⟩) ⟨kRX_fb, va_recv hK hP (ci := 9) (q0 := 0) rfl rfl, (kRX_go hPc hK hE hS)⟩ rfl rfl hl.1 rfl (lv_room (Nat.le_of_ble_eq_true rfl)) dL_setMind_5 ⟨(Nat.le_of_ble_eq_true rfl), (Nat.le_of_ble_eq_true rfl)⟩) hS (fun _ _ h => h.elim) (fun _ h => h.elim) (fun _ _ h => h.elim) (fun E9 ce9 q9 u t H locs ht hvm hw hB hz1 hk1 hS hce hcv hcl => ?_) (fun r9 u t H locs ht hvm hw hB hz1 hk1 hS => ?_)
  · obtain ⟨rfl, hB⟩ := hB
    have f_1 : True := hB
    have hP := kx_kept hP hk1
    refine vx_catch (E := "java/lang/IndexOutOfBoundsException") (name := "java/lang/IndexOutOfBoundsException") hown [] (⟨0, 10, 13, 28⟩ : ExceptionTableEntry) [(⟨0, 10, 17, 13⟩ : ExceptionTableEntry)] htb (fun _ h => absurd h List.not_mem_nil) rfl (by decide) (hts (.classLink RL 28 "java/lang/IndexOutOfBoundsException") (List.mem_cons_of_mem _ (List.mem_append_left _ (List.mem_append_left _ (List.mem_append_left _ (List.mem_append_left _ (List.mem_append_left _ (List.mem_append_left _ (List.mem_of_getElem? (i := 0) rfl))))))))) (exP.cast hE "java/lang/IndexOutOfBoundsException" (by decide +kernel)) hce hcv hcl ?_
    refine lv_astore (lv' := [(4, .ref q9), (0, .ref h1), (1, .int p1), (2, .int p2), (3, .ref h2)]) hx hb dL_setMind_13 hl (by decide) rfl (fun ls hl => ?_)
    refine lv_iconst (v := 1) hx hb dL_setMind_15 (by decide) ?_
    refine W.widen (k := 1) (n := 6) (Nat.le_of_ble_eq_true rfl) (Nat.le_of_ble_eq_true rfl) ?_
    exact W.iret (v := 1) hx hb hr (fun t ht hW => ⟨⟨1, (), rfl, ⟨rfl, trivial⟩, trivial⟩, hS.F ht⟩) hS.2.2 dL_setMind_16
  · exact (show False from hw).elim
theorem dX8_setMind_0 : decode cX8_setMind 0 = .ok (.aload_n 0, 1) := by decide +kernel
theorem dX8_setMind_1 : decode cX8_setMind 1 = .ok (.aload_n 0, 1) := by decide +kernel
theorem dX8_setMind_2 : decode cX8_setMind 2 = .ok (.iload_n 1, 1) := by decide +kernel
theorem dX8_setMind_3 : decode cX8_setMind 3 = .ok (.invokevirtual 100, 3) := by decide +kernel
set_option maxRecDepth 20000 in
theorem ggX8_setMind_X8_isNone : GoodIn wsX8_setMind wsX8_isNone := goodIn_r _ [6, 7, 8, 9, 5, 10, 16, 17, 18, 19, 20, 21, 22, 23, 24, 25, 26, 27, 28, 29, 30, 31, 32, 33] (by decide +kernel) (by decide +kernel)
set_option maxRecDepth 20000 in
theorem gX8_setMind_X8_isNone : GoodIn wsX8_setMind (wsV RX8 100 RX8 yX8_isNone wsX8_isNone) := goodIn_app (goodIn_of _ (by decide +kernel)) ggX8_setMind_X8_isNone
theorem dX8_setMind_6 : decode cX8_setMind 6 = .ok (.iconst 1, 1) := by decide +kernel
theorem dX8_setMind_7 : decode cX8_setMind 7 = .ok (.invokevirtual 73, 3) := by decide +kernel
set_option maxRecDepth 20000 in
theorem ggX8_setMind_X8_isThrown : GoodIn wsX8_setMind wsX8_isThrown := goodIn_r _ [14, 15, 16, 17, 18, 19, 20, 21, 22, 23, 24, 25, 26, 27, 28, 29, 30, 31, 32, 33] (by decide +kernel) (by decide +kernel)
set_option maxRecDepth 20000 in
theorem gX8_setMind_X8_isThrown : GoodIn wsX8_setMind (wsV RX8 73 RX8 yX8_isThrown wsX8_isThrown) := goodIn_app (goodIn_of _ (by decide +kernel)) ggX8_setMind_X8_isThrown
theorem dX8_setMind_10 : decode cX8_setMind 10 = .ok (.ifCond .ne 26, 3) := by decide +kernel
theorem dX8_setMind_36 : decode cX8_setMind 36 = .ok (.iconst 0, 1) := by decide +kernel
theorem dX8_setMind_37 : decode cX8_setMind 37 = .ok (.ireturn, 1) := by decide +kernel
set_option maxHeartbeats 4000000 in
set_option maxRecDepth 100000 in
theorem k_X8_setMind (l : Launch) (D : va_G) (cy : Nat → ClassId) (h1 : Nat) (p0 : Int32) (p1 : Int32) (x2 : Value) (x3 : Value) (x4 : Value) (x5 : Value) (x6 : Value) (x7 : Value) (x8 : Value) (x9 : Value) (x10 : Value) (x11 : Value) (x12 : Value) (x13 : Value) (x14 : Value) (x15 : Value) (x16 : Value) (x17 : Value) (x18 : Value) (sz : Nat) : Met l yX8_setMind wsX8_setMind ({ frames := 2, cells := 0, slots := 0, locals := 43 }) (kW D cy [.ref h1, .int p0, .int p1] [(h1, .inr (10, [x2, x3, x4, x5, x6, x7, x8, x9, x10, x11, x12, x13, x14, x15, x16, .int 0, x17, x18]))] sz) (va_Qi (fun (r : Int32) (_ : Unit) => r = 0 ∧ True) (fun (_ : Unit) (t : State) => va_P D vwCl [(h1, .inr (10, [x2, x3, x4, x5, x6, x7, x8, x9, x10, x11, x12, x13, x14, x15, x16, .int 0, x17, .int 1]))] t.heap ∧ va_D (va_A [(h1, .inr (10, [x2, x3, x4, x5, x6, x7, x8, x9, x10, x11, x12, x13, x14, x15, x16, .int 0, x17, x18]))] sz) [(h1, .inr (10, [x2, x3, x4, x5, x6, x7, x8, x9, x10, x11, x12, x13, x14, x15, x16, .int 0, x17, .int 1]))]) (va_A [(h1, .inr (10, [x2, x3, x4, x5, x6, x7, x8, x9, x10, x11, x12, x13, x14, x15, x16, .int 0, x17, x18]))] sz)) 0 0 (va_A [(h1, .inr (10, [x2, x3, x4, x5, x6, x7, x8, x9, x10, x11, x12, x13, x14, x15, x16, .int 0, x17, x18]))] sz) := by
  refine Met.ofW (cc := cX8_setMind) (maxL := 4) (ret := (some .int)) (by decide) rfl ?_
  intro p e s m args below meth c s₁ B hml hv
  obtain ⟨rfl, hsz, hP, hK, hD0⟩ := hv
  have hx := B.exec
  have hb := B.bytes
  have hr := B.returns
  have hts := atoms_spec (ws := wsX8_setMind) B.pre
  have hown : s.vm.findClass RX8 = some m.cls := findClass_of_methodNamed B.named
  have hlocks := B.notSynchronized
  subst hsz
  have hD := hD0.self (sz := s.heap.size)
  generalize hAe : va_A [(h1, .inr (10, [x2, x3, x4, x5, x6, x7, x8, x9, x10, x11, x12, x13, x14, x15, x16, .int 0, x17, x18]))] s.heap.size = A at hD ⊢
  have hA : ∀ q : Nat, s.heap.size ≤ q → A q := fun q h => by rw [← hAe]; exact Or.inr h
  have hS : va_S A s.heap s.heap [] := va_S.rf
  have hP : va_P D vwCl [(h1, .inr (10, [x2, x3, x4, x5, x6, x7, x8, x9, x10, x11, x12, x13, x14, x15, x16, .int 0, x17, x18]))] s.heap := hP
  have hl := lv_entry ([.ref h1, .int p0, .int p1]) (n := 4) (Nat.le_of_ble_eq_true rfl)
  rw [lg_entry_eq]
  generalize (lg_sl ([.ref h1, .int p0, .int p1]) ++ List.replicate (4 - (lg_sl ([.ref h1, .int p0, .int p1])).length) Slot.unset).toArray = ls at hl ⊢
  have hl : lv_has ls 4 [(0, .ref h1), (1, .int p0), (2, .int p1)] := hl
  refine lv_aload_n hx hb dX8_setMind_0 rfl (lv_at hl 0 rfl) ?_
  refine lv_aload_n hx hb dX8_setMind_1 rfl (lv_at hl 0 rfl) ?_
  refine lv_iload_n hx hb dX8_setMind_2 rfl (lv_at hl 1 rfl) ?_
  have hPc := hP.sub (ws' := [(h1, .inr (10, [x2, x3, x4, x5, x6, x7, x8, x9, x10, x11, x12, x13, x14, x15, x16, .int 0, x17, x18]))]) [0] rfl
  refine va_calli (va_runV (As := [.int p0]) (rest := [.ref h1]) ⟨hx, hb, hml, hown, hts⟩ (k_X8_isNone l D cy h1 p0 (x2) (x3) (x4) (x5) (x6) (x7) (x8) (x9) (x10) (x11) (x12) (x13) (x14) (x15) (x16) (x17) (x18)) (cwV 1 hts gX8_setMind_X8_isNone rfl rfl rfl (by decide +kernel) ⟨(Nat.le_of_ble_eq_true rfl), (Nat.le_of_ble_eq_true rfl)⟩) ⟨kR_fb, va_recv hK hP (ci := 10) (q0 := 0) rfl rfl, (kR_go hPc hK)⟩ rfl rfl hl.1 rfl (lv_room (Nat.le_of_ble_eq_true rfl)) dX8_setMind_3 ⟨(Nat.le_of_ble_eq_true rfl), (Nat.le_of_ble_eq_true rfl)⟩) hS (fun _ _ h => h.elim) (fun _ h => h.elim) (fun r9 u t H locs ht hvm hw hB hz1 hk1 hS => ?_)
  have hP := kx_kept hP hk1
  obtain ⟨rfl, hw⟩ := hw
  refine lv_iconst (v := 1) hx hb dX8_setMind_6 (by decide) ?_
  have hPc := hP.sub (ws' := [(h1, .inr (10, [x2, x3, x4, x5, x6, x7, x8, x9, x10, x11, x12, x13, x14, x15, x16, .int 0, x17, x18]))]) [0] rfl
  have hDc := hD.sub (ws' := [(h1, .inr (10, [x2, x3, x4, x5, x6, x7, x8, x9, x10, x11, x12, x13, x14, x15, x16, .int 0, x17, x18]))]) [0] (by decide) rfl
  have hFc := va_free (wc := [(h1, .inr (10, [x2, x3, x4, x5, x6, x7, x8, x9, x10, x11, x12, x13, x14, x15, x16, .int 0, x17, x18]))]) hD hS hA [0] rfl
  refine va_calli (va_runV (As := [.int 1, .int 1]) (rest := []) ⟨hx, hb, hml, hown, hts⟩ (k_X8_isThrown l D cy h1 (x2) (x3) (x4) (x5) (x6) (x7) (x8) (x9) (x10) (x11) (x12) (x13) (x14) (x15) (x16) (.int 0) (x17) (x18) H.size) (cwV 2 hts gX8_setMind_X8_isThrown rfl rfl rfl (by decide +kernel) ⟨(Nat.le_of_ble_eq_true rfl), (Nat.le_of_ble_eq_true rfl)⟩) ⟨kW_fb, va_recv hK hP (ci := 10) (q0 := 0) rfl rfl, (kW_go hPc hK hDc)⟩ rfl rfl hl.1 rfl (lv_room (Nat.le_of_ble_eq_true rfl)) dX8_setMind_7 ⟨(Nat.le_of_ble_eq_true rfl), (Nat.le_of_ble_eq_true rfl)⟩) hS (fun q _ h => hFc q h) hFc (fun r9 u t H locs ht hvm hw hB hz1 hk1 hS => ?_)
  obtain ⟨hP1, hD1⟩ := hB
  rw [ht] at hP1
  try dsimp only at hw hP1 hD1
  obtain ⟨hP, hD⟩ := va_join (wr := []) (w1 := [(h1, .inr (10, [x2, x3, x4, x5, x6, x7, x8, x9, x10, x11, x12, x13, x14, x15, x16, .int 0, x17, .int 1]))]) hP hD [0] [] rfl rfl (by decide) (by decide) hk1 hFc hP1 hD1
  have hP : va_P D vwCl [(h1, .inr (10, [x2, x3, x4, x5, x6, x7, x8, x9, x10, x11, x12, x13, x14, x15, x16, .int 0, x17, .int 1]))] H := hP
  have hD : va_D A [(h1, .inr (10, [x2, x3, x4, x5, x6, x7, x8, x9, x10, x11, x12, x13, x14, x15, x16, .int 0, x17, .int 1]))] := hD
  obtain ⟨rfl, hw⟩ := hw
  refine lv_if_ne (tgt := 36) hx hb dX8_setMind_10 (by decide) (fun _ => ?_) (fun h => absurd h (by decide))
  refine lv_iconst (v := 0) hx hb dX8_setMind_36 (by decide) ?_
  refine W.widen (k := 0) (n := 0) (Nat.le_of_ble_eq_true rfl) (Nat.le_of_ble_eq_true rfl) ?_
  have hP9 := hP.sub (ws' := [(h1, .inr (10, [x2, x3, x4, x5, x6, x7, x8, x9, x10, x11, x12, x13, x14, x15, x16, .int 0, x17, .int 1]))]) [0] rfl
  have hD9 := hD.sub (ws' := [(h1, .inr (10, [x2, x3, x4, x5, x6, x7, x8, x9, x10, x11, x12, x13, x14, x15, x16, .int 0, x17, .int 1]))]) [0] (by decide) rfl
  exact W.iret (v := 0) hx hb hr (fun t ht hW => ⟨⟨0, (), rfl, ⟨rfl, trivial⟩, ⟨by rw [ht]; exact hP9, hD9⟩⟩, hS.F ht⟩) hS.2.2 dX8_setMind_37
theorem dX7_lead_0 : decode cX7_lead 0 = .ok (.aload_n 0, 1) := by decide +kernel
theorem dX7_lead_1 : decode cX7_lead 1 = .ok (.iload_n 1, 1) := by decide +kernel
theorem dX7_lead_2 : decode cX7_lead 2 = .ok (.invokevirtual 88, 3) := by decide +kernel
set_option maxRecDepth 20000 in
theorem ggX7_lead_X7_checkPlayer : GoodIn wsX7_lead wsX7_checkPlayer := goodIn_ca (goodIn_r _ [8, 9, 10, 1, 11, 12, 13, 14, 15, 16, 17, 18, 19, 20, 21, 22] (by decide +kernel) (by decide +kernel)) (goodIn_sub (fun _ h => List.mem_cons_of_mem _ (List.mem_append_right _ h)) (by decide +kernel))
set_option maxRecDepth 20000 in
theorem gX7_lead_X7_checkPlayer : GoodIn wsX7_lead (wsV RX7 88 RX7 yX7_checkPlayer wsX7_checkPlayer) := goodIn_app (goodIn_of _ (by decide +kernel)) ggX7_lead_X7_checkPlayer
set_option maxHeartbeats 4000000 in
set_option maxRecDepth 100000 in
theorem k_X7_lead (l : Launch) (hl9 : l.stackTraces = false) (D : va_G) (cy : Nat → ClassId) (h1 : Nat) (p0 : Int32) (h2 : Nat) (x3 : Value) (x4 : Value) (x5 : Value) (x6 : Value) (x7 : Value) (x8 : Value) (x9 : Value) (x10 : Value) (x11 : Value) : vx_Met l yX7_lead wsX7_lead ({ frames := 7, cells := 1, slots := 6, locals := 103 }) (kRX D cy [.ref h1, .int p0, .int 0] [(h1, .inr (9, [.ref h2, x3, x4, x5, x6, x7, x8])), (h2, .inr (2, [x9, x10, x11, .int 0]))]) (va_Qi (fun (r : Int32) (_ : Unit) => False) (fun (_ : Unit) (_ : State) => True) (fun _ : Nat => False)) (vx_X (fun _ : Unit => True) (fun (E : String) (_ : Unit) (_ : State) => (E = "java/lang/IndexOutOfBoundsException" ∧ True)) (fun _ : Nat => False)) 1 6 (fun _ : Nat => False) := by
  refine vx_ofW (cc := cX7_lead) (maxL := 4) (ret := (some .boolean)) (by decide) rfl ?_
  intro p e s m args below meth c s₁ B hml ht9 hv
  obtain ⟨rfl, hP, hK, hE⟩ := hv
  have hx := B.exec
  have hb := B.bytes
  have hr := B.returns
  have hts := atoms_spec (ws := wsX7_lead) B.pre
  have hown : s.vm.findClass RX7 = some m.cls := findClass_of_methodNamed B.named
  have hlocks := B.notSynchronized
  have hS : va_S (fun _ : Nat => False) s.heap s.heap [] := va_S.rf
  have hP : va_P D vwCl [(h1, .inr (9, [.ref h2, x3, x4, x5, x6, x7, x8])), (h2, .inr (2, [x9, x10, x11, .int 0]))] s.heap := hP
  have hl := lv_entry ([.ref h1, .int p0, .int 0]) (n := 4) (Nat.le_of_ble_eq_true rfl)
  rw [lg_entry_eq]
  generalize (lg_sl ([.ref h1, .int p0, .int 0]) ++ List.replicate (4 - (lg_sl ([.ref h1, .int p0, .int 0])).length) Slot.unset).toArray = ls at hl ⊢
  have hl : lv_has ls 4 [(0, .ref h1), (1, .int p0), (2, .int 0)] := hl
  refine lv_aload_n hx hb dX7_lead_0 rfl (lv_at hl 0 rfl) ?_
  refine lv_iload_n hx hb dX7_lead_1 rfl (lv_at hl 1 rfl) ?_
  have hPc := hP.sub (ws' := [(h1, .inr (9, [.ref h2, x3, x4, x5, x6, x7, x8])), (h2, .inr (2, [x9, x10, x11, .int 0]))]) [0, 1] rfl
  refine vx_callv (vx_runV (As := [.int p0]) (rest := []) ⟨hx, hb, hml, hown, hts⟩ (k_X7_checkPlayer l hl9 D cy h1 p0 h2 (x3) (x4) (x5) (x6) (x7) (x8) (x9) (x10) (x11)) (cwV 1 hts gX7_lead_X7_checkPlayer rfl rfl rfl (by decide +kernel) ⟨(Nat.le_of_ble_eq_true rfl), (Nat.le_of_ble_eq_true rfl)⟩) ⟨kRX_fb, va_recv hK hP (ci := 9) (q0 := 0) rfl rfl, (kRX_go hPc hK hE hS)⟩ rfl rfl hl.1 rfl (lv_room (Nat.le_of_ble_eq_true rfl)) dX7_lead_2 ⟨(Nat.le_of_ble_eq_true rfl), (Nat.le_of_ble_eq_true rfl)⟩) hS (fun _ _ h => h.elim) (fun _ h => h.elim) (fun _ _ h => h.elim) (fun E9 ce9 q9 u t H locs ht hvm hw hB hz1 hk1 hS hce hcv hcl => ?_) (fun u t H locs ht hvm hw hB hz1 hk1 hS => ?_)
  · obtain ⟨rfl, hB⟩ := hB
    have f_1 : True := hB
    exact vx_out (fun x hx => (ht9 x hx).elim) hlocks hce hcv hcl (fun t ht _ => ⟨(), trivial, (⟨rfl, trivial⟩), hS.F ht⟩) hS.2.2 (Nat.le_of_ble_eq_true rfl) (Nat.le_of_ble_eq_true rfl)
  · exact (show False from hw).elim
theorem dL_lead_0 : decode cL_lead 0 = .ok (.aload_n 3, 1) := by decide +kernel
theorem dL_lead_1 : decode cL_lead 1 = .ok (.iconst 0, 1) := by decide +kernel
theorem dL_lead_2 : decode cL_lead 2 = .ok (.aload_n 0, 1) := by decide +kernel
theorem dL_lead_3 : decode cL_lead 3 = .ok (.iload_n 1, 1) := by decide +kernel
theorem dL_lead_4 : decode cL_lead 4 = .ok (.iload_n 2, 1) := by decide +kernel
theorem dL_lead_5 : decode cL_lead 5 = .ok (.invokevirtual 72, 3) := by decide +kernel
set_option maxRecDepth 20000 in
theorem ggL_lead_X7_lead : GoodIn wsL_lead wsX7_lead := goodIn_ca (goodIn_r _ [6, 7, 8, 9, 10, 11, 12, 5, 13, 14, 15, 16, 17, 18, 19, 20, 21, 22, 23, 24, 25, 26, 27, 28, 29, 30, 31, 32, 33] (by decide +kernel) (by decide +kernel)) (goodIn_sub (fun _ h => List.mem_cons_of_mem _ (List.mem_append_right _ h)) (by decide +kernel))
set_option maxRecDepth 20000 in
theorem gL_lead_X7_lead : GoodIn wsL_lead (wsV RL 72 RX7 yX7_lead wsX7_lead) := goodIn_app (goodIn_of _ (by decide +kernel)) ggL_lead_X7_lead
theorem dL_lead_20 : decode cL_lead 20 = .ok (.astore 4, 2) := by decide +kernel
theorem dL_lead_22 : decode cL_lead 22 = .ok (.iconst 1, 1) := by decide +kernel
theorem dL_lead_23 : decode cL_lead 23 = .ok (.ireturn, 1) := by decide +kernel
set_option maxHeartbeats 4000000 in
set_option maxRecDepth 100000 in
theorem k_L_lead (l : Launch) (hl9 : l.stackTraces = false) (D : va_G) (cy : Nat → ClassId) (h1 : Nat) (p1 : Int32) (h2 : Nat) (h3 : Nat) (x4 : Value) (x5 : Value) (x6 : Value) (x7 : Value) (x8 : Value) (x9 : Value) (x10 : Value) (x11 : Value) (x12 : Value) : Met l yL_lead wsL_lead ({ frames := 8, cells := 1, slots := 6, locals := 126 }) (kRX D cy [.ref h1, .int p1, .int 0, .ref h2] [(h1, .inr (9, [.ref h3, x4, x5, x6, x7, x8, x9])), (h3, .inr (2, [x10, x11, x12, .int 0]))]) (va_Qi (fun (r : Int32) (_ : Unit) => r = 1 ∧ True) (fun (_ : Unit) (_ : State) => True) (fun _ : Nat => False)) 1 6 (fun _ : Nat => False) := by
  refine va_MetW (cc := cL_lead) (maxL := 5) (ret := (some .int)) (by decide) rfl ?_
  intro p e s m args below meth c s₁ B hml hv
  obtain ⟨rfl, hP, hK, hE⟩ := hv
  have hx := B.exec
  have hb := B.bytes
  have hr := B.returns
  have hts := atoms_spec (ws := wsL_lead) B.pre
  have hown : s.vm.findClass RL = some m.cls := findClass_of_methodNamed B.named
  have hlocks := B.notSynchronized
  have htb := vx_table (x := yL_lead) B (hts _ (List.mem_cons_self))
  have hS : va_S (fun _ : Nat => False) s.heap s.heap [] := va_S.rf
  have hP : va_P D vwCl [(h1, .inr (9, [.ref h3, x4, x5, x6, x7, x8, x9])), (h3, .inr (2, [x10, x11, x12, .int 0]))] s.heap := hP
  have hl := lv_entry ([.ref h1, .int p1, .int 0, .ref h2]) (n := 5) (Nat.le_of_ble_eq_true rfl)
  rw [lg_entry_eq]
  generalize (lg_sl ([.ref h1, .int p1, .int 0, .ref h2]) ++ List.replicate (5 - (lg_sl ([.ref h1, .int p1, .int 0, .ref h2])).length) Slot.unset).toArray = ls at hl ⊢
  have hl : lv_has ls 5 [(0, .ref h1), (1, .int p1), (2, .int 0), (3, .ref h2)] := hl
  refine lv_aload_n hx hb dL_lead_0 rfl (lv_at hl 3 rfl) ?_
  refine lv_iconst (v := 0) hx hb dL_lead_1 (by decide) ?_
  refine lv_aload_n hx hb dL_lead_2 rfl (lv_at hl 0 rfl) ?_
  refine lv_iload_n hx hb dL_lead_3 rfl (lv_at hl 1 rfl) ?_
  refine lv_iload_n hx hb dL_lead_4 rfl (lv_at hl 2 rfl) ?_
  have hPc := hP.sub (ws' := [(h1, .inr (9, [.ref h3, x4, x5, x6, x7, x8, x9])), (h3, .inr (2, [x10, x11, x12, .int 0]))]) [0, 1] rfl
  refine vx_calli (vx_runV (As := [.int p1, .int 0]) (rest := [.int 0, .ref h2]) ⟨hx, hb, hml, hown, hts⟩ (k_X7_lead l hl9 D cy h1 p1 h3 (x4) (x5) (x6) (x7) (x8) (x9) (x10) (x11) (x12)) (cwV 2 hts gL_lead_X7_lead rfl rfl rfl (by decide +kernel) ⟨(Nat.le_of_ble_eq_true rfl), (Nat.le_of_ble_eq_true rfl)⟩) ⟨kRX_fb, va_recv hK hP (ci := 9) (q0 := 0) rfl rfl, (kRX_go hPc hK hE hS)⟩ rfl rfl hl.1 rfl (lv_room (Nat.le_of_ble_eq_true rfl)) dL_lead_5 ⟨(Nat.le_of_ble_eq_true rfl), (Nat.le_of_ble_eq_true rfl)⟩) hS (fun _ _ h => h.elim) (fun _ h => h.elim) (fun _ _ h => h.elim) (fun E9 ce9 q9 u t H locs ht hvm hw hB hz1 hk1 hS hce hcv hcl => ?_) (fun r9 u t H locs ht hvm hw hB hz1 hk1 hS => ?_)
  · obtain ⟨rfl, hB⟩ := hB
    have f_1 : True := hB
    have hP := kx_kept hP hk1
    refine vx_catch (E := "java/lang/IndexOutOfBoundsException") (name := "java/lang/IndexOutOfBoundsException") hown [] (⟨0, 17, 20, 28⟩ : ExceptionTableEntry) [] htb (fun _ h => absurd h List.not_mem_nil) rfl (by decide) (hts (.classLink RL 28 "java/lang/IndexOutOfBoundsException") (List.mem_cons_of_mem _ (List.mem_append_left _ (List.mem_append_left _ (List.mem_append_left _ (List.mem_append_left _ (List.mem_append_left _ (List.mem_of_getElem? (i := 0) rfl)))))))) (exP.cast hE "java/lang/IndexOutOfBoundsException" (by decide +kernel)) hce hcv hcl ?_
    refine lv_astore (lv' := [(4, .ref q9), (0, .ref h1), (1, .int p1), (2, .int 0), (3, .ref h2)]) hx hb dL_lead_20 hl (by decide) rfl (fun ls hl => ?_)
    refine lv_iconst (v := 1) hx hb dL_lead_22 (by decide) ?_
    refine W.widen (k := 1) (n := 6) (Nat.le_of_ble_eq_true rfl) (Nat.le_of_ble_eq_true rfl) ?_
    exact W.iret (v := 1) hx hb hr (fun t ht hW => ⟨⟨1, (), rfl, ⟨rfl, trivial⟩, trivial⟩, hS.F ht⟩) hS.2.2 dL_lead_23
  · exact (show False from hw).elim
theorem dX8_lead_0 : decode cX8_lead 0 = .ok (.aload_n 0, 1) := by decide +kernel
theorem dX8_lead_1 : decode cX8_lead 1 = .ok (.aload_n 0, 1) := by decide +kernel
theorem dX8_lead_2 : decode cX8_lead 2 = .ok (.iload_n 1, 1) := by decide +kernel
theorem dX8_lead_3 : decode cX8_lead 3 = .ok (.invokevirtual 100, 3) := by decide +kernel
set_option maxRecDepth 20000 in
theorem ggX8_lead_X8_isNone : GoodIn wsX8_lead wsX8_isNone := goodIn_r _ [6, 7, 8, 9, 5, 10, 16, 17, 18, 19, 20, 21, 22, 23, 24, 25, 26, 27, 28, 29, 30, 31, 32, 33] (by decide +kernel) (by decide +kernel)
set_option maxRecDepth 20000 in
theorem gX8_lead_X8_isNone : GoodIn wsX8_lead (wsV RX8 100 RX8 yX8_isNone wsX8_isNone) := goodIn_app (goodIn_of _ (by decide +kernel)) ggX8_lead_X8_isNone
theorem dX8_lead_6 : decode cX8_lead 6 = .ok (.iconst 1, 1) := by decide +kernel
theorem dX8_lead_7 : decode cX8_lead 7 = .ok (.invokevirtual 73, 3) := by decide +kernel
set_option maxRecDepth 20000 in
theorem ggX8_lead_X8_isThrown : GoodIn wsX8_lead wsX8_isThrown := goodIn_r _ [14, 15, 16, 17, 18, 19, 20, 21, 22, 23, 24, 25, 26, 27, 28, 29, 30, 31, 32, 33] (by decide +kernel) (by decide +kernel)
set_option maxRecDepth 20000 in
theorem gX8_lead_X8_isThrown : GoodIn wsX8_lead (wsV RX8 73 RX8 yX8_isThrown wsX8_isThrown) := goodIn_app (goodIn_of _ (by decide +kernel)) ggX8_lead_X8_isThrown
theorem dX8_lead_10 : decode cX8_lead 10 = .ok (.ifCond .eq 5, 3) := by decide +kernel
theorem dX8_lead_13 : decode cX8_lead 13 = .ok (.iconst 0, 1) := by decide +kernel
theorem dX8_lead_14 : decode cX8_lead 14 = .ok (.ireturn, 1) := by decide +kernel
set_option maxHeartbeats 4000000 in
set_option maxRecDepth 100000 in
theorem k_X8_lead (l : Launch) (D : va_G) (cy : Nat → ClassId) (h1 : Nat) (p0 : Int32) (x2 : Value) (x3 : Value) (x4 : Value) (x5 : Value) (x6 : Value) (x7 : Value) (x8 : Value) (x9 : Value) (x10 : Value) (x11 : Value) (x12 : Value) (x13 : Value) (x14 : Value) (x15 : Value) (x16 : Value) (x17 : Value) (x18 : Value) (sz : Nat) : Met l yX8_lead wsX8_lead ({ frames := 2, cells := 0, slots := 0, locals := 43 }) (kW D cy [.ref h1, .int p0, .int 0] [(h1, .inr (10, [x2, x3, x4, x5, x6, x7, x8, x9, x10, x11, x12, x13, x14, x15, x16, .int 0, x17, x18]))] sz) (va_Qi (fun (r : Int32) (_ : Unit) => r = 0 ∧ True) (fun (_ : Unit) (t : State) => va_P D vwCl [(h1, .inr (10, [x2, x3, x4, x5, x6, x7, x8, x9, x10, x11, x12, x13, x14, x15, x16, .int 0, x17, .int 1]))] t.heap ∧ va_D (va_A [(h1, .inr (10, [x2, x3, x4, x5, x6, x7, x8, x9, x10, x11, x12, x13, x14, x15, x16, .int 0, x17, x18]))] sz) [(h1, .inr (10, [x2, x3, x4, x5, x6, x7, x8, x9, x10, x11, x12, x13, x14, x15, x16, .int 0, x17, .int 1]))]) (va_A [(h1, .inr (10, [x2, x3, x4, x5, x6, x7, x8, x9, x10, x11, x12, x13, x14, x15, x16, .int 0, x17, x18]))] sz)) 0 0 (va_A [(h1, .inr (10, [x2, x3, x4, x5, x6, x7, x8, x9, x10, x11, x12, x13, x14, x15, x16, .int 0, x17, x18]))] sz) := by
  refine Met.ofW (cc := cX8_lead) (maxL := 4) (ret := (some .boolean)) (by decide) rfl ?_
  intro p e s m args below meth c s₁ B hml hv
  obtain ⟨rfl, hsz, hP, hK, hD0⟩ := hv
  have hx := B.exec
  have hb := B.bytes
  have hr := B.returns
  have hts := atoms_spec (ws := wsX8_lead) B.pre
  have hown : s.vm.findClass RX8 = some m.cls := findClass_of_methodNamed B.named
  have hlocks := B.notSynchronized
  subst hsz
  have hD := hD0.self (sz := s.heap.size)
  generalize hAe : va_A [(h1, .inr (10, [x2, x3, x4, x5, x6, x7, x8, x9, x10, x11, x12, x13, x14, x15, x16, .int 0, x17, x18]))] s.heap.size = A at hD ⊢
  have hA : ∀ q : Nat, s.heap.size ≤ q → A q := fun q h => by rw [← hAe]; exact Or.inr h
  have hS : va_S A s.heap s.heap [] := va_S.rf
  have hP : va_P D vwCl [(h1, .inr (10, [x2, x3, x4, x5, x6, x7, x8, x9, x10, x11, x12, x13, x14, x15, x16, .int 0, x17, x18]))] s.heap := hP
  have hl := lv_entry ([.ref h1, .int p0, .int 0]) (n := 4) (Nat.le_of_ble_eq_true rfl)
  rw [lg_entry_eq]
  generalize (lg_sl ([.ref h1, .int p0, .int 0]) ++ List.replicate (4 - (lg_sl ([.ref h1, .int p0, .int 0])).length) Slot.unset).toArray = ls at hl ⊢
  have hl : lv_has ls 4 [(0, .ref h1), (1, .int p0), (2, .int 0)] := hl
  refine lv_aload_n hx hb dX8_lead_0 rfl (lv_at hl 0 rfl) ?_
  refine lv_aload_n hx hb dX8_lead_1 rfl (lv_at hl 0 rfl) ?_
  refine lv_iload_n hx hb dX8_lead_2 rfl (lv_at hl 1 rfl) ?_
  have hPc := hP.sub (ws' := [(h1, .inr (10, [x2, x3, x4, x5, x6, x7, x8, x9, x10, x11, x12, x13, x14, x15, x16, .int 0, x17, x18]))]) [0] rfl
  refine va_calli (va_runV (As := [.int p0]) (rest := [.ref h1]) ⟨hx, hb, hml, hown, hts⟩ (k_X8_isNone l D cy h1 p0 (x2) (x3) (x4) (x5) (x6) (x7) (x8) (x9) (x10) (x11) (x12) (x13) (x14) (x15) (x16) (x17) (x18)) (cwV 1 hts gX8_lead_X8_isNone rfl rfl rfl (by decide +kernel) ⟨(Nat.le_of_ble_eq_true rfl), (Nat.le_of_ble_eq_true rfl)⟩) ⟨kR_fb, va_recv hK hP (ci := 10) (q0 := 0) rfl rfl, (kR_go hPc hK)⟩ rfl rfl hl.1 rfl (lv_room (Nat.le_of_ble_eq_true rfl)) dX8_lead_3 ⟨(Nat.le_of_ble_eq_true rfl), (Nat.le_of_ble_eq_true rfl)⟩) hS (fun _ _ h => h.elim) (fun _ h => h.elim) (fun r9 u t H locs ht hvm hw hB hz1 hk1 hS => ?_)
  have hP := kx_kept hP hk1
  obtain ⟨rfl, hw⟩ := hw
  refine lv_iconst (v := 1) hx hb dX8_lead_6 (by decide) ?_
  have hPc := hP.sub (ws' := [(h1, .inr (10, [x2, x3, x4, x5, x6, x7, x8, x9, x10, x11, x12, x13, x14, x15, x16, .int 0, x17, x18]))]) [0] rfl
  have hDc := hD.sub (ws' := [(h1, .inr (10, [x2, x3, x4, x5, x6, x7, x8, x9, x10, x11, x12, x13, x14, x15, x16, .int 0, x17, x18]))]) [0] (by decide) rfl
  have hFc := va_free (wc := [(h1, .inr (10, [x2, x3, x4, x5, x6, x7, x8, x9, x10, x11, x12, x13, x14, x15, x16, .int 0, x17, x18]))]) hD hS hA [0] rfl
  refine va_calli (va_runV (As := [.int 1, .int 1]) (rest := []) ⟨hx, hb, hml, hown, hts⟩ (k_X8_isThrown l D cy h1 (x2) (x3) (x4) (x5) (x6) (x7) (x8) (x9) (x10) (x11) (x12) (x13) (x14) (x15) (x16) (.int 0) (x17) (x18) H.size) (cwV 2 hts gX8_lead_X8_isThrown rfl rfl rfl (by decide +kernel) ⟨(Nat.le_of_ble_eq_true rfl), (Nat.le_of_ble_eq_true rfl)⟩) ⟨kW_fb, va_recv hK hP (ci := 10) (q0 := 0) rfl rfl, (kW_go hPc hK hDc)⟩ rfl rfl hl.1 rfl (lv_room (Nat.le_of_ble_eq_true rfl)) dX8_lead_7 ⟨(Nat.le_of_ble_eq_true rfl), (Nat.le_of_ble_eq_true rfl)⟩) hS (fun q _ h => hFc q h) hFc (fun r9 u t H locs ht hvm hw hB hz1 hk1 hS => ?_)
  obtain ⟨hP1, hD1⟩ := hB
  rw [ht] at hP1
  try dsimp only at hw hP1 hD1
  obtain ⟨hP, hD⟩ := va_join (wr := []) (w1 := [(h1, .inr (10, [x2, x3, x4, x5, x6, x7, x8, x9, x10, x11, x12, x13, x14, x15, x16, .int 0, x17, .int 1]))]) hP hD [0] [] rfl rfl (by decide) (by decide) hk1 hFc hP1 hD1
  have hP : va_P D vwCl [(h1, .inr (10, [x2, x3, x4, x5, x6, x7, x8, x9, x10, x11, x12, x13, x14, x15, x16, .int 0, x17, .int 1]))] H := hP
  have hD : va_D A [(h1, .inr (10, [x2, x3, x4, x5, x6, x7, x8, x9, x10, x11, x12, x13, x14, x15, x16, .int 0, x17, .int 1]))] := hD
  obtain ⟨rfl, hw⟩ := hw
  refine lv_if_eq (tgt := 15) hx hb dX8_lead_10 (by decide) (fun h => absurd h (by decide)) (fun _ => ?_)
  refine lv_iconst (v := 0) hx hb dX8_lead_13 (by decide) ?_
  refine W.widen (k := 0) (n := 0) (Nat.le_of_ble_eq_true rfl) (Nat.le_of_ble_eq_true rfl) ?_
  have hP9 := hP.sub (ws' := [(h1, .inr (10, [x2, x3, x4, x5, x6, x7, x8, x9, x10, x11, x12, x13, x14, x15, x16, .int 0, x17, .int 1]))]) [0] rfl
  have hD9 := hD.sub (ws' := [(h1, .inr (10, [x2, x3, x4, x5, x6, x7, x8, x9, x10, x11, x12, x13, x14, x15, x16, .int 0, x17, .int 1]))]) [0] (by decide) rfl
  exact W.zret (v := 0) hx hb hr rfl (fun t ht hW => ⟨⟨0, (), rfl, ⟨rfl, trivial⟩, ⟨by rw [ht]; exact hP9, hD9⟩⟩, hS.F ht⟩) hS.2.2 dX8_lead_14
set_option maxHeartbeats 4000000 in
set_option maxRecDepth 100000 in
theorem k_X7_lead_1 (l : Launch) (hl9 : l.stackTraces = false) (D : va_G) (cy : Nat → ClassId) (h1 : Nat) (p0 : Int32) (h2 : Nat) (x3 : Value) (x4 : Value) (x5 : Value) (x6 : Value) (x7 : Value) (x8 : Value) (x9 : Value) (x10 : Value) (x11 : Value) : vx_Met l yX7_lead wsX7_lead ({ frames := 7, cells := 1, slots := 6, locals := 103 }) (kRX D cy [.ref h1, .int p0, .int 1] [(h1, .inr (9, [.ref h2, x3, x4, x5, x6, x7, x8])), (h2, .inr (2, [x9, x10, x11, .int 0]))]) (va_Qi (fun (r : Int32) (_ : Unit) => False) (fun (_ : Unit) (_ : State) => True) (fun _ : Nat => False)) (vx_X (fun _ : Unit => True) (fun (E : String) (_ : Unit) (_ : State) => (E = "java/lang/IndexOutOfBoundsException" ∧ True)) (fun _ : Nat => False)) 1 6 (fun _ : Nat => False) := by
  refine vx_ofW (cc := cX7_lead) (maxL := 4) (ret := (some .boolean)) (by decide) rfl ?_
  intro p e s m args below meth c s₁ B hml ht9 hv
  obtain ⟨rfl, hP, hK, hE⟩ := hv
  have hx := B.exec
  have hb := B.bytes
  have hr := B.returns
  have hts := atoms_spec (ws := wsX7_lead) B.pre
  have hown : s.vm.findClass RX7 = some m.cls := findClass_of_methodNamed B.named
  have hlocks := B.notSynchronized
  have hS : va_S (fun _ : Nat => False) s.heap s.heap [] := va_S.rf
  have hP : va_P D vwCl [(h1, .inr (9, [.ref h2, x3, x4, x5, x6, x7, x8])), (h2, .inr (2, [x9, x10, x11, .int 0]))] s.heap := hP
  have hl := lv_entry ([.ref h1, .int p0, .int 1]) (n := 4) (Nat.le_of_ble_eq_true rfl)
  rw [lg_entry_eq]
  generalize (lg_sl ([.ref h1, .int p0, .int 1]) ++ List.replicate (4 - (lg_sl ([.ref h1, .int p0, .int 1])).length) Slot.unset).toArray = ls at hl ⊢
  have hl : lv_has ls 4 [(0, .ref h1), (1, .int p0), (2, .int 1)] := hl
  refine lv_aload_n hx hb dX7_lead_0 rfl (lv_at hl 0 rfl) ?_
  refine lv_iload_n hx hb dX7_lead_1 rfl (lv_at hl 1 rfl) ?_
  have hPc := hP.sub (ws' := [(h1, .inr (9, [.ref h2, x3, x4, x5, x6, x7, x8])), (h2, .inr (2, [x9, x10, x11, .int 0]))]) [0, 1] rfl
  refine vx_callv (vx_runV (As := [.int p0]) (rest := []) ⟨hx, hb, hml, hown, hts⟩ (k_X7_checkPlayer l hl9 D cy h1 p0 h2 (x3) (x4) (x5) (x6) (x7) (x8) (x9) (x10) (x11)) (cwV 1 hts gX7_lead_X7_checkPlayer rfl rfl rfl (by decide +kernel) ⟨(Nat.le_of_ble_eq_true rfl), (Nat.le_of_ble_eq_true rfl)⟩) ⟨kRX_fb, va_recv hK hP (ci := 9) (q0 := 0) rfl rfl, (kRX_go hPc hK hE hS)⟩ rfl rfl hl.1 rfl (lv_room (Nat.le_of_ble_eq_true rfl)) dX7_lead_2 ⟨(Nat.le_of_ble_eq_true rfl), (Nat.le_of_ble_eq_true rfl)⟩) hS (fun _ _ h => h.elim) (fun _ h => h.elim) (fun _ _ h => h.elim) (fun E9 ce9 q9 u t H locs ht hvm hw hB hz1 hk1 hS hce hcv hcl => ?_) (fun u t H locs ht hvm hw hB hz1 hk1 hS => ?_)
  · obtain ⟨rfl, hB⟩ := hB
    have f_1 : True := hB
    exact vx_out (fun x hx => (ht9 x hx).elim) hlocks hce hcv hcl (fun t ht _ => ⟨(), trivial, (⟨rfl, trivial⟩), hS.F ht⟩) hS.2.2 (Nat.le_of_ble_eq_true rfl) (Nat.le_of_ble_eq_true rfl)
  · exact (show False from hw).elim
set_option maxHeartbeats 4000000 in
set_option maxRecDepth 100000 in
theorem k_L_lead_1 (l : Launch) (hl9 : l.stackTraces = false) (D : va_G) (cy : Nat → ClassId) (h1 : Nat) (p1 : Int32) (h2 : Nat) (h3 : Nat) (x4 : Value) (x5 : Value) (x6 : Value) (x7 : Value) (x8 : Value) (x9 : Value) (x10 : Value) (x11 : Value) (x12 : Value) : Met l yL_lead wsL_lead ({ frames := 8, cells := 1, slots := 6, locals := 126 }) (kRX D cy [.ref h1, .int p1, .int 1, .ref h2] [(h1, .inr (9, [.ref h3, x4, x5, x6, x7, x8, x9])), (h3, .inr (2, [x10, x11, x12, .int 0]))]) (va_Qi (fun (r : Int32) (_ : Unit) => r = 1 ∧ True) (fun (_ : Unit) (_ : State) => True) (fun _ : Nat => False)) 1 6 (fun _ : Nat => False) := by
  refine va_MetW (cc := cL_lead) (maxL := 5) (ret := (some .int)) (by decide) rfl ?_
  intro p e s m args below meth c s₁ B hml hv
  obtain ⟨rfl, hP, hK, hE⟩ := hv
  have hx := B.exec
  have hb := B.bytes
  have hr := B.returns
  have hts := atoms_spec (ws := wsL_lead) B.pre
  have hown : s.vm.findClass RL = some m.cls := findClass_of_methodNamed B.named
  have hlocks := B.notSynchronized
  have htb := vx_table (x := yL_lead) B (hts _ (List.mem_cons_self))
  have hS : va_S (fun _ : Nat => False) s.heap s.heap [] := va_S.rf
  have hP : va_P D vwCl [(h1, .inr (9, [.ref h3, x4, x5, x6, x7, x8, x9])), (h3, .inr (2, [x10, x11, x12, .int 0]))] s.heap := hP
  have hl := lv_entry ([.ref h1, .int p1, .int 1, .ref h2]) (n := 5) (Nat.le_of_ble_eq_true rfl)
  rw [lg_entry_eq]
  generalize (lg_sl ([.ref h1, .int p1, .int 1, .ref h2]) ++ List.replicate (5 - (lg_sl ([.ref h1, .int p1, .int 1, .ref h2])).length) Slot.unset).toArray = ls at hl ⊢
  have hl : lv_has ls 5 [(0, .ref h1), (1, .int p1), (2, .int 1), (3, .ref h2)] := hl
  refine lv_aload_n hx hb dL_lead_0 rfl (lv_at hl 3 rfl) ?_
  refine lv_iconst (v := 0) hx hb dL_lead_1 (by decide) ?_
  refine lv_aload_n hx hb dL_lead_2 rfl (lv_at hl 0 rfl) ?_
  refine lv_iload_n hx hb dL_lead_3 rfl (lv_at hl 1 rfl) ?_
  refine lv_iload_n hx hb dL_lead_4 rfl (lv_at hl 2 rfl) ?_
  have hPc := hP.sub (ws' := [(h1, .inr (9, [.ref h3, x4, x5, x6, x7, x8, x9])), (h3, .inr (2, [x10, x11, x12, .int 0]))]) [0, 1] rfl
  refine vx_calli (vx_runV (As := [.int p1, .int 1]) (rest := [.int 0, .ref h2]) ⟨hx, hb, hml, hown, hts⟩ (k_X7_lead_1 l hl9 D cy h1 p1 h3 (x4) (x5) (x6) (x7) (x8) (x9) (x10) (x11) (x12)) (cwV 2 hts gL_lead_X7_lead rfl rfl rfl (by decide +kernel) ⟨(Nat.le_of_ble_eq_true rfl), (Nat.le_of_ble_eq_true rfl)⟩) ⟨kRX_fb, va_recv hK hP (ci := 9) (q0 := 0) rfl rfl, (kRX_go hPc hK hE hS)⟩ rfl rfl hl.1 rfl (lv_room (Nat.le_of_ble_eq_true rfl)) dL_lead_5 ⟨(Nat.le_of_ble_eq_true rfl), (Nat.le_of_ble_eq_true rfl)⟩) hS (fun _ _ h => h.elim) (fun _ h => h.elim) (fun _ _ h => h.elim) (fun E9 ce9 q9 u t H locs ht hvm hw hB hz1 hk1 hS hce hcv hcl => ?_) (fun r9 u t H locs ht hvm hw hB hz1 hk1 hS => ?_)
  · obtain ⟨rfl, hB⟩ := hB
    have f_1 : True := hB
    have hP := kx_kept hP hk1
    refine vx_catch (E := "java/lang/IndexOutOfBoundsException") (name := "java/lang/IndexOutOfBoundsException") hown [] (⟨0, 17, 20, 28⟩ : ExceptionTableEntry) [] htb (fun _ h => absurd h List.not_mem_nil) rfl (by decide) (hts (.classLink RL 28 "java/lang/IndexOutOfBoundsException") (List.mem_cons_of_mem _ (List.mem_append_left _ (List.mem_append_left _ (List.mem_append_left _ (List.mem_append_left _ (List.mem_append_left _ (List.mem_of_getElem? (i := 0) rfl)))))))) (exP.cast hE "java/lang/IndexOutOfBoundsException" (by decide +kernel)) hce hcv hcl ?_
    refine lv_astore (lv' := [(4, .ref q9), (0, .ref h1), (1, .int p1), (2, .int 1), (3, .ref h2)]) hx hb dL_lead_20 hl (by decide) rfl (fun ls hl => ?_)
    refine lv_iconst (v := 1) hx hb dL_lead_22 (by decide) ?_
    refine W.widen (k := 1) (n := 6) (Nat.le_of_ble_eq_true rfl) (Nat.le_of_ble_eq_true rfl) ?_
    exact W.iret (v := 1) hx hb hr (fun t ht hW => ⟨⟨1, (), rfl, ⟨rfl, trivial⟩, trivial⟩, hS.F ht⟩) hS.2.2 dL_lead_23
  · exact (show False from hw).elim
set_option maxHeartbeats 4000000 in
set_option maxRecDepth 100000 in
theorem k_X8_lead_1 (l : Launch) (D : va_G) (cy : Nat → ClassId) (h1 : Nat) (p0 : Int32) (x2 : Value) (x3 : Value) (x4 : Value) (x5 : Value) (x6 : Value) (x7 : Value) (x8 : Value) (x9 : Value) (x10 : Value) (x11 : Value) (x12 : Value) (x13 : Value) (x14 : Value) (x15 : Value) (x16 : Value) (x17 : Value) (x18 : Value) (sz : Nat) : Met l yX8_lead wsX8_lead ({ frames := 2, cells := 0, slots := 0, locals := 43 }) (kW D cy [.ref h1, .int p0, .int 1] [(h1, .inr (10, [x2, x3, x4, x5, x6, x7, x8, x9, x10, x11, x12, x13, x14, x15, x16, .int 0, x17, x18]))] sz) (va_Qi (fun (r : Int32) (_ : Unit) => r = 0 ∧ True) (fun (_ : Unit) (t : State) => va_P D vwCl [(h1, .inr (10, [x2, x3, x4, x5, x6, x7, x8, x9, x10, x11, x12, x13, x14, x15, x16, .int 0, x17, .int 1]))] t.heap ∧ va_D (va_A [(h1, .inr (10, [x2, x3, x4, x5, x6, x7, x8, x9, x10, x11, x12, x13, x14, x15, x16, .int 0, x17, x18]))] sz) [(h1, .inr (10, [x2, x3, x4, x5, x6, x7, x8, x9, x10, x11, x12, x13, x14, x15, x16, .int 0, x17, .int 1]))]) (va_A [(h1, .inr (10, [x2, x3, x4, x5, x6, x7, x8, x9, x10, x11, x12, x13, x14, x15, x16, .int 0, x17, x18]))] sz)) 0 0 (va_A [(h1, .inr (10, [x2, x3, x4, x5, x6, x7, x8, x9, x10, x11, x12, x13, x14, x15, x16, .int 0, x17, x18]))] sz) := by
  refine Met.ofW (cc := cX8_lead) (maxL := 4) (ret := (some .boolean)) (by decide) rfl ?_
  intro p e s m args below meth c s₁ B hml hv
  obtain ⟨rfl, hsz, hP, hK, hD0⟩ := hv
  have hx := B.exec
  have hb := B.bytes
  have hr := B.returns
  have hts := atoms_spec (ws := wsX8_lead) B.pre
  have hown : s.vm.findClass RX8 = some m.cls := findClass_of_methodNamed B.named
  have hlocks := B.notSynchronized
  subst hsz
  have hD := hD0.self (sz := s.heap.size)
  generalize hAe : va_A [(h1, .inr (10, [x2, x3, x4, x5, x6, x7, x8, x9, x10, x11, x12, x13, x14, x15, x16, .int 0, x17, x18]))] s.heap.size = A at hD ⊢
  have hA : ∀ q : Nat, s.heap.size ≤ q → A q := fun q h => by rw [← hAe]; exact Or.inr h
  have hS : va_S A s.heap s.heap [] := va_S.rf
  have hP : va_P D vwCl [(h1, .inr (10, [x2, x3, x4, x5, x6, x7, x8, x9, x10, x11, x12, x13, x14, x15, x16, .int 0, x17, x18]))] s.heap := hP
  have hl := lv_entry ([.ref h1, .int p0, .int 1]) (n := 4) (Nat.le_of_ble_eq_true rfl)
  rw [lg_entry_eq]
  generalize (lg_sl ([.ref h1, .int p0, .int 1]) ++ List.replicate (4 - (lg_sl ([.ref h1, .int p0, .int 1])).length) Slot.unset).toArray = ls at hl ⊢
  have hl : lv_has ls 4 [(0, .ref h1), (1, .int p0), (2, .int 1)] := hl
  refine lv_aload_n hx hb dX8_lead_0 rfl (lv_at hl 0 rfl) ?_
  refine lv_aload_n hx hb dX8_lead_1 rfl (lv_at hl 0 rfl) ?_
  refine lv_iload_n hx hb dX8_lead_2 rfl (lv_at hl 1 rfl) ?_
  have hPc := hP.sub (ws' := [(h1, .inr (10, [x2, x3, x4, x5, x6, x7, x8, x9, x10, x11, x12, x13, x14, x15, x16, .int 0, x17, x18]))]) [0] rfl
  refine va_calli (va_runV (As := [.int p0]) (rest := [.ref h1]) ⟨hx, hb, hml, hown, hts⟩ (k_X8_isNone l D cy h1 p0 (x2) (x3) (x4) (x5) (x6) (x7) (x8) (x9) (x10) (x11) (x12) (x13) (x14) (x15) (x16) (x17) (x18)) (cwV 1 hts gX8_lead_X8_isNone rfl rfl rfl (by decide +kernel) ⟨(Nat.le_of_ble_eq_true rfl), (Nat.le_of_ble_eq_true rfl)⟩) ⟨kR_fb, va_recv hK hP (ci := 10) (q0 := 0) rfl rfl, (kR_go hPc hK)⟩ rfl rfl hl.1 rfl (lv_room (Nat.le_of_ble_eq_true rfl)) dX8_lead_3 ⟨(Nat.le_of_ble_eq_true rfl), (Nat.le_of_ble_eq_true rfl)⟩) hS (fun _ _ h => h.elim) (fun _ h => h.elim) (fun r9 u t H locs ht hvm hw hB hz1 hk1 hS => ?_)
  have hP := kx_kept hP hk1
  obtain ⟨rfl, hw⟩ := hw
  refine lv_iconst (v := 1) hx hb dX8_lead_6 (by decide) ?_
  have hPc := hP.sub (ws' := [(h1, .inr (10, [x2, x3, x4, x5, x6, x7, x8, x9, x10, x11, x12, x13, x14, x15, x16, .int 0, x17, x18]))]) [0] rfl
  have hDc := hD.sub (ws' := [(h1, .inr (10, [x2, x3, x4, x5, x6, x7, x8, x9, x10, x11, x12, x13, x14, x15, x16, .int 0, x17, x18]))]) [0] (by decide) rfl
  have hFc := va_free (wc := [(h1, .inr (10, [x2, x3, x4, x5, x6, x7, x8, x9, x10, x11, x12, x13, x14, x15, x16, .int 0, x17, x18]))]) hD hS hA [0] rfl
  refine va_calli (va_runV (As := [.int 1, .int 1]) (rest := []) ⟨hx, hb, hml, hown, hts⟩ (k_X8_isThrown l D cy h1 (x2) (x3) (x4) (x5) (x6) (x7) (x8) (x9) (x10) (x11) (x12) (x13) (x14) (x15) (x16) (.int 0) (x17) (x18) H.size) (cwV 2 hts gX8_lead_X8_isThrown rfl rfl rfl (by decide +kernel) ⟨(Nat.le_of_ble_eq_true rfl), (Nat.le_of_ble_eq_true rfl)⟩) ⟨kW_fb, va_recv hK hP (ci := 10) (q0 := 0) rfl rfl, (kW_go hPc hK hDc)⟩ rfl rfl hl.1 rfl (lv_room (Nat.le_of_ble_eq_true rfl)) dX8_lead_7 ⟨(Nat.le_of_ble_eq_true rfl), (Nat.le_of_ble_eq_true rfl)⟩) hS (fun q _ h => hFc q h) hFc (fun r9 u t H locs ht hvm hw hB hz1 hk1 hS => ?_)
  obtain ⟨hP1, hD1⟩ := hB
  rw [ht] at hP1
  try dsimp only at hw hP1 hD1
  obtain ⟨hP, hD⟩ := va_join (wr := []) (w1 := [(h1, .inr (10, [x2, x3, x4, x5, x6, x7, x8, x9, x10, x11, x12, x13, x14, x15, x16, .int 0, x17, .int 1]))]) hP hD [0] [] rfl rfl (by decide) (by decide) hk1 hFc hP1 hD1
  have hP : va_P D vwCl [(h1, .inr (10, [x2, x3, x4, x5, x6, x7, x8, x9, x10, x11, x12, x13, x14, x15, x16, .int 0, x17, .int 1]))] H := hP
  have hD : va_D A [(h1, .inr (10, [x2, x3, x4, x5, x6, x7, x8, x9, x10, x11, x12, x13, x14, x15, x16, .int 0, x17, .int 1]))] := hD
  obtain ⟨rfl, hw⟩ := hw
  refine lv_if_eq (tgt := 15) hx hb dX8_lead_10 (by decide) (fun h => absurd h (by decide)) (fun _ => ?_)
  refine lv_iconst (v := 0) hx hb dX8_lead_13 (by decide) ?_
  refine W.widen (k := 0) (n := 0) (Nat.le_of_ble_eq_true rfl) (Nat.le_of_ble_eq_true rfl) ?_
  have hP9 := hP.sub (ws' := [(h1, .inr (10, [x2, x3, x4, x5, x6, x7, x8, x9, x10, x11, x12, x13, x14, x15, x16, .int 0, x17, .int 1]))]) [0] rfl
  have hD9 := hD.sub (ws' := [(h1, .inr (10, [x2, x3, x4, x5, x6, x7, x8, x9, x10, x11, x12, x13, x14, x15, x16, .int 0, x17, .int 1]))]) [0] (by decide) rfl
  exact W.zret (v := 0) hx hb hr rfl (fun t ht hW => ⟨⟨0, (), rfl, ⟨rfl, trivial⟩, ⟨by rw [ht]; exact hP9, hD9⟩⟩, hS.F ht⟩) hS.2.2 dX8_lead_14
theorem dX7_close_0 : decode cX7_close 0 = .ok (.aload_n 0, 1) := by decide +kernel
theorem dX7_close_1 : decode cX7_close 1 = .ok (.iload_n 1, 1) := by decide +kernel
theorem dX7_close_2 : decode cX7_close 2 = .ok (.invokevirtual 168, 3) := by decide +kernel
set_option maxRecDepth 20000 in
theorem ggX7_close_X7_checkResource : GoodIn wsX7_close wsX7_checkResource := goodIn_ca (goodIn_r _ [10, 11, 12, 5, 13, 58, 59, 60, 61, 62, 63, 64, 68, 69, 70, 71] (by decide +kernel) (by decide +kernel)) (goodIn_sub (fun _ h => List.mem_cons_of_mem _ (List.mem_append_left _ (List.mem_append_right _ h))) (by decide +kernel))
set_option maxRecDepth 20000 in
theorem gX7_close_X7_checkResource : GoodIn wsX7_close (wsV RX7 168 RX7 yX7_checkResource wsX7_checkResource) := goodIn_app (goodIn_of _ (by decide +kernel)) ggX7_close_X7_checkResource
set_option maxHeartbeats 4000000 in
set_option maxRecDepth 100000 in
theorem k_X7_close (l : Launch) (hl9 : l.stackTraces = false) (D : va_G) (cy : Nat → ClassId) (h1 : Nat) (p0 : Int32) (h2 : Nat) (x3 : Value) (x4 : Value) (x5 : Value) (x6 : Value) (x7 : Value) (x8 : Value) (x9 : Value) (x10 : Value) (x11 : Value) : vx_Met l yX7_close wsX7_close ({ frames := 7, cells := 1, slots := 6, locals := 103 }) (kRX D cy [.ref h1, .int p0, .int 0] [(h1, .inr (9, [.ref h2, x3, x4, x5, x6, x7, x8])), (h2, .inr (2, [x9, x10, .int 0, x11]))]) (va_Qi (fun (r : Int32) (_ : Unit) => False) (fun (_ : Unit) (_ : State) => True) (fun _ : Nat => False)) (vx_X (fun _ : Unit => True) (fun (E : String) (_ : Unit) (_ : State) => (E = "java/lang/IndexOutOfBoundsException" ∧ True)) (fun _ : Nat => False)) 1 6 (fun _ : Nat => False) := by
  refine vx_ofW (cc := cX7_close) (maxL := 4) (ret := (some .boolean)) (by decide) rfl ?_
  intro p e s m args below meth c s₁ B hml ht9 hv
  obtain ⟨rfl, hP, hK, hE⟩ := hv
  have hx := B.exec
  have hb := B.bytes
  have hr := B.returns
  have hts := atoms_spec (ws := wsX7_close) B.pre
  have hown : s.vm.findClass RX7 = some m.cls := findClass_of_methodNamed B.named
  have hlocks := B.notSynchronized
  have hS : va_S (fun _ : Nat => False) s.heap s.heap [] := va_S.rf
  have hP : va_P D vwCl [(h1, .inr (9, [.ref h2, x3, x4, x5, x6, x7, x8])), (h2, .inr (2, [x9, x10, .int 0, x11]))] s.heap := hP
  have hl := lv_entry ([.ref h1, .int p0, .int 0]) (n := 4) (Nat.le_of_ble_eq_true rfl)
  rw [lg_entry_eq]
  generalize (lg_sl ([.ref h1, .int p0, .int 0]) ++ List.replicate (4 - (lg_sl ([.ref h1, .int p0, .int 0])).length) Slot.unset).toArray = ls at hl ⊢
  have hl : lv_has ls 4 [(0, .ref h1), (1, .int p0), (2, .int 0)] := hl
  refine lv_aload_n hx hb dX7_close_0 rfl (lv_at hl 0 rfl) ?_
  refine lv_iload_n hx hb dX7_close_1 rfl (lv_at hl 1 rfl) ?_
  have hPc := hP.sub (ws' := [(h1, .inr (9, [.ref h2, x3, x4, x5, x6, x7, x8])), (h2, .inr (2, [x9, x10, .int 0, x11]))]) [0, 1] rfl
  refine vx_callv (vx_runV (As := [.int p0]) (rest := []) ⟨hx, hb, hml, hown, hts⟩ (k_X7_checkResource l hl9 D cy h1 p0 h2 (x3) (x4) (x5) (x6) (x7) (x8) (x9) (x10) (x11)) (cwV 1 hts gX7_close_X7_checkResource rfl rfl rfl (by decide +kernel) ⟨(Nat.le_of_ble_eq_true rfl), (Nat.le_of_ble_eq_true rfl)⟩) ⟨kRX_fb, va_recv hK hP (ci := 9) (q0 := 0) rfl rfl, (kRX_go hPc hK hE hS)⟩ rfl rfl hl.1 rfl (lv_room (Nat.le_of_ble_eq_true rfl)) dX7_close_2 ⟨(Nat.le_of_ble_eq_true rfl), (Nat.le_of_ble_eq_true rfl)⟩) hS (fun _ _ h => h.elim) (fun _ h => h.elim) (fun _ _ h => h.elim) (fun E9 ce9 q9 u t H locs ht hvm hw hB hz1 hk1 hS hce hcv hcl => ?_) (fun u t H locs ht hvm hw hB hz1 hk1 hS => ?_)
  · obtain ⟨rfl, hB⟩ := hB
    have f_1 : True := hB
    exact vx_out (fun x hx => (ht9 x hx).elim) hlocks hce hcv hcl (fun t ht _ => ⟨(), trivial, (⟨rfl, trivial⟩), hS.F ht⟩) hS.2.2 (Nat.le_of_ble_eq_true rfl) (Nat.le_of_ble_eq_true rfl)
  · exact (show False from hw).elim
theorem dL_close_0 : decode cL_close 0 = .ok (.aload_n 3, 1) := by decide +kernel
theorem dL_close_1 : decode cL_close 1 = .ok (.iconst 0, 1) := by decide +kernel
theorem dL_close_2 : decode cL_close 2 = .ok (.aload_n 0, 1) := by decide +kernel
theorem dL_close_3 : decode cL_close 3 = .ok (.iload_n 1, 1) := by decide +kernel
theorem dL_close_4 : decode cL_close 4 = .ok (.iload_n 2, 1) := by decide +kernel
theorem dL_close_5 : decode cL_close 5 = .ok (.invokevirtual 76, 3) := by decide +kernel
set_option maxRecDepth 20000 in
theorem ggL_close_X7_close : GoodIn wsL_close wsX7_close := goodIn_ca (goodIn_ca (goodIn_ca (goodIn_r _ [7, 8, 9, 10, 11, 12, 13, 14, 15, 6, 16, 17, 18, 19, 20, 21, 22, 23, 24, 25, 26, 27, 28, 29, 30, 31, 32, 33, 34, 35, 36, 37, 38, 39, 40, 41, 42, 43, 44, 45, 46, 47, 48, 49, 50, 51, 52, 53, 54, 55, 56, 57, 58, 59, 60, 61, 62, 63, 64, 65, 66, 67, 68, 69, 70, 71, 72, 73, 74, 75, 76, 77, 78, 79, 80, 81, 82, 83] (by decide +kernel) (by decide +kernel)) (goodIn_sub (fun _ h => List.mem_cons_of_mem _ (List.mem_append_left _ (List.mem_append_right _ h))) (by decide +kernel))) (goodIn_sub (fun _ h => List.mem_cons_of_mem _ (List.mem_append_right _ h)) (by decide +kernel))) (goodIn_sub (fun _ h => List.mem_cons_of_mem _ (List.mem_append_left _ (List.mem_append_left _ (List.mem_append_right _ h)))) (by decide +kernel))
set_option maxRecDepth 20000 in
theorem gL_close_X7_close : GoodIn wsL_close (wsV RL 76 RX7 yX7_close wsX7_close) := goodIn_app (goodIn_of _ (by decide +kernel)) ggL_close_X7_close
theorem dL_close_20 : decode cL_close 20 = .ok (.astore 4, 2) := by decide +kernel
theorem dL_close_22 : decode cL_close 22 = .ok (.iconst 1, 1) := by decide +kernel
theorem dL_close_23 : decode cL_close 23 = .ok (.ireturn, 1) := by decide +kernel
set_option maxHeartbeats 4000000 in
set_option maxRecDepth 100000 in
theorem k_L_close (l : Launch) (hl9 : l.stackTraces = false) (D : va_G) (cy : Nat → ClassId) (h1 : Nat) (p1 : Int32) (h2 : Nat) (h3 : Nat) (x4 : Value) (x5 : Value) (x6 : Value) (x7 : Value) (x8 : Value) (x9 : Value) (x10 : Value) (x11 : Value) (x12 : Value) : Met l yL_close wsL_close ({ frames := 8, cells := 1, slots := 6, locals := 126 }) (kRX D cy [.ref h1, .int p1, .int 0, .ref h2] [(h1, .inr (9, [.ref h3, x4, x5, x6, x7, x8, x9])), (h3, .inr (2, [x10, x11, .int 0, x12]))]) (va_Qi (fun (r : Int32) (_ : Unit) => r = 1 ∧ True) (fun (_ : Unit) (_ : State) => True) (fun _ : Nat => False)) 1 6 (fun _ : Nat => False) := by
  refine va_MetW (cc := cL_close) (maxL := 5) (ret := (some .int)) (by decide) rfl ?_
  intro p e s m args below meth c s₁ B hml hv
  obtain ⟨rfl, hP, hK, hE⟩ := hv
  have hx := B.exec
  have hb := B.bytes
  have hr := B.returns
  have hts := atoms_spec (ws := wsL_close) B.pre
  have hown : s.vm.findClass RL = some m.cls := findClass_of_methodNamed B.named
  have hlocks := B.notSynchronized
  have htb := vx_table (x := yL_close) B (hts _ (List.mem_cons_self))
  have hS : va_S (fun _ : Nat => False) s.heap s.heap [] := va_S.rf
  have hP : va_P D vwCl [(h1, .inr (9, [.ref h3, x4, x5, x6, x7, x8, x9])), (h3, .inr (2, [x10, x11, .int 0, x12]))] s.heap := hP
  have hl := lv_entry ([.ref h1, .int p1, .int 0, .ref h2]) (n := 5) (Nat.le_of_ble_eq_true rfl)
  rw [lg_entry_eq]
  generalize (lg_sl ([.ref h1, .int p1, .int 0, .ref h2]) ++ List.replicate (5 - (lg_sl ([.ref h1, .int p1, .int 0, .ref h2])).length) Slot.unset).toArray = ls at hl ⊢
  have hl : lv_has ls 5 [(0, .ref h1), (1, .int p1), (2, .int 0), (3, .ref h2)] := hl
  refine lv_aload_n hx hb dL_close_0 rfl (lv_at hl 3 rfl) ?_
  refine lv_iconst (v := 0) hx hb dL_close_1 (by decide) ?_
  refine lv_aload_n hx hb dL_close_2 rfl (lv_at hl 0 rfl) ?_
  refine lv_iload_n hx hb dL_close_3 rfl (lv_at hl 1 rfl) ?_
  refine lv_iload_n hx hb dL_close_4 rfl (lv_at hl 2 rfl) ?_
  have hPc := hP.sub (ws' := [(h1, .inr (9, [.ref h3, x4, x5, x6, x7, x8, x9])), (h3, .inr (2, [x10, x11, .int 0, x12]))]) [0, 1] rfl
  refine vx_calli (vx_runV (As := [.int p1, .int 0]) (rest := [.int 0, .ref h2]) ⟨hx, hb, hml, hown, hts⟩ (k_X7_close l hl9 D cy h1 p1 h3 (x4) (x5) (x6) (x7) (x8) (x9) (x10) (x11) (x12)) (cwV 2 hts gL_close_X7_close rfl rfl rfl (by decide +kernel) ⟨(Nat.le_of_ble_eq_true rfl), (Nat.le_of_ble_eq_true rfl)⟩) ⟨kRX_fb, va_recv hK hP (ci := 9) (q0 := 0) rfl rfl, (kRX_go hPc hK hE hS)⟩ rfl rfl hl.1 rfl (lv_room (Nat.le_of_ble_eq_true rfl)) dL_close_5 ⟨(Nat.le_of_ble_eq_true rfl), (Nat.le_of_ble_eq_true rfl)⟩) hS (fun _ _ h => h.elim) (fun _ h => h.elim) (fun _ _ h => h.elim) (fun E9 ce9 q9 u t H locs ht hvm hw hB hz1 hk1 hS hce hcv hcl => ?_) (fun r9 u t H locs ht hvm hw hB hz1 hk1 hS => ?_)
  · obtain ⟨rfl, hB⟩ := hB
    have f_1 : True := hB
    have hP := kx_kept hP hk1
    refine vx_catch (E := "java/lang/IndexOutOfBoundsException") (name := "java/lang/IndexOutOfBoundsException") hown [] (⟨0, 17, 20, 28⟩ : ExceptionTableEntry) [(⟨0, 17, 24, 30⟩ : ExceptionTableEntry)] htb (fun _ h => absurd h List.not_mem_nil) rfl (by decide) (hts (.classLink RL 28 "java/lang/IndexOutOfBoundsException") (List.mem_cons_of_mem _ (List.mem_append_left _ (List.mem_append_left _ (List.mem_append_left _ (List.mem_append_left _ (List.mem_append_left _ (List.mem_append_left _ (List.mem_append_left _ (List.mem_append_left _ (List.mem_of_getElem? (i := 0) rfl))))))))))) (exP.cast hE "java/lang/IndexOutOfBoundsException" (by decide +kernel)) hce hcv hcl ?_
    refine lv_astore (lv' := [(4, .ref q9), (0, .ref h1), (1, .int p1), (2, .int 0), (3, .ref h2)]) hx hb dL_close_20 hl (by decide) rfl (fun ls hl => ?_)
    refine lv_iconst (v := 1) hx hb dL_close_22 (by decide) ?_
    refine W.widen (k := 1) (n := 6) (Nat.le_of_ble_eq_true rfl) (Nat.le_of_ble_eq_true rfl) ?_
    exact W.iret (v := 1) hx hb hr (fun t ht hW => ⟨⟨1, (), rfl, ⟨rfl, trivial⟩, trivial⟩, hS.F ht⟩) hS.2.2 dL_close_23
  · exact (show False from hw).elim
theorem dX8_close_0 : decode cX8_close 0 = .ok (.aload_n 0, 1) := by decide +kernel
theorem dX8_close_1 : decode cX8_close 1 = .ok (.aload_n 0, 1) := by decide +kernel
theorem dX8_close_2 : decode cX8_close 2 = .ok (.iload_n 1, 1) := by decide +kernel
theorem dX8_close_3 : decode cX8_close 3 = .ok (.invokevirtual 167, 3) := by decide +kernel
set_option maxRecDepth 20000 in
theorem ggX8_close_X8_isNoLoad : GoodIn wsX8_close wsX8_isNoLoad := goodIn_r _ [7, 8, 9, 10, 6, 11, 38, 39, 40, 41, 42, 43, 44, 45, 46, 47, 48, 49, 50, 51, 52, 53, 54, 55] (by decide +kernel) (by decide +kernel)
set_option maxRecDepth 20000 in
theorem gX8_close_X8_isNoLoad : GoodIn wsX8_close (wsV RX8 167 RX8 yX8_isNoLoad wsX8_isNoLoad) := goodIn_app (goodIn_of _ (by decide +kernel)) ggX8_close_X8_isNoLoad
theorem dX8_close_6 : decode cX8_close 6 = .ok (.iconst 1, 1) := by decide +kernel
theorem dX8_close_7 : decode cX8_close 7 = .ok (.invokevirtual 73, 3) := by decide +kernel
set_option maxRecDepth 20000 in
theorem ggX8_close_X8_isThrown : GoodIn wsX8_close wsX8_isThrown := goodIn_r _ [15, 16, 38, 39, 40, 41, 42, 43, 44, 45, 46, 47, 48, 49, 50, 51, 52, 53, 54, 55] (by decide +kernel) (by decide +kernel)
set_option maxRecDepth 20000 in
theorem gX8_close_X8_isThrown : GoodIn wsX8_close (wsV RX8 73 RX8 yX8_isThrown wsX8_isThrown) := goodIn_app (goodIn_of _ (by decide +kernel)) ggX8_close_X8_isThrown
theorem dX8_close_10 : decode cX8_close 10 = .ok (.ifCond .eq 5, 3) := by decide +kernel
theorem dX8_close_13 : decode cX8_close 13 = .ok (.iconst 0, 1) := by decide +kernel
theorem dX8_close_14 : decode cX8_close 14 = .ok (.ireturn, 1) := by decide +kernel
set_option maxHeartbeats 4000000 in
set_option maxRecDepth 100000 in
theorem k_X8_close (l : Launch) (D : va_G) (cy : Nat → ClassId) (h1 : Nat) (p0 : Int32) (x2 : Value) (x3 : Value) (x4 : Value) (x5 : Value) (x6 : Value) (x7 : Value) (x8 : Value) (x9 : Value) (x10 : Value) (x11 : Value) (x12 : Value) (x13 : Value) (x14 : Value) (x15 : Value) (x16 : Value) (x17 : Value) (x18 : Value) (sz : Nat) : Met l yX8_close wsX8_close ({ frames := 2, cells := 0, slots := 0, locals := 43 }) (kW D cy [.ref h1, .int p0, .int 0] [(h1, .inr (10, [x2, x3, x4, x5, x6, x7, x8, x9, x10, x11, x12, x13, x14, x15, .int 0, x16, x17, x18]))] sz) (va_Qi (fun (r : Int32) (_ : Unit) => r = 0 ∧ True) (fun (_ : Unit) (t : State) => va_P D vwCl [(h1, .inr (10, [x2, x3, x4, x5, x6, x7, x8, x9, x10, x11, x12, x13, x14, x15, .int 0, x16, x17, .int 1]))] t.heap ∧ va_D (va_A [(h1, .inr (10, [x2, x3, x4, x5, x6, x7, x8, x9, x10, x11, x12, x13, x14, x15, .int 0, x16, x17, x18]))] sz) [(h1, .inr (10, [x2, x3, x4, x5, x6, x7, x8, x9, x10, x11, x12, x13, x14, x15, .int 0, x16, x17, .int 1]))]) (va_A [(h1, .inr (10, [x2, x3, x4, x5, x6, x7, x8, x9, x10, x11, x12, x13, x14, x15, .int 0, x16, x17, x18]))] sz)) 0 0 (va_A [(h1, .inr (10, [x2, x3, x4, x5, x6, x7, x8, x9, x10, x11, x12, x13, x14, x15, .int 0, x16, x17, x18]))] sz) := by
  refine Met.ofW (cc := cX8_close) (maxL := 5) (ret := (some .boolean)) (by decide) rfl ?_
  intro p e s m args below meth c s₁ B hml hv
  obtain ⟨rfl, hsz, hP, hK, hD0⟩ := hv
  have hx := B.exec
  have hb := B.bytes
  have hr := B.returns
  have hts := atoms_spec (ws := wsX8_close) B.pre
  have hown : s.vm.findClass RX8 = some m.cls := findClass_of_methodNamed B.named
  have hlocks := B.notSynchronized
  subst hsz
  have hD := hD0.self (sz := s.heap.size)
  generalize hAe : va_A [(h1, .inr (10, [x2, x3, x4, x5, x6, x7, x8, x9, x10, x11, x12, x13, x14, x15, .int 0, x16, x17, x18]))] s.heap.size = A at hD ⊢
  have hA : ∀ q : Nat, s.heap.size ≤ q → A q := fun q h => by rw [← hAe]; exact Or.inr h
  have hS : va_S A s.heap s.heap [] := va_S.rf
  have hP : va_P D vwCl [(h1, .inr (10, [x2, x3, x4, x5, x6, x7, x8, x9, x10, x11, x12, x13, x14, x15, .int 0, x16, x17, x18]))] s.heap := hP
  have hl := lv_entry ([.ref h1, .int p0, .int 0]) (n := 5) (Nat.le_of_ble_eq_true rfl)
  rw [lg_entry_eq]
  generalize (lg_sl ([.ref h1, .int p0, .int 0]) ++ List.replicate (5 - (lg_sl ([.ref h1, .int p0, .int 0])).length) Slot.unset).toArray = ls at hl ⊢
  have hl : lv_has ls 5 [(0, .ref h1), (1, .int p0), (2, .int 0)] := hl
  refine lv_aload_n hx hb dX8_close_0 rfl (lv_at hl 0 rfl) ?_
  refine lv_aload_n hx hb dX8_close_1 rfl (lv_at hl 0 rfl) ?_
  refine lv_iload_n hx hb dX8_close_2 rfl (lv_at hl 1 rfl) ?_
  have hPc := hP.sub (ws' := [(h1, .inr (10, [x2, x3, x4, x5, x6, x7, x8, x9, x10, x11, x12, x13, x14, x15, .int 0, x16, x17, x18]))]) [0] rfl
  refine va_calli (va_runV (As := [.int p0]) (rest := [.ref h1]) ⟨hx, hb, hml, hown, hts⟩ (k_X8_isNoLoad l D cy h1 p0 (x2) (x3) (x4) (x5) (x6) (x7) (x8) (x9) (x10) (x11) (x12) (x13) (x14) (x15) (x16) (x17) (x18)) (cwV 1 hts gX8_close_X8_isNoLoad rfl rfl rfl (by decide +kernel) ⟨(Nat.le_of_ble_eq_true rfl), (Nat.le_of_ble_eq_true rfl)⟩) ⟨kR_fb, va_recv hK hP (ci := 10) (q0 := 0) rfl rfl, (kR_go hPc hK)⟩ rfl rfl hl.1 rfl (lv_room (Nat.le_of_ble_eq_true rfl)) dX8_close_3 ⟨(Nat.le_of_ble_eq_true rfl), (Nat.le_of_ble_eq_true rfl)⟩) hS (fun _ _ h => h.elim) (fun _ h => h.elim) (fun r9 u t H locs ht hvm hw hB hz1 hk1 hS => ?_)
  have hP := kx_kept hP hk1
  obtain ⟨rfl, hw⟩ := hw
  refine lv_iconst (v := 1) hx hb dX8_close_6 (by decide) ?_
  have hPc := hP.sub (ws' := [(h1, .inr (10, [x2, x3, x4, x5, x6, x7, x8, x9, x10, x11, x12, x13, x14, x15, .int 0, x16, x17, x18]))]) [0] rfl
  have hDc := hD.sub (ws' := [(h1, .inr (10, [x2, x3, x4, x5, x6, x7, x8, x9, x10, x11, x12, x13, x14, x15, .int 0, x16, x17, x18]))]) [0] (by decide) rfl
  have hFc := va_free (wc := [(h1, .inr (10, [x2, x3, x4, x5, x6, x7, x8, x9, x10, x11, x12, x13, x14, x15, .int 0, x16, x17, x18]))]) hD hS hA [0] rfl
  refine va_calli (va_runV (As := [.int 1, .int 1]) (rest := []) ⟨hx, hb, hml, hown, hts⟩ (k_X8_isThrown l D cy h1 (x2) (x3) (x4) (x5) (x6) (x7) (x8) (x9) (x10) (x11) (x12) (x13) (x14) (x15) (.int 0) (x16) (x17) (x18) H.size) (cwV 2 hts gX8_close_X8_isThrown rfl rfl rfl (by decide +kernel) ⟨(Nat.le_of_ble_eq_true rfl), (Nat.le_of_ble_eq_true rfl)⟩) ⟨kW_fb, va_recv hK hP (ci := 10) (q0 := 0) rfl rfl, (kW_go hPc hK hDc)⟩ rfl rfl hl.1 rfl (lv_room (Nat.le_of_ble_eq_true rfl)) dX8_close_7 ⟨(Nat.le_of_ble_eq_true rfl), (Nat.le_of_ble_eq_true rfl)⟩) hS (fun q _ h => hFc q h) hFc (fun r9 u t H locs ht hvm hw hB hz1 hk1 hS => ?_)
  obtain ⟨hP1, hD1⟩ := hB
  rw [ht] at hP1
  try dsimp only at hw hP1 hD1
  obtain ⟨hP, hD⟩ := va_join (wr := []) (w1 := [(h1, .inr (10, [x2, x3, x4, x5, x6, x7, x8, x9, x10, x11, x12, x13, x14, x15, .int 0, x16, x17, .int 1]))]) hP hD [0] [] rfl rfl (by decide) (by decide) hk1 hFc hP1 hD1
  have hP : va_P D vwCl [(h1, .inr (10, [x2, x3, x4, x5, x6, x7, x8, x9, x10, x11, x12, x13, x14, x15, .int 0, x16, x17, .int 1]))] H := hP
  have hD : va_D A [(h1, .inr (10, [x2, x3, x4, x5, x6, x7, x8, x9, x10, x11, x12, x13, x14, x15, .int 0, x16, x17, .int 1]))] := hD
  obtain ⟨rfl, hw⟩ := hw
  refine lv_if_eq (tgt := 15) hx hb dX8_close_10 (by decide) (fun h => absurd h (by decide)) (fun _ => ?_)
  refine lv_iconst (v := 0) hx hb dX8_close_13 (by decide) ?_
  refine W.widen (k := 0) (n := 0) (Nat.le_of_ble_eq_true rfl) (Nat.le_of_ble_eq_true rfl) ?_
  have hP9 := hP.sub (ws' := [(h1, .inr (10, [x2, x3, x4, x5, x6, x7, x8, x9, x10, x11, x12, x13, x14, x15, .int 0, x16, x17, .int 1]))]) [0] rfl
  have hD9 := hD.sub (ws' := [(h1, .inr (10, [x2, x3, x4, x5, x6, x7, x8, x9, x10, x11, x12, x13, x14, x15, .int 0, x16, x17, .int 1]))]) [0] (by decide) rfl
  exact W.zret (v := 0) hx hb hr rfl (fun t ht hW => ⟨⟨0, (), rfl, ⟨rfl, trivial⟩, ⟨by rw [ht]; exact hP9, hD9⟩⟩, hS.F ht⟩) hS.2.2 dX8_close_14
set_option maxHeartbeats 4000000 in
set_option maxRecDepth 100000 in
theorem k_X7_close_1 (l : Launch) (hl9 : l.stackTraces = false) (D : va_G) (cy : Nat → ClassId) (h1 : Nat) (p0 : Int32) (h2 : Nat) (x3 : Value) (x4 : Value) (x5 : Value) (x6 : Value) (x7 : Value) (x8 : Value) (x9 : Value) (x10 : Value) (x11 : Value) : vx_Met l yX7_close wsX7_close ({ frames := 7, cells := 1, slots := 6, locals := 103 }) (kRX D cy [.ref h1, .int p0, .int 1] [(h1, .inr (9, [.ref h2, x3, x4, x5, x6, x7, x8])), (h2, .inr (2, [x9, x10, .int 0, x11]))]) (va_Qi (fun (r : Int32) (_ : Unit) => False) (fun (_ : Unit) (_ : State) => True) (fun _ : Nat => False)) (vx_X (fun _ : Unit => True) (fun (E : String) (_ : Unit) (_ : State) => (E = "java/lang/IndexOutOfBoundsException" ∧ True)) (fun _ : Nat => False)) 1 6 (fun _ : Nat => False) := by
  refine vx_ofW (cc := cX7_close) (maxL := 4) (ret := (some .boolean)) (by decide) rfl ?_
  intro p e s m args below meth c s₁ B hml ht9 hv
  obtain ⟨rfl, hP, hK, hE⟩ := hv
  have hx := B.exec
  have hb := B.bytes
  have hr := B.returns
  have hts := atoms_spec (ws := wsX7_close) B.pre
  have hown : s.vm.findClass RX7 = some m.cls := findClass_of_methodNamed B.named
  have hlocks := B.notSynchronized
  have hS : va_S (fun _ : Nat => False) s.heap s.heap [] := va_S.rf
  have hP : va_P D vwCl [(h1, .inr (9, [.ref h2, x3, x4, x5, x6, x7, x8])), (h2, .inr (2, [x9, x10, .int 0, x11]))] s.heap := hP
  have hl := lv_entry ([.ref h1, .int p0, .int 1]) (n := 4) (Nat.le_of_ble_eq_true rfl)
  rw [lg_entry_eq]
  generalize (lg_sl ([.ref h1, .int p0, .int 1]) ++ List.replicate (4 - (lg_sl ([.ref h1, .int p0, .int 1])).length) Slot.unset).toArray = ls at hl ⊢
  have hl : lv_has ls 4 [(0, .ref h1), (1, .int p0), (2, .int 1)] := hl
  refine lv_aload_n hx hb dX7_close_0 rfl (lv_at hl 0 rfl) ?_
  refine lv_iload_n hx hb dX7_close_1 rfl (lv_at hl 1 rfl) ?_
  have hPc := hP.sub (ws' := [(h1, .inr (9, [.ref h2, x3, x4, x5, x6, x7, x8])), (h2, .inr (2, [x9, x10, .int 0, x11]))]) [0, 1] rfl
  refine vx_callv (vx_runV (As := [.int p0]) (rest := []) ⟨hx, hb, hml, hown, hts⟩ (k_X7_checkResource l hl9 D cy h1 p0 h2 (x3) (x4) (x5) (x6) (x7) (x8) (x9) (x10) (x11)) (cwV 1 hts gX7_close_X7_checkResource rfl rfl rfl (by decide +kernel) ⟨(Nat.le_of_ble_eq_true rfl), (Nat.le_of_ble_eq_true rfl)⟩) ⟨kRX_fb, va_recv hK hP (ci := 9) (q0 := 0) rfl rfl, (kRX_go hPc hK hE hS)⟩ rfl rfl hl.1 rfl (lv_room (Nat.le_of_ble_eq_true rfl)) dX7_close_2 ⟨(Nat.le_of_ble_eq_true rfl), (Nat.le_of_ble_eq_true rfl)⟩) hS (fun _ _ h => h.elim) (fun _ h => h.elim) (fun _ _ h => h.elim) (fun E9 ce9 q9 u t H locs ht hvm hw hB hz1 hk1 hS hce hcv hcl => ?_) (fun u t H locs ht hvm hw hB hz1 hk1 hS => ?_)
  · obtain ⟨rfl, hB⟩ := hB
    have f_1 : True := hB
    exact vx_out (fun x hx => (ht9 x hx).elim) hlocks hce hcv hcl (fun t ht _ => ⟨(), trivial, (⟨rfl, trivial⟩), hS.F ht⟩) hS.2.2 (Nat.le_of_ble_eq_true rfl) (Nat.le_of_ble_eq_true rfl)
  · exact (show False from hw).elim
set_option maxHeartbeats 4000000 in
set_option maxRecDepth 100000 in
theorem k_L_close_1 (l : Launch) (hl9 : l.stackTraces = false) (D : va_G) (cy : Nat → ClassId) (h1 : Nat) (p1 : Int32) (h2 : Nat) (h3 : Nat) (x4 : Value) (x5 : Value) (x6 : Value) (x7 : Value) (x8 : Value) (x9 : Value) (x10 : Value) (x11 : Value) (x12 : Value) : Met l yL_close wsL_close ({ frames := 8, cells := 1, slots := 6, locals := 126 }) (kRX D cy [.ref h1, .int p1, .int 1, .ref h2] [(h1, .inr (9, [.ref h3, x4, x5, x6, x7, x8, x9])), (h3, .inr (2, [x10, x11, .int 0, x12]))]) (va_Qi (fun (r : Int32) (_ : Unit) => r = 1 ∧ True) (fun (_ : Unit) (_ : State) => True) (fun _ : Nat => False)) 1 6 (fun _ : Nat => False) := by
  refine va_MetW (cc := cL_close) (maxL := 5) (ret := (some .int)) (by decide) rfl ?_
  intro p e s m args below meth c s₁ B hml hv
  obtain ⟨rfl, hP, hK, hE⟩ := hv
  have hx := B.exec
  have hb := B.bytes
  have hr := B.returns
  have hts := atoms_spec (ws := wsL_close) B.pre
  have hown : s.vm.findClass RL = some m.cls := findClass_of_methodNamed B.named
  have hlocks := B.notSynchronized
  have htb := vx_table (x := yL_close) B (hts _ (List.mem_cons_self))
  have hS : va_S (fun _ : Nat => False) s.heap s.heap [] := va_S.rf
  have hP : va_P D vwCl [(h1, .inr (9, [.ref h3, x4, x5, x6, x7, x8, x9])), (h3, .inr (2, [x10, x11, .int 0, x12]))] s.heap := hP
  have hl := lv_entry ([.ref h1, .int p1, .int 1, .ref h2]) (n := 5) (Nat.le_of_ble_eq_true rfl)
  rw [lg_entry_eq]
  generalize (lg_sl ([.ref h1, .int p1, .int 1, .ref h2]) ++ List.replicate (5 - (lg_sl ([.ref h1, .int p1, .int 1, .ref h2])).length) Slot.unset).toArray = ls at hl ⊢
  have hl : lv_has ls 5 [(0, .ref h1), (1, .int p1), (2, .int 1), (3, .ref h2)] := hl
  refine lv_aload_n hx hb dL_close_0 rfl (lv_at hl 3 rfl) ?_
  refine lv_iconst (v := 0) hx hb dL_close_1 (by decide) ?_
  refine lv_aload_n hx hb dL_close_2 rfl (lv_at hl 0 rfl) ?_
  refine lv_iload_n hx hb dL_close_3 rfl (lv_at hl 1 rfl) ?_
  refine lv_iload_n hx hb dL_close_4 rfl (lv_at hl 2 rfl) ?_
  have hPc := hP.sub (ws' := [(h1, .inr (9, [.ref h3, x4, x5, x6, x7, x8, x9])), (h3, .inr (2, [x10, x11, .int 0, x12]))]) [0, 1] rfl
  refine vx_calli (vx_runV (As := [.int p1, .int 1]) (rest := [.int 0, .ref h2]) ⟨hx, hb, hml, hown, hts⟩ (k_X7_close_1 l hl9 D cy h1 p1 h3 (x4) (x5) (x6) (x7) (x8) (x9) (x10) (x11) (x12)) (cwV 2 hts gL_close_X7_close rfl rfl rfl (by decide +kernel) ⟨(Nat.le_of_ble_eq_true rfl), (Nat.le_of_ble_eq_true rfl)⟩) ⟨kRX_fb, va_recv hK hP (ci := 9) (q0 := 0) rfl rfl, (kRX_go hPc hK hE hS)⟩ rfl rfl hl.1 rfl (lv_room (Nat.le_of_ble_eq_true rfl)) dL_close_5 ⟨(Nat.le_of_ble_eq_true rfl), (Nat.le_of_ble_eq_true rfl)⟩) hS (fun _ _ h => h.elim) (fun _ h => h.elim) (fun _ _ h => h.elim) (fun E9 ce9 q9 u t H locs ht hvm hw hB hz1 hk1 hS hce hcv hcl => ?_) (fun r9 u t H locs ht hvm hw hB hz1 hk1 hS => ?_)
  · obtain ⟨rfl, hB⟩ := hB
    have f_1 : True := hB
    have hP := kx_kept hP hk1
    refine vx_catch (E := "java/lang/IndexOutOfBoundsException") (name := "java/lang/IndexOutOfBoundsException") hown [] (⟨0, 17, 20, 28⟩ : ExceptionTableEntry) [(⟨0, 17, 24, 30⟩ : ExceptionTableEntry)] htb (fun _ h => absurd h List.not_mem_nil) rfl (by decide) (hts (.classLink RL 28 "java/lang/IndexOutOfBoundsException") (List.mem_cons_of_mem _ (List.mem_append_left _ (List.mem_append_left _ (List.mem_append_left _ (List.mem_append_left _ (List.mem_append_left _ (List.mem_append_left _ (List.mem_append_left _ (List.mem_append_left _ (List.mem_of_getElem? (i := 0) rfl))))))))))) (exP.cast hE "java/lang/IndexOutOfBoundsException" (by decide +kernel)) hce hcv hcl ?_
    refine lv_astore (lv' := [(4, .ref q9), (0, .ref h1), (1, .int p1), (2, .int 1), (3, .ref h2)]) hx hb dL_close_20 hl (by decide) rfl (fun ls hl => ?_)
    refine lv_iconst (v := 1) hx hb dL_close_22 (by decide) ?_
    refine W.widen (k := 1) (n := 6) (Nat.le_of_ble_eq_true rfl) (Nat.le_of_ble_eq_true rfl) ?_
    exact W.iret (v := 1) hx hb hr (fun t ht hW => ⟨⟨1, (), rfl, ⟨rfl, trivial⟩, trivial⟩, hS.F ht⟩) hS.2.2 dL_close_23
  · exact (show False from hw).elim
set_option maxHeartbeats 4000000 in
set_option maxRecDepth 100000 in
theorem k_X8_close_1 (l : Launch) (D : va_G) (cy : Nat → ClassId) (h1 : Nat) (p0 : Int32) (x2 : Value) (x3 : Value) (x4 : Value) (x5 : Value) (x6 : Value) (x7 : Value) (x8 : Value) (x9 : Value) (x10 : Value) (x11 : Value) (x12 : Value) (x13 : Value) (x14 : Value) (x15 : Value) (x16 : Value) (x17 : Value) (x18 : Value) (sz : Nat) : Met l yX8_close wsX8_close ({ frames := 2, cells := 0, slots := 0, locals := 43 }) (kW D cy [.ref h1, .int p0, .int 1] [(h1, .inr (10, [x2, x3, x4, x5, x6, x7, x8, x9, x10, x11, x12, x13, x14, x15, .int 0, x16, x17, x18]))] sz) (va_Qi (fun (r : Int32) (_ : Unit) => r = 0 ∧ True) (fun (_ : Unit) (t : State) => va_P D vwCl [(h1, .inr (10, [x2, x3, x4, x5, x6, x7, x8, x9, x10, x11, x12, x13, x14, x15, .int 0, x16, x17, .int 1]))] t.heap ∧ va_D (va_A [(h1, .inr (10, [x2, x3, x4, x5, x6, x7, x8, x9, x10, x11, x12, x13, x14, x15, .int 0, x16, x17, x18]))] sz) [(h1, .inr (10, [x2, x3, x4, x5, x6, x7, x8, x9, x10, x11, x12, x13, x14, x15, .int 0, x16, x17, .int 1]))]) (va_A [(h1, .inr (10, [x2, x3, x4, x5, x6, x7, x8, x9, x10, x11, x12, x13, x14, x15, .int 0, x16, x17, x18]))] sz)) 0 0 (va_A [(h1, .inr (10, [x2, x3, x4, x5, x6, x7, x8, x9, x10, x11, x12, x13, x14, x15, .int 0, x16, x17, x18]))] sz) := by
  refine Met.ofW (cc := cX8_close) (maxL := 5) (ret := (some .boolean)) (by decide) rfl ?_
  intro p e s m args below meth c s₁ B hml hv
  obtain ⟨rfl, hsz, hP, hK, hD0⟩ := hv
  have hx := B.exec
  have hb := B.bytes
  have hr := B.returns
  have hts := atoms_spec (ws := wsX8_close) B.pre
  have hown : s.vm.findClass RX8 = some m.cls := findClass_of_methodNamed B.named
  have hlocks := B.notSynchronized
  subst hsz
  have hD := hD0.self (sz := s.heap.size)
  generalize hAe : va_A [(h1, .inr (10, [x2, x3, x4, x5, x6, x7, x8, x9, x10, x11, x12, x13, x14, x15, .int 0, x16, x17, x18]))] s.heap.size = A at hD ⊢
  have hA : ∀ q : Nat, s.heap.size ≤ q → A q := fun q h => by rw [← hAe]; exact Or.inr h
  have hS : va_S A s.heap s.heap [] := va_S.rf
  have hP : va_P D vwCl [(h1, .inr (10, [x2, x3, x4, x5, x6, x7, x8, x9, x10, x11, x12, x13, x14, x15, .int 0, x16, x17, x18]))] s.heap := hP
  have hl := lv_entry ([.ref h1, .int p0, .int 1]) (n := 5) (Nat.le_of_ble_eq_true rfl)
  rw [lg_entry_eq]
  generalize (lg_sl ([.ref h1, .int p0, .int 1]) ++ List.replicate (5 - (lg_sl ([.ref h1, .int p0, .int 1])).length) Slot.unset).toArray = ls at hl ⊢
  have hl : lv_has ls 5 [(0, .ref h1), (1, .int p0), (2, .int 1)] := hl
  refine lv_aload_n hx hb dX8_close_0 rfl (lv_at hl 0 rfl) ?_
  refine lv_aload_n hx hb dX8_close_1 rfl (lv_at hl 0 rfl) ?_
  refine lv_iload_n hx hb dX8_close_2 rfl (lv_at hl 1 rfl) ?_
  have hPc := hP.sub (ws' := [(h1, .inr (10, [x2, x3, x4, x5, x6, x7, x8, x9, x10, x11, x12, x13, x14, x15, .int 0, x16, x17, x18]))]) [0] rfl
  refine va_calli (va_runV (As := [.int p0]) (rest := [.ref h1]) ⟨hx, hb, hml, hown, hts⟩ (k_X8_isNoLoad l D cy h1 p0 (x2) (x3) (x4) (x5) (x6) (x7) (x8) (x9) (x10) (x11) (x12) (x13) (x14) (x15) (x16) (x17) (x18)) (cwV 1 hts gX8_close_X8_isNoLoad rfl rfl rfl (by decide +kernel) ⟨(Nat.le_of_ble_eq_true rfl), (Nat.le_of_ble_eq_true rfl)⟩) ⟨kR_fb, va_recv hK hP (ci := 10) (q0 := 0) rfl rfl, (kR_go hPc hK)⟩ rfl rfl hl.1 rfl (lv_room (Nat.le_of_ble_eq_true rfl)) dX8_close_3 ⟨(Nat.le_of_ble_eq_true rfl), (Nat.le_of_ble_eq_true rfl)⟩) hS (fun _ _ h => h.elim) (fun _ h => h.elim) (fun r9 u t H locs ht hvm hw hB hz1 hk1 hS => ?_)
  have hP := kx_kept hP hk1
  obtain ⟨rfl, hw⟩ := hw
  refine lv_iconst (v := 1) hx hb dX8_close_6 (by decide) ?_
  have hPc := hP.sub (ws' := [(h1, .inr (10, [x2, x3, x4, x5, x6, x7, x8, x9, x10, x11, x12, x13, x14, x15, .int 0, x16, x17, x18]))]) [0] rfl
  have hDc := hD.sub (ws' := [(h1, .inr (10, [x2, x3, x4, x5, x6, x7, x8, x9, x10, x11, x12, x13, x14, x15, .int 0, x16, x17, x18]))]) [0] (by decide) rfl
  have hFc := va_free (wc := [(h1, .inr (10, [x2, x3, x4, x5, x6, x7, x8, x9, x10, x11, x12, x13, x14, x15, .int 0, x16, x17, x18]))]) hD hS hA [0] rfl
  refine va_calli (va_runV (As := [.int 1, .int 1]) (rest := []) ⟨hx, hb, hml, hown, hts⟩ (k_X8_isThrown l D cy h1 (x2) (x3) (x4) (x5) (x6) (x7) (x8) (x9) (x10) (x11) (x12) (x13) (x14) (x15) (.int 0) (x16) (x17) (x18) H.size) (cwV 2 hts gX8_close_X8_isThrown rfl rfl rfl (by decide +kernel) ⟨(Nat.le_of_ble_eq_true rfl), (Nat.le_of_ble_eq_true rfl)⟩) ⟨kW_fb, va_recv hK hP (ci := 10) (q0 := 0) rfl rfl, (kW_go hPc hK hDc)⟩ rfl rfl hl.1 rfl (lv_room (Nat.le_of_ble_eq_true rfl)) dX8_close_7 ⟨(Nat.le_of_ble_eq_true rfl), (Nat.le_of_ble_eq_true rfl)⟩) hS (fun q _ h => hFc q h) hFc (fun r9 u t H locs ht hvm hw hB hz1 hk1 hS => ?_)
  obtain ⟨hP1, hD1⟩ := hB
  rw [ht] at hP1
  try dsimp only at hw hP1 hD1
  obtain ⟨hP, hD⟩ := va_join (wr := []) (w1 := [(h1, .inr (10, [x2, x3, x4, x5, x6, x7, x8, x9, x10, x11, x12, x13, x14, x15, .int 0, x16, x17, .int 1]))]) hP hD [0] [] rfl rfl (by decide) (by decide) hk1 hFc hP1 hD1
  have hP : va_P D vwCl [(h1, .inr (10, [x2, x3, x4, x5, x6, x7, x8, x9, x10, x11, x12, x13, x14, x15, .int 0, x16, x17, .int 1]))] H := hP
  have hD : va_D A [(h1, .inr (10, [x2, x3, x4, x5, x6, x7, x8, x9, x10, x11, x12, x13, x14, x15, .int 0, x16, x17, .int 1]))] := hD
  obtain ⟨rfl, hw⟩ := hw
  refine lv_if_eq (tgt := 15) hx hb dX8_close_10 (by decide) (fun h => absurd h (by decide)) (fun _ => ?_)
  refine lv_iconst (v := 0) hx hb dX8_close_13 (by decide) ?_
  refine W.widen (k := 0) (n := 0) (Nat.le_of_ble_eq_true rfl) (Nat.le_of_ble_eq_true rfl) ?_
  have hP9 := hP.sub (ws' := [(h1, .inr (10, [x2, x3, x4, x5, x6, x7, x8, x9, x10, x11, x12, x13, x14, x15, .int 0, x16, x17, .int 1]))]) [0] rfl
  have hD9 := hD.sub (ws' := [(h1, .inr (10, [x2, x3, x4, x5, x6, x7, x8, x9, x10, x11, x12, x13, x14, x15, .int 0, x16, x17, .int 1]))]) [0] (by decide) rfl
  exact W.zret (v := 0) hx hb hr rfl (fun t ht hW => ⟨⟨0, (), rfl, ⟨rfl, trivial⟩, ⟨by rw [ht]; exact hP9, hD9⟩⟩, hS.F ht⟩) hS.2.2 dX8_close_14
theorem dX7_bestWay_0 : decode cX7_bestWay 0 = .ok (.aload_n 0, 1) := by decide +kernel
theorem dX7_bestWay_1 : decode cX7_bestWay 1 = .ok (.iload_n 1, 1) := by decide +kernel
theorem dX7_bestWay_2 : decode cX7_bestWay 2 = .ok (.invokevirtual 88, 3) := by decide +kernel
set_option maxRecDepth 20000 in
theorem ggX7_bestWay_X7_checkPlayer : GoodIn wsX7_bestWay wsX7_checkPlayer := goodIn_ca (goodIn_r _ [10, 11, 12, 5, 13, 52, 53, 54, 55, 56, 57, 58, 62, 63, 64, 65] (by decide +kernel) (by decide +kernel)) (goodIn_sub (fun _ h => List.mem_cons_of_mem _ (List.mem_append_right _ h)) (by decide +kernel))
set_option maxRecDepth 20000 in
theorem gX7_bestWay_X7_checkPlayer : GoodIn wsX7_bestWay (wsV RX7 88 RX7 yX7_checkPlayer wsX7_checkPlayer) := goodIn_app (goodIn_of _ (by decide +kernel)) ggX7_bestWay_X7_checkPlayer
set_option maxHeartbeats 4000000 in
set_option maxRecDepth 100000 in
theorem k_X7_bestWay (l : Launch) (hl9 : l.stackTraces = false) (D : va_G) (cy : Nat → ClassId) (h1 : Nat) (p0 : Int32) (h2 : Nat) (x3 : Value) (x4 : Value) (x5 : Value) (x6 : Value) (x7 : Value) (x8 : Value) (x9 : Value) (x10 : Value) (x11 : Value) : vx_Met l yX7_bestWay wsX7_bestWay ({ frames := 7, cells := 1, slots := 6, locals := 103 }) (kRX D cy [.ref h1, .int p0] [(h1, .inr (9, [.ref h2, x3, x4, x5, x6, x7, x8])), (h2, .inr (2, [x9, x10, x11, .int 0]))]) (va_Qi (fun (r : Int32) (_ : Unit) => False) (fun (_ : Unit) (_ : State) => True) (fun _ : Nat => False)) (vx_X (fun _ : Unit => True) (fun (E : String) (_ : Unit) (_ : State) => (E = "java/lang/IndexOutOfBoundsException" ∧ True)) (fun _ : Nat => False)) 1 6 (fun _ : Nat => False) := by
  refine vx_ofW (cc := cX7_bestWay) (maxL := 2) (ret := (some .int)) (by decide) rfl ?_
  intro p e s m args below meth c s₁ B hml ht9 hv
  obtain ⟨rfl, hP, hK, hE⟩ := hv
  have hx := B.exec
  have hb := B.bytes
  have hr := B.returns
  have hts := atoms_spec (ws := wsX7_bestWay) B.pre
  have hown : s.vm.findClass RX7 = some m.cls := findClass_of_methodNamed B.named
  have hlocks := B.notSynchronized
  have hS : va_S (fun _ : Nat => False) s.heap s.heap [] := va_S.rf
  have hP : va_P D vwCl [(h1, .inr (9, [.ref h2, x3, x4, x5, x6, x7, x8])), (h2, .inr (2, [x9, x10, x11, .int 0]))] s.heap := hP
  have hl := lv_entry ([.ref h1, .int p0]) (n := 2) (Nat.le_of_ble_eq_true rfl)
  rw [lg_entry_eq]
  generalize (lg_sl ([.ref h1, .int p0]) ++ List.replicate (2 - (lg_sl ([.ref h1, .int p0])).length) Slot.unset).toArray = ls at hl ⊢
  have hl : lv_has ls 2 [(0, .ref h1), (1, .int p0)] := hl
  refine lv_aload_n hx hb dX7_bestWay_0 rfl (lv_at hl 0 rfl) ?_
  refine lv_iload_n hx hb dX7_bestWay_1 rfl (lv_at hl 1 rfl) ?_
  have hPc := hP.sub (ws' := [(h1, .inr (9, [.ref h2, x3, x4, x5, x6, x7, x8])), (h2, .inr (2, [x9, x10, x11, .int 0]))]) [0, 1] rfl
  refine vx_callv (vx_runV (As := [.int p0]) (rest := []) ⟨hx, hb, hml, hown, hts⟩ (k_X7_checkPlayer l hl9 D cy h1 p0 h2 (x3) (x4) (x5) (x6) (x7) (x8) (x9) (x10) (x11)) (cwV 1 hts gX7_bestWay_X7_checkPlayer rfl rfl rfl (by decide +kernel) ⟨(Nat.le_of_ble_eq_true rfl), (Nat.le_of_ble_eq_true rfl)⟩) ⟨kRX_fb, va_recv hK hP (ci := 9) (q0 := 0) rfl rfl, (kRX_go hPc hK hE hS)⟩ rfl rfl hl.1 rfl (lv_room (Nat.le_of_ble_eq_true rfl)) dX7_bestWay_2 ⟨(Nat.le_of_ble_eq_true rfl), (Nat.le_of_ble_eq_true rfl)⟩) hS (fun _ _ h => h.elim) (fun _ h => h.elim) (fun _ _ h => h.elim) (fun E9 ce9 q9 u t H locs ht hvm hw hB hz1 hk1 hS hce hcv hcl => ?_) (fun u t H locs ht hvm hw hB hz1 hk1 hS => ?_)
  · obtain ⟨rfl, hB⟩ := hB
    have f_1 : True := hB
    exact vx_out (fun x hx => (ht9 x hx).elim) hlocks hce hcv hcl (fun t ht _ => ⟨(), trivial, (⟨rfl, trivial⟩), hS.F ht⟩) hS.2.2 (Nat.le_of_ble_eq_true rfl) (Nat.le_of_ble_eq_true rfl)
  · exact (show False from hw).elim
theorem dL_bestWay_0 : decode cL_bestWay 0 = .ok (.aload_n 2, 1) := by decide +kernel
theorem dL_bestWay_1 : decode cL_bestWay 1 = .ok (.iconst 0, 1) := by decide +kernel
theorem dL_bestWay_2 : decode cL_bestWay 2 = .ok (.aload_n 0, 1) := by decide +kernel
theorem dL_bestWay_3 : decode cL_bestWay 3 = .ok (.iload_n 1, 1) := by decide +kernel
theorem dL_bestWay_4 : decode cL_bestWay 4 = .ok (.invokevirtual 79, 3) := by decide +kernel
set_option maxRecDepth 20000 in
theorem ggL_bestWay_X7_bestWay : GoodIn wsL_bestWay wsX7_bestWay := goodIn_ca (goodIn_ca (goodIn_ca (goodIn_r _ [7, 8, 9, 10, 11, 12, 13, 14, 15, 6, 16, 17, 18, 19, 20, 21, 22, 23, 24, 25, 26, 27, 28, 29, 30, 31, 32, 33, 34, 35, 36, 37, 38, 39, 40, 41, 42, 43, 44, 45, 46, 47, 48, 49, 50, 51, 52, 53, 54, 55, 56, 57, 58, 59, 60, 61, 62, 63, 64, 65, 66, 67, 68, 69, 70, 71, 72, 73, 74, 75, 76, 77, 78, 79, 80, 81, 82, 83, 84] (by decide +kernel) (by decide +kernel)) (goodIn_sub (fun _ h => List.mem_cons_of_mem _ (List.mem_append_left _ (List.mem_append_left _ (List.mem_append_right _ h)))) (by decide +kernel))) (goodIn_sub (fun _ h => List.mem_cons_of_mem _ (List.mem_append_left _ (List.mem_append_right _ h))) (by decide +kernel))) (goodIn_sub (fun _ h => List.mem_cons_of_mem _ (List.mem_append_right _ h)) (by decide +kernel))
set_option maxRecDepth 20000 in
theorem gL_bestWay_X7_bestWay : GoodIn wsL_bestWay (wsV RL 79 RX7 yX7_bestWay wsX7_bestWay) := goodIn_app (goodIn_of _ (by decide +kernel)) ggL_bestWay_X7_bestWay
theorem dL_bestWay_12 : decode cL_bestWay 12 = .ok (.astore_n 3, 1) := by decide +kernel
theorem dL_bestWay_13 : decode cL_bestWay 13 = .ok (.iconst 1, 1) := by decide +kernel
theorem dL_bestWay_14 : decode cL_bestWay 14 = .ok (.ireturn, 1) := by decide +kernel
set_option maxHeartbeats 4000000 in
set_option maxRecDepth 100000 in
theorem k_L_bestWay (l : Launch) (hl9 : l.stackTraces = false) (D : va_G) (cy : Nat → ClassId) (h1 : Nat) (p1 : Int32) (h2 : Nat) (h3 : Nat) (x4 : Value) (x5 : Value) (x6 : Value) (x7 : Value) (x8 : Value) (x9 : Value) (x10 : Value) (x11 : Value) (x12 : Value) : Met l yL_bestWay wsL_bestWay ({ frames := 8, cells := 1, slots := 6, locals := 124 }) (kRX D cy [.ref h1, .int p1, .ref h2] [(h1, .inr (9, [.ref h3, x4, x5, x6, x7, x8, x9])), (h3, .inr (2, [x10, x11, x12, .int 0]))]) (va_Qi (fun (r : Int32) (_ : Unit) => r = 1 ∧ True) (fun (_ : Unit) (_ : State) => True) (fun _ : Nat => False)) 1 6 (fun _ : Nat => False) := by
  refine va_MetW (cc := cL_bestWay) (maxL := 4) (ret := (some .int)) (by decide) rfl ?_
  intro p e s m args below meth c s₁ B hml hv
  obtain ⟨rfl, hP, hK, hE⟩ := hv
  have hx := B.exec
  have hb := B.bytes
  have hr := B.returns
  have hts := atoms_spec (ws := wsL_bestWay) B.pre
  have hown : s.vm.findClass RL = some m.cls := findClass_of_methodNamed B.named
  have hlocks := B.notSynchronized
  have htb := vx_table (x := yL_bestWay) B (hts _ (List.mem_cons_self))
  have hS : va_S (fun _ : Nat => False) s.heap s.heap [] := va_S.rf
  have hP : va_P D vwCl [(h1, .inr (9, [.ref h3, x4, x5, x6, x7, x8, x9])), (h3, .inr (2, [x10, x11, x12, .int 0]))] s.heap := hP
  have hl := lv_entry ([.ref h1, .int p1, .ref h2]) (n := 4) (Nat.le_of_ble_eq_true rfl)
  rw [lg_entry_eq]
  generalize (lg_sl ([.ref h1, .int p1, .ref h2]) ++ List.replicate (4 - (lg_sl ([.ref h1, .int p1, .ref h2])).length) Slot.unset).toArray = ls at hl ⊢
  have hl : lv_has ls 4 [(0, .ref h1), (1, .int p1), (2, .ref h2)] := hl
  refine lv_aload_n hx hb dL_bestWay_0 rfl (lv_at hl 2 rfl) ?_
  refine lv_iconst (v := 0) hx hb dL_bestWay_1 (by decide) ?_
  refine lv_aload_n hx hb dL_bestWay_2 rfl (lv_at hl 0 rfl) ?_
  refine lv_iload_n hx hb dL_bestWay_3 rfl (lv_at hl 1 rfl) ?_
  have hPc := hP.sub (ws' := [(h1, .inr (9, [.ref h3, x4, x5, x6, x7, x8, x9])), (h3, .inr (2, [x10, x11, x12, .int 0]))]) [0, 1] rfl
  refine vx_calli (vx_runV (As := [.int p1]) (rest := [.int 0, .ref h2]) ⟨hx, hb, hml, hown, hts⟩ (k_X7_bestWay l hl9 D cy h1 p1 h3 (x4) (x5) (x6) (x7) (x8) (x9) (x10) (x11) (x12)) (cwV 1 hts gL_bestWay_X7_bestWay rfl rfl rfl (by decide +kernel) ⟨(Nat.le_of_ble_eq_true rfl), (Nat.le_of_ble_eq_true rfl)⟩) ⟨kRX_fb, va_recv hK hP (ci := 9) (q0 := 0) rfl rfl, (kRX_go hPc hK hE hS)⟩ rfl rfl hl.1 rfl (lv_room (Nat.le_of_ble_eq_true rfl)) dL_bestWay_4 ⟨(Nat.le_of_ble_eq_true rfl), (Nat.le_of_ble_eq_true rfl)⟩) hS (fun _ _ h => h.elim) (fun _ h => h.elim) (fun _ _ h => h.elim) (fun E9 ce9 q9 u t H locs ht hvm hw hB hz1 hk1 hS hce hcv hcl => ?_) (fun r9 u t H locs ht hvm hw hB hz1 hk1 hS => ?_)
  · obtain ⟨rfl, hB⟩ := hB
    have f_1 : True := hB
    have hP := kx_kept hP hk1
    refine vx_catch (E := "java/lang/IndexOutOfBoundsException") (name := "java/lang/IndexOutOfBoundsException") hown [] (⟨0, 9, 12, 28⟩ : ExceptionTableEntry) [(⟨0, 9, 15, 36⟩ : ExceptionTableEntry)] htb (fun _ h => absurd h List.not_mem_nil) rfl (by decide) (hts (.classLink RL 28 "java/lang/IndexOutOfBoundsException") (List.mem_cons_of_mem _ (List.mem_append_left _ (List.mem_append_left _ (List.mem_append_left _ (List.mem_append_left _ (List.mem_append_left _ (List.mem_append_left _ (List.mem_append_left _ (List.mem_append_left _ (List.mem_append_left _ (List.mem_of_getElem? (i := 0) rfl)))))))))))) (exP.cast hE "java/lang/IndexOutOfBoundsException" (by decide +kernel)) hce hcv hcl ?_
    refine lv_astore_n (lv' := [(3, .ref q9), (0, .ref h1), (1, .int p1), (2, .ref h2)]) hx hb dL_bestWay_12 rfl hl (by decide) rfl (fun ls hl => ?_)
    refine lv_iconst (v := 1) hx hb dL_bestWay_13 (by decide) ?_
    refine W.widen (k := 1) (n := 6) (Nat.le_of_ble_eq_true rfl) (Nat.le_of_ble_eq_true rfl) ?_
    exact W.iret (v := 1) hx hb hr (fun t ht hW => ⟨⟨1, (), rfl, ⟨rfl, trivial⟩, trivial⟩, hS.F ht⟩) hS.2.2 dL_bestWay_14
  · exact (show False from hw).elim
theorem dX8_bestWay_0 : decode cX8_bestWay 0 = .ok (.aload_n 0, 1) := by decide +kernel
theorem dX8_bestWay_1 : decode cX8_bestWay 1 = .ok (.aload_n 0, 1) := by decide +kernel
theorem dX8_bestWay_2 : decode cX8_bestWay 2 = .ok (.iload_n 1, 1) := by decide +kernel
theorem dX8_bestWay_3 : decode cX8_bestWay 3 = .ok (.invokevirtual 100, 3) := by decide +kernel
set_option maxRecDepth 20000 in
theorem ggX8_bestWay_X8_isNone : GoodIn wsX8_bestWay wsX8_isNone := goodIn_r _ [7, 8, 9, 10, 6, 11, 63, 64, 65, 66, 67, 68, 69, 70, 71, 72, 73, 74, 75, 76, 77, 78, 79, 80] (by decide +kernel) (by decide +kernel)
set_option maxRecDepth 20000 in
theorem gX8_bestWay_X8_isNone : GoodIn wsX8_bestWay (wsV RX8 100 RX8 yX8_isNone wsX8_isNone) := goodIn_app (goodIn_of _ (by decide +kernel)) ggX8_bestWay_X8_isNone
theorem dX8_bestWay_6 : decode cX8_bestWay 6 = .ok (.iconst 1, 1) := by decide +kernel
theorem dX8_bestWay_7 : decode cX8_bestWay 7 = .ok (.invokevirtual 73, 3) := by decide +kernel
set_option maxRecDepth 20000 in
theorem ggX8_bestWay_X8_isThrown : GoodIn wsX8_bestWay wsX8_isThrown := goodIn_r _ [15, 16, 63, 64, 65, 66, 67, 68, 69, 70, 71, 72, 73, 74, 75, 76, 77, 78, 79, 80] (by decide +kernel) (by decide +kernel)
set_option maxRecDepth 20000 in
theorem gX8_bestWay_X8_isThrown : GoodIn wsX8_bestWay (wsV RX8 73 RX8 yX8_isThrown wsX8_isThrown) := goodIn_app (goodIn_of _ (by decide +kernel)) ggX8_bestWay_X8_isThrown
theorem dX8_bestWay_10 : decode cX8_bestWay 10 = .ok (.ifCond .ne 25, 3) := by decide +kernel
theorem dX8_bestWay_35 : decode cX8_bestWay 35 = .ok (.iconst 0, 1) := by decide +kernel
theorem dX8_bestWay_36 : decode cX8_bestWay 36 = .ok (.goto 12, 3) := by decide +kernel
theorem dX8_bestWay_48 : decode cX8_bestWay 48 = .ok (.ireturn, 1) := by decide +kernel
set_option maxHeartbeats 4000000 in
set_option maxRecDepth 100000 in
theorem k_X8_bestWay (l : Launch) (D : va_G) (cy : Nat → ClassId) (h1 : Nat) (p0 : Int32) (x2 : Value) (x3 : Value) (x4 : Value) (x5 : Value) (x6 : Value) (x7 : Value) (x8 : Value) (x9 : Value) (x10 : Value) (x11 : Value) (x12 : Value) (x13 : Value) (x14 : Value) (x15 : Value) (x16 : Value) (x17 : Value) (x18 : Value) (sz : Nat) : Met l yX8_bestWay wsX8_bestWay ({ frames := 2, cells := 0, slots := 0, locals := 43 }) (kW D cy [.ref h1, .int p0] [(h1, .inr (10, [x2, x3, x4, x5, x6, x7, x8, x9, x10, x11, x12, x13, x14, x15, x16, .int 0, x17, x18]))] sz) (va_Qi (fun (r : Int32) (_ : Unit) => r = 0 ∧ True) (fun (_ : Unit) (t : State) => va_P D vwCl [(h1, .inr (10, [x2, x3, x4, x5, x6, x7, x8, x9, x10, x11, x12, x13, x14, x15, x16, .int 0, x17, .int 1]))] t.heap ∧ va_D (va_A [(h1, .inr (10, [x2, x3, x4, x5, x6, x7, x8, x9, x10, x11, x12, x13, x14, x15, x16, .int 0, x17, x18]))] sz) [(h1, .inr (10, [x2, x3, x4, x5, x6, x7, x8, x9, x10, x11, x12, x13, x14, x15, x16, .int 0, x17, .int 1]))]) (va_A [(h1, .inr (10, [x2, x3, x4, x5, x6, x7, x8, x9, x10, x11, x12, x13, x14, x15, x16, .int 0, x17, x18]))] sz)) 0 0 (va_A [(h1, .inr (10, [x2, x3, x4, x5, x6, x7, x8, x9, x10, x11, x12, x13, x14, x15, x16, .int 0, x17, x18]))] sz) := by
  refine Met.ofW (cc := cX8_bestWay) (maxL := 2) (ret := (some .int)) (by decide) rfl ?_
  intro p e s m args below meth c s₁ B hml hv
  obtain ⟨rfl, hsz, hP, hK, hD0⟩ := hv
  have hx := B.exec
  have hb := B.bytes
  have hr := B.returns
  have hts := atoms_spec (ws := wsX8_bestWay) B.pre
  have hown : s.vm.findClass RX8 = some m.cls := findClass_of_methodNamed B.named
  have hlocks := B.notSynchronized
  subst hsz
  have hD := hD0.self (sz := s.heap.size)
  generalize hAe : va_A [(h1, .inr (10, [x2, x3, x4, x5, x6, x7, x8, x9, x10, x11, x12, x13, x14, x15, x16, .int 0, x17, x18]))] s.heap.size = A at hD ⊢
  have hA : ∀ q : Nat, s.heap.size ≤ q → A q := fun q h => by rw [← hAe]; exact Or.inr h
  have hS : va_S A s.heap s.heap [] := va_S.rf
  have hP : va_P D vwCl [(h1, .inr (10, [x2, x3, x4, x5, x6, x7, x8, x9, x10, x11, x12, x13, x14, x15, x16, .int 0, x17, x18]))] s.heap := hP
  have hl := lv_entry ([.ref h1, .int p0]) (n := 2) (Nat.le_of_ble_eq_true rfl)
  rw [lg_entry_eq]
  generalize (lg_sl ([.ref h1, .int p0]) ++ List.replicate (2 - (lg_sl ([.ref h1, .int p0])).length) Slot.unset).toArray = ls at hl ⊢
  have hl : lv_has ls 2 [(0, .ref h1), (1, .int p0)] := hl
  refine lv_aload_n hx hb dX8_bestWay_0 rfl (lv_at hl 0 rfl) ?_
  refine lv_aload_n hx hb dX8_bestWay_1 rfl (lv_at hl 0 rfl) ?_
  refine lv_iload_n hx hb dX8_bestWay_2 rfl (lv_at hl 1 rfl) ?_
  have hPc := hP.sub (ws' := [(h1, .inr (10, [x2, x3, x4, x5, x6, x7, x8, x9, x10, x11, x12, x13, x14, x15, x16, .int 0, x17, x18]))]) [0] rfl
  refine va_calli (va_runV (As := [.int p0]) (rest := [.ref h1]) ⟨hx, hb, hml, hown, hts⟩ (k_X8_isNone l D cy h1 p0 (x2) (x3) (x4) (x5) (x6) (x7) (x8) (x9) (x10) (x11) (x12) (x13) (x14) (x15) (x16) (x17) (x18)) (cwV 1 hts gX8_bestWay_X8_isNone rfl rfl rfl (by decide +kernel) ⟨(Nat.le_of_ble_eq_true rfl), (Nat.le_of_ble_eq_true rfl)⟩) ⟨kR_fb, va_recv hK hP (ci := 10) (q0 := 0) rfl rfl, (kR_go hPc hK)⟩ rfl rfl hl.1 rfl (lv_room (Nat.le_of_ble_eq_true rfl)) dX8_bestWay_3 ⟨(Nat.le_of_ble_eq_true rfl), (Nat.le_of_ble_eq_true rfl)⟩) hS (fun _ _ h => h.elim) (fun _ h => h.elim) (fun r9 u t H locs ht hvm hw hB hz1 hk1 hS => ?_)
  have hP := kx_kept hP hk1
  obtain ⟨rfl, hw⟩ := hw
  refine lv_iconst (v := 1) hx hb dX8_bestWay_6 (by decide) ?_
  have hPc := hP.sub (ws' := [(h1, .inr (10, [x2, x3, x4, x5, x6, x7, x8, x9, x10, x11, x12, x13, x14, x15, x16, .int 0, x17, x18]))]) [0] rfl
  have hDc := hD.sub (ws' := [(h1, .inr (10, [x2, x3, x4, x5, x6, x7, x8, x9, x10, x11, x12, x13, x14, x15, x16, .int 0, x17, x18]))]) [0] (by decide) rfl
  have hFc := va_free (wc := [(h1, .inr (10, [x2, x3, x4, x5, x6, x7, x8, x9, x10, x11, x12, x13, x14, x15, x16, .int 0, x17, x18]))]) hD hS hA [0] rfl
  refine va_calli (va_runV (As := [.int 1, .int 1]) (rest := []) ⟨hx, hb, hml, hown, hts⟩ (k_X8_isThrown l D cy h1 (x2) (x3) (x4) (x5) (x6) (x7) (x8) (x9) (x10) (x11) (x12) (x13) (x14) (x15) (x16) (.int 0) (x17) (x18) H.size) (cwV 2 hts gX8_bestWay_X8_isThrown rfl rfl rfl (by decide +kernel) ⟨(Nat.le_of_ble_eq_true rfl), (Nat.le_of_ble_eq_true rfl)⟩) ⟨kW_fb, va_recv hK hP (ci := 10) (q0 := 0) rfl rfl, (kW_go hPc hK hDc)⟩ rfl rfl hl.1 rfl (lv_room (Nat.le_of_ble_eq_true rfl)) dX8_bestWay_7 ⟨(Nat.le_of_ble_eq_true rfl), (Nat.le_of_ble_eq_true rfl)⟩) hS (fun q _ h => hFc q h) hFc (fun r9 u t H locs ht hvm hw hB hz1 hk1 hS => ?_)
  obtain ⟨hP1, hD1⟩ := hB
  rw [ht] at hP1
  try dsimp only at hw hP1 hD1
  obtain ⟨hP, hD⟩ := va_join (wr := []) (w1 := [(h1, .inr (10, [x2, x3, x4, x5, x6, x7, x8, x9, x10, x11, x12, x13, x14, x15, x16, .int 0, x17, .int 1]))]) hP hD [0] [] rfl rfl (by decide) (by decide) hk1 hFc hP1 hD1
  have hP : va_P D vwCl [(h1, .inr (10, [x2, x3, x4, x5, x6, x7, x8, x9, x10, x11, x12, x13, x14, x15, x16, .int 0, x17, .int 1]))] H := hP
  have hD : va_D A [(h1, .inr (10, [x2, x3, x4, x5, x6, x7, x8, x9, x10, x11, x12, x13, x14, x15, x16, .int 0, x17, .int 1]))] := hD
  obtain ⟨rfl, hw⟩ := hw
  refine lv_if_ne (tgt := 35) hx hb dX8_bestWay_10 (by decide) (fun _ => ?_) (fun h => absurd h (by decide))
  refine lv_iconst (v := 0) hx hb dX8_bestWay_35 (by decide) ?_
  refine lv_goto (tgt := 48) hx hb dX8_bestWay_36 (by decide) ?_
  refine W.widen (k := 0) (n := 0) (Nat.le_of_ble_eq_true rfl) (Nat.le_of_ble_eq_true rfl) ?_
  have hP9 := hP.sub (ws' := [(h1, .inr (10, [x2, x3, x4, x5, x6, x7, x8, x9, x10, x11, x12, x13, x14, x15, x16, .int 0, x17, .int 1]))]) [0] rfl
  have hD9 := hD.sub (ws' := [(h1, .inr (10, [x2, x3, x4, x5, x6, x7, x8, x9, x10, x11, x12, x13, x14, x15, x16, .int 0, x17, .int 1]))]) [0] (by decide) rfl
  exact W.iret (v := 0) hx hb hr (fun t ht hW => ⟨⟨0, (), rfl, ⟨rfl, trivial⟩, ⟨by rw [ht]; exact hP9, hD9⟩⟩, hS.F ht⟩) hS.2.2 dX8_bestWay_48
theorem dX7_improve_0 : decode cX7_improve 0 = .ok (.aload_n 0, 1) := by decide +kernel
theorem dX7_improve_1 : decode cX7_improve 1 = .ok (.iload_n 1, 1) := by decide +kernel
theorem dX7_improve_2 : decode cX7_improve 2 = .ok (.invokevirtual 88, 3) := by decide +kernel
set_option maxRecDepth 20000 in
theorem ggX7_improve_X7_checkPlayer : GoodIn wsX7_improve wsX7_checkPlayer := goodIn_ca (goodIn_r _ [9, 10, 11, 3, 12, 70, 71, 72, 73, 74, 75, 76, 77, 78, 79, 80] (by decide +kernel) (by decide +kernel)) (goodIn_sub (fun _ h => List.mem_cons_of_mem _ (List.mem_append_left _ (List.mem_append_right _ h))) (by decide +kernel))
set_option maxRecDepth 20000 in
theorem gX7_improve_X7_checkPlayer : GoodIn wsX7_improve (wsV RX7 88 RX7 yX7_checkPlayer wsX7_checkPlayer) := goodIn_app (goodIn_of _ (by decide +kernel)) ggX7_improve_X7_checkPlayer
set_option maxHeartbeats 4000000 in
set_option maxRecDepth 100000 in
theorem k_X7_improve (l : Launch) (hl9 : l.stackTraces = false) (D : va_G) (cy : Nat → ClassId) (h1 : Nat) (p0 : Int32) (h2 : Nat) (x3 : Value) (x4 : Value) (x5 : Value) (x6 : Value) (x7 : Value) (x8 : Value) (x9 : Value) (x10 : Value) (x11 : Value) : vx_Met l yX7_improve wsX7_improve ({ frames := 7, cells := 1, slots := 6, locals := 103 }) (kRX D cy [.ref h1, .int p0] [(h1, .inr (9, [.ref h2, x3, x4, x5, x6, x7, x8])), (h2, .inr (2, [x9, x10, x11, .int 0]))]) (va_Qi (fun (r : Int32) (_ : Unit) => False) (fun (_ : Unit) (_ : State) => True) (fun _ : Nat => False)) (vx_X (fun _ : Unit => True) (fun (E : String) (_ : Unit) (_ : State) => (E = "java/lang/IndexOutOfBoundsException" ∧ True)) (fun _ : Nat => False)) 1 6 (fun _ : Nat => False) := by
  refine vx_ofW (cc := cX7_improve) (maxL := 3) (ret := (some .int)) (by decide) rfl ?_
  intro p e s m args below meth c s₁ B hml ht9 hv
  obtain ⟨rfl, hP, hK, hE⟩ := hv
  have hx := B.exec
  have hb := B.bytes
  have hr := B.returns
  have hts := atoms_spec (ws := wsX7_improve) B.pre
  have hown : s.vm.findClass RX7 = some m.cls := findClass_of_methodNamed B.named
  have hlocks := B.notSynchronized
  have hS : va_S (fun _ : Nat => False) s.heap s.heap [] := va_S.rf
  have hP : va_P D vwCl [(h1, .inr (9, [.ref h2, x3, x4, x5, x6, x7, x8])), (h2, .inr (2, [x9, x10, x11, .int 0]))] s.heap := hP
  have hl := lv_entry ([.ref h1, .int p0]) (n := 3) (Nat.le_of_ble_eq_true rfl)
  rw [lg_entry_eq]
  generalize (lg_sl ([.ref h1, .int p0]) ++ List.replicate (3 - (lg_sl ([.ref h1, .int p0])).length) Slot.unset).toArray = ls at hl ⊢
  have hl : lv_has ls 3 [(0, .ref h1), (1, .int p0)] := hl
  refine lv_aload_n hx hb dX7_improve_0 rfl (lv_at hl 0 rfl) ?_
  refine lv_iload_n hx hb dX7_improve_1 rfl (lv_at hl 1 rfl) ?_
  have hPc := hP.sub (ws' := [(h1, .inr (9, [.ref h2, x3, x4, x5, x6, x7, x8])), (h2, .inr (2, [x9, x10, x11, .int 0]))]) [0, 1] rfl
  refine vx_callv (vx_runV (As := [.int p0]) (rest := []) ⟨hx, hb, hml, hown, hts⟩ (k_X7_checkPlayer l hl9 D cy h1 p0 h2 (x3) (x4) (x5) (x6) (x7) (x8) (x9) (x10) (x11)) (cwV 1 hts gX7_improve_X7_checkPlayer rfl rfl rfl (by decide +kernel) ⟨(Nat.le_of_ble_eq_true rfl), (Nat.le_of_ble_eq_true rfl)⟩) ⟨kRX_fb, va_recv hK hP (ci := 9) (q0 := 0) rfl rfl, (kRX_go hPc hK hE hS)⟩ rfl rfl hl.1 rfl (lv_room (Nat.le_of_ble_eq_true rfl)) dX7_improve_2 ⟨(Nat.le_of_ble_eq_true rfl), (Nat.le_of_ble_eq_true rfl)⟩) hS (fun _ _ h => h.elim) (fun _ h => h.elim) (fun _ _ h => h.elim) (fun E9 ce9 q9 u t H locs ht hvm hw hB hz1 hk1 hS hce hcv hcl => ?_) (fun u t H locs ht hvm hw hB hz1 hk1 hS => ?_)
  · obtain ⟨rfl, hB⟩ := hB
    have f_1 : True := hB
    exact vx_out (fun x hx => (ht9 x hx).elim) hlocks hce hcv hcl (fun t ht _ => ⟨(), trivial, (⟨rfl, trivial⟩), hS.F ht⟩) hS.2.2 (Nat.le_of_ble_eq_true rfl) (Nat.le_of_ble_eq_true rfl)
  · exact (show False from hw).elim
theorem dL_improve_0 : decode cL_improve 0 = .ok (.aload_n 2, 1) := by decide +kernel
theorem dL_improve_1 : decode cL_improve 1 = .ok (.iconst 0, 1) := by decide +kernel
theorem dL_improve_2 : decode cL_improve 2 = .ok (.aload_n 0, 1) := by decide +kernel
theorem dL_improve_3 : decode cL_improve 3 = .ok (.iload_n 1, 1) := by decide +kernel
theorem dL_improve_4 : decode cL_improve 4 = .ok (.invokevirtual 82, 3) := by decide +kernel
set_option maxRecDepth 20000 in
theorem ggL_improve_X7_improve : GoodIn wsL_improve wsX7_improve := goodIn_ca (goodIn_ca (goodIn_ca (goodIn_r _ [7, 8, 9, 10, 11, 12, 13, 14, 6, 15, 16, 17, 18, 19, 20, 21, 22, 23, 24, 25, 26, 27, 28, 29, 30, 31, 32, 33, 34, 35, 36, 37, 38, 39, 40, 41, 42, 43, 44, 45, 46, 47, 48, 49, 50, 51, 52, 53, 54, 55, 56, 57, 58, 59, 60, 61, 62, 63, 64, 65, 66, 67, 68, 69, 70, 71, 72, 73, 74, 75, 76, 77, 78, 79, 80, 81, 82, 83, 84, 85, 86, 87, 88, 89, 90, 91, 92, 93, 94, 95, 96, 97, 98, 99, 100, 101, 102] (by decide +kernel) (by decide +kernel)) (goodIn_sub (fun _ h => List.mem_cons_of_mem _ (List.mem_append_left _ (List.mem_append_right _ h))) (by decide +kernel))) (goodIn_sub (fun _ h => List.mem_cons_of_mem _ (List.mem_append_right _ h)) (by decide +kernel))) (goodIn_sub (fun _ h => List.mem_cons_of_mem _ (List.mem_append_left _ (List.mem_append_left _ (List.mem_append_right _ h)))) (by decide +kernel))
set_option maxRecDepth 20000 in
theorem gL_improve_X7_improve : GoodIn wsL_improve (wsV RL 82 RX7 yX7_improve wsX7_improve) := goodIn_app (goodIn_of _ (by decide +kernel)) ggL_improve_X7_improve
theorem dL_improve_12 : decode cL_improve 12 = .ok (.astore_n 3, 1) := by decide +kernel
theorem dL_improve_13 : decode cL_improve 13 = .ok (.iconst 1, 1) := by decide +kernel
theorem dL_improve_14 : decode cL_improve 14 = .ok (.ireturn, 1) := by decide +kernel
set_option maxHeartbeats 4000000 in
set_option maxRecDepth 100000 in
theorem k_L_improve (l : Launch) (hl9 : l.stackTraces = false) (D : va_G) (cy : Nat → ClassId) (h1 : Nat) (p1 : Int32) (h2 : Nat) (h3 : Nat) (x4 : Value) (x5 : Value) (x6 : Value) (x7 : Value) (x8 : Value) (x9 : Value) (x10 : Value) (x11 : Value) (x12 : Value) : Met l yL_improve wsL_improve ({ frames := 8, cells := 1, slots := 6, locals := 125 }) (kRX D cy [.ref h1, .int p1, .ref h2] [(h1, .inr (9, [.ref h3, x4, x5, x6, x7, x8, x9])), (h3, .inr (2, [x10, x11, x12, .int 0]))]) (va_Qi (fun (r : Int32) (_ : Unit) => r = 1 ∧ True) (fun (_ : Unit) (_ : State) => True) (fun _ : Nat => False)) 1 6 (fun _ : Nat => False) := by
  refine va_MetW (cc := cL_improve) (maxL := 4) (ret := (some .int)) (by decide) rfl ?_
  intro p e s m args below meth c s₁ B hml hv
  obtain ⟨rfl, hP, hK, hE⟩ := hv
  have hx := B.exec
  have hb := B.bytes
  have hr := B.returns
  have hts := atoms_spec (ws := wsL_improve) B.pre
  have hown : s.vm.findClass RL = some m.cls := findClass_of_methodNamed B.named
  have hlocks := B.notSynchronized
  have htb := vx_table (x := yL_improve) B (hts _ (List.mem_cons_self))
  have hS : va_S (fun _ : Nat => False) s.heap s.heap [] := va_S.rf
  have hP : va_P D vwCl [(h1, .inr (9, [.ref h3, x4, x5, x6, x7, x8, x9])), (h3, .inr (2, [x10, x11, x12, .int 0]))] s.heap := hP
  have hl := lv_entry ([.ref h1, .int p1, .ref h2]) (n := 4) (Nat.le_of_ble_eq_true rfl)
  rw [lg_entry_eq]
  generalize (lg_sl ([.ref h1, .int p1, .ref h2]) ++ List.replicate (4 - (lg_sl ([.ref h1, .int p1, .ref h2])).length) Slot.unset).toArray = ls at hl ⊢
  have hl : lv_has ls 4 [(0, .ref h1), (1, .int p1), (2, .ref h2)] := hl
  refine lv_aload_n hx hb dL_improve_0 rfl (lv_at hl 2 rfl) ?_
  refine lv_iconst (v := 0) hx hb dL_improve_1 (by decide) ?_
  refine lv_aload_n hx hb dL_improve_2 rfl (lv_at hl 0 rfl) ?_
  refine lv_iload_n hx hb dL_improve_3 rfl (lv_at hl 1 rfl) ?_
  have hPc := hP.sub (ws' := [(h1, .inr (9, [.ref h3, x4, x5, x6, x7, x8, x9])), (h3, .inr (2, [x10, x11, x12, .int 0]))]) [0, 1] rfl
  refine vx_calli (vx_runV (As := [.int p1]) (rest := [.int 0, .ref h2]) ⟨hx, hb, hml, hown, hts⟩ (k_X7_improve l hl9 D cy h1 p1 h3 (x4) (x5) (x6) (x7) (x8) (x9) (x10) (x11) (x12)) (cwV 1 hts gL_improve_X7_improve rfl rfl rfl (by decide +kernel) ⟨(Nat.le_of_ble_eq_true rfl), (Nat.le_of_ble_eq_true rfl)⟩) ⟨kRX_fb, va_recv hK hP (ci := 9) (q0 := 0) rfl rfl, (kRX_go hPc hK hE hS)⟩ rfl rfl hl.1 rfl (lv_room (Nat.le_of_ble_eq_true rfl)) dL_improve_4 ⟨(Nat.le_of_ble_eq_true rfl), (Nat.le_of_ble_eq_true rfl)⟩) hS (fun _ _ h => h.elim) (fun _ h => h.elim) (fun _ _ h => h.elim) (fun E9 ce9 q9 u t H locs ht hvm hw hB hz1 hk1 hS hce hcv hcl => ?_) (fun r9 u t H locs ht hvm hw hB hz1 hk1 hS => ?_)
  · obtain ⟨rfl, hB⟩ := hB
    have f_1 : True := hB
    have hP := kx_kept hP hk1
    refine vx_catch (E := "java/lang/IndexOutOfBoundsException") (name := "java/lang/IndexOutOfBoundsException") hown [] (⟨0, 9, 12, 28⟩ : ExceptionTableEntry) [(⟨0, 9, 15, 30⟩ : ExceptionTableEntry)] htb (fun _ h => absurd h List.not_mem_nil) rfl (by decide) (hts (.classLink RL 28 "java/lang/IndexOutOfBoundsException") (List.mem_cons_of_mem _ (List.mem_append_left _ (List.mem_append_left _ (List.mem_append_left _ (List.mem_append_left _ (List.mem_append_left _ (List.mem_append_left _ (List.mem_append_left _ (List.mem_append_left _ (List.mem_append_left _ (List.mem_of_getElem? (i := 0) rfl)))))))))))) (exP.cast hE "java/lang/IndexOutOfBoundsException" (by decide +kernel)) hce hcv hcl ?_
    refine lv_astore_n (lv' := [(3, .ref q9), (0, .ref h1), (1, .int p1), (2, .ref h2)]) hx hb dL_improve_12 rfl hl (by decide) rfl (fun ls hl => ?_)
    refine lv_iconst (v := 1) hx hb dL_improve_13 (by decide) ?_
    refine W.widen (k := 1) (n := 6) (Nat.le_of_ble_eq_true rfl) (Nat.le_of_ble_eq_true rfl) ?_
    exact W.iret (v := 1) hx hb hr (fun t ht hW => ⟨⟨1, (), rfl, ⟨rfl, trivial⟩, trivial⟩, hS.F ht⟩) hS.2.2 dL_improve_14
  · exact (show False from hw).elim
theorem dX8_improve_0 : decode cX8_improve 0 = .ok (.aload_n 0, 1) := by decide +kernel
theorem dX8_improve_1 : decode cX8_improve 1 = .ok (.aload_n 0, 1) := by decide +kernel
theorem dX8_improve_2 : decode cX8_improve 2 = .ok (.iload_n 1, 1) := by decide +kernel
theorem dX8_improve_3 : decode cX8_improve 3 = .ok (.invokevirtual 100, 3) := by decide +kernel
set_option maxRecDepth 20000 in
theorem ggX8_improve_X8_isNone : GoodIn wsX8_improve wsX8_isNone := goodIn_r _ [8, 9, 10, 11, 7, 12, 68, 69, 70, 71, 72, 73, 74, 75, 76, 77, 78, 79, 80, 81, 82, 83, 84, 85] (by decide +kernel) (by decide +kernel)
set_option maxRecDepth 20000 in
theorem gX8_improve_X8_isNone : GoodIn wsX8_improve (wsV RX8 100 RX8 yX8_isNone wsX8_isNone) := goodIn_app (goodIn_of _ (by decide +kernel)) ggX8_improve_X8_isNone
theorem dX8_improve_6 : decode cX8_improve 6 = .ok (.iconst 1, 1) := by decide +kernel
theorem dX8_improve_7 : decode cX8_improve 7 = .ok (.invokevirtual 73, 3) := by decide +kernel
set_option maxRecDepth 20000 in
theorem ggX8_improve_X8_isThrown : GoodIn wsX8_improve wsX8_isThrown := goodIn_r _ [16, 17, 68, 69, 70, 71, 72, 73, 74, 75, 76, 77, 78, 79, 80, 81, 82, 83, 84, 85] (by decide +kernel) (by decide +kernel)
set_option maxRecDepth 20000 in
theorem gX8_improve_X8_isThrown : GoodIn wsX8_improve (wsV RX8 73 RX8 yX8_isThrown wsX8_isThrown) := goodIn_app (goodIn_of _ (by decide +kernel)) ggX8_improve_X8_isThrown
theorem dX8_improve_10 : decode cX8_improve 10 = .ok (.ifCond .ne 34, 3) := by decide +kernel
theorem dX8_improve_44 : decode cX8_improve 44 = .ok (.iconst 0, 1) := by decide +kernel
theorem dX8_improve_45 : decode cX8_improve 45 = .ok (.ireturn, 1) := by decide +kernel
set_option maxHeartbeats 4000000 in
set_option maxRecDepth 100000 in
theorem k_X8_improve (l : Launch) (D : va_G) (cy : Nat → ClassId) (h1 : Nat) (p0 : Int32) (x2 : Value) (x3 : Value) (x4 : Value) (x5 : Value) (x6 : Value) (x7 : Value) (x8 : Value) (x9 : Value) (x10 : Value) (x11 : Value) (x12 : Value) (x13 : Value) (x14 : Value) (x15 : Value) (x16 : Value) (x17 : Value) (x18 : Value) (sz : Nat) : Met l yX8_improve wsX8_improve ({ frames := 2, cells := 0, slots := 0, locals := 43 }) (kW D cy [.ref h1, .int p0] [(h1, .inr (10, [x2, x3, x4, x5, x6, x7, x8, x9, x10, x11, x12, x13, x14, x15, x16, .int 0, x17, x18]))] sz) (va_Qi (fun (r : Int32) (_ : Unit) => r = 0 ∧ True) (fun (_ : Unit) (t : State) => va_P D vwCl [(h1, .inr (10, [x2, x3, x4, x5, x6, x7, x8, x9, x10, x11, x12, x13, x14, x15, x16, .int 0, x17, .int 1]))] t.heap ∧ va_D (va_A [(h1, .inr (10, [x2, x3, x4, x5, x6, x7, x8, x9, x10, x11, x12, x13, x14, x15, x16, .int 0, x17, x18]))] sz) [(h1, .inr (10, [x2, x3, x4, x5, x6, x7, x8, x9, x10, x11, x12, x13, x14, x15, x16, .int 0, x17, .int 1]))]) (va_A [(h1, .inr (10, [x2, x3, x4, x5, x6, x7, x8, x9, x10, x11, x12, x13, x14, x15, x16, .int 0, x17, x18]))] sz)) 0 0 (va_A [(h1, .inr (10, [x2, x3, x4, x5, x6, x7, x8, x9, x10, x11, x12, x13, x14, x15, x16, .int 0, x17, x18]))] sz) := by
  refine Met.ofW (cc := cX8_improve) (maxL := 3) (ret := (some .int)) (by decide) rfl ?_
  intro p e s m args below meth c s₁ B hml hv
  obtain ⟨rfl, hsz, hP, hK, hD0⟩ := hv
  have hx := B.exec
  have hb := B.bytes
  have hr := B.returns
  have hts := atoms_spec (ws := wsX8_improve) B.pre
  have hown : s.vm.findClass RX8 = some m.cls := findClass_of_methodNamed B.named
  have hlocks := B.notSynchronized
  subst hsz
  have hD := hD0.self (sz := s.heap.size)
  generalize hAe : va_A [(h1, .inr (10, [x2, x3, x4, x5, x6, x7, x8, x9, x10, x11, x12, x13, x14, x15, x16, .int 0, x17, x18]))] s.heap.size = A at hD ⊢
  have hA : ∀ q : Nat, s.heap.size ≤ q → A q := fun q h => by rw [← hAe]; exact Or.inr h
  have hS : va_S A s.heap s.heap [] := va_S.rf
  have hP : va_P D vwCl [(h1, .inr (10, [x2, x3, x4, x5, x6, x7, x8, x9, x10, x11, x12, x13, x14, x15, x16, .int 0, x17, x18]))] s.heap := hP
  have hl := lv_entry ([.ref h1, .int p0]) (n := 3) (Nat.le_of_ble_eq_true rfl)
  rw [lg_entry_eq]
  generalize (lg_sl ([.ref h1, .int p0]) ++ List.replicate (3 - (lg_sl ([.ref h1, .int p0])).length) Slot.unset).toArray = ls at hl ⊢
  have hl : lv_has ls 3 [(0, .ref h1), (1, .int p0)] := hl
  refine lv_aload_n hx hb dX8_improve_0 rfl (lv_at hl 0 rfl) ?_
  refine lv_aload_n hx hb dX8_improve_1 rfl (lv_at hl 0 rfl) ?_
  refine lv_iload_n hx hb dX8_improve_2 rfl (lv_at hl 1 rfl) ?_
  have hPc := hP.sub (ws' := [(h1, .inr (10, [x2, x3, x4, x5, x6, x7, x8, x9, x10, x11, x12, x13, x14, x15, x16, .int 0, x17, x18]))]) [0] rfl
  refine va_calli (va_runV (As := [.int p0]) (rest := [.ref h1]) ⟨hx, hb, hml, hown, hts⟩ (k_X8_isNone l D cy h1 p0 (x2) (x3) (x4) (x5) (x6) (x7) (x8) (x9) (x10) (x11) (x12) (x13) (x14) (x15) (x16) (x17) (x18)) (cwV 1 hts gX8_improve_X8_isNone rfl rfl rfl (by decide +kernel) ⟨(Nat.le_of_ble_eq_true rfl), (Nat.le_of_ble_eq_true rfl)⟩) ⟨kR_fb, va_recv hK hP (ci := 10) (q0 := 0) rfl rfl, (kR_go hPc hK)⟩ rfl rfl hl.1 rfl (lv_room (Nat.le_of_ble_eq_true rfl)) dX8_improve_3 ⟨(Nat.le_of_ble_eq_true rfl), (Nat.le_of_ble_eq_true rfl)⟩) hS (fun _ _ h => h.elim) (fun _ h => h.elim) (fun r9 u t H locs ht hvm hw hB hz1 hk1 hS => ?_)
  have hP := kx_kept hP hk1
  obtain ⟨rfl, hw⟩ := hw
  refine lv_iconst (v := 1) hx hb dX8_improve_6 (by decide) ?_
  have hPc := hP.sub (ws' := [(h1, .inr (10, [x2, x3, x4, x5, x6, x7, x8, x9, x10, x11, x12, x13, x14, x15, x16, .int 0, x17, x18]))]) [0] rfl
  have hDc := hD.sub (ws' := [(h1, .inr (10, [x2, x3, x4, x5, x6, x7, x8, x9, x10, x11, x12, x13, x14, x15, x16, .int 0, x17, x18]))]) [0] (by decide) rfl
  have hFc := va_free (wc := [(h1, .inr (10, [x2, x3, x4, x5, x6, x7, x8, x9, x10, x11, x12, x13, x14, x15, x16, .int 0, x17, x18]))]) hD hS hA [0] rfl
  refine va_calli (va_runV (As := [.int 1, .int 1]) (rest := []) ⟨hx, hb, hml, hown, hts⟩ (k_X8_isThrown l D cy h1 (x2) (x3) (x4) (x5) (x6) (x7) (x8) (x9) (x10) (x11) (x12) (x13) (x14) (x15) (x16) (.int 0) (x17) (x18) H.size) (cwV 2 hts gX8_improve_X8_isThrown rfl rfl rfl (by decide +kernel) ⟨(Nat.le_of_ble_eq_true rfl), (Nat.le_of_ble_eq_true rfl)⟩) ⟨kW_fb, va_recv hK hP (ci := 10) (q0 := 0) rfl rfl, (kW_go hPc hK hDc)⟩ rfl rfl hl.1 rfl (lv_room (Nat.le_of_ble_eq_true rfl)) dX8_improve_7 ⟨(Nat.le_of_ble_eq_true rfl), (Nat.le_of_ble_eq_true rfl)⟩) hS (fun q _ h => hFc q h) hFc (fun r9 u t H locs ht hvm hw hB hz1 hk1 hS => ?_)
  obtain ⟨hP1, hD1⟩ := hB
  rw [ht] at hP1
  try dsimp only at hw hP1 hD1
  obtain ⟨hP, hD⟩ := va_join (wr := []) (w1 := [(h1, .inr (10, [x2, x3, x4, x5, x6, x7, x8, x9, x10, x11, x12, x13, x14, x15, x16, .int 0, x17, .int 1]))]) hP hD [0] [] rfl rfl (by decide) (by decide) hk1 hFc hP1 hD1
  have hP : va_P D vwCl [(h1, .inr (10, [x2, x3, x4, x5, x6, x7, x8, x9, x10, x11, x12, x13, x14, x15, x16, .int 0, x17, .int 1]))] H := hP
  have hD : va_D A [(h1, .inr (10, [x2, x3, x4, x5, x6, x7, x8, x9, x10, x11, x12, x13, x14, x15, x16, .int 0, x17, .int 1]))] := hD
  obtain ⟨rfl, hw⟩ := hw
  refine lv_if_ne (tgt := 44) hx hb dX8_improve_10 (by decide) (fun _ => ?_) (fun h => absurd h (by decide))
  refine lv_iconst (v := 0) hx hb dX8_improve_44 (by decide) ?_
  refine W.widen (k := 0) (n := 0) (Nat.le_of_ble_eq_true rfl) (Nat.le_of_ble_eq_true rfl) ?_
  have hP9 := hP.sub (ws' := [(h1, .inr (10, [x2, x3, x4, x5, x6, x7, x8, x9, x10, x11, x12, x13, x14, x15, x16, .int 0, x17, .int 1]))]) [0] rfl
  have hD9 := hD.sub (ws' := [(h1, .inr (10, [x2, x3, x4, x5, x6, x7, x8, x9, x10, x11, x12, x13, x14, x15, x16, .int 0, x17, .int 1]))]) [0] (by decide) rfl
  exact W.iret (v := 0) hx hb hr (fun t ht hW => ⟨⟨0, (), rfl, ⟨rfl, trivial⟩, ⟨by rw [ht]; exact hP9, hD9⟩⟩, hS.F ht⟩) hS.2.2 dX8_improve_45
theorem dX0_firstToGain_0 : decode cX0_firstToGain 0 = .ok (.iconst 0, 1) := by decide +kernel
theorem dX0_firstToGain_1 : decode cX0_firstToGain 1 = .ok (.istore_n 3, 1) := by decide +kernel
theorem dX0_firstToGain_2 : decode cX0_firstToGain 2 = .ok (.iload_n 3, 1) := by decide +kernel
theorem dX0_firstToGain_3 : decode cX0_firstToGain 3 = .ok (.aload_n 0, 1) := by decide +kernel
theorem dX0_firstToGain_4 : decode cX0_firstToGain 4 = .ok (.getfield 42, 3) := by decide +kernel
theorem dX0_firstToGain_7 : decode cX0_firstToGain 7 = .ok (.if_icmp .ge 34, 3) := by decide +kernel
theorem dX0_firstToGain_41 : decode cX0_firstToGain 41 = .ok (.iconst (-1), 1) := by decide +kernel
theorem dX0_firstToGain_42 : decode cX0_firstToGain 42 = .ok (.ireturn, 1) := by decide +kernel
set_option maxHeartbeats 4000000 in
set_option maxRecDepth 100000 in
theorem k_X0_firstToGain (l : Launch) (D : va_G) (cy : Nat → ClassId) (h1 : Nat) (h2 : Nat) (x3 : Value) (x4 : Value) (x5 : Value) : Met l yX0_firstToGain wsX0_firstToGain ({ frames := 0, cells := 0, slots := 0, locals := 0 }) (kR D cy [.ref h1, .ref h2, .int 0] [(h1, .inr (2, [x3, x4, x5, .int 0]))]) (va_Qi (fun (r : Int32) (_ : Unit) => r = (-1) ∧ True) (fun (_ : Unit) (_ : State) => True) (fun _ : Nat => False)) 0 0 (fun _ : Nat => False) := by
  refine Met.ofW (cc := cX0_firstToGain) (maxL := 5) (ret := (some .int)) (by decide) rfl ?_
  intro p e s m args below meth c s₁ B hml hv
  obtain ⟨rfl, hP, hK⟩ := hv
  have hx := B.exec
  have hb := B.bytes
  have hr := B.returns
  have hts := atoms_spec (ws := wsX0_firstToGain) B.pre
  have hown : s.vm.findClass RX0 = some m.cls := findClass_of_methodNamed B.named
  have hlocks := B.notSynchronized
  have hS : va_S (fun _ : Nat => False) s.heap s.heap [] := va_S.rf
  have hP : va_P D vwCl [(h1, .inr (2, [x3, x4, x5, .int 0]))] s.heap := hP
  have hl := lv_entry ([.ref h1, .ref h2, .int 0]) (n := 5) (Nat.le_of_ble_eq_true rfl)
  rw [lg_entry_eq]
  generalize (lg_sl ([.ref h1, .ref h2, .int 0]) ++ List.replicate (5 - (lg_sl ([.ref h1, .ref h2, .int 0])).length) Slot.unset).toArray = ls at hl ⊢
  have hl : lv_has ls 5 [(0, .ref h1), (1, .ref h2), (2, .int 0)] := hl
  refine lv_iconst (v := 0) hx hb dX0_firstToGain_0 (by decide) ?_
  refine lv_istore_n (lv' := [(3, .int 0), (0, .ref h1), (1, .ref h2), (2, .int 0)]) hx hb dX0_firstToGain_1 rfl hl (by decide) rfl (fun ls hl => ?_)
  refine lv_iload_n hx hb dX0_firstToGain_2 rfl (lv_at hl 0 rfl) ?_
  refine lv_aload_n hx hb dX0_firstToGain_3 rfl (lv_at hl 1 rfl) ?_
  refine va_get (D := D) (ci := 2) (v := .int 0) (C := RX0) (T := TX0) (N := 4) hx hb hts (fun _ h => (List.mem_cons_of_mem _ (List.mem_append_left _ (List.mem_append_left _ (List.mem_append_left _ (List.mem_append_left _ (List.mem_append_right _ h))))))) hown hK hP 0 rfl rfl 3 (by decide) (hts (.fieldLink RX0 42 "SelfishJunction$Board" "playerCount" "I") (List.mem_cons_of_mem _ (List.mem_append_left _ (List.mem_append_left _ (List.mem_append_left _ (List.mem_append_left _ (List.mem_append_left _ (List.mem_append_left _ (List.mem_of_getElem? (i := 0) rfl))))))))) (fun _ h9 => h9) rfl dX0_firstToGain_4 ?_
  refine lv_icmp_ge (tgt := 41) hx hb dX0_firstToGain_7 (by decide) (fun _ => ?_) (fun h => absurd (by decide) h)
  refine lv_iconst (v := (-1)) hx hb dX0_firstToGain_41 (by decide) ?_
  refine W.widen (k := 0) (n := 0) (Nat.le_of_ble_eq_true rfl) (Nat.le_of_ble_eq_true rfl) ?_
  exact W.iret (v := (-1)) hx hb hr (fun t ht hW => ⟨⟨(-1), (), rfl, ⟨rfl, trivial⟩, trivial⟩, hS.F ht⟩) hS.2.2 dX0_firstToGain_42
