theorem dX7_isRest_0 : decode cX7_isRest 0 = .ok (.aload_n 0, 1) := by decide +kernel
theorem dX7_isRest_1 : decode cX7_isRest 1 = .ok (.getfield 10, 3) := by decide +kernel
theorem dX7_isRest_4 : decode cX7_isRest 4 = .ok (.aload_n 0, 1) := by decide +kernel
theorem dX7_isRest_5 : decode cX7_isRest 5 = .ok (.getfield 19, 3) := by decide +kernel
theorem dX7_isRest_8 : decode cX7_isRest 8 = .ok (.iconst 0, 1) := by decide +kernel
theorem dX7_isRest_9 : decode cX7_isRest 9 = .ok (.invokevirtual 236, 3) := by decide +kernel
set_option maxRecDepth 20000 in
theorem ggX7_isRest_X0_firstToGain : GoodIn wsX7_isRest wsX0_firstToGain := goodIn_ca (goodIn_r _ [7, 8, 9, 10, 11, 12, 13, 14, 15, 6, 16, 17, 18, 19, 20, 21, 22, 23, 24, 25, 26, 27, 28, 29, 30, 31, 32, 33, 34, 35, 36, 37, 38, 39, 40, 41, 42, 43, 44, 45, 46, 47, 48, 49, 50, 51, 52, 53, 54, 55, 56, 57, 58, 59, 60, 61, 62, 63, 71, 72, 73, 74, 75, 76, 77, 78, 79, 80, 81, 82, 83, 84, 85, 86, 87, 88, 89, 90] (by decide +kernel) (by decide +kernel)) (goodIn_sub (fun _ h => List.mem_cons_of_mem _ (List.mem_append_right _ h)) (by decide +kernel))
set_option maxRecDepth 20000 in
theorem gX7_isRest_X0_firstToGain : GoodIn wsX7_isRest (wsV RX7 236 RX0 yX0_firstToGain wsX0_firstToGain) := goodIn_app (goodIn_of _ (by decide +kernel)) ggX7_isRest_X0_firstToGain
theorem dX7_isRest_12 : decode cX7_isRest 12 = .ok (.ifCond .ge 7, 3) := by decide +kernel
theorem dX7_isRest_15 : decode cX7_isRest 15 = .ok (.iconst 1, 1) := by decide +kernel
theorem dX7_isRest_16 : decode cX7_isRest 16 = .ok (.goto 4, 3) := by decide +kernel
theorem dX7_isRest_20 : decode cX7_isRest 20 = .ok (.ireturn, 1) := by decide +kernel
set_option maxHeartbeats 4000000 in
set_option maxRecDepth 100000 in
theorem k_X7_isRest (l : Launch) (D : va_G) (cy : Nat → ClassId) (h1 : Nat) (h2 : Nat) (h3 : Nat) (x4 : Value) (x5 : Value) (x6 : Value) (x7 : Value) (x8 : Value) (x9 : Value) (x10 : Value) (x11 : Value) : Met l yX7_isRest wsX7_isRest ({ frames := 1, cells := 0, slots := 0, locals := 24 }) (kR D cy [.ref h1] [(h1, .inr (9, [.ref h2, .ref h3, x4, x5, x6, x7, x8])), (h2, .inr (2, [x9, x10, x11, .int 0]))]) (va_Qi (fun (r : Int32) (_ : Unit) => r = 1 ∧ True) (fun (_ : Unit) (_ : State) => True) (fun _ : Nat => False)) 0 0 (fun _ : Nat => False) := by
  refine Met.ofW (cc := cX7_isRest) (maxL := 1) (ret := (some .boolean)) (by decide) rfl ?_
  intro p e s m args below meth c s₁ B hml hv
  obtain ⟨rfl, hP, hK⟩ := hv
  have hx := B.exec
  have hb := B.bytes
  have hr := B.returns
  have hts := atoms_spec (ws := wsX7_isRest) B.pre
  have hown : s.vm.findClass RX7 = some m.cls := findClass_of_methodNamed B.named
  have hlocks := B.notSynchronized
  have hS : va_S (fun _ : Nat => False) s.heap s.heap [] := va_S.rf
  have hP : va_P D vwCl [(h1, .inr (9, [.ref h2, .ref h3, x4, x5, x6, x7, x8])), (h2, .inr (2, [x9, x10, x11, .int 0]))] s.heap := hP
  have hl := lv_entry ([.ref h1]) (n := 1) (Nat.le_of_ble_eq_true rfl)
  rw [lg_entry_eq]
  generalize (lg_sl ([.ref h1]) ++ List.replicate (1 - (lg_sl ([.ref h1])).length) Slot.unset).toArray = ls at hl ⊢
  have hl : lv_has ls 1 [(0, .ref h1)] := hl
  refine lv_aload_n hx hb dX7_isRest_0 rfl (lv_at hl 0 rfl) ?_
  refine va_get (D := D) (ci := 9) (v := .ref h2) (C := RX7) (T := TX7) (N := 7) hx hb hts (fun _ h => (List.mem_cons_of_mem _ (List.mem_append_left _ (List.mem_append_left _ (List.mem_append_left _ (List.mem_append_left _ (List.mem_append_left _ (List.mem_append_right _ h)))))))) hown hK hP 0 rfl rfl 0 (by decide) (hts (.fieldLink RX7 10 "SelfishJunction" "board" "LSelfishJunction$Board;") (List.mem_cons_of_mem _ (List.mem_append_left _ (List.mem_append_left _ (List.mem_append_left _ (List.mem_append_left _ (List.mem_append_left _ (List.mem_append_left _ (List.mem_append_left _ (List.mem_of_getElem? (i := 0) rfl)))))))))) (fun _ h9 => h9) rfl dX7_isRest_1 ?_
  refine lv_aload_n hx hb dX7_isRest_4 rfl (lv_at hl 0 rfl) ?_
  refine va_get (D := D) (ci := 9) (v := .ref h3) (C := RX7) (T := TX7) (N := 7) hx hb hts (fun _ h => (List.mem_cons_of_mem _ (List.mem_append_left _ (List.mem_append_left _ (List.mem_append_left _ (List.mem_append_left _ (List.mem_append_left _ (List.mem_append_right _ h)))))))) hown hK hP 0 rfl rfl 1 (by decide) (hts (.fieldLink RX7 19 "SelfishJunction" "now" "LSelfishJunction$Play;") (List.mem_cons_of_mem _ (List.mem_append_left _ (List.mem_append_left _ (List.mem_append_left _ (List.mem_append_left _ (List.mem_append_left _ (List.mem_append_left _ (List.mem_append_left _ (List.mem_of_getElem? (i := 1) rfl)))))))))) (fun _ h9 => h9) rfl dX7_isRest_5 ?_
  refine lv_iconst (v := 0) hx hb dX7_isRest_8 (by decide) ?_
  have hPc := hP.sub (ws' := [(h2, .inr (2, [x9, x10, x11, .int 0]))]) [1] rfl
  refine va_calli (va_runV (As := [.ref h3, .int 0]) (rest := []) ⟨hx, hb, hml, hown, hts⟩ (k_X0_firstToGain l D cy h2 h3 (x9) (x10) (x11)) (cwV 2 hts gX7_isRest_X0_firstToGain rfl rfl rfl (by decide +kernel) ⟨(Nat.le_of_ble_eq_true rfl), (Nat.le_of_ble_eq_true rfl)⟩) ⟨kR_fb, va_recv hK hP (ci := 2) (q0 := 1) rfl rfl, (kR_go hPc hK)⟩ rfl rfl hl.1 rfl (lv_room (Nat.le_of_ble_eq_true rfl)) dX7_isRest_9 ⟨(Nat.le_of_ble_eq_true rfl), (Nat.le_of_ble_eq_true rfl)⟩) hS (fun _ _ h => h.elim) (fun _ h => h.elim) (fun r9 u t H locs ht hvm hw hB hz1 hk1 hS => ?_)
  have hP := kx_kept hP hk1
  obtain ⟨rfl, hw⟩ := hw
  refine lv_if_ge (tgt := 19) hx hb dX7_isRest_12 (by decide) (fun h => absurd h (by decide)) (fun _ => ?_)
  refine lv_iconst (v := 1) hx hb dX7_isRest_15 (by decide) ?_
  refine lv_goto (tgt := 20) hx hb dX7_isRest_16 (by decide) ?_
  refine W.widen (k := 0) (n := 0) (Nat.le_of_ble_eq_true rfl) (Nat.le_of_ble_eq_true rfl) ?_
  exact W.zret (v := 1) hx hb hr rfl (fun t ht hW => ⟨⟨1, (), rfl, ⟨rfl, trivial⟩, trivial⟩, hS.F ht⟩) hS.2.2 dX7_isRest_20
theorem dX8_greatest_0 : decode cX8_greatest 0 = .ok (.iconst 0, 1) := by decide +kernel
theorem dX8_greatest_1 : decode cX8_greatest 1 = .ok (.istore_n 2, 1) := by decide +kernel
theorem dX8_greatest_2 : decode cX8_greatest 2 = .ok (.iconst 0, 1) := by decide +kernel
theorem dX8_greatest_3 : decode cX8_greatest 3 = .ok (.istore_n 3, 1) := by decide +kernel
theorem dX8_greatest_4 : decode cX8_greatest 4 = .ok (.iload_n 3, 1) := by decide +kernel
theorem dX8_greatest_5 : decode cX8_greatest 5 = .ok (.aload_n 0, 1) := by decide +kernel
theorem dX8_greatest_6 : decode cX8_greatest 6 = .ok (.getfield 85, 3) := by decide +kernel
theorem dX8_greatest_9 : decode cX8_greatest 9 = .ok (.if_icmp .ge 20, 3) := by decide +kernel
theorem dX8_greatest_29 : decode cX8_greatest 29 = .ok (.iload_n 2, 1) := by decide +kernel
theorem dX8_greatest_30 : decode cX8_greatest 30 = .ok (.ireturn, 1) := by decide +kernel
set_option maxHeartbeats 4000000 in
set_option maxRecDepth 100000 in
theorem k_X8_greatest (l : Launch) (D : va_G) (cy : Nat → ClassId) (h1 : Nat) (h2 : Nat) (x3 : Value) (x4 : Value) (x5 : Value) (x6 : Value) (x7 : Value) (x8 : Value) (x9 : Value) (x10 : Value) (x11 : Value) (x12 : Value) (x13 : Value) (x14 : Value) (x15 : Value) (x16 : Value) (x17 : Value) (x18 : Value) (x19 : Value) : Met l yX8_greatest wsX8_greatest ({ frames := 0, cells := 0, slots := 0, locals := 0 }) (kR D cy [.ref h1, .ref h2] [(h1, .inr (10, [x3, x4, x5, x6, x7, x8, x9, x10, x11, x12, x13, x14, x15, x16, x17, .int 0, x18, x19]))]) (va_Qi (fun (r : Int32) (_ : Unit) => r = 0 ∧ True) (fun (_ : Unit) (_ : State) => True) (fun _ : Nat => False)) 0 0 (fun _ : Nat => False) := by
  refine Met.ofW (cc := cX8_greatest) (maxL := 4) (ret := (some .int)) (by decide) rfl ?_
  intro p e s m args below meth c s₁ B hml hv
  obtain ⟨rfl, hP, hK⟩ := hv
  have hx := B.exec
  have hb := B.bytes
  have hr := B.returns
  have hts := atoms_spec (ws := wsX8_greatest) B.pre
  have hown : s.vm.findClass RX8 = some m.cls := findClass_of_methodNamed B.named
  have hlocks := B.notSynchronized
  have hS : va_S (fun _ : Nat => False) s.heap s.heap [] := va_S.rf
  have hP : va_P D vwCl [(h1, .inr (10, [x3, x4, x5, x6, x7, x8, x9, x10, x11, x12, x13, x14, x15, x16, x17, .int 0, x18, x19]))] s.heap := hP
  have hl := lv_entry ([.ref h1, .ref h2]) (n := 4) (Nat.le_of_ble_eq_true rfl)
  rw [lg_entry_eq]
  generalize (lg_sl ([.ref h1, .ref h2]) ++ List.replicate (4 - (lg_sl ([.ref h1, .ref h2])).length) Slot.unset).toArray = ls at hl ⊢
  have hl : lv_has ls 4 [(0, .ref h1), (1, .ref h2)] := hl
  refine lv_iconst (v := 0) hx hb dX8_greatest_0 (by decide) ?_
  refine lv_istore_n (lv' := [(2, .int 0), (0, .ref h1), (1, .ref h2)]) hx hb dX8_greatest_1 rfl hl (by decide) rfl (fun ls hl => ?_)
  refine lv_iconst (v := 0) hx hb dX8_greatest_2 (by decide) ?_
  refine lv_istore_n (lv' := [(3, .int 0), (2, .int 0), (0, .ref h1), (1, .ref h2)]) hx hb dX8_greatest_3 rfl hl (by decide) rfl (fun ls hl => ?_)
  refine lv_iload_n hx hb dX8_greatest_4 rfl (lv_at hl 0 rfl) ?_
  refine lv_aload_n hx hb dX8_greatest_5 rfl (lv_at hl 2 rfl) ?_
  refine va_get (D := D) (ci := 10) (v := .int 0) (C := RX8) (T := TX8) (N := 18) hx hb hts (fun _ h => (List.mem_cons_of_mem _ (List.mem_append_left _ (List.mem_append_left _ (List.mem_append_right _ h))))) hown hK hP 0 rfl rfl 15 (by decide) (hts (.fieldLink RX8 85 "SelfishJunctionModel" "players" "I") (List.mem_cons_of_mem _ (List.mem_append_left _ (List.mem_append_left _ (List.mem_append_left _ (List.mem_append_left _ (List.mem_of_getElem? (i := 0) rfl))))))) (fun _ h9 => h9) rfl dX8_greatest_6 ?_
  refine lv_icmp_ge (tgt := 29) hx hb dX8_greatest_9 (by decide) (fun _ => ?_) (fun h => absurd (by decide) h)
  refine lv_iload_n hx hb dX8_greatest_29 rfl (lv_at hl 1 rfl) ?_
  refine W.widen (k := 0) (n := 0) (Nat.le_of_ble_eq_true rfl) (Nat.le_of_ble_eq_true rfl) ?_
  exact W.iret (v := 0) hx hb hr (fun t ht hW => ⟨⟨0, (), rfl, ⟨rfl, trivial⟩, trivial⟩, hS.F ht⟩) hS.2.2 dX8_greatest_30
theorem dX8_isRest_0 : decode cX8_isRest 0 = .ok (.aload_n 0, 1) := by decide +kernel
theorem dX8_isRest_1 : decode cX8_isRest 1 = .ok (.iconst 0, 1) := by decide +kernel
theorem dX8_isRest_2 : decode cX8_isRest 2 = .ok (.putfield 59, 3) := by decide +kernel
theorem dX8_isRest_5 : decode cX8_isRest 5 = .ok (.aload_n 0, 1) := by decide +kernel
theorem dX8_isRest_6 : decode cX8_isRest 6 = .ok (.aload_n 0, 1) := by decide +kernel
theorem dX8_isRest_7 : decode cX8_isRest 7 = .ok (.getfield 52, 3) := by decide +kernel
theorem dX8_isRest_10 : decode cX8_isRest 10 = .ok (.invokevirtual 201, 3) := by decide +kernel
set_option maxRecDepth 20000 in
theorem ggX8_isRest_X8_greatest : GoodIn wsX8_isRest wsX8_greatest := goodIn_ca (goodIn_ca (goodIn_r _ [7, 8, 9, 10, 11, 12, 13, 14, 15, 6, 16, 17, 18, 19, 20, 21, 22, 23, 24, 25, 26, 27, 28, 29, 30, 31, 32, 33, 34, 35, 36, 37, 38, 39, 40, 41, 42, 43, 44, 45, 46, 47, 48, 49, 50, 51, 52, 53, 54, 55, 56, 57, 58, 59, 60, 61, 62, 63, 64, 65, 66, 67, 68, 69, 70, 71, 72, 73, 74, 75, 76, 77, 78] (by decide +kernel) (by decide +kernel)) (goodIn_sub (fun _ h => List.mem_cons_of_mem _ (List.mem_append_left _ (List.mem_append_right _ h))) (by decide +kernel))) (goodIn_sub (fun _ h => List.mem_cons_of_mem _ (List.mem_append_right _ h)) (by decide +kernel))
set_option maxRecDepth 20000 in
theorem gX8_isRest_X8_greatest : GoodIn wsX8_isRest (wsV RX8 201 RX8 yX8_greatest wsX8_greatest) := goodIn_app (goodIn_of _ (by decide +kernel)) ggX8_isRest_X8_greatest
theorem dX8_isRest_13 : decode cX8_isRest 13 = .ok (.ifCond .ne 7, 3) := by decide +kernel
theorem dX8_isRest_16 : decode cX8_isRest 16 = .ok (.iconst 1, 1) := by decide +kernel
theorem dX8_isRest_17 : decode cX8_isRest 17 = .ok (.goto 4, 3) := by decide +kernel
theorem dX8_isRest_21 : decode cX8_isRest 21 = .ok (.ireturn, 1) := by decide +kernel
set_option maxHeartbeats 4000000 in
set_option maxRecDepth 100000 in
theorem k_X8_isRest (l : Launch) (D : va_G) (cy : Nat → ClassId) (h1 : Nat) (x2 : Value) (x3 : Value) (x4 : Value) (x5 : Value) (x6 : Value) (x7 : Value) (x8 : Value) (x9 : Value) (x10 : Value) (x11 : Value) (x12 : Value) (x13 : Value) (h14 : Nat) (x15 : Value) (x16 : Value) (x17 : Value) (x18 : Value) (sz : Nat) : Met l yX8_isRest wsX8_isRest ({ frames := 1, cells := 0, slots := 0, locals := 23 }) (kW D cy [.ref h1] [(h1, .inr (10, [x2, x3, x4, x5, x6, x7, x8, x9, x10, x11, x12, x13, .ref h14, x15, x16, .int 0, x17, x18]))] sz) (va_Qi (fun (r : Int32) (_ : Unit) => r = 1 ∧ True) (fun (_ : Unit) (t : State) => va_P D vwCl [(h1, .inr (10, [x2, x3, x4, x5, x6, x7, x8, x9, x10, x11, x12, x13, .ref h14, x15, x16, .int 0, x17, .int 0]))] t.heap ∧ va_D (va_A [(h1, .inr (10, [x2, x3, x4, x5, x6, x7, x8, x9, x10, x11, x12, x13, .ref h14, x15, x16, .int 0, x17, x18]))] sz) [(h1, .inr (10, [x2, x3, x4, x5, x6, x7, x8, x9, x10, x11, x12, x13, .ref h14, x15, x16, .int 0, x17, .int 0]))]) (va_A [(h1, .inr (10, [x2, x3, x4, x5, x6, x7, x8, x9, x10, x11, x12, x13, .ref h14, x15, x16, .int 0, x17, x18]))] sz)) 0 0 (va_A [(h1, .inr (10, [x2, x3, x4, x5, x6, x7, x8, x9, x10, x11, x12, x13, .ref h14, x15, x16, .int 0, x17, x18]))] sz) := by
  refine Met.ofW (cc := cX8_isRest) (maxL := 1) (ret := (some .boolean)) (by decide) rfl ?_
  intro p e s m args below meth c s₁ B hml hv
  obtain ⟨rfl, hsz, hP, hK, hD0⟩ := hv
  have hx := B.exec
  have hb := B.bytes
  have hr := B.returns
  have hts := atoms_spec (ws := wsX8_isRest) B.pre
  have hown : s.vm.findClass RX8 = some m.cls := findClass_of_methodNamed B.named
  have hlocks := B.notSynchronized
  subst hsz
  have hD := hD0.self (sz := s.heap.size)
  generalize hAe : va_A [(h1, .inr (10, [x2, x3, x4, x5, x6, x7, x8, x9, x10, x11, x12, x13, .ref h14, x15, x16, .int 0, x17, x18]))] s.heap.size = A at hD ⊢
  have hA : ∀ q : Nat, s.heap.size ≤ q → A q := fun q h => by rw [← hAe]; exact Or.inr h
  have hS : va_S A s.heap s.heap [] := va_S.rf
  have hP : va_P D vwCl [(h1, .inr (10, [x2, x3, x4, x5, x6, x7, x8, x9, x10, x11, x12, x13, .ref h14, x15, x16, .int 0, x17, x18]))] s.heap := hP
  have hl := lv_entry ([.ref h1]) (n := 1) (Nat.le_of_ble_eq_true rfl)
  rw [lg_entry_eq]
  generalize (lg_sl ([.ref h1]) ++ List.replicate (1 - (lg_sl ([.ref h1])).length) Slot.unset).toArray = ls at hl ⊢
  have hl : lv_has ls 1 [(0, .ref h1)] := hl
  refine lv_aload_n hx hb dX8_isRest_0 rfl (lv_at hl 0 rfl) ?_
  refine lv_iconst (v := 0) hx hb dX8_isRest_1 (by decide) ?_
  refine va_put (D := D) (ci := 10) (v := .int 0) (ty := .int) (C := RX8) (T := TX8) (N := 18) hx hb hts (fun _ h => (List.mem_cons_of_mem _ (List.mem_append_left _ (List.mem_append_left _ (List.mem_append_right _ h))))) tyX8 tyX8_ok nmX8 hown hK hP hD hS 0 rfl rfl 17 (by decide) (hts (.fieldLink RX8 59 "SelfishJunctionModel" "thrown" "I") (List.mem_cons_of_mem _ (List.mem_append_left _ (List.mem_append_left _ (List.mem_append_left _ (List.mem_append_left _ (List.mem_of_getElem? (i := 0) rfl))))))) (fun _ h9 => h9) rfl (by decide +kernel) rfl rfl (Nat.le_of_ble_eq_true rfl) dX8_isRest_2 (fun H locs hP hD hS => ?_)
  have hP : va_P D vwCl [(h1, .inr (10, [x2, x3, x4, x5, x6, x7, x8, x9, x10, x11, x12, x13, .ref h14, x15, x16, .int 0, x17, .int 0]))] H := hP
  have hD : va_D A [(h1, .inr (10, [x2, x3, x4, x5, x6, x7, x8, x9, x10, x11, x12, x13, .ref h14, x15, x16, .int 0, x17, .int 0]))] := hD
  refine lv_aload_n hx hb dX8_isRest_5 rfl (lv_at hl 0 rfl) ?_
  refine lv_aload_n hx hb dX8_isRest_6 rfl (lv_at hl 0 rfl) ?_
  refine va_get (D := D) (ci := 10) (v := .ref h14) (C := RX8) (T := TX8) (N := 18) hx hb hts (fun _ h => (List.mem_cons_of_mem _ (List.mem_append_left _ (List.mem_append_left _ (List.mem_append_right _ h))))) hown hK hP 0 rfl rfl 12 (by decide) (hts (.fieldLink RX8 52 "SelfishJunctionModel" "chosen" "[I") (List.mem_cons_of_mem _ (List.mem_append_left _ (List.mem_append_left _ (List.mem_append_left _ (List.mem_append_left _ (List.mem_of_getElem? (i := 1) rfl))))))) (fun _ h9 => h9) rfl dX8_isRest_7 ?_
  have hPc := hP.sub (ws' := [(h1, .inr (10, [x2, x3, x4, x5, x6, x7, x8, x9, x10, x11, x12, x13, .ref h14, x15, x16, .int 0, x17, .int 0]))]) [0] rfl
  refine va_calli (va_runV (As := [.ref h14]) (rest := []) ⟨hx, hb, hml, hown, hts⟩ (k_X8_greatest l D cy h1 h14 (x2) (x3) (x4) (x5) (x6) (x7) (x8) (x9) (x10) (x11) (x12) (x13) (.ref h14) (x15) (x16) (x17) (.int 0)) (cwV 1 hts gX8_isRest_X8_greatest rfl rfl rfl (by decide +kernel) ⟨(Nat.le_of_ble_eq_true rfl), (Nat.le_of_ble_eq_true rfl)⟩) ⟨kR_fb, va_recv hK hP (ci := 10) (q0 := 0) rfl rfl, (kR_go hPc hK)⟩ rfl rfl hl.1 rfl (lv_room (Nat.le_of_ble_eq_true rfl)) dX8_isRest_10 ⟨(Nat.le_of_ble_eq_true rfl), (Nat.le_of_ble_eq_true rfl)⟩) hS (fun _ _ h => h.elim) (fun _ h => h.elim) (fun r9 u t H locs ht hvm hw hB hz1 hk1 hS => ?_)
  have hP := kx_kept hP hk1
  obtain ⟨rfl, hw⟩ := hw
  refine lv_if_ne (tgt := 20) hx hb dX8_isRest_13 (by decide) (fun h => absurd (by decide) h) (fun _ => ?_)
  refine lv_iconst (v := 1) hx hb dX8_isRest_16 (by decide) ?_
  refine lv_goto (tgt := 21) hx hb dX8_isRest_17 (by decide) ?_
  refine W.widen (k := 0) (n := 0) (Nat.le_of_ble_eq_true rfl) (Nat.le_of_ble_eq_true rfl) ?_
  have hP9 := hP.sub (ws' := [(h1, .inr (10, [x2, x3, x4, x5, x6, x7, x8, x9, x10, x11, x12, x13, .ref h14, x15, x16, .int 0, x17, .int 0]))]) [0] rfl
  have hD9 := hD.sub (ws' := [(h1, .inr (10, [x2, x3, x4, x5, x6, x7, x8, x9, x10, x11, x12, x13, .ref h14, x15, x16, .int 0, x17, .int 0]))]) [0] (by decide) rfl
  exact W.zret (v := 1) hx hb hr rfl (fun t ht hW => ⟨⟨1, (), rfl, ⟨rfl, trivial⟩, ⟨by rw [ht]; exact hP9, hD9⟩⟩, hS.F ht⟩) hS.2.2 dX8_isRest_21
theorem dX0_mostToGain_0 : decode cX0_mostToGain 0 = .ok (.iconst (-1), 1) := by decide +kernel
theorem dX0_mostToGain_1 : decode cX0_mostToGain 1 = .ok (.istore_n 2, 1) := by decide +kernel
theorem dX0_mostToGain_2 : decode cX0_mostToGain 2 = .ok (.iconst 0, 1) := by decide +kernel
theorem dX0_mostToGain_3 : decode cX0_mostToGain 3 = .ok (.istore_n 3, 1) := by decide +kernel
theorem dX0_mostToGain_4 : decode cX0_mostToGain 4 = .ok (.iconst 0, 1) := by decide +kernel
theorem dX0_mostToGain_5 : decode cX0_mostToGain 5 = .ok (.istore 4, 2) := by decide +kernel
theorem dX0_mostToGain_7 : decode cX0_mostToGain 7 = .ok (.iload 4, 2) := by decide +kernel
theorem dX0_mostToGain_9 : decode cX0_mostToGain 9 = .ok (.aload_n 0, 1) := by decide +kernel
theorem dX0_mostToGain_10 : decode cX0_mostToGain 10 = .ok (.getfield 42, 3) := by decide +kernel
theorem dX0_mostToGain_13 : decode cX0_mostToGain 13 = .ok (.if_icmp .ge 30, 3) := by decide +kernel
theorem dX0_mostToGain_43 : decode cX0_mostToGain 43 = .ok (.iload_n 2, 1) := by decide +kernel
theorem dX0_mostToGain_44 : decode cX0_mostToGain 44 = .ok (.ireturn, 1) := by decide +kernel
set_option maxHeartbeats 4000000 in
set_option maxRecDepth 100000 in
theorem k_X0_mostToGain (l : Launch) (D : va_G) (cy : Nat → ClassId) (h1 : Nat) (h2 : Nat) (x3 : Value) (x4 : Value) (x5 : Value) : Met l yX0_mostToGain wsX0_mostToGain ({ frames := 0, cells := 0, slots := 0, locals := 0 }) (kR D cy [.ref h1, .ref h2] [(h1, .inr (2, [x3, x4, x5, .int 0]))]) (va_Qi (fun (r : Int32) (_ : Unit) => r = (-1) ∧ True) (fun (_ : Unit) (_ : State) => True) (fun _ : Nat => False)) 0 0 (fun _ : Nat => False) := by
  refine Met.ofW (cc := cX0_mostToGain) (maxL := 6) (ret := (some .int)) (by decide) rfl ?_
  intro p e s m args below meth c s₁ B hml hv
  obtain ⟨rfl, hP, hK⟩ := hv
  have hx := B.exec
  have hb := B.bytes
  have hr := B.returns
  have hts := atoms_spec (ws := wsX0_mostToGain) B.pre
  have hown : s.vm.findClass RX0 = some m.cls := findClass_of_methodNamed B.named
  have hlocks := B.notSynchronized
  have hS : va_S (fun _ : Nat => False) s.heap s.heap [] := va_S.rf
  have hP : va_P D vwCl [(h1, .inr (2, [x3, x4, x5, .int 0]))] s.heap := hP
  have hl := lv_entry ([.ref h1, .ref h2]) (n := 6) (Nat.le_of_ble_eq_true rfl)
  rw [lg_entry_eq]
  generalize (lg_sl ([.ref h1, .ref h2]) ++ List.replicate (6 - (lg_sl ([.ref h1, .ref h2])).length) Slot.unset).toArray = ls at hl ⊢
  have hl : lv_has ls 6 [(0, .ref h1), (1, .ref h2)] := hl
  refine lv_iconst (v := (-1)) hx hb dX0_mostToGain_0 (by decide) ?_
  refine lv_istore_n (lv' := [(2, .int (-1)), (0, .ref h1), (1, .ref h2)]) hx hb dX0_mostToGain_1 rfl hl (by decide) rfl (fun ls hl => ?_)
  refine lv_iconst (v := 0) hx hb dX0_mostToGain_2 (by decide) ?_
  refine lv_istore_n (lv' := [(3, .int 0), (2, .int (-1)), (0, .ref h1), (1, .ref h2)]) hx hb dX0_mostToGain_3 rfl hl (by decide) rfl (fun ls hl => ?_)
  refine lv_iconst (v := 0) hx hb dX0_mostToGain_4 (by decide) ?_
  refine lv_istore (lv' := [(4, .int 0), (3, .int 0), (2, .int (-1)), (0, .ref h1), (1, .ref h2)]) hx hb dX0_mostToGain_5 hl (by decide) rfl (fun ls hl => ?_)
  refine lv_iload hx hb dX0_mostToGain_7 (lv_at hl 0 rfl) ?_
  refine lv_aload_n hx hb dX0_mostToGain_9 rfl (lv_at hl 3 rfl) ?_
  refine va_get (D := D) (ci := 2) (v := .int 0) (C := RX0) (T := TX0) (N := 4) hx hb hts (fun _ h => (List.mem_cons_of_mem _ (List.mem_append_left _ (List.mem_append_left _ (List.mem_append_left _ (List.mem_append_left _ (List.mem_append_right _ h))))))) hown hK hP 0 rfl rfl 3 (by decide) (hts (.fieldLink RX0 42 "SelfishJunction$Board" "playerCount" "I") (List.mem_cons_of_mem _ (List.mem_append_left _ (List.mem_append_left _ (List.mem_append_left _ (List.mem_append_left _ (List.mem_append_left _ (List.mem_append_left _ (List.mem_of_getElem? (i := 0) rfl))))))))) (fun _ h9 => h9) rfl dX0_mostToGain_10 ?_
  refine lv_icmp_ge (tgt := 43) hx hb dX0_mostToGain_13 (by decide) (fun _ => ?_) (fun h => absurd (by decide) h)
  refine lv_iload_n hx hb dX0_mostToGain_43 rfl (lv_at hl 2 rfl) ?_
  refine W.widen (k := 0) (n := 0) (Nat.le_of_ble_eq_true rfl) (Nat.le_of_ble_eq_true rfl) ?_
  exact W.iret (v := (-1)) hx hb hr (fun t ht hW => ⟨⟨(-1), (), rfl, ⟨rfl, trivial⟩, trivial⟩, hS.F ht⟩) hS.2.2 dX0_mostToGain_44
theorem dX7_greatestGain_0 : decode cX7_greatestGain 0 = .ok (.aload_n 0, 1) := by decide +kernel
theorem dX7_greatestGain_1 : decode cX7_greatestGain 1 = .ok (.getfield 10, 3) := by decide +kernel
theorem dX7_greatestGain_4 : decode cX7_greatestGain 4 = .ok (.aload_n 0, 1) := by decide +kernel
theorem dX7_greatestGain_5 : decode cX7_greatestGain 5 = .ok (.getfield 19, 3) := by decide +kernel
theorem dX7_greatestGain_8 : decode cX7_greatestGain 8 = .ok (.invokevirtual 239, 3) := by decide +kernel
set_option maxRecDepth 20000 in
theorem ggX7_greatestGain_X0_mostToGain : GoodIn wsX7_greatestGain wsX0_mostToGain := goodIn_ca (goodIn_r _ [7, 8, 9, 10, 11, 6, 12, 13, 14, 15, 16, 17, 18, 19, 20, 21, 22, 23, 24, 25, 26, 27, 28, 29, 30, 31, 32, 33, 34, 35, 36, 37, 38, 39, 40, 41, 42, 43, 44, 45, 46, 47, 48, 49, 50, 51, 52, 53, 54, 55, 56, 57, 58, 59, 68, 69, 70, 71, 72, 73, 74, 75, 76, 77, 78, 79, 80, 81, 82, 83, 84, 85, 86, 87] (by decide +kernel) (by decide +kernel)) (goodIn_sub (fun _ h => List.mem_cons_of_mem _ (List.mem_append_right _ h)) (by decide +kernel))
set_option maxRecDepth 20000 in
theorem gX7_greatestGain_X0_mostToGain : GoodIn wsX7_greatestGain (wsV RX7 239 RX0 yX0_mostToGain wsX0_mostToGain) := goodIn_app (goodIn_of _ (by decide +kernel)) ggX7_greatestGain_X0_mostToGain
theorem dX7_greatestGain_11 : decode cX7_greatestGain 11 = .ok (.istore_n 1, 1) := by decide +kernel
theorem dX7_greatestGain_12 : decode cX7_greatestGain 12 = .ok (.iload_n 1, 1) := by decide +kernel
theorem dX7_greatestGain_13 : decode cX7_greatestGain 13 = .ok (.ifCond .ge 7, 3) := by decide +kernel
theorem dX7_greatestGain_16 : decode cX7_greatestGain 16 = .ok (.iconst 0, 1) := by decide +kernel
theorem dX7_greatestGain_17 : decode cX7_greatestGain 17 = .ok (.goto 15, 3) := by decide +kernel
theorem dX7_greatestGain_32 : decode cX7_greatestGain 32 = .ok (.ireturn, 1) := by decide +kernel
set_option maxHeartbeats 4000000 in
set_option maxRecDepth 100000 in
theorem k_X7_greatestGain (l : Launch) (D : va_G) (cy : Nat → ClassId) (h1 : Nat) (h2 : Nat) (h3 : Nat) (x4 : Value) (x5 : Value) (x6 : Value) (x7 : Value) (x8 : Value) (x9 : Value) (x10 : Value) (x11 : Value) : Met l yX7_greatestGain wsX7_greatestGain ({ frames := 1, cells := 0, slots := 0, locals := 25 }) (kR D cy [.ref h1] [(h1, .inr (9, [.ref h2, .ref h3, x4, x5, x6, x7, x8])), (h2, .inr (2, [x9, x10, x11, .int 0]))]) (va_Qi (fun (r : Int32) (_ : Unit) => r = 0 ∧ True) (fun (_ : Unit) (_ : State) => True) (fun _ : Nat => False)) 0 0 (fun _ : Nat => False) := by
  refine Met.ofW (cc := cX7_greatestGain) (maxL := 2) (ret := (some .int)) (by decide) rfl ?_
  intro p e s m args below meth c s₁ B hml hv
  obtain ⟨rfl, hP, hK⟩ := hv
  have hx := B.exec
  have hb := B.bytes
  have hr := B.returns
  have hts := atoms_spec (ws := wsX7_greatestGain) B.pre
  have hown : s.vm.findClass RX7 = some m.cls := findClass_of_methodNamed B.named
  have hlocks := B.notSynchronized
  have hS : va_S (fun _ : Nat => False) s.heap s.heap [] := va_S.rf
  have hP : va_P D vwCl [(h1, .inr (9, [.ref h2, .ref h3, x4, x5, x6, x7, x8])), (h2, .inr (2, [x9, x10, x11, .int 0]))] s.heap := hP
  have hl := lv_entry ([.ref h1]) (n := 2) (Nat.le_of_ble_eq_true rfl)
  rw [lg_entry_eq]
  generalize (lg_sl ([.ref h1]) ++ List.replicate (2 - (lg_sl ([.ref h1])).length) Slot.unset).toArray = ls at hl ⊢
  have hl : lv_has ls 2 [(0, .ref h1)] := hl
  refine lv_aload_n hx hb dX7_greatestGain_0 rfl (lv_at hl 0 rfl) ?_
  refine va_get (D := D) (ci := 9) (v := .ref h2) (C := RX7) (T := TX7) (N := 7) hx hb hts (fun _ h => (List.mem_cons_of_mem _ (List.mem_append_left _ (List.mem_append_left _ (List.mem_append_left _ (List.mem_append_left _ (List.mem_append_left _ (List.mem_append_right _ h)))))))) hown hK hP 0 rfl rfl 0 (by decide) (hts (.fieldLink RX7 10 "SelfishJunction" "board" "LSelfishJunction$Board;") (List.mem_cons_of_mem _ (List.mem_append_left _ (List.mem_append_left _ (List.mem_append_left _ (List.mem_append_left _ (List.mem_append_left _ (List.mem_append_left _ (List.mem_append_left _ (List.mem_of_getElem? (i := 0) rfl)))))))))) (fun _ h9 => h9) rfl dX7_greatestGain_1 ?_
  refine lv_aload_n hx hb dX7_greatestGain_4 rfl (lv_at hl 0 rfl) ?_
  refine va_get (D := D) (ci := 9) (v := .ref h3) (C := RX7) (T := TX7) (N := 7) hx hb hts (fun _ h => (List.mem_cons_of_mem _ (List.mem_append_left _ (List.mem_append_left _ (List.mem_append_left _ (List.mem_append_left _ (List.mem_append_left _ (List.mem_append_right _ h)))))))) hown hK hP 0 rfl rfl 1 (by decide) (hts (.fieldLink RX7 19 "SelfishJunction" "now" "LSelfishJunction$Play;") (List.mem_cons_of_mem _ (List.mem_append_left _ (List.mem_append_left _ (List.mem_append_left _ (List.mem_append_left _ (List.mem_append_left _ (List.mem_append_left _ (List.mem_append_left _ (List.mem_of_getElem? (i := 1) rfl)))))))))) (fun _ h9 => h9) rfl dX7_greatestGain_5 ?_
  have hPc := hP.sub (ws' := [(h2, .inr (2, [x9, x10, x11, .int 0]))]) [1] rfl
  refine va_calli (va_runV (As := [.ref h3]) (rest := []) ⟨hx, hb, hml, hown, hts⟩ (k_X0_mostToGain l D cy h2 h3 (x9) (x10) (x11)) (cwV 1 hts gX7_greatestGain_X0_mostToGain rfl rfl rfl (by decide +kernel) ⟨(Nat.le_of_ble_eq_true rfl), (Nat.le_of_ble_eq_true rfl)⟩) ⟨kR_fb, va_recv hK hP (ci := 2) (q0 := 1) rfl rfl, (kR_go hPc hK)⟩ rfl rfl hl.1 rfl (lv_room (Nat.le_of_ble_eq_true rfl)) dX7_greatestGain_8 ⟨(Nat.le_of_ble_eq_true rfl), (Nat.le_of_ble_eq_true rfl)⟩) hS (fun _ _ h => h.elim) (fun _ h => h.elim) (fun r9 u t H locs ht hvm hw hB hz1 hk1 hS => ?_)
  have hP := kx_kept hP hk1
  obtain ⟨rfl, hw⟩ := hw
  refine lv_istore_n (lv' := [(1, .int (-1)), (0, .ref h1)]) hx hb dX7_greatestGain_11 rfl hl (by decide) rfl (fun ls hl => ?_)
  refine lv_iload_n hx hb dX7_greatestGain_12 rfl (lv_at hl 0 rfl) ?_
  refine lv_if_ge (tgt := 20) hx hb dX7_greatestGain_13 (by decide) (fun h => absurd h (by decide)) (fun _ => ?_)
  refine lv_iconst (v := 0) hx hb dX7_greatestGain_16 (by decide) ?_
  refine lv_goto (tgt := 32) hx hb dX7_greatestGain_17 (by decide) ?_
  refine W.widen (k := 0) (n := 0) (Nat.le_of_ble_eq_true rfl) (Nat.le_of_ble_eq_true rfl) ?_
  exact W.iret (v := 0) hx hb hr (fun t ht hW => ⟨⟨0, (), rfl, ⟨rfl, trivial⟩, trivial⟩, hS.F ht⟩) hS.2.2 dX7_greatestGain_32
theorem dX8_greatestGain_0 : decode cX8_greatestGain 0 = .ok (.aload_n 0, 1) := by decide +kernel
theorem dX8_greatestGain_1 : decode cX8_greatestGain 1 = .ok (.iconst 0, 1) := by decide +kernel
theorem dX8_greatestGain_2 : decode cX8_greatestGain 2 = .ok (.putfield 59, 3) := by decide +kernel
theorem dX8_greatestGain_5 : decode cX8_greatestGain 5 = .ok (.aload_n 0, 1) := by decide +kernel
theorem dX8_greatestGain_6 : decode cX8_greatestGain 6 = .ok (.aload_n 0, 1) := by decide +kernel
theorem dX8_greatestGain_7 : decode cX8_greatestGain 7 = .ok (.getfield 52, 3) := by decide +kernel
theorem dX8_greatestGain_10 : decode cX8_greatestGain 10 = .ok (.invokevirtual 201, 3) := by decide +kernel
set_option maxRecDepth 20000 in
theorem ggX8_greatestGain_X8_greatest : GoodIn wsX8_greatestGain wsX8_greatest := goodIn_ca (goodIn_ca (goodIn_r _ [7, 8, 9, 10, 11, 12, 13, 14, 15, 6, 16, 17, 18, 19, 20, 21, 22, 23, 24, 25, 26, 27, 28, 29, 30, 31, 32, 33, 34, 35, 36, 37, 38, 39, 40, 41, 42, 43, 44, 45, 46, 47, 48, 49, 50, 51, 52, 53, 54, 55, 56, 57, 58, 59, 60, 61, 62, 63, 64, 65, 66, 67, 68, 69, 70, 71, 72, 73, 74, 75, 76, 77, 78] (by decide +kernel) (by decide +kernel)) (goodIn_sub (fun _ h => List.mem_cons_of_mem _ (List.mem_append_left _ (List.mem_append_right _ h))) (by decide +kernel))) (goodIn_sub (fun _ h => List.mem_cons_of_mem _ (List.mem_append_right _ h)) (by decide +kernel))
set_option maxRecDepth 20000 in
theorem gX8_greatestGain_X8_greatest : GoodIn wsX8_greatestGain (wsV RX8 201 RX8 yX8_greatest wsX8_greatest) := goodIn_app (goodIn_of _ (by decide +kernel)) ggX8_greatestGain_X8_greatest
theorem dX8_greatestGain_13 : decode cX8_greatestGain 13 = .ok (.ireturn, 1) := by decide +kernel
set_option maxHeartbeats 4000000 in
set_option maxRecDepth 100000 in
theorem k_X8_greatestGain (l : Launch) (D : va_G) (cy : Nat → ClassId) (h1 : Nat) (x2 : Value) (x3 : Value) (x4 : Value) (x5 : Value) (x6 : Value) (x7 : Value) (x8 : Value) (x9 : Value) (x10 : Value) (x11 : Value) (x12 : Value) (x13 : Value) (h14 : Nat) (x15 : Value) (x16 : Value) (x17 : Value) (x18 : Value) (sz : Nat) : Met l yX8_greatestGain wsX8_greatestGain ({ frames := 1, cells := 0, slots := 0, locals := 23 }) (kW D cy [.ref h1] [(h1, .inr (10, [x2, x3, x4, x5, x6, x7, x8, x9, x10, x11, x12, x13, .ref h14, x15, x16, .int 0, x17, x18]))] sz) (va_Qi (fun (r : Int32) (_ : Unit) => r = 0 ∧ True) (fun (_ : Unit) (t : State) => va_P D vwCl [(h1, .inr (10, [x2, x3, x4, x5, x6, x7, x8, x9, x10, x11, x12, x13, .ref h14, x15, x16, .int 0, x17, .int 0]))] t.heap ∧ va_D (va_A [(h1, .inr (10, [x2, x3, x4, x5, x6, x7, x8, x9, x10, x11, x12, x13, .ref h14, x15, x16, .int 0, x17, x18]))] sz) [(h1, .inr (10, [x2, x3, x4, x5, x6, x7, x8, x9, x10, x11, x12, x13, .ref h14, x15, x16, .int 0, x17, .int 0]))]) (va_A [(h1, .inr (10, [x2, x3, x4, x5, x6, x7, x8, x9, x10, x11, x12, x13, .ref h14, x15, x16, .int 0, x17, x18]))] sz)) 0 0 (va_A [(h1, .inr (10, [x2, x3, x4, x5, x6, x7, x8, x9, x10, x11, x12, x13, .ref h14, x15, x16, .int 0, x17, x18]))] sz) := by
  refine Met.ofW (cc := cX8_greatestGain) (maxL := 1) (ret := (some .int)) (by decide) rfl ?_
  intro p e s m args below meth c s₁ B hml hv
  obtain ⟨rfl, hsz, hP, hK, hD0⟩ := hv
  have hx := B.exec
  have hb := B.bytes
  have hr := B.returns
  have hts := atoms_spec (ws := wsX8_greatestGain) B.pre
  have hown : s.vm.findClass RX8 = some m.cls := findClass_of_methodNamed B.named
  have hlocks := B.notSynchronized
  subst hsz
  have hD := hD0.self (sz := s.heap.size)
  generalize hAe : va_A [(h1, .inr (10, [x2, x3, x4, x5, x6, x7, x8, x9, x10, x11, x12, x13, .ref h14, x15, x16, .int 0, x17, x18]))] s.heap.size = A at hD ⊢
  have hA : ∀ q : Nat, s.heap.size ≤ q → A q := fun q h => by rw [← hAe]; exact Or.inr h
  have hS : va_S A s.heap s.heap [] := va_S.rf
  have hP : va_P D vwCl [(h1, .inr (10, [x2, x3, x4, x5, x6, x7, x8, x9, x10, x11, x12, x13, .ref h14, x15, x16, .int 0, x17, x18]))] s.heap := hP
  have hl := lv_entry ([.ref h1]) (n := 1) (Nat.le_of_ble_eq_true rfl)
  rw [lg_entry_eq]
  generalize (lg_sl ([.ref h1]) ++ List.replicate (1 - (lg_sl ([.ref h1])).length) Slot.unset).toArray = ls at hl ⊢
  have hl : lv_has ls 1 [(0, .ref h1)] := hl
  refine lv_aload_n hx hb dX8_greatestGain_0 rfl (lv_at hl 0 rfl) ?_
  refine lv_iconst (v := 0) hx hb dX8_greatestGain_1 (by decide) ?_
  refine va_put (D := D) (ci := 10) (v := .int 0) (ty := .int) (C := RX8) (T := TX8) (N := 18) hx hb hts (fun _ h => (List.mem_cons_of_mem _ (List.mem_append_left _ (List.mem_append_left _ (List.mem_append_right _ h))))) tyX8 tyX8_ok nmX8 hown hK hP hD hS 0 rfl rfl 17 (by decide) (hts (.fieldLink RX8 59 "SelfishJunctionModel" "thrown" "I") (List.mem_cons_of_mem _ (List.mem_append_left _ (List.mem_append_left _ (List.mem_append_left _ (List.mem_append_left _ (List.mem_of_getElem? (i := 0) rfl))))))) (fun _ h9 => h9) rfl (by decide +kernel) rfl rfl (Nat.le_of_ble_eq_true rfl) dX8_greatestGain_2 (fun H locs hP hD hS => ?_)
  have hP : va_P D vwCl [(h1, .inr (10, [x2, x3, x4, x5, x6, x7, x8, x9, x10, x11, x12, x13, .ref h14, x15, x16, .int 0, x17, .int 0]))] H := hP
  have hD : va_D A [(h1, .inr (10, [x2, x3, x4, x5, x6, x7, x8, x9, x10, x11, x12, x13, .ref h14, x15, x16, .int 0, x17, .int 0]))] := hD
  refine lv_aload_n hx hb dX8_greatestGain_5 rfl (lv_at hl 0 rfl) ?_
  refine lv_aload_n hx hb dX8_greatestGain_6 rfl (lv_at hl 0 rfl) ?_
  refine va_get (D := D) (ci := 10) (v := .ref h14) (C := RX8) (T := TX8) (N := 18) hx hb hts (fun _ h => (List.mem_cons_of_mem _ (List.mem_append_left _ (List.mem_append_left _ (List.mem_append_right _ h))))) hown hK hP 0 rfl rfl 12 (by decide) (hts (.fieldLink RX8 52 "SelfishJunctionModel" "chosen" "[I") (List.mem_cons_of_mem _ (List.mem_append_left _ (List.mem_append_left _ (List.mem_append_left _ (List.mem_append_left _ (List.mem_of_getElem? (i := 1) rfl))))))) (fun _ h9 => h9) rfl dX8_greatestGain_7 ?_
  have hPc := hP.sub (ws' := [(h1, .inr (10, [x2, x3, x4, x5, x6, x7, x8, x9, x10, x11, x12, x13, .ref h14, x15, x16, .int 0, x17, .int 0]))]) [0] rfl
  refine va_calli (va_runV (As := [.ref h14]) (rest := []) ⟨hx, hb, hml, hown, hts⟩ (k_X8_greatest l D cy h1 h14 (x2) (x3) (x4) (x5) (x6) (x7) (x8) (x9) (x10) (x11) (x12) (x13) (.ref h14) (x15) (x16) (x17) (.int 0)) (cwV 1 hts gX8_greatestGain_X8_greatest rfl rfl rfl (by decide +kernel) ⟨(Nat.le_of_ble_eq_true rfl), (Nat.le_of_ble_eq_true rfl)⟩) ⟨kR_fb, va_recv hK hP (ci := 10) (q0 := 0) rfl rfl, (kR_go hPc hK)⟩ rfl rfl hl.1 rfl (lv_room (Nat.le_of_ble_eq_true rfl)) dX8_greatestGain_10 ⟨(Nat.le_of_ble_eq_true rfl), (Nat.le_of_ble_eq_true rfl)⟩) hS (fun _ _ h => h.elim) (fun _ h => h.elim) (fun r9 u t H locs ht hvm hw hB hz1 hk1 hS => ?_)
  have hP := kx_kept hP hk1
  obtain ⟨rfl, hw⟩ := hw
  refine W.widen (k := 0) (n := 0) (Nat.le_of_ble_eq_true rfl) (Nat.le_of_ble_eq_true rfl) ?_
  have hP9 := hP.sub (ws' := [(h1, .inr (10, [x2, x3, x4, x5, x6, x7, x8, x9, x10, x11, x12, x13, .ref h14, x15, x16, .int 0, x17, .int 0]))]) [0] rfl
  have hD9 := hD.sub (ws' := [(h1, .inr (10, [x2, x3, x4, x5, x6, x7, x8, x9, x10, x11, x12, x13, .ref h14, x15, x16, .int 0, x17, .int 0]))]) [0] (by decide) rfl
  exact W.iret (v := 0) hx hb hr (fun t ht hW => ⟨⟨0, (), rfl, ⟨rfl, trivial⟩, ⟨by rw [ht]; exact hP9, hD9⟩⟩, hS.F ht⟩) hS.2.2 dX8_greatestGain_13
theorem dX0_isEven_0 : decode cX0_isEven 0 = .ok (.iconst (-1), 1) := by decide +kernel
theorem dX0_isEven_1 : decode cX0_isEven 1 = .ok (.istore_n 2, 1) := by decide +kernel
theorem dX0_isEven_2 : decode cX0_isEven 2 = .ok (.iconst 0, 1) := by decide +kernel
theorem dX0_isEven_3 : decode cX0_isEven 3 = .ok (.istore_n 3, 1) := by decide +kernel
theorem dX0_isEven_4 : decode cX0_isEven 4 = .ok (.iload_n 3, 1) := by decide +kernel
theorem dX0_isEven_5 : decode cX0_isEven 5 = .ok (.aload_n 0, 1) := by decide +kernel
theorem dX0_isEven_6 : decode cX0_isEven 6 = .ok (.getfield 42, 3) := by decide +kernel
theorem dX0_isEven_9 : decode cX0_isEven 9 = .ok (.if_icmp .ge 60, 3) := by decide +kernel
theorem dX0_isEven_69 : decode cX0_isEven 69 = .ok (.iconst 1, 1) := by decide +kernel
theorem dX0_isEven_70 : decode cX0_isEven 70 = .ok (.ireturn, 1) := by decide +kernel
set_option maxHeartbeats 4000000 in
set_option maxRecDepth 100000 in
theorem k_X0_isEven (l : Launch) (D : va_G) (cy : Nat → ClassId) (h1 : Nat) (h2 : Nat) (x3 : Value) (x4 : Value) (x5 : Value) : Met l yX0_isEven wsX0_isEven ({ frames := 0, cells := 0, slots := 0, locals := 0 }) (kR D cy [.ref h1, .ref h2] [(h1, .inr (2, [x3, x4, x5, .int 0]))]) (va_Qi (fun (r : Int32) (_ : Unit) => r = 1 ∧ True) (fun (_ : Unit) (_ : State) => True) (fun _ : Nat => False)) 0 0 (fun _ : Nat => False) := by
  refine Met.ofW (cc := cX0_isEven) (maxL := 4) (ret := (some .boolean)) (by decide) rfl ?_
  intro p e s m args below meth c s₁ B hml hv
  obtain ⟨rfl, hP, hK⟩ := hv
  have hx := B.exec
  have hb := B.bytes
  have hr := B.returns
  have hts := atoms_spec (ws := wsX0_isEven) B.pre
  have hown : s.vm.findClass RX0 = some m.cls := findClass_of_methodNamed B.named
  have hlocks := B.notSynchronized
  have hS : va_S (fun _ : Nat => False) s.heap s.heap [] := va_S.rf
  have hP : va_P D vwCl [(h1, .inr (2, [x3, x4, x5, .int 0]))] s.heap := hP
  have hl := lv_entry ([.ref h1, .ref h2]) (n := 4) (Nat.le_of_ble_eq_true rfl)
  rw [lg_entry_eq]
  generalize (lg_sl ([.ref h1, .ref h2]) ++ List.replicate (4 - (lg_sl ([.ref h1, .ref h2])).length) Slot.unset).toArray = ls at hl ⊢
  have hl : lv_has ls 4 [(0, .ref h1), (1, .ref h2)] := hl
  refine lv_iconst (v := (-1)) hx hb dX0_isEven_0 (by decide) ?_
  refine lv_istore_n (lv' := [(2, .int (-1)), (0, .ref h1), (1, .ref h2)]) hx hb dX0_isEven_1 rfl hl (by decide) rfl (fun ls hl => ?_)
  refine lv_iconst (v := 0) hx hb dX0_isEven_2 (by decide) ?_
  refine lv_istore_n (lv' := [(3, .int 0), (2, .int (-1)), (0, .ref h1), (1, .ref h2)]) hx hb dX0_isEven_3 rfl hl (by decide) rfl (fun ls hl => ?_)
  refine lv_iload_n hx hb dX0_isEven_4 rfl (lv_at hl 0 rfl) ?_
  refine lv_aload_n hx hb dX0_isEven_5 rfl (lv_at hl 2 rfl) ?_
  refine va_get (D := D) (ci := 2) (v := .int 0) (C := RX0) (T := TX0) (N := 4) hx hb hts (fun _ h => (List.mem_cons_of_mem _ (List.mem_append_left _ (List.mem_append_left _ (List.mem_append_left _ (List.mem_append_right _ h)))))) hown hK hP 0 rfl rfl 3 (by decide) (hts (.fieldLink RX0 42 "SelfishJunction$Board" "playerCount" "I") (List.mem_cons_of_mem _ (List.mem_append_left _ (List.mem_append_left _ (List.mem_append_left _ (List.mem_append_left _ (List.mem_of_getElem? (i := 0) rfl))))))) (fun _ h9 => h9) rfl dX0_isEven_6 ?_
  refine lv_icmp_ge (tgt := 69) hx hb dX0_isEven_9 (by decide) (fun _ => ?_) (fun h => absurd (by decide) h)
  refine lv_iconst (v := 1) hx hb dX0_isEven_69 (by decide) ?_
  refine W.widen (k := 0) (n := 0) (Nat.le_of_ble_eq_true rfl) (Nat.le_of_ble_eq_true rfl) ?_
  exact W.zret (v := 1) hx hb hr rfl (fun t ht hW => ⟨⟨1, (), rfl, ⟨rfl, trivial⟩, trivial⟩, hS.F ht⟩) hS.2.2 dX0_isEven_70
theorem dX0_potentialOf_0 : decode cX0_potentialOf 0 = .ok (.iconst 0, 1) := by decide +kernel
theorem dX0_potentialOf_1 : decode cX0_potentialOf 1 = .ok (.istore_n 2, 1) := by decide +kernel
theorem dX0_potentialOf_2 : decode cX0_potentialOf 2 = .ok (.iconst 0, 1) := by decide +kernel
theorem dX0_potentialOf_3 : decode cX0_potentialOf 3 = .ok (.istore_n 3, 1) := by decide +kernel
theorem dX0_potentialOf_4 : decode cX0_potentialOf 4 = .ok (.iload_n 3, 1) := by decide +kernel
theorem dX0_potentialOf_5 : decode cX0_potentialOf 5 = .ok (.aload_n 0, 1) := by decide +kernel
theorem dX0_potentialOf_6 : decode cX0_potentialOf 6 = .ok (.getfield 25, 3) := by decide +kernel
theorem dX0_potentialOf_9 : decode cX0_potentialOf 9 = .ok (.if_icmp .ge 92, 3) := by decide +kernel
theorem dX0_potentialOf_101 : decode cX0_potentialOf 101 = .ok (.iload_n 2, 1) := by decide +kernel
theorem dX0_potentialOf_102 : decode cX0_potentialOf 102 = .ok (.ireturn, 1) := by decide +kernel
set_option maxHeartbeats 4000000 in
set_option maxRecDepth 100000 in
theorem k_X0_potentialOf (l : Launch) (D : va_G) (cy : Nat → ClassId) (h1 : Nat) (h2 : Nat) (x3 : Value) (x4 : Value) (x5 : Value) : Met l yX0_potentialOf wsX0_potentialOf ({ frames := 0, cells := 0, slots := 0, locals := 0 }) (kR D cy [.ref h1, .ref h2] [(h1, .inr (2, [x3, x4, .int 0, x5]))]) (va_Qi (fun (r : Int32) (_ : Unit) => r = 0 ∧ True) (fun (_ : Unit) (_ : State) => True) (fun _ : Nat => False)) 0 0 (fun _ : Nat => False) := by
  refine Met.ofW (cc := cX0_potentialOf) (maxL := 5) (ret := (some .int)) (by decide) rfl ?_
  intro p e s m args below meth c s₁ B hml hv
  obtain ⟨rfl, hP, hK⟩ := hv
  have hx := B.exec
  have hb := B.bytes
  have hr := B.returns
  have hts := atoms_spec (ws := wsX0_potentialOf) B.pre
  have hown : s.vm.findClass RX0 = some m.cls := findClass_of_methodNamed B.named
  have hlocks := B.notSynchronized
  have hS : va_S (fun _ : Nat => False) s.heap s.heap [] := va_S.rf
  have hP : va_P D vwCl [(h1, .inr (2, [x3, x4, .int 0, x5]))] s.heap := hP
  have hl := lv_entry ([.ref h1, .ref h2]) (n := 5) (Nat.le_of_ble_eq_true rfl)
  rw [lg_entry_eq]
  generalize (lg_sl ([.ref h1, .ref h2]) ++ List.replicate (5 - (lg_sl ([.ref h1, .ref h2])).length) Slot.unset).toArray = ls at hl ⊢
  have hl : lv_has ls 5 [(0, .ref h1), (1, .ref h2)] := hl
  refine lv_iconst (v := 0) hx hb dX0_potentialOf_0 (by decide) ?_
  refine lv_istore_n (lv' := [(2, .int 0), (0, .ref h1), (1, .ref h2)]) hx hb dX0_potentialOf_1 rfl hl (by decide) rfl (fun ls hl => ?_)
  refine lv_iconst (v := 0) hx hb dX0_potentialOf_2 (by decide) ?_
  refine lv_istore_n (lv' := [(3, .int 0), (2, .int 0), (0, .ref h1), (1, .ref h2)]) hx hb dX0_potentialOf_3 rfl hl (by decide) rfl (fun ls hl => ?_)
  refine lv_iload_n hx hb dX0_potentialOf_4 rfl (lv_at hl 0 rfl) ?_
  refine lv_aload_n hx hb dX0_potentialOf_5 rfl (lv_at hl 2 rfl) ?_
  refine va_get (D := D) (ci := 2) (v := .int 0) (C := RX0) (T := TX0) (N := 4) hx hb hts (fun _ h => (List.mem_cons_of_mem _ (List.mem_append_left _ (List.mem_append_left _ (List.mem_append_left _ (List.mem_append_left _ (List.mem_append_right _ h))))))) hown hK hP 0 rfl rfl 2 (by decide) (hts (.fieldLink RX0 25 "SelfishJunction$Board" "resourceCount" "I") (List.mem_cons_of_mem _ (List.mem_append_left _ (List.mem_append_left _ (List.mem_append_left _ (List.mem_append_left _ (List.mem_append_left _ (List.mem_append_left _ (List.mem_of_getElem? (i := 0) rfl))))))))) (fun _ h9 => h9) rfl dX0_potentialOf_6 ?_
  refine lv_icmp_ge (tgt := 101) hx hb dX0_potentialOf_9 (by decide) (fun _ => ?_) (fun h => absurd (by decide) h)
  refine lv_iload_n hx hb dX0_potentialOf_101 rfl (lv_at hl 1 rfl) ?_
  refine W.widen (k := 0) (n := 0) (Nat.le_of_ble_eq_true rfl) (Nat.le_of_ble_eq_true rfl) ?_
  exact W.iret (v := 0) hx hb hr (fun t ht hW => ⟨⟨0, (), rfl, ⟨rfl, trivial⟩, trivial⟩, hS.F ht⟩) hS.2.2 dX0_potentialOf_102
theorem dX7_getPotential_0 : decode cX7_getPotential 0 = .ok (.aload_n 0, 1) := by decide +kernel
theorem dX7_getPotential_1 : decode cX7_getPotential 1 = .ok (.getfield 10, 3) := by decide +kernel
theorem dX7_getPotential_4 : decode cX7_getPotential 4 = .ok (.aload_n 0, 1) := by decide +kernel
theorem dX7_getPotential_5 : decode cX7_getPotential 5 = .ok (.getfield 19, 3) := by decide +kernel
theorem dX7_getPotential_8 : decode cX7_getPotential 8 = .ok (.invokevirtual 248, 3) := by decide +kernel
set_option maxRecDepth 20000 in
theorem ggX7_getPotential_X0_isEven : GoodIn wsX7_getPotential wsX0_isEven := goodIn_ca (goodIn_r _ [9, 10, 11, 12, 13, 14, 50, 51, 52, 53, 54, 55, 56, 57, 58, 59, 60, 61, 62] (by decide +kernel) (by decide +kernel)) (goodIn_sub (fun _ h => List.mem_cons_of_mem _ (List.mem_append_right _ h)) (by decide +kernel))
set_option maxRecDepth 20000 in
theorem gX7_getPotential_X0_isEven : GoodIn wsX7_getPotential (wsV RX7 248 RX0 yX0_isEven wsX0_isEven) := goodIn_app (goodIn_of _ (by decide +kernel)) ggX7_getPotential_X0_isEven
theorem dX7_getPotential_11 : decode cX7_getPotential 11 = .ok (.ifCond .ne 13, 3) := by decide +kernel
theorem dX7_getPotential_24 : decode cX7_getPotential 24 = .ok (.aload_n 0, 1) := by decide +kernel
theorem dX7_getPotential_25 : decode cX7_getPotential 25 = .ok (.getfield 10, 3) := by decide +kernel
theorem dX7_getPotential_28 : decode cX7_getPotential 28 = .ok (.aload_n 0, 1) := by decide +kernel
theorem dX7_getPotential_29 : decode cX7_getPotential 29 = .ok (.getfield 19, 3) := by decide +kernel
theorem dX7_getPotential_32 : decode cX7_getPotential 32 = .ok (.invokevirtual 254, 3) := by decide +kernel
set_option maxRecDepth 20000 in
theorem ggX7_getPotential_X0_potentialOf : GoodIn wsX7_getPotential wsX0_potentialOf := goodIn_ca (goodIn_r _ [18, 19, 20, 21, 10, 12, 11, 22, 14, 23, 24, 25, 26, 27, 28, 29, 30, 31, 32, 33, 34, 35, 36, 37, 38, 39, 40, 41, 42, 50, 51, 52, 53, 54, 55, 56, 63, 64, 65, 66, 67, 68, 69, 57, 58, 59, 60, 61, 62] (by decide +kernel) (by decide +kernel)) (goodIn_sub (fun _ h => List.mem_cons_of_mem _ (List.mem_append_right _ h)) (by decide +kernel))
set_option maxRecDepth 20000 in
theorem gX7_getPotential_X0_potentialOf : GoodIn wsX7_getPotential (wsV RX7 254 RX0 yX0_potentialOf wsX0_potentialOf) := goodIn_app (goodIn_of _ (by decide +kernel)) ggX7_getPotential_X0_potentialOf
theorem dX7_getPotential_35 : decode cX7_getPotential 35 = .ok (.ireturn, 1) := by decide +kernel
set_option maxHeartbeats 4000000 in
set_option maxRecDepth 100000 in
theorem k_X7_getPotential (l : Launch) (D : va_G) (cy : Nat → ClassId) (h1 : Nat) (h2 : Nat) (h3 : Nat) (x4 : Value) (x5 : Value) (x6 : Value) (x7 : Value) (x8 : Value) (x9 : Value) (x10 : Value) : Met l yX7_getPotential wsX7_getPotential ({ frames := 1, cells := 0, slots := 0, locals := 24 }) (kR D cy [.ref h1] [(h1, .inr (9, [.ref h2, .ref h3, x4, x5, x6, x7, x8])), (h2, .inr (2, [x9, x10, .int 0, .int 0]))]) (va_Qi (fun (r : Int32) (_ : Unit) => r = 0 ∧ True) (fun (_ : Unit) (_ : State) => True) (fun _ : Nat => False)) 0 0 (fun _ : Nat => False) := by
  refine Met.ofW (cc := cX7_getPotential) (maxL := 1) (ret := (some .int)) (by decide) rfl ?_
  intro p e s m args below meth c s₁ B hml hv
  obtain ⟨rfl, hP, hK⟩ := hv
  have hx := B.exec
  have hb := B.bytes
  have hr := B.returns
  have hts := atoms_spec (ws := wsX7_getPotential) B.pre
  have hown : s.vm.findClass RX7 = some m.cls := findClass_of_methodNamed B.named
  have hlocks := B.notSynchronized
  have hS : va_S (fun _ : Nat => False) s.heap s.heap [] := va_S.rf
  have hP : va_P D vwCl [(h1, .inr (9, [.ref h2, .ref h3, x4, x5, x6, x7, x8])), (h2, .inr (2, [x9, x10, .int 0, .int 0]))] s.heap := hP
  have hl := lv_entry ([.ref h1]) (n := 1) (Nat.le_of_ble_eq_true rfl)
  rw [lg_entry_eq]
  generalize (lg_sl ([.ref h1]) ++ List.replicate (1 - (lg_sl ([.ref h1])).length) Slot.unset).toArray = ls at hl ⊢
  have hl : lv_has ls 1 [(0, .ref h1)] := hl
  refine lv_aload_n hx hb dX7_getPotential_0 rfl (lv_at hl 0 rfl) ?_
  refine va_get (D := D) (ci := 9) (v := .ref h2) (C := RX7) (T := TX7) (N := 7) hx hb hts (fun _ h => (List.mem_cons_of_mem _ (List.mem_append_left _ (List.mem_append_left _ (List.mem_append_left _ (List.mem_append_left _ (List.mem_append_left _ (List.mem_append_left _ (List.mem_append_right _ h))))))))) hown hK hP 0 rfl rfl 0 (by decide) (hts (.fieldLink RX7 10 "SelfishJunction" "board" "LSelfishJunction$Board;") (List.mem_cons_of_mem _ (List.mem_append_left _ (List.mem_append_left _ (List.mem_append_left _ (List.mem_append_left _ (List.mem_append_left _ (List.mem_append_left _ (List.mem_append_left _ (List.mem_append_left _ (List.mem_of_getElem? (i := 2) rfl))))))))))) (fun _ h9 => h9) rfl dX7_getPotential_1 ?_
  refine lv_aload_n hx hb dX7_getPotential_4 rfl (lv_at hl 0 rfl) ?_
  refine va_get (D := D) (ci := 9) (v := .ref h3) (C := RX7) (T := TX7) (N := 7) hx hb hts (fun _ h => (List.mem_cons_of_mem _ (List.mem_append_left _ (List.mem_append_left _ (List.mem_append_left _ (List.mem_append_left _ (List.mem_append_left _ (List.mem_append_left _ (List.mem_append_right _ h))))))))) hown hK hP 0 rfl rfl 1 (by decide) (hts (.fieldLink RX7 19 "SelfishJunction" "now" "LSelfishJunction$Play;") (List.mem_cons_of_mem _ (List.mem_append_left _ (List.mem_append_left _ (List.mem_append_left _ (List.mem_append_left _ (List.mem_append_left _ (List.mem_append_left _ (List.mem_append_left _ (List.mem_append_left _ (List.mem_of_getElem? (i := 3) rfl))))))))))) (fun _ h9 => h9) rfl dX7_getPotential_5 ?_
  have hPc := hP.sub (ws' := [(h2, .inr (2, [x9, x10, .int 0, .int 0]))]) [1] rfl
  refine va_calli (va_runV (As := [.ref h3]) (rest := []) ⟨hx, hb, hml, hown, hts⟩ (k_X0_isEven l D cy h2 h3 (x9) (x10) (.int 0)) (cwV 1 hts gX7_getPotential_X0_isEven rfl rfl rfl (by decide +kernel) ⟨(Nat.le_of_ble_eq_true rfl), (Nat.le_of_ble_eq_true rfl)⟩) ⟨kR_fb, va_recv hK hP (ci := 2) (q0 := 1) rfl rfl, (kR_go hPc hK)⟩ rfl rfl hl.1 rfl (lv_room (Nat.le_of_ble_eq_true rfl)) dX7_getPotential_8 ⟨(Nat.le_of_ble_eq_true rfl), (Nat.le_of_ble_eq_true rfl)⟩) hS (fun _ _ h => h.elim) (fun _ h => h.elim) (fun r9 u t H locs ht hvm hw hB hz1 hk1 hS => ?_)
  have hP := kx_kept hP hk1
  obtain ⟨rfl, hw⟩ := hw
  refine lv_if_ne (tgt := 24) hx hb dX7_getPotential_11 (by decide) (fun _ => ?_) (fun h => absurd h (by decide))
  refine lv_aload_n hx hb dX7_getPotential_24 rfl (lv_at hl 0 rfl) ?_
  refine va_get (D := D) (ci := 9) (v := .ref h2) (C := RX7) (T := TX7) (N := 7) hx hb hts (fun _ h => (List.mem_cons_of_mem _ (List.mem_append_left _ (List.mem_append_left _ (List.mem_append_left _ (List.mem_append_left _ (List.mem_append_left _ (List.mem_append_left _ (List.mem_append_right _ h))))))))) hown hK hP 0 rfl rfl 0 (by decide) (hts (.fieldLink RX7 10 "SelfishJunction" "board" "LSelfishJunction$Board;") (List.mem_cons_of_mem _ (List.mem_append_left _ (List.mem_append_left _ (List.mem_append_left _ (List.mem_append_left _ (List.mem_append_left _ (List.mem_append_left _ (List.mem_append_left _ (List.mem_append_left _ (List.mem_of_getElem? (i := 2) rfl))))))))))) (fun _ h9 => h9) rfl dX7_getPotential_25 ?_
  refine lv_aload_n hx hb dX7_getPotential_28 rfl (lv_at hl 0 rfl) ?_
  refine va_get (D := D) (ci := 9) (v := .ref h3) (C := RX7) (T := TX7) (N := 7) hx hb hts (fun _ h => (List.mem_cons_of_mem _ (List.mem_append_left _ (List.mem_append_left _ (List.mem_append_left _ (List.mem_append_left _ (List.mem_append_left _ (List.mem_append_left _ (List.mem_append_right _ h))))))))) hown hK hP 0 rfl rfl 1 (by decide) (hts (.fieldLink RX7 19 "SelfishJunction" "now" "LSelfishJunction$Play;") (List.mem_cons_of_mem _ (List.mem_append_left _ (List.mem_append_left _ (List.mem_append_left _ (List.mem_append_left _ (List.mem_append_left _ (List.mem_append_left _ (List.mem_append_left _ (List.mem_append_left _ (List.mem_of_getElem? (i := 3) rfl))))))))))) (fun _ h9 => h9) rfl dX7_getPotential_29 ?_
  have hPc := hP.sub (ws' := [(h2, .inr (2, [x9, x10, .int 0, .int 0]))]) [1] rfl
  refine va_calli (va_runV (As := [.ref h3]) (rest := []) ⟨hx, hb, hml, hown, hts⟩ (k_X0_potentialOf l D cy h2 h3 (x9) (x10) (.int 0)) (cwV 1 hts gX7_getPotential_X0_potentialOf rfl rfl rfl (by decide +kernel) ⟨(Nat.le_of_ble_eq_true rfl), (Nat.le_of_ble_eq_true rfl)⟩) ⟨kR_fb, va_recv hK hP (ci := 2) (q0 := 1) rfl rfl, (kR_go hPc hK)⟩ rfl rfl hl.1 rfl (lv_room (Nat.le_of_ble_eq_true rfl)) dX7_getPotential_32 ⟨(Nat.le_of_ble_eq_true rfl), (Nat.le_of_ble_eq_true rfl)⟩) hS (fun _ _ h => h.elim) (fun _ h => h.elim) (fun r9 u t H locs ht hvm hw hB hz1 hk1 hS => ?_)
  have hP := kx_kept hP hk1
  obtain ⟨rfl, hw⟩ := hw
  refine W.widen (k := 0) (n := 0) (Nat.le_of_ble_eq_true rfl) (Nat.le_of_ble_eq_true rfl) ?_
  exact W.iret (v := 0) hx hb hr (fun t ht hW => ⟨⟨0, (), rfl, ⟨rfl, trivial⟩, trivial⟩, hS.F ht⟩) hS.2.2 dX7_getPotential_35
theorem dL_getPotential_0 : decode cL_getPotential 0 = .ok (.aload_n 1, 1) := by decide +kernel
theorem dL_getPotential_1 : decode cL_getPotential 1 = .ok (.iconst 0, 1) := by decide +kernel
theorem dL_getPotential_2 : decode cL_getPotential 2 = .ok (.aload_n 0, 1) := by decide +kernel
theorem dL_getPotential_3 : decode cL_getPotential 3 = .ok (.invokevirtual 89, 3) := by decide +kernel
set_option maxRecDepth 20000 in
theorem ggL_getPotential_X7_getPotential : GoodIn wsL_getPotential wsX7_getPotential := goodIn_ca (goodIn_ca (goodIn_r _ [6, 7, 8, 9, 10, 11, 12, 13, 14, 15, 16, 17, 18, 19, 20, 21, 22, 23, 24, 25, 26, 27, 28, 29, 30, 31, 32, 33, 34, 35, 36, 37, 38, 39, 40, 41, 42, 43, 44, 45, 46, 5, 47, 48, 49, 50, 51, 52, 53, 54, 55, 56, 57, 58, 59, 60, 61, 62, 63, 64, 65, 66, 67, 68, 69, 70, 71, 72, 73, 74] (by decide +kernel) (by decide +kernel)) (goodIn_sub (fun _ h => List.mem_cons_of_mem _ (List.mem_append_right _ h)) (by decide +kernel))) (goodIn_sub (fun _ h => List.mem_cons_of_mem _ (List.mem_append_left _ (List.mem_append_right _ h))) (by decide +kernel))
set_option maxRecDepth 20000 in
theorem gL_getPotential_X7_getPotential : GoodIn wsL_getPotential (wsV RL 89 RX7 yX7_getPotential wsX7_getPotential) := goodIn_app (goodIn_of _ (by decide +kernel)) ggL_getPotential_X7_getPotential
theorem dL_getPotential_6 : decode cL_getPotential 6 = .ok (.i2l, 1) := by decide +kernel
theorem dL_getPotential_7 : decode cL_getPotential 7 = .ok (.lastore, 1) := by decide +kernel
theorem dL_getPotential_8 : decode cL_getPotential 8 = .ok (.goto 6, 3) := by decide +kernel
theorem dL_getPotential_14 : decode cL_getPotential 14 = .ok (.iconst 0, 1) := by decide +kernel
theorem dL_getPotential_15 : decode cL_getPotential 15 = .ok (.ireturn, 1) := by decide +kernel
set_option maxHeartbeats 4000000 in
set_option maxRecDepth 100000 in
theorem k_L_getPotential (l : Launch) (D : va_G) (cy : Nat → ClassId) (h1 : Nat) (h2 : Nat) (h3 : Nat) (h4 : Nat) (x5 : Value) (x6 : Value) (x7 : Value) (x8 : Value) (x9 : Value) (g10 : Nat → Int64) (x11 : Value) (x12 : Value) (sz : Nat) : Met l yL_getPotential wsL_getPotential ({ frames := 2, cells := 0, slots := 0, locals := 44 }) (kW D cy [.ref h1, .ref h2] [(h1, .inr (9, [.ref h3, .ref h4, x5, x6, x7, x8, x9])), (h2, .inl (cy 2, 1, .inr (.inl g10))), (h3, .inr (2, [x11, x12, .int 0, .int 0]))] sz) (va_Qi (fun (r : Int32) (_ : Unit) => r = 0 ∧ True) (fun (_ : Unit) (t : State) => va_P D vwCl [(h2, .inl (cy 2, 1, .inr (.inl (vp_updL g10 0 0))))] t.heap ∧ va_D (va_A [(h1, .inr (9, [.ref h3, .ref h4, x5, x6, x7, x8, x9])), (h2, .inl (cy 2, 1, .inr (.inl g10))), (h3, .inr (2, [x11, x12, .int 0, .int 0]))] sz) [(h2, .inl (cy 2, 1, .inr (.inl (vp_updL g10 0 0))))]) (va_A [(h1, .inr (9, [.ref h3, .ref h4, x5, x6, x7, x8, x9])), (h2, .inl (cy 2, 1, .inr (.inl g10))), (h3, .inr (2, [x11, x12, .int 0, .int 0]))] sz)) 0 0 (va_A [(h1, .inr (9, [.ref h3, .ref h4, x5, x6, x7, x8, x9])), (h2, .inl (cy 2, 1, .inr (.inl g10))), (h3, .inr (2, [x11, x12, .int 0, .int 0]))] sz) := by
  refine va_MetW (cc := cL_getPotential) (maxL := 3) (ret := (some .int)) (by decide) rfl ?_
  intro p e s m args below meth c s₁ B hml hv
  obtain ⟨rfl, hsz, hP, hK, hD0⟩ := hv
  have hx := B.exec
  have hb := B.bytes
  have hr := B.returns
  have hts := atoms_spec (ws := wsL_getPotential) B.pre
  have hown : s.vm.findClass RL = some m.cls := findClass_of_methodNamed B.named
  have hlocks := B.notSynchronized
  have htb := vx_table (x := yL_getPotential) B (hts _ (List.mem_cons_self))
  subst hsz
  have hD := hD0.self (sz := s.heap.size)
  generalize hAe : va_A [(h1, .inr (9, [.ref h3, .ref h4, x5, x6, x7, x8, x9])), (h2, .inl (cy 2, 1, .inr (.inl g10))), (h3, .inr (2, [x11, x12, .int 0, .int 0]))] s.heap.size = A at hD ⊢
  have hA : ∀ q : Nat, s.heap.size ≤ q → A q := fun q h => by rw [← hAe]; exact Or.inr h
  have hS : va_S A s.heap s.heap [] := va_S.rf
  have hP : va_P D vwCl [(h1, .inr (9, [.ref h3, .ref h4, x5, x6, x7, x8, x9])), (h2, .inl (cy 2, 1, .inr (.inl g10))), (h3, .inr (2, [x11, x12, .int 0, .int 0]))] s.heap := hP
  have hl := lv_entry ([.ref h1, .ref h2]) (n := 3) (Nat.le_of_ble_eq_true rfl)
  rw [lg_entry_eq]
  generalize (lg_sl ([.ref h1, .ref h2]) ++ List.replicate (3 - (lg_sl ([.ref h1, .ref h2])).length) Slot.unset).toArray = ls at hl ⊢
  have hl : lv_has ls 3 [(0, .ref h1), (1, .ref h2)] := hl
  refine lv_aload_n hx hb dL_getPotential_0 rfl (lv_at hl 1 rfl) ?_
  refine lv_iconst (v := 0) hx hb dL_getPotential_1 (by decide) ?_
  refine lv_aload_n hx hb dL_getPotential_2 rfl (lv_at hl 0 rfl) ?_
  have hPc := hP.sub (ws' := [(h1, .inr (9, [.ref h3, .ref h4, x5, x6, x7, x8, x9])), (h3, .inr (2, [x11, x12, .int 0, .int 0]))]) [0, 2] rfl
  refine va_calli (va_runV (As := []) (rest := [.int 0, .ref h2]) ⟨hx, hb, hml, hown, hts⟩ (k_X7_getPotential l D cy h1 h3 h4 (x5) (x6) (x7) (x8) (x9) (x11) (x12)) (cwV 0 hts gL_getPotential_X7_getPotential rfl rfl rfl (by decide +kernel) ⟨(Nat.le_of_ble_eq_true rfl), (Nat.le_of_ble_eq_true rfl)⟩) ⟨kR_fb, va_recv hK hP (ci := 9) (q0 := 0) rfl rfl, (kR_go hPc hK)⟩ rfl rfl hl.1 rfl (lv_room (Nat.le_of_ble_eq_true rfl)) dL_getPotential_3 ⟨(Nat.le_of_ble_eq_true rfl), (Nat.le_of_ble_eq_true rfl)⟩) hS (fun _ _ h => h.elim) (fun _ h => h.elim) (fun r9 u t H locs ht hvm hw hB hz1 hk1 hS => ?_)
  have hP := kx_kept hP hk1
  obtain ⟨rfl, hw⟩ := hw
  refine lv_i2l (v := 0) hx hb dL_getPotential_6 (by decide) ?_
  refine va_last hx hb hK hP hD hS 1 2 rfl rfl (kx_in 0 1 rfl ⟨(Nat.le_of_ble_eq_true rfl), (Nat.le_of_ble_eq_true rfl)⟩ (Nat.le_of_ble_eq_true rfl)) dL_getPotential_7 (fun H locs hP hD hS => ?_)
  have hP : va_P D vwCl [(h1, .inr (9, [.ref h3, .ref h4, x5, x6, x7, x8, x9])), (h2, .inl (cy 2, 1, .inr (.inl (vp_updL g10 0 0)))), (h3, .inr (2, [x11, x12, .int 0, .int 0]))] H := hP
  have hD : va_D A [(h1, .inr (9, [.ref h3, .ref h4, x5, x6, x7, x8, x9])), (h2, .inl (cy 2, 1, .inr (.inl (vp_updL g10 0 0)))), (h3, .inr (2, [x11, x12, .int 0, .int 0]))] := hD
  refine lv_goto (tgt := 14) hx hb dL_getPotential_8 (by decide) ?_
  refine lv_iconst (v := 0) hx hb dL_getPotential_14 (by decide) ?_
  refine W.widen (k := 0) (n := 0) (Nat.le_of_ble_eq_true rfl) (Nat.le_of_ble_eq_true rfl) ?_
  have hP9 := hP.sub (ws' := [(h2, .inl (cy 2, 1, .inr (.inl (vp_updL g10 0 0))))]) [1] rfl
  have hD9 := hD.sub (ws' := [(h2, .inl (cy 2, 1, .inr (.inl (vp_updL g10 0 0))))]) [1] (by decide) rfl
  exact W.iret (v := 0) hx hb hr (fun t ht hW => ⟨⟨0, (), rfl, ⟨rfl, trivial⟩, ⟨by rw [ht]; exact hP9, hD9⟩⟩, hS.F ht⟩) hS.2.2 dL_getPotential_15
theorem dX8_hasPotential_0 : decode cX8_hasPotential 0 = .ok (.iconst 1, 1) := by decide +kernel
theorem dX8_hasPotential_1 : decode cX8_hasPotential 1 = .ok (.istore_n 1, 1) := by decide +kernel
theorem dX8_hasPotential_2 : decode cX8_hasPotential 2 = .ok (.iconst (-1), 1) := by decide +kernel
theorem dX8_hasPotential_3 : decode cX8_hasPotential 3 = .ok (.istore_n 2, 1) := by decide +kernel
theorem dX8_hasPotential_4 : decode cX8_hasPotential 4 = .ok (.iconst 0, 1) := by decide +kernel
theorem dX8_hasPotential_5 : decode cX8_hasPotential 5 = .ok (.istore_n 3, 1) := by decide +kernel
theorem dX8_hasPotential_6 : decode cX8_hasPotential 6 = .ok (.iload_n 3, 1) := by decide +kernel
theorem dX8_hasPotential_7 : decode cX8_hasPotential 7 = .ok (.aload_n 0, 1) := by decide +kernel
theorem dX8_hasPotential_8 : decode cX8_hasPotential 8 = .ok (.getfield 85, 3) := by decide +kernel
theorem dX8_hasPotential_11 : decode cX8_hasPotential 11 = .ok (.if_icmp .ge 58, 3) := by decide +kernel
theorem dX8_hasPotential_69 : decode cX8_hasPotential 69 = .ok (.iload_n 1, 1) := by decide +kernel
theorem dX8_hasPotential_70 : decode cX8_hasPotential 70 = .ok (.ireturn, 1) := by decide +kernel
set_option maxHeartbeats 4000000 in
set_option maxRecDepth 100000 in
theorem k_X8_hasPotential (l : Launch) (D : va_G) (cy : Nat → ClassId) (h1 : Nat) (x2 : Value) (x3 : Value) (x4 : Value) (x5 : Value) (x6 : Value) (x7 : Value) (x8 : Value) (x9 : Value) (x10 : Value) (x11 : Value) (x12 : Value) (x13 : Value) (x14 : Value) (x15 : Value) (x16 : Value) (x17 : Value) (x18 : Value) : Met l yX8_hasPotential wsX8_hasPotential ({ frames := 0, cells := 0, slots := 0, locals := 0 }) (kR D cy [.ref h1] [(h1, .inr (10, [x2, x3, x4, x5, x6, x7, x8, x9, x10, x11, x12, x13, x14, x15, x16, .int 0, x17, x18]))]) (va_Qi (fun (r : Int32) (_ : Unit) => r = 1 ∧ True) (fun (_ : Unit) (_ : State) => True) (fun _ : Nat => False)) 0 0 (fun _ : Nat => False) := by
  refine Met.ofW (cc := cX8_hasPotential) (maxL := 4) (ret := (some .boolean)) (by decide) rfl ?_
  intro p e s m args below meth c s₁ B hml hv
  obtain ⟨rfl, hP, hK⟩ := hv
  have hx := B.exec
  have hb := B.bytes
  have hr := B.returns
  have hts := atoms_spec (ws := wsX8_hasPotential) B.pre
  have hown : s.vm.findClass RX8 = some m.cls := findClass_of_methodNamed B.named
  have hlocks := B.notSynchronized
  have hS : va_S (fun _ : Nat => False) s.heap s.heap [] := va_S.rf
  have hP : va_P D vwCl [(h1, .inr (10, [x2, x3, x4, x5, x6, x7, x8, x9, x10, x11, x12, x13, x14, x15, x16, .int 0, x17, x18]))] s.heap := hP
  have hl := lv_entry ([.ref h1]) (n := 4) (Nat.le_of_ble_eq_true rfl)
  rw [lg_entry_eq]
  generalize (lg_sl ([.ref h1]) ++ List.replicate (4 - (lg_sl ([.ref h1])).length) Slot.unset).toArray = ls at hl ⊢
  have hl : lv_has ls 4 [(0, .ref h1)] := hl
  refine lv_iconst (v := 1) hx hb dX8_hasPotential_0 (by decide) ?_
  refine lv_istore_n (lv' := [(1, .int 1), (0, .ref h1)]) hx hb dX8_hasPotential_1 rfl hl (by decide) rfl (fun ls hl => ?_)
  refine lv_iconst (v := (-1)) hx hb dX8_hasPotential_2 (by decide) ?_
  refine lv_istore_n (lv' := [(2, .int (-1)), (1, .int 1), (0, .ref h1)]) hx hb dX8_hasPotential_3 rfl hl (by decide) rfl (fun ls hl => ?_)
  refine lv_iconst (v := 0) hx hb dX8_hasPotential_4 (by decide) ?_
  refine lv_istore_n (lv' := [(3, .int 0), (2, .int (-1)), (1, .int 1), (0, .ref h1)]) hx hb dX8_hasPotential_5 rfl hl (by decide) rfl (fun ls hl => ?_)
  refine lv_iload_n hx hb dX8_hasPotential_6 rfl (lv_at hl 0 rfl) ?_
  refine lv_aload_n hx hb dX8_hasPotential_7 rfl (lv_at hl 3 rfl) ?_
  refine va_get (D := D) (ci := 10) (v := .int 0) (C := RX8) (T := TX8) (N := 18) hx hb hts (fun _ h => (List.mem_cons_of_mem _ (List.mem_append_left _ (List.mem_append_right _ h)))) hown hK hP 0 rfl rfl 15 (by decide) (hts (.fieldLink RX8 85 "SelfishJunctionModel" "players" "I") (List.mem_cons_of_mem _ (List.mem_append_left _ (List.mem_append_left _ (List.mem_of_getElem? (i := 0) rfl))))) (fun _ h9 => h9) rfl dX8_hasPotential_8 ?_
  refine lv_icmp_ge (tgt := 69) hx hb dX8_hasPotential_11 (by decide) (fun _ => ?_) (fun h => absurd (by decide) h)
  refine lv_iload_n hx hb dX8_hasPotential_69 rfl (lv_at hl 2 rfl) ?_
  refine W.widen (k := 0) (n := 0) (Nat.le_of_ble_eq_true rfl) (Nat.le_of_ble_eq_true rfl) ?_
  exact W.zret (v := 1) hx hb hr rfl (fun t ht hW => ⟨⟨1, (), rfl, ⟨rfl, trivial⟩, trivial⟩, hS.F ht⟩) hS.2.2 dX8_hasPotential_70
theorem dX8_getPotential_0 : decode cX8_getPotential 0 = .ok (.aload_n 0, 1) := by decide +kernel
theorem dX8_getPotential_1 : decode cX8_getPotential 1 = .ok (.aload_n 0, 1) := by decide +kernel
theorem dX8_getPotential_2 : decode cX8_getPotential 2 = .ok (.invokevirtual 226, 3) := by decide +kernel
set_option maxRecDepth 20000 in
theorem ggX8_getPotential_X8_hasPotential : GoodIn wsX8_getPotential wsX8_hasPotential := goodIn_ca (goodIn_r _ [11, 3, 12, 13, 6, 30, 31, 32, 33, 34, 35, 36, 37, 38, 39, 40, 41, 42, 43, 44, 45, 46, 47] (by decide +kernel) (by decide +kernel)) (goodIn_sub (fun _ h => List.mem_cons_of_mem _ (List.mem_append_left _ (List.mem_append_right _ h))) (by decide +kernel))
set_option maxRecDepth 20000 in
theorem gX8_getPotential_X8_hasPotential : GoodIn wsX8_getPotential (wsV RX8 226 RX8 yX8_hasPotential wsX8_hasPotential) := goodIn_app (goodIn_of _ (by decide +kernel)) ggX8_getPotential_X8_hasPotential
theorem dX8_getPotential_5 : decode cX8_getPotential 5 = .ok (.ifCond .ne 7, 3) := by decide +kernel
theorem dX8_getPotential_12 : decode cX8_getPotential 12 = .ok (.iconst 0, 1) := by decide +kernel
theorem dX8_getPotential_13 : decode cX8_getPotential 13 = .ok (.iconst 1, 1) := by decide +kernel
theorem dX8_getPotential_14 : decode cX8_getPotential 14 = .ok (.invokevirtual 73, 3) := by decide +kernel
set_option maxRecDepth 20000 in
theorem ggX8_getPotential_X8_isThrown : GoodIn wsX8_getPotential wsX8_isThrown := goodIn_r _ [17, 18, 30, 31, 32, 33, 34, 35, 36, 37, 38, 39, 40, 41, 42, 43, 44, 45, 46, 47] (by decide +kernel) (by decide +kernel)
set_option maxRecDepth 20000 in
theorem gX8_getPotential_X8_isThrown : GoodIn wsX8_getPotential (wsV RX8 73 RX8 yX8_isThrown wsX8_isThrown) := goodIn_app (goodIn_of _ (by decide +kernel)) ggX8_getPotential_X8_isThrown
theorem dX8_getPotential_17 : decode cX8_getPotential 17 = .ok (.ifCond .eq 5, 3) := by decide +kernel
theorem dX8_getPotential_22 : decode cX8_getPotential 22 = .ok (.iconst 0, 1) := by decide +kernel
theorem dX8_getPotential_23 : decode cX8_getPotential 23 = .ok (.istore_n 1, 1) := by decide +kernel
theorem dX8_getPotential_24 : decode cX8_getPotential 24 = .ok (.iconst 0, 1) := by decide +kernel
theorem dX8_getPotential_25 : decode cX8_getPotential 25 = .ok (.istore_n 2, 1) := by decide +kernel
theorem dX8_getPotential_26 : decode cX8_getPotential 26 = .ok (.iload_n 2, 1) := by decide +kernel
theorem dX8_getPotential_27 : decode cX8_getPotential 27 = .ok (.aload_n 0, 1) := by decide +kernel
theorem dX8_getPotential_28 : decode cX8_getPotential 28 = .ok (.getfield 62, 3) := by decide +kernel
theorem dX8_getPotential_31 : decode cX8_getPotential 31 = .ok (.if_icmp .ge 39, 3) := by decide +kernel
theorem dX8_getPotential_70 : decode cX8_getPotential 70 = .ok (.iconst 0, 1) := by decide +kernel
theorem dX8_getPotential_71 : decode cX8_getPotential 71 = .ok (.istore_n 2, 1) := by decide +kernel
theorem dX8_getPotential_72 : decode cX8_getPotential 72 = .ok (.iload_n 2, 1) := by decide +kernel
theorem dX8_getPotential_73 : decode cX8_getPotential 73 = .ok (.aload_n 0, 1) := by decide +kernel
theorem dX8_getPotential_74 : decode cX8_getPotential 74 = .ok (.getfield 85, 3) := by decide +kernel
theorem dX8_getPotential_77 : decode cX8_getPotential 77 = .ok (.if_icmp .ge 76, 3) := by decide +kernel
theorem dX8_getPotential_153 : decode cX8_getPotential 153 = .ok (.iload_n 1, 1) := by decide +kernel
theorem dX8_getPotential_154 : decode cX8_getPotential 154 = .ok (.ireturn, 1) := by decide +kernel
set_option maxHeartbeats 4000000 in
set_option maxRecDepth 100000 in
theorem k_X8_getPotential (l : Launch) (D : va_G) (cy : Nat → ClassId) (h1 : Nat) (x2 : Value) (x3 : Value) (x4 : Value) (x5 : Value) (x6 : Value) (x7 : Value) (x8 : Value) (x9 : Value) (x10 : Value) (x11 : Value) (x12 : Value) (x13 : Value) (x14 : Value) (x15 : Value) (x16 : Value) (x17 : Value) (sz : Nat) : Met l yX8_getPotential wsX8_getPotential ({ frames := 1, cells := 0, slots := 0, locals := 23 }) (kW D cy [.ref h1] [(h1, .inr (10, [x2, x3, x4, x5, x6, x7, x8, x9, x10, x11, x12, x13, x14, x15, .int 0, .int 0, x16, x17]))] sz) (va_Qi (fun (r : Int32) (_ : Unit) => r = 0 ∧ True) (fun (_ : Unit) (t : State) => va_P D vwCl [(h1, .inr (10, [x2, x3, x4, x5, x6, x7, x8, x9, x10, x11, x12, x13, x14, x15, .int 0, .int 0, x16, .int 0]))] t.heap ∧ va_D (va_A [(h1, .inr (10, [x2, x3, x4, x5, x6, x7, x8, x9, x10, x11, x12, x13, x14, x15, .int 0, .int 0, x16, x17]))] sz) [(h1, .inr (10, [x2, x3, x4, x5, x6, x7, x8, x9, x10, x11, x12, x13, x14, x15, .int 0, .int 0, x16, .int 0]))]) (va_A [(h1, .inr (10, [x2, x3, x4, x5, x6, x7, x8, x9, x10, x11, x12, x13, x14, x15, .int 0, .int 0, x16, x17]))] sz)) 0 0 (va_A [(h1, .inr (10, [x2, x3, x4, x5, x6, x7, x8, x9, x10, x11, x12, x13, x14, x15, .int 0, .int 0, x16, x17]))] sz) := by
  refine Met.ofW (cc := cX8_getPotential) (maxL := 4) (ret := (some .int)) (by decide) rfl ?_
  intro p e s m args below meth c s₁ B hml hv
  obtain ⟨rfl, hsz, hP, hK, hD0⟩ := hv
  have hx := B.exec
  have hb := B.bytes
  have hr := B.returns
  have hts := atoms_spec (ws := wsX8_getPotential) B.pre
  have hown : s.vm.findClass RX8 = some m.cls := findClass_of_methodNamed B.named
  have hlocks := B.notSynchronized
  subst hsz
  have hD := hD0.self (sz := s.heap.size)
  generalize hAe : va_A [(h1, .inr (10, [x2, x3, x4, x5, x6, x7, x8, x9, x10, x11, x12, x13, x14, x15, .int 0, .int 0, x16, x17]))] s.heap.size = A at hD ⊢
  have hA : ∀ q : Nat, s.heap.size ≤ q → A q := fun q h => by rw [← hAe]; exact Or.inr h
  have hS : va_S A s.heap s.heap [] := va_S.rf
  have hP : va_P D vwCl [(h1, .inr (10, [x2, x3, x4, x5, x6, x7, x8, x9, x10, x11, x12, x13, x14, x15, .int 0, .int 0, x16, x17]))] s.heap := hP
  have hl := lv_entry ([.ref h1]) (n := 4) (Nat.le_of_ble_eq_true rfl)
  rw [lg_entry_eq]
  generalize (lg_sl ([.ref h1]) ++ List.replicate (4 - (lg_sl ([.ref h1])).length) Slot.unset).toArray = ls at hl ⊢
  have hl : lv_has ls 4 [(0, .ref h1)] := hl
  refine lv_aload_n hx hb dX8_getPotential_0 rfl (lv_at hl 0 rfl) ?_
  refine lv_aload_n hx hb dX8_getPotential_1 rfl (lv_at hl 0 rfl) ?_
  have hPc := hP.sub (ws' := [(h1, .inr (10, [x2, x3, x4, x5, x6, x7, x8, x9, x10, x11, x12, x13, x14, x15, .int 0, .int 0, x16, x17]))]) [0] rfl
  refine va_calli (va_runV (As := []) (rest := [.ref h1]) ⟨hx, hb, hml, hown, hts⟩ (k_X8_hasPotential l D cy h1 (x2) (x3) (x4) (x5) (x6) (x7) (x8) (x9) (x10) (x11) (x12) (x13) (x14) (x15) (.int 0) (x16) (x17)) (cwV 0 hts gX8_getPotential_X8_hasPotential rfl rfl rfl (by decide +kernel) ⟨(Nat.le_of_ble_eq_true rfl), (Nat.le_of_ble_eq_true rfl)⟩) ⟨kR_fb, va_recv hK hP (ci := 10) (q0 := 0) rfl rfl, (kR_go hPc hK)⟩ rfl rfl hl.1 rfl (lv_room (Nat.le_of_ble_eq_true rfl)) dX8_getPotential_2 ⟨(Nat.le_of_ble_eq_true rfl), (Nat.le_of_ble_eq_true rfl)⟩) hS (fun _ _ h => h.elim) (fun _ h => h.elim) (fun r9 u t H locs ht hvm hw hB hz1 hk1 hS => ?_)
  have hP := kx_kept hP hk1
  obtain ⟨rfl, hw⟩ := hw
  refine lv_if_ne (tgt := 12) hx hb dX8_getPotential_5 (by decide) (fun _ => ?_) (fun h => absurd h (by decide))
  refine lv_iconst (v := 0) hx hb dX8_getPotential_12 (by decide) ?_
  refine lv_iconst (v := 1) hx hb dX8_getPotential_13 (by decide) ?_
  have hPc := hP.sub (ws' := [(h1, .inr (10, [x2, x3, x4, x5, x6, x7, x8, x9, x10, x11, x12, x13, x14, x15, .int 0, .int 0, x16, x17]))]) [0] rfl
  have hDc := hD.sub (ws' := [(h1, .inr (10, [x2, x3, x4, x5, x6, x7, x8, x9, x10, x11, x12, x13, x14, x15, .int 0, .int 0, x16, x17]))]) [0] (by decide) rfl
  have hFc := va_free (wc := [(h1, .inr (10, [x2, x3, x4, x5, x6, x7, x8, x9, x10, x11, x12, x13, x14, x15, .int 0, .int 0, x16, x17]))]) hD hS hA [0] rfl
  refine va_calli (va_runV (As := [.int 0, .int 1]) (rest := []) ⟨hx, hb, hml, hown, hts⟩ (k_X8_isThrown_1 l D cy h1 (x2) (x3) (x4) (x5) (x6) (x7) (x8) (x9) (x10) (x11) (x12) (x13) (x14) (x15) (.int 0) (.int 0) (x16) (x17) H.size) (cwV 2 hts gX8_getPotential_X8_isThrown rfl rfl rfl (by decide +kernel) ⟨(Nat.le_of_ble_eq_true rfl), (Nat.le_of_ble_eq_true rfl)⟩) ⟨kW_fb, va_recv hK hP (ci := 10) (q0 := 0) rfl rfl, (kW_go hPc hK hDc)⟩ rfl rfl hl.1 rfl (lv_room (Nat.le_of_ble_eq_true rfl)) dX8_getPotential_14 ⟨(Nat.le_of_ble_eq_true rfl), (Nat.le_of_ble_eq_true rfl)⟩) hS (fun q _ h => hFc q h) hFc (fun r9 u t H locs ht hvm hw hB hz1 hk1 hS => ?_)
  obtain ⟨hP1, hD1⟩ := hB
  rw [ht] at hP1
  try dsimp only at hw hP1 hD1
  obtain ⟨hP, hD⟩ := va_join (wr := []) (w1 := [(h1, .inr (10, [x2, x3, x4, x5, x6, x7, x8, x9, x10, x11, x12, x13, x14, x15, .int 0, .int 0, x16, .int 0]))]) hP hD [0] [] rfl rfl (by decide) (by decide) hk1 hFc hP1 hD1
  have hP : va_P D vwCl [(h1, .inr (10, [x2, x3, x4, x5, x6, x7, x8, x9, x10, x11, x12, x13, x14, x15, .int 0, .int 0, x16, .int 0]))] H := hP
  have hD : va_D A [(h1, .inr (10, [x2, x3, x4, x5, x6, x7, x8, x9, x10, x11, x12, x13, x14, x15, .int 0, .int 0, x16, .int 0]))] := hD
  obtain ⟨rfl, hw⟩ := hw
  refine lv_if_eq (tgt := 22) hx hb dX8_getPotential_17 (by decide) (fun _ => ?_) (fun h => absurd (by decide) h)
  refine lv_iconst (v := 0) hx hb dX8_getPotential_22 (by decide) ?_
  refine lv_istore_n (lv' := [(1, .int 0), (0, .ref h1)]) hx hb dX8_getPotential_23 rfl hl (by decide) rfl (fun ls hl => ?_)
  refine lv_iconst (v := 0) hx hb dX8_getPotential_24 (by decide) ?_
  refine lv_istore_n (lv' := [(2, .int 0), (1, .int 0), (0, .ref h1)]) hx hb dX8_getPotential_25 rfl hl (by decide) rfl (fun ls hl => ?_)
  refine lv_iload_n hx hb dX8_getPotential_26 rfl (lv_at hl 0 rfl) ?_
  refine lv_aload_n hx hb dX8_getPotential_27 rfl (lv_at hl 2 rfl) ?_
  refine va_get (D := D) (ci := 10) (v := .int 0) (C := RX8) (T := TX8) (N := 18) hx hb hts (fun _ h => (List.mem_cons_of_mem _ (List.mem_append_left _ (List.mem_append_left _ (List.mem_append_right _ h))))) hown hK hP 0 rfl rfl 14 (by decide) (hts (.fieldLink RX8 62 "SelfishJunctionModel" "resources" "I") (List.mem_cons_of_mem _ (List.mem_append_left _ (List.mem_append_left _ (List.mem_append_left _ (List.mem_append_left _ (List.mem_of_getElem? (i := 0) rfl))))))) (fun _ h9 => h9) rfl dX8_getPotential_28 ?_
  refine lv_icmp_ge (tgt := 70) hx hb dX8_getPotential_31 (by decide) (fun _ => ?_) (fun h => absurd (by decide) h)
  refine lv_iconst (v := 0) hx hb dX8_getPotential_70 (by decide) ?_
  refine lv_istore_n (lv' := [(2, .int 0), (1, .int 0), (0, .ref h1)]) hx hb dX8_getPotential_71 rfl hl (by decide) rfl (fun ls hl => ?_)
  refine lv_iload_n hx hb dX8_getPotential_72 rfl (lv_at hl 0 rfl) ?_
  refine lv_aload_n hx hb dX8_getPotential_73 rfl (lv_at hl 2 rfl) ?_
  refine va_get (D := D) (ci := 10) (v := .int 0) (C := RX8) (T := TX8) (N := 18) hx hb hts (fun _ h => (List.mem_cons_of_mem _ (List.mem_append_left _ (List.mem_append_left _ (List.mem_append_right _ h))))) hown hK hP 0 rfl rfl 15 (by decide) (hts (.fieldLink RX8 85 "SelfishJunctionModel" "players" "I") (List.mem_cons_of_mem _ (List.mem_append_left _ (List.mem_append_left _ (List.mem_append_left _ (List.mem_append_left _ (List.mem_of_getElem? (i := 2) rfl))))))) (fun _ h9 => h9) rfl dX8_getPotential_74 ?_
  refine lv_icmp_ge (tgt := 153) hx hb dX8_getPotential_77 (by decide) (fun _ => ?_) (fun h => absurd (by decide) h)
  refine lv_iload_n hx hb dX8_getPotential_153 rfl (lv_at hl 1 rfl) ?_
  refine W.widen (k := 0) (n := 0) (Nat.le_of_ble_eq_true rfl) (Nat.le_of_ble_eq_true rfl) ?_
  have hP9 := hP.sub (ws' := [(h1, .inr (10, [x2, x3, x4, x5, x6, x7, x8, x9, x10, x11, x12, x13, x14, x15, .int 0, .int 0, x16, .int 0]))]) [0] rfl
  have hD9 := hD.sub (ws' := [(h1, .inr (10, [x2, x3, x4, x5, x6, x7, x8, x9, x10, x11, x12, x13, x14, x15, .int 0, .int 0, x16, .int 0]))]) [0] (by decide) rfl
  exact W.iret (v := 0) hx hb hr (fun t ht hW => ⟨⟨0, (), rfl, ⟨rfl, trivial⟩, ⟨by rw [ht]; exact hP9, hD9⟩⟩, hS.F ht⟩) hS.2.2 dX8_getPotential_154
theorem dX6_number_0 : decode cX6_number 0 = .ok (.aload_n 0, 1) := by decide +kernel
theorem dX6_number_1 : decode cX6_number 1 = .ok (.getfield 45, 3) := by decide +kernel
theorem dX6_number_4 : decode cX6_number 4 = .ok (.aload_n 2, 1) := by decide +kernel
theorem dX6_number_5 : decode cX6_number 5 = .ok (.getfield 49, 3) := by decide +kernel
theorem dX6_number_8 : decode cX6_number 8 = .ok (.putfield 49, 3) := by decide +kernel
theorem dX6_number_11 : decode cX6_number 11 = .ok (.aload_n 0, 1) := by decide +kernel
theorem dX6_number_12 : decode cX6_number 12 = .ok (.iconst 1, 1) := by decide +kernel
theorem dX6_number_13 : decode cX6_number 13 = .ok (.putfield 53, 3) := by decide +kernel
theorem dX6_number_16 : decode cX6_number 16 = .ok (.aload_n 1, 1) := by decide +kernel
theorem dX6_number_17 : decode cX6_number 17 = .ok (.getfield 56, 3) := by decide +kernel
theorem dX6_number_20 : decode cX6_number 20 = .ok (.iconst 1, 1) := by decide +kernel
theorem dX6_number_21 : decode cX6_number 21 = .ok (.isub, 1) := by decide +kernel
theorem dX6_number_22 : decode cX6_number 22 = .ok (.istore_n 3, 1) := by decide +kernel
theorem dX6_number_23 : decode cX6_number 23 = .ok (.iload_n 3, 1) := by decide +kernel
theorem dX6_number_24 : decode cX6_number 24 = .ok (.ifCond .lt 105, 3) := by decide +kernel
theorem dX6_number_129 : decode cX6_number 129 = .ok (.return_, 1) := by decide +kernel
set_option maxHeartbeats 4000000 in
set_option maxRecDepth 100000 in
theorem k_X6_number (l : Launch) (D : va_G) (cy : Nat → ClassId) (h1 : Nat) (h2 : Nat) (h3 : Nat) (x4 : Value) (x5 : Value) (x6 : Value) (x7 : Value) (x8 : Value) (x9 : Value) (x10 : Value) (x11 : Value) (x12 : Value) (x13 : Value) (h14 : Nat) (x15 : Value) (x16 : Value) (x17 : Value) (x18 : Value) (x19 : Value) (x20 : Value) (x21 : Value) (x22 : Value) (x23 : Value) (x24 : Value) (sz : Nat) : Met l yX6_number wsX6_number ({ frames := 0, cells := 0, slots := 0, locals := 0 }) (kW D cy [.ref h1, .ref h2, .ref h3] [(h1, .inr (8, [x4, x5, x6, x7, x8, x9, x10, x11, x12, x13, .ref h14, x15, x16])), (h2, .inr (2, [x17, x18, x19, .int 0])), (h3, .inr (5, [x20, x21, .int 0])), (h14, .inr (5, [x22, x23, x24]))] sz) (va_Qv (fun (_ : Unit) => True) (fun (_ : Unit) (t : State) => va_P D vwCl [(h1, .inr (8, [x4, x5, x6, x7, x8, x9, x10, x11, x12, x13, .ref h14, .int 1, x16])), (h2, .inr (2, [x17, x18, x19, .int 0])), (h3, .inr (5, [x20, x21, .int 0])), (h14, .inr (5, [x22, x23, .int 0]))] t.heap ∧ va_D (va_A [(h1, .inr (8, [x4, x5, x6, x7, x8, x9, x10, x11, x12, x13, .ref h14, x15, x16])), (h2, .inr (2, [x17, x18, x19, .int 0])), (h3, .inr (5, [x20, x21, .int 0])), (h14, .inr (5, [x22, x23, x24]))] sz) [(h1, .inr (8, [x4, x5, x6, x7, x8, x9, x10, x11, x12, x13, .ref h14, .int 1, x16])), (h2, .inr (2, [x17, x18, x19, .int 0])), (h3, .inr (5, [x20, x21, .int 0])), (h14, .inr (5, [x22, x23, .int 0]))]) (va_A [(h1, .inr (8, [x4, x5, x6, x7, x8, x9, x10, x11, x12, x13, .ref h14, x15, x16])), (h2, .inr (2, [x17, x18, x19, .int 0])), (h3, .inr (5, [x20, x21, .int 0])), (h14, .inr (5, [x22, x23, x24]))] sz)) 0 0 (va_A [(h1, .inr (8, [x4, x5, x6, x7, x8, x9, x10, x11, x12, x13, .ref h14, x15, x16])), (h2, .inr (2, [x17, x18, x19, .int 0])), (h3, .inr (5, [x20, x21, .int 0])), (h14, .inr (5, [x22, x23, x24]))] sz) := by
  refine Met.ofW (cc := cX6_number) (maxL := 5) (ret := none) (by decide) rfl ?_
  intro p e s m args below meth c s₁ B hml hv
  obtain ⟨rfl, hsz, hP, hK, hD0⟩ := hv
  have hx := B.exec
  have hb := B.bytes
  have hr := B.returns
  have hts := atoms_spec (ws := wsX6_number) B.pre
  have hown : s.vm.findClass RX6 = some m.cls := findClass_of_methodNamed B.named
  have hlocks := B.notSynchronized
  subst hsz
  have hD := hD0.self (sz := s.heap.size)
  generalize hAe : va_A [(h1, .inr (8, [x4, x5, x6, x7, x8, x9, x10, x11, x12, x13, .ref h14, x15, x16])), (h2, .inr (2, [x17, x18, x19, .int 0])), (h3, .inr (5, [x20, x21, .int 0])), (h14, .inr (5, [x22, x23, x24]))] s.heap.size = A at hD ⊢
  have hA : ∀ q : Nat, s.heap.size ≤ q → A q := fun q h => by rw [← hAe]; exact Or.inr h
  have hS : va_S A s.heap s.heap [] := va_S.rf
  have hP : va_P D vwCl [(h1, .inr (8, [x4, x5, x6, x7, x8, x9, x10, x11, x12, x13, .ref h14, x15, x16])), (h2, .inr (2, [x17, x18, x19, .int 0])), (h3, .inr (5, [x20, x21, .int 0])), (h14, .inr (5, [x22, x23, x24]))] s.heap := hP
  have hl := lv_entry ([.ref h1, .ref h2, .ref h3]) (n := 5) (Nat.le_of_ble_eq_true rfl)
  rw [lg_entry_eq]
  generalize (lg_sl ([.ref h1, .ref h2, .ref h3]) ++ List.replicate (5 - (lg_sl ([.ref h1, .ref h2, .ref h3])).length) Slot.unset).toArray = ls at hl ⊢
  have hl : lv_has ls 5 [(0, .ref h1), (1, .ref h2), (2, .ref h3)] := hl
  refine lv_aload_n hx hb dX6_number_0 rfl (lv_at hl 0 rfl) ?_
  refine va_get (D := D) (ci := 8) (v := .ref h14) (C := RX6) (T := TX6) (N := 13) hx hb hts (fun _ h => (List.mem_cons_of_mem _ (List.mem_append_left _ (List.mem_append_left _ (List.mem_append_left _ (List.mem_append_left _ (List.mem_append_right _ h))))))) hown hK hP 0 rfl rfl 10 (by decide) (hts (.fieldLink RX6 45 "SelfishJunction$Survey" "shown" "LSelfishJunction$Play;") (List.mem_cons_of_mem _ (List.mem_append_left _ (List.mem_append_left _ (List.mem_append_left _ (List.mem_append_left _ (List.mem_append_left _ (List.mem_append_left _ (List.mem_of_getElem? (i := 0) rfl))))))))) (fun _ h9 => h9) rfl dX6_number_1 ?_
  refine lv_aload_n hx hb dX6_number_4 rfl (lv_at hl 2 rfl) ?_
  refine va_get (D := D) (ci := 5) (v := .int 0) (C := RX3) (T := TX3) (N := 3) hx hb hts (fun _ h => (List.mem_cons_of_mem _ (List.mem_append_left _ (List.mem_append_left _ (List.mem_append_left _ (List.mem_append_right _ h)))))) hown hK hP 2 rfl rfl 2 (by decide) (hts (.fieldLink RX6 49 "SelfishJunction$Play" "closed" "I") (List.mem_cons_of_mem _ (List.mem_append_left _ (List.mem_append_left _ (List.mem_append_left _ (List.mem_append_left _ (List.mem_append_left _ (List.mem_append_left _ (List.mem_of_getElem? (i := 1) rfl))))))))) (fun _ h9 => h9) rfl dX6_number_5 ?_
  refine va_put (D := D) (ci := 5) (v := .int 0) (ty := .int) (C := RX3) (T := TX3) (N := 3) hx hb hts (fun _ h => (List.mem_cons_of_mem _ (List.mem_append_left _ (List.mem_append_left _ (List.mem_append_left _ (List.mem_append_right _ h)))))) tyX3 tyX3_ok nmX3 hown hK hP hD hS 3 rfl rfl 2 (by decide) (hts (.fieldLink RX6 49 "SelfishJunction$Play" "closed" "I") (List.mem_cons_of_mem _ (List.mem_append_left _ (List.mem_append_left _ (List.mem_append_left _ (List.mem_append_left _ (List.mem_append_left _ (List.mem_append_left _ (List.mem_of_getElem? (i := 1) rfl))))))))) (fun _ h9 => h9) rfl (by decide +kernel) rfl rfl (Nat.le_of_ble_eq_true rfl) dX6_number_8 (fun H locs hP hD hS => ?_)
  have hP : va_P D vwCl [(h1, .inr (8, [x4, x5, x6, x7, x8, x9, x10, x11, x12, x13, .ref h14, x15, x16])), (h2, .inr (2, [x17, x18, x19, .int 0])), (h3, .inr (5, [x20, x21, .int 0])), (h14, .inr (5, [x22, x23, .int 0]))] H := hP
  have hD : va_D A [(h1, .inr (8, [x4, x5, x6, x7, x8, x9, x10, x11, x12, x13, .ref h14, x15, x16])), (h2, .inr (2, [x17, x18, x19, .int 0])), (h3, .inr (5, [x20, x21, .int 0])), (h14, .inr (5, [x22, x23, .int 0]))] := hD
  refine lv_aload_n hx hb dX6_number_11 rfl (lv_at hl 0 rfl) ?_
  refine lv_iconst (v := 1) hx hb dX6_number_12 (by decide) ?_
  refine va_put (D := D) (ci := 8) (v := .int 1) (ty := .int) (C := RX6) (T := TX6) (N := 13) hx hb hts (fun _ h => (List.mem_cons_of_mem _ (List.mem_append_left _ (List.mem_append_left _ (List.mem_append_left _ (List.mem_append_left _ (List.mem_append_right _ h))))))) tyX6 tyX6_ok nmX6 hown hK hP hD hS 0 rfl rfl 11 (by decide) (hts (.fieldLink RX6 53 "SelfishJunction$Survey" "count" "I") (List.mem_cons_of_mem _ (List.mem_append_left _ (List.mem_append_left _ (List.mem_append_left _ (List.mem_append_left _ (List.mem_append_left _ (List.mem_append_left _ (List.mem_of_getElem? (i := 2) rfl))))))))) (fun _ h9 => h9) rfl (by decide +kernel) rfl rfl (Nat.le_of_ble_eq_true rfl) dX6_number_13 (fun H locs hP hD hS => ?_)
  have hP : va_P D vwCl [(h1, .inr (8, [x4, x5, x6, x7, x8, x9, x10, x11, x12, x13, .ref h14, .int 1, x16])), (h2, .inr (2, [x17, x18, x19, .int 0])), (h3, .inr (5, [x20, x21, .int 0])), (h14, .inr (5, [x22, x23, .int 0]))] H := hP
  have hD : va_D A [(h1, .inr (8, [x4, x5, x6, x7, x8, x9, x10, x11, x12, x13, .ref h14, .int 1, x16])), (h2, .inr (2, [x17, x18, x19, .int 0])), (h3, .inr (5, [x20, x21, .int 0])), (h14, .inr (5, [x22, x23, .int 0]))] := hD
  refine lv_aload_n hx hb dX6_number_16 rfl (lv_at hl 1 rfl) ?_
  refine va_get (D := D) (ci := 2) (v := .int 0) (C := RX0) (T := TX0) (N := 4) hx hb hts (fun _ h => (List.mem_cons_of_mem _ (List.mem_append_left _ (List.mem_append_left _ (List.mem_append_right _ h))))) hown hK hP 1 rfl rfl 3 (by decide) (hts (.fieldLink RX6 56 "SelfishJunction$Board" "playerCount" "I") (List.mem_cons_of_mem _ (List.mem_append_left _ (List.mem_append_left _ (List.mem_append_left _ (List.mem_append_left _ (List.mem_append_left _ (List.mem_append_left _ (List.mem_of_getElem? (i := 3) rfl))))))))) (fun _ h9 => h9) rfl dX6_number_17 ?_
  refine lv_iconst (v := 1) hx hb dX6_number_20 (by decide) ?_
  refine lv_isub hx hb dX6_number_21 ?_
  refine lv_topi (fun v_1 ev_1 => ?_)
  obtain rfl : v_1 = (-1) := ev_1.trans (by decide)
  refine lv_istore_n (lv' := [(3, .int (-1)), (0, .ref h1), (1, .ref h2), (2, .ref h3)]) hx hb dX6_number_22 rfl hl (by decide) rfl (fun ls hl => ?_)
  refine lv_iload_n hx hb dX6_number_23 rfl (lv_at hl 0 rfl) ?_
  refine lv_if_lt (tgt := 129) hx hb dX6_number_24 (by decide) (fun _ => ?_) (fun h => absurd (by decide) h)
  refine W.widen (k := 0) (n := 0) (Nat.le_of_ble_eq_true rfl) (Nat.le_of_ble_eq_true rfl) ?_
  have hP9 := hP.sub (ws' := [(h1, .inr (8, [x4, x5, x6, x7, x8, x9, x10, x11, x12, x13, .ref h14, .int 1, x16])), (h2, .inr (2, [x17, x18, x19, .int 0])), (h3, .inr (5, [x20, x21, .int 0])), (h14, .inr (5, [x22, x23, .int 0]))]) [0, 1, 2, 3] rfl
  have hD9 := hD.sub (ws' := [(h1, .inr (8, [x4, x5, x6, x7, x8, x9, x10, x11, x12, x13, .ref h14, .int 1, x16])), (h2, .inr (2, [x17, x18, x19, .int 0])), (h3, .inr (5, [x20, x21, .int 0])), (h14, .inr (5, [x22, x23, .int 0]))]) [0, 1, 2, 3] (by decide) rfl
  exact W.vret hx hb hr (fun t ht hW => ⟨⟨(), rfl, trivial, ⟨by rw [ht]; exact hP9, hD9⟩⟩, hS.F ht⟩) hS.2.2 dX6_number_129
theorem dX7_countPlays_0 : decode cX7_countPlays 0 = .ok (.aload_n 0, 1) := by decide +kernel
theorem dX7_countPlays_1 : decode cX7_countPlays 1 = .ok (.getfield 29, 3) := by decide +kernel
theorem dX7_countPlays_4 : decode cX7_countPlays 4 = .ok (.aload_n 0, 1) := by decide +kernel
theorem dX7_countPlays_5 : decode cX7_countPlays 5 = .ok (.getfield 10, 3) := by decide +kernel
theorem dX7_countPlays_8 : decode cX7_countPlays 8 = .ok (.aload_n 0, 1) := by decide +kernel
theorem dX7_countPlays_9 : decode cX7_countPlays 9 = .ok (.getfield 19, 3) := by decide +kernel
theorem dX7_countPlays_12 : decode cX7_countPlays 12 = .ok (.invokevirtual 257, 3) := by decide +kernel
set_option maxRecDepth 20000 in
theorem ggX7_countPlays_X6_number : GoodIn wsX7_countPlays wsX6_number := goodIn_ca (goodIn_r _ [9, 10, 11, 12, 13, 14, 15, 16, 17, 18, 19, 20, 21, 22, 23, 24, 25, 26, 27, 28, 29, 30, 31, 32, 33, 34, 35, 36, 37, 38, 39, 40, 41, 8, 42, 43, 44, 52, 53, 54, 55, 56, 57, 58, 59, 60, 61, 62, 63, 64, 65, 66, 67, 68, 69, 70, 71, 72, 73, 74, 75, 76, 77] (by decide +kernel) (by decide +kernel)) (goodIn_sub (fun _ h => List.mem_cons_of_mem _ (List.mem_append_right _ h)) (by decide +kernel))
set_option maxRecDepth 20000 in
theorem gX7_countPlays_X6_number : GoodIn wsX7_countPlays (wsV RX7 257 RX6 yX6_number wsX6_number) := goodIn_app (goodIn_of _ (by decide +kernel)) ggX7_countPlays_X6_number
theorem dX7_countPlays_15 : decode cX7_countPlays 15 = .ok (.aload_n 0, 1) := by decide +kernel
theorem dX7_countPlays_16 : decode cX7_countPlays 16 = .ok (.getfield 29, 3) := by decide +kernel
theorem dX7_countPlays_19 : decode cX7_countPlays 19 = .ok (.getfield 261, 3) := by decide +kernel
theorem dX7_countPlays_22 : decode cX7_countPlays 22 = .ok (.ireturn, 1) := by decide +kernel
set_option maxHeartbeats 4000000 in
set_option maxRecDepth 100000 in
theorem k_X7_countPlays (l : Launch) (D : va_G) (cy : Nat → ClassId) (h1 : Nat) (h2 : Nat) (h3 : Nat) (x4 : Value) (h5 : Nat) (x6 : Value) (x7 : Value) (x8 : Value) (x9 : Value) (x10 : Value) (x11 : Value) (x12 : Value) (x13 : Value) (x14 : Value) (x15 : Value) (x16 : Value) (x17 : Value) (x18 : Value) (x19 : Value) (x20 : Value) (x21 : Value) (x22 : Value) (x23 : Value) (h24 : Nat) (x25 : Value) (x26 : Value) (x27 : Value) (x28 : Value) (sz : Nat) : Met l yX7_countPlays wsX7_countPlays ({ frames := 1, cells := 0, slots := 0, locals := 24 }) (kW D cy [.ref h1] [(h1, .inr (9, [.ref h2, .ref h3, x4, .ref h5, x6, x7, x8])), (h2, .inr (2, [x9, x10, x11, .int 0])), (h3, .inr (5, [x12, x13, .int 0])), (h5, .inr (8, [x14, x15, x16, x17, x18, x19, x20, x21, x22, x23, .ref h24, .int 0, x25])), (h24, .inr (5, [x26, x27, x28]))] sz) (va_Qi (fun (r : Int32) (_ : Unit) => r = 1 ∧ True) (fun (_ : Unit) (t : State) => va_P D vwCl [(h1, .inr (9, [.ref h2, .ref h3, x4, .ref h5, x6, x7, x8])), (h2, .inr (2, [x9, x10, x11, .int 0])), (h3, .inr (5, [x12, x13, .int 0])), (h5, .inr (8, [x14, x15, x16, x17, x18, x19, x20, x21, x22, x23, .ref h24, .int 1, x25])), (h24, .inr (5, [x26, x27, .int 0]))] t.heap ∧ va_D (va_A [(h1, .inr (9, [.ref h2, .ref h3, x4, .ref h5, x6, x7, x8])), (h2, .inr (2, [x9, x10, x11, .int 0])), (h3, .inr (5, [x12, x13, .int 0])), (h5, .inr (8, [x14, x15, x16, x17, x18, x19, x20, x21, x22, x23, .ref h24, .int 0, x25])), (h24, .inr (5, [x26, x27, x28]))] sz) [(h1, .inr (9, [.ref h2, .ref h3, x4, .ref h5, x6, x7, x8])), (h2, .inr (2, [x9, x10, x11, .int 0])), (h3, .inr (5, [x12, x13, .int 0])), (h5, .inr (8, [x14, x15, x16, x17, x18, x19, x20, x21, x22, x23, .ref h24, .int 1, x25])), (h24, .inr (5, [x26, x27, .int 0]))]) (va_A [(h1, .inr (9, [.ref h2, .ref h3, x4, .ref h5, x6, x7, x8])), (h2, .inr (2, [x9, x10, x11, .int 0])), (h3, .inr (5, [x12, x13, .int 0])), (h5, .inr (8, [x14, x15, x16, x17, x18, x19, x20, x21, x22, x23, .ref h24, .int 0, x25])), (h24, .inr (5, [x26, x27, x28]))] sz)) 0 0 (va_A [(h1, .inr (9, [.ref h2, .ref h3, x4, .ref h5, x6, x7, x8])), (h2, .inr (2, [x9, x10, x11, .int 0])), (h3, .inr (5, [x12, x13, .int 0])), (h5, .inr (8, [x14, x15, x16, x17, x18, x19, x20, x21, x22, x23, .ref h24, .int 0, x25])), (h24, .inr (5, [x26, x27, x28]))] sz) := by
  refine Met.ofW (cc := cX7_countPlays) (maxL := 1) (ret := (some .int)) (by decide) rfl ?_
  intro p e s m args below meth c s₁ B hml hv
  obtain ⟨rfl, hsz, hP, hK, hD0⟩ := hv
  have hx := B.exec
  have hb := B.bytes
  have hr := B.returns
  have hts := atoms_spec (ws := wsX7_countPlays) B.pre
  have hown : s.vm.findClass RX7 = some m.cls := findClass_of_methodNamed B.named
  have hlocks := B.notSynchronized
  subst hsz
  have hD := hD0.self (sz := s.heap.size)
  generalize hAe : va_A [(h1, .inr (9, [.ref h2, .ref h3, x4, .ref h5, x6, x7, x8])), (h2, .inr (2, [x9, x10, x11, .int 0])), (h3, .inr (5, [x12, x13, .int 0])), (h5, .inr (8, [x14, x15, x16, x17, x18, x19, x20, x21, x22, x23, .ref h24, .int 0, x25])), (h24, .inr (5, [x26, x27, x28]))] s.heap.size = A at hD ⊢
  have hA : ∀ q : Nat, s.heap.size ≤ q → A q := fun q h => by rw [← hAe]; exact Or.inr h
  have hS : va_S A s.heap s.heap [] := va_S.rf
  have hP : va_P D vwCl [(h1, .inr (9, [.ref h2, .ref h3, x4, .ref h5, x6, x7, x8])), (h2, .inr (2, [x9, x10, x11, .int 0])), (h3, .inr (5, [x12, x13, .int 0])), (h5, .inr (8, [x14, x15, x16, x17, x18, x19, x20, x21, x22, x23, .ref h24, .int 0, x25])), (h24, .inr (5, [x26, x27, x28]))] s.heap := hP
  have hl := lv_entry ([.ref h1]) (n := 1) (Nat.le_of_ble_eq_true rfl)
  rw [lg_entry_eq]
  generalize (lg_sl ([.ref h1]) ++ List.replicate (1 - (lg_sl ([.ref h1])).length) Slot.unset).toArray = ls at hl ⊢
  have hl : lv_has ls 1 [(0, .ref h1)] := hl
  refine lv_aload_n hx hb dX7_countPlays_0 rfl (lv_at hl 0 rfl) ?_
  refine va_get (D := D) (ci := 9) (v := .ref h5) (C := RX7) (T := TX7) (N := 7) hx hb hts (fun _ h => (List.mem_cons_of_mem _ (List.mem_append_left _ (List.mem_append_left _ (List.mem_append_left _ (List.mem_append_left _ (List.mem_append_left _ (List.mem_append_right _ h)))))))) hown hK hP 0 rfl rfl 3 (by decide) (hts (.fieldLink RX7 29 "SelfishJunction" "survey" "LSelfishJunction$Survey;") (List.mem_cons_of_mem _ (List.mem_append_left _ (List.mem_append_left _ (List.mem_append_left _ (List.mem_append_left _ (List.mem_append_left _ (List.mem_append_left _ (List.mem_append_left _ (List.mem_of_getElem? (i := 0) rfl)))))))))) (fun _ h9 => h9) rfl dX7_countPlays_1 ?_
  refine lv_aload_n hx hb dX7_countPlays_4 rfl (lv_at hl 0 rfl) ?_
  refine va_get (D := D) (ci := 9) (v := .ref h2) (C := RX7) (T := TX7) (N := 7) hx hb hts (fun _ h => (List.mem_cons_of_mem _ (List.mem_append_left _ (List.mem_append_left _ (List.mem_append_left _ (List.mem_append_left _ (List.mem_append_left _ (List.mem_append_right _ h)))))))) hown hK hP 0 rfl rfl 0 (by decide) (hts (.fieldLink RX7 10 "SelfishJunction" "board" "LSelfishJunction$Board;") (List.mem_cons_of_mem _ (List.mem_append_left _ (List.mem_append_left _ (List.mem_append_left _ (List.mem_append_left _ (List.mem_append_left _ (List.mem_append_left _ (List.mem_append_left _ (List.mem_of_getElem? (i := 1) rfl)))))))))) (fun _ h9 => h9) rfl dX7_countPlays_5 ?_
  refine lv_aload_n hx hb dX7_countPlays_8 rfl (lv_at hl 0 rfl) ?_
  refine va_get (D := D) (ci := 9) (v := .ref h3) (C := RX7) (T := TX7) (N := 7) hx hb hts (fun _ h => (List.mem_cons_of_mem _ (List.mem_append_left _ (List.mem_append_left _ (List.mem_append_left _ (List.mem_append_left _ (List.mem_append_left _ (List.mem_append_right _ h)))))))) hown hK hP 0 rfl rfl 1 (by decide) (hts (.fieldLink RX7 19 "SelfishJunction" "now" "LSelfishJunction$Play;") (List.mem_cons_of_mem _ (List.mem_append_left _ (List.mem_append_left _ (List.mem_append_left _ (List.mem_append_left _ (List.mem_append_left _ (List.mem_append_left _ (List.mem_append_left _ (List.mem_of_getElem? (i := 2) rfl)))))))))) (fun _ h9 => h9) rfl dX7_countPlays_9 ?_
  have hPc := hP.sub (ws' := [(h5, .inr (8, [x14, x15, x16, x17, x18, x19, x20, x21, x22, x23, .ref h24, .int 0, x25])), (h2, .inr (2, [x9, x10, x11, .int 0])), (h3, .inr (5, [x12, x13, .int 0])), (h24, .inr (5, [x26, x27, x28]))]) [3, 1, 2, 4] rfl
  have hDc := hD.sub (ws' := [(h5, .inr (8, [x14, x15, x16, x17, x18, x19, x20, x21, x22, x23, .ref h24, .int 0, x25])), (h2, .inr (2, [x9, x10, x11, .int 0])), (h3, .inr (5, [x12, x13, .int 0])), (h24, .inr (5, [x26, x27, x28]))]) [3, 1, 2, 4] (by decide) rfl
  have hFc := va_free (wc := [(h5, .inr (8, [x14, x15, x16, x17, x18, x19, x20, x21, x22, x23, .ref h24, .int 0, x25])), (h2, .inr (2, [x9, x10, x11, .int 0])), (h3, .inr (5, [x12, x13, .int 0])), (h24, .inr (5, [x26, x27, x28]))]) hD hS hA [3, 1, 2, 4] rfl
  refine va_callv (va_runV (As := [.ref h2, .ref h3]) (rest := []) ⟨hx, hb, hml, hown, hts⟩ (k_X6_number l D cy h5 h2 h3 (x14) (x15) (x16) (x17) (x18) (x19) (x20) (x21) (x22) (x23) h24 (.int 0) (x25) (x9) (x10) (x11) (x12) (x13) (x26) (x27) (x28) s.heap.size) (cwV 2 hts gX7_countPlays_X6_number rfl rfl rfl (by decide +kernel) ⟨(Nat.le_of_ble_eq_true rfl), (Nat.le_of_ble_eq_true rfl)⟩) ⟨kW_fb, va_recv hK hP (ci := 8) (q0 := 3) rfl rfl, (kW_go hPc hK hDc)⟩ rfl rfl hl.1 rfl (lv_room (Nat.le_of_ble_eq_true rfl)) dX7_countPlays_12 ⟨(Nat.le_of_ble_eq_true rfl), (Nat.le_of_ble_eq_true rfl)⟩) hS (fun q _ h => hFc q h) hFc (fun u t H locs ht hvm hw hB hz1 hk1 hS => ?_)
  obtain ⟨hP1, hD1⟩ := hB
  rw [ht] at hP1
  try dsimp only at hw hP1 hD1
  obtain ⟨hP, hD⟩ := va_join (wr := [(h1, .inr (9, [.ref h2, .ref h3, x4, .ref h5, x6, x7, x8]))]) (w1 := [(h5, .inr (8, [x14, x15, x16, x17, x18, x19, x20, x21, x22, x23, .ref h24, .int 1, x25])), (h2, .inr (2, [x9, x10, x11, .int 0])), (h3, .inr (5, [x12, x13, .int 0])), (h24, .inr (5, [x26, x27, .int 0]))]) hP hD [3, 1, 2, 4] [0] rfl rfl (by decide) (by decide) hk1 hFc hP1 hD1
  have hP : va_P D vwCl [(h1, .inr (9, [.ref h2, .ref h3, x4, .ref h5, x6, x7, x8])), (h5, .inr (8, [x14, x15, x16, x17, x18, x19, x20, x21, x22, x23, .ref h24, .int 1, x25])), (h2, .inr (2, [x9, x10, x11, .int 0])), (h3, .inr (5, [x12, x13, .int 0])), (h24, .inr (5, [x26, x27, .int 0]))] H := hP
  have hD : va_D A [(h1, .inr (9, [.ref h2, .ref h3, x4, .ref h5, x6, x7, x8])), (h5, .inr (8, [x14, x15, x16, x17, x18, x19, x20, x21, x22, x23, .ref h24, .int 1, x25])), (h2, .inr (2, [x9, x10, x11, .int 0])), (h3, .inr (5, [x12, x13, .int 0])), (h24, .inr (5, [x26, x27, .int 0]))] := hD
  refine lv_aload_n hx hb dX7_countPlays_15 rfl (lv_at hl 0 rfl) ?_
  refine va_get (D := D) (ci := 9) (v := .ref h5) (C := RX7) (T := TX7) (N := 7) hx hb hts (fun _ h => (List.mem_cons_of_mem _ (List.mem_append_left _ (List.mem_append_left _ (List.mem_append_left _ (List.mem_append_left _ (List.mem_append_left _ (List.mem_append_right _ h)))))))) hown hK hP 0 rfl rfl 3 (by decide) (hts (.fieldLink RX7 29 "SelfishJunction" "survey" "LSelfishJunction$Survey;") (List.mem_cons_of_mem _ (List.mem_append_left _ (List.mem_append_left _ (List.mem_append_left _ (List.mem_append_left _ (List.mem_append_left _ (List.mem_append_left _ (List.mem_append_left _ (List.mem_of_getElem? (i := 0) rfl)))))))))) (fun _ h9 => h9) rfl dX7_countPlays_16 ?_
  refine va_get (D := D) (ci := 8) (v := .int 1) (C := RX6) (T := TX6) (N := 13) hx hb hts (fun _ h => (List.mem_cons_of_mem _ (List.mem_append_left _ (List.mem_append_left _ (List.mem_append_left _ (List.mem_append_left _ (List.mem_append_right _ h))))))) hown hK hP 1 rfl rfl 11 (by decide) (hts (.fieldLink RX7 261 "SelfishJunction$Survey" "count" "I") (List.mem_cons_of_mem _ (List.mem_append_left _ (List.mem_append_left _ (List.mem_append_left _ (List.mem_append_left _ (List.mem_append_left _ (List.mem_append_left _ (List.mem_append_left _ (List.mem_of_getElem? (i := 3) rfl)))))))))) (fun _ h9 => h9) rfl dX7_countPlays_19 ?_
  refine W.widen (k := 0) (n := 0) (Nat.le_of_ble_eq_true rfl) (Nat.le_of_ble_eq_true rfl) ?_
  have hP9 := hP.sub (ws' := [(h1, .inr (9, [.ref h2, .ref h3, x4, .ref h5, x6, x7, x8])), (h2, .inr (2, [x9, x10, x11, .int 0])), (h3, .inr (5, [x12, x13, .int 0])), (h5, .inr (8, [x14, x15, x16, x17, x18, x19, x20, x21, x22, x23, .ref h24, .int 1, x25])), (h24, .inr (5, [x26, x27, .int 0]))]) [0, 2, 3, 1, 4] rfl
  have hD9 := hD.sub (ws' := [(h1, .inr (9, [.ref h2, .ref h3, x4, .ref h5, x6, x7, x8])), (h2, .inr (2, [x9, x10, x11, .int 0])), (h3, .inr (5, [x12, x13, .int 0])), (h5, .inr (8, [x14, x15, x16, x17, x18, x19, x20, x21, x22, x23, .ref h24, .int 1, x25])), (h24, .inr (5, [x26, x27, .int 0]))]) [0, 2, 3, 1, 4] (by decide) rfl
  exact W.iret (v := 1) hx hb hr (fun t ht hW => ⟨⟨1, (), rfl, ⟨rfl, trivial⟩, ⟨by rw [ht]; exact hP9, hD9⟩⟩, hS.F ht⟩) hS.2.2 dX7_countPlays_22
theorem dX8_count_0 : decode cX8_count 0 = .ok (.iconst 1, 1) := by decide +kernel
theorem dX8_count_1 : decode cX8_count 1 = .ok (.istore_n 1, 1) := by decide +kernel
theorem dX8_count_2 : decode cX8_count 2 = .ok (.iconst 0, 1) := by decide +kernel
theorem dX8_count_3 : decode cX8_count 3 = .ok (.istore_n 2, 1) := by decide +kernel
theorem dX8_count_4 : decode cX8_count 4 = .ok (.iload_n 2, 1) := by decide +kernel
theorem dX8_count_5 : decode cX8_count 5 = .ok (.aload_n 0, 1) := by decide +kernel
theorem dX8_count_6 : decode cX8_count 6 = .ok (.getfield 85, 3) := by decide +kernel
theorem dX8_count_9 : decode cX8_count 9 = .ok (.if_icmp .ge 75, 3) := by decide +kernel
theorem dX8_count_84 : decode cX8_count 84 = .ok (.iload_n 1, 1) := by decide +kernel
theorem dX8_count_85 : decode cX8_count 85 = .ok (.ireturn, 1) := by decide +kernel
set_option maxHeartbeats 4000000 in
set_option maxRecDepth 100000 in
theorem k_X8_count (l : Launch) (D : va_G) (cy : Nat → ClassId) (h1 : Nat) (x2 : Value) (x3 : Value) (x4 : Value) (x5 : Value) (x6 : Value) (x7 : Value) (x8 : Value) (x9 : Value) (x10 : Value) (x11 : Value) (x12 : Value) (x13 : Value) (x14 : Value) (x15 : Value) (x16 : Value) (x17 : Value) (x18 : Value) : Met l yX8_count wsX8_count ({ frames := 0, cells := 0, slots := 0, locals := 0 }) (kR D cy [.ref h1] [(h1, .inr (10, [x2, x3, x4, x5, x6, x7, x8, x9, x10, x11, x12, x13, x14, x15, x16, .int 0, x17, x18]))]) (va_Qi (fun (r : Int32) (_ : Unit) => r = 1 ∧ True) (fun (_ : Unit) (_ : State) => True) (fun _ : Nat => False)) 0 0 (fun _ : Nat => False) := by
  refine Met.ofW (cc := cX8_count) (maxL := 5) (ret := (some .int)) (by decide) rfl ?_
  intro p e s m args below meth c s₁ B hml hv
  obtain ⟨rfl, hP, hK⟩ := hv
  have hx := B.exec
  have hb := B.bytes
  have hr := B.returns
  have hts := atoms_spec (ws := wsX8_count) B.pre
  have hown : s.vm.findClass RX8 = some m.cls := findClass_of_methodNamed B.named
  have hlocks := B.notSynchronized
  have hS : va_S (fun _ : Nat => False) s.heap s.heap [] := va_S.rf
  have hP : va_P D vwCl [(h1, .inr (10, [x2, x3, x4, x5, x6, x7, x8, x9, x10, x11, x12, x13, x14, x15, x16, .int 0, x17, x18]))] s.heap := hP
  have hl := lv_entry ([.ref h1]) (n := 5) (Nat.le_of_ble_eq_true rfl)
  rw [lg_entry_eq]
  generalize (lg_sl ([.ref h1]) ++ List.replicate (5 - (lg_sl ([.ref h1])).length) Slot.unset).toArray = ls at hl ⊢
  have hl : lv_has ls 5 [(0, .ref h1)] := hl
  refine lv_iconst (v := 1) hx hb dX8_count_0 (by decide) ?_
  refine lv_istore_n (lv' := [(1, .int 1), (0, .ref h1)]) hx hb dX8_count_1 rfl hl (by decide) rfl (fun ls hl => ?_)
  refine lv_iconst (v := 0) hx hb dX8_count_2 (by decide) ?_
  refine lv_istore_n (lv' := [(2, .int 0), (1, .int 1), (0, .ref h1)]) hx hb dX8_count_3 rfl hl (by decide) rfl (fun ls hl => ?_)
  refine lv_iload_n hx hb dX8_count_4 rfl (lv_at hl 0 rfl) ?_
  refine lv_aload_n hx hb dX8_count_5 rfl (lv_at hl 2 rfl) ?_
  refine va_get (D := D) (ci := 10) (v := .int 0) (C := RX8) (T := TX8) (N := 18) hx hb hts (fun _ h => (List.mem_cons_of_mem _ (List.mem_append_left _ (List.mem_append_right _ h)))) hown hK hP 0 rfl rfl 15 (by decide) (hts (.fieldLink RX8 85 "SelfishJunctionModel" "players" "I") (List.mem_cons_of_mem _ (List.mem_append_left _ (List.mem_append_left _ (List.mem_of_getElem? (i := 0) rfl))))) (fun _ h9 => h9) rfl dX8_count_6 ?_
  refine lv_icmp_ge (tgt := 84) hx hb dX8_count_9 (by decide) (fun _ => ?_) (fun h => absurd (by decide) h)
  refine lv_iload_n hx hb dX8_count_84 rfl (lv_at hl 1 rfl) ?_
  refine W.widen (k := 0) (n := 0) (Nat.le_of_ble_eq_true rfl) (Nat.le_of_ble_eq_true rfl) ?_
  exact W.iret (v := 1) hx hb hr (fun t ht hW => ⟨⟨1, (), rfl, ⟨rfl, trivial⟩, trivial⟩, hS.F ht⟩) hS.2.2 dX8_count_85
theorem dX8_countPlays_0 : decode cX8_countPlays 0 = .ok (.aload_n 0, 1) := by decide +kernel
theorem dX8_countPlays_1 : decode cX8_countPlays 1 = .ok (.iconst 0, 1) := by decide +kernel
theorem dX8_countPlays_2 : decode cX8_countPlays 2 = .ok (.putfield 59, 3) := by decide +kernel
theorem dX8_countPlays_5 : decode cX8_countPlays 5 = .ok (.aload_n 0, 1) := by decide +kernel
theorem dX8_countPlays_6 : decode cX8_countPlays 6 = .ok (.invokevirtual 237, 3) := by decide +kernel
set_option maxRecDepth 20000 in
theorem ggX8_countPlays_X8_count : GoodIn wsX8_countPlays wsX8_count := goodIn_ca (goodIn_r _ [6, 7, 8, 9, 10, 11, 12, 5, 13, 14, 15, 16, 17, 18, 19, 20, 21, 22, 23, 24, 25, 26, 27, 28, 29, 30, 31, 32, 33] (by decide +kernel) (by decide +kernel)) (goodIn_sub (fun _ h => List.mem_cons_of_mem _ (List.mem_append_right _ h)) (by decide +kernel))
set_option maxRecDepth 20000 in
theorem gX8_countPlays_X8_count : GoodIn wsX8_countPlays (wsV RX8 237 RX8 yX8_count wsX8_count) := goodIn_app (goodIn_of _ (by decide +kernel)) ggX8_countPlays_X8_count
theorem dX8_countPlays_9 : decode cX8_countPlays 9 = .ok (.ireturn, 1) := by decide +kernel
set_option maxHeartbeats 4000000 in
set_option maxRecDepth 100000 in
theorem k_X8_countPlays (l : Launch) (D : va_G) (cy : Nat → ClassId) (h1 : Nat) (x2 : Value) (x3 : Value) (x4 : Value) (x5 : Value) (x6 : Value) (x7 : Value) (x8 : Value) (x9 : Value) (x10 : Value) (x11 : Value) (x12 : Value) (x13 : Value) (x14 : Value) (x15 : Value) (x16 : Value) (x17 : Value) (x18 : Value) (sz : Nat) : Met l yX8_countPlays wsX8_countPlays ({ frames := 1, cells := 0, slots := 0, locals := 24 }) (kW D cy [.ref h1] [(h1, .inr (10, [x2, x3, x4, x5, x6, x7, x8, x9, x10, x11, x12, x13, x14, x15, x16, .int 0, x17, x18]))] sz) (va_Qi (fun (r : Int32) (_ : Unit) => r = 1 ∧ True) (fun (_ : Unit) (t : State) => va_P D vwCl [(h1, .inr (10, [x2, x3, x4, x5, x6, x7, x8, x9, x10, x11, x12, x13, x14, x15, x16, .int 0, x17, .int 0]))] t.heap ∧ va_D (va_A [(h1, .inr (10, [x2, x3, x4, x5, x6, x7, x8, x9, x10, x11, x12, x13, x14, x15, x16, .int 0, x17, x18]))] sz) [(h1, .inr (10, [x2, x3, x4, x5, x6, x7, x8, x9, x10, x11, x12, x13, x14, x15, x16, .int 0, x17, .int 0]))]) (va_A [(h1, .inr (10, [x2, x3, x4, x5, x6, x7, x8, x9, x10, x11, x12, x13, x14, x15, x16, .int 0, x17, x18]))] sz)) 0 0 (va_A [(h1, .inr (10, [x2, x3, x4, x5, x6, x7, x8, x9, x10, x11, x12, x13, x14, x15, x16, .int 0, x17, x18]))] sz) := by
  refine Met.ofW (cc := cX8_countPlays) (maxL := 1) (ret := (some .int)) (by decide) rfl ?_
  intro p e s m args below meth c s₁ B hml hv
  obtain ⟨rfl, hsz, hP, hK, hD0⟩ := hv
  have hx := B.exec
  have hb := B.bytes
  have hr := B.returns
  have hts := atoms_spec (ws := wsX8_countPlays) B.pre
  have hown : s.vm.findClass RX8 = some m.cls := findClass_of_methodNamed B.named
  have hlocks := B.notSynchronized
  subst hsz
  have hD := hD0.self (sz := s.heap.size)
  generalize hAe : va_A [(h1, .inr (10, [x2, x3, x4, x5, x6, x7, x8, x9, x10, x11, x12, x13, x14, x15, x16, .int 0, x17, x18]))] s.heap.size = A at hD ⊢
  have hA : ∀ q : Nat, s.heap.size ≤ q → A q := fun q h => by rw [← hAe]; exact Or.inr h
  have hS : va_S A s.heap s.heap [] := va_S.rf
  have hP : va_P D vwCl [(h1, .inr (10, [x2, x3, x4, x5, x6, x7, x8, x9, x10, x11, x12, x13, x14, x15, x16, .int 0, x17, x18]))] s.heap := hP
  have hl := lv_entry ([.ref h1]) (n := 1) (Nat.le_of_ble_eq_true rfl)
  rw [lg_entry_eq]
  generalize (lg_sl ([.ref h1]) ++ List.replicate (1 - (lg_sl ([.ref h1])).length) Slot.unset).toArray = ls at hl ⊢
  have hl : lv_has ls 1 [(0, .ref h1)] := hl
  refine lv_aload_n hx hb dX8_countPlays_0 rfl (lv_at hl 0 rfl) ?_
  refine lv_iconst (v := 0) hx hb dX8_countPlays_1 (by decide) ?_
  refine va_put (D := D) (ci := 10) (v := .int 0) (ty := .int) (C := RX8) (T := TX8) (N := 18) hx hb hts (fun _ h => (List.mem_cons_of_mem _ (List.mem_append_left _ (List.mem_append_right _ h)))) tyX8 tyX8_ok nmX8 hown hK hP hD hS 0 rfl rfl 17 (by decide) (hts (.fieldLink RX8 59 "SelfishJunctionModel" "thrown" "I") (List.mem_cons_of_mem _ (List.mem_append_left _ (List.mem_append_left _ (List.mem_of_getElem? (i := 0) rfl))))) (fun _ h9 => h9) rfl (by decide +kernel) rfl rfl (Nat.le_of_ble_eq_true rfl) dX8_countPlays_2 (fun H locs hP hD hS => ?_)
  have hP : va_P D vwCl [(h1, .inr (10, [x2, x3, x4, x5, x6, x7, x8, x9, x10, x11, x12, x13, x14, x15, x16, .int 0, x17, .int 0]))] H := hP
  have hD : va_D A [(h1, .inr (10, [x2, x3, x4, x5, x6, x7, x8, x9, x10, x11, x12, x13, x14, x15, x16, .int 0, x17, .int 0]))] := hD
  refine lv_aload_n hx hb dX8_countPlays_5 rfl (lv_at hl 0 rfl) ?_
  have hPc := hP.sub (ws' := [(h1, .inr (10, [x2, x3, x4, x5, x6, x7, x8, x9, x10, x11, x12, x13, x14, x15, x16, .int 0, x17, .int 0]))]) [0] rfl
  refine va_calli (va_runV (As := []) (rest := []) ⟨hx, hb, hml, hown, hts⟩ (k_X8_count l D cy h1 (x2) (x3) (x4) (x5) (x6) (x7) (x8) (x9) (x10) (x11) (x12) (x13) (x14) (x15) (x16) (x17) (.int 0)) (cwV 0 hts gX8_countPlays_X8_count rfl rfl rfl (by decide +kernel) ⟨(Nat.le_of_ble_eq_true rfl), (Nat.le_of_ble_eq_true rfl)⟩) ⟨kR_fb, va_recv hK hP (ci := 10) (q0 := 0) rfl rfl, (kR_go hPc hK)⟩ rfl rfl hl.1 rfl (lv_room (Nat.le_of_ble_eq_true rfl)) dX8_countPlays_6 ⟨(Nat.le_of_ble_eq_true rfl), (Nat.le_of_ble_eq_true rfl)⟩) hS (fun _ _ h => h.elim) (fun _ h => h.elim) (fun r9 u t H locs ht hvm hw hB hz1 hk1 hS => ?_)
  have hP := kx_kept hP hk1
  obtain ⟨rfl, hw⟩ := hw
  refine W.widen (k := 0) (n := 0) (Nat.le_of_ble_eq_true rfl) (Nat.le_of_ble_eq_true rfl) ?_
  have hP9 := hP.sub (ws' := [(h1, .inr (10, [x2, x3, x4, x5, x6, x7, x8, x9, x10, x11, x12, x13, x14, x15, x16, .int 0, x17, .int 0]))]) [0] rfl
  have hD9 := hD.sub (ws' := [(h1, .inr (10, [x2, x3, x4, x5, x6, x7, x8, x9, x10, x11, x12, x13, x14, x15, x16, .int 0, x17, .int 0]))]) [0] (by decide) rfl
  exact W.iret (v := 1) hx hb hr (fun t ht hW => ⟨⟨1, (), rfl, ⟨rfl, trivial⟩, ⟨by rw [ht]; exact hP9, hD9⟩⟩, hS.F ht⟩) hS.2.2 dX8_countPlays_9
theorem dX7_numberPlays_0 : decode cX7_numberPlays 0 = .ok (.aload_n 0, 1) := by decide +kernel
theorem dX7_numberPlays_1 : decode cX7_numberPlays 1 = .ok (.getfield 29, 3) := by decide +kernel
theorem dX7_numberPlays_4 : decode cX7_numberPlays 4 = .ok (.aload_n 0, 1) := by decide +kernel
theorem dX7_numberPlays_5 : decode cX7_numberPlays 5 = .ok (.getfield 10, 3) := by decide +kernel
theorem dX7_numberPlays_8 : decode cX7_numberPlays 8 = .ok (.aload_n 0, 1) := by decide +kernel
theorem dX7_numberPlays_9 : decode cX7_numberPlays 9 = .ok (.getfield 19, 3) := by decide +kernel
theorem dX7_numberPlays_12 : decode cX7_numberPlays 12 = .ok (.invokevirtual 257, 3) := by decide +kernel
set_option maxRecDepth 20000 in
theorem ggX7_numberPlays_X6_number : GoodIn wsX7_numberPlays wsX6_number := goodIn_ca (goodIn_r _ [11, 12, 13, 14, 15, 16, 17, 18, 19, 20, 21, 22, 23, 24, 25, 26, 27, 28, 29, 30, 31, 32, 33, 34, 35, 36, 37, 38, 39, 40, 41, 42, 43, 10, 44, 45, 46, 54, 55, 56, 57, 58, 59, 60, 61, 62, 63, 64, 65, 66, 67, 68, 69, 70, 71, 72, 73, 74, 75, 76, 77, 78, 79] (by decide +kernel) (by decide +kernel)) (goodIn_sub (fun _ h => List.mem_cons_of_mem _ (List.mem_append_right _ h)) (by decide +kernel))
set_option maxRecDepth 20000 in
theorem gX7_numberPlays_X6_number : GoodIn wsX7_numberPlays (wsV RX7 257 RX6 yX6_number wsX6_number) := goodIn_app (goodIn_of _ (by decide +kernel)) ggX7_numberPlays_X6_number
theorem dX7_numberPlays_15 : decode cX7_numberPlays 15 = .ok (.aload_n 0, 1) := by decide +kernel
theorem dX7_numberPlays_16 : decode cX7_numberPlays 16 = .ok (.getfield 29, 3) := by decide +kernel
theorem dX7_numberPlays_19 : decode cX7_numberPlays 19 = .ok (.getfield 261, 3) := by decide +kernel
theorem dX7_numberPlays_22 : decode cX7_numberPlays 22 = .ok (.sipush 1000, 3) := by decide +kernel
theorem dX7_numberPlays_25 : decode cX7_numberPlays 25 = .ok (.if_icmp .le 14, 3) := by decide +kernel
theorem dX7_numberPlays_39 : decode cX7_numberPlays 39 = .ok (.return_, 1) := by decide +kernel
set_option maxHeartbeats 4000000 in
set_option maxRecDepth 100000 in
theorem k_X7_numberPlays (l : Launch) (D : va_G) (cy : Nat → ClassId) (h1 : Nat) (h2 : Nat) (h3 : Nat) (x4 : Value) (h5 : Nat) (x6 : Value) (x7 : Value) (x8 : Value) (x9 : Value) (x10 : Value) (x11 : Value) (x12 : Value) (x13 : Value) (x14 : Value) (x15 : Value) (x16 : Value) (x17 : Value) (x18 : Value) (x19 : Value) (x20 : Value) (x21 : Value) (x22 : Value) (x23 : Value) (h24 : Nat) (x25 : Value) (x26 : Value) (x27 : Value) (x28 : Value) (sz : Nat) : Met l yX7_numberPlays wsX7_numberPlays ({ frames := 1, cells := 0, slots := 0, locals := 24 }) (kW D cy [.ref h1] [(h1, .inr (9, [.ref h2, .ref h3, x4, .ref h5, x6, x7, x8])), (h2, .inr (2, [x9, x10, x11, .int 0])), (h3, .inr (5, [x12, x13, .int 0])), (h5, .inr (8, [x14, x15, x16, x17, x18, x19, x20, x21, x22, x23, .ref h24, .int 0, x25])), (h24, .inr (5, [x26, x27, x28]))] sz) (va_Qv (fun (_ : Unit) => True) (fun (_ : Unit) (t : State) => va_P D vwCl [(h1, .inr (9, [.ref h2, .ref h3, x4, .ref h5, x6, x7, x8])), (h2, .inr (2, [x9, x10, x11, .int 0])), (h3, .inr (5, [x12, x13, .int 0])), (h5, .inr (8, [x14, x15, x16, x17, x18, x19, x20, x21, x22, x23, .ref h24, .int 1, x25])), (h24, .inr (5, [x26, x27, .int 0]))] t.heap ∧ va_D (va_A [(h1, .inr (9, [.ref h2, .ref h3, x4, .ref h5, x6, x7, x8])), (h2, .inr (2, [x9, x10, x11, .int 0])), (h3, .inr (5, [x12, x13, .int 0])), (h5, .inr (8, [x14, x15, x16, x17, x18, x19, x20, x21, x22, x23, .ref h24, .int 0, x25])), (h24, .inr (5, [x26, x27, x28]))] sz) [(h1, .inr (9, [.ref h2, .ref h3, x4, .ref h5, x6, x7, x8])), (h2, .inr (2, [x9, x10, x11, .int 0])), (h3, .inr (5, [x12, x13, .int 0])), (h5, .inr (8, [x14, x15, x16, x17, x18, x19, x20, x21, x22, x23, .ref h24, .int 1, x25])), (h24, .inr (5, [x26, x27, .int 0]))]) (va_A [(h1, .inr (9, [.ref h2, .ref h3, x4, .ref h5, x6, x7, x8])), (h2, .inr (2, [x9, x10, x11, .int 0])), (h3, .inr (5, [x12, x13, .int 0])), (h5, .inr (8, [x14, x15, x16, x17, x18, x19, x20, x21, x22, x23, .ref h24, .int 0, x25])), (h24, .inr (5, [x26, x27, x28]))] sz)) 0 0 (va_A [(h1, .inr (9, [.ref h2, .ref h3, x4, .ref h5, x6, x7, x8])), (h2, .inr (2, [x9, x10, x11, .int 0])), (h3, .inr (5, [x12, x13, .int 0])), (h5, .inr (8, [x14, x15, x16, x17, x18, x19, x20, x21, x22, x23, .ref h24, .int 0, x25])), (h24, .inr (5, [x26, x27, x28]))] sz) := by
  refine Met.ofW (cc := cX7_numberPlays) (maxL := 1) (ret := none) (by decide) rfl ?_
  intro p e s m args below meth c s₁ B hml hv
  obtain ⟨rfl, hsz, hP, hK, hD0⟩ := hv
  have hx := B.exec
  have hb := B.bytes
  have hr := B.returns
  have hts := atoms_spec (ws := wsX7_numberPlays) B.pre
  have hown : s.vm.findClass RX7 = some m.cls := findClass_of_methodNamed B.named
  have hlocks := B.notSynchronized
  subst hsz
  have hD := hD0.self (sz := s.heap.size)
  generalize hAe : va_A [(h1, .inr (9, [.ref h2, .ref h3, x4, .ref h5, x6, x7, x8])), (h2, .inr (2, [x9, x10, x11, .int 0])), (h3, .inr (5, [x12, x13, .int 0])), (h5, .inr (8, [x14, x15, x16, x17, x18, x19, x20, x21, x22, x23, .ref h24, .int 0, x25])), (h24, .inr (5, [x26, x27, x28]))] s.heap.size = A at hD ⊢
  have hA : ∀ q : Nat, s.heap.size ≤ q → A q := fun q h => by rw [← hAe]; exact Or.inr h
  have hS : va_S A s.heap s.heap [] := va_S.rf
  have hP : va_P D vwCl [(h1, .inr (9, [.ref h2, .ref h3, x4, .ref h5, x6, x7, x8])), (h2, .inr (2, [x9, x10, x11, .int 0])), (h3, .inr (5, [x12, x13, .int 0])), (h5, .inr (8, [x14, x15, x16, x17, x18, x19, x20, x21, x22, x23, .ref h24, .int 0, x25])), (h24, .inr (5, [x26, x27, x28]))] s.heap := hP
  have hl := lv_entry ([.ref h1]) (n := 1) (Nat.le_of_ble_eq_true rfl)
  rw [lg_entry_eq]
  generalize (lg_sl ([.ref h1]) ++ List.replicate (1 - (lg_sl ([.ref h1])).length) Slot.unset).toArray = ls at hl ⊢
  have hl : lv_has ls 1 [(0, .ref h1)] := hl
  refine lv_aload_n hx hb dX7_numberPlays_0 rfl (lv_at hl 0 rfl) ?_
  refine va_get (D := D) (ci := 9) (v := .ref h5) (C := RX7) (T := TX7) (N := 7) hx hb hts (fun _ h => (List.mem_cons_of_mem _ (List.mem_append_left _ (List.mem_append_left _ (List.mem_append_left _ (List.mem_append_left _ (List.mem_append_left _ (List.mem_append_left _ (List.mem_append_right _ h))))))))) hown hK hP 0 rfl rfl 3 (by decide) (hts (.fieldLink RX7 29 "SelfishJunction" "survey" "LSelfishJunction$Survey;") (List.mem_cons_of_mem _ (List.mem_append_left _ (List.mem_append_left _ (List.mem_append_left _ (List.mem_append_left _ (List.mem_append_left _ (List.mem_append_left _ (List.mem_append_left _ (List.mem_append_left _ (List.mem_of_getElem? (i := 2) rfl))))))))))) (fun _ h9 => h9) rfl dX7_numberPlays_1 ?_
  refine lv_aload_n hx hb dX7_numberPlays_4 rfl (lv_at hl 0 rfl) ?_
  refine va_get (D := D) (ci := 9) (v := .ref h2) (C := RX7) (T := TX7) (N := 7) hx hb hts (fun _ h => (List.mem_cons_of_mem _ (List.mem_append_left _ (List.mem_append_left _ (List.mem_append_left _ (List.mem_append_left _ (List.mem_append_left _ (List.mem_append_left _ (List.mem_append_right _ h))))))))) hown hK hP 0 rfl rfl 0 (by decide) (hts (.fieldLink RX7 10 "SelfishJunction" "board" "LSelfishJunction$Board;") (List.mem_cons_of_mem _ (List.mem_append_left _ (List.mem_append_left _ (List.mem_append_left _ (List.mem_append_left _ (List.mem_append_left _ (List.mem_append_left _ (List.mem_append_left _ (List.mem_append_left _ (List.mem_of_getElem? (i := 3) rfl))))))))))) (fun _ h9 => h9) rfl dX7_numberPlays_5 ?_
  refine lv_aload_n hx hb dX7_numberPlays_8 rfl (lv_at hl 0 rfl) ?_
  refine va_get (D := D) (ci := 9) (v := .ref h3) (C := RX7) (T := TX7) (N := 7) hx hb hts (fun _ h => (List.mem_cons_of_mem _ (List.mem_append_left _ (List.mem_append_left _ (List.mem_append_left _ (List.mem_append_left _ (List.mem_append_left _ (List.mem_append_left _ (List.mem_append_right _ h))))))))) hown hK hP 0 rfl rfl 1 (by decide) (hts (.fieldLink RX7 19 "SelfishJunction" "now" "LSelfishJunction$Play;") (List.mem_cons_of_mem _ (List.mem_append_left _ (List.mem_append_left _ (List.mem_append_left _ (List.mem_append_left _ (List.mem_append_left _ (List.mem_append_left _ (List.mem_append_left _ (List.mem_append_left _ (List.mem_of_getElem? (i := 4) rfl))))))))))) (fun _ h9 => h9) rfl dX7_numberPlays_9 ?_
  have hPc := hP.sub (ws' := [(h5, .inr (8, [x14, x15, x16, x17, x18, x19, x20, x21, x22, x23, .ref h24, .int 0, x25])), (h2, .inr (2, [x9, x10, x11, .int 0])), (h3, .inr (5, [x12, x13, .int 0])), (h24, .inr (5, [x26, x27, x28]))]) [3, 1, 2, 4] rfl
  have hDc := hD.sub (ws' := [(h5, .inr (8, [x14, x15, x16, x17, x18, x19, x20, x21, x22, x23, .ref h24, .int 0, x25])), (h2, .inr (2, [x9, x10, x11, .int 0])), (h3, .inr (5, [x12, x13, .int 0])), (h24, .inr (5, [x26, x27, x28]))]) [3, 1, 2, 4] (by decide) rfl
  have hFc := va_free (wc := [(h5, .inr (8, [x14, x15, x16, x17, x18, x19, x20, x21, x22, x23, .ref h24, .int 0, x25])), (h2, .inr (2, [x9, x10, x11, .int 0])), (h3, .inr (5, [x12, x13, .int 0])), (h24, .inr (5, [x26, x27, x28]))]) hD hS hA [3, 1, 2, 4] rfl
  refine va_callv (va_runV (As := [.ref h2, .ref h3]) (rest := []) ⟨hx, hb, hml, hown, hts⟩ (k_X6_number l D cy h5 h2 h3 (x14) (x15) (x16) (x17) (x18) (x19) (x20) (x21) (x22) (x23) h24 (.int 0) (x25) (x9) (x10) (x11) (x12) (x13) (x26) (x27) (x28) s.heap.size) (cwV 2 hts gX7_numberPlays_X6_number rfl rfl rfl (by decide +kernel) ⟨(Nat.le_of_ble_eq_true rfl), (Nat.le_of_ble_eq_true rfl)⟩) ⟨kW_fb, va_recv hK hP (ci := 8) (q0 := 3) rfl rfl, (kW_go hPc hK hDc)⟩ rfl rfl hl.1 rfl (lv_room (Nat.le_of_ble_eq_true rfl)) dX7_numberPlays_12 ⟨(Nat.le_of_ble_eq_true rfl), (Nat.le_of_ble_eq_true rfl)⟩) hS (fun q _ h => hFc q h) hFc (fun u t H locs ht hvm hw hB hz1 hk1 hS => ?_)
  obtain ⟨hP1, hD1⟩ := hB
  rw [ht] at hP1
  try dsimp only at hw hP1 hD1
  obtain ⟨hP, hD⟩ := va_join (wr := [(h1, .inr (9, [.ref h2, .ref h3, x4, .ref h5, x6, x7, x8]))]) (w1 := [(h5, .inr (8, [x14, x15, x16, x17, x18, x19, x20, x21, x22, x23, .ref h24, .int 1, x25])), (h2, .inr (2, [x9, x10, x11, .int 0])), (h3, .inr (5, [x12, x13, .int 0])), (h24, .inr (5, [x26, x27, .int 0]))]) hP hD [3, 1, 2, 4] [0] rfl rfl (by decide) (by decide) hk1 hFc hP1 hD1
  have hP : va_P D vwCl [(h1, .inr (9, [.ref h2, .ref h3, x4, .ref h5, x6, x7, x8])), (h5, .inr (8, [x14, x15, x16, x17, x18, x19, x20, x21, x22, x23, .ref h24, .int 1, x25])), (h2, .inr (2, [x9, x10, x11, .int 0])), (h3, .inr (5, [x12, x13, .int 0])), (h24, .inr (5, [x26, x27, .int 0]))] H := hP
  have hD : va_D A [(h1, .inr (9, [.ref h2, .ref h3, x4, .ref h5, x6, x7, x8])), (h5, .inr (8, [x14, x15, x16, x17, x18, x19, x20, x21, x22, x23, .ref h24, .int 1, x25])), (h2, .inr (2, [x9, x10, x11, .int 0])), (h3, .inr (5, [x12, x13, .int 0])), (h24, .inr (5, [x26, x27, .int 0]))] := hD
  refine lv_aload_n hx hb dX7_numberPlays_15 rfl (lv_at hl 0 rfl) ?_
  refine va_get (D := D) (ci := 9) (v := .ref h5) (C := RX7) (T := TX7) (N := 7) hx hb hts (fun _ h => (List.mem_cons_of_mem _ (List.mem_append_left _ (List.mem_append_left _ (List.mem_append_left _ (List.mem_append_left _ (List.mem_append_left _ (List.mem_append_left _ (List.mem_append_right _ h))))))))) hown hK hP 0 rfl rfl 3 (by decide) (hts (.fieldLink RX7 29 "SelfishJunction" "survey" "LSelfishJunction$Survey;") (List.mem_cons_of_mem _ (List.mem_append_left _ (List.mem_append_left _ (List.mem_append_left _ (List.mem_append_left _ (List.mem_append_left _ (List.mem_append_left _ (List.mem_append_left _ (List.mem_append_left _ (List.mem_of_getElem? (i := 2) rfl))))))))))) (fun _ h9 => h9) rfl dX7_numberPlays_16 ?_
  refine va_get (D := D) (ci := 8) (v := .int 1) (C := RX6) (T := TX6) (N := 13) hx hb hts (fun _ h => (List.mem_cons_of_mem _ (List.mem_append_left _ (List.mem_append_left _ (List.mem_append_left _ (List.mem_append_left _ (List.mem_append_left _ (List.mem_append_right _ h)))))))) hown hK hP 1 rfl rfl 11 (by decide) (hts (.fieldLink RX7 261 "SelfishJunction$Survey" "count" "I") (List.mem_cons_of_mem _ (List.mem_append_left _ (List.mem_append_left _ (List.mem_append_left _ (List.mem_append_left _ (List.mem_append_left _ (List.mem_append_left _ (List.mem_append_left _ (List.mem_append_left _ (List.mem_of_getElem? (i := 5) rfl))))))))))) (fun _ h9 => h9) rfl dX7_numberPlays_19 ?_
  refine lv_sipush (v := 1000) hx hb dX7_numberPlays_22 (by decide) ?_
  refine lv_icmp_le (tgt := 39) hx hb dX7_numberPlays_25 (by decide) (fun _ => ?_) (fun h => absurd (by decide) h)
  refine W.widen (k := 0) (n := 0) (Nat.le_of_ble_eq_true rfl) (Nat.le_of_ble_eq_true rfl) ?_
  have hP9 := hP.sub (ws' := [(h1, .inr (9, [.ref h2, .ref h3, x4, .ref h5, x6, x7, x8])), (h2, .inr (2, [x9, x10, x11, .int 0])), (h3, .inr (5, [x12, x13, .int 0])), (h5, .inr (8, [x14, x15, x16, x17, x18, x19, x20, x21, x22, x23, .ref h24, .int 1, x25])), (h24, .inr (5, [x26, x27, .int 0]))]) [0, 2, 3, 1, 4] rfl
  have hD9 := hD.sub (ws' := [(h1, .inr (9, [.ref h2, .ref h3, x4, .ref h5, x6, x7, x8])), (h2, .inr (2, [x9, x10, x11, .int 0])), (h3, .inr (5, [x12, x13, .int 0])), (h5, .inr (8, [x14, x15, x16, x17, x18, x19, x20, x21, x22, x23, .ref h24, .int 1, x25])), (h24, .inr (5, [x26, x27, .int 0]))]) [0, 2, 3, 1, 4] (by decide) rfl
  exact W.vret hx hb hr (fun t ht hW => ⟨⟨(), rfl, trivial, ⟨by rw [ht]; exact hP9, hD9⟩⟩, hS.F ht⟩) hS.2.2 dX7_numberPlays_39
theorem dX6_show_0 : decode cX6_show 0 = .ok (.iconst 0, 1) := by decide +kernel
theorem dX6_show_1 : decode cX6_show 1 = .ok (.istore_n 3, 1) := by decide +kernel
theorem dX6_show_2 : decode cX6_show 2 = .ok (.iload_n 3, 1) := by decide +kernel
theorem dX6_show_3 : decode cX6_show 3 = .ok (.aload_n 1, 1) := by decide +kernel
theorem dX6_show_4 : decode cX6_show 4 = .ok (.getfield 56, 3) := by decide +kernel
theorem dX6_show_7 : decode cX6_show 7 = .ok (.if_icmp .ge 51, 3) := by decide +kernel
theorem dX6_show_58 : decode cX6_show 58 = .ok (.return_, 1) := by decide +kernel
set_option maxHeartbeats 4000000 in
set_option maxRecDepth 100000 in
theorem k_X6_show (l : Launch) (D : va_G) (cy : Nat → ClassId) (h1 : Nat) (h2 : Nat) (x3 : Value) (x4 : Value) (x5 : Value) : Met l yX6_show wsX6_show ({ frames := 0, cells := 0, slots := 0, locals := 0 }) (kR D cy [.ref h1, .ref h2, .int 0] [(h2, .inr (2, [x3, x4, x5, .int 0]))]) (va_Qv (fun (_ : Unit) => True) (fun (_ : Unit) (_ : State) => True) (fun _ : Nat => False)) 0 0 (fun _ : Nat => False) := by
  refine Met.ofW (cc := cX6_show) (maxL := 5) (ret := none) (by decide) rfl ?_
  intro p e s m args below meth c s₁ B hml hv
  obtain ⟨rfl, hP, hK⟩ := hv
  have hx := B.exec
  have hb := B.bytes
  have hr := B.returns
  have hts := atoms_spec (ws := wsX6_show) B.pre
  have hown : s.vm.findClass RX6 = some m.cls := findClass_of_methodNamed B.named
  have hlocks := B.notSynchronized
  have hS : va_S (fun _ : Nat => False) s.heap s.heap [] := va_S.rf
  have hP : va_P D vwCl [(h2, .inr (2, [x3, x4, x5, .int 0]))] s.heap := hP
  have hl := lv_entry ([.ref h1, .ref h2, .int 0]) (n := 5) (Nat.le_of_ble_eq_true rfl)
  rw [lg_entry_eq]
  generalize (lg_sl ([.ref h1, .ref h2, .int 0]) ++ List.replicate (5 - (lg_sl ([.ref h1, .ref h2, .int 0])).length) Slot.unset).toArray = ls at hl ⊢
  have hl : lv_has ls 5 [(0, .ref h1), (1, .ref h2), (2, .int 0)] := hl
  refine lv_iconst (v := 0) hx hb dX6_show_0 (by decide) ?_
  refine lv_istore_n (lv' := [(3, .int 0), (0, .ref h1), (1, .ref h2), (2, .int 0)]) hx hb dX6_show_1 rfl hl (by decide) rfl (fun ls hl => ?_)
  refine lv_iload_n hx hb dX6_show_2 rfl (lv_at hl 0 rfl) ?_
  refine lv_aload_n hx hb dX6_show_3 rfl (lv_at hl 2 rfl) ?_
  refine va_get (D := D) (ci := 2) (v := .int 0) (C := RX0) (T := TX0) (N := 4) hx hb hts (fun _ h => (List.mem_cons_of_mem _ (List.mem_append_left _ (List.mem_append_left _ (List.mem_append_left _ (List.mem_append_left _ (List.mem_append_left _ (List.mem_append_right _ h)))))))) hown hK hP 0 rfl rfl 3 (by decide) (hts (.fieldLink RX6 56 "SelfishJunction$Board" "playerCount" "I") (List.mem_cons_of_mem _ (List.mem_append_left _ (List.mem_append_left _ (List.mem_append_left _ (List.mem_append_left _ (List.mem_append_left _ (List.mem_append_left _ (List.mem_append_left _ (List.mem_of_getElem? (i := 0) rfl)))))))))) (fun _ h9 => h9) rfl dX6_show_4 ?_
  refine lv_icmp_ge (tgt := 58) hx hb dX6_show_7 (by decide) (fun _ => ?_) (fun h => absurd (by decide) h)
  refine W.widen (k := 0) (n := 0) (Nat.le_of_ble_eq_true rfl) (Nat.le_of_ble_eq_true rfl) ?_
  exact W.vret hx hb hr (fun t ht hW => ⟨⟨(), rfl, trivial, trivial⟩, hS.F ht⟩) hS.2.2 dX6_show_58
theorem dX0_movesOf_0 : decode cX0_movesOf 0 = .ok (.iconst 0, 1) := by decide +kernel
theorem dX0_movesOf_1 : decode cX0_movesOf 1 = .ok (.istore_n 2, 1) := by decide +kernel
theorem dX0_movesOf_2 : decode cX0_movesOf 2 = .ok (.iconst 0, 1) := by decide +kernel
theorem dX0_movesOf_3 : decode cX0_movesOf 3 = .ok (.istore_n 3, 1) := by decide +kernel
theorem dX0_movesOf_4 : decode cX0_movesOf 4 = .ok (.iload_n 3, 1) := by decide +kernel
theorem dX0_movesOf_5 : decode cX0_movesOf 5 = .ok (.aload_n 0, 1) := by decide +kernel
theorem dX0_movesOf_6 : decode cX0_movesOf 6 = .ok (.getfield 42, 3) := by decide +kernel
theorem dX0_movesOf_9 : decode cX0_movesOf 9 = .ok (.if_icmp .ge 84, 3) := by decide +kernel
theorem dX0_movesOf_93 : decode cX0_movesOf 93 = .ok (.iload_n 2, 1) := by decide +kernel
theorem dX0_movesOf_94 : decode cX0_movesOf 94 = .ok (.ireturn, 1) := by decide +kernel
set_option maxHeartbeats 4000000 in
set_option maxRecDepth 100000 in
theorem k_X0_movesOf (l : Launch) (D : va_G) (cy : Nat → ClassId) (h1 : Nat) (h2 : Nat) (x3 : Value) (x4 : Value) (x5 : Value) : Met l yX0_movesOf wsX0_movesOf ({ frames := 0, cells := 0, slots := 0, locals := 0 }) (kR D cy [.ref h1, .ref h2] [(h1, .inr (2, [x3, x4, x5, .int 0]))]) (va_Qi (fun (r : Int32) (_ : Unit) => r = 0 ∧ True) (fun (_ : Unit) (_ : State) => True) (fun _ : Nat => False)) 0 0 (fun _ : Nat => False) := by
  refine Met.ofW (cc := cX0_movesOf) (maxL := 6) (ret := (some .int)) (by decide) rfl ?_
  intro p e s m args below meth c s₁ B hml hv
  obtain ⟨rfl, hP, hK⟩ := hv
  have hx := B.exec
  have hb := B.bytes
  have hr := B.returns
  have hts := atoms_spec (ws := wsX0_movesOf) B.pre
  have hown : s.vm.findClass RX0 = some m.cls := findClass_of_methodNamed B.named
  have hlocks := B.notSynchronized
  have hS : va_S (fun _ : Nat => False) s.heap s.heap [] := va_S.rf
  have hP : va_P D vwCl [(h1, .inr (2, [x3, x4, x5, .int 0]))] s.heap := hP
  have hl := lv_entry ([.ref h1, .ref h2]) (n := 6) (Nat.le_of_ble_eq_true rfl)
  rw [lg_entry_eq]
  generalize (lg_sl ([.ref h1, .ref h2]) ++ List.replicate (6 - (lg_sl ([.ref h1, .ref h2])).length) Slot.unset).toArray = ls at hl ⊢
  have hl : lv_has ls 6 [(0, .ref h1), (1, .ref h2)] := hl
  refine lv_iconst (v := 0) hx hb dX0_movesOf_0 (by decide) ?_
  refine lv_istore_n (lv' := [(2, .int 0), (0, .ref h1), (1, .ref h2)]) hx hb dX0_movesOf_1 rfl hl (by decide) rfl (fun ls hl => ?_)
  refine lv_iconst (v := 0) hx hb dX0_movesOf_2 (by decide) ?_
  refine lv_istore_n (lv' := [(3, .int 0), (2, .int 0), (0, .ref h1), (1, .ref h2)]) hx hb dX0_movesOf_3 rfl hl (by decide) rfl (fun ls hl => ?_)
  refine lv_iload_n hx hb dX0_movesOf_4 rfl (lv_at hl 0 rfl) ?_
  refine lv_aload_n hx hb dX0_movesOf_5 rfl (lv_at hl 2 rfl) ?_
  refine va_get (D := D) (ci := 2) (v := .int 0) (C := RX0) (T := TX0) (N := 4) hx hb hts (fun _ h => (List.mem_cons_of_mem _ (List.mem_append_left _ (List.mem_append_left _ (List.mem_append_left _ (List.mem_append_left _ (List.mem_append_right _ h))))))) hown hK hP 0 rfl rfl 3 (by decide) (hts (.fieldLink RX0 42 "SelfishJunction$Board" "playerCount" "I") (List.mem_cons_of_mem _ (List.mem_append_left _ (List.mem_append_left _ (List.mem_append_left _ (List.mem_append_left _ (List.mem_append_left _ (List.mem_append_left _ (List.mem_of_getElem? (i := 0) rfl))))))))) (fun _ h9 => h9) rfl dX0_movesOf_6 ?_
  refine lv_icmp_ge (tgt := 93) hx hb dX0_movesOf_9 (by decide) (fun _ => ?_) (fun h => absurd (by decide) h)
  refine lv_iload_n hx hb dX0_movesOf_93 rfl (lv_at hl 1 rfl) ?_
  refine W.widen (k := 0) (n := 0) (Nat.le_of_ble_eq_true rfl) (Nat.le_of_ble_eq_true rfl) ?_
  exact W.iret (v := 0) hx hb hr (fun t ht hW => ⟨⟨0, (), rfl, ⟨rfl, trivial⟩, trivial⟩, hS.F ht⟩) hS.2.2 dX0_movesOf_94
theorem dX6_fill_0 : decode cX6_fill 0 = .ok (.aload_n 0, 1) := by decide +kernel
theorem dX6_fill_1 : decode cX6_fill 1 = .ok (.aload_n 0, 1) := by decide +kernel
theorem dX6_fill_2 : decode cX6_fill 2 = .ok (.getfield 53, 3) := by decide +kernel
theorem dX6_fill_5 : decode cX6_fill 5 = .ok (.sipush 1000, 3) := by decide +kernel
theorem dX6_fill_8 : decode cX6_fill 8 = .ok (.invokestatic 93, 3) := by decide +kernel
theorem dX6_fill_11 : decode cX6_fill 11 = .ok (.putfield 98, 3) := by decide +kernel
theorem dX6_fill_14 : decode cX6_fill 14 = .ok (.iconst 0, 1) := by decide +kernel
theorem dX6_fill_15 : decode cX6_fill 15 = .ok (.istore_n 2, 1) := by decide +kernel
theorem dX6_fill_16 : decode cX6_fill 16 = .ok (.iload_n 2, 1) := by decide +kernel
theorem dX6_fill_17 : decode cX6_fill 17 = .ok (.aload_n 0, 1) := by decide +kernel
theorem dX6_fill_18 : decode cX6_fill 18 = .ok (.getfield 98, 3) := by decide +kernel
theorem dX6_fill_21 : decode cX6_fill 21 = .ok (.if_icmp .ge 43, 3) := by decide +kernel
theorem dX6_fill_24 : decode cX6_fill 24 = .ok (.aload_n 0, 1) := by decide +kernel
theorem dX6_fill_25 : decode cX6_fill 25 = .ok (.aload_n 1, 1) := by decide +kernel
theorem dX6_fill_26 : decode cX6_fill 26 = .ok (.iload_n 2, 1) := by decide +kernel
theorem dX6_fill_27 : decode cX6_fill 27 = .ok (.invokevirtual 101, 3) := by decide +kernel
set_option maxRecDepth 20000 in
theorem ggX6_fill_X6_show : GoodIn wsX6_fill wsX6_show := goodIn_ca (goodIn_ca (goodIn_r _ [14, 15, 16, 8, 17, 18, 19, 20, 13, 21, 22, 23, 24, 25, 26, 27, 28, 29, 30, 31, 32, 33, 34, 35, 36, 37, 38, 39, 40, 41, 42, 43, 94, 95, 96, 97, 81, 82, 83, 84, 85, 86, 87, 88, 89, 90, 91, 92, 93, 98, 99, 100, 101, 102, 103, 104, 105, 106] (by decide +kernel) (by decide +kernel)) (goodIn_sub (fun _ h => List.mem_cons_of_mem _ (List.mem_append_left _ (List.mem_append_right _ h))) (by decide +kernel))) (goodIn_sub (fun _ h => List.mem_cons_of_mem _ (List.mem_append_right _ h)) (by decide +kernel))
set_option maxRecDepth 20000 in
theorem gX6_fill_X6_show : GoodIn wsX6_fill (wsV RX6 101 RX6 yX6_show wsX6_show) := goodIn_app (goodIn_of _ (by decide +kernel)) ggX6_fill_X6_show
theorem dX6_fill_30 : decode cX6_fill 30 = .ok (.aload_n 0, 1) := by decide +kernel
theorem dX6_fill_31 : decode cX6_fill 31 = .ok (.getfield 24, 3) := by decide +kernel
theorem dX6_fill_34 : decode cX6_fill 34 = .ok (.iload_n 2, 1) := by decide +kernel
theorem dX6_fill_35 : decode cX6_fill 35 = .ok (.aload_n 1, 1) := by decide +kernel
theorem dX6_fill_36 : decode cX6_fill 36 = .ok (.aload_n 0, 1) := by decide +kernel
theorem dX6_fill_37 : decode cX6_fill 37 = .ok (.getfield 45, 3) := by decide +kernel
theorem dX6_fill_40 : decode cX6_fill 40 = .ok (.invokevirtual 105, 3) := by decide +kernel
set_option maxRecDepth 20000 in
theorem ggX6_fill_X0_totalOf : GoodIn wsX6_fill wsX0_totalOf := goodIn_ca (goodIn_r _ [47, 48, 29, 30, 31, 33, 49, 32, 34, 35, 36, 37, 38, 39, 40, 41, 42, 43, 50, 51, 52, 53, 54, 55, 94, 95, 96, 97, 98, 99, 100, 101, 102, 103, 104, 105, 106, 107, 108, 109, 110, 111, 112, 113] (by decide +kernel) (by decide +kernel)) (goodIn_sub (fun _ h => List.mem_cons_of_mem _ (List.mem_append_left _ (List.mem_append_right _ h))) (by decide +kernel))
set_option maxRecDepth 20000 in
theorem gX6_fill_X0_totalOf : GoodIn wsX6_fill (wsV RX6 105 RX0 yX0_totalOf wsX0_totalOf) := goodIn_app (goodIn_of _ (by decide +kernel)) ggX6_fill_X0_totalOf
theorem dX6_fill_43 : decode cX6_fill 43 = .ok (.iastore, 1) := by decide +kernel
theorem dX6_fill_44 : decode cX6_fill 44 = .ok (.aload_n 0, 1) := by decide +kernel
theorem dX6_fill_45 : decode cX6_fill 45 = .ok (.getfield 27, 3) := by decide +kernel
theorem dX6_fill_48 : decode cX6_fill 48 = .ok (.iload_n 2, 1) := by decide +kernel
theorem dX6_fill_49 : decode cX6_fill 49 = .ok (.aload_n 1, 1) := by decide +kernel
theorem dX6_fill_50 : decode cX6_fill 50 = .ok (.aload_n 0, 1) := by decide +kernel
theorem dX6_fill_51 : decode cX6_fill 51 = .ok (.getfield 45, 3) := by decide +kernel
theorem dX6_fill_54 : decode cX6_fill 54 = .ok (.invokevirtual 109, 3) := by decide +kernel
set_option maxRecDepth 20000 in
theorem ggX6_fill_X0_movesOf : GoodIn wsX6_fill wsX0_movesOf := goodIn_ca (goodIn_r _ [59, 48, 29, 60, 61, 62, 63, 27, 64, 65, 30, 66, 67, 68, 69, 70, 71, 72, 73, 31, 32, 33, 49, 74, 75, 34, 35, 36, 37, 38, 39, 40, 41, 42, 43, 50, 51, 52, 53, 54, 55, 76, 77, 78, 79, 80, 94, 95, 96, 97, 101, 102, 103, 104, 105, 106, 98, 99, 100, 107, 108, 109, 110, 111, 112, 113] (by decide +kernel) (by decide +kernel)) (goodIn_sub (fun _ h => List.mem_cons_of_mem _ (List.mem_append_left _ (List.mem_append_right _ h))) (by decide +kernel))
set_option maxRecDepth 20000 in
theorem gX6_fill_X0_movesOf : GoodIn wsX6_fill (wsV RX6 109 RX0 yX0_movesOf wsX0_movesOf) := goodIn_app (goodIn_of _ (by decide +kernel)) ggX6_fill_X0_movesOf
theorem dX6_fill_57 : decode cX6_fill 57 = .ok (.iastore, 1) := by decide +kernel
theorem dX6_fill_58 : decode cX6_fill 58 = .ok (.iinc 2 1, 3) := by decide +kernel
theorem dX6_fill_61 : decode cX6_fill 61 = .ok (.goto (-45), 3) := by decide +kernel
theorem dX6_fill_64 : decode cX6_fill 64 = .ok (.return_, 1) := by decide +kernel
set_option maxHeartbeats 4000000 in
set_option maxRecDepth 100000 in
theorem k_X6_fill (l : Launch) (D : va_G) (cy : Nat → ClassId) (h1 : Nat) (h2 : Nat) (x3 : Value) (x4 : Value) (x5 : Value) (x6 : Value) (h7 : Nat) (h8 : Nat) (x9 : Value) (x10 : Value) (x11 : Value) (x12 : Value) (h13 : Nat) (x14 : Value) (x15 : Value) (x16 : Value) (g17 : Nat → Int32) (g18 : Nat → Int32) (sz : Nat) : Met l yX6_fill wsX6_fill ({ frames := 1, cells := 0, slots := 0, locals := 25 }) (kW D cy [.ref h1, .ref h2] [(h1, .inr (8, [x3, x4, x5, x6, .ref h7, .ref h8, x9, x10, x11, x12, .ref h13, .int 1, .int 0])), (h2, .inr (2, [x14, x15, x16, .int 0])), (h7, .inl (cy 1, 1000, .inl g17)), (h8, .inl (cy 1, 1000, .inl g18))] sz) (va_Qv (fun (_ : Unit) => True) (fun (_ : Unit) (t : State) => va_P D vwCl [(h1, .inr (8, [x3, x4, x5, x6, .ref h7, .ref h8, x9, x10, x11, x12, .ref h13, .int 1, .int 1])), (h2, .inr (2, [x14, x15, x16, .int 0])), (h7, .inl (cy 1, 1000, .inl (upd g17 0 0))), (h8, .inl (cy 1, 1000, .inl (upd g18 0 0)))] t.heap ∧ va_D (va_A [(h1, .inr (8, [x3, x4, x5, x6, .ref h7, .ref h8, x9, x10, x11, x12, .ref h13, .int 1, .int 0])), (h2, .inr (2, [x14, x15, x16, .int 0])), (h7, .inl (cy 1, 1000, .inl g17)), (h8, .inl (cy 1, 1000, .inl g18))] sz) [(h1, .inr (8, [x3, x4, x5, x6, .ref h7, .ref h8, x9, x10, x11, x12, .ref h13, .int 1, .int 1])), (h2, .inr (2, [x14, x15, x16, .int 0])), (h7, .inl (cy 1, 1000, .inl (upd g17 0 0))), (h8, .inl (cy 1, 1000, .inl (upd g18 0 0)))]) (va_A [(h1, .inr (8, [x3, x4, x5, x6, .ref h7, .ref h8, x9, x10, x11, x12, .ref h13, .int 1, .int 0])), (h2, .inr (2, [x14, x15, x16, .int 0])), (h7, .inl (cy 1, 1000, .inl g17)), (h8, .inl (cy 1, 1000, .inl g18))] sz)) 0 0 (va_A [(h1, .inr (8, [x3, x4, x5, x6, .ref h7, .ref h8, x9, x10, x11, x12, .ref h13, .int 1, .int 0])), (h2, .inr (2, [x14, x15, x16, .int 0])), (h7, .inl (cy 1, 1000, .inl g17)), (h8, .inl (cy 1, 1000, .inl g18))] sz) := by
  refine Met.ofW (cc := cX6_fill) (maxL := 3) (ret := none) (by decide) rfl ?_
  intro p e s m args below meth c s₁ B hml hv
  obtain ⟨rfl, hsz, hP, hK, hD0⟩ := hv
  have hx := B.exec
  have hb := B.bytes
  have hr := B.returns
  have hts := atoms_spec (ws := wsX6_fill) B.pre
  have hown : s.vm.findClass RX6 = some m.cls := findClass_of_methodNamed B.named
  have hlocks := B.notSynchronized
  subst hsz
  have hD := hD0.self (sz := s.heap.size)
  generalize hAe : va_A [(h1, .inr (8, [x3, x4, x5, x6, .ref h7, .ref h8, x9, x10, x11, x12, .ref h13, .int 1, .int 0])), (h2, .inr (2, [x14, x15, x16, .int 0])), (h7, .inl (cy 1, 1000, .inl g17)), (h8, .inl (cy 1, 1000, .inl g18))] s.heap.size = A at hD ⊢
  have hA : ∀ q : Nat, s.heap.size ≤ q → A q := fun q h => by rw [← hAe]; exact Or.inr h
  have hS : va_S A s.heap s.heap [] := va_S.rf
  have hP : va_P D vwCl [(h1, .inr (8, [x3, x4, x5, x6, .ref h7, .ref h8, x9, x10, x11, x12, .ref h13, .int 1, .int 0])), (h2, .inr (2, [x14, x15, x16, .int 0])), (h7, .inl (cy 1, 1000, .inl g17)), (h8, .inl (cy 1, 1000, .inl g18))] s.heap := hP
  have hl := lv_entry ([.ref h1, .ref h2]) (n := 3) (Nat.le_of_ble_eq_true rfl)
  rw [lg_entry_eq]
  generalize (lg_sl ([.ref h1, .ref h2]) ++ List.replicate (3 - (lg_sl ([.ref h1, .ref h2])).length) Slot.unset).toArray = ls at hl ⊢
  have hl : lv_has ls 3 [(0, .ref h1), (1, .ref h2)] := hl
  refine lv_aload_n hx hb dX6_fill_0 rfl (lv_at hl 0 rfl) ?_
  refine lv_aload_n hx hb dX6_fill_1 rfl (lv_at hl 0 rfl) ?_
  refine va_get (D := D) (ci := 8) (v := .int 1) (C := RX6) (T := TX6) (N := 13) hx hb hts (fun _ h => (List.mem_cons_of_mem _ (List.mem_append_left _ (List.mem_append_left _ (List.mem_append_left _ (List.mem_append_left _ (List.mem_append_left _ (List.mem_append_left _ (List.mem_append_right _ h))))))))) hown hK hP 0 rfl rfl 11 (by decide) (hts (.fieldLink RX6 53 "SelfishJunction$Survey" "count" "I") (List.mem_cons_of_mem _ (List.mem_append_left _ (List.mem_append_left _ (List.mem_append_left _ (List.mem_append_left _ (List.mem_append_left _ (List.mem_append_left _ (List.mem_append_left _ (List.mem_append_left _ (List.mem_of_getElem? (i := 0) rfl))))))))))) (fun _ h9 => h9) rfl dX6_fill_2 ?_
  refine lv_sipush (v := 1000) hx hb dX6_fill_5 (by decide) ?_
  refine va_mmin hx hb (by rw [hml]; exact hl.1.symm) hown (hts (.methodLink RX6 93 Lib.Math.min.name) (List.mem_cons_of_mem _ (List.mem_append_left _ (List.mem_append_left _ (List.mem_append_left _ (List.mem_append_left _ (List.mem_append_left _ (List.mem_append_left _ (List.mem_append_left _ (List.mem_append_left _ (List.mem_of_getElem? (i := 1) rfl))))))))))) (hts (.static Lib.Math.min.name) (List.mem_cons_of_mem _ (List.mem_append_left _ (List.mem_append_left _ (List.mem_append_left _ (List.mem_append_left _ (List.mem_append_left _ (List.mem_append_left _ (List.mem_append_left _ (List.mem_append_left _ (List.mem_of_getElem? (i := 2) rfl))))))))))) (hts (.initialized "java/lang/Math") (List.mem_cons_of_mem _ (List.mem_append_left _ (List.mem_append_left _ (List.mem_append_left _ (List.mem_append_left _ (List.mem_append_left _ (List.mem_append_left _ (List.mem_append_left _ (List.mem_append_left _ (List.mem_of_getElem? (i := 3) rfl))))))))))) (hts (.code Lib.Math.min.name Lib.Math.min.code 2 (some .int)) (List.mem_cons_of_mem _ (List.mem_append_left _ (List.mem_append_left _ (List.mem_append_left _ (List.mem_append_left _ (List.mem_append_left _ (List.mem_append_left _ (List.mem_append_left _ (List.mem_append_left _ (List.mem_of_getElem? (i := 4) rfl))))))))))) (Nat.le_of_ble_eq_true rfl) (Nat.le_of_ble_eq_true rfl) (Nat.le_of_ble_eq_true rfl) (Nat.le_of_ble_eq_true rfl) dX6_fill_8 ?_
  refine lv_topi (fun v_1 ev_1 => ?_)
  obtain rfl : v_1 = 1 := ev_1.trans (by decide)
  refine va_put (D := D) (ci := 8) (v := .int 1) (ty := .int) (C := RX6) (T := TX6) (N := 13) hx hb hts (fun _ h => (List.mem_cons_of_mem _ (List.mem_append_left _ (List.mem_append_left _ (List.mem_append_left _ (List.mem_append_left _ (List.mem_append_left _ (List.mem_append_left _ (List.mem_append_right _ h))))))))) tyX6 tyX6_ok nmX6 hown hK hP hD hS 0 rfl rfl 12 (by decide) (hts (.fieldLink RX6 98 "SelfishJunction$Survey" "filled" "I") (List.mem_cons_of_mem _ (List.mem_append_left _ (List.mem_append_left _ (List.mem_append_left _ (List.mem_append_left _ (List.mem_append_left _ (List.mem_append_left _ (List.mem_append_left _ (List.mem_append_left _ (List.mem_of_getElem? (i := 5) rfl))))))))))) (fun _ h9 => h9) rfl (by decide +kernel) rfl rfl (Nat.le_of_ble_eq_true rfl) dX6_fill_11 (fun H locs hP hD hS => ?_)
  have hP : va_P D vwCl [(h1, .inr (8, [x3, x4, x5, x6, .ref h7, .ref h8, x9, x10, x11, x12, .ref h13, .int 1, .int 1])), (h2, .inr (2, [x14, x15, x16, .int 0])), (h7, .inl (cy 1, 1000, .inl g17)), (h8, .inl (cy 1, 1000, .inl g18))] H := hP
  have hD : va_D A [(h1, .inr (8, [x3, x4, x5, x6, .ref h7, .ref h8, x9, x10, x11, x12, .ref h13, .int 1, .int 1])), (h2, .inr (2, [x14, x15, x16, .int 0])), (h7, .inl (cy 1, 1000, .inl g17)), (h8, .inl (cy 1, 1000, .inl g18))] := hD
  refine lv_iconst (v := 0) hx hb dX6_fill_14 (by decide) ?_
  refine lv_istore_n (lv' := [(2, .int 0), (0, .ref h1), (1, .ref h2)]) hx hb dX6_fill_15 rfl hl (by decide) rfl (fun ls hl => ?_)
  refine lv_iload_n hx hb dX6_fill_16 rfl (lv_at hl 0 rfl) ?_
  refine lv_aload_n hx hb dX6_fill_17 rfl (lv_at hl 1 rfl) ?_
  refine va_get (D := D) (ci := 8) (v := .int 1) (C := RX6) (T := TX6) (N := 13) hx hb hts (fun _ h => (List.mem_cons_of_mem _ (List.mem_append_left _ (List.mem_append_left _ (List.mem_append_left _ (List.mem_append_left _ (List.mem_append_left _ (List.mem_append_left _ (List.mem_append_right _ h))))))))) hown hK hP 0 rfl rfl 12 (by decide) (hts (.fieldLink RX6 98 "SelfishJunction$Survey" "filled" "I") (List.mem_cons_of_mem _ (List.mem_append_left _ (List.mem_append_left _ (List.mem_append_left _ (List.mem_append_left _ (List.mem_append_left _ (List.mem_append_left _ (List.mem_append_left _ (List.mem_append_left _ (List.mem_of_getElem? (i := 5) rfl))))))))))) (fun _ h9 => h9) rfl dX6_fill_18 ?_
  refine lv_icmp_ge (tgt := 64) hx hb dX6_fill_21 (by decide) (fun h => absurd h (by decide)) (fun _ => ?_)
  refine lv_aload_n hx hb dX6_fill_24 rfl (lv_at hl 1 rfl) ?_
  refine lv_aload_n hx hb dX6_fill_25 rfl (lv_at hl 2 rfl) ?_
  refine lv_iload_n hx hb dX6_fill_26 rfl (lv_at hl 0 rfl) ?_
  have hPc := hP.sub (ws' := [(h2, .inr (2, [x14, x15, x16, .int 0]))]) [1] rfl
  refine va_callv (va_runV (As := [.ref h2, .int 0]) (rest := []) ⟨hx, hb, hml, hown, hts⟩ (k_X6_show l D cy h1 h2 (x14) (x15) (x16)) (cwV 2 hts gX6_fill_X6_show rfl rfl rfl (by decide +kernel) ⟨(Nat.le_of_ble_eq_true rfl), (Nat.le_of_ble_eq_true rfl)⟩) ⟨kR_fb, va_recv hK hP (ci := 8) (q0 := 0) rfl rfl, (kR_go hPc hK)⟩ rfl rfl hl.1 rfl (lv_room (Nat.le_of_ble_eq_true rfl)) dX6_fill_27 ⟨(Nat.le_of_ble_eq_true rfl), (Nat.le_of_ble_eq_true rfl)⟩) hS (fun _ _ h => h.elim) (fun _ h => h.elim) (fun u t H locs ht hvm hw hB hz1 hk1 hS => ?_)
  have hP := kx_kept hP hk1
  refine lv_aload_n hx hb dX6_fill_30 rfl (lv_at hl 1 rfl) ?_
  refine va_get (D := D) (ci := 8) (v := .ref h7) (C := RX6) (T := TX6) (N := 13) hx hb hts (fun _ h => (List.mem_cons_of_mem _ (List.mem_append_left _ (List.mem_append_left _ (List.mem_append_left _ (List.mem_append_left _ (List.mem_append_left _ (List.mem_append_left _ (List.mem_append_right _ h))))))))) hown hK hP 0 rfl rfl 4 (by decide) (hts (.fieldLink RX6 24 "SelfishJunction$Survey" "totals" "[I") (List.mem_cons_of_mem _ (List.mem_append_left _ (List.mem_append_left _ (List.mem_append_left _ (List.mem_append_left _ (List.mem_append_left _ (List.mem_append_left _ (List.mem_append_left _ (List.mem_append_left _ (List.mem_of_getElem? (i := 6) rfl))))))))))) (fun _ h9 => h9) rfl dX6_fill_31 ?_
  refine lv_iload_n hx hb dX6_fill_34 rfl (lv_at hl 0 rfl) ?_
  refine lv_aload_n hx hb dX6_fill_35 rfl (lv_at hl 2 rfl) ?_
  refine lv_aload_n hx hb dX6_fill_36 rfl (lv_at hl 1 rfl) ?_
  refine va_get (D := D) (ci := 8) (v := .ref h13) (C := RX6) (T := TX6) (N := 13) hx hb hts (fun _ h => (List.mem_cons_of_mem _ (List.mem_append_left _ (List.mem_append_left _ (List.mem_append_left _ (List.mem_append_left _ (List.mem_append_left _ (List.mem_append_left _ (List.mem_append_right _ h))))))))) hown hK hP 0 rfl rfl 10 (by decide) (hts (.fieldLink RX6 45 "SelfishJunction$Survey" "shown" "LSelfishJunction$Play;") (List.mem_cons_of_mem _ (List.mem_append_left _ (List.mem_append_left _ (List.mem_append_left _ (List.mem_append_left _ (List.mem_append_left _ (List.mem_append_left _ (List.mem_append_left _ (List.mem_append_left _ (List.mem_of_getElem? (i := 7) rfl))))))))))) (fun _ h9 => h9) rfl dX6_fill_37 ?_
  have hPc := hP.sub (ws' := [(h2, .inr (2, [x14, x15, x16, .int 0]))]) [1] rfl
  refine va_calli (va_runV (As := [.ref h13]) (rest := [.int 0, .ref h7]) ⟨hx, hb, hml, hown, hts⟩ (k_X0_totalOf l D cy h2 h13 (x14) (x15) (x16)) (cwV 1 hts gX6_fill_X0_totalOf rfl rfl rfl (by decide +kernel) ⟨(Nat.le_of_ble_eq_true rfl), (Nat.le_of_ble_eq_true rfl)⟩) ⟨kR_fb, va_recv hK hP (ci := 2) (q0 := 1) rfl rfl, (kR_go hPc hK)⟩ rfl rfl hl.1 rfl (lv_room (Nat.le_of_ble_eq_true rfl)) dX6_fill_40 ⟨(Nat.le_of_ble_eq_true rfl), (Nat.le_of_ble_eq_true rfl)⟩) hS (fun _ _ h => h.elim) (fun _ h => h.elim) (fun r9 u t H locs ht hvm hw hB hz1 hk1 hS => ?_)
  have hP := kx_kept hP hk1
  obtain ⟨rfl, hw⟩ := hw
  refine va_iast hx hb hK hP hD hS 2 1 rfl rfl (kx_in 0 1000 rfl ⟨(Nat.le_of_ble_eq_true rfl), (Nat.le_of_ble_eq_true rfl)⟩ (Nat.le_of_ble_eq_true rfl)) dX6_fill_43 (fun H locs hP hD hS => ?_)
  have hP : va_P D vwCl [(h1, .inr (8, [x3, x4, x5, x6, .ref h7, .ref h8, x9, x10, x11, x12, .ref h13, .int 1, .int 1])), (h2, .inr (2, [x14, x15, x16, .int 0])), (h7, .inl (cy 1, 1000, .inl (upd g17 0 0))), (h8, .inl (cy 1, 1000, .inl g18))] H := hP
  have hD : va_D A [(h1, .inr (8, [x3, x4, x5, x6, .ref h7, .ref h8, x9, x10, x11, x12, .ref h13, .int 1, .int 1])), (h2, .inr (2, [x14, x15, x16, .int 0])), (h7, .inl (cy 1, 1000, .inl (upd g17 0 0))), (h8, .inl (cy 1, 1000, .inl g18))] := hD
  refine lv_aload_n hx hb dX6_fill_44 rfl (lv_at hl 1 rfl) ?_
  refine va_get (D := D) (ci := 8) (v := .ref h8) (C := RX6) (T := TX6) (N := 13) hx hb hts (fun _ h => (List.mem_cons_of_mem _ (List.mem_append_left _ (List.mem_append_left _ (List.mem_append_left _ (List.mem_append_left _ (List.mem_append_left _ (List.mem_append_left _ (List.mem_append_right _ h))))))))) hown hK hP 0 rfl rfl 5 (by decide) (hts (.fieldLink RX6 27 "SelfishJunction$Survey" "moves" "[I") (List.mem_cons_of_mem _ (List.mem_append_left _ (List.mem_append_left _ (List.mem_append_left _ (List.mem_append_left _ (List.mem_append_left _ (List.mem_append_left _ (List.mem_append_left _ (List.mem_append_left _ (List.mem_of_getElem? (i := 8) rfl))))))))))) (fun _ h9 => h9) rfl dX6_fill_45 ?_
  refine lv_iload_n hx hb dX6_fill_48 rfl (lv_at hl 0 rfl) ?_
  refine lv_aload_n hx hb dX6_fill_49 rfl (lv_at hl 2 rfl) ?_
  refine lv_aload_n hx hb dX6_fill_50 rfl (lv_at hl 1 rfl) ?_
  refine va_get (D := D) (ci := 8) (v := .ref h13) (C := RX6) (T := TX6) (N := 13) hx hb hts (fun _ h => (List.mem_cons_of_mem _ (List.mem_append_left _ (List.mem_append_left _ (List.mem_append_left _ (List.mem_append_left _ (List.mem_append_left _ (List.mem_append_left _ (List.mem_append_right _ h))))))))) hown hK hP 0 rfl rfl 10 (by decide) (hts (.fieldLink RX6 45 "SelfishJunction$Survey" "shown" "LSelfishJunction$Play;") (List.mem_cons_of_mem _ (List.mem_append_left _ (List.mem_append_left _ (List.mem_append_left _ (List.mem_append_left _ (List.mem_append_left _ (List.mem_append_left _ (List.mem_append_left _ (List.mem_append_left _ (List.mem_of_getElem? (i := 7) rfl))))))))))) (fun _ h9 => h9) rfl dX6_fill_51 ?_
  have hPc := hP.sub (ws' := [(h2, .inr (2, [x14, x15, x16, .int 0]))]) [1] rfl
  refine va_calli (va_runV (As := [.ref h13]) (rest := [.int 0, .ref h8]) ⟨hx, hb, hml, hown, hts⟩ (k_X0_movesOf l D cy h2 h13 (x14) (x15) (x16)) (cwV 1 hts gX6_fill_X0_movesOf rfl rfl rfl (by decide +kernel) ⟨(Nat.le_of_ble_eq_true rfl), (Nat.le_of_ble_eq_true rfl)⟩) ⟨kR_fb, va_recv hK hP (ci := 2) (q0 := 1) rfl rfl, (kR_go hPc hK)⟩ rfl rfl hl.1 rfl (lv_room (Nat.le_of_ble_eq_true rfl)) dX6_fill_54 ⟨(Nat.le_of_ble_eq_true rfl), (Nat.le_of_ble_eq_true rfl)⟩) hS (fun _ _ h => h.elim) (fun _ h => h.elim) (fun r9 u t H locs ht hvm hw hB hz1 hk1 hS => ?_)
  have hP := kx_kept hP hk1
  obtain ⟨rfl, hw⟩ := hw
  refine va_iast hx hb hK hP hD hS 3 1 rfl rfl (kx_in 0 1000 rfl ⟨(Nat.le_of_ble_eq_true rfl), (Nat.le_of_ble_eq_true rfl)⟩ (Nat.le_of_ble_eq_true rfl)) dX6_fill_57 (fun H locs hP hD hS => ?_)
  have hP : va_P D vwCl [(h1, .inr (8, [x3, x4, x5, x6, .ref h7, .ref h8, x9, x10, x11, x12, .ref h13, .int 1, .int 1])), (h2, .inr (2, [x14, x15, x16, .int 0])), (h7, .inl (cy 1, 1000, .inl (upd g17 0 0))), (h8, .inl (cy 1, 1000, .inl (upd g18 0 0)))] H := hP
  have hD : va_D A [(h1, .inr (8, [x3, x4, x5, x6, .ref h7, .ref h8, x9, x10, x11, x12, .ref h13, .int 1, .int 1])), (h2, .inr (2, [x14, x15, x16, .int 0])), (h7, .inl (cy 1, 1000, .inl (upd g17 0 0))), (h8, .inl (cy 1, 1000, .inl (upd g18 0 0)))] := hD
  refine lv_iinc (v := 1) (lv' := [(2, .int 1), (0, .ref h1), (1, .ref h2)]) hx hb dX6_fill_58 hl (k := 0) rfl (by decide) (by decide) rfl (fun ls hl => ?_)
  refine lv_goto (tgt := 16) hx hb dX6_fill_61 (by decide) ?_
  refine lv_iload_n hx hb dX6_fill_16 rfl (lv_at hl 0 rfl) ?_
  refine lv_aload_n hx hb dX6_fill_17 rfl (lv_at hl 1 rfl) ?_
  refine va_get (D := D) (ci := 8) (v := .int 1) (C := RX6) (T := TX6) (N := 13) hx hb hts (fun _ h => (List.mem_cons_of_mem _ (List.mem_append_left _ (List.mem_append_left _ (List.mem_append_left _ (List.mem_append_left _ (List.mem_append_left _ (List.mem_append_left _ (List.mem_append_right _ h))))))))) hown hK hP 0 rfl rfl 12 (by decide) (hts (.fieldLink RX6 98 "SelfishJunction$Survey" "filled" "I") (List.mem_cons_of_mem _ (List.mem_append_left _ (List.mem_append_left _ (List.mem_append_left _ (List.mem_append_left _ (List.mem_append_left _ (List.mem_append_left _ (List.mem_append_left _ (List.mem_append_left _ (List.mem_of_getElem? (i := 5) rfl))))))))))) (fun _ h9 => h9) rfl dX6_fill_18 ?_
  refine lv_icmp_ge (tgt := 64) hx hb dX6_fill_21 (by decide) (fun _ => ?_) (fun h => absurd (by decide) h)
  refine W.widen (k := 0) (n := 0) (Nat.le_of_ble_eq_true rfl) (Nat.le_of_ble_eq_true rfl) ?_
  have hP9 := hP.sub (ws' := [(h1, .inr (8, [x3, x4, x5, x6, .ref h7, .ref h8, x9, x10, x11, x12, .ref h13, .int 1, .int 1])), (h2, .inr (2, [x14, x15, x16, .int 0])), (h7, .inl (cy 1, 1000, .inl (upd g17 0 0))), (h8, .inl (cy 1, 1000, .inl (upd g18 0 0)))]) [0, 1, 2, 3] rfl
  have hD9 := hD.sub (ws' := [(h1, .inr (8, [x3, x4, x5, x6, .ref h7, .ref h8, x9, x10, x11, x12, .ref h13, .int 1, .int 1])), (h2, .inr (2, [x14, x15, x16, .int 0])), (h7, .inl (cy 1, 1000, .inl (upd g17 0 0))), (h8, .inl (cy 1, 1000, .inl (upd g18 0 0)))]) [0, 1, 2, 3] (by decide) rfl
  exact W.vret hx hb hr (fun t ht hW => ⟨⟨(), rfl, trivial, ⟨by rw [ht]; exact hP9, hD9⟩⟩, hS.F ht⟩) hS.2.2 dX6_fill_64
theorem dX7_lookAtPlays_0 : decode cX7_lookAtPlays 0 = .ok (.aload_n 0, 1) := by decide +kernel
theorem dX7_lookAtPlays_1 : decode cX7_lookAtPlays 1 = .ok (.invokevirtual 307, 3) := by decide +kernel
set_option maxRecDepth 20000 in
theorem ggX7_lookAtPlays_X7_numberPlays : GoodIn wsX7_lookAtPlays wsX7_numberPlays := goodIn_ca (goodIn_ca (goodIn_r _ [7, 8, 9, 1, 2, 10, 11, 12, 13, 14, 15, 16, 17, 18, 19, 20, 21, 22, 23, 24, 25, 26, 27, 28, 29, 30, 31, 32, 33, 34, 35, 36, 37, 38, 39, 40, 41, 42, 43, 44, 45, 46, 47, 48, 49, 50, 51, 109, 110, 111, 112, 113, 114, 115, 116, 117, 118, 119, 120, 121, 122, 123, 124, 125, 126, 127, 128, 129, 130, 131, 132, 133, 134, 135, 136, 137, 138, 139, 140, 141] (by decide +kernel) (by decide +kernel)) (goodIn_sub (fun _ h => List.mem_cons_of_mem _ (List.mem_append_left _ (List.mem_append_left _ (List.mem_append_right _ h)))) (by decide +kernel))) (goodIn_sub (fun _ h => List.mem_cons_of_mem _ (List.mem_append_left _ (List.mem_append_right _ h))) (by decide +kernel))
set_option maxRecDepth 20000 in
theorem gX7_lookAtPlays_X7_numberPlays : GoodIn wsX7_lookAtPlays (wsV RX7 307 RX7 yX7_numberPlays wsX7_numberPlays) := goodIn_app (goodIn_of _ (by decide +kernel)) ggX7_lookAtPlays_X7_numberPlays
theorem dX7_lookAtPlays_4 : decode cX7_lookAtPlays 4 = .ok (.aload_n 0, 1) := by decide +kernel
theorem dX7_lookAtPlays_5 : decode cX7_lookAtPlays 5 = .ok (.getfield 29, 3) := by decide +kernel
theorem dX7_lookAtPlays_8 : decode cX7_lookAtPlays 8 = .ok (.aload_n 0, 1) := by decide +kernel
theorem dX7_lookAtPlays_9 : decode cX7_lookAtPlays 9 = .ok (.getfield 10, 3) := by decide +kernel
theorem dX7_lookAtPlays_12 : decode cX7_lookAtPlays 12 = .ok (.invokevirtual 358, 3) := by decide +kernel
set_option maxRecDepth 20000 in
theorem ggX7_lookAtPlays_X6_fill : GoodIn wsX7_lookAtPlays wsX6_fill := goodIn_ca (goodIn_ca (goodIn_r _ [55, 19, 56, 57, 58, 59, 60, 61, 17, 62, 63, 64, 65, 15, 66, 20, 50, 25, 67, 68, 69, 70, 22, 21, 71, 72, 73, 29, 74, 31, 33, 75, 76, 77, 39, 40, 41, 42, 43, 44, 45, 78, 6, 79, 80, 81, 82, 83, 84, 85, 86, 87, 88, 89, 90, 91, 92, 93, 94, 95, 96, 97, 27, 28, 30, 32, 98, 99, 100, 101, 102, 103, 104, 105, 106, 107, 108, 35, 36, 37, 38, 116, 117, 118, 119, 120, 121, 122, 123, 124, 125, 126, 127, 128, 132, 133, 134, 135, 129, 130, 131, 136, 137, 138, 139, 140, 141, 142, 143, 144, 145, 146, 147, 148] (by decide +kernel) (by decide +kernel)) (goodIn_sub (fun _ h => List.mem_cons_of_mem _ (List.mem_append_left _ (List.mem_append_right _ h))) (by decide +kernel))) (goodIn_sub (fun _ h => List.mem_cons_of_mem _ (List.mem_append_right _ h)) (by decide +kernel))
set_option maxRecDepth 20000 in
theorem gX7_lookAtPlays_X6_fill : GoodIn wsX7_lookAtPlays (wsV RX7 358 RX6 yX6_fill wsX6_fill) := goodIn_app (goodIn_of _ (by decide +kernel)) ggX7_lookAtPlays_X6_fill
theorem dX7_lookAtPlays_15 : decode cX7_lookAtPlays 15 = .ok (.return_, 1) := by decide +kernel
set_option maxHeartbeats 4000000 in
set_option maxRecDepth 100000 in
theorem k_X7_lookAtPlays (l : Launch) (D : va_G) (cy : Nat → ClassId) (h1 : Nat) (h2 : Nat) (h3 : Nat) (x4 : Value) (h5 : Nat) (x6 : Value) (x7 : Value) (x8 : Value) (x9 : Value) (x10 : Value) (x11 : Value) (x12 : Value) (x13 : Value) (x14 : Value) (x15 : Value) (x16 : Value) (x17 : Value) (h18 : Nat) (h19 : Nat) (x20 : Value) (x21 : Value) (x22 : Value) (x23 : Value) (h24 : Nat) (g25 : Nat → Int32) (g26 : Nat → Int32) (x27 : Value) (x28 : Value) (x29 : Value) (sz : Nat) : Met l yX7_lookAtPlays wsX7_lookAtPlays ({ frames := 2, cells := 0, slots := 0, locals := 47 }) (kW D cy [.ref h1] [(h1, .inr (9, [.ref h2, .ref h3, x4, .ref h5, x6, x7, x8])), (h2, .inr (2, [x9, x10, x11, .int 0])), (h3, .inr (5, [x12, x13, .int 0])), (h5, .inr (8, [x14, x15, x16, x17, .ref h18, .ref h19, x20, x21, x22, x23, .ref h24, .int 0, .int 0])), (h18, .inl (cy 1, 1000, .inl g25)), (h19, .inl (cy 1, 1000, .inl g26)), (h24, .inr (5, [x27, x28, x29]))] sz) (va_Qv (fun (_ : Unit) => True) (fun (_ : Unit) (t : State) => va_P D vwCl [(h1, .inr (9, [.ref h2, .ref h3, x4, .ref h5, x6, x7, x8])), (h2, .inr (2, [x9, x10, x11, .int 0])), (h3, .inr (5, [x12, x13, .int 0])), (h5, .inr (8, [x14, x15, x16, x17, .ref h18, .ref h19, x20, x21, x22, x23, .ref h24, .int 1, .int 1])), (h18, .inl (cy 1, 1000, .inl (upd g25 0 0))), (h19, .inl (cy 1, 1000, .inl (upd g26 0 0))), (h24, .inr (5, [x27, x28, .int 0]))] t.heap ∧ va_D (va_A [(h1, .inr (9, [.ref h2, .ref h3, x4, .ref h5, x6, x7, x8])), (h2, .inr (2, [x9, x10, x11, .int 0])), (h3, .inr (5, [x12, x13, .int 0])), (h5, .inr (8, [x14, x15, x16, x17, .ref h18, .ref h19, x20, x21, x22, x23, .ref h24, .int 0, .int 0])), (h18, .inl (cy 1, 1000, .inl g25)), (h19, .inl (cy 1, 1000, .inl g26)), (h24, .inr (5, [x27, x28, x29]))] sz) [(h1, .inr (9, [.ref h2, .ref h3, x4, .ref h5, x6, x7, x8])), (h2, .inr (2, [x9, x10, x11, .int 0])), (h3, .inr (5, [x12, x13, .int 0])), (h5, .inr (8, [x14, x15, x16, x17, .ref h18, .ref h19, x20, x21, x22, x23, .ref h24, .int 1, .int 1])), (h18, .inl (cy 1, 1000, .inl (upd g25 0 0))), (h19, .inl (cy 1, 1000, .inl (upd g26 0 0))), (h24, .inr (5, [x27, x28, .int 0]))]) (va_A [(h1, .inr (9, [.ref h2, .ref h3, x4, .ref h5, x6, x7, x8])), (h2, .inr (2, [x9, x10, x11, .int 0])), (h3, .inr (5, [x12, x13, .int 0])), (h5, .inr (8, [x14, x15, x16, x17, .ref h18, .ref h19, x20, x21, x22, x23, .ref h24, .int 0, .int 0])), (h18, .inl (cy 1, 1000, .inl g25)), (h19, .inl (cy 1, 1000, .inl g26)), (h24, .inr (5, [x27, x28, x29]))] sz)) 0 0 (va_A [(h1, .inr (9, [.ref h2, .ref h3, x4, .ref h5, x6, x7, x8])), (h2, .inr (2, [x9, x10, x11, .int 0])), (h3, .inr (5, [x12, x13, .int 0])), (h5, .inr (8, [x14, x15, x16, x17, .ref h18, .ref h19, x20, x21, x22, x23, .ref h24, .int 0, .int 0])), (h18, .inl (cy 1, 1000, .inl g25)), (h19, .inl (cy 1, 1000, .inl g26)), (h24, .inr (5, [x27, x28, x29]))] sz) := by
  refine Met.ofW (cc := cX7_lookAtPlays) (maxL := 1) (ret := none) (by decide) rfl ?_
  intro p e s m args below meth c s₁ B hml hv
  obtain ⟨rfl, hsz, hP, hK, hD0⟩ := hv
  have hx := B.exec
  have hb := B.bytes
  have hr := B.returns
  have hts := atoms_spec (ws := wsX7_lookAtPlays) B.pre
  have hown : s.vm.findClass RX7 = some m.cls := findClass_of_methodNamed B.named
  have hlocks := B.notSynchronized
  subst hsz
  have hD := hD0.self (sz := s.heap.size)
  generalize hAe : va_A [(h1, .inr (9, [.ref h2, .ref h3, x4, .ref h5, x6, x7, x8])), (h2, .inr (2, [x9, x10, x11, .int 0])), (h3, .inr (5, [x12, x13, .int 0])), (h5, .inr (8, [x14, x15, x16, x17, .ref h18, .ref h19, x20, x21, x22, x23, .ref h24, .int 0, .int 0])), (h18, .inl (cy 1, 1000, .inl g25)), (h19, .inl (cy 1, 1000, .inl g26)), (h24, .inr (5, [x27, x28, x29]))] s.heap.size = A at hD ⊢
  have hA : ∀ q : Nat, s.heap.size ≤ q → A q := fun q h => by rw [← hAe]; exact Or.inr h
  have hS : va_S A s.heap s.heap [] := va_S.rf
  have hP : va_P D vwCl [(h1, .inr (9, [.ref h2, .ref h3, x4, .ref h5, x6, x7, x8])), (h2, .inr (2, [x9, x10, x11, .int 0])), (h3, .inr (5, [x12, x13, .int 0])), (h5, .inr (8, [x14, x15, x16, x17, .ref h18, .ref h19, x20, x21, x22, x23, .ref h24, .int 0, .int 0])), (h18, .inl (cy 1, 1000, .inl g25)), (h19, .inl (cy 1, 1000, .inl g26)), (h24, .inr (5, [x27, x28, x29]))] s.heap := hP
  have hl := lv_entry ([.ref h1]) (n := 1) (Nat.le_of_ble_eq_true rfl)
  rw [lg_entry_eq]
  generalize (lg_sl ([.ref h1]) ++ List.replicate (1 - (lg_sl ([.ref h1])).length) Slot.unset).toArray = ls at hl ⊢
  have hl : lv_has ls 1 [(0, .ref h1)] := hl
  refine lv_aload_n hx hb dX7_lookAtPlays_0 rfl (lv_at hl 0 rfl) ?_
  have hPc := hP.sub (ws' := [(h1, .inr (9, [.ref h2, .ref h3, x4, .ref h5, x6, x7, x8])), (h2, .inr (2, [x9, x10, x11, .int 0])), (h3, .inr (5, [x12, x13, .int 0])), (h5, .inr (8, [x14, x15, x16, x17, .ref h18, .ref h19, x20, x21, x22, x23, .ref h24, .int 0, .int 0])), (h24, .inr (5, [x27, x28, x29]))]) [0, 1, 2, 3, 6] rfl
  have hDc := hD.sub (ws' := [(h1, .inr (9, [.ref h2, .ref h3, x4, .ref h5, x6, x7, x8])), (h2, .inr (2, [x9, x10, x11, .int 0])), (h3, .inr (5, [x12, x13, .int 0])), (h5, .inr (8, [x14, x15, x16, x17, .ref h18, .ref h19, x20, x21, x22, x23, .ref h24, .int 0, .int 0])), (h24, .inr (5, [x27, x28, x29]))]) [0, 1, 2, 3, 6] (by decide) rfl
  have hFc := va_free (wc := [(h1, .inr (9, [.ref h2, .ref h3, x4, .ref h5, x6, x7, x8])), (h2, .inr (2, [x9, x10, x11, .int 0])), (h3, .inr (5, [x12, x13, .int 0])), (h5, .inr (8, [x14, x15, x16, x17, .ref h18, .ref h19, x20, x21, x22, x23, .ref h24, .int 0, .int 0])), (h24, .inr (5, [x27, x28, x29]))]) hD hS hA [0, 1, 2, 3, 6] rfl
  refine va_callv (va_runV (As := []) (rest := []) ⟨hx, hb, hml, hown, hts⟩ (k_X7_numberPlays l D cy h1 h2 h3 (x4) h5 (x6) (x7) (x8) (x9) (x10) (x11) (x12) (x13) (x14) (x15) (x16) (x17) (.ref h18) (.ref h19) (x20) (x21) (x22) (x23) h24 (.int 0) (x27) (x28) (x29) s.heap.size) (cwV 0 hts gX7_lookAtPlays_X7_numberPlays rfl rfl rfl (by decide +kernel) ⟨(Nat.le_of_ble_eq_true rfl), (Nat.le_of_ble_eq_true rfl)⟩) ⟨kW_fb, va_recv hK hP (ci := 9) (q0 := 0) rfl rfl, (kW_go hPc hK hDc)⟩ rfl rfl hl.1 rfl (lv_room (Nat.le_of_ble_eq_true rfl)) dX7_lookAtPlays_1 ⟨(Nat.le_of_ble_eq_true rfl), (Nat.le_of_ble_eq_true rfl)⟩) hS (fun q _ h => hFc q h) hFc (fun u t H locs ht hvm hw hB hz1 hk1 hS => ?_)
  obtain ⟨hP1, hD1⟩ := hB
  rw [ht] at hP1
  try dsimp only at hw hP1 hD1
  obtain ⟨hP, hD⟩ := va_join (wr := [(h18, .inl (cy 1, 1000, .inl g25)), (h19, .inl (cy 1, 1000, .inl g26))]) (w1 := [(h1, .inr (9, [.ref h2, .ref h3, x4, .ref h5, x6, x7, x8])), (h2, .inr (2, [x9, x10, x11, .int 0])), (h3, .inr (5, [x12, x13, .int 0])), (h5, .inr (8, [x14, x15, x16, x17, .ref h18, .ref h19, x20, x21, x22, x23, .ref h24, .int 1, .int 0])), (h24, .inr (5, [x27, x28, .int 0]))]) hP hD [0, 1, 2, 3, 6] [4, 5] rfl rfl (by decide) (by decide) hk1 hFc hP1 hD1
  have hP : va_P D vwCl [(h18, .inl (cy 1, 1000, .inl g25)), (h19, .inl (cy 1, 1000, .inl g26)), (h1, .inr (9, [.ref h2, .ref h3, x4, .ref h5, x6, x7, x8])), (h2, .inr (2, [x9, x10, x11, .int 0])), (h3, .inr (5, [x12, x13, .int 0])), (h5, .inr (8, [x14, x15, x16, x17, .ref h18, .ref h19, x20, x21, x22, x23, .ref h24, .int 1, .int 0])), (h24, .inr (5, [x27, x28, .int 0]))] H := hP
  have hD : va_D A [(h18, .inl (cy 1, 1000, .inl g25)), (h19, .inl (cy 1, 1000, .inl g26)), (h1, .inr (9, [.ref h2, .ref h3, x4, .ref h5, x6, x7, x8])), (h2, .inr (2, [x9, x10, x11, .int 0])), (h3, .inr (5, [x12, x13, .int 0])), (h5, .inr (8, [x14, x15, x16, x17, .ref h18, .ref h19, x20, x21, x22, x23, .ref h24, .int 1, .int 0])), (h24, .inr (5, [x27, x28, .int 0]))] := hD
  refine lv_aload_n hx hb dX7_lookAtPlays_4 rfl (lv_at hl 0 rfl) ?_
  refine va_get (D := D) (ci := 9) (v := .ref h5) (C := RX7) (T := TX7) (N := 7) hx hb hts (fun _ h => (List.mem_cons_of_mem _ (List.mem_append_left _ (List.mem_append_left _ (List.mem_append_left _ (List.mem_append_left _ (List.mem_append_left _ (List.mem_append_left _ (List.mem_append_left _ (List.mem_append_left _ (List.mem_append_right _ h))))))))))) hown hK hP 2 rfl rfl 3 (by decide) (hts (.fieldLink RX7 29 "SelfishJunction" "survey" "LSelfishJunction$Survey;") (List.mem_cons_of_mem _ (List.mem_append_left _ (List.mem_append_left _ (List.mem_append_left _ (List.mem_append_left _ (List.mem_append_left _ (List.mem_append_left _ (List.mem_append_left _ (List.mem_append_left _ (List.mem_append_left _ (List.mem_append_left _ (List.mem_of_getElem? (i := 0) rfl))))))))))))) (fun _ h9 => h9) rfl dX7_lookAtPlays_5 ?_
  refine lv_aload_n hx hb dX7_lookAtPlays_8 rfl (lv_at hl 0 rfl) ?_
  refine va_get (D := D) (ci := 9) (v := .ref h2) (C := RX7) (T := TX7) (N := 7) hx hb hts (fun _ h => (List.mem_cons_of_mem _ (List.mem_append_left _ (List.mem_append_left _ (List.mem_append_left _ (List.mem_append_left _ (List.mem_append_left _ (List.mem_append_left _ (List.mem_append_left _ (List.mem_append_left _ (List.mem_append_right _ h))))))))))) hown hK hP 2 rfl rfl 0 (by decide) (hts (.fieldLink RX7 10 "SelfishJunction" "board" "LSelfishJunction$Board;") (List.mem_cons_of_mem _ (List.mem_append_left _ (List.mem_append_left _ (List.mem_append_left _ (List.mem_append_left _ (List.mem_append_left _ (List.mem_append_left _ (List.mem_append_left _ (List.mem_append_left _ (List.mem_append_left _ (List.mem_append_left _ (List.mem_of_getElem? (i := 1) rfl))))))))))))) (fun _ h9 => h9) rfl dX7_lookAtPlays_9 ?_
  have hPc := hP.sub (ws' := [(h5, .inr (8, [x14, x15, x16, x17, .ref h18, .ref h19, x20, x21, x22, x23, .ref h24, .int 1, .int 0])), (h2, .inr (2, [x9, x10, x11, .int 0])), (h18, .inl (cy 1, 1000, .inl g25)), (h19, .inl (cy 1, 1000, .inl g26))]) [5, 3, 0, 1] rfl
  have hDc := hD.sub (ws' := [(h5, .inr (8, [x14, x15, x16, x17, .ref h18, .ref h19, x20, x21, x22, x23, .ref h24, .int 1, .int 0])), (h2, .inr (2, [x9, x10, x11, .int 0])), (h18, .inl (cy 1, 1000, .inl g25)), (h19, .inl (cy 1, 1000, .inl g26))]) [5, 3, 0, 1] (by decide) rfl
  have hFc := va_free (wc := [(h5, .inr (8, [x14, x15, x16, x17, .ref h18, .ref h19, x20, x21, x22, x23, .ref h24, .int 1, .int 0])), (h2, .inr (2, [x9, x10, x11, .int 0])), (h18, .inl (cy 1, 1000, .inl g25)), (h19, .inl (cy 1, 1000, .inl g26))]) hD hS hA [5, 3, 0, 1] rfl
  refine va_callv (va_runV (As := [.ref h2]) (rest := []) ⟨hx, hb, hml, hown, hts⟩ (k_X6_fill l D cy h5 h2 (x14) (x15) (x16) (x17) h18 h19 (x20) (x21) (x22) (x23) h24 (x9) (x10) (x11) g25 g26 H.size) (cwV 1 hts gX7_lookAtPlays_X6_fill rfl rfl rfl (by decide +kernel) ⟨(Nat.le_of_ble_eq_true rfl), (Nat.le_of_ble_eq_true rfl)⟩) ⟨kW_fb, va_recv hK hP (ci := 8) (q0 := 5) rfl rfl, (kW_go hPc hK hDc)⟩ rfl rfl hl.1 rfl (lv_room (Nat.le_of_ble_eq_true rfl)) dX7_lookAtPlays_12 ⟨(Nat.le_of_ble_eq_true rfl), (Nat.le_of_ble_eq_true rfl)⟩) hS (fun q _ h => hFc q h) hFc (fun u t H locs ht hvm hw hB hz1 hk1 hS => ?_)
  obtain ⟨hP1, hD1⟩ := hB
  rw [ht] at hP1
  try dsimp only at hw hP1 hD1
  obtain ⟨hP, hD⟩ := va_join (wr := [(h1, .inr (9, [.ref h2, .ref h3, x4, .ref h5, x6, x7, x8])), (h3, .inr (5, [x12, x13, .int 0])), (h24, .inr (5, [x27, x28, .int 0]))]) (w1 := [(h5, .inr (8, [x14, x15, x16, x17, .ref h18, .ref h19, x20, x21, x22, x23, .ref h24, .int 1, .int 1])), (h2, .inr (2, [x9, x10, x11, .int 0])), (h18, .inl (cy 1, 1000, .inl (upd g25 0 0))), (h19, .inl (cy 1, 1000, .inl (upd g26 0 0)))]) hP hD [5, 3, 0, 1] [2, 4, 6] rfl rfl (by decide) (by decide) hk1 hFc hP1 hD1
  have hP : va_P D vwCl [(h1, .inr (9, [.ref h2, .ref h3, x4, .ref h5, x6, x7, x8])), (h3, .inr (5, [x12, x13, .int 0])), (h24, .inr (5, [x27, x28, .int 0])), (h5, .inr (8, [x14, x15, x16, x17, .ref h18, .ref h19, x20, x21, x22, x23, .ref h24, .int 1, .int 1])), (h2, .inr (2, [x9, x10, x11, .int 0])), (h18, .inl (cy 1, 1000, .inl (upd g25 0 0))), (h19, .inl (cy 1, 1000, .inl (upd g26 0 0)))] H := hP
  have hD : va_D A [(h1, .inr (9, [.ref h2, .ref h3, x4, .ref h5, x6, x7, x8])), (h3, .inr (5, [x12, x13, .int 0])), (h24, .inr (5, [x27, x28, .int 0])), (h5, .inr (8, [x14, x15, x16, x17, .ref h18, .ref h19, x20, x21, x22, x23, .ref h24, .int 1, .int 1])), (h2, .inr (2, [x9, x10, x11, .int 0])), (h18, .inl (cy 1, 1000, .inl (upd g25 0 0))), (h19, .inl (cy 1, 1000, .inl (upd g26 0 0)))] := hD
  refine W.widen (k := 0) (n := 0) (Nat.le_of_ble_eq_true rfl) (Nat.le_of_ble_eq_true rfl) ?_
  have hP9 := hP.sub (ws' := [(h1, .inr (9, [.ref h2, .ref h3, x4, .ref h5, x6, x7, x8])), (h2, .inr (2, [x9, x10, x11, .int 0])), (h3, .inr (5, [x12, x13, .int 0])), (h5, .inr (8, [x14, x15, x16, x17, .ref h18, .ref h19, x20, x21, x22, x23, .ref h24, .int 1, .int 1])), (h18, .inl (cy 1, 1000, .inl (upd g25 0 0))), (h19, .inl (cy 1, 1000, .inl (upd g26 0 0))), (h24, .inr (5, [x27, x28, .int 0]))]) [0, 4, 1, 3, 5, 6, 2] rfl
  have hD9 := hD.sub (ws' := [(h1, .inr (9, [.ref h2, .ref h3, x4, .ref h5, x6, x7, x8])), (h2, .inr (2, [x9, x10, x11, .int 0])), (h3, .inr (5, [x12, x13, .int 0])), (h5, .inr (8, [x14, x15, x16, x17, .ref h18, .ref h19, x20, x21, x22, x23, .ref h24, .int 1, .int 1])), (h18, .inl (cy 1, 1000, .inl (upd g25 0 0))), (h19, .inl (cy 1, 1000, .inl (upd g26 0 0))), (h24, .inr (5, [x27, x28, .int 0]))]) [0, 4, 1, 3, 5, 6, 2] (by decide) rfl
  exact W.vret hx hb hr (fun t ht hW => ⟨⟨(), rfl, trivial, ⟨by rw [ht]; exact hP9, hD9⟩⟩, hS.F ht⟩) hS.2.2 dX7_lookAtPlays_15
theorem dX6_indexOf_0 : decode cX6_indexOf 0 = .ok (.iconst 0, 1) := by decide +kernel
theorem dX6_indexOf_1 : decode cX6_indexOf 1 = .ok (.istore_n 3, 1) := by decide +kernel
theorem dX6_indexOf_2 : decode cX6_indexOf 2 = .ok (.iconst 0, 1) := by decide +kernel
theorem dX6_indexOf_3 : decode cX6_indexOf 3 = .ok (.istore 4, 2) := by decide +kernel
theorem dX6_indexOf_5 : decode cX6_indexOf 5 = .ok (.iload 4, 2) := by decide +kernel
theorem dX6_indexOf_7 : decode cX6_indexOf 7 = .ok (.aload_n 1, 1) := by decide +kernel
theorem dX6_indexOf_8 : decode cX6_indexOf 8 = .ok (.getfield 56, 3) := by decide +kernel
theorem dX6_indexOf_11 : decode cX6_indexOf 11 = .ok (.if_icmp .ge 47, 3) := by decide +kernel
theorem dX6_indexOf_58 : decode cX6_indexOf 58 = .ok (.iload_n 3, 1) := by decide +kernel
theorem dX6_indexOf_59 : decode cX6_indexOf 59 = .ok (.ireturn, 1) := by decide +kernel
set_option maxHeartbeats 4000000 in
set_option maxRecDepth 100000 in
theorem k_X6_indexOf (l : Launch) (D : va_G) (cy : Nat → ClassId) (h1 : Nat) (h2 : Nat) (h3 : Nat) (x4 : Value) (x5 : Value) (x6 : Value) : Met l yX6_indexOf wsX6_indexOf ({ frames := 0, cells := 0, slots := 0, locals := 0 }) (kR D cy [.ref h1, .ref h2, .ref h3] [(h2, .inr (2, [x4, x5, x6, .int 0]))]) (va_Qi (fun (r : Int32) (_ : Unit) => r = 0 ∧ True) (fun (_ : Unit) (_ : State) => True) (fun _ : Nat => False)) 0 0 (fun _ : Nat => False) := by
  refine Met.ofW (cc := cX6_indexOf) (maxL := 5) (ret := (some .int)) (by decide) rfl ?_
  intro p e s m args below meth c s₁ B hml hv
  obtain ⟨rfl, hP, hK⟩ := hv
  have hx := B.exec
  have hb := B.bytes
  have hr := B.returns
  have hts := atoms_spec (ws := wsX6_indexOf) B.pre
  have hown : s.vm.findClass RX6 = some m.cls := findClass_of_methodNamed B.named
  have hlocks := B.notSynchronized
  have hS : va_S (fun _ : Nat => False) s.heap s.heap [] := va_S.rf
  have hP : va_P D vwCl [(h2, .inr (2, [x4, x5, x6, .int 0]))] s.heap := hP
  have hl := lv_entry ([.ref h1, .ref h2, .ref h3]) (n := 5) (Nat.le_of_ble_eq_true rfl)
  rw [lg_entry_eq]
  generalize (lg_sl ([.ref h1, .ref h2, .ref h3]) ++ List.replicate (5 - (lg_sl ([.ref h1, .ref h2, .ref h3])).length) Slot.unset).toArray = ls at hl ⊢
  have hl : lv_has ls 5 [(0, .ref h1), (1, .ref h2), (2, .ref h3)] := hl
  refine lv_iconst (v := 0) hx hb dX6_indexOf_0 (by decide) ?_
  refine lv_istore_n (lv' := [(3, .int 0), (0, .ref h1), (1, .ref h2), (2, .ref h3)]) hx hb dX6_indexOf_1 rfl hl (by decide) rfl (fun ls hl => ?_)
  refine lv_iconst (v := 0) hx hb dX6_indexOf_2 (by decide) ?_
  refine lv_istore (lv' := [(4, .int 0), (3, .int 0), (0, .ref h1), (1, .ref h2), (2, .ref h3)]) hx hb dX6_indexOf_3 hl (by decide) rfl (fun ls hl => ?_)
  refine lv_iload hx hb dX6_indexOf_5 (lv_at hl 0 rfl) ?_
  refine lv_aload_n hx hb dX6_indexOf_7 rfl (lv_at hl 3 rfl) ?_
  refine va_get (D := D) (ci := 2) (v := .int 0) (C := RX0) (T := TX0) (N := 4) hx hb hts (fun _ h => (List.mem_cons_of_mem _ (List.mem_append_left _ (List.mem_append_left _ (List.mem_append_left _ (List.mem_append_right _ h)))))) hown hK hP 0 rfl rfl 3 (by decide) (hts (.fieldLink RX6 56 "SelfishJunction$Board" "playerCount" "I") (List.mem_cons_of_mem _ (List.mem_append_left _ (List.mem_append_left _ (List.mem_append_left _ (List.mem_append_left _ (List.mem_of_getElem? (i := 0) rfl))))))) (fun _ h9 => h9) rfl dX6_indexOf_8 ?_
  refine lv_icmp_ge (tgt := 58) hx hb dX6_indexOf_11 (by decide) (fun _ => ?_) (fun h => absurd (by decide) h)
  refine lv_iload_n hx hb dX6_indexOf_58 rfl (lv_at hl 1 rfl) ?_
  refine W.widen (k := 0) (n := 0) (Nat.le_of_ble_eq_true rfl) (Nat.le_of_ble_eq_true rfl) ?_
  exact W.iret (v := 0) hx hb hr (fun t ht hW => ⟨⟨0, (), rfl, ⟨rfl, trivial⟩, trivial⟩, hS.F ht⟩) hS.2.2 dX6_indexOf_59
theorem dX6_forget_0 : decode cX6_forget 0 = .ok (.iconst 0, 1) := by decide +kernel
theorem dX6_forget_1 : decode cX6_forget 1 = .ok (.istore_n 1, 1) := by decide +kernel
theorem dX6_forget_2 : decode cX6_forget 2 = .ok (.iload_n 1, 1) := by decide +kernel
theorem dX6_forget_3 : decode cX6_forget 3 = .ok (.aload_n 0, 1) := by decide +kernel
theorem dX6_forget_4 : decode cX6_forget 4 = .ok (.getfield 98, 3) := by decide +kernel
theorem dX6_forget_7 : decode cX6_forget 7 = .ok (.if_icmp .ge 16, 3) := by decide +kernel
theorem dX6_forget_10 : decode cX6_forget 10 = .ok (.aload_n 0, 1) := by decide +kernel
theorem dX6_forget_11 : decode cX6_forget 11 = .ok (.getfield 30, 3) := by decide +kernel
theorem dX6_forget_14 : decode cX6_forget 14 = .ok (.iload_n 1, 1) := by decide +kernel
theorem dX6_forget_15 : decode cX6_forget 15 = .ok (.iconst 0, 1) := by decide +kernel
theorem dX6_forget_16 : decode cX6_forget 16 = .ok (.iastore, 1) := by decide +kernel
theorem dX6_forget_17 : decode cX6_forget 17 = .ok (.iinc 1 1, 3) := by decide +kernel
theorem dX6_forget_20 : decode cX6_forget 20 = .ok (.goto (-18), 3) := by decide +kernel
theorem dX6_forget_23 : decode cX6_forget 23 = .ok (.return_, 1) := by decide +kernel
set_option maxHeartbeats 4000000 in
set_option maxRecDepth 100000 in
theorem k_X6_forget (l : Launch) (D : va_G) (cy : Nat → ClassId) (h1 : Nat) (x2 : Value) (x3 : Value) (x4 : Value) (x5 : Value) (x6 : Value) (x7 : Value) (h8 : Nat) (x9 : Value) (x10 : Value) (x11 : Value) (x12 : Value) (x13 : Value) (g14 : Nat → Int32) (sz : Nat) : Met l yX6_forget wsX6_forget ({ frames := 0, cells := 0, slots := 0, locals := 0 }) (kW D cy [.ref h1] [(h1, .inr (8, [x2, x3, x4, x5, x6, x7, .ref h8, x9, x10, x11, x12, x13, .int 1])), (h8, .inl (cy 1, 1000, .inl g14))] sz) (va_Qv (fun (_ : Unit) => True) (fun (_ : Unit) (t : State) => va_P D vwCl [(h1, .inr (8, [x2, x3, x4, x5, x6, x7, .ref h8, x9, x10, x11, x12, x13, .int 1])), (h8, .inl (cy 1, 1000, .inl (upd g14 0 0)))] t.heap ∧ va_D (va_A [(h1, .inr (8, [x2, x3, x4, x5, x6, x7, .ref h8, x9, x10, x11, x12, x13, .int 1])), (h8, .inl (cy 1, 1000, .inl g14))] sz) [(h1, .inr (8, [x2, x3, x4, x5, x6, x7, .ref h8, x9, x10, x11, x12, x13, .int 1])), (h8, .inl (cy 1, 1000, .inl (upd g14 0 0)))]) (va_A [(h1, .inr (8, [x2, x3, x4, x5, x6, x7, .ref h8, x9, x10, x11, x12, x13, .int 1])), (h8, .inl (cy 1, 1000, .inl g14))] sz)) 0 0 (va_A [(h1, .inr (8, [x2, x3, x4, x5, x6, x7, .ref h8, x9, x10, x11, x12, x13, .int 1])), (h8, .inl (cy 1, 1000, .inl g14))] sz) := by
  refine Met.ofW (cc := cX6_forget) (maxL := 2) (ret := none) (by decide) rfl ?_
  intro p e s m args below meth c s₁ B hml hv
  obtain ⟨rfl, hsz, hP, hK, hD0⟩ := hv
  have hx := B.exec
  have hb := B.bytes
  have hr := B.returns
  have hts := atoms_spec (ws := wsX6_forget) B.pre
  have hown : s.vm.findClass RX6 = some m.cls := findClass_of_methodNamed B.named
  have hlocks := B.notSynchronized
  subst hsz
  have hD := hD0.self (sz := s.heap.size)
  generalize hAe : va_A [(h1, .inr (8, [x2, x3, x4, x5, x6, x7, .ref h8, x9, x10, x11, x12, x13, .int 1])), (h8, .inl (cy 1, 1000, .inl g14))] s.heap.size = A at hD ⊢
  have hA : ∀ q : Nat, s.heap.size ≤ q → A q := fun q h => by rw [← hAe]; exact Or.inr h
  have hS : va_S A s.heap s.heap [] := va_S.rf
  have hP : va_P D vwCl [(h1, .inr (8, [x2, x3, x4, x5, x6, x7, .ref h8, x9, x10, x11, x12, x13, .int 1])), (h8, .inl (cy 1, 1000, .inl g14))] s.heap := hP
  have hl := lv_entry ([.ref h1]) (n := 2) (Nat.le_of_ble_eq_true rfl)
  rw [lg_entry_eq]
  generalize (lg_sl ([.ref h1]) ++ List.replicate (2 - (lg_sl ([.ref h1])).length) Slot.unset).toArray = ls at hl ⊢
  have hl : lv_has ls 2 [(0, .ref h1)] := hl
  refine lv_iconst (v := 0) hx hb dX6_forget_0 (by decide) ?_
  refine lv_istore_n (lv' := [(1, .int 0), (0, .ref h1)]) hx hb dX6_forget_1 rfl hl (by decide) rfl (fun ls hl => ?_)
  refine lv_iload_n hx hb dX6_forget_2 rfl (lv_at hl 0 rfl) ?_
  refine lv_aload_n hx hb dX6_forget_3 rfl (lv_at hl 1 rfl) ?_
  refine va_get (D := D) (ci := 8) (v := .int 1) (C := RX6) (T := TX6) (N := 13) hx hb hts (fun _ h => (List.mem_cons_of_mem _ (List.mem_append_left _ (List.mem_append_right _ h)))) hown hK hP 0 rfl rfl 12 (by decide) (hts (.fieldLink RX6 98 "SelfishJunction$Survey" "filled" "I") (List.mem_cons_of_mem _ (List.mem_append_left _ (List.mem_append_left _ (List.mem_of_getElem? (i := 0) rfl))))) (fun _ h9 => h9) rfl dX6_forget_4 ?_
  refine lv_icmp_ge (tgt := 23) hx hb dX6_forget_7 (by decide) (fun h => absurd h (by decide)) (fun _ => ?_)
  refine lv_aload_n hx hb dX6_forget_10 rfl (lv_at hl 1 rfl) ?_
  refine va_get (D := D) (ci := 8) (v := .ref h8) (C := RX6) (T := TX6) (N := 13) hx hb hts (fun _ h => (List.mem_cons_of_mem _ (List.mem_append_left _ (List.mem_append_right _ h)))) hown hK hP 0 rfl rfl 6 (by decide) (hts (.fieldLink RX6 30 "SelfishJunction$Survey" "marks" "[I") (List.mem_cons_of_mem _ (List.mem_append_left _ (List.mem_append_left _ (List.mem_of_getElem? (i := 1) rfl))))) (fun _ h9 => h9) rfl dX6_forget_11 ?_
  refine lv_iload_n hx hb dX6_forget_14 rfl (lv_at hl 0 rfl) ?_
  refine lv_iconst (v := 0) hx hb dX6_forget_15 (by decide) ?_
  refine va_iast hx hb hK hP hD hS 1 1 rfl rfl (kx_in 0 1000 rfl ⟨(Nat.le_of_ble_eq_true rfl), (Nat.le_of_ble_eq_true rfl)⟩ (Nat.le_of_ble_eq_true rfl)) dX6_forget_16 (fun H locs hP hD hS => ?_)
  have hP : va_P D vwCl [(h1, .inr (8, [x2, x3, x4, x5, x6, x7, .ref h8, x9, x10, x11, x12, x13, .int 1])), (h8, .inl (cy 1, 1000, .inl (upd g14 0 0)))] H := hP
  have hD : va_D A [(h1, .inr (8, [x2, x3, x4, x5, x6, x7, .ref h8, x9, x10, x11, x12, x13, .int 1])), (h8, .inl (cy 1, 1000, .inl (upd g14 0 0)))] := hD
  refine lv_iinc (v := 1) (lv' := [(1, .int 1), (0, .ref h1)]) hx hb dX6_forget_17 hl (k := 0) rfl (by decide) (by decide) rfl (fun ls hl => ?_)
  refine lv_goto (tgt := 2) hx hb dX6_forget_20 (by decide) ?_
  refine lv_iload_n hx hb dX6_forget_2 rfl (lv_at hl 0 rfl) ?_
  refine lv_aload_n hx hb dX6_forget_3 rfl (lv_at hl 1 rfl) ?_
  refine va_get (D := D) (ci := 8) (v := .int 1) (C := RX6) (T := TX6) (N := 13) hx hb hts (fun _ h => (List.mem_cons_of_mem _ (List.mem_append_left _ (List.mem_append_right _ h)))) hown hK hP 0 rfl rfl 12 (by decide) (hts (.fieldLink RX6 98 "SelfishJunction$Survey" "filled" "I") (List.mem_cons_of_mem _ (List.mem_append_left _ (List.mem_append_left _ (List.mem_of_getElem? (i := 0) rfl))))) (fun _ h9 => h9) rfl dX6_forget_4 ?_
  refine lv_icmp_ge (tgt := 23) hx hb dX6_forget_7 (by decide) (fun _ => ?_) (fun h => absurd (by decide) h)
  refine W.widen (k := 0) (n := 0) (Nat.le_of_ble_eq_true rfl) (Nat.le_of_ble_eq_true rfl) ?_
  have hP9 := hP.sub (ws' := [(h1, .inr (8, [x2, x3, x4, x5, x6, x7, .ref h8, x9, x10, x11, x12, x13, .int 1])), (h8, .inl (cy 1, 1000, .inl (upd g14 0 0)))]) [0, 1] rfl
  have hD9 := hD.sub (ws' := [(h1, .inr (8, [x2, x3, x4, x5, x6, x7, .ref h8, x9, x10, x11, x12, x13, .int 1])), (h8, .inl (cy 1, 1000, .inl (upd g14 0 0)))]) [0, 1] (by decide) rfl
  exact W.vret hx hb hr (fun t ht hW => ⟨⟨(), rfl, trivial, ⟨by rw [ht]; exact hP9, hD9⟩⟩, hS.F ht⟩) hS.2.2 dX6_forget_23
theorem dX6_enter_0 : decode cX6_enter 0 = .ok (.aload_n 0, 1) := by decide +kernel
theorem dX6_enter_1 : decode cX6_enter 1 = .ok (.getfield 39, 3) := by decide +kernel
theorem dX6_enter_4 : decode cX6_enter 4 = .ok (.iload_n 2, 1) := by decide +kernel
theorem dX6_enter_5 : decode cX6_enter 5 = .ok (.iload_n 1, 1) := by decide +kernel
theorem dX6_enter_6 : decode cX6_enter 6 = .ok (.iastore, 1) := by decide +kernel
theorem dX6_enter_7 : decode cX6_enter 7 = .ok (.aload_n 0, 1) := by decide +kernel
theorem dX6_enter_8 : decode cX6_enter 8 = .ok (.getfield 30, 3) := by decide +kernel
theorem dX6_enter_11 : decode cX6_enter 11 = .ok (.iload_n 1, 1) := by decide +kernel
theorem dX6_enter_12 : decode cX6_enter 12 = .ok (.iconst 1, 1) := by decide +kernel
theorem dX6_enter_13 : decode cX6_enter 13 = .ok (.iastore, 1) := by decide +kernel
theorem dX6_enter_14 : decode cX6_enter 14 = .ok (.aload_n 0, 1) := by decide +kernel
theorem dX6_enter_15 : decode cX6_enter 15 = .ok (.getfield 36, 3) := by decide +kernel
theorem dX6_enter_18 : decode cX6_enter 18 = .ok (.iload_n 1, 1) := by decide +kernel
theorem dX6_enter_19 : decode cX6_enter 19 = .ok (.iconst 0, 1) := by decide +kernel
theorem dX6_enter_20 : decode cX6_enter 20 = .ok (.iastore, 1) := by decide +kernel
theorem dX6_enter_21 : decode cX6_enter 21 = .ok (.aload_n 0, 1) := by decide +kernel
theorem dX6_enter_22 : decode cX6_enter 22 = .ok (.getfield 33, 3) := by decide +kernel
theorem dX6_enter_25 : decode cX6_enter 25 = .ok (.iload_n 1, 1) := by decide +kernel
theorem dX6_enter_26 : decode cX6_enter 26 = .ok (.iconst 0, 1) := by decide +kernel
theorem dX6_enter_27 : decode cX6_enter 27 = .ok (.iastore, 1) := by decide +kernel
theorem dX6_enter_28 : decode cX6_enter 28 = .ok (.return_, 1) := by decide +kernel
set_option maxHeartbeats 4000000 in
set_option maxRecDepth 100000 in
theorem k_X6_enter (l : Launch) (D : va_G) (cy : Nat → ClassId) (h1 : Nat) (x2 : Value) (x3 : Value) (x4 : Value) (x5 : Value) (x6 : Value) (x7 : Value) (h8 : Nat) (h9 : Nat) (h10 : Nat) (h11 : Nat) (x12 : Value) (x13 : Value) (x14 : Value) (g15 : Nat → Int32) (g16 : Nat → Int32) (g17 : Nat → Int32) (g18 : Nat → Int32) (sz : Nat) : Met l yX6_enter wsX6_enter ({ frames := 0, cells := 0, slots := 0, locals := 0 }) (kW D cy [.ref h1, .int 0, .int 0] [(h1, .inr (8, [x2, x3, x4, x5, x6, x7, .ref h8, .ref h9, .ref h10, .ref h11, x12, x13, x14])), (h8, .inl (cy 1, 1000, .inl g15)), (h9, .inl (cy 1, 1000, .inl g16)), (h10, .inl (cy 1, 1000, .inl g17)), (h11, .inl (cy 1, 1000, .inl g18))] sz) (va_Qv (fun (_ : Unit) => True) (fun (_ : Unit) (t : State) => va_P D vwCl [(h1, .inr (8, [x2, x3, x4, x5, x6, x7, .ref h8, .ref h9, .ref h10, .ref h11, x12, x13, x14])), (h8, .inl (cy 1, 1000, .inl (upd g15 0 1))), (h9, .inl (cy 1, 1000, .inl (upd g16 0 0))), (h10, .inl (cy 1, 1000, .inl (upd g17 0 0))), (h11, .inl (cy 1, 1000, .inl (upd g18 0 0)))] t.heap ∧ va_D (va_A [(h1, .inr (8, [x2, x3, x4, x5, x6, x7, .ref h8, .ref h9, .ref h10, .ref h11, x12, x13, x14])), (h8, .inl (cy 1, 1000, .inl g15)), (h9, .inl (cy 1, 1000, .inl g16)), (h10, .inl (cy 1, 1000, .inl g17)), (h11, .inl (cy 1, 1000, .inl g18))] sz) [(h1, .inr (8, [x2, x3, x4, x5, x6, x7, .ref h8, .ref h9, .ref h10, .ref h11, x12, x13, x14])), (h8, .inl (cy 1, 1000, .inl (upd g15 0 1))), (h9, .inl (cy 1, 1000, .inl (upd g16 0 0))), (h10, .inl (cy 1, 1000, .inl (upd g17 0 0))), (h11, .inl (cy 1, 1000, .inl (upd g18 0 0)))]) (va_A [(h1, .inr (8, [x2, x3, x4, x5, x6, x7, .ref h8, .ref h9, .ref h10, .ref h11, x12, x13, x14])), (h8, .inl (cy 1, 1000, .inl g15)), (h9, .inl (cy 1, 1000, .inl g16)), (h10, .inl (cy 1, 1000, .inl g17)), (h11, .inl (cy 1, 1000, .inl g18))] sz)) 0 0 (va_A [(h1, .inr (8, [x2, x3, x4, x5, x6, x7, .ref h8, .ref h9, .ref h10, .ref h11, x12, x13, x14])), (h8, .inl (cy 1, 1000, .inl g15)), (h9, .inl (cy 1, 1000, .inl g16)), (h10, .inl (cy 1, 1000, .inl g17)), (h11, .inl (cy 1, 1000, .inl g18))] sz) := by
  refine Met.ofW (cc := cX6_enter) (maxL := 3) (ret := none) (by decide) rfl ?_
  intro p e s m args below meth c s₁ B hml hv
  obtain ⟨rfl, hsz, hP, hK, hD0⟩ := hv
  have hx := B.exec
  have hb := B.bytes
  have hr := B.returns
  have hts := atoms_spec (ws := wsX6_enter) B.pre
  have hown : s.vm.findClass RX6 = some m.cls := findClass_of_methodNamed B.named
  have hlocks := B.notSynchronized
  subst hsz
  have hD := hD0.self (sz := s.heap.size)
  generalize hAe : va_A [(h1, .inr (8, [x2, x3, x4, x5, x6, x7, .ref h8, .ref h9, .ref h10, .ref h11, x12, x13, x14])), (h8, .inl (cy 1, 1000, .inl g15)), (h9, .inl (cy 1, 1000, .inl g16)), (h10, .inl (cy 1, 1000, .inl g17)), (h11, .inl (cy 1, 1000, .inl g18))] s.heap.size = A at hD ⊢
  have hA : ∀ q : Nat, s.heap.size ≤ q → A q := fun q h => by rw [← hAe]; exact Or.inr h
  have hS : va_S A s.heap s.heap [] := va_S.rf
  have hP : va_P D vwCl [(h1, .inr (8, [x2, x3, x4, x5, x6, x7, .ref h8, .ref h9, .ref h10, .ref h11, x12, x13, x14])), (h8, .inl (cy 1, 1000, .inl g15)), (h9, .inl (cy 1, 1000, .inl g16)), (h10, .inl (cy 1, 1000, .inl g17)), (h11, .inl (cy 1, 1000, .inl g18))] s.heap := hP
  have hl := lv_entry ([.ref h1, .int 0, .int 0]) (n := 3) (Nat.le_of_ble_eq_true rfl)
  rw [lg_entry_eq]
  generalize (lg_sl ([.ref h1, .int 0, .int 0]) ++ List.replicate (3 - (lg_sl ([.ref h1, .int 0, .int 0])).length) Slot.unset).toArray = ls at hl ⊢
  have hl : lv_has ls 3 [(0, .ref h1), (1, .int 0), (2, .int 0)] := hl
  refine lv_aload_n hx hb dX6_enter_0 rfl (lv_at hl 0 rfl) ?_
  refine va_get (D := D) (ci := 8) (v := .ref h11) (C := RX6) (T := TX6) (N := 13) hx hb hts (fun _ h => (List.mem_cons_of_mem _ (List.mem_append_left _ (List.mem_append_right _ h)))) hown hK hP 0 rfl rfl 9 (by decide) (hts (.fieldLink RX6 39 "SelfishJunction$Survey" "stack" "[I") (List.mem_cons_of_mem _ (List.mem_append_left _ (List.mem_append_left _ (List.mem_of_getElem? (i := 0) rfl))))) (fun _ h9 => h9) rfl dX6_enter_1 ?_
  refine lv_iload_n hx hb dX6_enter_4 rfl (lv_at hl 2 rfl) ?_
  refine lv_iload_n hx hb dX6_enter_5 rfl (lv_at hl 1 rfl) ?_
  refine va_iast hx hb hK hP hD hS 4 1 rfl rfl (kx_in 0 1000 rfl ⟨(Nat.le_of_ble_eq_true rfl), (Nat.le_of_ble_eq_true rfl)⟩ (Nat.le_of_ble_eq_true rfl)) dX6_enter_6 (fun H locs hP hD hS => ?_)
  have hP : va_P D vwCl [(h1, .inr (8, [x2, x3, x4, x5, x6, x7, .ref h8, .ref h9, .ref h10, .ref h11, x12, x13, x14])), (h8, .inl (cy 1, 1000, .inl g15)), (h9, .inl (cy 1, 1000, .inl g16)), (h10, .inl (cy 1, 1000, .inl g17)), (h11, .inl (cy 1, 1000, .inl (upd g18 0 0)))] H := hP
  have hD : va_D A [(h1, .inr (8, [x2, x3, x4, x5, x6, x7, .ref h8, .ref h9, .ref h10, .ref h11, x12, x13, x14])), (h8, .inl (cy 1, 1000, .inl g15)), (h9, .inl (cy 1, 1000, .inl g16)), (h10, .inl (cy 1, 1000, .inl g17)), (h11, .inl (cy 1, 1000, .inl (upd g18 0 0)))] := hD
  refine lv_aload_n hx hb dX6_enter_7 rfl (lv_at hl 0 rfl) ?_
  refine va_get (D := D) (ci := 8) (v := .ref h8) (C := RX6) (T := TX6) (N := 13) hx hb hts (fun _ h => (List.mem_cons_of_mem _ (List.mem_append_left _ (List.mem_append_right _ h)))) hown hK hP 0 rfl rfl 6 (by decide) (hts (.fieldLink RX6 30 "SelfishJunction$Survey" "marks" "[I") (List.mem_cons_of_mem _ (List.mem_append_left _ (List.mem_append_left _ (List.mem_of_getElem? (i := 1) rfl))))) (fun _ h9 => h9) rfl dX6_enter_8 ?_
  refine lv_iload_n hx hb dX6_enter_11 rfl (lv_at hl 1 rfl) ?_
  refine lv_iconst (v := 1) hx hb dX6_enter_12 (by decide) ?_
  refine va_iast hx hb hK hP hD hS 1 1 rfl rfl (kx_in 0 1000 rfl ⟨(Nat.le_of_ble_eq_true rfl), (Nat.le_of_ble_eq_true rfl)⟩ (Nat.le_of_ble_eq_true rfl)) dX6_enter_13 (fun H locs hP hD hS => ?_)
  have hP : va_P D vwCl [(h1, .inr (8, [x2, x3, x4, x5, x6, x7, .ref h8, .ref h9, .ref h10, .ref h11, x12, x13, x14])), (h8, .inl (cy 1, 1000, .inl (upd g15 0 1))), (h9, .inl (cy 1, 1000, .inl g16)), (h10, .inl (cy 1, 1000, .inl g17)), (h11, .inl (cy 1, 1000, .inl (upd g18 0 0)))] H := hP
  have hD : va_D A [(h1, .inr (8, [x2, x3, x4, x5, x6, x7, .ref h8, .ref h9, .ref h10, .ref h11, x12, x13, x14])), (h8, .inl (cy 1, 1000, .inl (upd g15 0 1))), (h9, .inl (cy 1, 1000, .inl g16)), (h10, .inl (cy 1, 1000, .inl g17)), (h11, .inl (cy 1, 1000, .inl (upd g18 0 0)))] := hD
  refine lv_aload_n hx hb dX6_enter_14 rfl (lv_at hl 0 rfl) ?_
  refine va_get (D := D) (ci := 8) (v := .ref h10) (C := RX6) (T := TX6) (N := 13) hx hb hts (fun _ h => (List.mem_cons_of_mem _ (List.mem_append_left _ (List.mem_append_right _ h)))) hown hK hP 0 rfl rfl 8 (by decide) (hts (.fieldLink RX6 36 "SelfishJunction$Survey" "tried" "[I") (List.mem_cons_of_mem _ (List.mem_append_left _ (List.mem_append_left _ (List.mem_of_getElem? (i := 2) rfl))))) (fun _ h9 => h9) rfl dX6_enter_15 ?_
  refine lv_iload_n hx hb dX6_enter_18 rfl (lv_at hl 1 rfl) ?_
  refine lv_iconst (v := 0) hx hb dX6_enter_19 (by decide) ?_
  refine va_iast hx hb hK hP hD hS 3 1 rfl rfl (kx_in 0 1000 rfl ⟨(Nat.le_of_ble_eq_true rfl), (Nat.le_of_ble_eq_true rfl)⟩ (Nat.le_of_ble_eq_true rfl)) dX6_enter_20 (fun H locs hP hD hS => ?_)
  have hP : va_P D vwCl [(h1, .inr (8, [x2, x3, x4, x5, x6, x7, .ref h8, .ref h9, .ref h10, .ref h11, x12, x13, x14])), (h8, .inl (cy 1, 1000, .inl (upd g15 0 1))), (h9, .inl (cy 1, 1000, .inl g16)), (h10, .inl (cy 1, 1000, .inl (upd g17 0 0))), (h11, .inl (cy 1, 1000, .inl (upd g18 0 0)))] H := hP
  have hD : va_D A [(h1, .inr (8, [x2, x3, x4, x5, x6, x7, .ref h8, .ref h9, .ref h10, .ref h11, x12, x13, x14])), (h8, .inl (cy 1, 1000, .inl (upd g15 0 1))), (h9, .inl (cy 1, 1000, .inl g16)), (h10, .inl (cy 1, 1000, .inl (upd g17 0 0))), (h11, .inl (cy 1, 1000, .inl (upd g18 0 0)))] := hD
  refine lv_aload_n hx hb dX6_enter_21 rfl (lv_at hl 0 rfl) ?_
  refine va_get (D := D) (ci := 8) (v := .ref h9) (C := RX6) (T := TX6) (N := 13) hx hb hts (fun _ h => (List.mem_cons_of_mem _ (List.mem_append_left _ (List.mem_append_right _ h)))) hown hK hP 0 rfl rfl 7 (by decide) (hts (.fieldLink RX6 33 "SelfishJunction$Survey" "lengths" "[I") (List.mem_cons_of_mem _ (List.mem_append_left _ (List.mem_append_left _ (List.mem_of_getElem? (i := 3) rfl))))) (fun _ h9 => h9) rfl dX6_enter_22 ?_
  refine lv_iload_n hx hb dX6_enter_25 rfl (lv_at hl 1 rfl) ?_
  refine lv_iconst (v := 0) hx hb dX6_enter_26 (by decide) ?_
  refine va_iast hx hb hK hP hD hS 2 1 rfl rfl (kx_in 0 1000 rfl ⟨(Nat.le_of_ble_eq_true rfl), (Nat.le_of_ble_eq_true rfl)⟩ (Nat.le_of_ble_eq_true rfl)) dX6_enter_27 (fun H locs hP hD hS => ?_)
  have hP : va_P D vwCl [(h1, .inr (8, [x2, x3, x4, x5, x6, x7, .ref h8, .ref h9, .ref h10, .ref h11, x12, x13, x14])), (h8, .inl (cy 1, 1000, .inl (upd g15 0 1))), (h9, .inl (cy 1, 1000, .inl (upd g16 0 0))), (h10, .inl (cy 1, 1000, .inl (upd g17 0 0))), (h11, .inl (cy 1, 1000, .inl (upd g18 0 0)))] H := hP
  have hD : va_D A [(h1, .inr (8, [x2, x3, x4, x5, x6, x7, .ref h8, .ref h9, .ref h10, .ref h11, x12, x13, x14])), (h8, .inl (cy 1, 1000, .inl (upd g15 0 1))), (h9, .inl (cy 1, 1000, .inl (upd g16 0 0))), (h10, .inl (cy 1, 1000, .inl (upd g17 0 0))), (h11, .inl (cy 1, 1000, .inl (upd g18 0 0)))] := hD
  refine W.widen (k := 0) (n := 0) (Nat.le_of_ble_eq_true rfl) (Nat.le_of_ble_eq_true rfl) ?_
  have hP9 := hP.sub (ws' := [(h1, .inr (8, [x2, x3, x4, x5, x6, x7, .ref h8, .ref h9, .ref h10, .ref h11, x12, x13, x14])), (h8, .inl (cy 1, 1000, .inl (upd g15 0 1))), (h9, .inl (cy 1, 1000, .inl (upd g16 0 0))), (h10, .inl (cy 1, 1000, .inl (upd g17 0 0))), (h11, .inl (cy 1, 1000, .inl (upd g18 0 0)))]) [0, 1, 2, 3, 4] rfl
  have hD9 := hD.sub (ws' := [(h1, .inr (8, [x2, x3, x4, x5, x6, x7, .ref h8, .ref h9, .ref h10, .ref h11, x12, x13, x14])), (h8, .inl (cy 1, 1000, .inl (upd g15 0 1))), (h9, .inl (cy 1, 1000, .inl (upd g16 0 0))), (h10, .inl (cy 1, 1000, .inl (upd g17 0 0))), (h11, .inl (cy 1, 1000, .inl (upd g18 0 0)))]) [0, 1, 2, 3, 4] (by decide) rfl
  exact W.vret hx hb hr (fun t ht hW => ⟨⟨(), rfl, trivial, ⟨by rw [ht]; exact hP9, hD9⟩⟩, hS.F ht⟩) hS.2.2 dX6_enter_28
theorem dX7_hasBit_0 : decode cX7_hasBit 0 = .ok (.iload_n 0, 1) := by decide +kernel
theorem dX7_hasBit_1 : decode cX7_hasBit 1 = .ok (.iload_n 1, 1) := by decide +kernel
theorem dX7_hasBit_2 : decode cX7_hasBit 2 = .ok (.ishr, 1) := by decide +kernel
theorem dX7_hasBit_3 : decode cX7_hasBit 3 = .ok (.iconst 1, 1) := by decide +kernel
theorem dX7_hasBit_4 : decode cX7_hasBit 4 = .ok (.iand, 1) := by decide +kernel
theorem dX7_hasBit_5 : decode cX7_hasBit 5 = .ok (.ifCond .eq 7, 3) := by decide +kernel
theorem dX7_hasBit_12 : decode cX7_hasBit 12 = .ok (.iconst 0, 1) := by decide +kernel
theorem dX7_hasBit_13 : decode cX7_hasBit 13 = .ok (.ireturn, 1) := by decide +kernel
set_option maxHeartbeats 4000000 in
set_option maxRecDepth 100000 in
theorem k_X7_hasBit (l : Launch) (D : va_G) (cy : Nat → ClassId) : Met l yX7_hasBit wsX7_hasBit ({ frames := 0, cells := 0, slots := 0, locals := 0 }) (kR D cy [.int 0, .int 0] []) (va_Qi (fun (r : Int32) (_ : Unit) => r = 0 ∧ True) (fun (_ : Unit) (_ : State) => True) (fun _ : Nat => False)) 0 0 (fun _ : Nat => False) := by
  refine Met.ofW (cc := cX7_hasBit) (maxL := 2) (ret := (some .boolean)) (by decide) rfl ?_
  intro p e s m args below meth c s₁ B hml hv
  obtain ⟨rfl, hP, hK⟩ := hv
  have hx := B.exec
  have hb := B.bytes
  have hr := B.returns
  have hts := atoms_spec (ws := wsX7_hasBit) B.pre
  have hown : s.vm.findClass RX7 = some m.cls := findClass_of_methodNamed B.named
  have hlocks := B.notSynchronized
  have hS : va_S (fun _ : Nat => False) s.heap s.heap [] := va_S.rf
  have hP : va_P D vwCl [] s.heap := hP
  have hl := lv_entry ([.int 0, .int 0]) (n := 2) (Nat.le_of_ble_eq_true rfl)
  rw [lg_entry_eq]
  generalize (lg_sl ([.int 0, .int 0]) ++ List.replicate (2 - (lg_sl ([.int 0, .int 0])).length) Slot.unset).toArray = ls at hl ⊢
  have hl : lv_has ls 2 [(0, .int 0), (1, .int 0)] := hl
  refine lv_iload_n hx hb dX7_hasBit_0 rfl (lv_at hl 0 rfl) ?_
  refine lv_iload_n hx hb dX7_hasBit_1 rfl (lv_at hl 1 rfl) ?_
  refine lv_ishr hx hb dX7_hasBit_2 ?_
  refine lv_topi (fun v_1 ev_1 => ?_)
  obtain rfl : v_1 = 0 := ev_1.trans (by decide)
  refine lv_iconst (v := 1) hx hb dX7_hasBit_3 (by decide) ?_
  refine lv_iand hx hb dX7_hasBit_4 ?_
  refine lv_topi (fun v_2 ev_2 => ?_)
  obtain rfl : v_2 = 0 := ev_2.trans (by decide)
  refine lv_if_eq (tgt := 12) hx hb dX7_hasBit_5 (by decide) (fun _ => ?_) (fun h => absurd (by decide) h)
  refine lv_iconst (v := 0) hx hb dX7_hasBit_12 (by decide) ?_
  refine W.widen (k := 0) (n := 0) (Nat.le_of_ble_eq_true rfl) (Nat.le_of_ble_eq_true rfl) ?_
  exact W.zret (v := 0) hx hb hr rfl (fun t ht hW => ⟨⟨0, (), rfl, ⟨rfl, trivial⟩, trivial⟩, hS.F ht⟩) hS.2.2 dX7_hasBit_13
set_option maxHeartbeats 4000000 in
set_option maxRecDepth 100000 in
theorem k_X7_hasBit_1 (l : Launch) (D : va_G) (cy : Nat → ClassId) : Met l yX7_hasBit wsX7_hasBit ({ frames := 0, cells := 0, slots := 0, locals := 0 }) (kR D cy [.int 0, .int 1] []) (va_Qi (fun (r : Int32) (_ : Unit) => r = 0 ∧ True) (fun (_ : Unit) (_ : State) => True) (fun _ : Nat => False)) 0 0 (fun _ : Nat => False) := by
  refine Met.ofW (cc := cX7_hasBit) (maxL := 2) (ret := (some .boolean)) (by decide) rfl ?_
  intro p e s m args below meth c s₁ B hml hv
  obtain ⟨rfl, hP, hK⟩ := hv
  have hx := B.exec
  have hb := B.bytes
  have hr := B.returns
  have hts := atoms_spec (ws := wsX7_hasBit) B.pre
  have hown : s.vm.findClass RX7 = some m.cls := findClass_of_methodNamed B.named
  have hlocks := B.notSynchronized
  have hS : va_S (fun _ : Nat => False) s.heap s.heap [] := va_S.rf
  have hP : va_P D vwCl [] s.heap := hP
  have hl := lv_entry ([.int 0, .int 1]) (n := 2) (Nat.le_of_ble_eq_true rfl)
  rw [lg_entry_eq]
  generalize (lg_sl ([.int 0, .int 1]) ++ List.replicate (2 - (lg_sl ([.int 0, .int 1])).length) Slot.unset).toArray = ls at hl ⊢
  have hl : lv_has ls 2 [(0, .int 0), (1, .int 1)] := hl
  refine lv_iload_n hx hb dX7_hasBit_0 rfl (lv_at hl 0 rfl) ?_
  refine lv_iload_n hx hb dX7_hasBit_1 rfl (lv_at hl 1 rfl) ?_
  refine lv_ishr hx hb dX7_hasBit_2 ?_
  refine lv_topi (fun v_1 ev_1 => ?_)
  obtain rfl : v_1 = 0 := ev_1.trans (by decide)
  refine lv_iconst (v := 1) hx hb dX7_hasBit_3 (by decide) ?_
  refine lv_iand hx hb dX7_hasBit_4 ?_
  refine lv_topi (fun v_2 ev_2 => ?_)
  obtain rfl : v_2 = 0 := ev_2.trans (by decide)
  refine lv_if_eq (tgt := 12) hx hb dX7_hasBit_5 (by decide) (fun _ => ?_) (fun h => absurd (by decide) h)
  refine lv_iconst (v := 0) hx hb dX7_hasBit_12 (by decide) ?_
  refine W.widen (k := 0) (n := 0) (Nat.le_of_ble_eq_true rfl) (Nat.le_of_ble_eq_true rfl) ?_
  exact W.zret (v := 0) hx hb hr rfl (fun t ht hW => ⟨⟨0, (), rfl, ⟨rfl, trivial⟩, trivial⟩, hS.F ht⟩) hS.2.2 dX7_hasBit_13
set_option maxHeartbeats 4000000 in
set_option maxRecDepth 100000 in
theorem k_X7_hasBit_2 (l : Launch) (D : va_G) (cy : Nat → ClassId) : Met l yX7_hasBit wsX7_hasBit ({ frames := 0, cells := 0, slots := 0, locals := 0 }) (kR D cy [.int 0, .int 2] []) (va_Qi (fun (r : Int32) (_ : Unit) => r = 0 ∧ True) (fun (_ : Unit) (_ : State) => True) (fun _ : Nat => False)) 0 0 (fun _ : Nat => False) := by
  refine Met.ofW (cc := cX7_hasBit) (maxL := 2) (ret := (some .boolean)) (by decide) rfl ?_
  intro p e s m args below meth c s₁ B hml hv
  obtain ⟨rfl, hP, hK⟩ := hv
  have hx := B.exec
  have hb := B.bytes
  have hr := B.returns
  have hts := atoms_spec (ws := wsX7_hasBit) B.pre
  have hown : s.vm.findClass RX7 = some m.cls := findClass_of_methodNamed B.named
  have hlocks := B.notSynchronized
  have hS : va_S (fun _ : Nat => False) s.heap s.heap [] := va_S.rf
  have hP : va_P D vwCl [] s.heap := hP
  have hl := lv_entry ([.int 0, .int 2]) (n := 2) (Nat.le_of_ble_eq_true rfl)
  rw [lg_entry_eq]
  generalize (lg_sl ([.int 0, .int 2]) ++ List.replicate (2 - (lg_sl ([.int 0, .int 2])).length) Slot.unset).toArray = ls at hl ⊢
  have hl : lv_has ls 2 [(0, .int 0), (1, .int 2)] := hl
  refine lv_iload_n hx hb dX7_hasBit_0 rfl (lv_at hl 0 rfl) ?_
  refine lv_iload_n hx hb dX7_hasBit_1 rfl (lv_at hl 1 rfl) ?_
  refine lv_ishr hx hb dX7_hasBit_2 ?_
  refine lv_topi (fun v_1 ev_1 => ?_)
  obtain rfl : v_1 = 0 := ev_1.trans (by decide)
  refine lv_iconst (v := 1) hx hb dX7_hasBit_3 (by decide) ?_
  refine lv_iand hx hb dX7_hasBit_4 ?_
  refine lv_topi (fun v_2 ev_2 => ?_)
  obtain rfl : v_2 = 0 := ev_2.trans (by decide)
  refine lv_if_eq (tgt := 12) hx hb dX7_hasBit_5 (by decide) (fun _ => ?_) (fun h => absurd (by decide) h)
  refine lv_iconst (v := 0) hx hb dX7_hasBit_12 (by decide) ?_
  refine W.widen (k := 0) (n := 0) (Nat.le_of_ble_eq_true rfl) (Nat.le_of_ble_eq_true rfl) ?_
  exact W.zret (v := 0) hx hb hr rfl (fun t ht hW => ⟨⟨0, (), rfl, ⟨rfl, trivial⟩, trivial⟩, hS.F ht⟩) hS.2.2 dX7_hasBit_13
set_option maxHeartbeats 4000000 in
set_option maxRecDepth 100000 in
theorem k_X7_hasBit_3 (l : Launch) (D : va_G) (cy : Nat → ClassId) : Met l yX7_hasBit wsX7_hasBit ({ frames := 0, cells := 0, slots := 0, locals := 0 }) (kR D cy [.int 0, .int 3] []) (va_Qi (fun (r : Int32) (_ : Unit) => r = 0 ∧ True) (fun (_ : Unit) (_ : State) => True) (fun _ : Nat => False)) 0 0 (fun _ : Nat => False) := by
  refine Met.ofW (cc := cX7_hasBit) (maxL := 2) (ret := (some .boolean)) (by decide) rfl ?_
  intro p e s m args below meth c s₁ B hml hv
  obtain ⟨rfl, hP, hK⟩ := hv
  have hx := B.exec
  have hb := B.bytes
  have hr := B.returns
  have hts := atoms_spec (ws := wsX7_hasBit) B.pre
  have hown : s.vm.findClass RX7 = some m.cls := findClass_of_methodNamed B.named
  have hlocks := B.notSynchronized
  have hS : va_S (fun _ : Nat => False) s.heap s.heap [] := va_S.rf
  have hP : va_P D vwCl [] s.heap := hP
  have hl := lv_entry ([.int 0, .int 3]) (n := 2) (Nat.le_of_ble_eq_true rfl)
  rw [lg_entry_eq]
  generalize (lg_sl ([.int 0, .int 3]) ++ List.replicate (2 - (lg_sl ([.int 0, .int 3])).length) Slot.unset).toArray = ls at hl ⊢
  have hl : lv_has ls 2 [(0, .int 0), (1, .int 3)] := hl
  refine lv_iload_n hx hb dX7_hasBit_0 rfl (lv_at hl 0 rfl) ?_
  refine lv_iload_n hx hb dX7_hasBit_1 rfl (lv_at hl 1 rfl) ?_
  refine lv_ishr hx hb dX7_hasBit_2 ?_
  refine lv_topi (fun v_1 ev_1 => ?_)
  obtain rfl : v_1 = 0 := ev_1.trans (by decide)
  refine lv_iconst (v := 1) hx hb dX7_hasBit_3 (by decide) ?_
  refine lv_iand hx hb dX7_hasBit_4 ?_
  refine lv_topi (fun v_2 ev_2 => ?_)
  obtain rfl : v_2 = 0 := ev_2.trans (by decide)
  refine lv_if_eq (tgt := 12) hx hb dX7_hasBit_5 (by decide) (fun _ => ?_) (fun h => absurd (by decide) h)
  refine lv_iconst (v := 0) hx hb dX7_hasBit_12 (by decide) ?_
  refine W.widen (k := 0) (n := 0) (Nat.le_of_ble_eq_true rfl) (Nat.le_of_ble_eq_true rfl) ?_
  exact W.zret (v := 0) hx hb hr rfl (fun t ht hW => ⟨⟨0, (), rfl, ⟨rfl, trivial⟩, trivial⟩, hS.F ht⟩) hS.2.2 dX7_hasBit_13
set_option maxHeartbeats 4000000 in
set_option maxRecDepth 100000 in
theorem k_X7_hasBit_4 (l : Launch) (D : va_G) (cy : Nat → ClassId) : Met l yX7_hasBit wsX7_hasBit ({ frames := 0, cells := 0, slots := 0, locals := 0 }) (kR D cy [.int 0, .int 4] []) (va_Qi (fun (r : Int32) (_ : Unit) => r = 0 ∧ True) (fun (_ : Unit) (_ : State) => True) (fun _ : Nat => False)) 0 0 (fun _ : Nat => False) := by
  refine Met.ofW (cc := cX7_hasBit) (maxL := 2) (ret := (some .boolean)) (by decide) rfl ?_
  intro p e s m args below meth c s₁ B hml hv
  obtain ⟨rfl, hP, hK⟩ := hv
  have hx := B.exec
  have hb := B.bytes
  have hr := B.returns
  have hts := atoms_spec (ws := wsX7_hasBit) B.pre
  have hown : s.vm.findClass RX7 = some m.cls := findClass_of_methodNamed B.named
  have hlocks := B.notSynchronized
  have hS : va_S (fun _ : Nat => False) s.heap s.heap [] := va_S.rf
  have hP : va_P D vwCl [] s.heap := hP
  have hl := lv_entry ([.int 0, .int 4]) (n := 2) (Nat.le_of_ble_eq_true rfl)
  rw [lg_entry_eq]
  generalize (lg_sl ([.int 0, .int 4]) ++ List.replicate (2 - (lg_sl ([.int 0, .int 4])).length) Slot.unset).toArray = ls at hl ⊢
  have hl : lv_has ls 2 [(0, .int 0), (1, .int 4)] := hl
  refine lv_iload_n hx hb dX7_hasBit_0 rfl (lv_at hl 0 rfl) ?_
  refine lv_iload_n hx hb dX7_hasBit_1 rfl (lv_at hl 1 rfl) ?_
  refine lv_ishr hx hb dX7_hasBit_2 ?_
  refine lv_topi (fun v_1 ev_1 => ?_)
  obtain rfl : v_1 = 0 := ev_1.trans (by decide)
  refine lv_iconst (v := 1) hx hb dX7_hasBit_3 (by decide) ?_
  refine lv_iand hx hb dX7_hasBit_4 ?_
  refine lv_topi (fun v_2 ev_2 => ?_)
  obtain rfl : v_2 = 0 := ev_2.trans (by decide)
  refine lv_if_eq (tgt := 12) hx hb dX7_hasBit_5 (by decide) (fun _ => ?_) (fun h => absurd (by decide) h)
  refine lv_iconst (v := 0) hx hb dX7_hasBit_12 (by decide) ?_
  refine W.widen (k := 0) (n := 0) (Nat.le_of_ble_eq_true rfl) (Nat.le_of_ble_eq_true rfl) ?_
  exact W.zret (v := 0) hx hb hr rfl (fun t ht hW => ⟨⟨0, (), rfl, ⟨rfl, trivial⟩, trivial⟩, hS.F ht⟩) hS.2.2 dX7_hasBit_13
set_option maxHeartbeats 4000000 in
set_option maxRecDepth 100000 in
theorem k_X7_hasBit_5 (l : Launch) (D : va_G) (cy : Nat → ClassId) : Met l yX7_hasBit wsX7_hasBit ({ frames := 0, cells := 0, slots := 0, locals := 0 }) (kR D cy [.int 0, .int 5] []) (va_Qi (fun (r : Int32) (_ : Unit) => r = 0 ∧ True) (fun (_ : Unit) (_ : State) => True) (fun _ : Nat => False)) 0 0 (fun _ : Nat => False) := by
  refine Met.ofW (cc := cX7_hasBit) (maxL := 2) (ret := (some .boolean)) (by decide) rfl ?_
  intro p e s m args below meth c s₁ B hml hv
  obtain ⟨rfl, hP, hK⟩ := hv
  have hx := B.exec
  have hb := B.bytes
  have hr := B.returns
  have hts := atoms_spec (ws := wsX7_hasBit) B.pre
  have hown : s.vm.findClass RX7 = some m.cls := findClass_of_methodNamed B.named
  have hlocks := B.notSynchronized
  have hS : va_S (fun _ : Nat => False) s.heap s.heap [] := va_S.rf
  have hP : va_P D vwCl [] s.heap := hP
  have hl := lv_entry ([.int 0, .int 5]) (n := 2) (Nat.le_of_ble_eq_true rfl)
  rw [lg_entry_eq]
  generalize (lg_sl ([.int 0, .int 5]) ++ List.replicate (2 - (lg_sl ([.int 0, .int 5])).length) Slot.unset).toArray = ls at hl ⊢
  have hl : lv_has ls 2 [(0, .int 0), (1, .int 5)] := hl
  refine lv_iload_n hx hb dX7_hasBit_0 rfl (lv_at hl 0 rfl) ?_
  refine lv_iload_n hx hb dX7_hasBit_1 rfl (lv_at hl 1 rfl) ?_
  refine lv_ishr hx hb dX7_hasBit_2 ?_
  refine lv_topi (fun v_1 ev_1 => ?_)
  obtain rfl : v_1 = 0 := ev_1.trans (by decide)
  refine lv_iconst (v := 1) hx hb dX7_hasBit_3 (by decide) ?_
  refine lv_iand hx hb dX7_hasBit_4 ?_
  refine lv_topi (fun v_2 ev_2 => ?_)
  obtain rfl : v_2 = 0 := ev_2.trans (by decide)
  refine lv_if_eq (tgt := 12) hx hb dX7_hasBit_5 (by decide) (fun _ => ?_) (fun h => absurd (by decide) h)
  refine lv_iconst (v := 0) hx hb dX7_hasBit_12 (by decide) ?_
  refine W.widen (k := 0) (n := 0) (Nat.le_of_ble_eq_true rfl) (Nat.le_of_ble_eq_true rfl) ?_
  exact W.zret (v := 0) hx hb hr rfl (fun t ht hW => ⟨⟨0, (), rfl, ⟨rfl, trivial⟩, trivial⟩, hS.F ht⟩) hS.2.2 dX7_hasBit_13
