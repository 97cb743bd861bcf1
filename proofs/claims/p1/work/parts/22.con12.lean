theorem dL_isStrong_0 : decode cL_isStrong 0 = .ok (.aload_n 1, 1) := by decide +kernel
theorem dL_isStrong_1 : decode cL_isStrong 1 = .ok (.iconst 0, 1) := by decide +kernel
theorem dL_isStrong_2 : decode cL_isStrong 2 = .ok (.aload_n 0, 1) := by decide +kernel
theorem dL_isStrong_3 : decode cL_isStrong 3 = .ok (.invokevirtual 114, 3) := by decide +kernel
set_option maxRecDepth 20000 in
theorem ggL_isStrong_X7_isStrong : GoodIn wsL_isStrong wsX7_isStrong := goodIn_ca (goodIn_ca (goodIn_ca (goodIn_r _ [6, 7, 8, 9, 10, 11, 12, 13, 14, 5, 15, 16, 17, 18, 19, 20, 21, 22, 23, 24, 25, 26, 27, 28, 29, 30, 31, 32, 33, 34, 35, 36, 37, 38, 39, 40, 41, 42, 43, 44, 45, 46, 47, 48, 49, 50, 51, 52, 53, 54, 55, 56, 57, 58, 59, 60, 61, 62, 63, 64, 65, 66, 67, 68, 69, 70, 71, 72, 73, 74, 75, 76, 77, 78, 79, 80, 81, 82, 83, 84, 85, 86, 87, 88, 89, 90, 91, 92, 93, 94, 95, 96, 97, 98, 99, 100, 101, 102, 103, 104, 105, 106, 107, 108, 109, 110, 111, 112, 113, 114, 115, 116, 117, 118, 119, 120, 121, 122, 123, 124, 125, 126, 127, 128, 129, 130, 131, 132, 133, 134, 135, 136, 137, 138, 139, 140] (by decide +kernel) (by decide +kernel)) (goodIn_sub (fun _ h => List.mem_cons_of_mem _ (List.mem_append_left _ (List.mem_append_right _ h))) (by decide +kernel))) (goodIn_sub (fun _ h => List.mem_cons_of_mem _ (List.mem_append_left _ (List.mem_append_left _ (List.mem_append_right _ h)))) (by decide +kernel))) (goodIn_sub (fun _ h => List.mem_cons_of_mem _ (List.mem_append_right _ h)) (by decide +kernel))
set_option maxRecDepth 20000 in
theorem gL_isStrong_X7_isStrong : GoodIn wsL_isStrong (wsV RL 114 RX7 yX7_isStrong wsX7_isStrong) := goodIn_app (goodIn_of _ (by decide +kernel)) ggL_isStrong_X7_isStrong
theorem dL_isStrong_6 : decode cL_isStrong 6 = .ok (.ifCond .eq 7, 3) := by decide +kernel
theorem dL_isStrong_9 : decode cL_isStrong 9 = .ok (.lconst 1, 1) := by decide +kernel
theorem dL_isStrong_10 : decode cL_isStrong 10 = .ok (.goto 4, 3) := by decide +kernel
theorem dL_isStrong_14 : decode cL_isStrong 14 = .ok (.lastore, 1) := by decide +kernel
theorem dL_isStrong_15 : decode cL_isStrong 15 = .ok (.goto 6, 3) := by decide +kernel
theorem dL_isStrong_21 : decode cL_isStrong 21 = .ok (.iconst 0, 1) := by decide +kernel
theorem dL_isStrong_22 : decode cL_isStrong 22 = .ok (.ireturn, 1) := by decide +kernel
set_option maxHeartbeats 4000000 in
set_option maxRecDepth 100000 in
theorem k_L_isStrong (l : Launch) (D : va_G) (cy : Nat → ClassId) (h1 : Nat) (h2 : Nat) (h3 : Nat) (h4 : Nat) (x5 : Value) (h6 : Nat) (x7 : Value) (x8 : Value) (x9 : Value) (g10 : Nat → Int64) (x11 : Value) (x12 : Value) (x13 : Value) (x14 : Value) (x15 : Value) (x16 : Value) (x17 : Value) (x18 : Value) (x19 : Value) (x20 : Value) (x21 : Value) (x22 : Value) (x23 : Value) (x24 : Value) (x25 : Value) (h26 : Nat) (x27 : Value) (x28 : Value) (x29 : Value) (x30 : Value) (sz : Nat) : Met l yL_isStrong wsL_isStrong ({ frames := 3, cells := 0, slots := 0, locals := 66 }) (kW D cy [.ref h1, .ref h2] [(h1, .inr (9, [.ref h3, .ref h4, x5, .ref h6, x7, x8, x9])), (h2, .inl (cy 2, 1, .inr (.inl g10))), (h3, .inr (2, [x11, x12, x13, .int 0])), (h4, .inr (5, [x14, x15, .int 0])), (h6, .inr (8, [x16, x17, x18, x19, x20, x21, x22, x23, x24, x25, .ref h26, .int 0, x27])), (h26, .inr (5, [x28, x29, x30]))] sz) (va_Qi (fun (r : Int32) (_ : Unit) => r = 0 ∧ True) (fun (_ : Unit) (t : State) => va_P D vwCl [(h2, .inl (cy 2, 1, .inr (.inl (vp_updL g10 0 1))))] t.heap ∧ va_D (va_A [(h1, .inr (9, [.ref h3, .ref h4, x5, .ref h6, x7, x8, x9])), (h2, .inl (cy 2, 1, .inr (.inl g10))), (h3, .inr (2, [x11, x12, x13, .int 0])), (h4, .inr (5, [x14, x15, .int 0])), (h6, .inr (8, [x16, x17, x18, x19, x20, x21, x22, x23, x24, x25, .ref h26, .int 0, x27])), (h26, .inr (5, [x28, x29, x30]))] sz) [(h2, .inl (cy 2, 1, .inr (.inl (vp_updL g10 0 1))))]) (va_A [(h1, .inr (9, [.ref h3, .ref h4, x5, .ref h6, x7, x8, x9])), (h2, .inl (cy 2, 1, .inr (.inl g10))), (h3, .inr (2, [x11, x12, x13, .int 0])), (h4, .inr (5, [x14, x15, .int 0])), (h6, .inr (8, [x16, x17, x18, x19, x20, x21, x22, x23, x24, x25, .ref h26, .int 0, x27])), (h26, .inr (5, [x28, x29, x30]))] sz)) 0 0 (va_A [(h1, .inr (9, [.ref h3, .ref h4, x5, .ref h6, x7, x8, x9])), (h2, .inl (cy 2, 1, .inr (.inl g10))), (h3, .inr (2, [x11, x12, x13, .int 0])), (h4, .inr (5, [x14, x15, .int 0])), (h6, .inr (8, [x16, x17, x18, x19, x20, x21, x22, x23, x24, x25, .ref h26, .int 0, x27])), (h26, .inr (5, [x28, x29, x30]))] sz) := by
  refine va_MetW (cc := cL_isStrong) (maxL := 3) (ret := (some .int)) (by decide) rfl ?_
  intro p e s m args below meth c s₁ B hml hv
  obtain ⟨rfl, hsz, hP, hK, hD0⟩ := hv
  have hx := B.exec
  have hb := B.bytes
  have hr := B.returns
  have hts := atoms_spec (ws := wsL_isStrong) B.pre
  have hown : s.vm.findClass RL = some m.cls := findClass_of_methodNamed B.named
  have hlocks := B.notSynchronized
  have htb := vx_table (x := yL_isStrong) B (hts _ (List.mem_cons_self))
  subst hsz
  have hD := hD0.self (sz := s.heap.size)
  generalize hAe : va_A [(h1, .inr (9, [.ref h3, .ref h4, x5, .ref h6, x7, x8, x9])), (h2, .inl (cy 2, 1, .inr (.inl g10))), (h3, .inr (2, [x11, x12, x13, .int 0])), (h4, .inr (5, [x14, x15, .int 0])), (h6, .inr (8, [x16, x17, x18, x19, x20, x21, x22, x23, x24, x25, .ref h26, .int 0, x27])), (h26, .inr (5, [x28, x29, x30]))] s.heap.size = A at hD ⊢
  have hA : ∀ q : Nat, s.heap.size ≤ q → A q := fun q h => by rw [← hAe]; exact Or.inr h
  have hS : va_S A s.heap s.heap [] := va_S.rf
  have hP : va_P D vwCl [(h1, .inr (9, [.ref h3, .ref h4, x5, .ref h6, x7, x8, x9])), (h2, .inl (cy 2, 1, .inr (.inl g10))), (h3, .inr (2, [x11, x12, x13, .int 0])), (h4, .inr (5, [x14, x15, .int 0])), (h6, .inr (8, [x16, x17, x18, x19, x20, x21, x22, x23, x24, x25, .ref h26, .int 0, x27])), (h26, .inr (5, [x28, x29, x30]))] s.heap := hP
  have hl := lv_entry ([.ref h1, .ref h2]) (n := 3) (Nat.le_of_ble_eq_true rfl)
  rw [lg_entry_eq]
  generalize (lg_sl ([.ref h1, .ref h2]) ++ List.replicate (3 - (lg_sl ([.ref h1, .ref h2])).length) Slot.unset).toArray = ls at hl ⊢
  have hl : lv_has ls 3 [(0, .ref h1), (1, .ref h2)] := hl
  refine lv_aload_n hx hb dL_isStrong_0 rfl (lv_at hl 1 rfl) ?_
  refine lv_iconst (v := 0) hx hb dL_isStrong_1 (by decide) ?_
  refine lv_aload_n hx hb dL_isStrong_2 rfl (lv_at hl 0 rfl) ?_
  have hPc := hP.sub (ws' := [(h1, .inr (9, [.ref h3, .ref h4, x5, .ref h6, x7, x8, x9])), (h3, .inr (2, [x11, x12, x13, .int 0])), (h4, .inr (5, [x14, x15, .int 0])), (h6, .inr (8, [x16, x17, x18, x19, x20, x21, x22, x23, x24, x25, .ref h26, .int 0, x27])), (h26, .inr (5, [x28, x29, x30]))]) [0, 2, 3, 4, 5] rfl
  have hDc := hD.sub (ws' := [(h1, .inr (9, [.ref h3, .ref h4, x5, .ref h6, x7, x8, x9])), (h3, .inr (2, [x11, x12, x13, .int 0])), (h4, .inr (5, [x14, x15, .int 0])), (h6, .inr (8, [x16, x17, x18, x19, x20, x21, x22, x23, x24, x25, .ref h26, .int 0, x27])), (h26, .inr (5, [x28, x29, x30]))]) [0, 2, 3, 4, 5] (by decide) rfl
  have hFc := va_free (wc := [(h1, .inr (9, [.ref h3, .ref h4, x5, .ref h6, x7, x8, x9])), (h3, .inr (2, [x11, x12, x13, .int 0])), (h4, .inr (5, [x14, x15, .int 0])), (h6, .inr (8, [x16, x17, x18, x19, x20, x21, x22, x23, x24, x25, .ref h26, .int 0, x27])), (h26, .inr (5, [x28, x29, x30]))]) hD hS hA [0, 2, 3, 4, 5] rfl
  refine va_calli (va_runV (As := []) (rest := [.int 0, .ref h2]) ⟨hx, hb, hml, hown, hts⟩ (k_X7_isStrong l D cy h1 h3 h4 (x5) h6 (x7) (x8) (x9) (x11) (x12) (x13) (x14) (x15) (x16) (x17) (x18) (x19) (x20) (x21) (x22) (x23) (x24) (x25) h26 (x27) (x28) (x29) (x30) s.heap.size) (cwV 0 hts gL_isStrong_X7_isStrong rfl rfl rfl (by decide +kernel) ⟨(Nat.le_of_ble_eq_true rfl), (Nat.le_of_ble_eq_true rfl)⟩) ⟨kW_fb, va_recv hK hP (ci := 9) (q0 := 0) rfl rfl, (kW_go hPc hK hDc)⟩ rfl rfl hl.1 rfl (lv_room (Nat.le_of_ble_eq_true rfl)) dL_isStrong_3 ⟨(Nat.le_of_ble_eq_true rfl), (Nat.le_of_ble_eq_true rfl)⟩) hS (fun q _ h => hFc q h) hFc (fun r9 u t H locs ht hvm hw hB hz1 hk1 hS => ?_)
  obtain ⟨hP1, hD1⟩ := hB
  rw [ht] at hP1
  try dsimp only at hw hP1 hD1
  obtain ⟨hP, hD⟩ := va_join (wr := [(h2, .inl (cy 2, 1, .inr (.inl g10)))]) (w1 := [(h1, .inr (9, [.ref h3, .ref h4, x5, .ref h6, x7, x8, x9])), (h3, .inr (2, [x11, x12, x13, .int 0])), (h4, .inr (5, [x14, x15, .int 0])), (h6, .inr (8, [x16, x17, x18, x19, x20, x21, x22, x23, x24, x25, .ref h26, .int 1, x27])), (h26, .inr (5, [x28, x29, .int 0]))]) hP hD [0, 2, 3, 4, 5] [1] rfl rfl (by decide) (by decide) hk1 hFc hP1 hD1
  have hP : va_P D vwCl [(h2, .inl (cy 2, 1, .inr (.inl g10))), (h1, .inr (9, [.ref h3, .ref h4, x5, .ref h6, x7, x8, x9])), (h3, .inr (2, [x11, x12, x13, .int 0])), (h4, .inr (5, [x14, x15, .int 0])), (h6, .inr (8, [x16, x17, x18, x19, x20, x21, x22, x23, x24, x25, .ref h26, .int 1, x27])), (h26, .inr (5, [x28, x29, .int 0]))] H := hP
  have hD : va_D A [(h2, .inl (cy 2, 1, .inr (.inl g10))), (h1, .inr (9, [.ref h3, .ref h4, x5, .ref h6, x7, x8, x9])), (h3, .inr (2, [x11, x12, x13, .int 0])), (h4, .inr (5, [x14, x15, .int 0])), (h6, .inr (8, [x16, x17, x18, x19, x20, x21, x22, x23, x24, x25, .ref h26, .int 1, x27])), (h26, .inr (5, [x28, x29, .int 0]))] := hD
  obtain ⟨rfl, hw⟩ := hw
  refine lv_if_eq (tgt := 13) hx hb dL_isStrong_6 (by decide) (fun h => absurd h (by decide)) (fun _ => ?_)
  refine lv_lconst (v := 1) hx hb dL_isStrong_9 (by decide) ?_
  refine lv_goto (tgt := 14) hx hb dL_isStrong_10 (by decide) ?_
  refine va_last hx hb hK hP hD hS 0 2 rfl rfl (kx_in 0 1 rfl ⟨(Nat.le_of_ble_eq_true rfl), (Nat.le_of_ble_eq_true rfl)⟩ (Nat.le_of_ble_eq_true rfl)) dL_isStrong_14 (fun H locs hP hD hS => ?_)
  have hP : va_P D vwCl [(h2, .inl (cy 2, 1, .inr (.inl (vp_updL g10 0 1)))), (h1, .inr (9, [.ref h3, .ref h4, x5, .ref h6, x7, x8, x9])), (h3, .inr (2, [x11, x12, x13, .int 0])), (h4, .inr (5, [x14, x15, .int 0])), (h6, .inr (8, [x16, x17, x18, x19, x20, x21, x22, x23, x24, x25, .ref h26, .int 1, x27])), (h26, .inr (5, [x28, x29, .int 0]))] H := hP
  have hD : va_D A [(h2, .inl (cy 2, 1, .inr (.inl (vp_updL g10 0 1)))), (h1, .inr (9, [.ref h3, .ref h4, x5, .ref h6, x7, x8, x9])), (h3, .inr (2, [x11, x12, x13, .int 0])), (h4, .inr (5, [x14, x15, .int 0])), (h6, .inr (8, [x16, x17, x18, x19, x20, x21, x22, x23, x24, x25, .ref h26, .int 1, x27])), (h26, .inr (5, [x28, x29, .int 0]))] := hD
  refine lv_goto (tgt := 21) hx hb dL_isStrong_15 (by decide) ?_
  refine lv_iconst (v := 0) hx hb dL_isStrong_21 (by decide) ?_
  refine W.widen (k := 0) (n := 0) (Nat.le_of_ble_eq_true rfl) (Nat.le_of_ble_eq_true rfl) ?_
  have hP9 := hP.sub (ws' := [(h2, .inl (cy 2, 1, .inr (.inl (vp_updL g10 0 1))))]) [0] rfl
  have hD9 := hD.sub (ws' := [(h2, .inl (cy 2, 1, .inr (.inl (vp_updL g10 0 1))))]) [0] (by decide) rfl
  exact W.iret (v := 0) hx hb hr (fun t ht hW => ⟨⟨0, (), rfl, ⟨rfl, trivial⟩, ⟨by rw [ht]; exact hP9, hD9⟩⟩, hS.F ht⟩) hS.2.2 dL_isStrong_22
theorem dX8_isStrong_0 : decode cX8_isStrong 0 = .ok (.aload_n 0, 1) := by decide +kernel
theorem dX8_isStrong_1 : decode cX8_isStrong 1 = .ok (.aload_n 0, 1) := by decide +kernel
theorem dX8_isStrong_2 : decode cX8_isStrong 2 = .ok (.invokevirtual 240, 3) := by decide +kernel
set_option maxRecDepth 20000 in
theorem ggX8_isStrong_X8_areMany : GoodIn wsX8_isStrong wsX8_areMany := goodIn_ca (goodIn_r _ [8, 9, 10, 11, 7, 12, 2, 13, 14, 15, 16, 17, 18, 19, 20, 160, 161, 162, 163, 164, 165, 166, 167, 168, 169, 170, 171, 172, 173, 174, 175, 176, 177] (by decide +kernel) (by decide +kernel)) (goodIn_sub (fun _ h => List.mem_cons_of_mem _ (List.mem_append_left _ (List.mem_append_right _ h))) (by decide +kernel))
set_option maxRecDepth 20000 in
theorem gX8_isStrong_X8_areMany : GoodIn wsX8_isStrong (wsV RX8 240 RX8 yX8_areMany wsX8_areMany) := goodIn_app (goodIn_of _ (by decide +kernel)) ggX8_isStrong_X8_areMany
theorem dX8_isStrong_5 : decode cX8_isStrong 5 = .ok (.iconst 1, 1) := by decide +kernel
theorem dX8_isStrong_6 : decode cX8_isStrong 6 = .ok (.invokevirtual 73, 3) := by decide +kernel
set_option maxRecDepth 20000 in
theorem ggX8_isStrong_X8_isThrown : GoodIn wsX8_isStrong wsX8_isThrown := goodIn_r _ [24, 25, 160, 161, 162, 163, 164, 165, 166, 167, 168, 169, 170, 171, 172, 173, 174, 175, 176, 177] (by decide +kernel) (by decide +kernel)
set_option maxRecDepth 20000 in
theorem gX8_isStrong_X8_isThrown : GoodIn wsX8_isStrong (wsV RX8 73 RX8 yX8_isThrown wsX8_isThrown) := goodIn_app (goodIn_of _ (by decide +kernel)) ggX8_isStrong_X8_isThrown
theorem dX8_isStrong_9 : decode cX8_isStrong 9 = .ok (.ifCond .eq 5, 3) := by decide +kernel
theorem dX8_isStrong_14 : decode cX8_isStrong 14 = .ok (.iconst 1, 1) := by decide +kernel
theorem dX8_isStrong_15 : decode cX8_isStrong 15 = .ok (.istore_n 1, 1) := by decide +kernel
theorem dX8_isStrong_16 : decode cX8_isStrong 16 = .ok (.aload_n 0, 1) := by decide +kernel
theorem dX8_isStrong_17 : decode cX8_isStrong 17 = .ok (.invokevirtual 233, 3) := by decide +kernel
set_option maxRecDepth 20000 in
theorem ggX8_isStrong_X8_all : GoodIn wsX8_isStrong wsX8_all := goodIn_ca (goodIn_r _ [29, 30, 31, 32, 3, 33, 34, 35, 36, 37, 1, 38, 39, 40, 41, 42, 43, 44, 45, 46, 47, 48, 49, 50, 51, 52, 53, 54, 55, 56, 57, 7, 58, 2, 14, 13, 59, 60, 61, 62, 63, 64, 65, 66, 67, 68, 69, 70, 71, 72, 73, 74, 75, 76, 77, 78, 79, 80, 81, 82, 83, 84, 85, 86, 87, 88, 89, 90, 91, 92, 93, 94, 95, 96, 97, 98, 99, 100, 101, 102, 103, 104, 105, 106, 107, 108, 109, 110, 111, 15, 16, 17, 18, 19, 20, 178, 179, 180, 160, 161, 162, 163, 164, 165, 166, 167, 168, 169, 170, 171, 172, 173, 174, 175, 176, 177] (by decide +kernel) (by decide +kernel)) (goodIn_sub (fun _ h => List.mem_cons_of_mem _ (List.mem_append_left _ (List.mem_append_right _ h))) (by decide +kernel))
set_option maxRecDepth 20000 in
theorem gX8_isStrong_X8_all : GoodIn wsX8_isStrong (wsV RX8 233 RX8 yX8_all wsX8_all) := goodIn_app (goodIn_of _ (by decide +kernel)) ggX8_isStrong_X8_all
theorem dX8_isStrong_20 : decode cX8_isStrong 20 = .ok (.invokevirtual 211, 3) := by decide +kernel
set_option maxRecDepth 20000 in
theorem ggX8_isStrong_Jx4a65c_iterator_32c93 : GoodIn wsX8_isStrong wsJx4a65c_iterator_32c93 := goodIn_r _ [115, 116, 117, 118, 119, 120, 121, 122, 123, 53, 54, 124, 125, 64, 126, 181, 182, 183, 184, 178, 179, 180] (by decide +kernel) (by decide +kernel)
set_option maxRecDepth 20000 in
theorem gX8_isStrong_Jx4a65c_iterator_32c93 : GoodIn wsX8_isStrong (wsV RX8 211 RJx4a65c yJx4a65c_iterator_32c93 wsJx4a65c_iterator_32c93) := goodIn_app (goodIn_of _ (by decide +kernel)) ggX8_isStrong_Jx4a65c_iterator_32c93
theorem dX8_isStrong_23 : decode cX8_isStrong 23 = .ok (.astore_n 2, 1) := by decide +kernel
theorem dX8_isStrong_24 : decode cX8_isStrong 24 = .ok (.aload_n 2, 1) := by decide +kernel
theorem dX8_isStrong_25 : decode cX8_isStrong 25 = .ok (.invokeinterface 215 1, 5) := by decide +kernel
set_option maxRecDepth 20000 in
theorem ggX8_isStrong_Jx35411_hasNext_aae02 : GoodIn wsX8_isStrong wsJx35411_hasNext_aae02 := goodIn_r _ [130, 131, 122, 181, 182, 183, 184, 178, 179, 180] (by decide +kernel) (by decide +kernel)
set_option maxRecDepth 20000 in
theorem gX8_isStrong_Jx35411_hasNext_aae02_f215Jx35411 : GoodIn wsX8_isStrong (va_wsF RX8 215 RJx35411 ⟨"java/util/Iterator", "hasNext", "()Z"⟩ yJx35411_hasNext_aae02 wsJx35411_hasNext_aae02) := goodIn_app (goodIn_of _ (by decide +kernel)) ggX8_isStrong_Jx35411_hasNext_aae02
theorem dX8_isStrong_30 : decode cX8_isStrong 30 = .ok (.ifCond .eq 121, 3) := by decide +kernel
theorem dX8_isStrong_33 : decode cX8_isStrong 33 = .ok (.aload_n 2, 1) := by decide +kernel
theorem dX8_isStrong_34 : decode cX8_isStrong 34 = .ok (.invokeinterface 220 1, 5) := by decide +kernel
set_option maxRecDepth 20000 in
theorem ggX8_isStrong_Jx35411_next_0502b : GoodIn wsX8_isStrong wsJx35411_next_0502b := goodIn_r _ [135, 131, 122, 136, 124, 137, 138, 139, 118, 140, 125, 64, 126, 181, 182, 183, 184, 178, 179, 180] (by decide +kernel) (by decide +kernel)
set_option maxRecDepth 20000 in
theorem gX8_isStrong_Jx35411_next_0502b_f220Jx35411 : GoodIn wsX8_isStrong (va_wsF RX8 220 RJx35411 ⟨"java/util/Iterator", "next", "()Ljava/lang/Object;"⟩ yJx35411_next_0502b wsJx35411_next_0502b) := goodIn_app (goodIn_of _ (by decide +kernel)) ggX8_isStrong_Jx35411_next_0502b
theorem dX8_isStrong_39 : decode cX8_isStrong 39 = .ok (.checkcast 156, 3) := by decide +kernel
theorem dX8_isStrong_42 : decode cX8_isStrong 42 = .ok (.astore_n 3, 1) := by decide +kernel
theorem dX8_isStrong_43 : decode cX8_isStrong 43 = .ok (.iconst 0, 1) := by decide +kernel
theorem dX8_isStrong_44 : decode cX8_isStrong 44 = .ok (.istore 4, 2) := by decide +kernel
theorem dX8_isStrong_46 : decode cX8_isStrong 46 = .ok (.iconst 1, 1) := by decide +kernel
theorem dX8_isStrong_47 : decode cX8_isStrong 47 = .ok (.istore 5, 2) := by decide +kernel
theorem dX8_isStrong_49 : decode cX8_isStrong 49 = .ok (.iconst 0, 1) := by decide +kernel
theorem dX8_isStrong_50 : decode cX8_isStrong 50 = .ok (.istore 6, 2) := by decide +kernel
theorem dX8_isStrong_52 : decode cX8_isStrong 52 = .ok (.iload 6, 2) := by decide +kernel
theorem dX8_isStrong_54 : decode cX8_isStrong 54 = .ok (.aload_n 0, 1) := by decide +kernel
theorem dX8_isStrong_55 : decode cX8_isStrong 55 = .ok (.getfield 85, 3) := by decide +kernel
theorem dX8_isStrong_58 : decode cX8_isStrong 58 = .ok (.if_icmp .ge 72, 3) := by decide +kernel
theorem dX8_isStrong_130 : decode cX8_isStrong 130 = .ok (.iload_n 1, 1) := by decide +kernel
theorem dX8_isStrong_131 : decode cX8_isStrong 131 = .ok (.iload 4, 2) := by decide +kernel
theorem dX8_isStrong_133 : decode cX8_isStrong 133 = .ok (.ifCond .eq 8, 3) := by decide +kernel
theorem dX8_isStrong_141 : decode cX8_isStrong 141 = .ok (.iconst 1, 1) := by decide +kernel
theorem dX8_isStrong_142 : decode cX8_isStrong 142 = .ok (.goto 4, 3) := by decide +kernel
theorem dX8_isStrong_146 : decode cX8_isStrong 146 = .ok (.iand, 1) := by decide +kernel
theorem dX8_isStrong_147 : decode cX8_isStrong 147 = .ok (.istore_n 1, 1) := by decide +kernel
theorem dX8_isStrong_148 : decode cX8_isStrong 148 = .ok (.goto (-124), 3) := by decide +kernel
theorem dX8_isStrong_151 : decode cX8_isStrong 151 = .ok (.iload_n 1, 1) := by decide +kernel
theorem dX8_isStrong_152 : decode cX8_isStrong 152 = .ok (.ireturn, 1) := by decide +kernel
set_option maxHeartbeats 4000000 in
set_option maxRecDepth 100000 in
theorem k_X8_isStrong (l : Launch) (hl9 : l.stackTraces = false) (D : va_G) (cy : Nat → ClassId) (de : Nat) (h1 : Nat) (x2 : Value) (x3 : Value) (x4 : Value) (x5 : Value) (x6 : Value) (x7 : Value) (x8 : Value) (x9 : Value) (x10 : Value) (x11 : Value) (x12 : Value) (x13 : Value) (h14 : Nat) (x15 : Value) (x16 : Value) (x17 : Value) (x18 : Value) (g19 : Nat → Int32) (sz : Nat) : Met l yX8_isStrong wsX8_isStrong ({ frames := 7, cells := 5, slots := 29, locals := 147 }) (kWY D cy de [.ref h1] [(h1, .inr (10, [x2, x3, x4, x5, x6, x7, x8, x9, x10, x11, x12, x13, .ref h14, x15, x16, .int 0, x17, x18])), (h14, .inl (cy 1, 6, .inl g19))] sz) (va_Qi (fun (r : Int32) (_ : Unit) => r = 1 ∧ True) (fun (_ : Unit) (t : State) => va_P D vwCl [(h1, .inr (10, [x2, x3, x4, x5, x6, x7, x8, x9, x10, x11, x12, x13, .ref h14, x15, x16, .int 0, x17, .int 0])), (h14, .inl (cy 1, 6, .inl g19))] t.heap ∧ va_D (va_A [(h1, .inr (10, [x2, x3, x4, x5, x6, x7, x8, x9, x10, x11, x12, x13, .ref h14, x15, x16, .int 0, x17, x18])), (h14, .inl (cy 1, 6, .inl g19))] sz) [(h1, .inr (10, [x2, x3, x4, x5, x6, x7, x8, x9, x10, x11, x12, x13, .ref h14, x15, x16, .int 0, x17, .int 0])), (h14, .inl (cy 1, 6, .inl g19))]) (va_A [(h1, .inr (10, [x2, x3, x4, x5, x6, x7, x8, x9, x10, x11, x12, x13, .ref h14, x15, x16, .int 0, x17, x18])), (h14, .inl (cy 1, 6, .inl g19))] sz)) 5 29 (va_A [(h1, .inr (10, [x2, x3, x4, x5, x6, x7, x8, x9, x10, x11, x12, x13, .ref h14, x15, x16, .int 0, x17, x18])), (h14, .inl (cy 1, 6, .inl g19))] sz) := by
  refine Met.ofW (cc := cX8_isStrong) (maxL := 8) (ret := (some .boolean)) (by decide) rfl ?_
  intro p e s m args below meth c s₁ B hml hv
  obtain ⟨rfl, hsz, hP, hK, hD0, hE, hY⟩ := hv
  have hx := B.exec
  have hb := B.bytes
  have hr := B.returns
  have hts := atoms_spec (ws := wsX8_isStrong) B.pre
  have hown : s.vm.findClass RX8 = some m.cls := findClass_of_methodNamed B.named
  have hlocks := B.notSynchronized
  subst hsz
  have hD := hD0.self (sz := s.heap.size)
  generalize hAe : va_A [(h1, .inr (10, [x2, x3, x4, x5, x6, x7, x8, x9, x10, x11, x12, x13, .ref h14, x15, x16, .int 0, x17, x18])), (h14, .inl (cy 1, 6, .inl g19))] s.heap.size = A at hD hE hY ⊢
  have hA : ∀ q : Nat, s.heap.size ≤ q → A q := fun q h => by rw [← hAe]; exact Or.inr h
  have hS : va_S A s.heap s.heap [] := va_S.rf
  have hP : va_P D vwCl [(h1, .inr (10, [x2, x3, x4, x5, x6, x7, x8, x9, x10, x11, x12, x13, .ref h14, x15, x16, .int 0, x17, x18])), (h14, .inl (cy 1, 6, .inl g19))] s.heap := hP
  have hl := lv_entry ([.ref h1]) (n := 8) (Nat.le_of_ble_eq_true rfl)
  rw [lg_entry_eq]
  generalize (lg_sl ([.ref h1]) ++ List.replicate (8 - (lg_sl ([.ref h1])).length) Slot.unset).toArray = ls at hl ⊢
  have hl : lv_has ls 8 [(0, .ref h1)] := hl
  refine lv_aload_n hx hb dX8_isStrong_0 rfl (lv_at hl 0 rfl) ?_
  refine lv_aload_n hx hb dX8_isStrong_1 rfl (lv_at hl 0 rfl) ?_
  have hPc := hP.sub (ws' := [(h1, .inr (10, [x2, x3, x4, x5, x6, x7, x8, x9, x10, x11, x12, x13, .ref h14, x15, x16, .int 0, x17, x18]))]) [0] rfl
  refine va_calli (va_runV (As := []) (rest := [.ref h1]) ⟨hx, hb, hml, hown, hts⟩ (k_X8_areMany l D cy h1 (x2) (x3) (x4) (x5) (x6) (x7) (x8) (x9) (x10) (x11) (x12) (x13) (.ref h14) (x15) (x16) (x17) (x18)) (cwV 0 hts gX8_isStrong_X8_areMany rfl rfl rfl (by decide +kernel) ⟨(Nat.le_of_ble_eq_true rfl), (Nat.le_of_ble_eq_true rfl)⟩) ⟨kR_fb, va_recv hK hP (ci := 10) (q0 := 0) rfl rfl, (kR_go hPc hK)⟩ rfl rfl hl.1 rfl (lv_room (Nat.le_of_ble_eq_true rfl)) dX8_isStrong_2 ⟨(Nat.le_of_ble_eq_true rfl), (Nat.le_of_ble_eq_true rfl)⟩) hS (fun _ _ h => h.elim) (fun _ h => h.elim) (fun r9 u t H locs ht hvm hw hB hz1 hk1 hS => ?_)
  have hP := kx_kept hP hk1
  obtain ⟨rfl, hw⟩ := hw
  refine lv_iconst (v := 1) hx hb dX8_isStrong_5 (by decide) ?_
  have hPc := hP.sub (ws' := [(h1, .inr (10, [x2, x3, x4, x5, x6, x7, x8, x9, x10, x11, x12, x13, .ref h14, x15, x16, .int 0, x17, x18]))]) [0] rfl
  have hDc := hD.sub (ws' := [(h1, .inr (10, [x2, x3, x4, x5, x6, x7, x8, x9, x10, x11, x12, x13, .ref h14, x15, x16, .int 0, x17, x18]))]) [0] (by decide) rfl
  have hFc := va_free (wc := [(h1, .inr (10, [x2, x3, x4, x5, x6, x7, x8, x9, x10, x11, x12, x13, .ref h14, x15, x16, .int 0, x17, x18]))]) hD hS hA [0] rfl
  refine va_calli (va_runV (As := [.int 0, .int 1]) (rest := []) ⟨hx, hb, hml, hown, hts⟩ (k_X8_isThrown_1 l D cy h1 (x2) (x3) (x4) (x5) (x6) (x7) (x8) (x9) (x10) (x11) (x12) (x13) (.ref h14) (x15) (x16) (.int 0) (x17) (x18) H.size) (cwV 2 hts gX8_isStrong_X8_isThrown rfl rfl rfl (by decide +kernel) ⟨(Nat.le_of_ble_eq_true rfl), (Nat.le_of_ble_eq_true rfl)⟩) ⟨kW_fb, va_recv hK hP (ci := 10) (q0 := 0) rfl rfl, (kW_go hPc hK hDc)⟩ rfl rfl hl.1 rfl (lv_room (Nat.le_of_ble_eq_true rfl)) dX8_isStrong_6 ⟨(Nat.le_of_ble_eq_true rfl), (Nat.le_of_ble_eq_true rfl)⟩) hS (fun q _ h => hFc q h) hFc (fun r9 u t H locs ht hvm hw hB hz1 hk1 hS => ?_)
  obtain ⟨hP1, hD1⟩ := hB
  rw [ht] at hP1
  try dsimp only at hw hP1 hD1
  obtain ⟨hP, hD⟩ := va_join (wr := [(h14, .inl (cy 1, 6, .inl g19))]) (w1 := [(h1, .inr (10, [x2, x3, x4, x5, x6, x7, x8, x9, x10, x11, x12, x13, .ref h14, x15, x16, .int 0, x17, .int 0]))]) hP hD [0] [1] rfl rfl (by decide) (by decide) hk1 hFc hP1 hD1
  have hP : va_P D vwCl [(h14, .inl (cy 1, 6, .inl g19)), (h1, .inr (10, [x2, x3, x4, x5, x6, x7, x8, x9, x10, x11, x12, x13, .ref h14, x15, x16, .int 0, x17, .int 0]))] H := hP
  have hD : va_D A [(h14, .inl (cy 1, 6, .inl g19)), (h1, .inr (10, [x2, x3, x4, x5, x6, x7, x8, x9, x10, x11, x12, x13, .ref h14, x15, x16, .int 0, x17, .int 0]))] := hD
  obtain ⟨rfl, hw⟩ := hw
  refine lv_if_eq (tgt := 14) hx hb dX8_isStrong_9 (by decide) (fun _ => ?_) (fun h => absurd (by decide) h)
  refine lv_iconst (v := 1) hx hb dX8_isStrong_14 (by decide) ?_
  refine lv_istore_n (lv' := [(1, .int 1), (0, .ref h1)]) hx hb dX8_isStrong_15 rfl hl (by decide) rfl (fun ls hl => ?_)
  refine lv_aload_n hx hb dX8_isStrong_16 rfl (lv_at hl 1 rfl) ?_
  have hPc := hP.sub (ws' := [(h1, .inr (10, [x2, x3, x4, x5, x6, x7, x8, x9, x10, x11, x12, x13, .ref h14, x15, x16, .int 0, x17, .int 0])), (h14, .inl (cy 1, 6, .inl g19))]) [1, 0] rfl
  have hDc := hD.sub (ws' := [(h1, .inr (10, [x2, x3, x4, x5, x6, x7, x8, x9, x10, x11, x12, x13, .ref h14, x15, x16, .int 0, x17, .int 0])), (h14, .inl (cy 1, 6, .inl g19))]) [1, 0] (by decide) rfl
  have hFc := va_free (wc := [(h1, .inr (10, [x2, x3, x4, x5, x6, x7, x8, x9, x10, x11, x12, x13, .ref h14, x15, x16, .int 0, x17, .int 0])), (h14, .inl (cy 1, 6, .inl g19))]) hD hS hA [1, 0] rfl
  refine va_callr (va_runV (As := []) (rest := []) ⟨hx, hb, hml, hown, hts⟩ (k_X8_all l hl9 D cy de h1 (x2) (x3) (x4) (x5) (x6) (x7) (x8) (x9) (x10) (x11) (x12) (x13) h14 (x15) (x16) (x17) (.int 0) g19 H.size) (cwV 0 hts gX8_isStrong_X8_all rfl rfl rfl (by decide +kernel) ⟨(Nat.le_of_ble_eq_true rfl), (Nat.le_of_ble_eq_true rfl)⟩) ⟨kWY_fb, va_recv hK hP (ci := 10) (q0 := 1) rfl rfl, (kWY_go hPc hK hDc hFc hE hY hS)⟩ rfl rfl hl.1 rfl (lv_room (Nat.le_of_ble_eq_true rfl)) dX8_isStrong_17 ⟨(Nat.le_of_ble_eq_true rfl), (Nat.le_of_ble_eq_true rfl)⟩) hS (fun q _ h => hFc q h) hFc (fun u r9 t H locs ht hvm hw hB hz1 hk1 hS => ?_)
  obtain ⟨z_3, z_4, u_5, z_6⟩ := u
  obtain ⟨e9, hB⟩ := hB
  have e9 := e9.symm
  subst e9
  obtain ⟨hP1, hD1⟩ := hB
  rw [ht] at hP1
  try dsimp only at hw hP1 hD1
  obtain ⟨hP, hD⟩ := va_join (wr := []) (w1 := [(h1, .inr (10, [x2, x3, x4, x5, x6, x7, x8, x9, x10, x11, x12, x13, .ref h14, x15, x16, .int 0, x17, .int 0])), (h14, .inl (cy 1, 6, .inl g19)), (z_3, .inr (1, [.int 1, .ref z_4, .int 1])), (z_4, .inl (cy 7, 10, .inr (.inr (.inr (.inr u_5))))), (z_6, .inl (cy 1, 6, .inl g19))]) hP hD [1, 0] [] rfl rfl (by decide) (by decide) hk1 hFc hP1 hD1
  have hP : va_P D vwCl [(h1, .inr (10, [x2, x3, x4, x5, x6, x7, x8, x9, x10, x11, x12, x13, .ref h14, x15, x16, .int 0, x17, .int 0])), (h14, .inl (cy 1, 6, .inl g19)), (z_3, .inr (1, [.int 1, .ref z_4, .int 1])), (z_4, .inl (cy 7, 10, .inr (.inr (.inr (.inr u_5))))), (z_6, .inl (cy 1, 6, .inl g19))] H := hP
  have hD : va_D A [(h1, .inr (10, [x2, x3, x4, x5, x6, x7, x8, x9, x10, x11, x12, x13, .ref h14, x15, x16, .int 0, x17, .int 0])), (h14, .inl (cy 1, 6, .inl g19)), (z_3, .inr (1, [.int 1, .ref z_4, .int 1])), (z_4, .inl (cy 7, 10, .inr (.inr (.inr (.inr u_5))))), (z_6, .inl (cy 1, 6, .inl g19))] := hD
  refine W.widen (k := 4) (n := 25) (Nat.le_of_ble_eq_true rfl) (Nat.le_of_ble_eq_true rfl) ?_
  obtain ⟨kf_7, hw⟩ := hw
  have hPc := hP.sub (ws' := [(z_3, .inr (1, [.int 1, .ref z_4, .int 1]))]) [2] rfl
  have hDc := hD.sub (ws' := [(z_3, .inr (1, [.int 1, .ref z_4, .int 1]))]) [2] (by decide) rfl
  have hFc := va_free (wc := [(z_3, .inr (1, [.int 1, .ref z_4, .int 1]))]) hD hS hA [2] rfl
  refine va_callr (va_runV (As := []) (rest := []) ⟨hx, hb, hml, hown, hts⟩ (k_Jx4a65c_iterator_32c93 l D cy z_3 (.ref z_4) (.int 1) H.size) (cwV 0 hts gX8_isStrong_Jx4a65c_iterator_32c93 rfl rfl rfl (by decide +kernel) ⟨(Nat.le_of_ble_eq_true rfl), (Nat.le_of_ble_eq_true rfl)⟩) ⟨kW_fb, va_recv hK hP (ci := 1) (q0 := 2) rfl rfl, (kW_go hPc hK hDc)⟩ rfl rfl hl.1 rfl (lv_room (Nat.le_of_ble_eq_true rfl)) dX8_isStrong_20 ⟨(Nat.le_of_ble_eq_true rfl), (Nat.le_of_ble_eq_true rfl)⟩) hS (fun q _ h => hFc q h) hFc (fun u r9 t H locs ht hvm hw hB hz1 hk1 hS => ?_)
  obtain ⟨z_9, rfl⟩ : ∃ z, z = u := ⟨_, rfl⟩
  obtain ⟨e9, hB⟩ := hB
  have e9 := e9.symm
  subst e9
  obtain ⟨hP1, hD1⟩ := hB
  rw [ht] at hP1
  try dsimp only at hw hP1 hD1
  obtain ⟨hP, hD⟩ := va_join (wr := [(h1, .inr (10, [x2, x3, x4, x5, x6, x7, x8, x9, x10, x11, x12, x13, .ref h14, x15, x16, .int 0, x17, .int 0])), (h14, .inl (cy 1, 6, .inl g19)), (z_4, .inl (cy 7, 10, .inr (.inr (.inr (.inr u_5))))), (z_6, .inl (cy 1, 6, .inl g19))]) (w1 := [(z_3, .inr (1, [.int 1, .ref z_4, .int 1])), (z_9, .inr (0, [.int 0, .int (-1), .int 1, .ref z_3]))]) hP hD [2] [0, 1, 3, 4] rfl rfl (by decide) (by decide) hk1 hFc hP1 hD1
  have hP : va_P D vwCl [(h1, .inr (10, [x2, x3, x4, x5, x6, x7, x8, x9, x10, x11, x12, x13, .ref h14, x15, x16, .int 0, x17, .int 0])), (h14, .inl (cy 1, 6, .inl g19)), (z_4, .inl (cy 7, 10, .inr (.inr (.inr (.inr u_5))))), (z_6, .inl (cy 1, 6, .inl g19)), (z_3, .inr (1, [.int 1, .ref z_4, .int 1])), (z_9, .inr (0, [.int 0, .int (-1), .int 1, .ref z_3]))] H := hP
  have hD : va_D A [(h1, .inr (10, [x2, x3, x4, x5, x6, x7, x8, x9, x10, x11, x12, x13, .ref h14, x15, x16, .int 0, x17, .int 0])), (h14, .inl (cy 1, 6, .inl g19)), (z_4, .inl (cy 7, 10, .inr (.inr (.inr (.inr u_5))))), (z_6, .inl (cy 1, 6, .inl g19)), (z_3, .inr (1, [.int 1, .ref z_4, .int 1])), (z_9, .inr (0, [.int 0, .int (-1), .int 1, .ref z_3]))] := hD
  refine W.widen (k := 5) (n := 29) (Nat.le_of_ble_eq_true rfl) (Nat.le_of_ble_eq_true rfl) ?_
  refine lv_astore_n (lv' := [(2, .ref z_9), (1, .int 1), (0, .ref h1)]) hx hb dX8_isStrong_23 rfl hl (by decide) rfl (fun ls hl => ?_)
  refine lv_aload_n hx hb dX8_isStrong_24 rfl (lv_at hl 0 rfl) ?_
  have hPc := hP.sub (ws' := [(z_9, .inr (0, [.int 0, .int (-1), .int 1, .ref z_3])), (z_3, .inr (1, [.int 1, .ref z_4, .int 1]))]) [5, 4] rfl
  refine va_callFi (va_runF (hK.1 0 _ rfl).2 (As := []) (rest := []) ⟨hx, hb, hml, hown, hts⟩ (k_Jx35411_hasNext_aae02 l hl9 D cy de z_9 (.int (-1)) (.int 1) z_3 (.int 1) (.ref z_4)) (va_cwF 0 hts gX8_isStrong_Jx35411_hasNext_aae02_f215Jx35411 rfl rfl rfl hY.2.2.1 (by decide +kernel) ⟨(Nat.le_of_ble_eq_true rfl), (Nat.le_of_ble_eq_true rfl)⟩) ⟨kRY_fb, va_recv hK hP (ci := 0) (q0 := 5) rfl rfl, (kRY_go hPc hK hE hY hS)⟩ rfl rfl hl.1 rfl (lv_room (Nat.le_of_ble_eq_true rfl)) dX8_isStrong_25 ⟨(Nat.le_of_ble_eq_true rfl), (Nat.le_of_ble_eq_true rfl)⟩) hS (fun _ _ h => h.elim) (fun _ h => h.elim) (fun r9 u t H locs ht hvm hw hB hz1 hk1 hS => ?_)
  have hP := kx_kept hP hk1
  obtain ⟨rfl, hw⟩ := hw
  refine lv_if_eq (tgt := 151) hx hb dX8_isStrong_30 (by decide) (fun h => absurd h (by decide)) (fun _ => ?_)
  refine lv_aload_n hx hb dX8_isStrong_33 rfl (lv_at hl 0 rfl) ?_
  have hPc := hP.sub (ws' := [(z_9, .inr (0, [.int 0, .int (-1), .int 1, .ref z_3])), (z_3, .inr (1, [.int 1, .ref z_4, .int 1])), (z_4, .inl (cy 7, 10, .inr (.inr (.inr (.inr u_5)))))]) [5, 4, 2] rfl
  have hDc := hD.sub (ws' := [(z_9, .inr (0, [.int 0, .int (-1), .int 1, .ref z_3])), (z_3, .inr (1, [.int 1, .ref z_4, .int 1])), (z_4, .inl (cy 7, 10, .inr (.inr (.inr (.inr u_5)))))]) [5, 4, 2] (by decide) rfl
  have hFc := va_free (wc := [(z_9, .inr (0, [.int 0, .int (-1), .int 1, .ref z_3])), (z_3, .inr (1, [.int 1, .ref z_4, .int 1])), (z_4, .inl (cy 7, 10, .inr (.inr (.inr (.inr u_5)))))]) hD hS hA [5, 4, 2] rfl
  refine va_callFr (va_runF (hK.1 0 _ rfl).2 (As := []) (rest := []) ⟨hx, hb, hml, hown, hts⟩ (k_Jx35411_next_0502b l hl9 D cy de z_9 (.int (-1)) z_3 z_4 u_5 z_6 (kf_7) H.size) (va_cwF 0 hts gX8_isStrong_Jx35411_next_0502b_f220Jx35411 rfl rfl rfl hY.2.2.2.1 (by decide +kernel) ⟨(Nat.le_of_ble_eq_true rfl), (Nat.le_of_ble_eq_true rfl)⟩) ⟨kWY_fb, va_recv hK hP (ci := 0) (q0 := 5) rfl rfl, (kWY_go hPc hK hDc hFc hE hY hS)⟩ rfl rfl hl.1 rfl (lv_room (Nat.le_of_ble_eq_true rfl)) dX8_isStrong_34 ⟨(Nat.le_of_ble_eq_true rfl), (Nat.le_of_ble_eq_true rfl)⟩) hS (fun q _ h => hFc q h) hFc (fun u r9 t H locs ht hvm hw hB hz1 hk1 hS => ?_)
  obtain ⟨e9, hB⟩ := hB
  have e9 := e9.symm
  subst e9
  obtain ⟨hP1, hD1⟩ := hB
  rw [ht] at hP1
  try dsimp only at hw hP1 hD1
  obtain ⟨hP, hD⟩ := va_join (wr := [(h1, .inr (10, [x2, x3, x4, x5, x6, x7, x8, x9, x10, x11, x12, x13, .ref h14, x15, x16, .int 0, x17, .int 0])), (h14, .inl (cy 1, 6, .inl g19)), (z_6, .inl (cy 1, 6, .inl g19))]) (w1 := [(z_9, .inr (0, [.int 1, .int 0, .int 1, .ref z_3])), (z_3, .inr (1, [.int 1, .ref z_4, .int 1])), (z_4, .inl (cy 7, 10, .inr (.inr (.inr (.inr u_5)))))]) hP hD [5, 4, 2] [0, 1, 3] rfl rfl (by decide) (by decide) hk1 hFc hP1 hD1
  have hP : va_P D vwCl [(h1, .inr (10, [x2, x3, x4, x5, x6, x7, x8, x9, x10, x11, x12, x13, .ref h14, x15, x16, .int 0, x17, .int 0])), (h14, .inl (cy 1, 6, .inl g19)), (z_6, .inl (cy 1, 6, .inl g19)), (z_9, .inr (0, [.int 1, .int 0, .int 1, .ref z_3])), (z_3, .inr (1, [.int 1, .ref z_4, .int 1])), (z_4, .inl (cy 7, 10, .inr (.inr (.inr (.inr u_5)))))] H := hP
  have hD : va_D A [(h1, .inr (10, [x2, x3, x4, x5, x6, x7, x8, x9, x10, x11, x12, x13, .ref h14, x15, x16, .int 0, x17, .int 0])), (h14, .inl (cy 1, 6, .inl g19)), (z_6, .inl (cy 1, 6, .inl g19)), (z_9, .inr (0, [.int 1, .int 0, .int 1, .ref z_3])), (z_3, .inr (1, [.int 1, .ref z_4, .int 1])), (z_4, .inl (cy 7, 10, .inr (.inr (.inr (.inr u_5)))))] := hD
  refine va_castA hx hb hown (hts (.classLink RX8 156 "[I") (List.mem_cons_of_mem _ (List.mem_append_left _ (List.mem_append_left _ (List.mem_append_left _ (List.mem_append_left _ (List.mem_append_left _ (List.mem_append_left _ (List.mem_of_getElem? (i := 0) rfl))))))))) hP 2 rfl (va_nm_int (hK.2 1 _ rfl).2) dX8_isStrong_39 ?_
  refine lv_astore_n (lv' := [(3, .ref z_6), (2, .ref z_9), (1, .int 1), (0, .ref h1)]) hx hb dX8_isStrong_42 rfl hl (by decide) rfl (fun ls hl => ?_)
  refine lv_iconst (v := 0) hx hb dX8_isStrong_43 (by decide) ?_
  refine lv_istore (lv' := [(4, .int 0), (3, .ref z_6), (2, .ref z_9), (1, .int 1), (0, .ref h1)]) hx hb dX8_isStrong_44 hl (by decide) rfl (fun ls hl => ?_)
  refine lv_iconst (v := 1) hx hb dX8_isStrong_46 (by decide) ?_
  refine lv_istore (lv' := [(5, .int 1), (4, .int 0), (3, .ref z_6), (2, .ref z_9), (1, .int 1), (0, .ref h1)]) hx hb dX8_isStrong_47 hl (by decide) rfl (fun ls hl => ?_)
  refine lv_iconst (v := 0) hx hb dX8_isStrong_49 (by decide) ?_
  refine lv_istore (lv' := [(6, .int 0), (5, .int 1), (4, .int 0), (3, .ref z_6), (2, .ref z_9), (1, .int 1), (0, .ref h1)]) hx hb dX8_isStrong_50 hl (by decide) rfl (fun ls hl => ?_)
  refine lv_iload hx hb dX8_isStrong_52 (lv_at hl 0 rfl) ?_
  refine lv_aload_n hx hb dX8_isStrong_54 rfl (lv_at hl 6 rfl) ?_
  refine va_get (D := D) (ci := 10) (v := .int 0) (C := RX8) (T := TX8) (N := 18) hx hb hts (fun _ h => (List.mem_cons_of_mem _ (List.mem_append_left _ (List.mem_append_left _ (List.mem_append_left _ (List.mem_append_left _ (List.mem_append_right _ h))))))) hown hK hP 0 rfl rfl 15 (by decide) (hts (.fieldLink RX8 85 "SelfishJunctionModel" "players" "I") (List.mem_cons_of_mem _ (List.mem_append_left _ (List.mem_append_left _ (List.mem_append_left _ (List.mem_append_left _ (List.mem_append_left _ (List.mem_append_left _ (List.mem_of_getElem? (i := 1) rfl))))))))) (fun _ h9 => h9) rfl dX8_isStrong_55 ?_
  refine lv_icmp_ge (tgt := 130) hx hb dX8_isStrong_58 (by decide) (fun _ => ?_) (fun h => absurd (by decide) h)
  refine lv_iload_n hx hb dX8_isStrong_130 rfl (lv_at hl 5 rfl) ?_
  refine lv_iload hx hb dX8_isStrong_131 (lv_at hl 2 rfl) ?_
  refine lv_if_eq (tgt := 141) hx hb dX8_isStrong_133 (by decide) (fun _ => ?_) (fun h => absurd (by decide) h)
  refine lv_iconst (v := 1) hx hb dX8_isStrong_141 (by decide) ?_
  refine lv_goto (tgt := 146) hx hb dX8_isStrong_142 (by decide) ?_
  refine lv_iand hx hb dX8_isStrong_146 ?_
  refine lv_topi (fun v_13 ev_13 => ?_)
  obtain rfl : v_13 = 1 := ev_13.trans (by decide)
  refine lv_istore_n (lv' := [(1, .int 1), (6, .int 0), (5, .int 1), (4, .int 0), (3, .ref z_6), (2, .ref z_9), (0, .ref h1)]) hx hb dX8_isStrong_147 rfl hl (by decide) rfl (fun ls hl => ?_)
  refine lv_goto (tgt := 24) hx hb dX8_isStrong_148 (by decide) ?_
  refine lv_aload_n hx hb dX8_isStrong_24 rfl (lv_at hl 5 rfl) ?_
  have hPc := hP.sub (ws' := [(z_9, .inr (0, [.int 1, .int 0, .int 1, .ref z_3])), (z_3, .inr (1, [.int 1, .ref z_4, .int 1]))]) [3, 4] rfl
  refine va_callFi (va_runF (hK.1 0 _ rfl).2 (As := []) (rest := []) ⟨hx, hb, hml, hown, hts⟩ (k_Jx35411_hasNext_aae02_1 l hl9 D cy de z_9 (.int 0) (.int 1) z_3 (.int 1) (.ref z_4)) (va_cwF 0 hts gX8_isStrong_Jx35411_hasNext_aae02_f215Jx35411 rfl rfl rfl hY.2.2.1 (by decide +kernel) ⟨(Nat.le_of_ble_eq_true rfl), (Nat.le_of_ble_eq_true rfl)⟩) ⟨kRY_fb, va_recv hK hP (ci := 0) (q0 := 3) rfl rfl, (kRY_go hPc hK hE hY hS)⟩ rfl rfl hl.1 rfl (lv_room (Nat.le_of_ble_eq_true rfl)) dX8_isStrong_25 ⟨(Nat.le_of_ble_eq_true rfl), (Nat.le_of_ble_eq_true rfl)⟩) hS (fun _ _ h => h.elim) (fun _ h => h.elim) (fun r9 u t H locs ht hvm hw hB hz1 hk1 hS => ?_)
  have hP := kx_kept hP hk1
  obtain ⟨rfl, hw⟩ := hw
  refine lv_if_eq (tgt := 151) hx hb dX8_isStrong_30 (by decide) (fun _ => ?_) (fun h => absurd (by decide) h)
  refine lv_iload_n hx hb dX8_isStrong_151 rfl (lv_at hl 0 rfl) ?_
  refine W.widen (k := 5) (n := 29) (Nat.le_of_ble_eq_true rfl) (Nat.le_of_ble_eq_true rfl) ?_
  have hP9 := hP.sub (ws' := [(h1, .inr (10, [x2, x3, x4, x5, x6, x7, x8, x9, x10, x11, x12, x13, .ref h14, x15, x16, .int 0, x17, .int 0])), (h14, .inl (cy 1, 6, .inl g19))]) [0, 1] rfl
  have hD9 := hD.sub (ws' := [(h1, .inr (10, [x2, x3, x4, x5, x6, x7, x8, x9, x10, x11, x12, x13, .ref h14, x15, x16, .int 0, x17, .int 0])), (h14, .inl (cy 1, 6, .inl g19))]) [0, 1] (by decide) rfl
  exact W.zret (v := 1) hx hb hr rfl (fun t ht hW => ⟨⟨1, (), rfl, ⟨rfl, trivial⟩, ⟨by rw [ht]; exact hP9, hD9⟩⟩, hS.F ht⟩) hS.2.2 dX8_isStrong_152
theorem dX7_checkQuotient_0 : decode cX7_checkQuotient 0 = .ok (.aload_n 0, 1) := by decide +kernel
theorem dX7_checkQuotient_1 : decode cX7_checkQuotient 1 = .ok (.getfield 29, 3) := by decide +kernel
theorem dX7_checkQuotient_4 : decode cX7_checkQuotient 4 = .ok (.invokevirtual 267, 3) := by decide +kernel
set_option maxRecDepth 20000 in
theorem ggX7_checkQuotient_X6_countAtRest : GoodIn wsX7_checkQuotient wsX6_countAtRest := goodIn_ca (goodIn_r _ [8, 9, 10, 11, 12, 7, 13, 14, 27, 28, 29, 30, 31, 32, 33, 34, 35, 36, 37, 38, 39] (by decide +kernel) (by decide +kernel)) (goodIn_sub (fun _ h => List.mem_cons_of_mem _ (List.mem_append_right _ h)) (by decide +kernel))
set_option maxRecDepth 20000 in
theorem gX7_checkQuotient_X6_countAtRest : GoodIn wsX7_checkQuotient (wsV RX7 267 RX6 yX6_countAtRest wsX6_countAtRest) := goodIn_app (goodIn_of _ (by decide +kernel)) ggX7_checkQuotient_X6_countAtRest
theorem dX7_checkQuotient_7 : decode cX7_checkQuotient 7 = .ok (.ifCond .eq 14, 3) := by decide +kernel
theorem dX7_checkQuotient_10 : decode cX7_checkQuotient 10 = .ok (.aload_n 0, 1) := by decide +kernel
theorem dX7_checkQuotient_11 : decode cX7_checkQuotient 11 = .ok (.getfield 29, 3) := by decide +kernel
theorem dX7_checkQuotient_14 : decode cX7_checkQuotient 14 = .ok (.iconst 0, 1) := by decide +kernel
theorem dX7_checkQuotient_15 : decode cX7_checkQuotient 15 = .ok (.invokevirtual 287, 3) := by decide +kernel
set_option maxRecDepth 20000 in
theorem ggX7_checkQuotient_X6_leastOf : GoodIn wsX7_checkQuotient wsX6_leastOf := goodIn_ca (goodIn_r _ [18, 9, 19, 10, 11, 12, 7, 13, 14, 27, 28, 29, 30, 31, 32, 33, 34, 35, 36, 37, 38, 39] (by decide +kernel) (by decide +kernel)) (goodIn_sub (fun _ h => List.mem_cons_of_mem _ (List.mem_append_right _ h)) (by decide +kernel))
set_option maxRecDepth 20000 in
theorem gX7_checkQuotient_X6_leastOf : GoodIn wsX7_checkQuotient (wsV RX7 287 RX6 yX6_leastOf wsX6_leastOf) := goodIn_app (goodIn_of _ (by decide +kernel)) ggX7_checkQuotient_X6_leastOf
theorem dX7_checkQuotient_18 : decode cX7_checkQuotient 18 = .ok (.ifCond .gt 14, 3) := by decide +kernel
theorem dX7_checkQuotient_21 : decode cX7_checkQuotient 21 = .ok (.new 302, 3) := by decide +kernel
theorem dX7_checkQuotient_24 : decode cX7_checkQuotient 24 = .ok (.dup, 1) := by decide +kernel
theorem dX7_checkQuotient_25 : decode cX7_checkQuotient 25 = .ok (.ldc_w 381, 3) := by decide +kernel
theorem dX7_checkQuotient_28 : decode cX7_checkQuotient 28 = .ok (.invokespecial 306, 3) := by decide +kernel
theorem dX7_checkQuotient_31 : decode cX7_checkQuotient 31 = .ok (.athrow, 1) := by decide +kernel
set_option maxHeartbeats 4000000 in
set_option maxRecDepth 100000 in
theorem k_X7_checkQuotient (l : Launch) (hl9 : l.stackTraces = false) (D : va_G) (cy : Nat → ClassId) (h1 : Nat) (x2 : Value) (x3 : Value) (x4 : Value) (h5 : Nat) (x6 : Value) (x7 : Value) (x8 : Value) (x9 : Value) (x10 : Value) (x11 : Value) (x12 : Value) (h13 : Nat) (h14 : Nat) (x15 : Value) (x16 : Value) (x17 : Value) (x18 : Value) (x19 : Value) (x20 : Value) (g21 : Nat → Int32) (kg21_0 : g21 0 = 0) (g22 : Nat → Int32) (kg22_0 : g22 0 = 0) : vx_Met l yX7_checkQuotient wsX7_checkQuotient ({ frames := 6, cells := 1, slots := 6, locals := 82 }) (kRX D cy [.ref h1] [(h1, .inr (9, [x2, x3, x4, .ref h5, x6, x7, x8])), (h5, .inr (8, [x9, x10, x11, x12, .ref h13, .ref h14, x15, x16, x17, x18, x19, x20, .int 1])), (h13, .inl (cy 1, 1000, .inl g21)), (h14, .inl (cy 1, 1000, .inl g22))]) (va_Qv (fun (_ : Unit) => False) (fun (_ : Unit) (_ : State) => True) (fun _ : Nat => False)) (vx_X (fun _ : Unit => True) (fun (E : String) (_ : Unit) (_ : State) => (E = "java/lang/ArithmeticException" ∧ True)) (fun _ : Nat => False)) 1 6 (fun _ : Nat => False) := by
  refine vx_ofW (cc := cX7_checkQuotient) (maxL := 1) (ret := none) (by decide) rfl ?_
  intro p e s m args below meth c s₁ B hml ht9 hv
  obtain ⟨rfl, hP, hK, hE⟩ := hv
  have hx := B.exec
  have hb := B.bytes
  have hr := B.returns
  have hts := atoms_spec (ws := wsX7_checkQuotient) B.pre
  have hown : s.vm.findClass RX7 = some m.cls := findClass_of_methodNamed B.named
  have hlocks := B.notSynchronized
  have hS : va_S (fun _ : Nat => False) s.heap s.heap [] := va_S.rf
  have hP : va_P D vwCl [(h1, .inr (9, [x2, x3, x4, .ref h5, x6, x7, x8])), (h5, .inr (8, [x9, x10, x11, x12, .ref h13, .ref h14, x15, x16, x17, x18, x19, x20, .int 1])), (h13, .inl (cy 1, 1000, .inl g21)), (h14, .inl (cy 1, 1000, .inl g22))] s.heap := hP
  have hl := lv_entry ([.ref h1]) (n := 1) (Nat.le_of_ble_eq_true rfl)
  rw [lg_entry_eq]
  generalize (lg_sl ([.ref h1]) ++ List.replicate (1 - (lg_sl ([.ref h1])).length) Slot.unset).toArray = ls at hl ⊢
  have hl : lv_has ls 1 [(0, .ref h1)] := hl
  refine lv_aload_n hx hb dX7_checkQuotient_0 rfl (lv_at hl 0 rfl) ?_
  refine va_get (D := D) (ci := 9) (v := .ref h5) (C := RX7) (T := TX7) (N := 7) hx hb hts (fun _ h => (List.mem_cons_of_mem _ (List.mem_append_left _ (List.mem_append_left _ (List.mem_append_left _ (List.mem_append_right _ h)))))) hown hK hP 0 rfl rfl 3 (by decide) (hts (.fieldLink RX7 29 "SelfishJunction" "survey" "LSelfishJunction$Survey;") (List.mem_cons_of_mem _ (List.mem_append_left _ (List.mem_append_left _ (List.mem_append_left _ (List.mem_append_left _ (List.mem_of_getElem? (i := 2) rfl))))))) (fun _ h9 => h9) rfl dX7_checkQuotient_1 ?_
  have hPc := hP.sub (ws' := [(h5, .inr (8, [x9, x10, x11, x12, .ref h13, .ref h14, x15, x16, x17, x18, x19, x20, .int 1])), (h14, .inl (cy 1, 1000, .inl g22))]) [1, 3] rfl
  refine va_calli (va_runV (As := []) (rest := []) ⟨hx, hb, hml, hown, hts⟩ (k_X6_countAtRest l D cy h5 (x9) (x10) (x11) (x12) (.ref h13) h14 (x15) (x16) (x17) (x18) (x19) (x20) g22 (kg22_0)) (cwV 0 hts gX7_checkQuotient_X6_countAtRest rfl rfl rfl (by decide +kernel) ⟨(Nat.le_of_ble_eq_true rfl), (Nat.le_of_ble_eq_true rfl)⟩) ⟨kR_fb, va_recv hK hP (ci := 8) (q0 := 1) rfl rfl, (kR_go hPc hK)⟩ rfl rfl hl.1 rfl (lv_room (Nat.le_of_ble_eq_true rfl)) dX7_checkQuotient_4 ⟨(Nat.le_of_ble_eq_true rfl), (Nat.le_of_ble_eq_true rfl)⟩) hS (fun _ _ h => h.elim) (fun _ h => h.elim) (fun r9 u t H locs ht hvm hw hB hz1 hk1 hS => ?_)
  have hP := kx_kept hP hk1
  obtain ⟨rfl, hw⟩ := hw
  refine lv_if_eq (tgt := 21) hx hb dX7_checkQuotient_7 (by decide) (fun h => absurd h (by decide)) (fun _ => ?_)
  refine lv_aload_n hx hb dX7_checkQuotient_10 rfl (lv_at hl 0 rfl) ?_
  refine va_get (D := D) (ci := 9) (v := .ref h5) (C := RX7) (T := TX7) (N := 7) hx hb hts (fun _ h => (List.mem_cons_of_mem _ (List.mem_append_left _ (List.mem_append_left _ (List.mem_append_left _ (List.mem_append_right _ h)))))) hown hK hP 0 rfl rfl 3 (by decide) (hts (.fieldLink RX7 29 "SelfishJunction" "survey" "LSelfishJunction$Survey;") (List.mem_cons_of_mem _ (List.mem_append_left _ (List.mem_append_left _ (List.mem_append_left _ (List.mem_append_left _ (List.mem_of_getElem? (i := 2) rfl))))))) (fun _ h9 => h9) rfl dX7_checkQuotient_11 ?_
  refine lv_iconst (v := 0) hx hb dX7_checkQuotient_14 (by decide) ?_
  have hPc := hP.sub (ws' := [(h5, .inr (8, [x9, x10, x11, x12, .ref h13, .ref h14, x15, x16, x17, x18, x19, x20, .int 1])), (h13, .inl (cy 1, 1000, .inl g21))]) [1, 2] rfl
  refine va_calli (va_runV (As := [.int 0]) (rest := []) ⟨hx, hb, hml, hown, hts⟩ (k_X6_leastOf_1 l D cy h5 (x9) (x10) (x11) (x12) h13 (.ref h14) (x15) (x16) (x17) (x18) (x19) (x20) g21 (kg21_0)) (cwV 1 hts gX7_checkQuotient_X6_leastOf rfl rfl rfl (by decide +kernel) ⟨(Nat.le_of_ble_eq_true rfl), (Nat.le_of_ble_eq_true rfl)⟩) ⟨kR_fb, va_recv hK hP (ci := 8) (q0 := 1) rfl rfl, (kR_go hPc hK)⟩ rfl rfl hl.1 rfl (lv_room (Nat.le_of_ble_eq_true rfl)) dX7_checkQuotient_15 ⟨(Nat.le_of_ble_eq_true rfl), (Nat.le_of_ble_eq_true rfl)⟩) hS (fun _ _ h => h.elim) (fun _ h => h.elim) (fun r9 u t H locs ht hvm hw hB hz1 hk1 hS => ?_)
  have hP := kx_kept hP hk1
  obtain ⟨rfl, hw⟩ := hw
  refine lv_if_gt (tgt := 32) hx hb dX7_checkQuotient_18 (by decide) (fun h => absurd h (by decide)) (fun _ => ?_)
  obtain ⟨sa9, hsa9⟩ := hE.2.1 (381, "no play at rest, or a least total of 0") (by decide +kernel)
  exact vx_throwSW (own := RX7) (cls := "java/lang/ArithmeticException") (text := "no play at rest, or a least total of 0") (names := ["java/lang/RuntimeException", "java/lang/Exception"]) (A := (fun _ : Nat => False)) hx hb hl9 hown (by decide +kernel) (by decide +kernel) (hts (.classLink RX7 302 "java/lang/ArithmeticException") (List.mem_cons_of_mem _ (List.mem_append_left _ (List.mem_append_left _ (List.mem_append_left _ (List.mem_append_left _ (List.mem_of_getElem? (i := 0) rfl))))))) (hts (.initialized "java/lang/ArithmeticException") (List.mem_cons_of_mem _ (List.mem_append_left _ (List.mem_append_left _ (List.mem_append_left _ (List.mem_append_left _ (List.mem_of_getElem? (i := 1) rfl))))))) hsa9 (ex_hat hE (fun w h => hts w (List.mem_cons_of_mem _ (List.mem_append_left _ (List.mem_append_right _ h)))) (by decide +kernel) (by decide +kernel)) (by decide +kernel) hE.1.1 hE.1.2 hS (by rw [hml]; exact hl.1) dX7_checkQuotient_21 dX7_checkQuotient_24 dX7_checkQuotient_25 dX7_checkQuotient_28 dX7_checkQuotient_31 (fun x hx => (ht9 x hx).elim) (Nat.le_of_ble_eq_true rfl) (Nat.le_of_ble_eq_true rfl) (Nat.le_of_ble_eq_true rfl) (Nat.le_of_ble_eq_true rfl) hlocks (fun t hal hz hk => ⟨(), trivial, (⟨rfl, trivial⟩), kx_thr hS hz hk⟩) hS.2.2 (Nat.le_of_ble_eq_true rfl) (Nat.le_of_ble_eq_true rfl)
theorem dX7_costOfDisorder_0 : decode cX7_costOfDisorder 0 = .ok (.aload_n 0, 1) := by decide +kernel
theorem dX7_costOfDisorder_1 : decode cX7_costOfDisorder 1 = .ok (.invokevirtual 264, 3) := by decide +kernel
set_option maxRecDepth 20000 in
theorem ggX7_costOfDisorder_X7_lookAtPlays : GoodIn wsX7_costOfDisorder wsX7_lookAtPlays := goodIn_ca (goodIn_ca (goodIn_ca (goodIn_r _ [6, 1, 7, 8, 9, 10, 5, 11, 12, 13, 14, 15, 16, 17, 18, 19, 20, 21, 22, 23, 24, 25, 26, 27, 28, 29, 30, 31, 32, 33, 34, 35, 36, 37, 38, 39, 40, 41, 42, 43, 44, 45, 46, 47, 48, 49, 50, 51, 52, 53, 54, 55, 56, 57, 58, 59, 60, 61, 62, 63, 64, 65, 66, 67, 68, 69, 70, 71, 72, 73, 74, 75, 76, 77, 78, 79, 80, 81, 82, 83, 84, 85, 86, 87, 88, 89, 90, 91, 92, 93, 94, 95, 96, 97, 98, 99, 100, 101, 102, 103, 104, 105, 106, 107, 108, 109, 110, 111, 112, 138, 139, 140, 141, 142, 143, 144, 145, 146, 147, 148, 149, 150, 151, 152, 153, 154, 155, 156, 157, 158, 159, 160, 161, 162, 163, 164, 165, 166, 167, 168, 169, 170, 171, 172, 173, 174, 175, 176, 177] (by decide +kernel) (by decide +kernel)) (goodIn_sub (fun _ h => List.mem_cons_of_mem _ (List.mem_append_left _ (List.mem_append_left _ (List.mem_append_left _ (List.mem_append_right _ h))))) (by decide +kernel))) (goodIn_sub (fun _ h => List.mem_cons_of_mem _ (List.mem_append_left _ (List.mem_append_left _ (List.mem_append_right _ h)))) (by decide +kernel))) (goodIn_sub (fun _ h => List.mem_cons_of_mem _ (List.mem_append_left _ (List.mem_append_right _ h))) (by decide +kernel))
set_option maxRecDepth 20000 in
theorem gX7_costOfDisorder_X7_lookAtPlays : GoodIn wsX7_costOfDisorder (wsV RX7 264 RX7 yX7_lookAtPlays wsX7_lookAtPlays) := goodIn_app (goodIn_of _ (by decide +kernel)) ggX7_costOfDisorder_X7_lookAtPlays
theorem dX7_costOfDisorder_4 : decode cX7_costOfDisorder 4 = .ok (.aload_n 0, 1) := by decide +kernel
theorem dX7_costOfDisorder_5 : decode cX7_costOfDisorder 5 = .ok (.invokevirtual 345, 3) := by decide +kernel
set_option maxRecDepth 20000 in
theorem ggX7_costOfDisorder_X7_checkQuotient : GoodIn wsX7_costOfDisorder wsX7_checkQuotient := goodIn_ca (goodIn_ca (goodIn_r _ [116, 117, 118, 1, 119, 120, 121, 19, 122, 64, 123, 124, 125, 126, 66, 127, 128, 129, 130, 65, 138, 139, 140, 141, 142, 143, 144, 145, 146, 147, 148, 149, 150, 151, 152, 153, 154, 155, 156, 157] (by decide +kernel) (by decide +kernel)) (goodIn_sub (fun _ h => List.mem_cons_of_mem _ (List.mem_append_right _ h)) (by decide +kernel))) (goodIn_sub (fun _ h => List.mem_cons_of_mem _ (List.mem_append_left _ (List.mem_append_left _ (List.mem_append_right _ h)))) (by decide +kernel))
set_option maxRecDepth 20000 in
theorem gX7_costOfDisorder_X7_checkQuotient : GoodIn wsX7_costOfDisorder (wsV RX7 345 RX7 yX7_checkQuotient wsX7_checkQuotient) := goodIn_app (goodIn_of _ (by decide +kernel)) ggX7_costOfDisorder_X7_checkQuotient
set_option maxHeartbeats 4000000 in
set_option maxRecDepth 100000 in
theorem k_X7_costOfDisorder (l : Launch) (hl9 : l.stackTraces = false) (D : va_G) (cy : Nat → ClassId) (h1 : Nat) (h2 : Nat) (h3 : Nat) (x4 : Value) (h5 : Nat) (x6 : Value) (x7 : Value) (x8 : Value) (x9 : Value) (x10 : Value) (x11 : Value) (x12 : Value) (x13 : Value) (x14 : Value) (x15 : Value) (x16 : Value) (x17 : Value) (h18 : Nat) (h19 : Nat) (x20 : Value) (x21 : Value) (x22 : Value) (x23 : Value) (h24 : Nat) (g25 : Nat → Int32) (kg25_0 : g25 0 = 0) (g26 : Nat → Int32) (kg26_0 : g26 0 = 0) (x27 : Value) (x28 : Value) (x29 : Value) (sz : Nat) : vx_Met l yX7_costOfDisorder wsX7_costOfDisorder ({ frames := 7, cells := 1, slots := 6, locals := 102 }) (kWX D cy [.ref h1] [(h1, .inr (9, [.ref h2, .ref h3, x4, .ref h5, x6, x7, x8])), (h2, .inr (2, [x9, x10, x11, .int 0])), (h3, .inr (5, [x12, x13, .int 0])), (h5, .inr (8, [x14, x15, x16, x17, .ref h18, .ref h19, x20, x21, x22, x23, .ref h24, .int 0, .int 0])), (h18, .inl (cy 1, 1000, .inl g25)), (h19, .inl (cy 1, 1000, .inl g26)), (h24, .inr (5, [x27, x28, x29]))] sz) (va_Qf (fun (r : UInt32) (_ : Unit) => False) (fun (_ : Unit) (t : State) => True) (va_A [(h1, .inr (9, [.ref h2, .ref h3, x4, .ref h5, x6, x7, x8])), (h2, .inr (2, [x9, x10, x11, .int 0])), (h3, .inr (5, [x12, x13, .int 0])), (h5, .inr (8, [x14, x15, x16, x17, .ref h18, .ref h19, x20, x21, x22, x23, .ref h24, .int 0, .int 0])), (h18, .inl (cy 1, 1000, .inl g25)), (h19, .inl (cy 1, 1000, .inl g26)), (h24, .inr (5, [x27, x28, x29]))] sz)) (vx_X (fun _ : Unit => True) (fun (E : String) (_ : Unit) (_ : State) => (E = "java/lang/ArithmeticException" ∧ True)) (va_A [(h1, .inr (9, [.ref h2, .ref h3, x4, .ref h5, x6, x7, x8])), (h2, .inr (2, [x9, x10, x11, .int 0])), (h3, .inr (5, [x12, x13, .int 0])), (h5, .inr (8, [x14, x15, x16, x17, .ref h18, .ref h19, x20, x21, x22, x23, .ref h24, .int 0, .int 0])), (h18, .inl (cy 1, 1000, .inl g25)), (h19, .inl (cy 1, 1000, .inl g26)), (h24, .inr (5, [x27, x28, x29]))] sz)) 1 6 (va_A [(h1, .inr (9, [.ref h2, .ref h3, x4, .ref h5, x6, x7, x8])), (h2, .inr (2, [x9, x10, x11, .int 0])), (h3, .inr (5, [x12, x13, .int 0])), (h5, .inr (8, [x14, x15, x16, x17, .ref h18, .ref h19, x20, x21, x22, x23, .ref h24, .int 0, .int 0])), (h18, .inl (cy 1, 1000, .inl g25)), (h19, .inl (cy 1, 1000, .inl g26)), (h24, .inr (5, [x27, x28, x29]))] sz) := by
  refine vx_ofW (cc := cX7_costOfDisorder) (maxL := 1) (ret := (some .float)) (by decide) rfl ?_
  intro p e s m args below meth c s₁ B hml ht9 hv
  obtain ⟨rfl, hsz, hP, hK, hD0, hE⟩ := hv
  have hx := B.exec
  have hb := B.bytes
  have hr := B.returns
  have hts := atoms_spec (ws := wsX7_costOfDisorder) B.pre
  have hown : s.vm.findClass RX7 = some m.cls := findClass_of_methodNamed B.named
  have hlocks := B.notSynchronized
  subst hsz
  have hD := hD0.self (sz := s.heap.size)
  generalize hAe : va_A [(h1, .inr (9, [.ref h2, .ref h3, x4, .ref h5, x6, x7, x8])), (h2, .inr (2, [x9, x10, x11, .int 0])), (h3, .inr (5, [x12, x13, .int 0])), (h5, .inr (8, [x14, x15, x16, x17, .ref h18, .ref h19, x20, x21, x22, x23, .ref h24, .int 0, .int 0])), (h18, .inl (cy 1, 1000, .inl g25)), (h19, .inl (cy 1, 1000, .inl g26)), (h24, .inr (5, [x27, x28, x29]))] s.heap.size = A at hD hE ⊢
  have hA : ∀ q : Nat, s.heap.size ≤ q → A q := fun q h => by rw [← hAe]; exact Or.inr h
  have hS : va_S A s.heap s.heap [] := va_S.rf
  have hP : va_P D vwCl [(h1, .inr (9, [.ref h2, .ref h3, x4, .ref h5, x6, x7, x8])), (h2, .inr (2, [x9, x10, x11, .int 0])), (h3, .inr (5, [x12, x13, .int 0])), (h5, .inr (8, [x14, x15, x16, x17, .ref h18, .ref h19, x20, x21, x22, x23, .ref h24, .int 0, .int 0])), (h18, .inl (cy 1, 1000, .inl g25)), (h19, .inl (cy 1, 1000, .inl g26)), (h24, .inr (5, [x27, x28, x29]))] s.heap := hP
  have hl := lv_entry ([.ref h1]) (n := 1) (Nat.le_of_ble_eq_true rfl)
  rw [lg_entry_eq]
  generalize (lg_sl ([.ref h1]) ++ List.replicate (1 - (lg_sl ([.ref h1])).length) Slot.unset).toArray = ls at hl ⊢
  have hl : lv_has ls 1 [(0, .ref h1)] := hl
  refine lv_aload_n hx hb dX7_costOfDisorder_0 rfl (lv_at hl 0 rfl) ?_
  have hPc := hP.sub (ws' := [(h1, .inr (9, [.ref h2, .ref h3, x4, .ref h5, x6, x7, x8])), (h2, .inr (2, [x9, x10, x11, .int 0])), (h3, .inr (5, [x12, x13, .int 0])), (h5, .inr (8, [x14, x15, x16, x17, .ref h18, .ref h19, x20, x21, x22, x23, .ref h24, .int 0, .int 0])), (h18, .inl (cy 1, 1000, .inl g25)), (h19, .inl (cy 1, 1000, .inl g26)), (h24, .inr (5, [x27, x28, x29]))]) [0, 1, 2, 3, 4, 5, 6] rfl
  have hDc := hD.sub (ws' := [(h1, .inr (9, [.ref h2, .ref h3, x4, .ref h5, x6, x7, x8])), (h2, .inr (2, [x9, x10, x11, .int 0])), (h3, .inr (5, [x12, x13, .int 0])), (h5, .inr (8, [x14, x15, x16, x17, .ref h18, .ref h19, x20, x21, x22, x23, .ref h24, .int 0, .int 0])), (h18, .inl (cy 1, 1000, .inl g25)), (h19, .inl (cy 1, 1000, .inl g26)), (h24, .inr (5, [x27, x28, x29]))]) [0, 1, 2, 3, 4, 5, 6] (by decide) rfl
  have hFc := va_free (wc := [(h1, .inr (9, [.ref h2, .ref h3, x4, .ref h5, x6, x7, x8])), (h2, .inr (2, [x9, x10, x11, .int 0])), (h3, .inr (5, [x12, x13, .int 0])), (h5, .inr (8, [x14, x15, x16, x17, .ref h18, .ref h19, x20, x21, x22, x23, .ref h24, .int 0, .int 0])), (h18, .inl (cy 1, 1000, .inl g25)), (h19, .inl (cy 1, 1000, .inl g26)), (h24, .inr (5, [x27, x28, x29]))]) hD hS hA [0, 1, 2, 3, 4, 5, 6] rfl
  refine va_callv (va_runV (As := []) (rest := []) ⟨hx, hb, hml, hown, hts⟩ (k_X7_lookAtPlays l D cy h1 h2 h3 (x4) h5 (x6) (x7) (x8) (x9) (x10) (x11) (x12) (x13) (x14) (x15) (x16) (x17) h18 h19 (x20) (x21) (x22) (x23) h24 g25 g26 (x27) (x28) (x29) s.heap.size) (cwV 0 hts gX7_costOfDisorder_X7_lookAtPlays rfl rfl rfl (by decide +kernel) ⟨(Nat.le_of_ble_eq_true rfl), (Nat.le_of_ble_eq_true rfl)⟩) ⟨kW_fb, va_recv hK hP (ci := 9) (q0 := 0) rfl rfl, (kW_go hPc hK hDc)⟩ rfl rfl hl.1 rfl (lv_room (Nat.le_of_ble_eq_true rfl)) dX7_costOfDisorder_1 ⟨(Nat.le_of_ble_eq_true rfl), (Nat.le_of_ble_eq_true rfl)⟩) hS (fun q _ h => hFc q h) hFc (fun u t H locs ht hvm hw hB hz1 hk1 hS => ?_)
  obtain ⟨hP1, hD1⟩ := hB
  rw [ht] at hP1
  try dsimp only at hw hP1 hD1
  obtain ⟨hP, hD⟩ := va_join (wr := []) (w1 := [(h1, .inr (9, [.ref h2, .ref h3, x4, .ref h5, x6, x7, x8])), (h2, .inr (2, [x9, x10, x11, .int 0])), (h3, .inr (5, [x12, x13, .int 0])), (h5, .inr (8, [x14, x15, x16, x17, .ref h18, .ref h19, x20, x21, x22, x23, .ref h24, .int 1, .int 1])), (h18, .inl (cy 1, 1000, .inl (upd g25 0 0))), (h19, .inl (cy 1, 1000, .inl (upd g26 0 0))), (h24, .inr (5, [x27, x28, .int 0]))]) hP hD [0, 1, 2, 3, 4, 5, 6] [] rfl rfl (by decide) (by decide) hk1 hFc hP1 hD1
  have hP : va_P D vwCl [(h1, .inr (9, [.ref h2, .ref h3, x4, .ref h5, x6, x7, x8])), (h2, .inr (2, [x9, x10, x11, .int 0])), (h3, .inr (5, [x12, x13, .int 0])), (h5, .inr (8, [x14, x15, x16, x17, .ref h18, .ref h19, x20, x21, x22, x23, .ref h24, .int 1, .int 1])), (h18, .inl (cy 1, 1000, .inl (upd g25 0 0))), (h19, .inl (cy 1, 1000, .inl (upd g26 0 0))), (h24, .inr (5, [x27, x28, .int 0]))] H := hP
  have hD : va_D A [(h1, .inr (9, [.ref h2, .ref h3, x4, .ref h5, x6, x7, x8])), (h2, .inr (2, [x9, x10, x11, .int 0])), (h3, .inr (5, [x12, x13, .int 0])), (h5, .inr (8, [x14, x15, x16, x17, .ref h18, .ref h19, x20, x21, x22, x23, .ref h24, .int 1, .int 1])), (h18, .inl (cy 1, 1000, .inl (upd g25 0 0))), (h19, .inl (cy 1, 1000, .inl (upd g26 0 0))), (h24, .inr (5, [x27, x28, .int 0]))] := hD
  refine lv_aload_n hx hb dX7_costOfDisorder_4 rfl (lv_at hl 0 rfl) ?_
  have hPc := hP.sub (ws' := [(h1, .inr (9, [.ref h2, .ref h3, x4, .ref h5, x6, x7, x8])), (h5, .inr (8, [x14, x15, x16, x17, .ref h18, .ref h19, x20, x21, x22, x23, .ref h24, .int 1, .int 1])), (h18, .inl (cy 1, 1000, .inl (upd g25 0 0))), (h19, .inl (cy 1, 1000, .inl (upd g26 0 0)))]) [0, 3, 4, 5] rfl
  refine vx_callv (vx_runV (As := []) (rest := []) ⟨hx, hb, hml, hown, hts⟩ (k_X7_checkQuotient l hl9 D cy h1 (.ref h2) (.ref h3) (x4) h5 (x6) (x7) (x8) (x14) (x15) (x16) (x17) h18 h19 (x20) (x21) (x22) (x23) (.ref h24) (.int 1) (upd g25 0 0) (rfl) (upd g26 0 0) (rfl)) (cwV 0 hts gX7_costOfDisorder_X7_checkQuotient rfl rfl rfl (by decide +kernel) ⟨(Nat.le_of_ble_eq_true rfl), (Nat.le_of_ble_eq_true rfl)⟩) ⟨kRX_fb, va_recv hK hP (ci := 9) (q0 := 0) rfl rfl, (kRX_go hPc hK hE hS)⟩ rfl rfl hl.1 rfl (lv_room (Nat.le_of_ble_eq_true rfl)) dX7_costOfDisorder_5 ⟨(Nat.le_of_ble_eq_true rfl), (Nat.le_of_ble_eq_true rfl)⟩) hS (fun _ _ h => h.elim) (fun _ h => h.elim) (fun _ _ h => h.elim) (fun E9 ce9 q9 u t H locs ht hvm hw hB hz1 hk1 hS hce hcv hcl => ?_) (fun u t H locs ht hvm hw hB hz1 hk1 hS => ?_)
  · obtain ⟨rfl, hB⟩ := hB
    have f_2 : True := hB
    exact vx_out (fun x hx => (ht9 x hx).elim) hlocks hce hcv hcl (fun t ht _ => ⟨(), trivial, (⟨rfl, trivial⟩), hS.F ht⟩) hS.2.2 (Nat.le_of_ble_eq_true rfl) (Nat.le_of_ble_eq_true rfl)
  · exact (show False from hw).elim
theorem dL_costOfDisorder_0 : decode cL_costOfDisorder 0 = .ok (.aload_n 1, 1) := by decide +kernel
theorem dL_costOfDisorder_1 : decode cL_costOfDisorder 1 = .ok (.iconst 0, 1) := by decide +kernel
theorem dL_costOfDisorder_2 : decode cL_costOfDisorder 2 = .ok (.aload_n 0, 1) := by decide +kernel
theorem dL_costOfDisorder_3 : decode cL_costOfDisorder 3 = .ok (.invokevirtual 133, 3) := by decide +kernel
set_option maxRecDepth 20000 in
theorem ggL_costOfDisorder_X7_costOfDisorder : GoodIn wsL_costOfDisorder wsX7_costOfDisorder := goodIn_ca (goodIn_ca (goodIn_ca (goodIn_ca (goodIn_r _ [7, 8, 9, 10, 11, 6, 12, 13, 14, 15, 16, 17, 18, 19, 20, 21, 22, 23, 24, 25, 26, 27, 28, 29, 30, 31, 32, 33, 34, 35, 36, 37, 38, 39, 40, 41, 42, 43, 44, 45, 46, 47, 48, 49, 50, 51, 52, 53, 54, 55, 56, 57, 58, 59, 60, 61, 62, 63, 64, 65, 66, 67, 68, 69, 70, 71, 72, 73, 74, 75, 76, 77, 78, 79, 80, 81, 82, 83, 84, 85, 86, 87, 88, 89, 90, 91, 92, 93, 94, 95, 96, 97, 98, 99, 100, 101, 102, 103, 104, 105, 106, 107, 108, 109, 110, 111, 112, 113, 114, 115, 116, 117, 118, 119, 120, 121, 122, 123, 124, 125, 126, 127, 128, 129, 130, 131, 132, 133, 134, 135, 136, 137, 138, 139, 140, 141, 142, 143, 144, 145, 146, 147, 148, 149, 150, 151, 152, 153, 154, 155, 156, 157, 158, 159, 160, 161, 162, 163, 164, 165, 166, 167, 168, 169, 170, 171, 172, 173, 174, 175, 176, 177, 178, 179, 180, 181, 182, 183] (by decide +kernel) (by decide +kernel)) (goodIn_sub (fun _ h => List.mem_cons_of_mem _ (List.mem_append_left _ (List.mem_append_left _ (List.mem_append_right _ h)))) (by decide +kernel))) (goodIn_sub (fun _ h => List.mem_cons_of_mem _ (List.mem_append_left _ (List.mem_append_left _ (List.mem_append_left _ (List.mem_append_right _ h))))) (by decide +kernel))) (goodIn_sub (fun _ h => List.mem_cons_of_mem _ (List.mem_append_left _ (List.mem_append_right _ h))) (by decide +kernel))) (goodIn_sub (fun _ h => List.mem_cons_of_mem _ (List.mem_append_right _ h)) (by decide +kernel))
set_option maxRecDepth 20000 in
theorem gL_costOfDisorder_X7_costOfDisorder : GoodIn wsL_costOfDisorder (wsV RL 133 RX7 yX7_costOfDisorder wsX7_costOfDisorder) := goodIn_app (goodIn_of _ (by decide +kernel)) ggL_costOfDisorder_X7_costOfDisorder
theorem dL_costOfDisorder_14 : decode cL_costOfDisorder 14 = .ok (.astore_n 2, 1) := by decide +kernel
theorem dL_costOfDisorder_15 : decode cL_costOfDisorder 15 = .ok (.iconst 2, 1) := by decide +kernel
theorem dL_costOfDisorder_16 : decode cL_costOfDisorder 16 = .ok (.ireturn, 1) := by decide +kernel
set_option maxHeartbeats 4000000 in
set_option maxRecDepth 100000 in
theorem k_L_costOfDisorder (l : Launch) (hl9 : l.stackTraces = false) (D : va_G) (cy : Nat → ClassId) (h1 : Nat) (h2 : Nat) (h3 : Nat) (h4 : Nat) (x5 : Value) (h6 : Nat) (x7 : Value) (x8 : Value) (x9 : Value) (x10 : Value) (x11 : Value) (x12 : Value) (x13 : Value) (x14 : Value) (x15 : Value) (x16 : Value) (x17 : Value) (x18 : Value) (h19 : Nat) (h20 : Nat) (x21 : Value) (x22 : Value) (x23 : Value) (x24 : Value) (h25 : Nat) (g26 : Nat → Int32) (kg26_0 : g26 0 = 0) (g27 : Nat → Int32) (kg27_0 : g27 0 = 0) (x28 : Value) (x29 : Value) (x30 : Value) (sz : Nat) : Met l yL_costOfDisorder wsL_costOfDisorder ({ frames := 8, cells := 1, slots := 6, locals := 122 }) (kWX D cy [.ref h1, .ref h2] [(h1, .inr (9, [.ref h3, .ref h4, x5, .ref h6, x7, x8, x9])), (h3, .inr (2, [x10, x11, x12, .int 0])), (h4, .inr (5, [x13, x14, .int 0])), (h6, .inr (8, [x15, x16, x17, x18, .ref h19, .ref h20, x21, x22, x23, x24, .ref h25, .int 0, .int 0])), (h19, .inl (cy 1, 1000, .inl g26)), (h20, .inl (cy 1, 1000, .inl g27)), (h25, .inr (5, [x28, x29, x30]))] sz) (va_Qi (fun (r : Int32) (_ : Unit) => r = 2 ∧ True) (fun (_ : Unit) (t : State) => va_P D vwCl [] t.heap ∧ va_D (va_A [(h1, .inr (9, [.ref h3, .ref h4, x5, .ref h6, x7, x8, x9])), (h3, .inr (2, [x10, x11, x12, .int 0])), (h4, .inr (5, [x13, x14, .int 0])), (h6, .inr (8, [x15, x16, x17, x18, .ref h19, .ref h20, x21, x22, x23, x24, .ref h25, .int 0, .int 0])), (h19, .inl (cy 1, 1000, .inl g26)), (h20, .inl (cy 1, 1000, .inl g27)), (h25, .inr (5, [x28, x29, x30]))] sz) []) (va_A [(h1, .inr (9, [.ref h3, .ref h4, x5, .ref h6, x7, x8, x9])), (h3, .inr (2, [x10, x11, x12, .int 0])), (h4, .inr (5, [x13, x14, .int 0])), (h6, .inr (8, [x15, x16, x17, x18, .ref h19, .ref h20, x21, x22, x23, x24, .ref h25, .int 0, .int 0])), (h19, .inl (cy 1, 1000, .inl g26)), (h20, .inl (cy 1, 1000, .inl g27)), (h25, .inr (5, [x28, x29, x30]))] sz)) 1 6 (va_A [(h1, .inr (9, [.ref h3, .ref h4, x5, .ref h6, x7, x8, x9])), (h3, .inr (2, [x10, x11, x12, .int 0])), (h4, .inr (5, [x13, x14, .int 0])), (h6, .inr (8, [x15, x16, x17, x18, .ref h19, .ref h20, x21, x22, x23, x24, .ref h25, .int 0, .int 0])), (h19, .inl (cy 1, 1000, .inl g26)), (h20, .inl (cy 1, 1000, .inl g27)), (h25, .inr (5, [x28, x29, x30]))] sz) := by
  refine va_MetW (cc := cL_costOfDisorder) (maxL := 3) (ret := (some .int)) (by decide) rfl ?_
  intro p e s m args below meth c s₁ B hml hv
  obtain ⟨rfl, hsz, hP, hK, hD0, hE⟩ := hv
  have hx := B.exec
  have hb := B.bytes
  have hr := B.returns
  have hts := atoms_spec (ws := wsL_costOfDisorder) B.pre
  have hown : s.vm.findClass RL = some m.cls := findClass_of_methodNamed B.named
  have hlocks := B.notSynchronized
  have htb := vx_table (x := yL_costOfDisorder) B (hts _ (List.mem_cons_self))
  subst hsz
  have hD := hD0.self (sz := s.heap.size)
  generalize hAe : va_A [(h1, .inr (9, [.ref h3, .ref h4, x5, .ref h6, x7, x8, x9])), (h3, .inr (2, [x10, x11, x12, .int 0])), (h4, .inr (5, [x13, x14, .int 0])), (h6, .inr (8, [x15, x16, x17, x18, .ref h19, .ref h20, x21, x22, x23, x24, .ref h25, .int 0, .int 0])), (h19, .inl (cy 1, 1000, .inl g26)), (h20, .inl (cy 1, 1000, .inl g27)), (h25, .inr (5, [x28, x29, x30]))] s.heap.size = A at hD hE ⊢
  have hA : ∀ q : Nat, s.heap.size ≤ q → A q := fun q h => by rw [← hAe]; exact Or.inr h
  have hS : va_S A s.heap s.heap [] := va_S.rf
  have hP : va_P D vwCl [(h1, .inr (9, [.ref h3, .ref h4, x5, .ref h6, x7, x8, x9])), (h3, .inr (2, [x10, x11, x12, .int 0])), (h4, .inr (5, [x13, x14, .int 0])), (h6, .inr (8, [x15, x16, x17, x18, .ref h19, .ref h20, x21, x22, x23, x24, .ref h25, .int 0, .int 0])), (h19, .inl (cy 1, 1000, .inl g26)), (h20, .inl (cy 1, 1000, .inl g27)), (h25, .inr (5, [x28, x29, x30]))] s.heap := hP
  have hl := lv_entry ([.ref h1, .ref h2]) (n := 3) (Nat.le_of_ble_eq_true rfl)
  rw [lg_entry_eq]
  generalize (lg_sl ([.ref h1, .ref h2]) ++ List.replicate (3 - (lg_sl ([.ref h1, .ref h2])).length) Slot.unset).toArray = ls at hl ⊢
  have hl : lv_has ls 3 [(0, .ref h1), (1, .ref h2)] := hl
  refine lv_aload_n hx hb dL_costOfDisorder_0 rfl (lv_at hl 1 rfl) ?_
  refine lv_iconst (v := 0) hx hb dL_costOfDisorder_1 (by decide) ?_
  refine lv_aload_n hx hb dL_costOfDisorder_2 rfl (lv_at hl 0 rfl) ?_
  have hPc := hP.sub (ws' := [(h1, .inr (9, [.ref h3, .ref h4, x5, .ref h6, x7, x8, x9])), (h3, .inr (2, [x10, x11, x12, .int 0])), (h4, .inr (5, [x13, x14, .int 0])), (h6, .inr (8, [x15, x16, x17, x18, .ref h19, .ref h20, x21, x22, x23, x24, .ref h25, .int 0, .int 0])), (h19, .inl (cy 1, 1000, .inl g26)), (h20, .inl (cy 1, 1000, .inl g27)), (h25, .inr (5, [x28, x29, x30]))]) [0, 1, 2, 3, 4, 5, 6] rfl
  have hDc := hD.sub (ws' := [(h1, .inr (9, [.ref h3, .ref h4, x5, .ref h6, x7, x8, x9])), (h3, .inr (2, [x10, x11, x12, .int 0])), (h4, .inr (5, [x13, x14, .int 0])), (h6, .inr (8, [x15, x16, x17, x18, .ref h19, .ref h20, x21, x22, x23, x24, .ref h25, .int 0, .int 0])), (h19, .inl (cy 1, 1000, .inl g26)), (h20, .inl (cy 1, 1000, .inl g27)), (h25, .inr (5, [x28, x29, x30]))]) [0, 1, 2, 3, 4, 5, 6] (by decide) rfl
  have hFc := va_free (wc := [(h1, .inr (9, [.ref h3, .ref h4, x5, .ref h6, x7, x8, x9])), (h3, .inr (2, [x10, x11, x12, .int 0])), (h4, .inr (5, [x13, x14, .int 0])), (h6, .inr (8, [x15, x16, x17, x18, .ref h19, .ref h20, x21, x22, x23, x24, .ref h25, .int 0, .int 0])), (h19, .inl (cy 1, 1000, .inl g26)), (h20, .inl (cy 1, 1000, .inl g27)), (h25, .inr (5, [x28, x29, x30]))]) hD hS hA [0, 1, 2, 3, 4, 5, 6] rfl
  refine vx_callf (vx_runV (As := []) (rest := [.int 0, .ref h2]) ⟨hx, hb, hml, hown, hts⟩ (k_X7_costOfDisorder l hl9 D cy h1 h3 h4 (x5) h6 (x7) (x8) (x9) (x10) (x11) (x12) (x13) (x14) (x15) (x16) (x17) (x18) h19 h20 (x21) (x22) (x23) (x24) h25 g26 (kg26_0) g27 (kg27_0) (x28) (x29) (x30) s.heap.size) (cwV 0 hts gL_costOfDisorder_X7_costOfDisorder rfl rfl rfl (by decide +kernel) ⟨(Nat.le_of_ble_eq_true rfl), (Nat.le_of_ble_eq_true rfl)⟩) ⟨kWX_fb, va_recv hK hP (ci := 9) (q0 := 0) rfl rfl, (kWX_go hPc hK hDc hFc hE hS)⟩ rfl rfl hl.1 rfl (lv_room (Nat.le_of_ble_eq_true rfl)) dL_costOfDisorder_3 ⟨(Nat.le_of_ble_eq_true rfl), (Nat.le_of_ble_eq_true rfl)⟩) hS (fun q _ h => hFc q h) hFc (fun q _ h => hFc q h) (fun E9 ce9 q9 u t H locs ht hvm hw hB hz1 hk1 hS hce hcv hcl => ?_) (fun r9 u t H locs ht hvm hw hB hz1 hk1 hS => ?_)
  · obtain ⟨rfl, hB⟩ := hB
    have f_1 : True := hB
    obtain ⟨hP, hD⟩ := va_join (wr := []) (w1 := []) hP hD [0, 1, 2, 3, 4, 5, 6] [] rfl rfl (by decide) (by decide) hk1 hFc (fun k q h => by simp at h) ⟨fun i j p q h => by simp at h, fun k q h => by simp at h⟩
    have hP : va_P D vwCl [] H := hP
    have hD : va_D A [] := hD
    refine vx_catch (E := "java/lang/ArithmeticException") (name := "java/lang/ArithmeticException") hown [(⟨0, 8, 11, 30⟩ : ExceptionTableEntry)] (⟨0, 8, 14, 112⟩ : ExceptionTableEntry) [] htb (List.forall_mem_cons.mpr ⟨Or.inr ⟨by decide, "java/lang/UnsupportedOperationException", (hts (.classLink RL 30 "java/lang/UnsupportedOperationException") (List.mem_cons_of_mem _ (List.mem_append_left _ (List.mem_append_left _ (List.mem_append_left _ (List.mem_append_left _ (List.mem_append_left _ (List.mem_append_left _ (List.mem_append_left _ (List.mem_append_left _ (List.mem_append_left _ (List.mem_append_left _ (List.mem_append_left _ (List.mem_of_getElem? (i := 0) rfl)))))))))))))), exP.nc hE "java/lang/ArithmeticException" "java/lang/UnsupportedOperationException" (by decide +kernel) (by decide +kernel) (by decide +kernel)⟩, (fun _ h => absurd h List.not_mem_nil)⟩) rfl (by decide) (hts (.classLink RL 112 "java/lang/ArithmeticException") (List.mem_cons_of_mem _ (List.mem_append_left _ (List.mem_append_left _ (List.mem_append_left _ (List.mem_append_left _ (List.mem_append_left _ (List.mem_append_left _ (List.mem_append_left _ (List.mem_append_left _ (List.mem_append_left _ (List.mem_append_left _ (List.mem_append_left _ (List.mem_of_getElem? (i := 1) rfl)))))))))))))) (exP.cast hE "java/lang/ArithmeticException" (by decide +kernel)) hce hcv hcl ?_
    refine lv_astore_n (lv' := [(2, .ref q9), (0, .ref h1), (1, .ref h2)]) hx hb dL_costOfDisorder_14 rfl hl (by decide) rfl (fun ls hl => ?_)
    refine lv_iconst (v := 2) hx hb dL_costOfDisorder_15 (by decide) ?_
    refine W.widen (k := 1) (n := 6) (Nat.le_of_ble_eq_true rfl) (Nat.le_of_ble_eq_true rfl) ?_
    have hP9 := hP.sub (ws' := []) [] rfl
    have hD9 := hD.sub (ws' := []) [] (by decide) rfl
    exact W.iret (v := 2) hx hb hr (fun t ht hW => ⟨⟨2, (), rfl, ⟨rfl, trivial⟩, ⟨by rw [ht]; exact hP9, hD9⟩⟩, hS.F ht⟩) hS.2.2 dL_costOfDisorder_16
  · exact (show False from hw).elim
theorem dJx4a65c_isEmpty_aae02_11 : decode cJx4a65c_isEmpty_aae02 11 = .ok (.iconst 0, 1) := by decide +kernel
set_option maxHeartbeats 4000000 in
set_option maxRecDepth 100000 in
theorem k_Jx4a65c_isEmpty_aae02_1 (l : Launch) (D : va_G) (cy : Nat → ClassId) (h1 : Nat) (x2 : Value) (x3 : Value) : Met l yJx4a65c_isEmpty_aae02 wsJx4a65c_isEmpty_aae02 ({ frames := 0, cells := 0, slots := 0, locals := 0 }) (kR D cy [.ref h1] [(h1, .inr (1, [x2, x3, .int 1]))]) (va_Qi (fun (r : Int32) (_ : Unit) => r = 0 ∧ True) (fun (_ : Unit) (_ : State) => True) (fun _ : Nat => False)) 0 0 (fun _ : Nat => False) := by
  refine Met.ofW (cc := cJx4a65c_isEmpty_aae02) (maxL := 1) (ret := (some .boolean)) (by decide) rfl ?_
  intro p e s m args below meth c s₁ B hml hv
  obtain ⟨rfl, hP, hK⟩ := hv
  have hx := B.exec
  have hb := B.bytes
  have hr := B.returns
  have hts := atoms_spec (ws := wsJx4a65c_isEmpty_aae02) B.pre
  have hown : s.vm.findClass RJx4a65c = some m.cls := findClass_of_methodNamed B.named
  have hlocks := B.notSynchronized
  have hS : va_S (fun _ : Nat => False) s.heap s.heap [] := va_S.rf
  have hP : va_P D vwCl [(h1, .inr (1, [x2, x3, .int 1]))] s.heap := hP
  have hl := lv_entry ([.ref h1]) (n := 1) (Nat.le_of_ble_eq_true rfl)
  rw [lg_entry_eq]
  generalize (lg_sl ([.ref h1]) ++ List.replicate (1 - (lg_sl ([.ref h1])).length) Slot.unset).toArray = ls at hl ⊢
  have hl : lv_has ls 1 [(0, .ref h1)] := hl
  refine lv_aload_n hx hb dJx4a65c_isEmpty_aae02_0 rfl (lv_at hl 0 rfl) ?_
  refine va_get (D := D) (ci := 1) (v := .int 1) (C := RJx4a65c) (T := TJx4a65c) (N := 3) hx hb hts (fun _ h => (List.mem_cons_of_mem _ (List.mem_append_right _ h))) hown hK hP 0 rfl rfl 2 (by decide) (hts (.fieldLink RJx4a65c 48 "java/util/ArrayList" "size" "I") (List.mem_cons_of_mem _ (List.mem_append_left _ (List.mem_of_getElem? (i := 0) rfl)))) (fun _ h9 => h9) rfl dJx4a65c_isEmpty_aae02_1 ?_
  refine lv_if_ne (tgt := 11) hx hb dJx4a65c_isEmpty_aae02_4 (by decide) (fun _ => ?_) (fun h => absurd h (by decide))
  refine lv_iconst (v := 0) hx hb dJx4a65c_isEmpty_aae02_11 (by decide) ?_
  refine W.widen (k := 0) (n := 0) (Nat.le_of_ble_eq_true rfl) (Nat.le_of_ble_eq_true rfl) ?_
  exact W.zret (v := 0) hx hb hr rfl (fun t ht hW => ⟨⟨0, (), rfl, ⟨rfl, trivial⟩, trivial⟩, hS.F ht⟩) hS.2.2 dJx4a65c_isEmpty_aae02_12
theorem dX8_costOfDisorder_0 : decode cX8_costOfDisorder 0 = .ok (.aload_n 0, 1) := by decide +kernel
theorem dX8_costOfDisorder_1 : decode cX8_costOfDisorder 1 = .ok (.aload_n 0, 1) := by decide +kernel
theorem dX8_costOfDisorder_2 : decode cX8_costOfDisorder 2 = .ok (.invokevirtual 240, 3) := by decide +kernel
set_option maxRecDepth 20000 in
theorem ggX8_costOfDisorder_X8_areMany : GoodIn wsX8_costOfDisorder wsX8_areMany := goodIn_ca (goodIn_r _ [5, 6, 7, 8, 4, 9, 10, 11, 12, 13, 14, 15, 16, 17, 18, 202, 203, 204, 205, 206, 207, 208, 209, 210, 211, 212, 213, 214, 215, 216, 217, 218, 219] (by decide +kernel) (by decide +kernel)) (goodIn_sub (fun _ h => List.mem_cons_of_mem _ (List.mem_append_left _ (List.mem_append_right _ h))) (by decide +kernel))
set_option maxRecDepth 20000 in
theorem gX8_costOfDisorder_X8_areMany : GoodIn wsX8_costOfDisorder (wsV RX8 240 RX8 yX8_areMany wsX8_areMany) := goodIn_app (goodIn_of _ (by decide +kernel)) ggX8_costOfDisorder_X8_areMany
theorem dX8_costOfDisorder_5 : decode cX8_costOfDisorder 5 = .ok (.iconst 1, 1) := by decide +kernel
theorem dX8_costOfDisorder_6 : decode cX8_costOfDisorder 6 = .ok (.invokevirtual 73, 3) := by decide +kernel
set_option maxRecDepth 20000 in
theorem ggX8_costOfDisorder_X8_isThrown : GoodIn wsX8_costOfDisorder wsX8_isThrown := goodIn_r _ [22, 23, 202, 203, 204, 205, 206, 207, 208, 209, 210, 211, 212, 213, 214, 215, 216, 217, 218, 219] (by decide +kernel) (by decide +kernel)
set_option maxRecDepth 20000 in
theorem gX8_costOfDisorder_X8_isThrown : GoodIn wsX8_costOfDisorder (wsV RX8 73 RX8 yX8_isThrown wsX8_isThrown) := goodIn_app (goodIn_of _ (by decide +kernel)) ggX8_costOfDisorder_X8_isThrown
theorem dX8_costOfDisorder_9 : decode cX8_costOfDisorder 9 = .ok (.ifCond .eq 5, 3) := by decide +kernel
theorem dX8_costOfDisorder_14 : decode cX8_costOfDisorder 14 = .ok (.aload_n 0, 1) := by decide +kernel
theorem dX8_costOfDisorder_15 : decode cX8_costOfDisorder 15 = .ok (.invokevirtual 243, 3) := by decide +kernel
set_option maxRecDepth 20000 in
theorem ggX8_costOfDisorder_X8_rests : GoodIn wsX8_costOfDisorder wsX8_rests := goodIn_ca (goodIn_ca (goodIn_r _ [27, 28, 29, 30, 31, 32, 33, 34, 35, 36, 37, 38, 39, 40, 41, 42, 43, 44, 45, 46, 47, 48, 49, 50, 51, 4, 52, 53, 54, 55, 56, 57, 58, 59, 60, 61, 62, 10, 12, 11, 63, 64, 65, 66, 67, 68, 69, 70, 71, 72, 73, 74, 75, 76, 77, 78, 79, 80, 81, 82, 83, 84, 85, 86, 87, 88, 89, 90, 91, 92, 93, 94, 95, 96, 97, 98, 99, 100, 101, 102, 103, 104, 105, 106, 107, 108, 109, 110, 111, 112, 113, 114, 115, 13, 14, 15, 16, 17, 18, 116, 117, 118, 119, 120, 121, 122, 123, 124, 125, 126, 127, 128, 129, 130, 131, 132, 133, 134, 135, 136, 137, 138, 139, 140, 141, 142, 143, 144, 145, 146, 147, 148, 149, 150, 151, 152, 153, 154, 155, 156, 157, 158, 159, 160, 161, 162, 163, 164, 165, 166, 167, 168, 169, 170, 171, 172, 173, 174, 175, 176, 177, 178, 179, 180, 181, 182, 183, 220, 221, 222, 202, 203, 204, 205, 206, 207, 208, 209, 210, 211, 212, 213, 214, 215, 216, 217, 218, 219, 223, 224, 225, 226] (by decide +kernel) (by decide +kernel)) (goodIn_sub (fun _ h => List.mem_cons_of_mem _ (List.mem_append_left _ (List.mem_append_right _ h))) (by decide +kernel))) (goodIn_sub (fun _ h => List.mem_cons_of_mem _ (List.mem_append_right _ h)) (by decide +kernel))
set_option maxRecDepth 20000 in
theorem gX8_costOfDisorder_X8_rests : GoodIn wsX8_costOfDisorder (wsV RX8 243 RX8 yX8_rests wsX8_rests) := goodIn_app (goodIn_of _ (by decide +kernel)) ggX8_costOfDisorder_X8_rests
theorem dX8_costOfDisorder_18 : decode cX8_costOfDisorder 18 = .ok (.astore_n 1, 1) := by decide +kernel
theorem dX8_costOfDisorder_19 : decode cX8_costOfDisorder 19 = .ok (.aload_n 0, 1) := by decide +kernel
theorem dX8_costOfDisorder_20 : decode cX8_costOfDisorder 20 = .ok (.aload_n 0, 1) := by decide +kernel
theorem dX8_costOfDisorder_21 : decode cX8_costOfDisorder 21 = .ok (.invokevirtual 233, 3) := by decide +kernel
set_option maxRecDepth 20000 in
theorem ggX8_costOfDisorder_X8_all : GoodIn wsX8_costOfDisorder wsX8_all := goodIn_ca (goodIn_r _ [52, 28, 29, 30, 53, 54, 55, 56, 57, 58, 31, 32, 33, 34, 35, 36, 37, 38, 39, 40, 41, 42, 43, 44, 45, 46, 47, 48, 59, 60, 61, 4, 62, 10, 12, 11, 63, 64, 65, 66, 67, 68, 69, 70, 71, 72, 73, 74, 75, 76, 77, 78, 79, 80, 81, 82, 83, 84, 85, 86, 87, 88, 89, 90, 91, 92, 93, 94, 95, 96, 97, 98, 99, 100, 101, 102, 103, 104, 105, 106, 107, 108, 109, 110, 111, 112, 113, 114, 115, 13, 14, 15, 16, 17, 18, 220, 221, 222, 202, 203, 204, 205, 206, 207, 208, 209, 210, 211, 212, 213, 214, 215, 216, 217, 218, 219] (by decide +kernel) (by decide +kernel)) (goodIn_sub (fun _ h => List.mem_cons_of_mem _ (List.mem_append_left _ (List.mem_append_right _ h))) (by decide +kernel))
set_option maxRecDepth 20000 in
theorem gX8_costOfDisorder_X8_all : GoodIn wsX8_costOfDisorder (wsV RX8 233 RX8 yX8_all wsX8_all) := goodIn_app (goodIn_of _ (by decide +kernel)) ggX8_costOfDisorder_X8_all
theorem dX8_costOfDisorder_24 : decode cX8_costOfDisorder 24 = .ok (.invokevirtual 247, 3) := by decide +kernel
set_option maxRecDepth 20000 in
theorem ggX8_costOfDisorder_X8_least : GoodIn wsX8_costOfDisorder wsX8_least := goodIn_ca (goodIn_ca (goodIn_r _ [187, 188, 31, 189, 110, 84, 111, 116, 117, 118, 30, 119, 120, 121, 122, 123, 124, 125, 126, 127, 47, 48, 128, 129, 68, 130, 131, 132, 133, 134, 135, 136, 137, 138, 139, 140, 141, 142, 143, 144, 190, 191, 192, 4, 193, 10, 166, 17, 173, 169, 170, 171, 172, 174, 175, 176, 177, 178, 179, 180, 223, 224, 225, 226, 220, 221, 222, 202, 203, 204, 205, 206, 207, 208, 209, 210, 211, 212, 213, 214, 215, 216, 217, 218, 219] (by decide +kernel) (by decide +kernel)) (goodIn_sub (fun _ h => List.mem_cons_of_mem _ (List.mem_append_left _ (List.mem_append_right _ h))) (by decide +kernel))) (goodIn_sub (fun _ h => List.mem_cons_of_mem _ (List.mem_append_right _ h)) (by decide +kernel))
set_option maxRecDepth 20000 in
theorem gX8_costOfDisorder_X8_least : GoodIn wsX8_costOfDisorder (wsV RX8 247 RX8 yX8_least wsX8_least) := goodIn_app (goodIn_of _ (by decide +kernel)) ggX8_costOfDisorder_X8_least
theorem dX8_costOfDisorder_27 : decode cX8_costOfDisorder 27 = .ok (.istore_n 2, 1) := by decide +kernel
theorem dX8_costOfDisorder_28 : decode cX8_costOfDisorder 28 = .ok (.aload_n 0, 1) := by decide +kernel
theorem dX8_costOfDisorder_29 : decode cX8_costOfDisorder 29 = .ok (.aload_n 1, 1) := by decide +kernel
theorem dX8_costOfDisorder_30 : decode cX8_costOfDisorder 30 = .ok (.invokevirtual 127, 3) := by decide +kernel
set_option maxRecDepth 20000 in
theorem ggX8_costOfDisorder_Jx4a65c_isEmpty_aae02 : GoodIn wsX8_costOfDisorder wsJx4a65c_isEmpty_aae02 := goodIn_r _ [197, 69, 220, 221, 222] (by decide +kernel) (by decide +kernel)
set_option maxRecDepth 20000 in
theorem gX8_costOfDisorder_Jx4a65c_isEmpty_aae02 : GoodIn wsX8_costOfDisorder (wsV RX8 127 RJx4a65c yJx4a65c_isEmpty_aae02 wsJx4a65c_isEmpty_aae02) := goodIn_app (goodIn_of _ (by decide +kernel)) ggX8_costOfDisorder_Jx4a65c_isEmpty_aae02
theorem dX8_costOfDisorder_33 : decode cX8_costOfDisorder 33 = .ok (.ifCond .ne 7, 3) := by decide +kernel
theorem dX8_costOfDisorder_36 : decode cX8_costOfDisorder 36 = .ok (.iload_n 2, 1) := by decide +kernel
theorem dX8_costOfDisorder_37 : decode cX8_costOfDisorder 37 = .ok (.ifCond .ne 7, 3) := by decide +kernel
theorem dX8_costOfDisorder_40 : decode cX8_costOfDisorder 40 = .ok (.iconst 1, 1) := by decide +kernel
theorem dX8_costOfDisorder_41 : decode cX8_costOfDisorder 41 = .ok (.goto 4, 3) := by decide +kernel
theorem dX8_costOfDisorder_45 : decode cX8_costOfDisorder 45 = .ok (.iconst 2, 1) := by decide +kernel
theorem dX8_costOfDisorder_46 : decode cX8_costOfDisorder 46 = .ok (.invokevirtual 73, 3) := by decide +kernel
theorem dX8_costOfDisorder_49 : decode cX8_costOfDisorder 49 = .ok (.ifCond .eq 7, 3) := by decide +kernel
theorem dX8_costOfDisorder_52 : decode cX8_costOfDisorder 52 = .ok (.fconst 0, 1) := by decide +kernel
theorem dX8_costOfDisorder_53 : decode cX8_costOfDisorder 53 = .ok (.goto 12, 3) := by decide +kernel
theorem dX8_costOfDisorder_65 : decode cX8_costOfDisorder 65 = .ok (.freturn, 1) := by decide +kernel
set_option maxHeartbeats 4000000 in
set_option maxRecDepth 100000 in
theorem k_X8_costOfDisorder (l : Launch) (hl9 : l.stackTraces = false) (D : va_G) (cy : Nat → ClassId) (de : Nat) (h1 : Nat) (x2 : Value) (x3 : Value) (x4 : Value) (x5 : Value) (x6 : Value) (x7 : Value) (x8 : Value) (x9 : Value) (x10 : Value) (x11 : Value) (x12 : Value) (x13 : Value) (h14 : Nat) (x15 : Value) (x16 : Value) (x17 : Value) (x18 : Value) (g19 : Nat → Int32) (sz : Nat) : Met l yX8_costOfDisorder wsX8_costOfDisorder ({ frames := 8, cells := 12, slots := 71, locals := 170 }) (kWY D cy de [.ref h1] [(h1, .inr (10, [x2, x3, x4, x5, x6, x7, x8, x9, x10, x11, x12, x13, .ref h14, x15, x16, .int 0, x17, x18])), (h14, .inl (cy 1, 6, .inl g19))] sz) (va_Qf (fun (r : UInt32) (_ : Unit) => r = 0 ∧ True) (fun (_ : Unit) (t : State) => va_P D vwCl [(h1, .inr (10, [x2, x3, x4, x5, x6, x7, x8, x9, x10, x11, x12, x13, .ref h14, x15, x16, .int 0, x17, .int 2])), (h14, .inl (cy 1, 6, .inl g19))] t.heap ∧ va_D (va_A [(h1, .inr (10, [x2, x3, x4, x5, x6, x7, x8, x9, x10, x11, x12, x13, .ref h14, x15, x16, .int 0, x17, x18])), (h14, .inl (cy 1, 6, .inl g19))] sz) [(h1, .inr (10, [x2, x3, x4, x5, x6, x7, x8, x9, x10, x11, x12, x13, .ref h14, x15, x16, .int 0, x17, .int 2])), (h14, .inl (cy 1, 6, .inl g19))]) (va_A [(h1, .inr (10, [x2, x3, x4, x5, x6, x7, x8, x9, x10, x11, x12, x13, .ref h14, x15, x16, .int 0, x17, x18])), (h14, .inl (cy 1, 6, .inl g19))] sz)) 12 71 (va_A [(h1, .inr (10, [x2, x3, x4, x5, x6, x7, x8, x9, x10, x11, x12, x13, .ref h14, x15, x16, .int 0, x17, x18])), (h14, .inl (cy 1, 6, .inl g19))] sz) := by
  refine Met.ofW (cc := cX8_costOfDisorder) (maxL := 3) (ret := (some .float)) (by decide) rfl ?_
  intro p e s m args below meth c s₁ B hml hv
  obtain ⟨rfl, hsz, hP, hK, hD0, hE, hY⟩ := hv
  have hx := B.exec
  have hb := B.bytes
  have hr := B.returns
  have hts := atoms_spec (ws := wsX8_costOfDisorder) B.pre
  have hown : s.vm.findClass RX8 = some m.cls := findClass_of_methodNamed B.named
  have hlocks := B.notSynchronized
  subst hsz
  have hD := hD0.self (sz := s.heap.size)
  generalize hAe : va_A [(h1, .inr (10, [x2, x3, x4, x5, x6, x7, x8, x9, x10, x11, x12, x13, .ref h14, x15, x16, .int 0, x17, x18])), (h14, .inl (cy 1, 6, .inl g19))] s.heap.size = A at hD hE hY ⊢
  have hA : ∀ q : Nat, s.heap.size ≤ q → A q := fun q h => by rw [← hAe]; exact Or.inr h
  have hS : va_S A s.heap s.heap [] := va_S.rf
  have hP : va_P D vwCl [(h1, .inr (10, [x2, x3, x4, x5, x6, x7, x8, x9, x10, x11, x12, x13, .ref h14, x15, x16, .int 0, x17, x18])), (h14, .inl (cy 1, 6, .inl g19))] s.heap := hP
  have hl := lv_entry ([.ref h1]) (n := 3) (Nat.le_of_ble_eq_true rfl)
  rw [lg_entry_eq]
  generalize (lg_sl ([.ref h1]) ++ List.replicate (3 - (lg_sl ([.ref h1])).length) Slot.unset).toArray = ls at hl ⊢
  have hl : lv_has ls 3 [(0, .ref h1)] := hl
  refine lv_aload_n hx hb dX8_costOfDisorder_0 rfl (lv_at hl 0 rfl) ?_
  refine lv_aload_n hx hb dX8_costOfDisorder_1 rfl (lv_at hl 0 rfl) ?_
  have hPc := hP.sub (ws' := [(h1, .inr (10, [x2, x3, x4, x5, x6, x7, x8, x9, x10, x11, x12, x13, .ref h14, x15, x16, .int 0, x17, x18]))]) [0] rfl
  refine va_calli (va_runV (As := []) (rest := [.ref h1]) ⟨hx, hb, hml, hown, hts⟩ (k_X8_areMany l D cy h1 (x2) (x3) (x4) (x5) (x6) (x7) (x8) (x9) (x10) (x11) (x12) (x13) (.ref h14) (x15) (x16) (x17) (x18)) (cwV 0 hts gX8_costOfDisorder_X8_areMany rfl rfl rfl (by decide +kernel) ⟨(Nat.le_of_ble_eq_true rfl), (Nat.le_of_ble_eq_true rfl)⟩) ⟨kR_fb, va_recv hK hP (ci := 10) (q0 := 0) rfl rfl, (kR_go hPc hK)⟩ rfl rfl hl.1 rfl (lv_room (Nat.le_of_ble_eq_true rfl)) dX8_costOfDisorder_2 ⟨(Nat.le_of_ble_eq_true rfl), (Nat.le_of_ble_eq_true rfl)⟩) hS (fun _ _ h => h.elim) (fun _ h => h.elim) (fun r9 u t H locs ht hvm hw hB hz1 hk1 hS => ?_)
  have hP := kx_kept hP hk1
  obtain ⟨rfl, hw⟩ := hw
  refine lv_iconst (v := 1) hx hb dX8_costOfDisorder_5 (by decide) ?_
  have hPc := hP.sub (ws' := [(h1, .inr (10, [x2, x3, x4, x5, x6, x7, x8, x9, x10, x11, x12, x13, .ref h14, x15, x16, .int 0, x17, x18]))]) [0] rfl
  have hDc := hD.sub (ws' := [(h1, .inr (10, [x2, x3, x4, x5, x6, x7, x8, x9, x10, x11, x12, x13, .ref h14, x15, x16, .int 0, x17, x18]))]) [0] (by decide) rfl
  have hFc := va_free (wc := [(h1, .inr (10, [x2, x3, x4, x5, x6, x7, x8, x9, x10, x11, x12, x13, .ref h14, x15, x16, .int 0, x17, x18]))]) hD hS hA [0] rfl
  refine va_calli (va_runV (As := [.int 0, .int 1]) (rest := []) ⟨hx, hb, hml, hown, hts⟩ (k_X8_isThrown_1 l D cy h1 (x2) (x3) (x4) (x5) (x6) (x7) (x8) (x9) (x10) (x11) (x12) (x13) (.ref h14) (x15) (x16) (.int 0) (x17) (x18) H.size) (cwV 2 hts gX8_costOfDisorder_X8_isThrown rfl rfl rfl (by decide +kernel) ⟨(Nat.le_of_ble_eq_true rfl), (Nat.le_of_ble_eq_true rfl)⟩) ⟨kW_fb, va_recv hK hP (ci := 10) (q0 := 0) rfl rfl, (kW_go hPc hK hDc)⟩ rfl rfl hl.1 rfl (lv_room (Nat.le_of_ble_eq_true rfl)) dX8_costOfDisorder_6 ⟨(Nat.le_of_ble_eq_true rfl), (Nat.le_of_ble_eq_true rfl)⟩) hS (fun q _ h => hFc q h) hFc (fun r9 u t H locs ht hvm hw hB hz1 hk1 hS => ?_)
  obtain ⟨hP1, hD1⟩ := hB
  rw [ht] at hP1
  try dsimp only at hw hP1 hD1
  obtain ⟨hP, hD⟩ := va_join (wr := [(h14, .inl (cy 1, 6, .inl g19))]) (w1 := [(h1, .inr (10, [x2, x3, x4, x5, x6, x7, x8, x9, x10, x11, x12, x13, .ref h14, x15, x16, .int 0, x17, .int 0]))]) hP hD [0] [1] rfl rfl (by decide) (by decide) hk1 hFc hP1 hD1
  have hP : va_P D vwCl [(h14, .inl (cy 1, 6, .inl g19)), (h1, .inr (10, [x2, x3, x4, x5, x6, x7, x8, x9, x10, x11, x12, x13, .ref h14, x15, x16, .int 0, x17, .int 0]))] H := hP
  have hD : va_D A [(h14, .inl (cy 1, 6, .inl g19)), (h1, .inr (10, [x2, x3, x4, x5, x6, x7, x8, x9, x10, x11, x12, x13, .ref h14, x15, x16, .int 0, x17, .int 0]))] := hD
  obtain ⟨rfl, hw⟩ := hw
  refine lv_if_eq (tgt := 14) hx hb dX8_costOfDisorder_9 (by decide) (fun _ => ?_) (fun h => absurd (by decide) h)
  refine lv_aload_n hx hb dX8_costOfDisorder_14 rfl (lv_at hl 0 rfl) ?_
  have hPc := hP.sub (ws' := [(h1, .inr (10, [x2, x3, x4, x5, x6, x7, x8, x9, x10, x11, x12, x13, .ref h14, x15, x16, .int 0, x17, .int 0])), (h14, .inl (cy 1, 6, .inl g19))]) [1, 0] rfl
  have hDc := hD.sub (ws' := [(h1, .inr (10, [x2, x3, x4, x5, x6, x7, x8, x9, x10, x11, x12, x13, .ref h14, x15, x16, .int 0, x17, .int 0])), (h14, .inl (cy 1, 6, .inl g19))]) [1, 0] (by decide) rfl
  have hFc := va_free (wc := [(h1, .inr (10, [x2, x3, x4, x5, x6, x7, x8, x9, x10, x11, x12, x13, .ref h14, x15, x16, .int 0, x17, .int 0])), (h14, .inl (cy 1, 6, .inl g19))]) hD hS hA [1, 0] rfl
  refine va_callr (va_runV (As := []) (rest := []) ⟨hx, hb, hml, hown, hts⟩ (k_X8_rests l hl9 D cy de h1 (x2) (x3) (x4) (x5) (x6) (x7) (x8) (x9) (x10) (x11) (x12) (x13) h14 (x15) (x16) (x17) (.int 0) g19 H.size) (cwV 0 hts gX8_costOfDisorder_X8_rests rfl rfl rfl (by decide +kernel) ⟨(Nat.le_of_ble_eq_true rfl), (Nat.le_of_ble_eq_true rfl)⟩) ⟨kWY_fb, va_recv hK hP (ci := 10) (q0 := 1) rfl rfl, (kWY_go hPc hK hDc hFc hE hY hS)⟩ rfl rfl hl.1 rfl (lv_room (Nat.le_of_ble_eq_true rfl)) dX8_costOfDisorder_15 ⟨(Nat.le_of_ble_eq_true rfl), (Nat.le_of_ble_eq_true rfl)⟩) hS (fun q _ h => hFc q h) hFc (fun u r9 t H locs ht hvm hw hB hz1 hk1 hS => ?_)
  obtain ⟨z_3, z_4, u_5, z_6⟩ := u
  obtain ⟨e9, hB⟩ := hB
  have e9 := e9.symm
  subst e9
  obtain ⟨hP1, hD1⟩ := hB
  rw [ht] at hP1
  try dsimp only at hw hP1 hD1
  obtain ⟨hP, hD⟩ := va_join (wr := []) (w1 := [(h1, .inr (10, [x2, x3, x4, x5, x6, x7, x8, x9, x10, x11, x12, x13, .ref h14, x15, x16, .int 0, x17, .int 0])), (h14, .inl (cy 1, 6, .inl g19)), (z_3, .inr (1, [.int 1, .ref z_4, .int 1])), (z_4, .inl (cy 7, 10, .inr (.inr (.inr (.inr u_5))))), (z_6, .inl (cy 1, 6, .inl g19))]) hP hD [1, 0] [] rfl rfl (by decide) (by decide) hk1 hFc hP1 hD1
  have hP : va_P D vwCl [(h1, .inr (10, [x2, x3, x4, x5, x6, x7, x8, x9, x10, x11, x12, x13, .ref h14, x15, x16, .int 0, x17, .int 0])), (h14, .inl (cy 1, 6, .inl g19)), (z_3, .inr (1, [.int 1, .ref z_4, .int 1])), (z_4, .inl (cy 7, 10, .inr (.inr (.inr (.inr u_5))))), (z_6, .inl (cy 1, 6, .inl g19))] H := hP
  have hD : va_D A [(h1, .inr (10, [x2, x3, x4, x5, x6, x7, x8, x9, x10, x11, x12, x13, .ref h14, x15, x16, .int 0, x17, .int 0])), (h14, .inl (cy 1, 6, .inl g19)), (z_3, .inr (1, [.int 1, .ref z_4, .int 1])), (z_4, .inl (cy 7, 10, .inr (.inr (.inr (.inr u_5))))), (z_6, .inl (cy 1, 6, .inl g19))] := hD
  refine W.widen (k := 7) (n := 42) (Nat.le_of_ble_eq_true rfl) (Nat.le_of_ble_eq_true rfl) ?_
  obtain ⟨kf_7, hw⟩ := hw
  refine lv_astore_n (lv' := [(1, .ref z_3), (0, .ref h1)]) hx hb dX8_costOfDisorder_18 rfl hl (by decide) rfl (fun ls hl => ?_)
  refine lv_aload_n hx hb dX8_costOfDisorder_19 rfl (lv_at hl 1 rfl) ?_
  refine lv_aload_n hx hb dX8_costOfDisorder_20 rfl (lv_at hl 1 rfl) ?_
  have hPc := hP.sub (ws' := [(h1, .inr (10, [x2, x3, x4, x5, x6, x7, x8, x9, x10, x11, x12, x13, .ref h14, x15, x16, .int 0, x17, .int 0])), (h14, .inl (cy 1, 6, .inl g19))]) [0, 1] rfl
  have hDc := hD.sub (ws' := [(h1, .inr (10, [x2, x3, x4, x5, x6, x7, x8, x9, x10, x11, x12, x13, .ref h14, x15, x16, .int 0, x17, .int 0])), (h14, .inl (cy 1, 6, .inl g19))]) [0, 1] (by decide) rfl
  have hFc := va_free (wc := [(h1, .inr (10, [x2, x3, x4, x5, x6, x7, x8, x9, x10, x11, x12, x13, .ref h14, x15, x16, .int 0, x17, .int 0])), (h14, .inl (cy 1, 6, .inl g19))]) hD hS hA [0, 1] rfl
  refine va_callr (va_runV (As := []) (rest := [.ref h1]) ⟨hx, hb, hml, hown, hts⟩ (k_X8_all l hl9 D cy de h1 (x2) (x3) (x4) (x5) (x6) (x7) (x8) (x9) (x10) (x11) (x12) (x13) h14 (x15) (x16) (x17) (.int 0) g19 H.size) (cwV 0 hts gX8_costOfDisorder_X8_all rfl rfl rfl (by decide +kernel) ⟨(Nat.le_of_ble_eq_true rfl), (Nat.le_of_ble_eq_true rfl)⟩) ⟨kWY_fb, va_recv hK hP (ci := 10) (q0 := 0) rfl rfl, (kWY_go hPc hK hDc hFc hE hY hS)⟩ rfl rfl hl.1 rfl (lv_room (Nat.le_of_ble_eq_true rfl)) dX8_costOfDisorder_21 ⟨(Nat.le_of_ble_eq_true rfl), (Nat.le_of_ble_eq_true rfl)⟩) hS (fun q _ h => hFc q h) hFc (fun u r9 t H locs ht hvm hw hB hz1 hk1 hS => ?_)
  obtain ⟨z_9, z_10, u_11, z_12⟩ := u
  obtain ⟨e9, hB⟩ := hB
  have e9 := e9.symm
  subst e9
  obtain ⟨hP1, hD1⟩ := hB
  rw [ht] at hP1
  try dsimp only at hw hP1 hD1
  obtain ⟨hP, hD⟩ := va_join (wr := [(z_3, .inr (1, [.int 1, .ref z_4, .int 1])), (z_4, .inl (cy 7, 10, .inr (.inr (.inr (.inr u_5))))), (z_6, .inl (cy 1, 6, .inl g19))]) (w1 := [(h1, .inr (10, [x2, x3, x4, x5, x6, x7, x8, x9, x10, x11, x12, x13, .ref h14, x15, x16, .int 0, x17, .int 0])), (h14, .inl (cy 1, 6, .inl g19)), (z_9, .inr (1, [.int 1, .ref z_10, .int 1])), (z_10, .inl (cy 7, 10, .inr (.inr (.inr (.inr u_11))))), (z_12, .inl (cy 1, 6, .inl g19))]) hP hD [0, 1] [2, 3, 4] rfl rfl (by decide) (by decide) hk1 hFc hP1 hD1
  have hP : va_P D vwCl [(z_3, .inr (1, [.int 1, .ref z_4, .int 1])), (z_4, .inl (cy 7, 10, .inr (.inr (.inr (.inr u_5))))), (z_6, .inl (cy 1, 6, .inl g19)), (h1, .inr (10, [x2, x3, x4, x5, x6, x7, x8, x9, x10, x11, x12, x13, .ref h14, x15, x16, .int 0, x17, .int 0])), (h14, .inl (cy 1, 6, .inl g19)), (z_9, .inr (1, [.int 1, .ref z_10, .int 1])), (z_10, .inl (cy 7, 10, .inr (.inr (.inr (.inr u_11))))), (z_12, .inl (cy 1, 6, .inl g19))] H := hP
  have hD : va_D A [(z_3, .inr (1, [.int 1, .ref z_4, .int 1])), (z_4, .inl (cy 7, 10, .inr (.inr (.inr (.inr u_5))))), (z_6, .inl (cy 1, 6, .inl g19)), (h1, .inr (10, [x2, x3, x4, x5, x6, x7, x8, x9, x10, x11, x12, x13, .ref h14, x15, x16, .int 0, x17, .int 0])), (h14, .inl (cy 1, 6, .inl g19)), (z_9, .inr (1, [.int 1, .ref z_10, .int 1])), (z_10, .inl (cy 7, 10, .inr (.inr (.inr (.inr u_11))))), (z_12, .inl (cy 1, 6, .inl g19))] := hD
  refine W.widen (k := 11) (n := 67) (Nat.le_of_ble_eq_true rfl) (Nat.le_of_ble_eq_true rfl) ?_
  obtain ⟨kf_13, hw⟩ := hw
  have hPc := hP.sub (ws' := [(h1, .inr (10, [x2, x3, x4, x5, x6, x7, x8, x9, x10, x11, x12, x13, .ref h14, x15, x16, .int 0, x17, .int 0])), (z_9, .inr (1, [.int 1, .ref z_10, .int 1])), (z_10, .inl (cy 7, 10, .inr (.inr (.inr (.inr u_11))))), (z_12, .inl (cy 1, 6, .inl g19))]) [3, 5, 6, 7] rfl
  have hDc := hD.sub (ws' := [(h1, .inr (10, [x2, x3, x4, x5, x6, x7, x8, x9, x10, x11, x12, x13, .ref h14, x15, x16, .int 0, x17, .int 0])), (z_9, .inr (1, [.int 1, .ref z_10, .int 1])), (z_10, .inl (cy 7, 10, .inr (.inr (.inr (.inr u_11))))), (z_12, .inl (cy 1, 6, .inl g19))]) [3, 5, 6, 7] (by decide) rfl
  have hFc := va_free (wc := [(h1, .inr (10, [x2, x3, x4, x5, x6, x7, x8, x9, x10, x11, x12, x13, .ref h14, x15, x16, .int 0, x17, .int 0])), (z_9, .inr (1, [.int 1, .ref z_10, .int 1])), (z_10, .inl (cy 7, 10, .inr (.inr (.inr (.inr u_11))))), (z_12, .inl (cy 1, 6, .inl g19))]) hD hS hA [3, 5, 6, 7] rfl
  refine va_calli (va_runV (As := [.ref z_9]) (rest := []) ⟨hx, hb, hml, hown, hts⟩ (k_X8_least l hl9 D cy de h1 z_9 (x2) (x3) (x4) (x5) (x6) (x7) (x8) (x9) (x10) (x11) (x12) (x13) (.ref h14) (x15) (x16) (x17) (.int 0) z_10 u_11 z_12 (kf_13) g19 H.size) (cwV 1 hts gX8_costOfDisorder_X8_least rfl rfl rfl (by decide +kernel) ⟨(Nat.le_of_ble_eq_true rfl), (Nat.le_of_ble_eq_true rfl)⟩) ⟨kWY_fb, va_recv hK hP (ci := 10) (q0 := 3) rfl rfl, (kWY_go hPc hK hDc hFc hE hY hS)⟩ rfl rfl hl.1 rfl (lv_room (Nat.le_of_ble_eq_true rfl)) dX8_costOfDisorder_24 ⟨(Nat.le_of_ble_eq_true rfl), (Nat.le_of_ble_eq_true rfl)⟩) hS (fun q _ h => hFc q h) hFc (fun r9 u t H locs ht hvm hw hB hz1 hk1 hS => ?_)
  obtain ⟨hP1, hD1⟩ := hB
  rw [ht] at hP1
  try dsimp only at hw hP1 hD1
  obtain ⟨hP, hD⟩ := va_join (wr := [(z_3, .inr (1, [.int 1, .ref z_4, .int 1])), (z_4, .inl (cy 7, 10, .inr (.inr (.inr (.inr u_5))))), (z_6, .inl (cy 1, 6, .inl g19)), (h14, .inl (cy 1, 6, .inl g19))]) (w1 := [(h1, .inr (10, [x2, x3, x4, x5, x6, x7, x8, x9, x10, x11, x12, x13, .ref h14, x15, x16, .int 0, x17, .int 0])), (z_9, .inr (1, [.int 1, .ref z_10, .int 1])), (z_10, .inl (cy 7, 10, .inr (.inr (.inr (.inr u_11))))), (z_12, .inl (cy 1, 6, .inl g19))]) hP hD [3, 5, 6, 7] [0, 1, 2, 4] rfl rfl (by decide) (by decide) hk1 hFc hP1 hD1
  have hP : va_P D vwCl [(z_3, .inr (1, [.int 1, .ref z_4, .int 1])), (z_4, .inl (cy 7, 10, .inr (.inr (.inr (.inr u_5))))), (z_6, .inl (cy 1, 6, .inl g19)), (h14, .inl (cy 1, 6, .inl g19)), (h1, .inr (10, [x2, x3, x4, x5, x6, x7, x8, x9, x10, x11, x12, x13, .ref h14, x15, x16, .int 0, x17, .int 0])), (z_9, .inr (1, [.int 1, .ref z_10, .int 1])), (z_10, .inl (cy 7, 10, .inr (.inr (.inr (.inr u_11))))), (z_12, .inl (cy 1, 6, .inl g19))] H := hP
  have hD : va_D A [(z_3, .inr (1, [.int 1, .ref z_4, .int 1])), (z_4, .inl (cy 7, 10, .inr (.inr (.inr (.inr u_5))))), (z_6, .inl (cy 1, 6, .inl g19)), (h14, .inl (cy 1, 6, .inl g19)), (h1, .inr (10, [x2, x3, x4, x5, x6, x7, x8, x9, x10, x11, x12, x13, .ref h14, x15, x16, .int 0, x17, .int 0])), (z_9, .inr (1, [.int 1, .ref z_10, .int 1])), (z_10, .inl (cy 7, 10, .inr (.inr (.inr (.inr u_11))))), (z_12, .inl (cy 1, 6, .inl g19))] := hD
  refine W.widen (k := 12) (n := 71) (Nat.le_of_ble_eq_true rfl) (Nat.le_of_ble_eq_true rfl) ?_
  obtain ⟨rfl, hw⟩ := hw
  refine lv_istore_n (lv' := [(2, .int 0), (1, .ref z_3), (0, .ref h1)]) hx hb dX8_costOfDisorder_27 rfl hl (by decide) rfl (fun ls hl => ?_)
  refine lv_aload_n hx hb dX8_costOfDisorder_28 rfl (lv_at hl 2 rfl) ?_
  refine lv_aload_n hx hb dX8_costOfDisorder_29 rfl (lv_at hl 1 rfl) ?_
  have hPc := hP.sub (ws' := [(z_3, .inr (1, [.int 1, .ref z_4, .int 1]))]) [0] rfl
  refine va_calli (va_runV (As := []) (rest := [.ref h1]) ⟨hx, hb, hml, hown, hts⟩ (k_Jx4a65c_isEmpty_aae02_1 l D cy z_3 (.int 1) (.ref z_4)) (cwV 0 hts gX8_costOfDisorder_Jx4a65c_isEmpty_aae02 rfl rfl rfl (by decide +kernel) ⟨(Nat.le_of_ble_eq_true rfl), (Nat.le_of_ble_eq_true rfl)⟩) ⟨kR_fb, va_recv hK hP (ci := 1) (q0 := 0) rfl rfl, (kR_go hPc hK)⟩ rfl rfl hl.1 rfl (lv_room (Nat.le_of_ble_eq_true rfl)) dX8_costOfDisorder_30 ⟨(Nat.le_of_ble_eq_true rfl), (Nat.le_of_ble_eq_true rfl)⟩) hS (fun _ _ h => h.elim) (fun _ h => h.elim) (fun r9 u t H locs ht hvm hw hB hz1 hk1 hS => ?_)
  have hP := kx_kept hP hk1
  obtain ⟨rfl, hw⟩ := hw
  refine lv_if_ne (tgt := 40) hx hb dX8_costOfDisorder_33 (by decide) (fun h => absurd (by decide) h) (fun _ => ?_)
  refine lv_iload_n hx hb dX8_costOfDisorder_36 rfl (lv_at hl 0 rfl) ?_
  refine lv_if_ne (tgt := 44) hx hb dX8_costOfDisorder_37 (by decide) (fun h => absurd (by decide) h) (fun _ => ?_)
  refine lv_iconst (v := 1) hx hb dX8_costOfDisorder_40 (by decide) ?_
  refine lv_goto (tgt := 45) hx hb dX8_costOfDisorder_41 (by decide) ?_
  refine lv_iconst (v := 2) hx hb dX8_costOfDisorder_45 (by decide) ?_
  have hPc := hP.sub (ws' := [(h1, .inr (10, [x2, x3, x4, x5, x6, x7, x8, x9, x10, x11, x12, x13, .ref h14, x15, x16, .int 0, x17, .int 0]))]) [4] rfl
  have hDc := hD.sub (ws' := [(h1, .inr (10, [x2, x3, x4, x5, x6, x7, x8, x9, x10, x11, x12, x13, .ref h14, x15, x16, .int 0, x17, .int 0]))]) [4] (by decide) rfl
  have hFc := va_free (wc := [(h1, .inr (10, [x2, x3, x4, x5, x6, x7, x8, x9, x10, x11, x12, x13, .ref h14, x15, x16, .int 0, x17, .int 0]))]) hD hS hA [4] rfl
  refine va_calli (va_runV (As := [.int 1, .int 2]) (rest := []) ⟨hx, hb, hml, hown, hts⟩ (k_X8_isThrown_3 l D cy h1 (x2) (x3) (x4) (x5) (x6) (x7) (x8) (x9) (x10) (x11) (x12) (x13) (.ref h14) (x15) (x16) (.int 0) (x17) (.int 0) H.size) (cwV 2 hts gX8_costOfDisorder_X8_isThrown rfl rfl rfl (by decide +kernel) ⟨(Nat.le_of_ble_eq_true rfl), (Nat.le_of_ble_eq_true rfl)⟩) ⟨kW_fb, va_recv hK hP (ci := 10) (q0 := 4) rfl rfl, (kW_go hPc hK hDc)⟩ rfl rfl hl.1 rfl (lv_room (Nat.le_of_ble_eq_true rfl)) dX8_costOfDisorder_46 ⟨(Nat.le_of_ble_eq_true rfl), (Nat.le_of_ble_eq_true rfl)⟩) hS (fun q _ h => hFc q h) hFc (fun r9 u t H locs ht hvm hw hB hz1 hk1 hS => ?_)
  obtain ⟨hP1, hD1⟩ := hB
  rw [ht] at hP1
  try dsimp only at hw hP1 hD1
  obtain ⟨hP, hD⟩ := va_join (wr := [(z_3, .inr (1, [.int 1, .ref z_4, .int 1])), (z_4, .inl (cy 7, 10, .inr (.inr (.inr (.inr u_5))))), (z_6, .inl (cy 1, 6, .inl g19)), (h14, .inl (cy 1, 6, .inl g19)), (z_9, .inr (1, [.int 1, .ref z_10, .int 1])), (z_10, .inl (cy 7, 10, .inr (.inr (.inr (.inr u_11))))), (z_12, .inl (cy 1, 6, .inl g19))]) (w1 := [(h1, .inr (10, [x2, x3, x4, x5, x6, x7, x8, x9, x10, x11, x12, x13, .ref h14, x15, x16, .int 0, x17, .int 2]))]) hP hD [4] [0, 1, 2, 3, 5, 6, 7] rfl rfl (by decide) (by decide) hk1 hFc hP1 hD1
  have hP : va_P D vwCl [(z_3, .inr (1, [.int 1, .ref z_4, .int 1])), (z_4, .inl (cy 7, 10, .inr (.inr (.inr (.inr u_5))))), (z_6, .inl (cy 1, 6, .inl g19)), (h14, .inl (cy 1, 6, .inl g19)), (z_9, .inr (1, [.int 1, .ref z_10, .int 1])), (z_10, .inl (cy 7, 10, .inr (.inr (.inr (.inr u_11))))), (z_12, .inl (cy 1, 6, .inl g19)), (h1, .inr (10, [x2, x3, x4, x5, x6, x7, x8, x9, x10, x11, x12, x13, .ref h14, x15, x16, .int 0, x17, .int 2]))] H := hP
  have hD : va_D A [(z_3, .inr (1, [.int 1, .ref z_4, .int 1])), (z_4, .inl (cy 7, 10, .inr (.inr (.inr (.inr u_5))))), (z_6, .inl (cy 1, 6, .inl g19)), (h14, .inl (cy 1, 6, .inl g19)), (z_9, .inr (1, [.int 1, .ref z_10, .int 1])), (z_10, .inl (cy 7, 10, .inr (.inr (.inr (.inr u_11))))), (z_12, .inl (cy 1, 6, .inl g19)), (h1, .inr (10, [x2, x3, x4, x5, x6, x7, x8, x9, x10, x11, x12, x13, .ref h14, x15, x16, .int 0, x17, .int 2]))] := hD
  obtain ⟨rfl, hw⟩ := hw
  refine lv_if_eq (tgt := 56) hx hb dX8_costOfDisorder_49 (by decide) (fun h => absurd h (by decide)) (fun _ => ?_)
  refine lv_fconst0 hx hb dX8_costOfDisorder_52 ?_
  refine lv_goto (tgt := 65) hx hb dX8_costOfDisorder_53 (by decide) ?_
  refine W.widen (k := 12) (n := 71) (Nat.le_of_ble_eq_true rfl) (Nat.le_of_ble_eq_true rfl) ?_
  have hP9 := hP.sub (ws' := [(h1, .inr (10, [x2, x3, x4, x5, x6, x7, x8, x9, x10, x11, x12, x13, .ref h14, x15, x16, .int 0, x17, .int 2])), (h14, .inl (cy 1, 6, .inl g19))]) [7, 3] rfl
  have hD9 := hD.sub (ws' := [(h1, .inr (10, [x2, x3, x4, x5, x6, x7, x8, x9, x10, x11, x12, x13, .ref h14, x15, x16, .int 0, x17, .int 2])), (h14, .inl (cy 1, 6, .inl g19))]) [7, 3] (by decide) rfl
  exact W.fret (v := 0) hx hb hr (fun t ht hW => ⟨⟨0, (), rfl, ⟨rfl, trivial⟩, ⟨by rw [ht]; exact hP9, hD9⟩⟩, hS.F ht⟩) hS.2.2 dX8_costOfDisorder_65
theorem dX7_bestCase_0 : decode cX7_bestCase 0 = .ok (.aload_n 0, 1) := by decide +kernel
theorem dX7_bestCase_1 : decode cX7_bestCase 1 = .ok (.invokevirtual 264, 3) := by decide +kernel
set_option maxRecDepth 20000 in
theorem ggX7_bestCase_X7_lookAtPlays : GoodIn wsX7_bestCase wsX7_lookAtPlays := goodIn_ca (goodIn_ca (goodIn_ca (goodIn_r _ [6, 1, 7, 8, 9, 10, 5, 11, 12, 13, 14, 15, 16, 17, 18, 19, 20, 21, 22, 23, 24, 25, 26, 27, 28, 29, 30, 31, 32, 33, 34, 35, 36, 37, 38, 39, 40, 41, 42, 43, 44, 45, 46, 47, 48, 49, 50, 51, 52, 53, 54, 55, 56, 57, 58, 59, 60, 61, 62, 63, 64, 65, 66, 67, 68, 69, 70, 71, 72, 73, 74, 75, 76, 77, 78, 79, 80, 81, 82, 83, 84, 85, 86, 87, 88, 89, 90, 91, 92, 93, 94, 95, 96, 97, 98, 99, 100, 101, 102, 103, 104, 105, 106, 107, 108, 109, 110, 111, 112, 131, 132, 133, 134, 135, 136, 137, 138, 139, 140, 141, 142, 143, 144, 145, 146, 147, 148, 149, 150, 151, 152, 153, 154, 155, 156, 157, 158, 159, 160, 161, 162, 163, 164, 165, 166, 167, 168, 169, 170] (by decide +kernel) (by decide +kernel)) (goodIn_sub (fun _ h => List.mem_cons_of_mem _ (List.mem_append_left _ (List.mem_append_left _ (List.mem_append_left _ (List.mem_append_right _ h))))) (by decide +kernel))) (goodIn_sub (fun _ h => List.mem_cons_of_mem _ (List.mem_append_left _ (List.mem_append_left _ (List.mem_append_right _ h)))) (by decide +kernel))) (goodIn_sub (fun _ h => List.mem_cons_of_mem _ (List.mem_append_left _ (List.mem_append_right _ h))) (by decide +kernel))
set_option maxRecDepth 20000 in
theorem gX7_bestCase_X7_lookAtPlays : GoodIn wsX7_bestCase (wsV RX7 264 RX7 yX7_lookAtPlays wsX7_lookAtPlays) := goodIn_app (goodIn_of _ (by decide +kernel)) ggX7_bestCase_X7_lookAtPlays
theorem dX7_bestCase_4 : decode cX7_bestCase 4 = .ok (.aload_n 0, 1) := by decide +kernel
theorem dX7_bestCase_5 : decode cX7_bestCase 5 = .ok (.invokevirtual 345, 3) := by decide +kernel
set_option maxRecDepth 20000 in
theorem ggX7_bestCase_X7_checkQuotient : GoodIn wsX7_bestCase wsX7_checkQuotient := goodIn_ca (goodIn_ca (goodIn_r _ [116, 117, 118, 1, 119, 120, 121, 19, 122, 64, 123, 124, 125, 126, 66, 127, 128, 129, 130, 65, 131, 132, 133, 134, 135, 136, 137, 138, 139, 140, 141, 142, 143, 144, 145, 146, 147, 148, 149, 150] (by decide +kernel) (by decide +kernel)) (goodIn_sub (fun _ h => List.mem_cons_of_mem _ (List.mem_append_right _ h)) (by decide +kernel))) (goodIn_sub (fun _ h => List.mem_cons_of_mem _ (List.mem_append_left _ (List.mem_append_left _ (List.mem_append_right _ h)))) (by decide +kernel))
set_option maxRecDepth 20000 in
theorem gX7_bestCase_X7_checkQuotient : GoodIn wsX7_bestCase (wsV RX7 345 RX7 yX7_checkQuotient wsX7_checkQuotient) := goodIn_app (goodIn_of _ (by decide +kernel)) ggX7_bestCase_X7_checkQuotient
set_option maxHeartbeats 4000000 in
set_option maxRecDepth 100000 in
theorem k_X7_bestCase (l : Launch) (hl9 : l.stackTraces = false) (D : va_G) (cy : Nat → ClassId) (h1 : Nat) (h2 : Nat) (h3 : Nat) (x4 : Value) (h5 : Nat) (x6 : Value) (x7 : Value) (x8 : Value) (x9 : Value) (x10 : Value) (x11 : Value) (x12 : Value) (x13 : Value) (x14 : Value) (x15 : Value) (x16 : Value) (x17 : Value) (h18 : Nat) (h19 : Nat) (x20 : Value) (x21 : Value) (x22 : Value) (x23 : Value) (h24 : Nat) (g25 : Nat → Int32) (kg25_0 : g25 0 = 0) (g26 : Nat → Int32) (kg26_0 : g26 0 = 0) (x27 : Value) (x28 : Value) (x29 : Value) (sz : Nat) : vx_Met l yX7_bestCase wsX7_bestCase ({ frames := 7, cells := 1, slots := 6, locals := 102 }) (kWX D cy [.ref h1] [(h1, .inr (9, [.ref h2, .ref h3, x4, .ref h5, x6, x7, x8])), (h2, .inr (2, [x9, x10, x11, .int 0])), (h3, .inr (5, [x12, x13, .int 0])), (h5, .inr (8, [x14, x15, x16, x17, .ref h18, .ref h19, x20, x21, x22, x23, .ref h24, .int 0, .int 0])), (h18, .inl (cy 1, 1000, .inl g25)), (h19, .inl (cy 1, 1000, .inl g26)), (h24, .inr (5, [x27, x28, x29]))] sz) (va_Qd (fun (r : UInt64) (_ : Unit) => False) (fun (_ : Unit) (t : State) => True) (va_A [(h1, .inr (9, [.ref h2, .ref h3, x4, .ref h5, x6, x7, x8])), (h2, .inr (2, [x9, x10, x11, .int 0])), (h3, .inr (5, [x12, x13, .int 0])), (h5, .inr (8, [x14, x15, x16, x17, .ref h18, .ref h19, x20, x21, x22, x23, .ref h24, .int 0, .int 0])), (h18, .inl (cy 1, 1000, .inl g25)), (h19, .inl (cy 1, 1000, .inl g26)), (h24, .inr (5, [x27, x28, x29]))] sz)) (vx_X (fun _ : Unit => True) (fun (E : String) (_ : Unit) (_ : State) => (E = "java/lang/ArithmeticException" ∧ True)) (va_A [(h1, .inr (9, [.ref h2, .ref h3, x4, .ref h5, x6, x7, x8])), (h2, .inr (2, [x9, x10, x11, .int 0])), (h3, .inr (5, [x12, x13, .int 0])), (h5, .inr (8, [x14, x15, x16, x17, .ref h18, .ref h19, x20, x21, x22, x23, .ref h24, .int 0, .int 0])), (h18, .inl (cy 1, 1000, .inl g25)), (h19, .inl (cy 1, 1000, .inl g26)), (h24, .inr (5, [x27, x28, x29]))] sz)) 1 6 (va_A [(h1, .inr (9, [.ref h2, .ref h3, x4, .ref h5, x6, x7, x8])), (h2, .inr (2, [x9, x10, x11, .int 0])), (h3, .inr (5, [x12, x13, .int 0])), (h5, .inr (8, [x14, x15, x16, x17, .ref h18, .ref h19, x20, x21, x22, x23, .ref h24, .int 0, .int 0])), (h18, .inl (cy 1, 1000, .inl g25)), (h19, .inl (cy 1, 1000, .inl g26)), (h24, .inr (5, [x27, x28, x29]))] sz) := by
  refine vx_ofW (cc := cX7_bestCase) (maxL := 1) (ret := (some .double)) (by decide) rfl ?_
  intro p e s m args below meth c s₁ B hml ht9 hv
  obtain ⟨rfl, hsz, hP, hK, hD0, hE⟩ := hv
  have hx := B.exec
  have hb := B.bytes
  have hr := B.returns
  have hts := atoms_spec (ws := wsX7_bestCase) B.pre
  have hown : s.vm.findClass RX7 = some m.cls := findClass_of_methodNamed B.named
  have hlocks := B.notSynchronized
  subst hsz
  have hD := hD0.self (sz := s.heap.size)
  generalize hAe : va_A [(h1, .inr (9, [.ref h2, .ref h3, x4, .ref h5, x6, x7, x8])), (h2, .inr (2, [x9, x10, x11, .int 0])), (h3, .inr (5, [x12, x13, .int 0])), (h5, .inr (8, [x14, x15, x16, x17, .ref h18, .ref h19, x20, x21, x22, x23, .ref h24, .int 0, .int 0])), (h18, .inl (cy 1, 1000, .inl g25)), (h19, .inl (cy 1, 1000, .inl g26)), (h24, .inr (5, [x27, x28, x29]))] s.heap.size = A at hD hE ⊢
  have hA : ∀ q : Nat, s.heap.size ≤ q → A q := fun q h => by rw [← hAe]; exact Or.inr h
  have hS : va_S A s.heap s.heap [] := va_S.rf
  have hP : va_P D vwCl [(h1, .inr (9, [.ref h2, .ref h3, x4, .ref h5, x6, x7, x8])), (h2, .inr (2, [x9, x10, x11, .int 0])), (h3, .inr (5, [x12, x13, .int 0])), (h5, .inr (8, [x14, x15, x16, x17, .ref h18, .ref h19, x20, x21, x22, x23, .ref h24, .int 0, .int 0])), (h18, .inl (cy 1, 1000, .inl g25)), (h19, .inl (cy 1, 1000, .inl g26)), (h24, .inr (5, [x27, x28, x29]))] s.heap := hP
  have hl := lv_entry ([.ref h1]) (n := 1) (Nat.le_of_ble_eq_true rfl)
  rw [lg_entry_eq]
  generalize (lg_sl ([.ref h1]) ++ List.replicate (1 - (lg_sl ([.ref h1])).length) Slot.unset).toArray = ls at hl ⊢
  have hl : lv_has ls 1 [(0, .ref h1)] := hl
  refine lv_aload_n hx hb dX7_bestCase_0 rfl (lv_at hl 0 rfl) ?_
  have hPc := hP.sub (ws' := [(h1, .inr (9, [.ref h2, .ref h3, x4, .ref h5, x6, x7, x8])), (h2, .inr (2, [x9, x10, x11, .int 0])), (h3, .inr (5, [x12, x13, .int 0])), (h5, .inr (8, [x14, x15, x16, x17, .ref h18, .ref h19, x20, x21, x22, x23, .ref h24, .int 0, .int 0])), (h18, .inl (cy 1, 1000, .inl g25)), (h19, .inl (cy 1, 1000, .inl g26)), (h24, .inr (5, [x27, x28, x29]))]) [0, 1, 2, 3, 4, 5, 6] rfl
  have hDc := hD.sub (ws' := [(h1, .inr (9, [.ref h2, .ref h3, x4, .ref h5, x6, x7, x8])), (h2, .inr (2, [x9, x10, x11, .int 0])), (h3, .inr (5, [x12, x13, .int 0])), (h5, .inr (8, [x14, x15, x16, x17, .ref h18, .ref h19, x20, x21, x22, x23, .ref h24, .int 0, .int 0])), (h18, .inl (cy 1, 1000, .inl g25)), (h19, .inl (cy 1, 1000, .inl g26)), (h24, .inr (5, [x27, x28, x29]))]) [0, 1, 2, 3, 4, 5, 6] (by decide) rfl
  have hFc := va_free (wc := [(h1, .inr (9, [.ref h2, .ref h3, x4, .ref h5, x6, x7, x8])), (h2, .inr (2, [x9, x10, x11, .int 0])), (h3, .inr (5, [x12, x13, .int 0])), (h5, .inr (8, [x14, x15, x16, x17, .ref h18, .ref h19, x20, x21, x22, x23, .ref h24, .int 0, .int 0])), (h18, .inl (cy 1, 1000, .inl g25)), (h19, .inl (cy 1, 1000, .inl g26)), (h24, .inr (5, [x27, x28, x29]))]) hD hS hA [0, 1, 2, 3, 4, 5, 6] rfl
  refine va_callv (va_runV (As := []) (rest := []) ⟨hx, hb, hml, hown, hts⟩ (k_X7_lookAtPlays l D cy h1 h2 h3 (x4) h5 (x6) (x7) (x8) (x9) (x10) (x11) (x12) (x13) (x14) (x15) (x16) (x17) h18 h19 (x20) (x21) (x22) (x23) h24 g25 g26 (x27) (x28) (x29) s.heap.size) (cwV 0 hts gX7_bestCase_X7_lookAtPlays rfl rfl rfl (by decide +kernel) ⟨(Nat.le_of_ble_eq_true rfl), (Nat.le_of_ble_eq_true rfl)⟩) ⟨kW_fb, va_recv hK hP (ci := 9) (q0 := 0) rfl rfl, (kW_go hPc hK hDc)⟩ rfl rfl hl.1 rfl (lv_room (Nat.le_of_ble_eq_true rfl)) dX7_bestCase_1 ⟨(Nat.le_of_ble_eq_true rfl), (Nat.le_of_ble_eq_true rfl)⟩) hS (fun q _ h => hFc q h) hFc (fun u t H locs ht hvm hw hB hz1 hk1 hS => ?_)
  obtain ⟨hP1, hD1⟩ := hB
  rw [ht] at hP1
  try dsimp only at hw hP1 hD1
  obtain ⟨hP, hD⟩ := va_join (wr := []) (w1 := [(h1, .inr (9, [.ref h2, .ref h3, x4, .ref h5, x6, x7, x8])), (h2, .inr (2, [x9, x10, x11, .int 0])), (h3, .inr (5, [x12, x13, .int 0])), (h5, .inr (8, [x14, x15, x16, x17, .ref h18, .ref h19, x20, x21, x22, x23, .ref h24, .int 1, .int 1])), (h18, .inl (cy 1, 1000, .inl (upd g25 0 0))), (h19, .inl (cy 1, 1000, .inl (upd g26 0 0))), (h24, .inr (5, [x27, x28, .int 0]))]) hP hD [0, 1, 2, 3, 4, 5, 6] [] rfl rfl (by decide) (by decide) hk1 hFc hP1 hD1
  have hP : va_P D vwCl [(h1, .inr (9, [.ref h2, .ref h3, x4, .ref h5, x6, x7, x8])), (h2, .inr (2, [x9, x10, x11, .int 0])), (h3, .inr (5, [x12, x13, .int 0])), (h5, .inr (8, [x14, x15, x16, x17, .ref h18, .ref h19, x20, x21, x22, x23, .ref h24, .int 1, .int 1])), (h18, .inl (cy 1, 1000, .inl (upd g25 0 0))), (h19, .inl (cy 1, 1000, .inl (upd g26 0 0))), (h24, .inr (5, [x27, x28, .int 0]))] H := hP
  have hD : va_D A [(h1, .inr (9, [.ref h2, .ref h3, x4, .ref h5, x6, x7, x8])), (h2, .inr (2, [x9, x10, x11, .int 0])), (h3, .inr (5, [x12, x13, .int 0])), (h5, .inr (8, [x14, x15, x16, x17, .ref h18, .ref h19, x20, x21, x22, x23, .ref h24, .int 1, .int 1])), (h18, .inl (cy 1, 1000, .inl (upd g25 0 0))), (h19, .inl (cy 1, 1000, .inl (upd g26 0 0))), (h24, .inr (5, [x27, x28, .int 0]))] := hD
  refine lv_aload_n hx hb dX7_bestCase_4 rfl (lv_at hl 0 rfl) ?_
  have hPc := hP.sub (ws' := [(h1, .inr (9, [.ref h2, .ref h3, x4, .ref h5, x6, x7, x8])), (h5, .inr (8, [x14, x15, x16, x17, .ref h18, .ref h19, x20, x21, x22, x23, .ref h24, .int 1, .int 1])), (h18, .inl (cy 1, 1000, .inl (upd g25 0 0))), (h19, .inl (cy 1, 1000, .inl (upd g26 0 0)))]) [0, 3, 4, 5] rfl
  refine vx_callv (vx_runV (As := []) (rest := []) ⟨hx, hb, hml, hown, hts⟩ (k_X7_checkQuotient l hl9 D cy h1 (.ref h2) (.ref h3) (x4) h5 (x6) (x7) (x8) (x14) (x15) (x16) (x17) h18 h19 (x20) (x21) (x22) (x23) (.ref h24) (.int 1) (upd g25 0 0) (rfl) (upd g26 0 0) (rfl)) (cwV 0 hts gX7_bestCase_X7_checkQuotient rfl rfl rfl (by decide +kernel) ⟨(Nat.le_of_ble_eq_true rfl), (Nat.le_of_ble_eq_true rfl)⟩) ⟨kRX_fb, va_recv hK hP (ci := 9) (q0 := 0) rfl rfl, (kRX_go hPc hK hE hS)⟩ rfl rfl hl.1 rfl (lv_room (Nat.le_of_ble_eq_true rfl)) dX7_bestCase_5 ⟨(Nat.le_of_ble_eq_true rfl), (Nat.le_of_ble_eq_true rfl)⟩) hS (fun _ _ h => h.elim) (fun _ h => h.elim) (fun _ _ h => h.elim) (fun E9 ce9 q9 u t H locs ht hvm hw hB hz1 hk1 hS hce hcv hcl => ?_) (fun u t H locs ht hvm hw hB hz1 hk1 hS => ?_)
  · obtain ⟨rfl, hB⟩ := hB
    have f_2 : True := hB
    exact vx_out (fun x hx => (ht9 x hx).elim) hlocks hce hcv hcl (fun t ht _ => ⟨(), trivial, (⟨rfl, trivial⟩), hS.F ht⟩) hS.2.2 (Nat.le_of_ble_eq_true rfl) (Nat.le_of_ble_eq_true rfl)
  · exact (show False from hw).elim
theorem dL_bestCase_0 : decode cL_bestCase 0 = .ok (.aload_n 1, 1) := by decide +kernel
theorem dL_bestCase_1 : decode cL_bestCase 1 = .ok (.iconst 0, 1) := by decide +kernel
theorem dL_bestCase_2 : decode cL_bestCase 2 = .ok (.aload_n 0, 1) := by decide +kernel
theorem dL_bestCase_3 : decode cL_bestCase 3 = .ok (.invokevirtual 137, 3) := by decide +kernel
set_option maxRecDepth 20000 in
theorem ggL_bestCase_X7_bestCase : GoodIn wsL_bestCase wsX7_bestCase := goodIn_ca (goodIn_ca (goodIn_ca (goodIn_ca (goodIn_r _ [7, 8, 9, 10, 11, 6, 12, 13, 14, 15, 16, 17, 18, 19, 20, 21, 22, 23, 24, 25, 26, 27, 28, 29, 30, 31, 32, 33, 34, 35, 36, 37, 38, 39, 40, 41, 42, 43, 44, 45, 46, 47, 48, 49, 50, 51, 52, 53, 54, 55, 56, 57, 58, 59, 60, 61, 62, 63, 64, 65, 66, 67, 68, 69, 70, 71, 72, 73, 74, 75, 76, 77, 78, 79, 80, 81, 82, 83, 84, 85, 86, 87, 88, 89, 90, 91, 92, 93, 94, 95, 96, 97, 98, 99, 100, 101, 102, 103, 104, 105, 106, 107, 108, 109, 110, 111, 112, 113, 114, 115, 116, 117, 118, 119, 120, 121, 122, 123, 124, 125, 126, 127, 128, 129, 130, 131, 132, 133, 134, 135, 136, 137, 138, 139, 140, 141, 142, 143, 144, 145, 146, 147, 148, 149, 150, 151, 152, 153, 154, 155, 156, 157, 158, 159, 160, 161, 162, 163, 164, 165, 166, 167, 168, 169, 170, 171, 172, 173, 174, 175, 176] (by decide +kernel) (by decide +kernel)) (goodIn_sub (fun _ h => List.mem_cons_of_mem _ (List.mem_append_left _ (List.mem_append_left _ (List.mem_append_right _ h)))) (by decide +kernel))) (goodIn_sub (fun _ h => List.mem_cons_of_mem _ (List.mem_append_left _ (List.mem_append_left _ (List.mem_append_left _ (List.mem_append_right _ h))))) (by decide +kernel))) (goodIn_sub (fun _ h => List.mem_cons_of_mem _ (List.mem_append_left _ (List.mem_append_right _ h))) (by decide +kernel))) (goodIn_sub (fun _ h => List.mem_cons_of_mem _ (List.mem_append_right _ h)) (by decide +kernel))
set_option maxRecDepth 20000 in
theorem gL_bestCase_X7_bestCase : GoodIn wsL_bestCase (wsV RL 137 RX7 yX7_bestCase wsX7_bestCase) := goodIn_app (goodIn_of _ (by decide +kernel)) ggL_bestCase_X7_bestCase
theorem dL_bestCase_13 : decode cL_bestCase 13 = .ok (.astore_n 2, 1) := by decide +kernel
theorem dL_bestCase_14 : decode cL_bestCase 14 = .ok (.iconst 2, 1) := by decide +kernel
theorem dL_bestCase_15 : decode cL_bestCase 15 = .ok (.ireturn, 1) := by decide +kernel
set_option maxHeartbeats 4000000 in
set_option maxRecDepth 100000 in
theorem k_L_bestCase (l : Launch) (hl9 : l.stackTraces = false) (D : va_G) (cy : Nat → ClassId) (h1 : Nat) (h2 : Nat) (h3 : Nat) (h4 : Nat) (x5 : Value) (h6 : Nat) (x7 : Value) (x8 : Value) (x9 : Value) (x10 : Value) (x11 : Value) (x12 : Value) (x13 : Value) (x14 : Value) (x15 : Value) (x16 : Value) (x17 : Value) (x18 : Value) (h19 : Nat) (h20 : Nat) (x21 : Value) (x22 : Value) (x23 : Value) (x24 : Value) (h25 : Nat) (g26 : Nat → Int32) (kg26_0 : g26 0 = 0) (g27 : Nat → Int32) (kg27_0 : g27 0 = 0) (x28 : Value) (x29 : Value) (x30 : Value) (sz : Nat) : Met l yL_bestCase wsL_bestCase ({ frames := 8, cells := 1, slots := 6, locals := 122 }) (kWX D cy [.ref h1, .ref h2] [(h1, .inr (9, [.ref h3, .ref h4, x5, .ref h6, x7, x8, x9])), (h3, .inr (2, [x10, x11, x12, .int 0])), (h4, .inr (5, [x13, x14, .int 0])), (h6, .inr (8, [x15, x16, x17, x18, .ref h19, .ref h20, x21, x22, x23, x24, .ref h25, .int 0, .int 0])), (h19, .inl (cy 1, 1000, .inl g26)), (h20, .inl (cy 1, 1000, .inl g27)), (h25, .inr (5, [x28, x29, x30]))] sz) (va_Qi (fun (r : Int32) (_ : Unit) => r = 2 ∧ True) (fun (_ : Unit) (t : State) => va_P D vwCl [] t.heap ∧ va_D (va_A [(h1, .inr (9, [.ref h3, .ref h4, x5, .ref h6, x7, x8, x9])), (h3, .inr (2, [x10, x11, x12, .int 0])), (h4, .inr (5, [x13, x14, .int 0])), (h6, .inr (8, [x15, x16, x17, x18, .ref h19, .ref h20, x21, x22, x23, x24, .ref h25, .int 0, .int 0])), (h19, .inl (cy 1, 1000, .inl g26)), (h20, .inl (cy 1, 1000, .inl g27)), (h25, .inr (5, [x28, x29, x30]))] sz) []) (va_A [(h1, .inr (9, [.ref h3, .ref h4, x5, .ref h6, x7, x8, x9])), (h3, .inr (2, [x10, x11, x12, .int 0])), (h4, .inr (5, [x13, x14, .int 0])), (h6, .inr (8, [x15, x16, x17, x18, .ref h19, .ref h20, x21, x22, x23, x24, .ref h25, .int 0, .int 0])), (h19, .inl (cy 1, 1000, .inl g26)), (h20, .inl (cy 1, 1000, .inl g27)), (h25, .inr (5, [x28, x29, x30]))] sz)) 1 6 (va_A [(h1, .inr (9, [.ref h3, .ref h4, x5, .ref h6, x7, x8, x9])), (h3, .inr (2, [x10, x11, x12, .int 0])), (h4, .inr (5, [x13, x14, .int 0])), (h6, .inr (8, [x15, x16, x17, x18, .ref h19, .ref h20, x21, x22, x23, x24, .ref h25, .int 0, .int 0])), (h19, .inl (cy 1, 1000, .inl g26)), (h20, .inl (cy 1, 1000, .inl g27)), (h25, .inr (5, [x28, x29, x30]))] sz) := by
  refine va_MetW (cc := cL_bestCase) (maxL := 3) (ret := (some .int)) (by decide) rfl ?_
  intro p e s m args below meth c s₁ B hml hv
  obtain ⟨rfl, hsz, hP, hK, hD0, hE⟩ := hv
  have hx := B.exec
  have hb := B.bytes
  have hr := B.returns
  have hts := atoms_spec (ws := wsL_bestCase) B.pre
  have hown : s.vm.findClass RL = some m.cls := findClass_of_methodNamed B.named
  have hlocks := B.notSynchronized
  have htb := vx_table (x := yL_bestCase) B (hts _ (List.mem_cons_self))
  subst hsz
  have hD := hD0.self (sz := s.heap.size)
  generalize hAe : va_A [(h1, .inr (9, [.ref h3, .ref h4, x5, .ref h6, x7, x8, x9])), (h3, .inr (2, [x10, x11, x12, .int 0])), (h4, .inr (5, [x13, x14, .int 0])), (h6, .inr (8, [x15, x16, x17, x18, .ref h19, .ref h20, x21, x22, x23, x24, .ref h25, .int 0, .int 0])), (h19, .inl (cy 1, 1000, .inl g26)), (h20, .inl (cy 1, 1000, .inl g27)), (h25, .inr (5, [x28, x29, x30]))] s.heap.size = A at hD hE ⊢
  have hA : ∀ q : Nat, s.heap.size ≤ q → A q := fun q h => by rw [← hAe]; exact Or.inr h
  have hS : va_S A s.heap s.heap [] := va_S.rf
  have hP : va_P D vwCl [(h1, .inr (9, [.ref h3, .ref h4, x5, .ref h6, x7, x8, x9])), (h3, .inr (2, [x10, x11, x12, .int 0])), (h4, .inr (5, [x13, x14, .int 0])), (h6, .inr (8, [x15, x16, x17, x18, .ref h19, .ref h20, x21, x22, x23, x24, .ref h25, .int 0, .int 0])), (h19, .inl (cy 1, 1000, .inl g26)), (h20, .inl (cy 1, 1000, .inl g27)), (h25, .inr (5, [x28, x29, x30]))] s.heap := hP
  have hl := lv_entry ([.ref h1, .ref h2]) (n := 3) (Nat.le_of_ble_eq_true rfl)
  rw [lg_entry_eq]
  generalize (lg_sl ([.ref h1, .ref h2]) ++ List.replicate (3 - (lg_sl ([.ref h1, .ref h2])).length) Slot.unset).toArray = ls at hl ⊢
  have hl : lv_has ls 3 [(0, .ref h1), (1, .ref h2)] := hl
  refine lv_aload_n hx hb dL_bestCase_0 rfl (lv_at hl 1 rfl) ?_
  refine lv_iconst (v := 0) hx hb dL_bestCase_1 (by decide) ?_
  refine lv_aload_n hx hb dL_bestCase_2 rfl (lv_at hl 0 rfl) ?_
  have hPc := hP.sub (ws' := [(h1, .inr (9, [.ref h3, .ref h4, x5, .ref h6, x7, x8, x9])), (h3, .inr (2, [x10, x11, x12, .int 0])), (h4, .inr (5, [x13, x14, .int 0])), (h6, .inr (8, [x15, x16, x17, x18, .ref h19, .ref h20, x21, x22, x23, x24, .ref h25, .int 0, .int 0])), (h19, .inl (cy 1, 1000, .inl g26)), (h20, .inl (cy 1, 1000, .inl g27)), (h25, .inr (5, [x28, x29, x30]))]) [0, 1, 2, 3, 4, 5, 6] rfl
  have hDc := hD.sub (ws' := [(h1, .inr (9, [.ref h3, .ref h4, x5, .ref h6, x7, x8, x9])), (h3, .inr (2, [x10, x11, x12, .int 0])), (h4, .inr (5, [x13, x14, .int 0])), (h6, .inr (8, [x15, x16, x17, x18, .ref h19, .ref h20, x21, x22, x23, x24, .ref h25, .int 0, .int 0])), (h19, .inl (cy 1, 1000, .inl g26)), (h20, .inl (cy 1, 1000, .inl g27)), (h25, .inr (5, [x28, x29, x30]))]) [0, 1, 2, 3, 4, 5, 6] (by decide) rfl
  have hFc := va_free (wc := [(h1, .inr (9, [.ref h3, .ref h4, x5, .ref h6, x7, x8, x9])), (h3, .inr (2, [x10, x11, x12, .int 0])), (h4, .inr (5, [x13, x14, .int 0])), (h6, .inr (8, [x15, x16, x17, x18, .ref h19, .ref h20, x21, x22, x23, x24, .ref h25, .int 0, .int 0])), (h19, .inl (cy 1, 1000, .inl g26)), (h20, .inl (cy 1, 1000, .inl g27)), (h25, .inr (5, [x28, x29, x30]))]) hD hS hA [0, 1, 2, 3, 4, 5, 6] rfl
  refine vx_calld (vx_runV (As := []) (rest := [.int 0, .ref h2]) ⟨hx, hb, hml, hown, hts⟩ (k_X7_bestCase l hl9 D cy h1 h3 h4 (x5) h6 (x7) (x8) (x9) (x10) (x11) (x12) (x13) (x14) (x15) (x16) (x17) (x18) h19 h20 (x21) (x22) (x23) (x24) h25 g26 (kg26_0) g27 (kg27_0) (x28) (x29) (x30) s.heap.size) (cwV 0 hts gL_bestCase_X7_bestCase rfl rfl rfl (by decide +kernel) ⟨(Nat.le_of_ble_eq_true rfl), (Nat.le_of_ble_eq_true rfl)⟩) ⟨kWX_fb, va_recv hK hP (ci := 9) (q0 := 0) rfl rfl, (kWX_go hPc hK hDc hFc hE hS)⟩ rfl rfl hl.1 rfl (lv_room (Nat.le_of_ble_eq_true rfl)) dL_bestCase_3 ⟨(Nat.le_of_ble_eq_true rfl), (Nat.le_of_ble_eq_true rfl)⟩) hS (fun q _ h => hFc q h) hFc (fun q _ h => hFc q h) (fun E9 ce9 q9 u t H locs ht hvm hw hB hz1 hk1 hS hce hcv hcl => ?_) (fun r9 u t H locs ht hvm hw hB hz1 hk1 hS => ?_)
  · obtain ⟨rfl, hB⟩ := hB
    have f_1 : True := hB
    obtain ⟨hP, hD⟩ := va_join (wr := []) (w1 := []) hP hD [0, 1, 2, 3, 4, 5, 6] [] rfl rfl (by decide) (by decide) hk1 hFc (fun k q h => by simp at h) ⟨fun i j p q h => by simp at h, fun k q h => by simp at h⟩
    have hP : va_P D vwCl [] H := hP
    have hD : va_D A [] := hD
    refine vx_catch (E := "java/lang/ArithmeticException") (name := "java/lang/ArithmeticException") hown [(⟨0, 7, 10, 30⟩ : ExceptionTableEntry)] (⟨0, 7, 13, 112⟩ : ExceptionTableEntry) [] htb (List.forall_mem_cons.mpr ⟨Or.inr ⟨by decide, "java/lang/UnsupportedOperationException", (hts (.classLink RL 30 "java/lang/UnsupportedOperationException") (List.mem_cons_of_mem _ (List.mem_append_left _ (List.mem_append_left _ (List.mem_append_left _ (List.mem_append_left _ (List.mem_append_left _ (List.mem_append_left _ (List.mem_append_left _ (List.mem_append_left _ (List.mem_append_left _ (List.mem_append_left _ (List.mem_append_left _ (List.mem_of_getElem? (i := 0) rfl)))))))))))))), exP.nc hE "java/lang/ArithmeticException" "java/lang/UnsupportedOperationException" (by decide +kernel) (by decide +kernel) (by decide +kernel)⟩, (fun _ h => absurd h List.not_mem_nil)⟩) rfl (by decide) (hts (.classLink RL 112 "java/lang/ArithmeticException") (List.mem_cons_of_mem _ (List.mem_append_left _ (List.mem_append_left _ (List.mem_append_left _ (List.mem_append_left _ (List.mem_append_left _ (List.mem_append_left _ (List.mem_append_left _ (List.mem_append_left _ (List.mem_append_left _ (List.mem_append_left _ (List.mem_append_left _ (List.mem_of_getElem? (i := 1) rfl)))))))))))))) (exP.cast hE "java/lang/ArithmeticException" (by decide +kernel)) hce hcv hcl ?_
    refine lv_astore_n (lv' := [(2, .ref q9), (0, .ref h1), (1, .ref h2)]) hx hb dL_bestCase_13 rfl hl (by decide) rfl (fun ls hl => ?_)
    refine lv_iconst (v := 2) hx hb dL_bestCase_14 (by decide) ?_
    refine W.widen (k := 1) (n := 6) (Nat.le_of_ble_eq_true rfl) (Nat.le_of_ble_eq_true rfl) ?_
    have hP9 := hP.sub (ws' := []) [] rfl
    have hD9 := hD.sub (ws' := []) [] (by decide) rfl
    exact W.iret (v := 2) hx hb hr (fun t ht hW => ⟨⟨2, (), rfl, ⟨rfl, trivial⟩, ⟨by rw [ht]; exact hP9, hD9⟩⟩, hS.F ht⟩) hS.2.2 dL_bestCase_15
  · exact (show False from hw).elim
theorem dX8_bestCase_0 : decode cX8_bestCase 0 = .ok (.aload_n 0, 1) := by decide +kernel
theorem dX8_bestCase_1 : decode cX8_bestCase 1 = .ok (.aload_n 0, 1) := by decide +kernel
theorem dX8_bestCase_2 : decode cX8_bestCase 2 = .ok (.invokevirtual 240, 3) := by decide +kernel
set_option maxRecDepth 20000 in
theorem ggX8_bestCase_X8_areMany : GoodIn wsX8_bestCase wsX8_areMany := goodIn_ca (goodIn_r _ [5, 6, 7, 8, 4, 9, 10, 11, 12, 13, 14, 15, 16, 17, 18, 198, 199, 200, 201, 202, 203, 204, 205, 206, 207, 208, 209, 210, 211, 212, 213, 214, 215] (by decide +kernel) (by decide +kernel)) (goodIn_sub (fun _ h => List.mem_cons_of_mem _ (List.mem_append_left _ (List.mem_append_right _ h))) (by decide +kernel))
set_option maxRecDepth 20000 in
theorem gX8_bestCase_X8_areMany : GoodIn wsX8_bestCase (wsV RX8 240 RX8 yX8_areMany wsX8_areMany) := goodIn_app (goodIn_of _ (by decide +kernel)) ggX8_bestCase_X8_areMany
theorem dX8_bestCase_5 : decode cX8_bestCase 5 = .ok (.iconst 1, 1) := by decide +kernel
theorem dX8_bestCase_6 : decode cX8_bestCase 6 = .ok (.invokevirtual 73, 3) := by decide +kernel
set_option maxRecDepth 20000 in
theorem ggX8_bestCase_X8_isThrown : GoodIn wsX8_bestCase wsX8_isThrown := goodIn_r _ [22, 23, 198, 199, 200, 201, 202, 203, 204, 205, 206, 207, 208, 209, 210, 211, 212, 213, 214, 215] (by decide +kernel) (by decide +kernel)
set_option maxRecDepth 20000 in
theorem gX8_bestCase_X8_isThrown : GoodIn wsX8_bestCase (wsV RX8 73 RX8 yX8_isThrown wsX8_isThrown) := goodIn_app (goodIn_of _ (by decide +kernel)) ggX8_bestCase_X8_isThrown
theorem dX8_bestCase_9 : decode cX8_bestCase 9 = .ok (.ifCond .eq 5, 3) := by decide +kernel
theorem dX8_bestCase_14 : decode cX8_bestCase 14 = .ok (.aload_n 0, 1) := by decide +kernel
theorem dX8_bestCase_15 : decode cX8_bestCase 15 = .ok (.invokevirtual 243, 3) := by decide +kernel
set_option maxRecDepth 20000 in
theorem ggX8_bestCase_X8_rests : GoodIn wsX8_bestCase wsX8_rests := goodIn_ca (goodIn_ca (goodIn_r _ [27, 28, 29, 30, 31, 32, 33, 34, 35, 36, 37, 38, 39, 40, 41, 42, 43, 44, 45, 46, 47, 48, 49, 50, 51, 4, 52, 53, 54, 55, 56, 57, 58, 59, 60, 61, 62, 10, 12, 11, 63, 64, 65, 66, 67, 68, 69, 70, 71, 72, 73, 74, 75, 76, 77, 78, 79, 80, 81, 82, 83, 84, 85, 86, 87, 88, 89, 90, 91, 92, 93, 94, 95, 96, 97, 98, 99, 100, 101, 102, 103, 104, 105, 106, 107, 108, 109, 110, 111, 112, 113, 114, 115, 13, 14, 15, 16, 17, 18, 116, 117, 118, 119, 120, 121, 122, 123, 124, 125, 126, 127, 128, 129, 130, 131, 132, 133, 134, 135, 136, 137, 138, 139, 140, 141, 142, 143, 144, 145, 146, 147, 148, 149, 150, 151, 152, 153, 154, 155, 156, 157, 158, 159, 160, 161, 162, 163, 164, 165, 166, 167, 168, 169, 170, 171, 172, 173, 174, 175, 176, 177, 178, 179, 180, 181, 182, 183, 216, 217, 218, 198, 199, 200, 201, 202, 203, 204, 205, 206, 207, 208, 209, 210, 211, 212, 213, 214, 215, 219, 220, 221, 222] (by decide +kernel) (by decide +kernel)) (goodIn_sub (fun _ h => List.mem_cons_of_mem _ (List.mem_append_left _ (List.mem_append_right _ h))) (by decide +kernel))) (goodIn_sub (fun _ h => List.mem_cons_of_mem _ (List.mem_append_right _ h)) (by decide +kernel))
set_option maxRecDepth 20000 in
theorem gX8_bestCase_X8_rests : GoodIn wsX8_bestCase (wsV RX8 243 RX8 yX8_rests wsX8_rests) := goodIn_app (goodIn_of _ (by decide +kernel)) ggX8_bestCase_X8_rests
theorem dX8_bestCase_18 : decode cX8_bestCase 18 = .ok (.astore_n 1, 1) := by decide +kernel
theorem dX8_bestCase_19 : decode cX8_bestCase 19 = .ok (.aload_n 0, 1) := by decide +kernel
theorem dX8_bestCase_20 : decode cX8_bestCase 20 = .ok (.aload_n 0, 1) := by decide +kernel
theorem dX8_bestCase_21 : decode cX8_bestCase 21 = .ok (.invokevirtual 233, 3) := by decide +kernel
set_option maxRecDepth 20000 in
theorem ggX8_bestCase_X8_all : GoodIn wsX8_bestCase wsX8_all := goodIn_ca (goodIn_r _ [52, 28, 29, 30, 53, 54, 55, 56, 57, 58, 31, 32, 33, 34, 35, 36, 37, 38, 39, 40, 41, 42, 43, 44, 45, 46, 47, 48, 59, 60, 61, 4, 62, 10, 12, 11, 63, 64, 65, 66, 67, 68, 69, 70, 71, 72, 73, 74, 75, 76, 77, 78, 79, 80, 81, 82, 83, 84, 85, 86, 87, 88, 89, 90, 91, 92, 93, 94, 95, 96, 97, 98, 99, 100, 101, 102, 103, 104, 105, 106, 107, 108, 109, 110, 111, 112, 113, 114, 115, 13, 14, 15, 16, 17, 18, 216, 217, 218, 198, 199, 200, 201, 202, 203, 204, 205, 206, 207, 208, 209, 210, 211, 212, 213, 214, 215] (by decide +kernel) (by decide +kernel)) (goodIn_sub (fun _ h => List.mem_cons_of_mem _ (List.mem_append_left _ (List.mem_append_right _ h))) (by decide +kernel))
set_option maxRecDepth 20000 in
theorem gX8_bestCase_X8_all : GoodIn wsX8_bestCase (wsV RX8 233 RX8 yX8_all wsX8_all) := goodIn_app (goodIn_of _ (by decide +kernel)) ggX8_bestCase_X8_all
theorem dX8_bestCase_24 : decode cX8_bestCase 24 = .ok (.invokevirtual 247, 3) := by decide +kernel
set_option maxRecDepth 20000 in
theorem ggX8_bestCase_X8_least : GoodIn wsX8_bestCase wsX8_least := goodIn_ca (goodIn_ca (goodIn_r _ [187, 188, 31, 189, 110, 84, 111, 116, 117, 118, 30, 119, 120, 121, 122, 123, 124, 125, 126, 127, 47, 48, 128, 129, 68, 130, 131, 132, 133, 134, 135, 136, 137, 138, 139, 140, 141, 142, 143, 144, 190, 191, 192, 4, 193, 10, 166, 17, 173, 169, 170, 171, 172, 174, 175, 176, 177, 178, 179, 180, 219, 220, 221, 222, 216, 217, 218, 198, 199, 200, 201, 202, 203, 204, 205, 206, 207, 208, 209, 210, 211, 212, 213, 214, 215] (by decide +kernel) (by decide +kernel)) (goodIn_sub (fun _ h => List.mem_cons_of_mem _ (List.mem_append_left _ (List.mem_append_right _ h))) (by decide +kernel))) (goodIn_sub (fun _ h => List.mem_cons_of_mem _ (List.mem_append_right _ h)) (by decide +kernel))
set_option maxRecDepth 20000 in
theorem gX8_bestCase_X8_least : GoodIn wsX8_bestCase (wsV RX8 247 RX8 yX8_least wsX8_least) := goodIn_app (goodIn_of _ (by decide +kernel)) ggX8_bestCase_X8_least
theorem dX8_bestCase_27 : decode cX8_bestCase 27 = .ok (.istore_n 2, 1) := by decide +kernel
theorem dX8_bestCase_28 : decode cX8_bestCase 28 = .ok (.aload_n 0, 1) := by decide +kernel
theorem dX8_bestCase_29 : decode cX8_bestCase 29 = .ok (.aload_n 1, 1) := by decide +kernel
theorem dX8_bestCase_30 : decode cX8_bestCase 30 = .ok (.invokevirtual 127, 3) := by decide +kernel
set_option maxRecDepth 20000 in
theorem ggX8_bestCase_Jx4a65c_isEmpty_aae02 : GoodIn wsX8_bestCase wsJx4a65c_isEmpty_aae02 := goodIn_r _ [197, 69, 216, 217, 218] (by decide +kernel) (by decide +kernel)
set_option maxRecDepth 20000 in
theorem gX8_bestCase_Jx4a65c_isEmpty_aae02 : GoodIn wsX8_bestCase (wsV RX8 127 RJx4a65c yJx4a65c_isEmpty_aae02 wsJx4a65c_isEmpty_aae02) := goodIn_app (goodIn_of _ (by decide +kernel)) ggX8_bestCase_Jx4a65c_isEmpty_aae02
theorem dX8_bestCase_33 : decode cX8_bestCase 33 = .ok (.ifCond .ne 7, 3) := by decide +kernel
theorem dX8_bestCase_36 : decode cX8_bestCase 36 = .ok (.iload_n 2, 1) := by decide +kernel
theorem dX8_bestCase_37 : decode cX8_bestCase 37 = .ok (.ifCond .ne 7, 3) := by decide +kernel
theorem dX8_bestCase_40 : decode cX8_bestCase 40 = .ok (.iconst 1, 1) := by decide +kernel
theorem dX8_bestCase_41 : decode cX8_bestCase 41 = .ok (.goto 4, 3) := by decide +kernel
theorem dX8_bestCase_45 : decode cX8_bestCase 45 = .ok (.iconst 2, 1) := by decide +kernel
theorem dX8_bestCase_46 : decode cX8_bestCase 46 = .ok (.invokevirtual 73, 3) := by decide +kernel
theorem dX8_bestCase_49 : decode cX8_bestCase 49 = .ok (.ifCond .eq 7, 3) := by decide +kernel
theorem dX8_bestCase_52 : decode cX8_bestCase 52 = .ok (.dconst 0, 1) := by decide +kernel
theorem dX8_bestCase_53 : decode cX8_bestCase 53 = .ok (.goto 12, 3) := by decide +kernel
theorem dX8_bestCase_65 : decode cX8_bestCase 65 = .ok (.dreturn, 1) := by decide +kernel
set_option maxHeartbeats 4000000 in
set_option maxRecDepth 100000 in
theorem k_X8_bestCase (l : Launch) (hl9 : l.stackTraces = false) (D : va_G) (cy : Nat → ClassId) (de : Nat) (h1 : Nat) (x2 : Value) (x3 : Value) (x4 : Value) (x5 : Value) (x6 : Value) (x7 : Value) (x8 : Value) (x9 : Value) (x10 : Value) (x11 : Value) (x12 : Value) (x13 : Value) (h14 : Nat) (x15 : Value) (x16 : Value) (x17 : Value) (x18 : Value) (g19 : Nat → Int32) (sz : Nat) : Met l yX8_bestCase wsX8_bestCase ({ frames := 8, cells := 12, slots := 71, locals := 170 }) (kWY D cy de [.ref h1] [(h1, .inr (10, [x2, x3, x4, x5, x6, x7, x8, x9, x10, x11, x12, x13, .ref h14, x15, x16, .int 0, x17, x18])), (h14, .inl (cy 1, 6, .inl g19))] sz) (va_Qd (fun (r : UInt64) (_ : Unit) => r = 0 ∧ True) (fun (_ : Unit) (t : State) => va_P D vwCl [(h1, .inr (10, [x2, x3, x4, x5, x6, x7, x8, x9, x10, x11, x12, x13, .ref h14, x15, x16, .int 0, x17, .int 2])), (h14, .inl (cy 1, 6, .inl g19))] t.heap ∧ va_D (va_A [(h1, .inr (10, [x2, x3, x4, x5, x6, x7, x8, x9, x10, x11, x12, x13, .ref h14, x15, x16, .int 0, x17, x18])), (h14, .inl (cy 1, 6, .inl g19))] sz) [(h1, .inr (10, [x2, x3, x4, x5, x6, x7, x8, x9, x10, x11, x12, x13, .ref h14, x15, x16, .int 0, x17, .int 2])), (h14, .inl (cy 1, 6, .inl g19))]) (va_A [(h1, .inr (10, [x2, x3, x4, x5, x6, x7, x8, x9, x10, x11, x12, x13, .ref h14, x15, x16, .int 0, x17, x18])), (h14, .inl (cy 1, 6, .inl g19))] sz)) 12 71 (va_A [(h1, .inr (10, [x2, x3, x4, x5, x6, x7, x8, x9, x10, x11, x12, x13, .ref h14, x15, x16, .int 0, x17, x18])), (h14, .inl (cy 1, 6, .inl g19))] sz) := by
  refine Met.ofW (cc := cX8_bestCase) (maxL := 3) (ret := (some .double)) (by decide) rfl ?_
  intro p e s m args below meth c s₁ B hml hv
  obtain ⟨rfl, hsz, hP, hK, hD0, hE, hY⟩ := hv
  have hx := B.exec
  have hb := B.bytes
  have hr := B.returns
  have hts := atoms_spec (ws := wsX8_bestCase) B.pre
  have hown : s.vm.findClass RX8 = some m.cls := findClass_of_methodNamed B.named
  have hlocks := B.notSynchronized
  subst hsz
  have hD := hD0.self (sz := s.heap.size)
  generalize hAe : va_A [(h1, .inr (10, [x2, x3, x4, x5, x6, x7, x8, x9, x10, x11, x12, x13, .ref h14, x15, x16, .int 0, x17, x18])), (h14, .inl (cy 1, 6, .inl g19))] s.heap.size = A at hD hE hY ⊢
  have hA : ∀ q : Nat, s.heap.size ≤ q → A q := fun q h => by rw [← hAe]; exact Or.inr h
  have hS : va_S A s.heap s.heap [] := va_S.rf
  have hP : va_P D vwCl [(h1, .inr (10, [x2, x3, x4, x5, x6, x7, x8, x9, x10, x11, x12, x13, .ref h14, x15, x16, .int 0, x17, x18])), (h14, .inl (cy 1, 6, .inl g19))] s.heap := hP
  have hl := lv_entry ([.ref h1]) (n := 3) (Nat.le_of_ble_eq_true rfl)
  rw [lg_entry_eq]
  generalize (lg_sl ([.ref h1]) ++ List.replicate (3 - (lg_sl ([.ref h1])).length) Slot.unset).toArray = ls at hl ⊢
  have hl : lv_has ls 3 [(0, .ref h1)] := hl
  refine lv_aload_n hx hb dX8_bestCase_0 rfl (lv_at hl 0 rfl) ?_
  refine lv_aload_n hx hb dX8_bestCase_1 rfl (lv_at hl 0 rfl) ?_
  have hPc := hP.sub (ws' := [(h1, .inr (10, [x2, x3, x4, x5, x6, x7, x8, x9, x10, x11, x12, x13, .ref h14, x15, x16, .int 0, x17, x18]))]) [0] rfl
  refine va_calli (va_runV (As := []) (rest := [.ref h1]) ⟨hx, hb, hml, hown, hts⟩ (k_X8_areMany l D cy h1 (x2) (x3) (x4) (x5) (x6) (x7) (x8) (x9) (x10) (x11) (x12) (x13) (.ref h14) (x15) (x16) (x17) (x18)) (cwV 0 hts gX8_bestCase_X8_areMany rfl rfl rfl (by decide +kernel) ⟨(Nat.le_of_ble_eq_true rfl), (Nat.le_of_ble_eq_true rfl)⟩) ⟨kR_fb, va_recv hK hP (ci := 10) (q0 := 0) rfl rfl, (kR_go hPc hK)⟩ rfl rfl hl.1 rfl (lv_room (Nat.le_of_ble_eq_true rfl)) dX8_bestCase_2 ⟨(Nat.le_of_ble_eq_true rfl), (Nat.le_of_ble_eq_true rfl)⟩) hS (fun _ _ h => h.elim) (fun _ h => h.elim) (fun r9 u t H locs ht hvm hw hB hz1 hk1 hS => ?_)
  have hP := kx_kept hP hk1
  obtain ⟨rfl, hw⟩ := hw
  refine lv_iconst (v := 1) hx hb dX8_bestCase_5 (by decide) ?_
  have hPc := hP.sub (ws' := [(h1, .inr (10, [x2, x3, x4, x5, x6, x7, x8, x9, x10, x11, x12, x13, .ref h14, x15, x16, .int 0, x17, x18]))]) [0] rfl
  have hDc := hD.sub (ws' := [(h1, .inr (10, [x2, x3, x4, x5, x6, x7, x8, x9, x10, x11, x12, x13, .ref h14, x15, x16, .int 0, x17, x18]))]) [0] (by decide) rfl
  have hFc := va_free (wc := [(h1, .inr (10, [x2, x3, x4, x5, x6, x7, x8, x9, x10, x11, x12, x13, .ref h14, x15, x16, .int 0, x17, x18]))]) hD hS hA [0] rfl
  refine va_calli (va_runV (As := [.int 0, .int 1]) (rest := []) ⟨hx, hb, hml, hown, hts⟩ (k_X8_isThrown_1 l D cy h1 (x2) (x3) (x4) (x5) (x6) (x7) (x8) (x9) (x10) (x11) (x12) (x13) (.ref h14) (x15) (x16) (.int 0) (x17) (x18) H.size) (cwV 2 hts gX8_bestCase_X8_isThrown rfl rfl rfl (by decide +kernel) ⟨(Nat.le_of_ble_eq_true rfl), (Nat.le_of_ble_eq_true rfl)⟩) ⟨kW_fb, va_recv hK hP (ci := 10) (q0 := 0) rfl rfl, (kW_go hPc hK hDc)⟩ rfl rfl hl.1 rfl (lv_room (Nat.le_of_ble_eq_true rfl)) dX8_bestCase_6 ⟨(Nat.le_of_ble_eq_true rfl), (Nat.le_of_ble_eq_true rfl)⟩) hS (fun q _ h => hFc q h) hFc (fun r9 u t H locs ht hvm hw hB hz1 hk1 hS => ?_)
  obtain ⟨hP1, hD1⟩ := hB
  rw [ht] at hP1
  try dsimp only at hw hP1 hD1
  obtain ⟨hP, hD⟩ := va_join (wr := [(h14, .inl (cy 1, 6, .inl g19))]) (w1 := [(h1, .inr (10, [x2, x3, x4, x5, x6, x7, x8, x9, x10, x11, x12, x13, .ref h14, x15, x16, .int 0, x17, .int 0]))]) hP hD [0] [1] rfl rfl (by decide) (by decide) hk1 hFc hP1 hD1
  have hP : va_P D vwCl [(h14, .inl (cy 1, 6, .inl g19)), (h1, .inr (10, [x2, x3, x4, x5, x6, x7, x8, x9, x10, x11, x12, x13, .ref h14, x15, x16, .int 0, x17, .int 0]))] H := hP
  have hD : va_D A [(h14, .inl (cy 1, 6, .inl g19)), (h1, .inr (10, [x2, x3, x4, x5, x6, x7, x8, x9, x10, x11, x12, x13, .ref h14, x15, x16, .int 0, x17, .int 0]))] := hD
  obtain ⟨rfl, hw⟩ := hw
  refine lv_if_eq (tgt := 14) hx hb dX8_bestCase_9 (by decide) (fun _ => ?_) (fun h => absurd (by decide) h)
  refine lv_aload_n hx hb dX8_bestCase_14 rfl (lv_at hl 0 rfl) ?_
  have hPc := hP.sub (ws' := [(h1, .inr (10, [x2, x3, x4, x5, x6, x7, x8, x9, x10, x11, x12, x13, .ref h14, x15, x16, .int 0, x17, .int 0])), (h14, .inl (cy 1, 6, .inl g19))]) [1, 0] rfl
  have hDc := hD.sub (ws' := [(h1, .inr (10, [x2, x3, x4, x5, x6, x7, x8, x9, x10, x11, x12, x13, .ref h14, x15, x16, .int 0, x17, .int 0])), (h14, .inl (cy 1, 6, .inl g19))]) [1, 0] (by decide) rfl
  have hFc := va_free (wc := [(h1, .inr (10, [x2, x3, x4, x5, x6, x7, x8, x9, x10, x11, x12, x13, .ref h14, x15, x16, .int 0, x17, .int 0])), (h14, .inl (cy 1, 6, .inl g19))]) hD hS hA [1, 0] rfl
  refine va_callr (va_runV (As := []) (rest := []) ⟨hx, hb, hml, hown, hts⟩ (k_X8_rests l hl9 D cy de h1 (x2) (x3) (x4) (x5) (x6) (x7) (x8) (x9) (x10) (x11) (x12) (x13) h14 (x15) (x16) (x17) (.int 0) g19 H.size) (cwV 0 hts gX8_bestCase_X8_rests rfl rfl rfl (by decide +kernel) ⟨(Nat.le_of_ble_eq_true rfl), (Nat.le_of_ble_eq_true rfl)⟩) ⟨kWY_fb, va_recv hK hP (ci := 10) (q0 := 1) rfl rfl, (kWY_go hPc hK hDc hFc hE hY hS)⟩ rfl rfl hl.1 rfl (lv_room (Nat.le_of_ble_eq_true rfl)) dX8_bestCase_15 ⟨(Nat.le_of_ble_eq_true rfl), (Nat.le_of_ble_eq_true rfl)⟩) hS (fun q _ h => hFc q h) hFc (fun u r9 t H locs ht hvm hw hB hz1 hk1 hS => ?_)
  obtain ⟨z_3, z_4, u_5, z_6⟩ := u
  obtain ⟨e9, hB⟩ := hB
  have e9 := e9.symm
  subst e9
  obtain ⟨hP1, hD1⟩ := hB
  rw [ht] at hP1
  try dsimp only at hw hP1 hD1
  obtain ⟨hP, hD⟩ := va_join (wr := []) (w1 := [(h1, .inr (10, [x2, x3, x4, x5, x6, x7, x8, x9, x10, x11, x12, x13, .ref h14, x15, x16, .int 0, x17, .int 0])), (h14, .inl (cy 1, 6, .inl g19)), (z_3, .inr (1, [.int 1, .ref z_4, .int 1])), (z_4, .inl (cy 7, 10, .inr (.inr (.inr (.inr u_5))))), (z_6, .inl (cy 1, 6, .inl g19))]) hP hD [1, 0] [] rfl rfl (by decide) (by decide) hk1 hFc hP1 hD1
  have hP : va_P D vwCl [(h1, .inr (10, [x2, x3, x4, x5, x6, x7, x8, x9, x10, x11, x12, x13, .ref h14, x15, x16, .int 0, x17, .int 0])), (h14, .inl (cy 1, 6, .inl g19)), (z_3, .inr (1, [.int 1, .ref z_4, .int 1])), (z_4, .inl (cy 7, 10, .inr (.inr (.inr (.inr u_5))))), (z_6, .inl (cy 1, 6, .inl g19))] H := hP
  have hD : va_D A [(h1, .inr (10, [x2, x3, x4, x5, x6, x7, x8, x9, x10, x11, x12, x13, .ref h14, x15, x16, .int 0, x17, .int 0])), (h14, .inl (cy 1, 6, .inl g19)), (z_3, .inr (1, [.int 1, .ref z_4, .int 1])), (z_4, .inl (cy 7, 10, .inr (.inr (.inr (.inr u_5))))), (z_6, .inl (cy 1, 6, .inl g19))] := hD
  refine W.widen (k := 7) (n := 42) (Nat.le_of_ble_eq_true rfl) (Nat.le_of_ble_eq_true rfl) ?_
  obtain ⟨kf_7, hw⟩ := hw
  refine lv_astore_n (lv' := [(1, .ref z_3), (0, .ref h1)]) hx hb dX8_bestCase_18 rfl hl (by decide) rfl (fun ls hl => ?_)
  refine lv_aload_n hx hb dX8_bestCase_19 rfl (lv_at hl 1 rfl) ?_
  refine lv_aload_n hx hb dX8_bestCase_20 rfl (lv_at hl 1 rfl) ?_
  have hPc := hP.sub (ws' := [(h1, .inr (10, [x2, x3, x4, x5, x6, x7, x8, x9, x10, x11, x12, x13, .ref h14, x15, x16, .int 0, x17, .int 0])), (h14, .inl (cy 1, 6, .inl g19))]) [0, 1] rfl
  have hDc := hD.sub (ws' := [(h1, .inr (10, [x2, x3, x4, x5, x6, x7, x8, x9, x10, x11, x12, x13, .ref h14, x15, x16, .int 0, x17, .int 0])), (h14, .inl (cy 1, 6, .inl g19))]) [0, 1] (by decide) rfl
  have hFc := va_free (wc := [(h1, .inr (10, [x2, x3, x4, x5, x6, x7, x8, x9, x10, x11, x12, x13, .ref h14, x15, x16, .int 0, x17, .int 0])), (h14, .inl (cy 1, 6, .inl g19))]) hD hS hA [0, 1] rfl
  refine va_callr (va_runV (As := []) (rest := [.ref h1]) ⟨hx, hb, hml, hown, hts⟩ (k_X8_all l hl9 D cy de h1 (x2) (x3) (x4) (x5) (x6) (x7) (x8) (x9) (x10) (x11) (x12) (x13) h14 (x15) (x16) (x17) (.int 0) g19 H.size) (cwV 0 hts gX8_bestCase_X8_all rfl rfl rfl (by decide +kernel) ⟨(Nat.le_of_ble_eq_true rfl), (Nat.le_of_ble_eq_true rfl)⟩) ⟨kWY_fb, va_recv hK hP (ci := 10) (q0 := 0) rfl rfl, (kWY_go hPc hK hDc hFc hE hY hS)⟩ rfl rfl hl.1 rfl (lv_room (Nat.le_of_ble_eq_true rfl)) dX8_bestCase_21 ⟨(Nat.le_of_ble_eq_true rfl), (Nat.le_of_ble_eq_true rfl)⟩) hS (fun q _ h => hFc q h) hFc (fun u r9 t H locs ht hvm hw hB hz1 hk1 hS => ?_)
  obtain ⟨z_9, z_10, u_11, z_12⟩ := u
  obtain ⟨e9, hB⟩ := hB
  have e9 := e9.symm
  subst e9
  obtain ⟨hP1, hD1⟩ := hB
  rw [ht] at hP1
  try dsimp only at hw hP1 hD1
  obtain ⟨hP, hD⟩ := va_join (wr := [(z_3, .inr (1, [.int 1, .ref z_4, .int 1])), (z_4, .inl (cy 7, 10, .inr (.inr (.inr (.inr u_5))))), (z_6, .inl (cy 1, 6, .inl g19))]) (w1 := [(h1, .inr (10, [x2, x3, x4, x5, x6, x7, x8, x9, x10, x11, x12, x13, .ref h14, x15, x16, .int 0, x17, .int 0])), (h14, .inl (cy 1, 6, .inl g19)), (z_9, .inr (1, [.int 1, .ref z_10, .int 1])), (z_10, .inl (cy 7, 10, .inr (.inr (.inr (.inr u_11))))), (z_12, .inl (cy 1, 6, .inl g19))]) hP hD [0, 1] [2, 3, 4] rfl rfl (by decide) (by decide) hk1 hFc hP1 hD1
  have hP : va_P D vwCl [(z_3, .inr (1, [.int 1, .ref z_4, .int 1])), (z_4, .inl (cy 7, 10, .inr (.inr (.inr (.inr u_5))))), (z_6, .inl (cy 1, 6, .inl g19)), (h1, .inr (10, [x2, x3, x4, x5, x6, x7, x8, x9, x10, x11, x12, x13, .ref h14, x15, x16, .int 0, x17, .int 0])), (h14, .inl (cy 1, 6, .inl g19)), (z_9, .inr (1, [.int 1, .ref z_10, .int 1])), (z_10, .inl (cy 7, 10, .inr (.inr (.inr (.inr u_11))))), (z_12, .inl (cy 1, 6, .inl g19))] H := hP
  have hD : va_D A [(z_3, .inr (1, [.int 1, .ref z_4, .int 1])), (z_4, .inl (cy 7, 10, .inr (.inr (.inr (.inr u_5))))), (z_6, .inl (cy 1, 6, .inl g19)), (h1, .inr (10, [x2, x3, x4, x5, x6, x7, x8, x9, x10, x11, x12, x13, .ref h14, x15, x16, .int 0, x17, .int 0])), (h14, .inl (cy 1, 6, .inl g19)), (z_9, .inr (1, [.int 1, .ref z_10, .int 1])), (z_10, .inl (cy 7, 10, .inr (.inr (.inr (.inr u_11))))), (z_12, .inl (cy 1, 6, .inl g19))] := hD
  refine W.widen (k := 11) (n := 67) (Nat.le_of_ble_eq_true rfl) (Nat.le_of_ble_eq_true rfl) ?_
  obtain ⟨kf_13, hw⟩ := hw
  have hPc := hP.sub (ws' := [(h1, .inr (10, [x2, x3, x4, x5, x6, x7, x8, x9, x10, x11, x12, x13, .ref h14, x15, x16, .int 0, x17, .int 0])), (z_9, .inr (1, [.int 1, .ref z_10, .int 1])), (z_10, .inl (cy 7, 10, .inr (.inr (.inr (.inr u_11))))), (z_12, .inl (cy 1, 6, .inl g19))]) [3, 5, 6, 7] rfl
  have hDc := hD.sub (ws' := [(h1, .inr (10, [x2, x3, x4, x5, x6, x7, x8, x9, x10, x11, x12, x13, .ref h14, x15, x16, .int 0, x17, .int 0])), (z_9, .inr (1, [.int 1, .ref z_10, .int 1])), (z_10, .inl (cy 7, 10, .inr (.inr (.inr (.inr u_11))))), (z_12, .inl (cy 1, 6, .inl g19))]) [3, 5, 6, 7] (by decide) rfl
  have hFc := va_free (wc := [(h1, .inr (10, [x2, x3, x4, x5, x6, x7, x8, x9, x10, x11, x12, x13, .ref h14, x15, x16, .int 0, x17, .int 0])), (z_9, .inr (1, [.int 1, .ref z_10, .int 1])), (z_10, .inl (cy 7, 10, .inr (.inr (.inr (.inr u_11))))), (z_12, .inl (cy 1, 6, .inl g19))]) hD hS hA [3, 5, 6, 7] rfl
  refine va_calli (va_runV (As := [.ref z_9]) (rest := []) ⟨hx, hb, hml, hown, hts⟩ (k_X8_least l hl9 D cy de h1 z_9 (x2) (x3) (x4) (x5) (x6) (x7) (x8) (x9) (x10) (x11) (x12) (x13) (.ref h14) (x15) (x16) (x17) (.int 0) z_10 u_11 z_12 (kf_13) g19 H.size) (cwV 1 hts gX8_bestCase_X8_least rfl rfl rfl (by decide +kernel) ⟨(Nat.le_of_ble_eq_true rfl), (Nat.le_of_ble_eq_true rfl)⟩) ⟨kWY_fb, va_recv hK hP (ci := 10) (q0 := 3) rfl rfl, (kWY_go hPc hK hDc hFc hE hY hS)⟩ rfl rfl hl.1 rfl (lv_room (Nat.le_of_ble_eq_true rfl)) dX8_bestCase_24 ⟨(Nat.le_of_ble_eq_true rfl), (Nat.le_of_ble_eq_true rfl)⟩) hS (fun q _ h => hFc q h) hFc (fun r9 u t H locs ht hvm hw hB hz1 hk1 hS => ?_)
  obtain ⟨hP1, hD1⟩ := hB
  rw [ht] at hP1
  try dsimp only at hw hP1 hD1
  obtain ⟨hP, hD⟩ := va_join (wr := [(z_3, .inr (1, [.int 1, .ref z_4, .int 1])), (z_4, .inl (cy 7, 10, .inr (.inr (.inr (.inr u_5))))), (z_6, .inl (cy 1, 6, .inl g19)), (h14, .inl (cy 1, 6, .inl g19))]) (w1 := [(h1, .inr (10, [x2, x3, x4, x5, x6, x7, x8, x9, x10, x11, x12, x13, .ref h14, x15, x16, .int 0, x17, .int 0])), (z_9, .inr (1, [.int 1, .ref z_10, .int 1])), (z_10, .inl (cy 7, 10, .inr (.inr (.inr (.inr u_11))))), (z_12, .inl (cy 1, 6, .inl g19))]) hP hD [3, 5, 6, 7] [0, 1, 2, 4] rfl rfl (by decide) (by decide) hk1 hFc hP1 hD1
  have hP : va_P D vwCl [(z_3, .inr (1, [.int 1, .ref z_4, .int 1])), (z_4, .inl (cy 7, 10, .inr (.inr (.inr (.inr u_5))))), (z_6, .inl (cy 1, 6, .inl g19)), (h14, .inl (cy 1, 6, .inl g19)), (h1, .inr (10, [x2, x3, x4, x5, x6, x7, x8, x9, x10, x11, x12, x13, .ref h14, x15, x16, .int 0, x17, .int 0])), (z_9, .inr (1, [.int 1, .ref z_10, .int 1])), (z_10, .inl (cy 7, 10, .inr (.inr (.inr (.inr u_11))))), (z_12, .inl (cy 1, 6, .inl g19))] H := hP
  have hD : va_D A [(z_3, .inr (1, [.int 1, .ref z_4, .int 1])), (z_4, .inl (cy 7, 10, .inr (.inr (.inr (.inr u_5))))), (z_6, .inl (cy 1, 6, .inl g19)), (h14, .inl (cy 1, 6, .inl g19)), (h1, .inr (10, [x2, x3, x4, x5, x6, x7, x8, x9, x10, x11, x12, x13, .ref h14, x15, x16, .int 0, x17, .int 0])), (z_9, .inr (1, [.int 1, .ref z_10, .int 1])), (z_10, .inl (cy 7, 10, .inr (.inr (.inr (.inr u_11))))), (z_12, .inl (cy 1, 6, .inl g19))] := hD
  refine W.widen (k := 12) (n := 71) (Nat.le_of_ble_eq_true rfl) (Nat.le_of_ble_eq_true rfl) ?_
  obtain ⟨rfl, hw⟩ := hw
  refine lv_istore_n (lv' := [(2, .int 0), (1, .ref z_3), (0, .ref h1)]) hx hb dX8_bestCase_27 rfl hl (by decide) rfl (fun ls hl => ?_)
  refine lv_aload_n hx hb dX8_bestCase_28 rfl (lv_at hl 2 rfl) ?_
  refine lv_aload_n hx hb dX8_bestCase_29 rfl (lv_at hl 1 rfl) ?_
  have hPc := hP.sub (ws' := [(z_3, .inr (1, [.int 1, .ref z_4, .int 1]))]) [0] rfl
  refine va_calli (va_runV (As := []) (rest := [.ref h1]) ⟨hx, hb, hml, hown, hts⟩ (k_Jx4a65c_isEmpty_aae02_1 l D cy z_3 (.int 1) (.ref z_4)) (cwV 0 hts gX8_bestCase_Jx4a65c_isEmpty_aae02 rfl rfl rfl (by decide +kernel) ⟨(Nat.le_of_ble_eq_true rfl), (Nat.le_of_ble_eq_true rfl)⟩) ⟨kR_fb, va_recv hK hP (ci := 1) (q0 := 0) rfl rfl, (kR_go hPc hK)⟩ rfl rfl hl.1 rfl (lv_room (Nat.le_of_ble_eq_true rfl)) dX8_bestCase_30 ⟨(Nat.le_of_ble_eq_true rfl), (Nat.le_of_ble_eq_true rfl)⟩) hS (fun _ _ h => h.elim) (fun _ h => h.elim) (fun r9 u t H locs ht hvm hw hB hz1 hk1 hS => ?_)
  have hP := kx_kept hP hk1
  obtain ⟨rfl, hw⟩ := hw
  refine lv_if_ne (tgt := 40) hx hb dX8_bestCase_33 (by decide) (fun h => absurd (by decide) h) (fun _ => ?_)
  refine lv_iload_n hx hb dX8_bestCase_36 rfl (lv_at hl 0 rfl) ?_
  refine lv_if_ne (tgt := 44) hx hb dX8_bestCase_37 (by decide) (fun h => absurd (by decide) h) (fun _ => ?_)
  refine lv_iconst (v := 1) hx hb dX8_bestCase_40 (by decide) ?_
  refine lv_goto (tgt := 45) hx hb dX8_bestCase_41 (by decide) ?_
  refine lv_iconst (v := 2) hx hb dX8_bestCase_45 (by decide) ?_
  have hPc := hP.sub (ws' := [(h1, .inr (10, [x2, x3, x4, x5, x6, x7, x8, x9, x10, x11, x12, x13, .ref h14, x15, x16, .int 0, x17, .int 0]))]) [4] rfl
  have hDc := hD.sub (ws' := [(h1, .inr (10, [x2, x3, x4, x5, x6, x7, x8, x9, x10, x11, x12, x13, .ref h14, x15, x16, .int 0, x17, .int 0]))]) [4] (by decide) rfl
  have hFc := va_free (wc := [(h1, .inr (10, [x2, x3, x4, x5, x6, x7, x8, x9, x10, x11, x12, x13, .ref h14, x15, x16, .int 0, x17, .int 0]))]) hD hS hA [4] rfl
  refine va_calli (va_runV (As := [.int 1, .int 2]) (rest := []) ⟨hx, hb, hml, hown, hts⟩ (k_X8_isThrown_3 l D cy h1 (x2) (x3) (x4) (x5) (x6) (x7) (x8) (x9) (x10) (x11) (x12) (x13) (.ref h14) (x15) (x16) (.int 0) (x17) (.int 0) H.size) (cwV 2 hts gX8_bestCase_X8_isThrown rfl rfl rfl (by decide +kernel) ⟨(Nat.le_of_ble_eq_true rfl), (Nat.le_of_ble_eq_true rfl)⟩) ⟨kW_fb, va_recv hK hP (ci := 10) (q0 := 4) rfl rfl, (kW_go hPc hK hDc)⟩ rfl rfl hl.1 rfl (lv_room (Nat.le_of_ble_eq_true rfl)) dX8_bestCase_46 ⟨(Nat.le_of_ble_eq_true rfl), (Nat.le_of_ble_eq_true rfl)⟩) hS (fun q _ h => hFc q h) hFc (fun r9 u t H locs ht hvm hw hB hz1 hk1 hS => ?_)
  obtain ⟨hP1, hD1⟩ := hB
  rw [ht] at hP1
  try dsimp only at hw hP1 hD1
  obtain ⟨hP, hD⟩ := va_join (wr := [(z_3, .inr (1, [.int 1, .ref z_4, .int 1])), (z_4, .inl (cy 7, 10, .inr (.inr (.inr (.inr u_5))))), (z_6, .inl (cy 1, 6, .inl g19)), (h14, .inl (cy 1, 6, .inl g19)), (z_9, .inr (1, [.int 1, .ref z_10, .int 1])), (z_10, .inl (cy 7, 10, .inr (.inr (.inr (.inr u_11))))), (z_12, .inl (cy 1, 6, .inl g19))]) (w1 := [(h1, .inr (10, [x2, x3, x4, x5, x6, x7, x8, x9, x10, x11, x12, x13, .ref h14, x15, x16, .int 0, x17, .int 2]))]) hP hD [4] [0, 1, 2, 3, 5, 6, 7] rfl rfl (by decide) (by decide) hk1 hFc hP1 hD1
  have hP : va_P D vwCl [(z_3, .inr (1, [.int 1, .ref z_4, .int 1])), (z_4, .inl (cy 7, 10, .inr (.inr (.inr (.inr u_5))))), (z_6, .inl (cy 1, 6, .inl g19)), (h14, .inl (cy 1, 6, .inl g19)), (z_9, .inr (1, [.int 1, .ref z_10, .int 1])), (z_10, .inl (cy 7, 10, .inr (.inr (.inr (.inr u_11))))), (z_12, .inl (cy 1, 6, .inl g19)), (h1, .inr (10, [x2, x3, x4, x5, x6, x7, x8, x9, x10, x11, x12, x13, .ref h14, x15, x16, .int 0, x17, .int 2]))] H := hP
  have hD : va_D A [(z_3, .inr (1, [.int 1, .ref z_4, .int 1])), (z_4, .inl (cy 7, 10, .inr (.inr (.inr (.inr u_5))))), (z_6, .inl (cy 1, 6, .inl g19)), (h14, .inl (cy 1, 6, .inl g19)), (z_9, .inr (1, [.int 1, .ref z_10, .int 1])), (z_10, .inl (cy 7, 10, .inr (.inr (.inr (.inr u_11))))), (z_12, .inl (cy 1, 6, .inl g19)), (h1, .inr (10, [x2, x3, x4, x5, x6, x7, x8, x9, x10, x11, x12, x13, .ref h14, x15, x16, .int 0, x17, .int 2]))] := hD
  obtain ⟨rfl, hw⟩ := hw
  refine lv_if_eq (tgt := 56) hx hb dX8_bestCase_49 (by decide) (fun h => absurd h (by decide)) (fun _ => ?_)
  refine lv_dconst0 hx hb dX8_bestCase_52 ?_
  refine lv_goto (tgt := 65) hx hb dX8_bestCase_53 (by decide) ?_
  refine W.widen (k := 12) (n := 71) (Nat.le_of_ble_eq_true rfl) (Nat.le_of_ble_eq_true rfl) ?_
  have hP9 := hP.sub (ws' := [(h1, .inr (10, [x2, x3, x4, x5, x6, x7, x8, x9, x10, x11, x12, x13, .ref h14, x15, x16, .int 0, x17, .int 2])), (h14, .inl (cy 1, 6, .inl g19))]) [7, 3] rfl
  have hD9 := hD.sub (ws' := [(h1, .inr (10, [x2, x3, x4, x5, x6, x7, x8, x9, x10, x11, x12, x13, .ref h14, x15, x16, .int 0, x17, .int 2])), (h14, .inl (cy 1, 6, .inl g19))]) [7, 3] (by decide) rfl
  exact W.dret (v := 0) hx hb hr (fun t ht hW => ⟨⟨0, (), rfl, ⟨rfl, trivial⟩, ⟨by rw [ht]; exact hP9, hD9⟩⟩, hS.F ht⟩) hS.2.2 dX8_bestCase_65
