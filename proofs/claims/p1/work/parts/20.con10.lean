theorem dX7_countRests_0 : decode cX7_countRests 0 = .ok (.aload_n 0, 1) := by decide +kernel
theorem dX7_countRests_1 : decode cX7_countRests 1 = .ok (.invokevirtual 264, 3) := by decide +kernel
set_option maxRecDepth 20000 in
theorem ggX7_countRests_X7_lookAtPlays : GoodIn wsX7_countRests wsX7_lookAtPlays := goodIn_ca (goodIn_ca (goodIn_ca (goodIn_r _ [6, 1, 7, 8, 9, 10, 5, 11, 12, 13, 14, 15, 16, 17, 18, 19, 20, 21, 22, 23, 24, 25, 26, 27, 28, 29, 30, 31, 32, 33, 34, 35, 36, 37, 38, 39, 40, 41, 42, 43, 44, 45, 46, 47, 48, 49, 50, 51, 52, 53, 54, 55, 56, 57, 58, 59, 60, 61, 62, 63, 64, 65, 66, 67, 68, 69, 70, 71, 72, 73, 74, 75, 76, 77, 78, 79, 80, 81, 82, 83, 84, 85, 86, 87, 88, 89, 90, 91, 92, 93, 94, 95, 96, 97, 98, 99, 100, 101, 102, 103, 104, 105, 106, 107, 108, 109, 110, 111, 112, 121, 122, 123, 124, 125, 126, 127, 128, 129, 130, 131, 132, 133, 134, 135, 136, 137, 138, 139, 140, 141, 142, 143, 144, 145, 146, 147, 148, 149, 150, 151, 152, 153, 154, 155, 156, 157, 158, 159, 160] (by decide +kernel) (by decide +kernel)) (goodIn_sub (fun _ h => List.mem_cons_of_mem _ (List.mem_append_left _ (List.mem_append_left _ (List.mem_append_right _ h)))) (by decide +kernel))) (goodIn_sub (fun _ h => List.mem_cons_of_mem _ (List.mem_append_left _ (List.mem_append_right _ h))) (by decide +kernel))) (goodIn_sub (fun _ h => List.mem_cons_of_mem _ (List.mem_append_right _ h)) (by decide +kernel))
set_option maxRecDepth 20000 in
theorem gX7_countRests_X7_lookAtPlays : GoodIn wsX7_countRests (wsV RX7 264 RX7 yX7_lookAtPlays wsX7_lookAtPlays) := goodIn_app (goodIn_of _ (by decide +kernel)) ggX7_countRests_X7_lookAtPlays
theorem dX7_countRests_4 : decode cX7_countRests 4 = .ok (.aload_n 0, 1) := by decide +kernel
theorem dX7_countRests_5 : decode cX7_countRests 5 = .ok (.getfield 29, 3) := by decide +kernel
theorem dX7_countRests_8 : decode cX7_countRests 8 = .ok (.invokevirtual 267, 3) := by decide +kernel
set_option maxRecDepth 20000 in
theorem ggX7_countRests_X6_countAtRest : GoodIn wsX7_countRests wsX6_countAtRest := goodIn_ca (goodIn_r _ [116, 64, 117, 118, 119, 19, 120, 66, 128, 129, 130, 131, 132, 133, 134, 135, 136, 137, 138, 139, 140] (by decide +kernel) (by decide +kernel)) (goodIn_sub (fun _ h => List.mem_cons_of_mem _ (List.mem_append_left _ (List.mem_append_right _ h))) (by decide +kernel))
set_option maxRecDepth 20000 in
theorem gX7_countRests_X6_countAtRest : GoodIn wsX7_countRests (wsV RX7 267 RX6 yX6_countAtRest wsX6_countAtRest) := goodIn_app (goodIn_of _ (by decide +kernel)) ggX7_countRests_X6_countAtRest
theorem dX7_countRests_11 : decode cX7_countRests 11 = .ok (.ireturn, 1) := by decide +kernel
set_option maxHeartbeats 4000000 in
set_option maxRecDepth 100000 in
theorem k_X7_countRests (l : Launch) (D : va_G) (cy : Nat → ClassId) (h1 : Nat) (h2 : Nat) (h3 : Nat) (x4 : Value) (h5 : Nat) (x6 : Value) (x7 : Value) (x8 : Value) (x9 : Value) (x10 : Value) (x11 : Value) (x12 : Value) (x13 : Value) (x14 : Value) (x15 : Value) (x16 : Value) (x17 : Value) (h18 : Nat) (h19 : Nat) (x20 : Value) (x21 : Value) (x22 : Value) (x23 : Value) (h24 : Nat) (g25 : Nat → Int32) (g26 : Nat → Int32) (kg26_0 : g26 0 = 0) (x27 : Value) (x28 : Value) (x29 : Value) (sz : Nat) : Met l yX7_countRests wsX7_countRests ({ frames := 3, cells := 0, slots := 0, locals := 67 }) (kW D cy [.ref h1] [(h1, .inr (9, [.ref h2, .ref h3, x4, .ref h5, x6, x7, x8])), (h2, .inr (2, [x9, x10, x11, .int 0])), (h3, .inr (5, [x12, x13, .int 0])), (h5, .inr (8, [x14, x15, x16, x17, .ref h18, .ref h19, x20, x21, x22, x23, .ref h24, .int 0, .int 0])), (h18, .inl (cy 1, 1000, .inl g25)), (h19, .inl (cy 1, 1000, .inl g26)), (h24, .inr (5, [x27, x28, x29]))] sz) (va_Qi (fun (r : Int32) (_ : Unit) => r = 1 ∧ True) (fun (_ : Unit) (t : State) => va_P D vwCl [(h1, .inr (9, [.ref h2, .ref h3, x4, .ref h5, x6, x7, x8])), (h2, .inr (2, [x9, x10, x11, .int 0])), (h3, .inr (5, [x12, x13, .int 0])), (h5, .inr (8, [x14, x15, x16, x17, .ref h18, .ref h19, x20, x21, x22, x23, .ref h24, .int 1, .int 1])), (h18, .inl (cy 1, 1000, .inl (upd g25 0 0))), (h19, .inl (cy 1, 1000, .inl (upd g26 0 0))), (h24, .inr (5, [x27, x28, .int 0]))] t.heap ∧ va_D (va_A [(h1, .inr (9, [.ref h2, .ref h3, x4, .ref h5, x6, x7, x8])), (h2, .inr (2, [x9, x10, x11, .int 0])), (h3, .inr (5, [x12, x13, .int 0])), (h5, .inr (8, [x14, x15, x16, x17, .ref h18, .ref h19, x20, x21, x22, x23, .ref h24, .int 0, .int 0])), (h18, .inl (cy 1, 1000, .inl g25)), (h19, .inl (cy 1, 1000, .inl g26)), (h24, .inr (5, [x27, x28, x29]))] sz) [(h1, .inr (9, [.ref h2, .ref h3, x4, .ref h5, x6, x7, x8])), (h2, .inr (2, [x9, x10, x11, .int 0])), (h3, .inr (5, [x12, x13, .int 0])), (h5, .inr (8, [x14, x15, x16, x17, .ref h18, .ref h19, x20, x21, x22, x23, .ref h24, .int 1, .int 1])), (h18, .inl (cy 1, 1000, .inl (upd g25 0 0))), (h19, .inl (cy 1, 1000, .inl (upd g26 0 0))), (h24, .inr (5, [x27, x28, .int 0]))]) (va_A [(h1, .inr (9, [.ref h2, .ref h3, x4, .ref h5, x6, x7, x8])), (h2, .inr (2, [x9, x10, x11, .int 0])), (h3, .inr (5, [x12, x13, .int 0])), (h5, .inr (8, [x14, x15, x16, x17, .ref h18, .ref h19, x20, x21, x22, x23, .ref h24, .int 0, .int 0])), (h18, .inl (cy 1, 1000, .inl g25)), (h19, .inl (cy 1, 1000, .inl g26)), (h24, .inr (5, [x27, x28, x29]))] sz)) 0 0 (va_A [(h1, .inr (9, [.ref h2, .ref h3, x4, .ref h5, x6, x7, x8])), (h2, .inr (2, [x9, x10, x11, .int 0])), (h3, .inr (5, [x12, x13, .int 0])), (h5, .inr (8, [x14, x15, x16, x17, .ref h18, .ref h19, x20, x21, x22, x23, .ref h24, .int 0, .int 0])), (h18, .inl (cy 1, 1000, .inl g25)), (h19, .inl (cy 1, 1000, .inl g26)), (h24, .inr (5, [x27, x28, x29]))] sz) := by
  refine Met.ofW (cc := cX7_countRests) (maxL := 1) (ret := (some .int)) (by decide) rfl ?_
  intro p e s m args below meth c s₁ B hml hv
  obtain ⟨rfl, hsz, hP, hK, hD0⟩ := hv
  have hx := B.exec
  have hb := B.bytes
  have hr := B.returns
  have hts := atoms_spec (ws := wsX7_countRests) B.pre
  have hown : s.vm.findClass RX7 = some m.cls := findClass_of_methodNamed B.named
  have hlocks := B.notSynchronized
  subst hsz
  have hD := hD0.self (sz := s.heap.size)
  generalize hAe : va_A [(h1, .inr (9, [.ref h2, .ref h3, x4, .ref h5, x6, x7, x8])), (h2, .inr (2, [x9, x10, x11, .int 0])), (h3, .inr (5, [x12, x13, .int 0])), (h5, .inr (8, [x14, x15, x16, x17, .ref h18, .ref h19, x20, x21, x22, x23, .ref h24, .int 0, .int 0])), (h18, .inl (cy 1, 1000, .inl g25)), (h19, .inl (cy 1, 1000, .inl g26)), (h24, .inr (5, [x27, x28, x29]))] s.heap.size = A at hD ⊢
  have hA : ∀ q : Nat, s.heap.size ≤ q → A q := fun q h => by rw [← hAe]; exact Or.inr h
  have hS : va_S A s.heap s.heap [] := va_S.rf
  have hP : va_P D vwCl [(h1, .inr (9, [.ref h2, .ref h3, x4, .ref h5, x6, x7, x8])), (h2, .inr (2, [x9, x10, x11, .int 0])), (h3, .inr (5, [x12, x13, .int 0])), (h5, .inr (8, [x14, x15, x16, x17, .ref h18, .ref h19, x20, x21, x22, x23, .ref h24, .int 0, .int 0])), (h18, .inl (cy 1, 1000, .inl g25)), (h19, .inl (cy 1, 1000, .inl g26)), (h24, .inr (5, [x27, x28, x29]))] s.heap := hP
  have hl := lv_entry ([.ref h1]) (n := 1) (Nat.le_of_ble_eq_true rfl)
  rw [lg_entry_eq]
  generalize (lg_sl ([.ref h1]) ++ List.replicate (1 - (lg_sl ([.ref h1])).length) Slot.unset).toArray = ls at hl ⊢
  have hl : lv_has ls 1 [(0, .ref h1)] := hl
  refine lv_aload_n hx hb dX7_countRests_0 rfl (lv_at hl 0 rfl) ?_
  have hPc := hP.sub (ws' := [(h1, .inr (9, [.ref h2, .ref h3, x4, .ref h5, x6, x7, x8])), (h2, .inr (2, [x9, x10, x11, .int 0])), (h3, .inr (5, [x12, x13, .int 0])), (h5, .inr (8, [x14, x15, x16, x17, .ref h18, .ref h19, x20, x21, x22, x23, .ref h24, .int 0, .int 0])), (h18, .inl (cy 1, 1000, .inl g25)), (h19, .inl (cy 1, 1000, .inl g26)), (h24, .inr (5, [x27, x28, x29]))]) [0, 1, 2, 3, 4, 5, 6] rfl
  have hDc := hD.sub (ws' := [(h1, .inr (9, [.ref h2, .ref h3, x4, .ref h5, x6, x7, x8])), (h2, .inr (2, [x9, x10, x11, .int 0])), (h3, .inr (5, [x12, x13, .int 0])), (h5, .inr (8, [x14, x15, x16, x17, .ref h18, .ref h19, x20, x21, x22, x23, .ref h24, .int 0, .int 0])), (h18, .inl (cy 1, 1000, .inl g25)), (h19, .inl (cy 1, 1000, .inl g26)), (h24, .inr (5, [x27, x28, x29]))]) [0, 1, 2, 3, 4, 5, 6] (by decide) rfl
  have hFc := va_free (wc := [(h1, .inr (9, [.ref h2, .ref h3, x4, .ref h5, x6, x7, x8])), (h2, .inr (2, [x9, x10, x11, .int 0])), (h3, .inr (5, [x12, x13, .int 0])), (h5, .inr (8, [x14, x15, x16, x17, .ref h18, .ref h19, x20, x21, x22, x23, .ref h24, .int 0, .int 0])), (h18, .inl (cy 1, 1000, .inl g25)), (h19, .inl (cy 1, 1000, .inl g26)), (h24, .inr (5, [x27, x28, x29]))]) hD hS hA [0, 1, 2, 3, 4, 5, 6] rfl
  refine va_callv (va_runV (As := []) (rest := []) ⟨hx, hb, hml, hown, hts⟩ (k_X7_lookAtPlays l D cy h1 h2 h3 (x4) h5 (x6) (x7) (x8) (x9) (x10) (x11) (x12) (x13) (x14) (x15) (x16) (x17) h18 h19 (x20) (x21) (x22) (x23) h24 g25 g26 (x27) (x28) (x29) s.heap.size) (cwV 0 hts gX7_countRests_X7_lookAtPlays rfl rfl rfl (by decide +kernel) ⟨(Nat.le_of_ble_eq_true rfl), (Nat.le_of_ble_eq_true rfl)⟩) ⟨kW_fb, va_recv hK hP (ci := 9) (q0 := 0) rfl rfl, (kW_go hPc hK hDc)⟩ rfl rfl hl.1 rfl (lv_room (Nat.le_of_ble_eq_true rfl)) dX7_countRests_1 ⟨(Nat.le_of_ble_eq_true rfl), (Nat.le_of_ble_eq_true rfl)⟩) hS (fun q _ h => hFc q h) hFc (fun u t H locs ht hvm hw hB hz1 hk1 hS => ?_)
  obtain ⟨hP1, hD1⟩ := hB
  rw [ht] at hP1
  try dsimp only at hw hP1 hD1
  obtain ⟨hP, hD⟩ := va_join (wr := []) (w1 := [(h1, .inr (9, [.ref h2, .ref h3, x4, .ref h5, x6, x7, x8])), (h2, .inr (2, [x9, x10, x11, .int 0])), (h3, .inr (5, [x12, x13, .int 0])), (h5, .inr (8, [x14, x15, x16, x17, .ref h18, .ref h19, x20, x21, x22, x23, .ref h24, .int 1, .int 1])), (h18, .inl (cy 1, 1000, .inl (upd g25 0 0))), (h19, .inl (cy 1, 1000, .inl (upd g26 0 0))), (h24, .inr (5, [x27, x28, .int 0]))]) hP hD [0, 1, 2, 3, 4, 5, 6] [] rfl rfl (by decide) (by decide) hk1 hFc hP1 hD1
  have hP : va_P D vwCl [(h1, .inr (9, [.ref h2, .ref h3, x4, .ref h5, x6, x7, x8])), (h2, .inr (2, [x9, x10, x11, .int 0])), (h3, .inr (5, [x12, x13, .int 0])), (h5, .inr (8, [x14, x15, x16, x17, .ref h18, .ref h19, x20, x21, x22, x23, .ref h24, .int 1, .int 1])), (h18, .inl (cy 1, 1000, .inl (upd g25 0 0))), (h19, .inl (cy 1, 1000, .inl (upd g26 0 0))), (h24, .inr (5, [x27, x28, .int 0]))] H := hP
  have hD : va_D A [(h1, .inr (9, [.ref h2, .ref h3, x4, .ref h5, x6, x7, x8])), (h2, .inr (2, [x9, x10, x11, .int 0])), (h3, .inr (5, [x12, x13, .int 0])), (h5, .inr (8, [x14, x15, x16, x17, .ref h18, .ref h19, x20, x21, x22, x23, .ref h24, .int 1, .int 1])), (h18, .inl (cy 1, 1000, .inl (upd g25 0 0))), (h19, .inl (cy 1, 1000, .inl (upd g26 0 0))), (h24, .inr (5, [x27, x28, .int 0]))] := hD
  refine lv_aload_n hx hb dX7_countRests_4 rfl (lv_at hl 0 rfl) ?_
  refine va_get (D := D) (ci := 9) (v := .ref h5) (C := RX7) (T := TX7) (N := 7) hx hb hts (fun _ h => (List.mem_cons_of_mem _ (List.mem_append_left _ (List.mem_append_left _ (List.mem_append_left _ (List.mem_append_left _ (List.mem_append_left _ (List.mem_append_left _ (List.mem_append_left _ (List.mem_append_left _ (List.mem_append_right _ h))))))))))) hown hK hP 0 rfl rfl 3 (by decide) (hts (.fieldLink RX7 29 "SelfishJunction" "survey" "LSelfishJunction$Survey;") (List.mem_cons_of_mem _ (List.mem_append_left _ (List.mem_append_left _ (List.mem_append_left _ (List.mem_append_left _ (List.mem_append_left _ (List.mem_append_left _ (List.mem_append_left _ (List.mem_append_left _ (List.mem_append_left _ (List.mem_append_left _ (List.mem_of_getElem? (i := 0) rfl))))))))))))) (fun _ h9 => h9) rfl dX7_countRests_5 ?_
  have hPc := hP.sub (ws' := [(h5, .inr (8, [x14, x15, x16, x17, .ref h18, .ref h19, x20, x21, x22, x23, .ref h24, .int 1, .int 1])), (h19, .inl (cy 1, 1000, .inl (upd g26 0 0)))]) [3, 5] rfl
  refine va_calli (va_runV (As := []) (rest := []) ⟨hx, hb, hml, hown, hts⟩ (k_X6_countAtRest l D cy h5 (x14) (x15) (x16) (x17) (.ref h18) h19 (x20) (x21) (x22) (x23) (.ref h24) (.int 1) (upd g26 0 0) (rfl)) (cwV 0 hts gX7_countRests_X6_countAtRest rfl rfl rfl (by decide +kernel) ⟨(Nat.le_of_ble_eq_true rfl), (Nat.le_of_ble_eq_true rfl)⟩) ⟨kR_fb, va_recv hK hP (ci := 8) (q0 := 3) rfl rfl, (kR_go hPc hK)⟩ rfl rfl hl.1 rfl (lv_room (Nat.le_of_ble_eq_true rfl)) dX7_countRests_8 ⟨(Nat.le_of_ble_eq_true rfl), (Nat.le_of_ble_eq_true rfl)⟩) hS (fun _ _ h => h.elim) (fun _ h => h.elim) (fun r9 u t H locs ht hvm hw hB hz1 hk1 hS => ?_)
  have hP := kx_kept hP hk1
  obtain ⟨rfl, hw⟩ := hw
  refine W.widen (k := 0) (n := 0) (Nat.le_of_ble_eq_true rfl) (Nat.le_of_ble_eq_true rfl) ?_
  have hP9 := hP.sub (ws' := [(h1, .inr (9, [.ref h2, .ref h3, x4, .ref h5, x6, x7, x8])), (h2, .inr (2, [x9, x10, x11, .int 0])), (h3, .inr (5, [x12, x13, .int 0])), (h5, .inr (8, [x14, x15, x16, x17, .ref h18, .ref h19, x20, x21, x22, x23, .ref h24, .int 1, .int 1])), (h18, .inl (cy 1, 1000, .inl (upd g25 0 0))), (h19, .inl (cy 1, 1000, .inl (upd g26 0 0))), (h24, .inr (5, [x27, x28, .int 0]))]) [0, 1, 2, 3, 4, 5, 6] rfl
  have hD9 := hD.sub (ws' := [(h1, .inr (9, [.ref h2, .ref h3, x4, .ref h5, x6, x7, x8])), (h2, .inr (2, [x9, x10, x11, .int 0])), (h3, .inr (5, [x12, x13, .int 0])), (h5, .inr (8, [x14, x15, x16, x17, .ref h18, .ref h19, x20, x21, x22, x23, .ref h24, .int 1, .int 1])), (h18, .inl (cy 1, 1000, .inl (upd g25 0 0))), (h19, .inl (cy 1, 1000, .inl (upd g26 0 0))), (h24, .inr (5, [x27, x28, .int 0]))]) [0, 1, 2, 3, 4, 5, 6] (by decide) rfl
  exact W.iret (v := 1) hx hb hr (fun t ht hW => ⟨⟨1, (), rfl, ⟨rfl, trivial⟩, ⟨by rw [ht]; exact hP9, hD9⟩⟩, hS.F ht⟩) hS.2.2 dX7_countRests_11
theorem dL_countRests_0 : decode cL_countRests 0 = .ok (.aload_n 1, 1) := by decide +kernel
theorem dL_countRests_1 : decode cL_countRests 1 = .ok (.iconst 0, 1) := by decide +kernel
theorem dL_countRests_2 : decode cL_countRests 2 = .ok (.aload_n 0, 1) := by decide +kernel
theorem dL_countRests_3 : decode cL_countRests 3 = .ok (.invokevirtual 93, 3) := by decide +kernel
set_option maxRecDepth 20000 in
theorem ggL_countRests_X7_countRests : GoodIn wsL_countRests wsX7_countRests := goodIn_ca (goodIn_ca (goodIn_ca (goodIn_r _ [6, 7, 8, 9, 10, 5, 11, 12, 13, 14, 15, 16, 17, 18, 19, 20, 21, 22, 23, 24, 25, 26, 27, 28, 29, 30, 31, 32, 33, 34, 35, 36, 37, 38, 39, 40, 41, 42, 43, 44, 45, 46, 47, 48, 49, 50, 51, 52, 53, 54, 55, 56, 57, 58, 59, 60, 61, 62, 63, 64, 65, 66, 67, 68, 69, 70, 71, 72, 73, 74, 75, 76, 77, 78, 79, 80, 81, 82, 83, 84, 85, 86, 87, 88, 89, 90, 91, 92, 93, 94, 95, 96, 97, 98, 99, 100, 101, 102, 103, 104, 105, 106, 107, 108, 109, 110, 111, 112, 113, 114, 115, 116, 117, 118, 119, 120, 121, 122, 123, 124, 125, 126, 127, 128, 129, 130, 131, 132, 133, 134, 135, 136, 137, 138, 139, 140, 141, 142, 143, 144, 145, 146, 147, 148, 149, 150, 151, 152, 153, 154, 155, 156, 157, 158, 159, 160, 161, 162, 163, 164, 165] (by decide +kernel) (by decide +kernel)) (goodIn_sub (fun _ h => List.mem_cons_of_mem _ (List.mem_append_left _ (List.mem_append_right _ h))) (by decide +kernel))) (goodIn_sub (fun _ h => List.mem_cons_of_mem _ (List.mem_append_left _ (List.mem_append_left _ (List.mem_append_right _ h)))) (by decide +kernel))) (goodIn_sub (fun _ h => List.mem_cons_of_mem _ (List.mem_append_right _ h)) (by decide +kernel))
set_option maxRecDepth 20000 in
theorem gL_countRests_X7_countRests : GoodIn wsL_countRests (wsV RL 93 RX7 yX7_countRests wsX7_countRests) := goodIn_app (goodIn_of _ (by decide +kernel)) ggL_countRests_X7_countRests
theorem dL_countRests_6 : decode cL_countRests 6 = .ok (.i2l, 1) := by decide +kernel
theorem dL_countRests_7 : decode cL_countRests 7 = .ok (.lastore, 1) := by decide +kernel
theorem dL_countRests_8 : decode cL_countRests 8 = .ok (.goto 6, 3) := by decide +kernel
theorem dL_countRests_14 : decode cL_countRests 14 = .ok (.iconst 0, 1) := by decide +kernel
theorem dL_countRests_15 : decode cL_countRests 15 = .ok (.ireturn, 1) := by decide +kernel
set_option maxHeartbeats 4000000 in
set_option maxRecDepth 100000 in
theorem k_L_countRests (l : Launch) (D : va_G) (cy : Nat → ClassId) (h1 : Nat) (h2 : Nat) (h3 : Nat) (h4 : Nat) (x5 : Value) (h6 : Nat) (x7 : Value) (x8 : Value) (x9 : Value) (g10 : Nat → Int64) (x11 : Value) (x12 : Value) (x13 : Value) (x14 : Value) (x15 : Value) (x16 : Value) (x17 : Value) (x18 : Value) (x19 : Value) (h20 : Nat) (h21 : Nat) (x22 : Value) (x23 : Value) (x24 : Value) (x25 : Value) (h26 : Nat) (g27 : Nat → Int32) (g28 : Nat → Int32) (kg28_0 : g28 0 = 0) (x29 : Value) (x30 : Value) (x31 : Value) (sz : Nat) : Met l yL_countRests wsL_countRests ({ frames := 4, cells := 0, slots := 0, locals := 87 }) (kW D cy [.ref h1, .ref h2] [(h1, .inr (9, [.ref h3, .ref h4, x5, .ref h6, x7, x8, x9])), (h2, .inl (cy 2, 1, .inr (.inl g10))), (h3, .inr (2, [x11, x12, x13, .int 0])), (h4, .inr (5, [x14, x15, .int 0])), (h6, .inr (8, [x16, x17, x18, x19, .ref h20, .ref h21, x22, x23, x24, x25, .ref h26, .int 0, .int 0])), (h20, .inl (cy 1, 1000, .inl g27)), (h21, .inl (cy 1, 1000, .inl g28)), (h26, .inr (5, [x29, x30, x31]))] sz) (va_Qi (fun (r : Int32) (_ : Unit) => r = 0 ∧ True) (fun (_ : Unit) (t : State) => va_P D vwCl [(h2, .inl (cy 2, 1, .inr (.inl (vp_updL g10 0 1))))] t.heap ∧ va_D (va_A [(h1, .inr (9, [.ref h3, .ref h4, x5, .ref h6, x7, x8, x9])), (h2, .inl (cy 2, 1, .inr (.inl g10))), (h3, .inr (2, [x11, x12, x13, .int 0])), (h4, .inr (5, [x14, x15, .int 0])), (h6, .inr (8, [x16, x17, x18, x19, .ref h20, .ref h21, x22, x23, x24, x25, .ref h26, .int 0, .int 0])), (h20, .inl (cy 1, 1000, .inl g27)), (h21, .inl (cy 1, 1000, .inl g28)), (h26, .inr (5, [x29, x30, x31]))] sz) [(h2, .inl (cy 2, 1, .inr (.inl (vp_updL g10 0 1))))]) (va_A [(h1, .inr (9, [.ref h3, .ref h4, x5, .ref h6, x7, x8, x9])), (h2, .inl (cy 2, 1, .inr (.inl g10))), (h3, .inr (2, [x11, x12, x13, .int 0])), (h4, .inr (5, [x14, x15, .int 0])), (h6, .inr (8, [x16, x17, x18, x19, .ref h20, .ref h21, x22, x23, x24, x25, .ref h26, .int 0, .int 0])), (h20, .inl (cy 1, 1000, .inl g27)), (h21, .inl (cy 1, 1000, .inl g28)), (h26, .inr (5, [x29, x30, x31]))] sz)) 0 0 (va_A [(h1, .inr (9, [.ref h3, .ref h4, x5, .ref h6, x7, x8, x9])), (h2, .inl (cy 2, 1, .inr (.inl g10))), (h3, .inr (2, [x11, x12, x13, .int 0])), (h4, .inr (5, [x14, x15, .int 0])), (h6, .inr (8, [x16, x17, x18, x19, .ref h20, .ref h21, x22, x23, x24, x25, .ref h26, .int 0, .int 0])), (h20, .inl (cy 1, 1000, .inl g27)), (h21, .inl (cy 1, 1000, .inl g28)), (h26, .inr (5, [x29, x30, x31]))] sz) := by
  refine va_MetW (cc := cL_countRests) (maxL := 3) (ret := (some .int)) (by decide) rfl ?_
  intro p e s m args below meth c s₁ B hml hv
  obtain ⟨rfl, hsz, hP, hK, hD0⟩ := hv
  have hx := B.exec
  have hb := B.bytes
  have hr := B.returns
  have hts := atoms_spec (ws := wsL_countRests) B.pre
  have hown : s.vm.findClass RL = some m.cls := findClass_of_methodNamed B.named
  have hlocks := B.notSynchronized
  have htb := vx_table (x := yL_countRests) B (hts _ (List.mem_cons_self))
  subst hsz
  have hD := hD0.self (sz := s.heap.size)
  generalize hAe : va_A [(h1, .inr (9, [.ref h3, .ref h4, x5, .ref h6, x7, x8, x9])), (h2, .inl (cy 2, 1, .inr (.inl g10))), (h3, .inr (2, [x11, x12, x13, .int 0])), (h4, .inr (5, [x14, x15, .int 0])), (h6, .inr (8, [x16, x17, x18, x19, .ref h20, .ref h21, x22, x23, x24, x25, .ref h26, .int 0, .int 0])), (h20, .inl (cy 1, 1000, .inl g27)), (h21, .inl (cy 1, 1000, .inl g28)), (h26, .inr (5, [x29, x30, x31]))] s.heap.size = A at hD ⊢
  have hA : ∀ q : Nat, s.heap.size ≤ q → A q := fun q h => by rw [← hAe]; exact Or.inr h
  have hS : va_S A s.heap s.heap [] := va_S.rf
  have hP : va_P D vwCl [(h1, .inr (9, [.ref h3, .ref h4, x5, .ref h6, x7, x8, x9])), (h2, .inl (cy 2, 1, .inr (.inl g10))), (h3, .inr (2, [x11, x12, x13, .int 0])), (h4, .inr (5, [x14, x15, .int 0])), (h6, .inr (8, [x16, x17, x18, x19, .ref h20, .ref h21, x22, x23, x24, x25, .ref h26, .int 0, .int 0])), (h20, .inl (cy 1, 1000, .inl g27)), (h21, .inl (cy 1, 1000, .inl g28)), (h26, .inr (5, [x29, x30, x31]))] s.heap := hP
  have hl := lv_entry ([.ref h1, .ref h2]) (n := 3) (Nat.le_of_ble_eq_true rfl)
  rw [lg_entry_eq]
  generalize (lg_sl ([.ref h1, .ref h2]) ++ List.replicate (3 - (lg_sl ([.ref h1, .ref h2])).length) Slot.unset).toArray = ls at hl ⊢
  have hl : lv_has ls 3 [(0, .ref h1), (1, .ref h2)] := hl
  refine lv_aload_n hx hb dL_countRests_0 rfl (lv_at hl 1 rfl) ?_
  refine lv_iconst (v := 0) hx hb dL_countRests_1 (by decide) ?_
  refine lv_aload_n hx hb dL_countRests_2 rfl (lv_at hl 0 rfl) ?_
  have hPc := hP.sub (ws' := [(h1, .inr (9, [.ref h3, .ref h4, x5, .ref h6, x7, x8, x9])), (h3, .inr (2, [x11, x12, x13, .int 0])), (h4, .inr (5, [x14, x15, .int 0])), (h6, .inr (8, [x16, x17, x18, x19, .ref h20, .ref h21, x22, x23, x24, x25, .ref h26, .int 0, .int 0])), (h20, .inl (cy 1, 1000, .inl g27)), (h21, .inl (cy 1, 1000, .inl g28)), (h26, .inr (5, [x29, x30, x31]))]) [0, 2, 3, 4, 5, 6, 7] rfl
  have hDc := hD.sub (ws' := [(h1, .inr (9, [.ref h3, .ref h4, x5, .ref h6, x7, x8, x9])), (h3, .inr (2, [x11, x12, x13, .int 0])), (h4, .inr (5, [x14, x15, .int 0])), (h6, .inr (8, [x16, x17, x18, x19, .ref h20, .ref h21, x22, x23, x24, x25, .ref h26, .int 0, .int 0])), (h20, .inl (cy 1, 1000, .inl g27)), (h21, .inl (cy 1, 1000, .inl g28)), (h26, .inr (5, [x29, x30, x31]))]) [0, 2, 3, 4, 5, 6, 7] (by decide) rfl
  have hFc := va_free (wc := [(h1, .inr (9, [.ref h3, .ref h4, x5, .ref h6, x7, x8, x9])), (h3, .inr (2, [x11, x12, x13, .int 0])), (h4, .inr (5, [x14, x15, .int 0])), (h6, .inr (8, [x16, x17, x18, x19, .ref h20, .ref h21, x22, x23, x24, x25, .ref h26, .int 0, .int 0])), (h20, .inl (cy 1, 1000, .inl g27)), (h21, .inl (cy 1, 1000, .inl g28)), (h26, .inr (5, [x29, x30, x31]))]) hD hS hA [0, 2, 3, 4, 5, 6, 7] rfl
  refine va_calli (va_runV (As := []) (rest := [.int 0, .ref h2]) ⟨hx, hb, hml, hown, hts⟩ (k_X7_countRests l D cy h1 h3 h4 (x5) h6 (x7) (x8) (x9) (x11) (x12) (x13) (x14) (x15) (x16) (x17) (x18) (x19) h20 h21 (x22) (x23) (x24) (x25) h26 g27 g28 (kg28_0) (x29) (x30) (x31) s.heap.size) (cwV 0 hts gL_countRests_X7_countRests rfl rfl rfl (by decide +kernel) ⟨(Nat.le_of_ble_eq_true rfl), (Nat.le_of_ble_eq_true rfl)⟩) ⟨kW_fb, va_recv hK hP (ci := 9) (q0 := 0) rfl rfl, (kW_go hPc hK hDc)⟩ rfl rfl hl.1 rfl (lv_room (Nat.le_of_ble_eq_true rfl)) dL_countRests_3 ⟨(Nat.le_of_ble_eq_true rfl), (Nat.le_of_ble_eq_true rfl)⟩) hS (fun q _ h => hFc q h) hFc (fun r9 u t H locs ht hvm hw hB hz1 hk1 hS => ?_)
  obtain ⟨hP1, hD1⟩ := hB
  rw [ht] at hP1
  try dsimp only at hw hP1 hD1
  obtain ⟨hP, hD⟩ := va_join (wr := [(h2, .inl (cy 2, 1, .inr (.inl g10)))]) (w1 := [(h1, .inr (9, [.ref h3, .ref h4, x5, .ref h6, x7, x8, x9])), (h3, .inr (2, [x11, x12, x13, .int 0])), (h4, .inr (5, [x14, x15, .int 0])), (h6, .inr (8, [x16, x17, x18, x19, .ref h20, .ref h21, x22, x23, x24, x25, .ref h26, .int 1, .int 1])), (h20, .inl (cy 1, 1000, .inl (upd g27 0 0))), (h21, .inl (cy 1, 1000, .inl (upd g28 0 0))), (h26, .inr (5, [x29, x30, .int 0]))]) hP hD [0, 2, 3, 4, 5, 6, 7] [1] rfl rfl (by decide) (by decide) hk1 hFc hP1 hD1
  have hP : va_P D vwCl [(h2, .inl (cy 2, 1, .inr (.inl g10))), (h1, .inr (9, [.ref h3, .ref h4, x5, .ref h6, x7, x8, x9])), (h3, .inr (2, [x11, x12, x13, .int 0])), (h4, .inr (5, [x14, x15, .int 0])), (h6, .inr (8, [x16, x17, x18, x19, .ref h20, .ref h21, x22, x23, x24, x25, .ref h26, .int 1, .int 1])), (h20, .inl (cy 1, 1000, .inl (upd g27 0 0))), (h21, .inl (cy 1, 1000, .inl (upd g28 0 0))), (h26, .inr (5, [x29, x30, .int 0]))] H := hP
  have hD : va_D A [(h2, .inl (cy 2, 1, .inr (.inl g10))), (h1, .inr (9, [.ref h3, .ref h4, x5, .ref h6, x7, x8, x9])), (h3, .inr (2, [x11, x12, x13, .int 0])), (h4, .inr (5, [x14, x15, .int 0])), (h6, .inr (8, [x16, x17, x18, x19, .ref h20, .ref h21, x22, x23, x24, x25, .ref h26, .int 1, .int 1])), (h20, .inl (cy 1, 1000, .inl (upd g27 0 0))), (h21, .inl (cy 1, 1000, .inl (upd g28 0 0))), (h26, .inr (5, [x29, x30, .int 0]))] := hD
  obtain ⟨rfl, hw⟩ := hw
  refine lv_i2l (v := 1) hx hb dL_countRests_6 (by decide) ?_
  refine va_last hx hb hK hP hD hS 0 2 rfl rfl (kx_in 0 1 rfl ⟨(Nat.le_of_ble_eq_true rfl), (Nat.le_of_ble_eq_true rfl)⟩ (Nat.le_of_ble_eq_true rfl)) dL_countRests_7 (fun H locs hP hD hS => ?_)
  have hP : va_P D vwCl [(h2, .inl (cy 2, 1, .inr (.inl (vp_updL g10 0 1)))), (h1, .inr (9, [.ref h3, .ref h4, x5, .ref h6, x7, x8, x9])), (h3, .inr (2, [x11, x12, x13, .int 0])), (h4, .inr (5, [x14, x15, .int 0])), (h6, .inr (8, [x16, x17, x18, x19, .ref h20, .ref h21, x22, x23, x24, x25, .ref h26, .int 1, .int 1])), (h20, .inl (cy 1, 1000, .inl (upd g27 0 0))), (h21, .inl (cy 1, 1000, .inl (upd g28 0 0))), (h26, .inr (5, [x29, x30, .int 0]))] H := hP
  have hD : va_D A [(h2, .inl (cy 2, 1, .inr (.inl (vp_updL g10 0 1)))), (h1, .inr (9, [.ref h3, .ref h4, x5, .ref h6, x7, x8, x9])), (h3, .inr (2, [x11, x12, x13, .int 0])), (h4, .inr (5, [x14, x15, .int 0])), (h6, .inr (8, [x16, x17, x18, x19, .ref h20, .ref h21, x22, x23, x24, x25, .ref h26, .int 1, .int 1])), (h20, .inl (cy 1, 1000, .inl (upd g27 0 0))), (h21, .inl (cy 1, 1000, .inl (upd g28 0 0))), (h26, .inr (5, [x29, x30, .int 0]))] := hD
  refine lv_goto (tgt := 14) hx hb dL_countRests_8 (by decide) ?_
  refine lv_iconst (v := 0) hx hb dL_countRests_14 (by decide) ?_
  refine W.widen (k := 0) (n := 0) (Nat.le_of_ble_eq_true rfl) (Nat.le_of_ble_eq_true rfl) ?_
  have hP9 := hP.sub (ws' := [(h2, .inl (cy 2, 1, .inr (.inl (vp_updL g10 0 1))))]) [0] rfl
  have hD9 := hD.sub (ws' := [(h2, .inl (cy 2, 1, .inr (.inl (vp_updL g10 0 1))))]) [0] (by decide) rfl
  exact W.iret (v := 0) hx hb hr (fun t ht hW => ⟨⟨0, (), rfl, ⟨rfl, trivial⟩, ⟨by rw [ht]; exact hP9, hD9⟩⟩, hS.F ht⟩) hS.2.2 dL_countRests_15
theorem dJx4a65c_grow_92f84_0 : decode cJx4a65c_grow_92f84 0 = .ok (.aload_n 0, 1) := by decide +kernel
theorem dJx4a65c_grow_92f84_1 : decode cJx4a65c_grow_92f84 1 = .ok (.getfield 9, 3) := by decide +kernel
theorem dJx4a65c_grow_92f84_4 : decode cJx4a65c_grow_92f84 4 = .ok (.arraylength, 1) := by decide +kernel
theorem dJx4a65c_grow_92f84_5 : decode cJx4a65c_grow_92f84 5 = .ok (.istore_n 2, 1) := by decide +kernel
theorem dJx4a65c_grow_92f84_6 : decode cJx4a65c_grow_92f84 6 = .ok (.iload_n 2, 1) := by decide +kernel
theorem dJx4a65c_grow_92f84_7 : decode cJx4a65c_grow_92f84 7 = .ok (.ifCond .gt 13, 3) := by decide +kernel
theorem dJx4a65c_grow_92f84_10 : decode cJx4a65c_grow_92f84 10 = .ok (.aload_n 0, 1) := by decide +kernel
theorem dJx4a65c_grow_92f84_11 : decode cJx4a65c_grow_92f84 11 = .ok (.getfield 9, 3) := by decide +kernel
theorem dJx4a65c_grow_92f84_14 : decode cJx4a65c_grow_92f84 14 = .ok (.getstatic 39, 3) := by decide +kernel
theorem dJx4a65c_grow_92f84_17 : decode cJx4a65c_grow_92f84 17 = .ok (.if_acmp .eq 28, 3) := by decide +kernel
theorem dJx4a65c_grow_92f84_45 : decode cJx4a65c_grow_92f84 45 = .ok (.aload_n 0, 1) := by decide +kernel
theorem dJx4a65c_grow_92f84_46 : decode cJx4a65c_grow_92f84 46 = .ok (.bipush 10, 2) := by decide +kernel
theorem dJx4a65c_grow_92f84_48 : decode cJx4a65c_grow_92f84 48 = .ok (.iload_n 1, 1) := by decide +kernel
theorem dJx4a65c_grow_92f84_49 : decode cJx4a65c_grow_92f84 49 = .ok (.invokestatic 79, 3) := by decide +kernel
theorem dJx4a65c_grow_92f84_52 : decode cJx4a65c_grow_92f84 52 = .ok (.anewarray 7, 3) := by decide +kernel
theorem dJx4a65c_grow_92f84_55 : decode cJx4a65c_grow_92f84 55 = .ok (.dup_x1, 1) := by decide +kernel
theorem dJx4a65c_grow_92f84_56 : decode cJx4a65c_grow_92f84 56 = .ok (.putfield 9, 3) := by decide +kernel
theorem dJx4a65c_grow_92f84_59 : decode cJx4a65c_grow_92f84 59 = .ok (.areturn, 1) := by decide +kernel
set_option maxHeartbeats 4000000 in
set_option maxRecDepth 100000 in
theorem k_Jx4a65c_grow_92f84 (l : Launch) (hl9 : l.stackTraces = false) (D : va_G) (cy : Nat → ClassId) (de : Nat) (h1 : Nat) (x2 : Value) (x3 : Value) (sz : Nat) : Met l yJx4a65c_grow_92f84 wsJx4a65c_grow_92f84 ({ frames := 1, cells := 1, slots := 10, locals := 14 }) (kWY D cy de [.ref h1, .int 1] [(h1, .inr (1, [x2, .ref de, x3]))] sz) (va_Qr (fun (u : Nat) => match u with | z1 => True) (fun (u : Nat) (a9 : Nat) (t : State) => match u with | z1 => a9 = z1 ∧ va_P D vwCl [(h1, .inr (1, [x2, .ref z1, x3])), (z1, .inl (cy 7, 10, .inr (.inr (.inr (.inr (fun _ => none))))))] t.heap ∧ va_D (va_A [(h1, .inr (1, [x2, .ref de, x3]))] sz) [(h1, .inr (1, [x2, .ref z1, x3])), (z1, .inl (cy 7, 10, .inr (.inr (.inr (.inr (fun _ => none))))))]) (va_A [(h1, .inr (1, [x2, .ref de, x3]))] sz)) 1 10 (va_A [(h1, .inr (1, [x2, .ref de, x3]))] sz) := by
  refine Met.ofW (cc := cJx4a65c_grow_92f84) (maxL := 4) (ret := (some (.array (.object "java/lang/Object")))) (by decide) rfl ?_
  intro p e s m args below meth c s₁ B hml hv
  obtain ⟨rfl, hsz, hP, hK, hD0, hE, hY⟩ := hv
  have hx := B.exec
  have hb := B.bytes
  have hr := B.returns
  have hts := atoms_spec (ws := wsJx4a65c_grow_92f84) B.pre
  have hown : s.vm.findClass RJx4a65c = some m.cls := findClass_of_methodNamed B.named
  have hlocks := B.notSynchronized
  subst hsz
  have hD := hD0.self (sz := s.heap.size)
  generalize hAe : va_A [(h1, .inr (1, [x2, .ref de, x3]))] s.heap.size = A at hD hE hY ⊢
  have hA : ∀ q : Nat, s.heap.size ≤ q → A q := fun q h => by rw [← hAe]; exact Or.inr h
  have hS : va_S A s.heap s.heap [] := va_S.rf
  have hP : va_P D vwCl [(h1, .inr (1, [x2, .ref de, x3]))] s.heap := hP
  have hl := lv_entry ([.ref h1, .int 1]) (n := 4) (Nat.le_of_ble_eq_true rfl)
  rw [lg_entry_eq]
  generalize (lg_sl ([.ref h1, .int 1]) ++ List.replicate (4 - (lg_sl ([.ref h1, .int 1])).length) Slot.unset).toArray = ls at hl ⊢
  have hl : lv_has ls 4 [(0, .ref h1), (1, .int 1)] := hl
  refine lv_aload_n hx hb dJx4a65c_grow_92f84_0 rfl (lv_at hl 0 rfl) ?_
  refine va_get (D := D) (ci := 1) (v := .ref de) (C := RJx4a65c) (T := TJx4a65c) (N := 3) hx hb hts (fun _ h => (List.mem_cons_of_mem _ (List.mem_append_right _ h))) hown hK hP 0 rfl rfl 1 (by decide) (hts (.fieldLink RJx4a65c 9 "java/util/ArrayList" "elementData" "[Ljava/lang/Object;") (List.mem_cons_of_mem _ (List.mem_append_left _ (List.mem_append_left _ (List.mem_of_getElem? (i := 0) rfl))))) (fun _ h9 => h9) rfl dJx4a65c_grow_92f84_1 ?_
  refine va_tlen (v := 0) hx hb hY.2.1 hS (by decide) dJx4a65c_grow_92f84_4 ?_
  refine lv_istore_n (lv' := [(2, .int 0), (0, .ref h1), (1, .int 1)]) hx hb dJx4a65c_grow_92f84_5 rfl hl (by decide) rfl (fun ls hl => ?_)
  refine lv_iload_n hx hb dJx4a65c_grow_92f84_6 rfl (lv_at hl 0 rfl) ?_
  refine lv_if_gt (tgt := 20) hx hb dJx4a65c_grow_92f84_7 (by decide) (fun h => absurd h (by decide)) (fun _ => ?_)
  refine lv_aload_n hx hb dJx4a65c_grow_92f84_10 rfl (lv_at hl 1 rfl) ?_
  refine va_get (D := D) (ci := 1) (v := .ref de) (C := RJx4a65c) (T := TJx4a65c) (N := 3) hx hb hts (fun _ h => (List.mem_cons_of_mem _ (List.mem_append_right _ h))) hown hK hP 0 rfl rfl 1 (by decide) (hts (.fieldLink RJx4a65c 9 "java/util/ArrayList" "elementData" "[Ljava/lang/Object;") (List.mem_cons_of_mem _ (List.mem_append_left _ (List.mem_append_left _ (List.mem_of_getElem? (i := 0) rfl))))) (fun _ h9 => h9) rfl dJx4a65c_grow_92f84_11 ?_
  refine va_gets hx hb hY.1 hS hown (hts (.fieldLink RJx4a65c 39 "java/util/ArrayList" "DEFAULTCAPACITY_EMPTY_ELEMENTDATA" "[Ljava/lang/Object;") (List.mem_cons_of_mem _ (List.mem_append_left _ (List.mem_append_left _ (List.mem_of_getElem? (i := 1) rfl))))) (fun _ h9 => h9) dJx4a65c_grow_92f84_14 ?_
  refine lv_acmp_eq (rx := some de) (ry := some de) (tgt := 45) hx hb dJx4a65c_grow_92f84_17 (by decide) (fun _ => ?_) (fun h => absurd rfl h)
  refine lv_aload_n hx hb dJx4a65c_grow_92f84_45 rfl (lv_at hl 1 rfl) ?_
  refine lv_bipush (v := 10) hx hb dJx4a65c_grow_92f84_46 (by decide) ?_
  refine lv_iload_n hx hb dJx4a65c_grow_92f84_48 rfl (lv_at hl 2 rfl) ?_
  refine va_mmax hx hb (by rw [hml]; exact hl.1.symm) hown (hts (.methodLink RJx4a65c 79 Lib.Math.max.name) (List.mem_cons_of_mem _ (List.mem_append_left _ (List.mem_append_left _ (List.mem_of_getElem? (i := 2) rfl))))) (hts (.static Lib.Math.max.name) (List.mem_cons_of_mem _ (List.mem_append_left _ (List.mem_append_left _ (List.mem_of_getElem? (i := 3) rfl))))) (hts (.initialized "java/lang/Math") (List.mem_cons_of_mem _ (List.mem_append_left _ (List.mem_append_left _ (List.mem_of_getElem? (i := 4) rfl))))) (hts (.code Lib.Math.max.name Lib.Math.max.code 2 (some .int)) (List.mem_cons_of_mem _ (List.mem_append_left _ (List.mem_append_left _ (List.mem_of_getElem? (i := 5) rfl))))) (Nat.le_of_ble_eq_true rfl) (Nat.le_of_ble_eq_true rfl) (Nat.le_of_ble_eq_true rfl) (Nat.le_of_ble_eq_true rfl) dJx4a65c_grow_92f84_49 ?_
  refine lv_topi (fun v_1 ev_1 => ?_)
  obtain rfl : v_1 = 10 := ev_1.trans (by decide)
  refine va_newq (N' := 10) hx hb hown (hts (.classLink RJx4a65c 7 "java/lang/Object") (List.mem_cons_of_mem _ (List.mem_append_left _ (List.mem_append_left _ (List.mem_of_getElem? (i := 6) rfl))))) (exP.ao7 hE) hK hP hD hS hA (by decide) (by decide) (Nat.le_of_ble_eq_true rfl) (Nat.le_of_ble_eq_true rfl) (Nat.le_of_ble_eq_true rfl) dJx4a65c_grow_92f84_52 (fun q_2 cA_3 H hK hP hD hS => ?_)
  obtain rfl : cA_3 = cy 7 := kx_ty hK 10 7 rfl rfl
  have hK := hK.sub (tys' := tyG cy) [0, 1, 2, 3, 4, 5, 6, 7, 8, 9] rfl
  have hP : va_P D vwCl [(h1, .inr (1, [x2, .ref de, x3])), (q_2, .inl (cy 7, 10, .inr (.inr (.inr (.inr (fun _ => none))))))] H := hP
  have hD : va_D A [(h1, .inr (1, [x2, .ref de, x3])), (q_2, .inl (cy 7, 10, .inr (.inr (.inr (.inr (fun _ => none))))))] := hD
  refine W.widen (k := 1) (n := 10) (Nat.le_of_ble_eq_true rfl) (Nat.le_of_ble_eq_true rfl) ?_
  refine lv_dup_x1 hx hb dJx4a65c_grow_92f84_55 rfl rfl ?_
  refine va_put (D := D) (ci := 1) (v := .ref q_2) (ty := .array (.object "java/lang/Object")) (C := RJx4a65c) (T := TJx4a65c) (N := 3) hx hb hts (fun _ h => (List.mem_cons_of_mem _ (List.mem_append_right _ h))) tyJx4a65c tyJx4a65c_ok nmJx4a65c hown hK hP hD hS 0 rfl rfl 1 (by decide) (hts (.fieldLink RJx4a65c 9 "java/util/ArrayList" "elementData" "[Ljava/lang/Object;") (List.mem_cons_of_mem _ (List.mem_append_left _ (List.mem_append_left _ (List.mem_of_getElem? (i := 0) rfl))))) (fun _ h9 => h9) rfl (by decide +kernel) rfl rfl (Nat.le_of_ble_eq_true rfl) dJx4a65c_grow_92f84_56 (fun H locs hP hD hS => ?_)
  have hP : va_P D vwCl [(h1, .inr (1, [x2, .ref q_2, x3])), (q_2, .inl (cy 7, 10, .inr (.inr (.inr (.inr (fun _ => none))))))] H := hP
  have hD : va_D A [(h1, .inr (1, [x2, .ref q_2, x3])), (q_2, .inl (cy 7, 10, .inr (.inr (.inr (.inr (fun _ => none))))))] := hD
  refine W.widen (k := 1) (n := 10) (Nat.le_of_ble_eq_true rfl) (Nat.le_of_ble_eq_true rfl) ?_
  have hP9 := hP.sub (ws' := [(h1, .inr (1, [x2, .ref q_2, x3])), (q_2, .inl (cy 7, 10, .inr (.inr (.inr (.inr (fun _ => none))))))]) [0, 1] rfl
  have hD9 := hD.sub (ws' := [(h1, .inr (1, [x2, .ref q_2, x3])), (q_2, .inl (cy 7, 10, .inr (.inr (.inr (.inr (fun _ => none))))))]) [0, 1] (by decide) rfl
  exact W.aret (v := .ref q_2) hx hb hr (Or.inr ⟨_, rfl⟩) (Or.inr ⟨_, rfl⟩) (fun t ht hW => ⟨⟨(q_2), q_2, rfl, trivial, ⟨rfl, by rw [ht]; exact hP9, hD9⟩⟩, hS.F ht⟩) hS.2.2 dJx4a65c_grow_92f84_59
theorem dJx4a65c_grow_d5877_0 : decode cJx4a65c_grow_d5877 0 = .ok (.aload_n 0, 1) := by decide +kernel
theorem dJx4a65c_grow_d5877_1 : decode cJx4a65c_grow_d5877 1 = .ok (.aload_n 0, 1) := by decide +kernel
theorem dJx4a65c_grow_d5877_2 : decode cJx4a65c_grow_d5877 2 = .ok (.getfield 48, 3) := by decide +kernel
theorem dJx4a65c_grow_d5877_5 : decode cJx4a65c_grow_d5877 5 = .ok (.iconst 1, 1) := by decide +kernel
theorem dJx4a65c_grow_d5877_6 : decode cJx4a65c_grow_d5877 6 = .ok (.iadd, 1) := by decide +kernel
theorem dJx4a65c_grow_d5877_7 : decode cJx4a65c_grow_d5877 7 = .ok (.invokevirtual 69, 3) := by decide +kernel
set_option maxRecDepth 20000 in
theorem ggJx4a65c_grow_d5877_Jx4a65c_grow_92f84 : GoodIn wsJx4a65c_grow_d5877 wsJx4a65c_grow_92f84 := goodIn_r _ [6, 7, 8, 9, 10, 11, 12, 13, 14, 15, 16, 17, 18, 19, 20, 21, 22, 23, 24, 25, 26, 27, 28, 29, 30, 31, 32, 33, 34, 35, 36, 37, 38, 39, 40, 41, 42, 43, 44, 45] (by decide +kernel) (by decide +kernel)
set_option maxRecDepth 20000 in
theorem gJx4a65c_grow_d5877_Jx4a65c_grow_92f84 : GoodIn wsJx4a65c_grow_d5877 (wsV RJx4a65c 69 RJx4a65c yJx4a65c_grow_92f84 wsJx4a65c_grow_92f84) := goodIn_app (goodIn_of _ (by decide +kernel)) ggJx4a65c_grow_d5877_Jx4a65c_grow_92f84
theorem dJx4a65c_grow_d5877_10 : decode cJx4a65c_grow_d5877 10 = .ok (.areturn, 1) := by decide +kernel
set_option maxHeartbeats 4000000 in
set_option maxRecDepth 100000 in
theorem k_Jx4a65c_grow_d5877 (l : Launch) (hl9 : l.stackTraces = false) (D : va_G) (cy : Nat → ClassId) (de : Nat) (h1 : Nat) (x2 : Value) (sz : Nat) : Met l yJx4a65c_grow_d5877 wsJx4a65c_grow_d5877 ({ frames := 2, cells := 1, slots := 10, locals := 37 }) (kWY D cy de [.ref h1] [(h1, .inr (1, [x2, .ref de, .int 0]))] sz) (va_Qr (fun (u : Nat) => match u with | z1 => True) (fun (u : Nat) (a9 : Nat) (t : State) => match u with | z1 => a9 = z1 ∧ va_P D vwCl [(h1, .inr (1, [x2, .ref z1, .int 0])), (z1, .inl (cy 7, 10, .inr (.inr (.inr (.inr (fun _ => none))))))] t.heap ∧ va_D (va_A [(h1, .inr (1, [x2, .ref de, .int 0]))] sz) [(h1, .inr (1, [x2, .ref z1, .int 0])), (z1, .inl (cy 7, 10, .inr (.inr (.inr (.inr (fun _ => none))))))]) (va_A [(h1, .inr (1, [x2, .ref de, .int 0]))] sz)) 1 10 (va_A [(h1, .inr (1, [x2, .ref de, .int 0]))] sz) := by
  refine Met.ofW (cc := cJx4a65c_grow_d5877) (maxL := 1) (ret := (some (.array (.object "java/lang/Object")))) (by decide) rfl ?_
  intro p e s m args below meth c s₁ B hml hv
  obtain ⟨rfl, hsz, hP, hK, hD0, hE, hY⟩ := hv
  have hx := B.exec
  have hb := B.bytes
  have hr := B.returns
  have hts := atoms_spec (ws := wsJx4a65c_grow_d5877) B.pre
  have hown : s.vm.findClass RJx4a65c = some m.cls := findClass_of_methodNamed B.named
  have hlocks := B.notSynchronized
  subst hsz
  have hD := hD0.self (sz := s.heap.size)
  generalize hAe : va_A [(h1, .inr (1, [x2, .ref de, .int 0]))] s.heap.size = A at hD hE hY ⊢
  have hA : ∀ q : Nat, s.heap.size ≤ q → A q := fun q h => by rw [← hAe]; exact Or.inr h
  have hS : va_S A s.heap s.heap [] := va_S.rf
  have hP : va_P D vwCl [(h1, .inr (1, [x2, .ref de, .int 0]))] s.heap := hP
  have hl := lv_entry ([.ref h1]) (n := 1) (Nat.le_of_ble_eq_true rfl)
  rw [lg_entry_eq]
  generalize (lg_sl ([.ref h1]) ++ List.replicate (1 - (lg_sl ([.ref h1])).length) Slot.unset).toArray = ls at hl ⊢
  have hl : lv_has ls 1 [(0, .ref h1)] := hl
  refine lv_aload_n hx hb dJx4a65c_grow_d5877_0 rfl (lv_at hl 0 rfl) ?_
  refine lv_aload_n hx hb dJx4a65c_grow_d5877_1 rfl (lv_at hl 0 rfl) ?_
  refine va_get (D := D) (ci := 1) (v := .int 0) (C := RJx4a65c) (T := TJx4a65c) (N := 3) hx hb hts (fun _ h => (List.mem_cons_of_mem _ (List.mem_append_right _ h))) hown hK hP 0 rfl rfl 2 (by decide) (hts (.fieldLink RJx4a65c 48 "java/util/ArrayList" "size" "I") (List.mem_cons_of_mem _ (List.mem_append_left _ (List.mem_append_left _ (List.mem_of_getElem? (i := 0) rfl))))) (fun _ h9 => h9) rfl dJx4a65c_grow_d5877_2 ?_
  refine lv_iconst (v := 1) hx hb dJx4a65c_grow_d5877_5 (by decide) ?_
  refine lv_iadd hx hb dJx4a65c_grow_d5877_6 ?_
  refine lv_topi (fun v_1 ev_1 => ?_)
  obtain rfl : v_1 = 1 := ev_1.trans (by decide)
  have hPc := hP.sub (ws' := [(h1, .inr (1, [x2, .ref de, .int 0]))]) [0] rfl
  have hDc := hD.sub (ws' := [(h1, .inr (1, [x2, .ref de, .int 0]))]) [0] (by decide) rfl
  have hFc := va_free (wc := [(h1, .inr (1, [x2, .ref de, .int 0]))]) hD hS hA [0] rfl
  refine va_callr (va_runV (As := [.int 1]) (rest := []) ⟨hx, hb, hml, hown, hts⟩ (k_Jx4a65c_grow_92f84 l hl9 D cy de h1 (x2) (.int 0) s.heap.size) (cwV 1 hts gJx4a65c_grow_d5877_Jx4a65c_grow_92f84 rfl rfl rfl (by decide +kernel) ⟨(Nat.le_of_ble_eq_true rfl), (Nat.le_of_ble_eq_true rfl)⟩) ⟨kWY_fb, va_recv hK hP (ci := 1) (q0 := 0) rfl rfl, (kWY_go hPc hK hDc hFc hE hY hS)⟩ rfl rfl hl.1 rfl (lv_room (Nat.le_of_ble_eq_true rfl)) dJx4a65c_grow_d5877_7 ⟨(Nat.le_of_ble_eq_true rfl), (Nat.le_of_ble_eq_true rfl)⟩) hS (fun q _ h => hFc q h) hFc (fun u r9 t H locs ht hvm hw hB hz1 hk1 hS => ?_)
  obtain ⟨z_2, rfl⟩ : ∃ z, z = u := ⟨_, rfl⟩
  obtain ⟨e9, hB⟩ := hB
  have e9 := e9.symm
  subst e9
  obtain ⟨hP1, hD1⟩ := hB
  rw [ht] at hP1
  try dsimp only at hw hP1 hD1
  obtain ⟨hP, hD⟩ := va_join (wr := []) (w1 := [(h1, .inr (1, [x2, .ref z_2, .int 0])), (z_2, .inl (cy 7, 10, .inr (.inr (.inr (.inr (fun _ => none))))))]) hP hD [0] [] rfl rfl (by decide) (by decide) hk1 hFc hP1 hD1
  have hP : va_P D vwCl [(h1, .inr (1, [x2, .ref z_2, .int 0])), (z_2, .inl (cy 7, 10, .inr (.inr (.inr (.inr (fun _ => none))))))] H := hP
  have hD : va_D A [(h1, .inr (1, [x2, .ref z_2, .int 0])), (z_2, .inl (cy 7, 10, .inr (.inr (.inr (.inr (fun _ => none))))))] := hD
  refine W.widen (k := 1) (n := 10) (Nat.le_of_ble_eq_true rfl) (Nat.le_of_ble_eq_true rfl) ?_
  refine W.widen (k := 1) (n := 10) (Nat.le_of_ble_eq_true rfl) (Nat.le_of_ble_eq_true rfl) ?_
  have hP9 := hP.sub (ws' := [(h1, .inr (1, [x2, .ref z_2, .int 0])), (z_2, .inl (cy 7, 10, .inr (.inr (.inr (.inr (fun _ => none))))))]) [0, 1] rfl
  have hD9 := hD.sub (ws' := [(h1, .inr (1, [x2, .ref z_2, .int 0])), (z_2, .inl (cy 7, 10, .inr (.inr (.inr (.inr (fun _ => none))))))]) [0, 1] (by decide) rfl
  exact W.aret (v := .ref z_2) hx hb hr (Or.inr ⟨_, rfl⟩) (Or.inr ⟨_, rfl⟩) (fun t ht hW => ⟨⟨(z_2), z_2, rfl, trivial, ⟨rfl, by rw [ht]; exact hP9, hD9⟩⟩, hS.F ht⟩) hS.2.2 dJx4a65c_grow_d5877_10
theorem dJx4a65c_add_72be8_0 : decode cJx4a65c_add_72be8 0 = .ok (.iload_n 3, 1) := by decide +kernel
theorem dJx4a65c_add_72be8_1 : decode cJx4a65c_add_72be8 1 = .ok (.aload_n 2, 1) := by decide +kernel
theorem dJx4a65c_add_72be8_2 : decode cJx4a65c_add_72be8 2 = .ok (.arraylength, 1) := by decide +kernel
theorem dJx4a65c_add_72be8_3 : decode cJx4a65c_add_72be8 3 = .ok (.if_icmp .ne 8, 3) := by decide +kernel
theorem dJx4a65c_add_72be8_6 : decode cJx4a65c_add_72be8 6 = .ok (.aload_n 0, 1) := by decide +kernel
theorem dJx4a65c_add_72be8_7 : decode cJx4a65c_add_72be8 7 = .ok (.invokevirtual 129, 3) := by decide +kernel
set_option maxRecDepth 20000 in
theorem ggJx4a65c_add_72be8_Jx4a65c_grow_d5877 : GoodIn wsJx4a65c_add_72be8 wsJx4a65c_grow_d5877 := goodIn_r _ [6, 1, 7, 8, 9, 5, 10, 11, 12, 13, 14, 15, 16, 17, 18, 19, 20, 21, 22, 23, 24, 25, 26, 27, 28, 29, 30, 31, 32, 33, 34, 35, 36, 37, 38, 39, 40, 41, 42, 43, 44, 45, 46, 47, 48, 49] (by decide +kernel) (by decide +kernel)
set_option maxRecDepth 20000 in
theorem gJx4a65c_add_72be8_Jx4a65c_grow_d5877 : GoodIn wsJx4a65c_add_72be8 (wsV RJx4a65c 129 RJx4a65c yJx4a65c_grow_d5877 wsJx4a65c_grow_d5877) := goodIn_app (goodIn_of _ (by decide +kernel)) ggJx4a65c_add_72be8_Jx4a65c_grow_d5877
theorem dJx4a65c_add_72be8_10 : decode cJx4a65c_add_72be8 10 = .ok (.astore_n 2, 1) := by decide +kernel
theorem dJx4a65c_add_72be8_11 : decode cJx4a65c_add_72be8 11 = .ok (.aload_n 2, 1) := by decide +kernel
theorem dJx4a65c_add_72be8_12 : decode cJx4a65c_add_72be8 12 = .ok (.iload_n 3, 1) := by decide +kernel
theorem dJx4a65c_add_72be8_13 : decode cJx4a65c_add_72be8 13 = .ok (.aload_n 1, 1) := by decide +kernel
theorem dJx4a65c_add_72be8_14 : decode cJx4a65c_add_72be8 14 = .ok (.aastore, 1) := by decide +kernel
theorem dJx4a65c_add_72be8_15 : decode cJx4a65c_add_72be8 15 = .ok (.aload_n 0, 1) := by decide +kernel
theorem dJx4a65c_add_72be8_16 : decode cJx4a65c_add_72be8 16 = .ok (.iload_n 3, 1) := by decide +kernel
theorem dJx4a65c_add_72be8_17 : decode cJx4a65c_add_72be8 17 = .ok (.iconst 1, 1) := by decide +kernel
theorem dJx4a65c_add_72be8_18 : decode cJx4a65c_add_72be8 18 = .ok (.iadd, 1) := by decide +kernel
theorem dJx4a65c_add_72be8_19 : decode cJx4a65c_add_72be8 19 = .ok (.putfield 48, 3) := by decide +kernel
theorem dJx4a65c_add_72be8_22 : decode cJx4a65c_add_72be8 22 = .ok (.return_, 1) := by decide +kernel
set_option maxHeartbeats 4000000 in
set_option maxRecDepth 100000 in
theorem k_Jx4a65c_add_72be8 (l : Launch) (hl9 : l.stackTraces = false) (D : va_G) (cy : Nat → ClassId) (de : Nat) (h1 : Nat) (h2 : Nat) (x3 : Value) (g4 : Nat → Int32) (sz : Nat) : Met l yJx4a65c_add_72be8 wsJx4a65c_add_72be8 ({ frames := 3, cells := 1, slots := 10, locals := 57 }) (kWY D cy de [.ref h1, .ref h2, .ref de, .int 0] [(h1, .inr (1, [x3, .ref de, .int 0])), (h2, .inl (cy 1, 6, .inl g4))] sz) (va_Qv (fun (u : Nat) => match u with | z1 => True) (fun (u : Nat) (t : State) => match u with | z1 => va_P D vwCl [(h1, .inr (1, [x3, .ref z1, .int 1])), (h2, .inl (cy 1, 6, .inl g4)), (z1, .inl (cy 7, 10, .inr (.inr (.inr (.inr (va_up (fun _ => none) 0 (some h2)))))))] t.heap ∧ va_D (va_A [(h1, .inr (1, [x3, .ref de, .int 0])), (h2, .inl (cy 1, 6, .inl g4))] sz) [(h1, .inr (1, [x3, .ref z1, .int 1])), (h2, .inl (cy 1, 6, .inl g4)), (z1, .inl (cy 7, 10, .inr (.inr (.inr (.inr (va_up (fun _ => none) 0 (some h2)))))))]) (va_A [(h1, .inr (1, [x3, .ref de, .int 0])), (h2, .inl (cy 1, 6, .inl g4))] sz)) 1 10 (va_A [(h1, .inr (1, [x3, .ref de, .int 0])), (h2, .inl (cy 1, 6, .inl g4))] sz) := by
  refine Met.ofW (cc := cJx4a65c_add_72be8) (maxL := 4) (ret := none) (by decide) rfl ?_
  intro p e s m args below meth c s₁ B hml hv
  obtain ⟨rfl, hsz, hP, hK, hD0, hE, hY⟩ := hv
  have hx := B.exec
  have hb := B.bytes
  have hr := B.returns
  have hts := atoms_spec (ws := wsJx4a65c_add_72be8) B.pre
  have hown : s.vm.findClass RJx4a65c = some m.cls := findClass_of_methodNamed B.named
  have hlocks := B.notSynchronized
  subst hsz
  have hD := hD0.self (sz := s.heap.size)
  generalize hAe : va_A [(h1, .inr (1, [x3, .ref de, .int 0])), (h2, .inl (cy 1, 6, .inl g4))] s.heap.size = A at hD hE hY ⊢
  have hA : ∀ q : Nat, s.heap.size ≤ q → A q := fun q h => by rw [← hAe]; exact Or.inr h
  have hS : va_S A s.heap s.heap [] := va_S.rf
  have hP : va_P D vwCl [(h1, .inr (1, [x3, .ref de, .int 0])), (h2, .inl (cy 1, 6, .inl g4))] s.heap := hP
  have hl := lv_entry ([.ref h1, .ref h2, .ref de, .int 0]) (n := 4) (Nat.le_of_ble_eq_true rfl)
  rw [lg_entry_eq]
  generalize (lg_sl ([.ref h1, .ref h2, .ref de, .int 0]) ++ List.replicate (4 - (lg_sl ([.ref h1, .ref h2, .ref de, .int 0])).length) Slot.unset).toArray = ls at hl ⊢
  have hl : lv_has ls 4 [(0, .ref h1), (1, .ref h2), (2, .ref de), (3, .int 0)] := hl
  refine lv_iload_n hx hb dJx4a65c_add_72be8_0 rfl (lv_at hl 3 rfl) ?_
  refine lv_aload_n hx hb dJx4a65c_add_72be8_1 rfl (lv_at hl 2 rfl) ?_
  refine va_tlen (v := 0) hx hb hY.2.1 hS (by decide) dJx4a65c_add_72be8_2 ?_
  refine lv_icmp_ne (tgt := 11) hx hb dJx4a65c_add_72be8_3 (by decide) (fun h => absurd (by decide) h) (fun _ => ?_)
  refine lv_aload_n hx hb dJx4a65c_add_72be8_6 rfl (lv_at hl 0 rfl) ?_
  have hPc := hP.sub (ws' := [(h1, .inr (1, [x3, .ref de, .int 0]))]) [0] rfl
  have hDc := hD.sub (ws' := [(h1, .inr (1, [x3, .ref de, .int 0]))]) [0] (by decide) rfl
  have hFc := va_free (wc := [(h1, .inr (1, [x3, .ref de, .int 0]))]) hD hS hA [0] rfl
  refine va_callr (va_runV (As := []) (rest := []) ⟨hx, hb, hml, hown, hts⟩ (k_Jx4a65c_grow_d5877 l hl9 D cy de h1 (x3) s.heap.size) (cwV 0 hts gJx4a65c_add_72be8_Jx4a65c_grow_d5877 rfl rfl rfl (by decide +kernel) ⟨(Nat.le_of_ble_eq_true rfl), (Nat.le_of_ble_eq_true rfl)⟩) ⟨kWY_fb, va_recv hK hP (ci := 1) (q0 := 0) rfl rfl, (kWY_go hPc hK hDc hFc hE hY hS)⟩ rfl rfl hl.1 rfl (lv_room (Nat.le_of_ble_eq_true rfl)) dJx4a65c_add_72be8_7 ⟨(Nat.le_of_ble_eq_true rfl), (Nat.le_of_ble_eq_true rfl)⟩) hS (fun q _ h => hFc q h) hFc (fun u r9 t H locs ht hvm hw hB hz1 hk1 hS => ?_)
  obtain ⟨z_1, rfl⟩ : ∃ z, z = u := ⟨_, rfl⟩
  obtain ⟨e9, hB⟩ := hB
  have e9 := e9.symm
  subst e9
  obtain ⟨hP1, hD1⟩ := hB
  rw [ht] at hP1
  try dsimp only at hw hP1 hD1
  obtain ⟨hP, hD⟩ := va_join (wr := [(h2, .inl (cy 1, 6, .inl g4))]) (w1 := [(h1, .inr (1, [x3, .ref z_1, .int 0])), (z_1, .inl (cy 7, 10, .inr (.inr (.inr (.inr (fun _ => none))))))]) hP hD [0] [1] rfl rfl (by decide) (by decide) hk1 hFc hP1 hD1
  have hP : va_P D vwCl [(h2, .inl (cy 1, 6, .inl g4)), (h1, .inr (1, [x3, .ref z_1, .int 0])), (z_1, .inl (cy 7, 10, .inr (.inr (.inr (.inr (fun _ => none))))))] H := hP
  have hD : va_D A [(h2, .inl (cy 1, 6, .inl g4)), (h1, .inr (1, [x3, .ref z_1, .int 0])), (z_1, .inl (cy 7, 10, .inr (.inr (.inr (.inr (fun _ => none))))))] := hD
  refine W.widen (k := 1) (n := 10) (Nat.le_of_ble_eq_true rfl) (Nat.le_of_ble_eq_true rfl) ?_
  refine lv_astore_n (lv' := [(2, .ref z_1), (0, .ref h1), (1, .ref h2), (3, .int 0)]) hx hb dJx4a65c_add_72be8_10 rfl hl (by decide) rfl (fun ls hl => ?_)
  refine lv_aload_n hx hb dJx4a65c_add_72be8_11 rfl (lv_at hl 0 rfl) ?_
  refine lv_iload_n hx hb dJx4a65c_add_72be8_12 rfl (lv_at hl 3 rfl) ?_
  refine lv_aload_n hx hb dJx4a65c_add_72be8_13 rfl (lv_at hl 2 rfl) ?_
  refine va_astqM (E := "java/lang/Object") hx hb hK hP hD hS 2 7 rfl rfl (kx_anyI hK hY hP 0 rfl) (kx_in 0 10 rfl ⟨(Nat.le_of_ble_eq_true rfl), (Nat.le_of_ble_eq_true rfl)⟩ (Nat.le_of_ble_eq_true rfl)) dJx4a65c_add_72be8_14 (fun H locs hP hD hS => ?_)
  have hP : va_P D vwCl [(h2, .inl (cy 1, 6, .inl g4)), (h1, .inr (1, [x3, .ref z_1, .int 0])), (z_1, .inl (cy 7, 10, .inr (.inr (.inr (.inr (va_up (fun _ => none) 0 (some h2)))))))] H := hP
  have hD : va_D A [(h2, .inl (cy 1, 6, .inl g4)), (h1, .inr (1, [x3, .ref z_1, .int 0])), (z_1, .inl (cy 7, 10, .inr (.inr (.inr (.inr (va_up (fun _ => none) 0 (some h2)))))))] := hD
  refine lv_aload_n hx hb dJx4a65c_add_72be8_15 rfl (lv_at hl 1 rfl) ?_
  refine lv_iload_n hx hb dJx4a65c_add_72be8_16 rfl (lv_at hl 3 rfl) ?_
  refine lv_iconst (v := 1) hx hb dJx4a65c_add_72be8_17 (by decide) ?_
  refine lv_iadd hx hb dJx4a65c_add_72be8_18 ?_
  refine lv_topi (fun v_3 ev_3 => ?_)
  obtain rfl : v_3 = 1 := ev_3.trans (by decide)
  refine va_put (D := D) (ci := 1) (v := .int 1) (ty := .int) (C := RJx4a65c) (T := TJx4a65c) (N := 3) hx hb hts (fun _ h => (List.mem_cons_of_mem _ (List.mem_append_right _ h))) tyJx4a65c tyJx4a65c_ok nmJx4a65c hown hK hP hD hS 1 rfl rfl 2 (by decide) (hts (.fieldLink RJx4a65c 48 "java/util/ArrayList" "size" "I") (List.mem_cons_of_mem _ (List.mem_append_left _ (List.mem_append_left _ (List.mem_of_getElem? (i := 0) rfl))))) (fun _ h9 => h9) rfl (by decide +kernel) rfl rfl (Nat.le_of_ble_eq_true rfl) dJx4a65c_add_72be8_19 (fun H locs hP hD hS => ?_)
  have hP : va_P D vwCl [(h2, .inl (cy 1, 6, .inl g4)), (h1, .inr (1, [x3, .ref z_1, .int 1])), (z_1, .inl (cy 7, 10, .inr (.inr (.inr (.inr (va_up (fun _ => none) 0 (some h2)))))))] H := hP
  have hD : va_D A [(h2, .inl (cy 1, 6, .inl g4)), (h1, .inr (1, [x3, .ref z_1, .int 1])), (z_1, .inl (cy 7, 10, .inr (.inr (.inr (.inr (va_up (fun _ => none) 0 (some h2)))))))] := hD
  refine W.widen (k := 1) (n := 10) (Nat.le_of_ble_eq_true rfl) (Nat.le_of_ble_eq_true rfl) ?_
  have hP9 := hP.sub (ws' := [(h1, .inr (1, [x3, .ref z_1, .int 1])), (h2, .inl (cy 1, 6, .inl g4)), (z_1, .inl (cy 7, 10, .inr (.inr (.inr (.inr (va_up (fun _ => none) 0 (some h2)))))))]) [1, 0, 2] rfl
  have hD9 := hD.sub (ws' := [(h1, .inr (1, [x3, .ref z_1, .int 1])), (h2, .inl (cy 1, 6, .inl g4)), (z_1, .inl (cy 7, 10, .inr (.inr (.inr (.inr (va_up (fun _ => none) 0 (some h2)))))))]) [1, 0, 2] (by decide) rfl
  exact W.vret hx hb hr (fun t ht hW => ⟨⟨(z_1), rfl, trivial, ⟨by rw [ht]; exact hP9, hD9⟩⟩, hS.F ht⟩) hS.2.2 dJx4a65c_add_72be8_22
theorem dJx4a65c_add_9ea2d_0 : decode cJx4a65c_add_9ea2d 0 = .ok (.aload_n 0, 1) := by decide +kernel
theorem dJx4a65c_add_9ea2d_1 : decode cJx4a65c_add_9ea2d 1 = .ok (.dup, 1) := by decide +kernel
theorem dJx4a65c_add_9ea2d_2 : decode cJx4a65c_add_9ea2d 2 = .ok (.getfield 63, 3) := by decide +kernel
theorem dJx4a65c_add_9ea2d_5 : decode cJx4a65c_add_9ea2d 5 = .ok (.iconst 1, 1) := by decide +kernel
theorem dJx4a65c_add_9ea2d_6 : decode cJx4a65c_add_9ea2d 6 = .ok (.iadd, 1) := by decide +kernel
theorem dJx4a65c_add_9ea2d_7 : decode cJx4a65c_add_9ea2d 7 = .ok (.putfield 63, 3) := by decide +kernel
theorem dJx4a65c_add_9ea2d_10 : decode cJx4a65c_add_9ea2d 10 = .ok (.aload_n 0, 1) := by decide +kernel
theorem dJx4a65c_add_9ea2d_11 : decode cJx4a65c_add_9ea2d 11 = .ok (.aload_n 1, 1) := by decide +kernel
theorem dJx4a65c_add_9ea2d_12 : decode cJx4a65c_add_9ea2d 12 = .ok (.aload_n 0, 1) := by decide +kernel
theorem dJx4a65c_add_9ea2d_13 : decode cJx4a65c_add_9ea2d 13 = .ok (.getfield 9, 3) := by decide +kernel
theorem dJx4a65c_add_9ea2d_16 : decode cJx4a65c_add_9ea2d 16 = .ok (.aload_n 0, 1) := by decide +kernel
theorem dJx4a65c_add_9ea2d_17 : decode cJx4a65c_add_9ea2d 17 = .ok (.getfield 48, 3) := by decide +kernel
theorem dJx4a65c_add_9ea2d_20 : decode cJx4a65c_add_9ea2d 20 = .ok (.invokevirtual 131, 3) := by decide +kernel
set_option maxRecDepth 20000 in
theorem ggJx4a65c_add_9ea2d_Jx4a65c_add_72be8 : GoodIn wsJx4a65c_add_9ea2d wsJx4a65c_add_72be8 := goodIn_r _ [9, 4, 10, 11, 12, 8, 13, 14, 15, 16, 17, 3, 18, 19, 20, 21, 22, 23, 24, 25, 26, 27, 28, 29, 30, 31, 32, 33, 34, 35, 36, 37, 38, 39, 40, 41, 42, 43, 44, 45, 46, 47, 48, 49, 50, 51, 52, 53, 54, 55] (by decide +kernel) (by decide +kernel)
set_option maxRecDepth 20000 in
theorem gJx4a65c_add_9ea2d_Jx4a65c_add_72be8 : GoodIn wsJx4a65c_add_9ea2d (wsV RJx4a65c 131 RJx4a65c yJx4a65c_add_72be8 wsJx4a65c_add_72be8) := goodIn_app (goodIn_of _ (by decide +kernel)) ggJx4a65c_add_9ea2d_Jx4a65c_add_72be8
theorem dJx4a65c_add_9ea2d_23 : decode cJx4a65c_add_9ea2d 23 = .ok (.iconst 1, 1) := by decide +kernel
theorem dJx4a65c_add_9ea2d_24 : decode cJx4a65c_add_9ea2d 24 = .ok (.ireturn, 1) := by decide +kernel
set_option maxHeartbeats 4000000 in
set_option maxRecDepth 100000 in
theorem k_Jx4a65c_add_9ea2d (l : Launch) (hl9 : l.stackTraces = false) (D : va_G) (cy : Nat → ClassId) (de : Nat) (h1 : Nat) (h2 : Nat) (g3 : Nat → Int32) (sz : Nat) : Met l yJx4a65c_add_9ea2d wsJx4a65c_add_9ea2d ({ frames := 4, cells := 1, slots := 10, locals := 80 }) (kWY D cy de [.ref h1, .ref h2] [(h1, .inr (1, [.int 0, .ref de, .int 0])), (h2, .inl (cy 1, 6, .inl g3))] sz) (va_Qi (fun (r : Int32) (u : Nat) => match u with | z1 => r = 1 ∧ True) (fun (u : Nat) (t : State) => match u with | z1 => va_P D vwCl [(h1, .inr (1, [.int 1, .ref z1, .int 1])), (h2, .inl (cy 1, 6, .inl g3)), (z1, .inl (cy 7, 10, .inr (.inr (.inr (.inr (va_up (fun _ => none) 0 (some h2)))))))] t.heap ∧ va_D (va_A [(h1, .inr (1, [.int 0, .ref de, .int 0])), (h2, .inl (cy 1, 6, .inl g3))] sz) [(h1, .inr (1, [.int 1, .ref z1, .int 1])), (h2, .inl (cy 1, 6, .inl g3)), (z1, .inl (cy 7, 10, .inr (.inr (.inr (.inr (va_up (fun _ => none) 0 (some h2)))))))]) (va_A [(h1, .inr (1, [.int 0, .ref de, .int 0])), (h2, .inl (cy 1, 6, .inl g3))] sz)) 1 10 (va_A [(h1, .inr (1, [.int 0, .ref de, .int 0])), (h2, .inl (cy 1, 6, .inl g3))] sz) := by
  refine Met.ofW (cc := cJx4a65c_add_9ea2d) (maxL := 2) (ret := (some .boolean)) (by decide) rfl ?_
  intro p e s m args below meth c s₁ B hml hv
  obtain ⟨rfl, hsz, hP, hK, hD0, hE, hY⟩ := hv
  have hx := B.exec
  have hb := B.bytes
  have hr := B.returns
  have hts := atoms_spec (ws := wsJx4a65c_add_9ea2d) B.pre
  have hown : s.vm.findClass RJx4a65c = some m.cls := findClass_of_methodNamed B.named
  have hlocks := B.notSynchronized
  subst hsz
  have hD := hD0.self (sz := s.heap.size)
  generalize hAe : va_A [(h1, .inr (1, [.int 0, .ref de, .int 0])), (h2, .inl (cy 1, 6, .inl g3))] s.heap.size = A at hD hE hY ⊢
  have hA : ∀ q : Nat, s.heap.size ≤ q → A q := fun q h => by rw [← hAe]; exact Or.inr h
  have hS : va_S A s.heap s.heap [] := va_S.rf
  have hP : va_P D vwCl [(h1, .inr (1, [.int 0, .ref de, .int 0])), (h2, .inl (cy 1, 6, .inl g3))] s.heap := hP
  have hl := lv_entry ([.ref h1, .ref h2]) (n := 2) (Nat.le_of_ble_eq_true rfl)
  rw [lg_entry_eq]
  generalize (lg_sl ([.ref h1, .ref h2]) ++ List.replicate (2 - (lg_sl ([.ref h1, .ref h2])).length) Slot.unset).toArray = ls at hl ⊢
  have hl : lv_has ls 2 [(0, .ref h1), (1, .ref h2)] := hl
  refine lv_aload_n hx hb dJx4a65c_add_9ea2d_0 rfl (lv_at hl 0 rfl) ?_
  refine lv_dup hx hb dJx4a65c_add_9ea2d_1 rfl ?_
  refine va_get (D := D) (ci := 1) (v := .int 0) (C := RJx4a65c) (T := TJx4a65c) (N := 3) hx hb hts (fun _ h => (List.mem_cons_of_mem _ (List.mem_append_right _ h))) hown hK hP 0 rfl rfl 0 (by decide) (hts (.fieldLink RJx4a65c 63 "java/util/ArrayList" "modCount" "I") (List.mem_cons_of_mem _ (List.mem_append_left _ (List.mem_append_left _ (List.mem_of_getElem? (i := 0) rfl))))) (u_same (hts (.sameField "java/util/ArrayList" "java/util/AbstractList" "modCount" "I") (List.mem_cons_of_mem _ (List.mem_append_left _ (List.mem_append_left _ (List.mem_of_getElem? (i := 1) rfl)))))) rfl dJx4a65c_add_9ea2d_2 ?_
  refine lv_iconst (v := 1) hx hb dJx4a65c_add_9ea2d_5 (by decide) ?_
  refine lv_iadd hx hb dJx4a65c_add_9ea2d_6 ?_
  refine lv_topi (fun v_1 ev_1 => ?_)
  obtain rfl : v_1 = 1 := ev_1.trans (by decide)
  refine va_put (D := D) (ci := 1) (v := .int 1) (ty := .int) (C := RJx4a65c) (T := TJx4a65c) (N := 3) hx hb hts (fun _ h => (List.mem_cons_of_mem _ (List.mem_append_right _ h))) tyJx4a65c tyJx4a65c_ok nmJx4a65c hown hK hP hD hS 0 rfl rfl 0 (by decide) (hts (.fieldLink RJx4a65c 63 "java/util/ArrayList" "modCount" "I") (List.mem_cons_of_mem _ (List.mem_append_left _ (List.mem_append_left _ (List.mem_of_getElem? (i := 0) rfl))))) (u_same (hts (.sameField "java/util/ArrayList" "java/util/AbstractList" "modCount" "I") (List.mem_cons_of_mem _ (List.mem_append_left _ (List.mem_append_left _ (List.mem_of_getElem? (i := 1) rfl)))))) rfl (by decide +kernel) rfl rfl (Nat.le_of_ble_eq_true rfl) dJx4a65c_add_9ea2d_7 (fun H locs hP hD hS => ?_)
  have hP : va_P D vwCl [(h1, .inr (1, [.int 1, .ref de, .int 0])), (h2, .inl (cy 1, 6, .inl g3))] H := hP
  have hD : va_D A [(h1, .inr (1, [.int 1, .ref de, .int 0])), (h2, .inl (cy 1, 6, .inl g3))] := hD
  refine lv_aload_n hx hb dJx4a65c_add_9ea2d_10 rfl (lv_at hl 0 rfl) ?_
  refine lv_aload_n hx hb dJx4a65c_add_9ea2d_11 rfl (lv_at hl 1 rfl) ?_
  refine lv_aload_n hx hb dJx4a65c_add_9ea2d_12 rfl (lv_at hl 0 rfl) ?_
  refine va_get (D := D) (ci := 1) (v := .ref de) (C := RJx4a65c) (T := TJx4a65c) (N := 3) hx hb hts (fun _ h => (List.mem_cons_of_mem _ (List.mem_append_right _ h))) hown hK hP 0 rfl rfl 1 (by decide) (hts (.fieldLink RJx4a65c 9 "java/util/ArrayList" "elementData" "[Ljava/lang/Object;") (List.mem_cons_of_mem _ (List.mem_append_left _ (List.mem_append_left _ (List.mem_of_getElem? (i := 2) rfl))))) (fun _ h9 => h9) rfl dJx4a65c_add_9ea2d_13 ?_
  refine lv_aload_n hx hb dJx4a65c_add_9ea2d_16 rfl (lv_at hl 0 rfl) ?_
  refine va_get (D := D) (ci := 1) (v := .int 0) (C := RJx4a65c) (T := TJx4a65c) (N := 3) hx hb hts (fun _ h => (List.mem_cons_of_mem _ (List.mem_append_right _ h))) hown hK hP 0 rfl rfl 2 (by decide) (hts (.fieldLink RJx4a65c 48 "java/util/ArrayList" "size" "I") (List.mem_cons_of_mem _ (List.mem_append_left _ (List.mem_append_left _ (List.mem_of_getElem? (i := 3) rfl))))) (fun _ h9 => h9) rfl dJx4a65c_add_9ea2d_17 ?_
  have hPc := hP.sub (ws' := [(h1, .inr (1, [.int 1, .ref de, .int 0])), (h2, .inl (cy 1, 6, .inl g3))]) [0, 1] rfl
  have hDc := hD.sub (ws' := [(h1, .inr (1, [.int 1, .ref de, .int 0])), (h2, .inl (cy 1, 6, .inl g3))]) [0, 1] (by decide) rfl
  have hFc := va_free (wc := [(h1, .inr (1, [.int 1, .ref de, .int 0])), (h2, .inl (cy 1, 6, .inl g3))]) hD hS hA [0, 1] rfl
  refine va_callv (va_runV (As := [.ref h2, .ref de, .int 0]) (rest := []) ⟨hx, hb, hml, hown, hts⟩ (k_Jx4a65c_add_72be8 l hl9 D cy de h1 h2 (.int 1) g3 H.size) (cwV 3 hts gJx4a65c_add_9ea2d_Jx4a65c_add_72be8 rfl rfl rfl (by decide +kernel) ⟨(Nat.le_of_ble_eq_true rfl), (Nat.le_of_ble_eq_true rfl)⟩) ⟨kWY_fb, va_recv hK hP (ci := 1) (q0 := 0) rfl rfl, (kWY_go hPc hK hDc hFc hE hY hS)⟩ rfl rfl hl.1 rfl (lv_room (Nat.le_of_ble_eq_true rfl)) dJx4a65c_add_9ea2d_20 ⟨(Nat.le_of_ble_eq_true rfl), (Nat.le_of_ble_eq_true rfl)⟩) hS (fun q _ h => hFc q h) hFc (fun u t H locs ht hvm hw hB hz1 hk1 hS => ?_)
  obtain ⟨z_2, rfl⟩ : ∃ z, z = u := ⟨_, rfl⟩
  obtain ⟨hP1, hD1⟩ := hB
  rw [ht] at hP1
  try dsimp only at hw hP1 hD1
  obtain ⟨hP, hD⟩ := va_join (wr := []) (w1 := [(h1, .inr (1, [.int 1, .ref z_2, .int 1])), (h2, .inl (cy 1, 6, .inl g3)), (z_2, .inl (cy 7, 10, .inr (.inr (.inr (.inr (va_up (fun _ => none) 0 (some h2)))))))]) hP hD [0, 1] [] rfl rfl (by decide) (by decide) hk1 hFc hP1 hD1
  have hP : va_P D vwCl [(h1, .inr (1, [.int 1, .ref z_2, .int 1])), (h2, .inl (cy 1, 6, .inl g3)), (z_2, .inl (cy 7, 10, .inr (.inr (.inr (.inr (va_up (fun _ => none) 0 (some h2)))))))] H := hP
  have hD : va_D A [(h1, .inr (1, [.int 1, .ref z_2, .int 1])), (h2, .inl (cy 1, 6, .inl g3)), (z_2, .inl (cy 7, 10, .inr (.inr (.inr (.inr (va_up (fun _ => none) 0 (some h2)))))))] := hD
  refine W.widen (k := 1) (n := 10) (Nat.le_of_ble_eq_true rfl) (Nat.le_of_ble_eq_true rfl) ?_
  refine lv_iconst (v := 1) hx hb dJx4a65c_add_9ea2d_23 (by decide) ?_
  refine W.widen (k := 1) (n := 10) (Nat.le_of_ble_eq_true rfl) (Nat.le_of_ble_eq_true rfl) ?_
  have hP9 := hP.sub (ws' := [(h1, .inr (1, [.int 1, .ref z_2, .int 1])), (h2, .inl (cy 1, 6, .inl g3)), (z_2, .inl (cy 7, 10, .inr (.inr (.inr (.inr (va_up (fun _ => none) 0 (some h2)))))))]) [0, 1, 2] rfl
  have hD9 := hD.sub (ws' := [(h1, .inr (1, [.int 1, .ref z_2, .int 1])), (h2, .inl (cy 1, 6, .inl g3)), (z_2, .inl (cy 7, 10, .inr (.inr (.inr (.inr (va_up (fun _ => none) 0 (some h2)))))))]) [0, 1, 2] (by decide) rfl
  exact W.zret (v := 1) hx hb hr rfl (fun t ht hW => ⟨⟨1, (z_2), rfl, ⟨rfl, trivial⟩, ⟨by rw [ht]; exact hP9, hD9⟩⟩, hS.F ht⟩) hS.2.2 dJx4a65c_add_9ea2d_24
theorem dX8_fills_0 : decode cX8_fills 0 = .ok (.iload_n 2, 1) := by decide +kernel
theorem dX8_fills_1 : decode cX8_fills 1 = .ok (.aload_n 0, 1) := by decide +kernel
theorem dX8_fills_2 : decode cX8_fills 2 = .ok (.getfield 85, 3) := by decide +kernel
theorem dX8_fills_5 : decode cX8_fills 5 = .ok (.if_icmp .ne 16, 3) := by decide +kernel
theorem dX8_fills_8 : decode cX8_fills 8 = .ok (.aload_n 3, 1) := by decide +kernel
theorem dX8_fills_9 : decode cX8_fills 9 = .ok (.aload_n 1, 1) := by decide +kernel
theorem dX8_fills_10 : decode cX8_fills 10 = .ok (.invokevirtual 155, 3) := by decide +kernel
theorem dX8_fills_13 : decode cX8_fills 13 = .ok (.checkcast 156, 3) := by decide +kernel
theorem dX8_fills_16 : decode cX8_fills 16 = .ok (.invokevirtual 116, 3) := by decide +kernel
set_option maxRecDepth 20000 in
theorem ggX8_fills_Jx4a65c_add_9ea2d : GoodIn wsX8_fills wsJx4a65c_add_9ea2d := goodIn_r _ [14, 15, 16, 17, 18, 19, 20, 21, 13, 22, 23, 24, 25, 26, 27, 28, 29, 30, 31, 32, 33, 34, 35, 36, 37, 38, 39, 40, 41, 42, 43, 44, 45, 46, 47, 48, 49, 50, 51, 52, 53, 54, 55, 56, 57, 58, 59, 60, 61, 62, 63, 64, 65, 94, 95, 96] (by decide +kernel) (by decide +kernel)
set_option maxRecDepth 20000 in
theorem gX8_fills_Jx4a65c_add_9ea2d : GoodIn wsX8_fills (wsV RX8 116 RJx4a65c yJx4a65c_add_9ea2d wsJx4a65c_add_9ea2d) := goodIn_app (goodIn_of _ (by decide +kernel)) ggX8_fills_Jx4a65c_add_9ea2d
theorem dX8_fills_19 : decode cX8_fills 19 = .ok (.pop, 1) := by decide +kernel
theorem dX8_fills_20 : decode cX8_fills 20 = .ok (.return_, 1) := by decide +kernel
set_option maxHeartbeats 4000000 in
set_option maxRecDepth 100000 in
theorem k_X8_fills (l : Launch) (hl9 : l.stackTraces = false) (D : va_G) (cy : Nat → ClassId) (de : Nat) (h1 : Nat) (h2 : Nat) (h3 : Nat) (x4 : Value) (x5 : Value) (x6 : Value) (x7 : Value) (x8 : Value) (x9 : Value) (x10 : Value) (x11 : Value) (x12 : Value) (x13 : Value) (x14 : Value) (x15 : Value) (x16 : Value) (x17 : Value) (x18 : Value) (x19 : Value) (x20 : Value) (g21 : Nat → Int32) (sz : Nat) : Met l yX8_fills wsX8_fills ({ frames := 5, cells := 2, slots := 16, locals := 101 }) (kWY D cy de [.ref h1, .ref h2, .int 0, .ref h3] [(h1, .inr (10, [x4, x5, x6, x7, x8, x9, x10, x11, x12, x13, x14, x15, x16, x17, x18, .int 0, x19, x20])), (h2, .inl (cy 1, 6, .inl g21)), (h3, .inr (1, [.int 0, .ref de, .int 0]))] sz) (va_Qv (fun (u : Nat × (Nat → Option Nat) × Nat) => match u with | (z1, u2, z3) => (u2 0 = some z3) ∧ True) (fun (u : Nat × (Nat → Option Nat) × Nat) (t : State) => match u with | (z1, u2, z3) => va_P D vwCl [(h1, .inr (10, [x4, x5, x6, x7, x8, x9, x10, x11, x12, x13, x14, x15, x16, x17, x18, .int 0, x19, x20])), (h2, .inl (cy 1, 6, .inl g21)), (h3, .inr (1, [.int 1, .ref z1, .int 1])), (z1, .inl (cy 7, 10, .inr (.inr (.inr (.inr u2))))), (z3, .inl (cy 1, 6, .inl g21))] t.heap ∧ va_D (va_A [(h1, .inr (10, [x4, x5, x6, x7, x8, x9, x10, x11, x12, x13, x14, x15, x16, x17, x18, .int 0, x19, x20])), (h2, .inl (cy 1, 6, .inl g21)), (h3, .inr (1, [.int 0, .ref de, .int 0]))] sz) [(h1, .inr (10, [x4, x5, x6, x7, x8, x9, x10, x11, x12, x13, x14, x15, x16, x17, x18, .int 0, x19, x20])), (h2, .inl (cy 1, 6, .inl g21)), (h3, .inr (1, [.int 1, .ref z1, .int 1])), (z1, .inl (cy 7, 10, .inr (.inr (.inr (.inr u2))))), (z3, .inl (cy 1, 6, .inl g21))]) (va_A [(h1, .inr (10, [x4, x5, x6, x7, x8, x9, x10, x11, x12, x13, x14, x15, x16, x17, x18, .int 0, x19, x20])), (h2, .inl (cy 1, 6, .inl g21)), (h3, .inr (1, [.int 0, .ref de, .int 0]))] sz)) 2 16 (va_A [(h1, .inr (10, [x4, x5, x6, x7, x8, x9, x10, x11, x12, x13, x14, x15, x16, x17, x18, .int 0, x19, x20])), (h2, .inl (cy 1, 6, .inl g21)), (h3, .inr (1, [.int 0, .ref de, .int 0]))] sz) := by
  refine Met.ofW (cc := cX8_fills) (maxL := 6) (ret := none) (by decide) rfl ?_
  intro p e s m args below meth c s₁ B hml hv
  obtain ⟨rfl, hsz, hP, hK, hD0, hE, hY⟩ := hv
  have hx := B.exec
  have hb := B.bytes
  have hr := B.returns
  have hts := atoms_spec (ws := wsX8_fills) B.pre
  have hown : s.vm.findClass RX8 = some m.cls := findClass_of_methodNamed B.named
  have hlocks := B.notSynchronized
  subst hsz
  have hD := hD0.self (sz := s.heap.size)
  generalize hAe : va_A [(h1, .inr (10, [x4, x5, x6, x7, x8, x9, x10, x11, x12, x13, x14, x15, x16, x17, x18, .int 0, x19, x20])), (h2, .inl (cy 1, 6, .inl g21)), (h3, .inr (1, [.int 0, .ref de, .int 0]))] s.heap.size = A at hD hE hY ⊢
  have hA : ∀ q : Nat, s.heap.size ≤ q → A q := fun q h => by rw [← hAe]; exact Or.inr h
  have hS : va_S A s.heap s.heap [] := va_S.rf
  have hP : va_P D vwCl [(h1, .inr (10, [x4, x5, x6, x7, x8, x9, x10, x11, x12, x13, x14, x15, x16, x17, x18, .int 0, x19, x20])), (h2, .inl (cy 1, 6, .inl g21)), (h3, .inr (1, [.int 0, .ref de, .int 0]))] s.heap := hP
  have hl := lv_entry ([.ref h1, .ref h2, .int 0, .ref h3]) (n := 6) (Nat.le_of_ble_eq_true rfl)
  rw [lg_entry_eq]
  generalize (lg_sl ([.ref h1, .ref h2, .int 0, .ref h3]) ++ List.replicate (6 - (lg_sl ([.ref h1, .ref h2, .int 0, .ref h3])).length) Slot.unset).toArray = ls at hl ⊢
  have hl : lv_has ls 6 [(0, .ref h1), (1, .ref h2), (2, .int 0), (3, .ref h3)] := hl
  refine lv_iload_n hx hb dX8_fills_0 rfl (lv_at hl 2 rfl) ?_
  refine lv_aload_n hx hb dX8_fills_1 rfl (lv_at hl 0 rfl) ?_
  refine va_get (D := D) (ci := 10) (v := .int 0) (C := RX8) (T := TX8) (N := 18) hx hb hts (fun _ h => (List.mem_cons_of_mem _ (List.mem_append_left _ (List.mem_append_left _ (List.mem_append_right _ h))))) hown hK hP 0 rfl rfl 15 (by decide) (hts (.fieldLink RX8 85 "SelfishJunctionModel" "players" "I") (List.mem_cons_of_mem _ (List.mem_append_left _ (List.mem_append_left _ (List.mem_append_left _ (List.mem_append_left _ (List.mem_of_getElem? (i := 0) rfl))))))) (fun _ h9 => h9) rfl dX8_fills_2 ?_
  refine lv_icmp_ne (tgt := 21) hx hb dX8_fills_5 (by decide) (fun h => absurd (by decide) h) (fun _ => ?_)
  refine lv_aload_n hx hb dX8_fills_8 rfl (lv_at hl 3 rfl) ?_
  refine lv_aload_n hx hb dX8_fills_9 rfl (lv_at hl 1 rfl) ?_
  refine va_clone (ad := "[I") hx hb (by rw [hml]; exact hl.1.symm) hown (hts (.methodLink RX8 155 ⟨"[I", "clone", "()Ljava/lang/Object;"⟩) (List.mem_cons_of_mem _ (List.mem_append_left _ (List.mem_append_left _ (List.mem_append_left _ (List.mem_append_left _ (List.mem_of_getElem? (i := 1) rfl))))))) (hts (.sameMethod "[I" "java/lang/Object" "clone" "()Ljava/lang/Object;") (List.mem_cons_of_mem _ (List.mem_append_left _ (List.mem_append_left _ (List.mem_append_left _ (List.mem_append_left _ (List.mem_of_getElem? (i := 2) rfl))))))) (hts (.native ⟨"java/lang/Object", "clone", "()Ljava/lang/Object;"⟩) (List.mem_cons_of_mem _ (List.mem_append_left _ (List.mem_append_left _ (List.mem_append_left _ (List.mem_append_left _ (List.mem_of_getElem? (i := 3) rfl))))))) (hts (.instanceMethod ⟨"java/lang/Object", "clone", "()Ljava/lang/Object;"⟩) (List.mem_cons_of_mem _ (List.mem_append_left _ (List.mem_append_left _ (List.mem_append_left _ (List.mem_append_left _ (List.mem_of_getElem? (i := 4) rfl))))))) (hts (.selects "[I" ⟨"[I", "clone", "()Ljava/lang/Object;"⟩ ⟨"java/lang/Object", "clone", "()Ljava/lang/Object;"⟩) (List.mem_cons_of_mem _ (List.mem_append_left _ (List.mem_append_left _ (List.mem_append_left _ (List.mem_append_left _ (List.mem_of_getElem? (i := 5) rfl))))))) (exP.cln hE) hK hP hD hS hA 1 1 rfl rfl (va_nm_int (hK.2 1 _ rfl).2) (kx_fitI _ _ _) (Nat.le_of_ble_eq_true rfl) (Nat.le_of_ble_eq_true rfl) (Nat.le_of_ble_eq_true rfl) (Nat.le_of_ble_eq_true rfl) dX8_fills_10 (fun q_1 H hK hP hD hS => ?_)
  have hK := hK.sub (tys' := tyG cy) [0, 1, 2, 3, 4, 5, 6, 7, 8, 9] rfl
  have hP : va_P D vwCl [(h1, .inr (10, [x4, x5, x6, x7, x8, x9, x10, x11, x12, x13, x14, x15, x16, x17, x18, .int 0, x19, x20])), (h2, .inl (cy 1, 6, .inl g21)), (h3, .inr (1, [.int 0, .ref de, .int 0])), (q_1, .inl (cy 1, 6, .inl g21))] H := hP
  have hD : va_D A [(h1, .inr (10, [x4, x5, x6, x7, x8, x9, x10, x11, x12, x13, x14, x15, x16, x17, x18, .int 0, x19, x20])), (h2, .inl (cy 1, 6, .inl g21)), (h3, .inr (1, [.int 0, .ref de, .int 0])), (q_1, .inl (cy 1, 6, .inl g21))] := hD
  refine W.widen (k := 1) (n := 6) (Nat.le_of_ble_eq_true rfl) (Nat.le_of_ble_eq_true rfl) ?_
  refine va_castA hx hb hown (hts (.classLink RX8 156 "[I") (List.mem_cons_of_mem _ (List.mem_append_left _ (List.mem_append_left _ (List.mem_append_left _ (List.mem_append_left _ (List.mem_of_getElem? (i := 6) rfl))))))) hP 3 rfl (va_nm_int (hK.2 1 _ rfl).2) dX8_fills_13 ?_
  have hPc := hP.sub (ws' := [(h3, .inr (1, [.int 0, .ref de, .int 0])), (q_1, .inl (cy 1, 6, .inl g21))]) [2, 3] rfl
  have hDc := hD.sub (ws' := [(h3, .inr (1, [.int 0, .ref de, .int 0])), (q_1, .inl (cy 1, 6, .inl g21))]) [2, 3] (by decide) rfl
  have hFc := va_free (wc := [(h3, .inr (1, [.int 0, .ref de, .int 0])), (q_1, .inl (cy 1, 6, .inl g21))]) hD hS hA [2, 3] rfl
  refine va_calli (va_runV (As := [.ref q_1]) (rest := []) ⟨hx, hb, hml, hown, hts⟩ (k_Jx4a65c_add_9ea2d l hl9 D cy de h3 q_1 g21 H.size) (cwV 1 hts gX8_fills_Jx4a65c_add_9ea2d rfl rfl rfl (by decide +kernel) ⟨(Nat.le_of_ble_eq_true rfl), (Nat.le_of_ble_eq_true rfl)⟩) ⟨kWY_fb, va_recv hK hP (ci := 1) (q0 := 2) rfl rfl, (kWY_go hPc hK hDc hFc hE hY hS)⟩ rfl rfl hl.1 rfl (lv_room (Nat.le_of_ble_eq_true rfl)) dX8_fills_16 ⟨(Nat.le_of_ble_eq_true rfl), (Nat.le_of_ble_eq_true rfl)⟩) hS (fun q _ h => hFc q h) hFc (fun r9 u t H locs ht hvm hw hB hz1 hk1 hS => ?_)
  obtain ⟨z_2, rfl⟩ : ∃ z, z = u := ⟨_, rfl⟩
  obtain ⟨hP1, hD1⟩ := hB
  rw [ht] at hP1
  try dsimp only at hw hP1 hD1
  obtain ⟨hP, hD⟩ := va_join (wr := [(h1, .inr (10, [x4, x5, x6, x7, x8, x9, x10, x11, x12, x13, x14, x15, x16, x17, x18, .int 0, x19, x20])), (h2, .inl (cy 1, 6, .inl g21))]) (w1 := [(h3, .inr (1, [.int 1, .ref z_2, .int 1])), (q_1, .inl (cy 1, 6, .inl g21)), (z_2, .inl (cy 7, 10, .inr (.inr (.inr (.inr (va_up (fun _ => none) 0 (some q_1)))))))]) hP hD [2, 3] [0, 1] rfl rfl (by decide) (by decide) hk1 hFc hP1 hD1
  have hP : va_P D vwCl [(h1, .inr (10, [x4, x5, x6, x7, x8, x9, x10, x11, x12, x13, x14, x15, x16, x17, x18, .int 0, x19, x20])), (h2, .inl (cy 1, 6, .inl g21)), (h3, .inr (1, [.int 1, .ref z_2, .int 1])), (q_1, .inl (cy 1, 6, .inl g21)), (z_2, .inl (cy 7, 10, .inr (.inr (.inr (.inr (va_up (fun _ => none) 0 (some q_1)))))))] H := hP
  have hD : va_D A [(h1, .inr (10, [x4, x5, x6, x7, x8, x9, x10, x11, x12, x13, x14, x15, x16, x17, x18, .int 0, x19, x20])), (h2, .inl (cy 1, 6, .inl g21)), (h3, .inr (1, [.int 1, .ref z_2, .int 1])), (q_1, .inl (cy 1, 6, .inl g21)), (z_2, .inl (cy 7, 10, .inr (.inr (.inr (.inr (va_up (fun _ => none) 0 (some q_1)))))))] := hD
  refine W.widen (k := 2) (n := 16) (Nat.le_of_ble_eq_true rfl) (Nat.le_of_ble_eq_true rfl) ?_
  obtain ⟨rfl, hw⟩ := hw
  refine lv_pop hx hb dX8_fills_19 rfl ?_
  refine W.widen (k := 2) (n := 16) (Nat.le_of_ble_eq_true rfl) (Nat.le_of_ble_eq_true rfl) ?_
  have hP9 := hP.sub (ws' := [(h1, .inr (10, [x4, x5, x6, x7, x8, x9, x10, x11, x12, x13, x14, x15, x16, x17, x18, .int 0, x19, x20])), (h2, .inl (cy 1, 6, .inl g21)), (h3, .inr (1, [.int 1, .ref z_2, .int 1])), (z_2, .inl (cy 7, 10, .inr (.inr (.inr (.inr (va_up (fun _ => none) 0 (some q_1))))))), (q_1, .inl (cy 1, 6, .inl g21))]) [0, 1, 2, 4, 3] rfl
  have hD9 := hD.sub (ws' := [(h1, .inr (10, [x4, x5, x6, x7, x8, x9, x10, x11, x12, x13, x14, x15, x16, x17, x18, .int 0, x19, x20])), (h2, .inl (cy 1, 6, .inl g21)), (h3, .inr (1, [.int 1, .ref z_2, .int 1])), (z_2, .inl (cy 7, 10, .inr (.inr (.inr (.inr (va_up (fun _ => none) 0 (some q_1))))))), (q_1, .inl (cy 1, 6, .inl g21))]) [0, 1, 2, 4, 3] (by decide) rfl
  exact W.vret hx hb hr (fun t ht hW => ⟨⟨(z_2, (va_up (fun _ => none) 0 (some q_1)), q_1), rfl, ⟨(rfl), trivial⟩, ⟨by rw [ht]; exact hP9, hD9⟩⟩, hS.F ht⟩) hS.2.2 dX8_fills_20
theorem dX8_all_0 : decode cX8_all 0 = .ok (.new 117, 3) := by decide +kernel
theorem dX8_all_3 : decode cX8_all 3 = .ok (.dup, 1) := by decide +kernel
theorem dX8_all_4 : decode cX8_all 4 = .ok (.invokespecial 126, 3) := by decide +kernel
set_option maxRecDepth 20000 in
theorem ggX8_all_Jx4a65c_init_da8c8 : GoodIn wsX8_all wsJx4a65c_init_da8c8 := goodIn_r _ [13, 14, 15, 16, 17, 18, 19, 20, 21, 22, 23, 24, 25, 26, 27, 95, 96, 97] (by decide +kernel) (by decide +kernel)
set_option maxRecDepth 20000 in
theorem gX8_all_Jx4a65c_init_da8c8 : GoodIn wsX8_all (wsJx4a65c_init_da8c8) := ggX8_all_Jx4a65c_init_da8c8
theorem dX8_all_7 : decode cX8_all 7 = .ok (.astore_n 1, 1) := by decide +kernel
theorem dX8_all_8 : decode cX8_all 8 = .ok (.aload_n 0, 1) := by decide +kernel
theorem dX8_all_9 : decode cX8_all 9 = .ok (.aload_n 0, 1) := by decide +kernel
theorem dX8_all_10 : decode cX8_all 10 = .ok (.getfield 52, 3) := by decide +kernel
theorem dX8_all_13 : decode cX8_all 13 = .ok (.invokevirtual 155, 3) := by decide +kernel
theorem dX8_all_16 : decode cX8_all 16 = .ok (.checkcast 156, 3) := by decide +kernel
theorem dX8_all_19 : decode cX8_all 19 = .ok (.iconst 0, 1) := by decide +kernel
theorem dX8_all_20 : decode cX8_all 20 = .ok (.aload_n 1, 1) := by decide +kernel
theorem dX8_all_21 : decode cX8_all 21 = .ok (.invokevirtual 229, 3) := by decide +kernel
set_option maxRecDepth 20000 in
theorem ggX8_all_X8_fills : GoodIn wsX8_all wsX8_fills := goodIn_ca (goodIn_r _ [32, 33, 5, 6, 7, 8, 9, 10, 34, 35, 36, 37, 38, 3, 39, 40, 41, 15, 42, 43, 44, 45, 46, 47, 48, 49, 50, 51, 52, 53, 54, 14, 55, 56, 57, 58, 59, 60, 61, 62, 63, 64, 65, 66, 67, 68, 69, 70, 71, 72, 73, 74, 75, 76, 77, 78, 79, 80, 81, 82, 83, 84, 85, 86, 87, 88, 28, 29, 30, 31, 89, 90, 91, 92, 93, 94, 98, 99, 100, 101, 102, 103, 104, 105, 106, 107, 108, 109, 110, 111, 112, 113, 114, 115, 95, 96, 97] (by decide +kernel) (by decide +kernel)) (goodIn_sub (fun _ h => List.mem_cons_of_mem _ (List.mem_append_right _ h)) (by decide +kernel))
set_option maxRecDepth 20000 in
theorem gX8_all_X8_fills : GoodIn wsX8_all (wsV RX8 229 RX8 yX8_fills wsX8_fills) := goodIn_app (goodIn_of _ (by decide +kernel)) ggX8_all_X8_fills
theorem dX8_all_24 : decode cX8_all 24 = .ok (.aload_n 1, 1) := by decide +kernel
theorem dX8_all_25 : decode cX8_all 25 = .ok (.areturn, 1) := by decide +kernel
set_option maxHeartbeats 4000000 in
set_option maxRecDepth 100000 in
theorem k_X8_all (l : Launch) (hl9 : l.stackTraces = false) (D : va_G) (cy : Nat → ClassId) (de : Nat) (h1 : Nat) (x2 : Value) (x3 : Value) (x4 : Value) (x5 : Value) (x6 : Value) (x7 : Value) (x8 : Value) (x9 : Value) (x10 : Value) (x11 : Value) (x12 : Value) (x13 : Value) (h14 : Nat) (x15 : Value) (x16 : Value) (x17 : Value) (x18 : Value) (g19 : Nat → Int32) (sz : Nat) : Met l yX8_all wsX8_all ({ frames := 6, cells := 4, slots := 25, locals := 126 }) (kWY D cy de [.ref h1] [(h1, .inr (10, [x2, x3, x4, x5, x6, x7, x8, x9, x10, x11, x12, x13, .ref h14, x15, x16, .int 0, x17, x18])), (h14, .inl (cy 1, 6, .inl g19))] sz) (va_Qr (fun (u : Nat × Nat × (Nat → Option Nat) × Nat) => match u with | (z1, z2, u3, z4) => (u3 0 = some z4) ∧ True) (fun (u : Nat × Nat × (Nat → Option Nat) × Nat) (a9 : Nat) (t : State) => match u with | (z1, z2, u3, z4) => a9 = z1 ∧ va_P D vwCl [(h1, .inr (10, [x2, x3, x4, x5, x6, x7, x8, x9, x10, x11, x12, x13, .ref h14, x15, x16, .int 0, x17, x18])), (h14, .inl (cy 1, 6, .inl g19)), (z1, .inr (1, [.int 1, .ref z2, .int 1])), (z2, .inl (cy 7, 10, .inr (.inr (.inr (.inr u3))))), (z4, .inl (cy 1, 6, .inl g19))] t.heap ∧ va_D (va_A [(h1, .inr (10, [x2, x3, x4, x5, x6, x7, x8, x9, x10, x11, x12, x13, .ref h14, x15, x16, .int 0, x17, x18])), (h14, .inl (cy 1, 6, .inl g19))] sz) [(h1, .inr (10, [x2, x3, x4, x5, x6, x7, x8, x9, x10, x11, x12, x13, .ref h14, x15, x16, .int 0, x17, x18])), (h14, .inl (cy 1, 6, .inl g19)), (z1, .inr (1, [.int 1, .ref z2, .int 1])), (z2, .inl (cy 7, 10, .inr (.inr (.inr (.inr u3))))), (z4, .inl (cy 1, 6, .inl g19))]) (va_A [(h1, .inr (10, [x2, x3, x4, x5, x6, x7, x8, x9, x10, x11, x12, x13, .ref h14, x15, x16, .int 0, x17, x18])), (h14, .inl (cy 1, 6, .inl g19))] sz)) 4 25 (va_A [(h1, .inr (10, [x2, x3, x4, x5, x6, x7, x8, x9, x10, x11, x12, x13, .ref h14, x15, x16, .int 0, x17, x18])), (h14, .inl (cy 1, 6, .inl g19))] sz) := by
  refine Met.ofW (cc := cX8_all) (maxL := 2) (ret := (some (.object "java/util/ArrayList"))) (by decide) rfl ?_
  intro p e s m args below meth c s₁ B hml hv
  obtain ⟨rfl, hsz, hP, hK, hD0, hE, hY⟩ := hv
  have hx := B.exec
  have hb := B.bytes
  have hr := B.returns
  have hts := atoms_spec (ws := wsX8_all) B.pre
  have hown : s.vm.findClass RX8 = some m.cls := findClass_of_methodNamed B.named
  have hlocks := B.notSynchronized
  subst hsz
  have hD := hD0.self (sz := s.heap.size)
  generalize hAe : va_A [(h1, .inr (10, [x2, x3, x4, x5, x6, x7, x8, x9, x10, x11, x12, x13, .ref h14, x15, x16, .int 0, x17, x18])), (h14, .inl (cy 1, 6, .inl g19))] s.heap.size = A at hD hE hY ⊢
  have hA : ∀ q : Nat, s.heap.size ≤ q → A q := fun q h => by rw [← hAe]; exact Or.inr h
  have hS : va_S A s.heap s.heap [] := va_S.rf
  have hP : va_P D vwCl [(h1, .inr (10, [x2, x3, x4, x5, x6, x7, x8, x9, x10, x11, x12, x13, .ref h14, x15, x16, .int 0, x17, x18])), (h14, .inl (cy 1, 6, .inl g19))] s.heap := hP
  have hl := lv_entry ([.ref h1]) (n := 2) (Nat.le_of_ble_eq_true rfl)
  rw [lg_entry_eq]
  generalize (lg_sl ([.ref h1]) ++ List.replicate (2 - (lg_sl ([.ref h1])).length) Slot.unset).toArray = ls at hl ⊢
  have hl : lv_has ls 2 [(0, .ref h1)] := hl
  refine va_new (ci := 1) (fs := [.int 0, .null, .int 0]) (C := RJx4a65c) (T := TJx4a65c) (N := 3) hx hb hts (fun _ h => (List.mem_cons_of_mem _ (List.mem_append_left _ (List.mem_append_left _ (List.mem_append_right _ h))))) tyJx4a65c tyJx4a65c_ok hown (hts (.classLink RX8 117 RJx4a65c) (List.mem_cons_of_mem _ (List.mem_append_left _ (List.mem_append_left _ (List.mem_append_left _ (List.mem_append_left _ (List.mem_of_getElem? (i := 0) rfl))))))) (hts (.instantiable RJx4a65c 3) (List.mem_cons_of_mem _ (List.mem_append_left _ (List.mem_append_left _ (List.mem_append_left _ (List.mem_append_left _ (List.mem_of_getElem? (i := 1) rfl))))))) (hts (.initialized RJx4a65c) (List.mem_cons_of_mem _ (List.mem_append_left _ (List.mem_append_left _ (List.mem_append_left _ (List.mem_append_left _ (List.mem_of_getElem? (i := 2) rfl))))))) hK hP hD hS hA rfl (fun j hj => by rcases (show j = 0 ∨ j = 1 ∨ j = 2 by omega) with rfl | rfl | rfl <;> rfl) (Nat.le_of_ble_eq_true rfl) (Nat.le_of_ble_eq_true rfl) dX8_all_0 (fun q_1 H hP hD hS => ?_)
  have hP : va_P D vwCl [(h1, .inr (10, [x2, x3, x4, x5, x6, x7, x8, x9, x10, x11, x12, x13, .ref h14, x15, x16, .int 0, x17, x18])), (h14, .inl (cy 1, 6, .inl g19)), (q_1, .inr (1, [.int 0, .null, .int 0]))] H := hP
  have hD : va_D A [(h1, .inr (10, [x2, x3, x4, x5, x6, x7, x8, x9, x10, x11, x12, x13, .ref h14, x15, x16, .int 0, x17, x18])), (h14, .inl (cy 1, 6, .inl g19)), (q_1, .inr (1, [.int 0, .null, .int 0]))] := hD
  refine W.widen (k := 1) (n := 3) (Nat.le_of_ble_eq_true rfl) (Nat.le_of_ble_eq_true rfl) ?_
  refine lv_dup hx hb dX8_all_3 rfl ?_
  have hPc := hP.sub (ws' := [(q_1, .inr (1, [.int 0, .null, .int 0]))]) [2] rfl
  have hDc := hD.sub (ws' := [(q_1, .inr (1, [.int 0, .null, .int 0]))]) [2] (by decide) rfl
  have hFc := va_free (wc := [(q_1, .inr (1, [.int 0, .null, .int 0]))]) hD hS hA [2] rfl
  refine va_callv (va_runI (As := []) (rest := [.ref q_1]) ⟨hx, hb, hml, hown, hts⟩ (k_Jx4a65c_init_da8c8 l hl9 D cy de q_1 (.int 0) (.null) (.int 0) H.size) (cwI 0 hts gX8_all_Jx4a65c_init_da8c8 rfl rfl rfl (hts (.initialized RJx4a65c) (List.mem_cons_of_mem _ (List.mem_append_left _ (List.mem_append_left _ (List.mem_append_left _ (List.mem_append_left _ (List.mem_of_getElem? (i := 2) rfl))))))) (hts (.methodLink RX8 126 yJx4a65c_init_da8c8) (List.mem_cons_of_mem _ (List.mem_append_left _ (List.mem_append_left _ (List.mem_append_left _ (List.mem_append_left _ (List.mem_of_getElem? (i := 10) rfl))))))) (hts (.instanceMethod yJx4a65c_init_da8c8) (List.mem_cons_of_mem _ (List.mem_append_left _ (List.mem_append_left _ (List.mem_append_left _ (List.mem_append_left _ (List.mem_of_getElem? (i := 11) rfl))))))) rfl (by decide +kernel) ⟨(Nat.le_of_ble_eq_true rfl), (Nat.le_of_ble_eq_true rfl)⟩) ⟨kWY_fb, (kWY_go hPc hK hDc hFc hE hY hS)⟩ rfl rfl hl.1 rfl (lv_room (Nat.le_of_ble_eq_true rfl)) dX8_all_4 ⟨(Nat.le_of_ble_eq_true rfl), (Nat.le_of_ble_eq_true rfl)⟩) hS (fun q _ h => hFc q h) hFc (fun u t H locs ht hvm hw hB hz1 hk1 hS => ?_)
  obtain ⟨hP1, hD1⟩ := hB
  rw [ht] at hP1
  try dsimp only at hw hP1 hD1
  obtain ⟨hP, hD⟩ := va_join (wr := [(h1, .inr (10, [x2, x3, x4, x5, x6, x7, x8, x9, x10, x11, x12, x13, .ref h14, x15, x16, .int 0, x17, x18])), (h14, .inl (cy 1, 6, .inl g19))]) (w1 := [(q_1, .inr (1, [.int 0, .ref de, .int 0]))]) hP hD [2] [0, 1] rfl rfl (by decide) (by decide) hk1 hFc hP1 hD1
  have hP : va_P D vwCl [(h1, .inr (10, [x2, x3, x4, x5, x6, x7, x8, x9, x10, x11, x12, x13, .ref h14, x15, x16, .int 0, x17, x18])), (h14, .inl (cy 1, 6, .inl g19)), (q_1, .inr (1, [.int 0, .ref de, .int 0]))] H := hP
  have hD : va_D A [(h1, .inr (10, [x2, x3, x4, x5, x6, x7, x8, x9, x10, x11, x12, x13, .ref h14, x15, x16, .int 0, x17, x18])), (h14, .inl (cy 1, 6, .inl g19)), (q_1, .inr (1, [.int 0, .ref de, .int 0]))] := hD
  refine lv_astore_n (lv' := [(1, .ref q_1), (0, .ref h1)]) hx hb dX8_all_7 rfl hl (by decide) rfl (fun ls hl => ?_)
  refine lv_aload_n hx hb dX8_all_8 rfl (lv_at hl 1 rfl) ?_
  refine lv_aload_n hx hb dX8_all_9 rfl (lv_at hl 1 rfl) ?_
  refine va_get (D := D) (ci := 10) (v := .ref h14) (C := RX8) (T := TX8) (N := 18) hx hb hts (fun _ h => (List.mem_cons_of_mem _ (List.mem_append_left _ (List.mem_append_right _ h)))) hown hK hP 0 rfl rfl 12 (by decide) (hts (.fieldLink RX8 52 "SelfishJunctionModel" "chosen" "[I") (List.mem_cons_of_mem _ (List.mem_append_left _ (List.mem_append_left _ (List.mem_append_left _ (List.mem_append_left _ (List.mem_of_getElem? (i := 3) rfl))))))) (fun _ h9 => h9) rfl dX8_all_10 ?_
  refine va_clone (ad := "[I") hx hb (by rw [hml]; exact hl.1.symm) hown (hts (.methodLink RX8 155 ⟨"[I", "clone", "()Ljava/lang/Object;"⟩) (List.mem_cons_of_mem _ (List.mem_append_left _ (List.mem_append_left _ (List.mem_append_left _ (List.mem_append_left _ (List.mem_of_getElem? (i := 4) rfl))))))) (hts (.sameMethod "[I" "java/lang/Object" "clone" "()Ljava/lang/Object;") (List.mem_cons_of_mem _ (List.mem_append_left _ (List.mem_append_left _ (List.mem_append_left _ (List.mem_append_left _ (List.mem_of_getElem? (i := 5) rfl))))))) (hts (.native ⟨"java/lang/Object", "clone", "()Ljava/lang/Object;"⟩) (List.mem_cons_of_mem _ (List.mem_append_left _ (List.mem_append_left _ (List.mem_append_left _ (List.mem_append_left _ (List.mem_of_getElem? (i := 6) rfl))))))) (hts (.instanceMethod ⟨"java/lang/Object", "clone", "()Ljava/lang/Object;"⟩) (List.mem_cons_of_mem _ (List.mem_append_left _ (List.mem_append_left _ (List.mem_append_left _ (List.mem_append_left _ (List.mem_of_getElem? (i := 7) rfl))))))) (hts (.selects "[I" ⟨"[I", "clone", "()Ljava/lang/Object;"⟩ ⟨"java/lang/Object", "clone", "()Ljava/lang/Object;"⟩) (List.mem_cons_of_mem _ (List.mem_append_left _ (List.mem_append_left _ (List.mem_append_left _ (List.mem_append_left _ (List.mem_of_getElem? (i := 8) rfl))))))) (exP.cln hE) hK hP hD hS hA 1 1 rfl rfl (va_nm_int (hK.2 1 _ rfl).2) (kx_fitI _ _ _) (Nat.le_of_ble_eq_true rfl) (Nat.le_of_ble_eq_true rfl) (Nat.le_of_ble_eq_true rfl) (Nat.le_of_ble_eq_true rfl) dX8_all_13 (fun q_3 H hK hP hD hS => ?_)
  have hK := hK.sub (tys' := tyG cy) [0, 1, 2, 3, 4, 5, 6, 7, 8, 9] rfl
  have hP : va_P D vwCl [(h1, .inr (10, [x2, x3, x4, x5, x6, x7, x8, x9, x10, x11, x12, x13, .ref h14, x15, x16, .int 0, x17, x18])), (h14, .inl (cy 1, 6, .inl g19)), (q_1, .inr (1, [.int 0, .ref de, .int 0])), (q_3, .inl (cy 1, 6, .inl g19))] H := hP
  have hD : va_D A [(h1, .inr (10, [x2, x3, x4, x5, x6, x7, x8, x9, x10, x11, x12, x13, .ref h14, x15, x16, .int 0, x17, x18])), (h14, .inl (cy 1, 6, .inl g19)), (q_1, .inr (1, [.int 0, .ref de, .int 0])), (q_3, .inl (cy 1, 6, .inl g19))] := hD
  refine W.widen (k := 2) (n := 9) (Nat.le_of_ble_eq_true rfl) (Nat.le_of_ble_eq_true rfl) ?_
  refine va_castA hx hb hown (hts (.classLink RX8 156 "[I") (List.mem_cons_of_mem _ (List.mem_append_left _ (List.mem_append_left _ (List.mem_append_left _ (List.mem_append_left _ (List.mem_of_getElem? (i := 9) rfl))))))) hP 3 rfl (va_nm_int (hK.2 1 _ rfl).2) dX8_all_16 ?_
  refine lv_iconst (v := 0) hx hb dX8_all_19 (by decide) ?_
  refine lv_aload_n hx hb dX8_all_20 rfl (lv_at hl 0 rfl) ?_
  have hPc := hP.sub (ws' := [(h1, .inr (10, [x2, x3, x4, x5, x6, x7, x8, x9, x10, x11, x12, x13, .ref h14, x15, x16, .int 0, x17, x18])), (q_3, .inl (cy 1, 6, .inl g19)), (q_1, .inr (1, [.int 0, .ref de, .int 0]))]) [0, 3, 2] rfl
  have hDc := hD.sub (ws' := [(h1, .inr (10, [x2, x3, x4, x5, x6, x7, x8, x9, x10, x11, x12, x13, .ref h14, x15, x16, .int 0, x17, x18])), (q_3, .inl (cy 1, 6, .inl g19)), (q_1, .inr (1, [.int 0, .ref de, .int 0]))]) [0, 3, 2] (by decide) rfl
  have hFc := va_free (wc := [(h1, .inr (10, [x2, x3, x4, x5, x6, x7, x8, x9, x10, x11, x12, x13, .ref h14, x15, x16, .int 0, x17, x18])), (q_3, .inl (cy 1, 6, .inl g19)), (q_1, .inr (1, [.int 0, .ref de, .int 0]))]) hD hS hA [0, 3, 2] rfl
  refine va_callv (va_runV (As := [.ref q_3, .int 0, .ref q_1]) (rest := []) ⟨hx, hb, hml, hown, hts⟩ (k_X8_fills l hl9 D cy de h1 q_3 q_1 (x2) (x3) (x4) (x5) (x6) (x7) (x8) (x9) (x10) (x11) (x12) (x13) (.ref h14) (x15) (x16) (x17) (x18) g19 H.size) (cwV 3 hts gX8_all_X8_fills rfl rfl rfl (by decide +kernel) ⟨(Nat.le_of_ble_eq_true rfl), (Nat.le_of_ble_eq_true rfl)⟩) ⟨kWY_fb, va_recv hK hP (ci := 10) (q0 := 0) rfl rfl, (kWY_go hPc hK hDc hFc hE hY hS)⟩ rfl rfl hl.1 rfl (lv_room (Nat.le_of_ble_eq_true rfl)) dX8_all_21 ⟨(Nat.le_of_ble_eq_true rfl), (Nat.le_of_ble_eq_true rfl)⟩) hS (fun q _ h => hFc q h) hFc (fun u t H locs ht hvm hw hB hz1 hk1 hS => ?_)
  obtain ⟨z_4, u_5, z_6⟩ := u
  obtain ⟨hP1, hD1⟩ := hB
  rw [ht] at hP1
  try dsimp only at hw hP1 hD1
  obtain ⟨hP, hD⟩ := va_join (wr := [(h14, .inl (cy 1, 6, .inl g19))]) (w1 := [(h1, .inr (10, [x2, x3, x4, x5, x6, x7, x8, x9, x10, x11, x12, x13, .ref h14, x15, x16, .int 0, x17, x18])), (q_3, .inl (cy 1, 6, .inl g19)), (q_1, .inr (1, [.int 1, .ref z_4, .int 1])), (z_4, .inl (cy 7, 10, .inr (.inr (.inr (.inr u_5))))), (z_6, .inl (cy 1, 6, .inl g19))]) hP hD [0, 3, 2] [1] rfl rfl (by decide) (by decide) hk1 hFc hP1 hD1
  have hP : va_P D vwCl [(h14, .inl (cy 1, 6, .inl g19)), (h1, .inr (10, [x2, x3, x4, x5, x6, x7, x8, x9, x10, x11, x12, x13, .ref h14, x15, x16, .int 0, x17, x18])), (q_3, .inl (cy 1, 6, .inl g19)), (q_1, .inr (1, [.int 1, .ref z_4, .int 1])), (z_4, .inl (cy 7, 10, .inr (.inr (.inr (.inr u_5))))), (z_6, .inl (cy 1, 6, .inl g19))] H := hP
  have hD : va_D A [(h14, .inl (cy 1, 6, .inl g19)), (h1, .inr (10, [x2, x3, x4, x5, x6, x7, x8, x9, x10, x11, x12, x13, .ref h14, x15, x16, .int 0, x17, x18])), (q_3, .inl (cy 1, 6, .inl g19)), (q_1, .inr (1, [.int 1, .ref z_4, .int 1])), (z_4, .inl (cy 7, 10, .inr (.inr (.inr (.inr u_5))))), (z_6, .inl (cy 1, 6, .inl g19))] := hD
  refine W.widen (k := 4) (n := 25) (Nat.le_of_ble_eq_true rfl) (Nat.le_of_ble_eq_true rfl) ?_
  obtain ⟨kf_7, hw⟩ := hw
  refine lv_aload_n hx hb dX8_all_24 rfl (lv_at hl 0 rfl) ?_
  refine W.widen (k := 4) (n := 25) (Nat.le_of_ble_eq_true rfl) (Nat.le_of_ble_eq_true rfl) ?_
  have hP9 := hP.sub (ws' := [(h1, .inr (10, [x2, x3, x4, x5, x6, x7, x8, x9, x10, x11, x12, x13, .ref h14, x15, x16, .int 0, x17, x18])), (h14, .inl (cy 1, 6, .inl g19)), (q_1, .inr (1, [.int 1, .ref z_4, .int 1])), (z_4, .inl (cy 7, 10, .inr (.inr (.inr (.inr u_5))))), (z_6, .inl (cy 1, 6, .inl g19))]) [1, 0, 3, 4, 5] rfl
  have hD9 := hD.sub (ws' := [(h1, .inr (10, [x2, x3, x4, x5, x6, x7, x8, x9, x10, x11, x12, x13, .ref h14, x15, x16, .int 0, x17, x18])), (h14, .inl (cy 1, 6, .inl g19)), (q_1, .inr (1, [.int 1, .ref z_4, .int 1])), (z_4, .inl (cy 7, 10, .inr (.inr (.inr (.inr u_5))))), (z_6, .inl (cy 1, 6, .inl g19))]) [1, 0, 3, 4, 5] (by decide) rfl
  exact W.aret (v := .ref q_1) hx hb hr (Or.inl ⟨_, rfl⟩) (Or.inr ⟨_, rfl⟩) (fun t ht hW => ⟨⟨(q_1, z_4, u_5, z_6), q_1, rfl, ⟨(kf_7), trivial⟩, ⟨rfl, by rw [ht]; exact hP9, hD9⟩⟩, hS.F ht⟩) hS.2.2 dX8_all_25
theorem dJx35411_init_45d68_0 : decode cJx35411_init_45d68 0 = .ok (.aload_n 0, 1) := by decide +kernel
theorem dJx35411_init_45d68_1 : decode cJx35411_init_45d68 1 = .ok (.aload_n 1, 1) := by decide +kernel
theorem dJx35411_init_45d68_2 : decode cJx35411_init_45d68 2 = .ok (.putfield 1, 3) := by decide +kernel
theorem dJx35411_init_45d68_5 : decode cJx35411_init_45d68 5 = .ok (.aload_n 0, 1) := by decide +kernel
theorem dJx35411_init_45d68_6 : decode cJx35411_init_45d68 6 = .ok (.invokespecial 7, 3) := by decide +kernel
theorem dJx35411_init_45d68_9 : decode cJx35411_init_45d68 9 = .ok (.aload_n 0, 1) := by decide +kernel
theorem dJx35411_init_45d68_10 : decode cJx35411_init_45d68 10 = .ok (.iconst (-1), 1) := by decide +kernel
theorem dJx35411_init_45d68_11 : decode cJx35411_init_45d68 11 = .ok (.putfield 13, 3) := by decide +kernel
theorem dJx35411_init_45d68_14 : decode cJx35411_init_45d68 14 = .ok (.aload_n 0, 1) := by decide +kernel
theorem dJx35411_init_45d68_15 : decode cJx35411_init_45d68 15 = .ok (.aload_n 0, 1) := by decide +kernel
theorem dJx35411_init_45d68_16 : decode cJx35411_init_45d68 16 = .ok (.getfield 1, 3) := by decide +kernel
theorem dJx35411_init_45d68_19 : decode cJx35411_init_45d68 19 = .ok (.getfield 17, 3) := by decide +kernel
theorem dJx35411_init_45d68_22 : decode cJx35411_init_45d68 22 = .ok (.putfield 22, 3) := by decide +kernel
theorem dJx35411_init_45d68_25 : decode cJx35411_init_45d68 25 = .ok (.return_, 1) := by decide +kernel
set_option maxHeartbeats 4000000 in
set_option maxRecDepth 100000 in
theorem k_Jx35411_init_45d68 (l : Launch) (D : va_G) (cy : Nat → ClassId) (h1 : Nat) (h2 : Nat) (x3 : Value) (x4 : Value) (x5 : Value) (x6 : Value) (x7 : Value) (sz : Nat) : Met l yJx35411_init_45d68 wsJx35411_init_45d68 ({ frames := 1, cells := 0, slots := 0, locals := 12 }) (kW D cy [.ref h1, .ref h2] [(h1, .inr (0, [x3, x4, x5, .null])), (h2, .inr (1, [.int 1, x6, x7]))] sz) (va_Qv (fun (_ : Unit) => True) (fun (_ : Unit) (t : State) => va_P D vwCl [(h1, .inr (0, [x3, .int (-1), .int 1, .ref h2])), (h2, .inr (1, [.int 1, x6, x7]))] t.heap ∧ va_D (va_A [(h1, .inr (0, [x3, x4, x5, .null])), (h2, .inr (1, [.int 1, x6, x7]))] sz) [(h1, .inr (0, [x3, .int (-1), .int 1, .ref h2])), (h2, .inr (1, [.int 1, x6, x7]))]) (va_A [(h1, .inr (0, [x3, x4, x5, .null])), (h2, .inr (1, [.int 1, x6, x7]))] sz)) 0 0 (va_A [(h1, .inr (0, [x3, x4, x5, .null])), (h2, .inr (1, [.int 1, x6, x7]))] sz) := by
  refine Met.ofW (cc := cJx35411_init_45d68) (maxL := 2) (ret := none) (by decide) rfl ?_
  intro p e s m args below meth c s₁ B hml hv
  obtain ⟨rfl, hsz, hP, hK, hD0⟩ := hv
  have hx := B.exec
  have hb := B.bytes
  have hr := B.returns
  have hts := atoms_spec (ws := wsJx35411_init_45d68) B.pre
  have hown : s.vm.findClass RJx35411 = some m.cls := findClass_of_methodNamed B.named
  have hlocks := B.notSynchronized
  have hin : meth.name = "<init>" := (name_of_methodNamed B.named B.method).1
  subst hsz
  have hD := hD0.self (sz := s.heap.size)
  generalize hAe : va_A [(h1, .inr (0, [x3, x4, x5, .null])), (h2, .inr (1, [.int 1, x6, x7]))] s.heap.size = A at hD ⊢
  have hA : ∀ q : Nat, s.heap.size ≤ q → A q := fun q h => by rw [← hAe]; exact Or.inr h
  have hS : va_S A s.heap s.heap [] := va_S.rf
  have hP : va_P D vwCl [(h1, .inr (0, [x3, x4, x5, .null])), (h2, .inr (1, [.int 1, x6, x7]))] s.heap := hP
  have hl := lv_entry ([.ref h1, .ref h2]) (n := 2) (Nat.le_of_ble_eq_true rfl)
  rw [lg_entry_eq]
  generalize (lg_sl ([.ref h1, .ref h2]) ++ List.replicate (2 - (lg_sl ([.ref h1, .ref h2])).length) Slot.unset).toArray = ls at hl ⊢
  have hl : lv_has ls 2 [(0, .ref h1), (1, .ref h2)] := hl
  refine lv_aload_n hx hb dJx35411_init_45d68_0 rfl (lv_at hl 0 rfl) ?_
  refine lv_aload_n hx hb dJx35411_init_45d68_1 rfl (lv_at hl 1 rfl) ?_
  refine va_putF (D := D) (ci := 0) (v := .ref h2) (ty := .object "java/util/ArrayList") (C := RJx35411) (T := TJx35411) (N := 4) hx hb hts (fun _ h => (List.mem_cons_of_mem _ (List.mem_append_left _ (List.mem_append_right _ h)))) tyJx35411 tyJx35411_ok nmJx35411 hown hK hP hD hS 0 rfl rfl 3 (by decide) (hts (.fieldLink RJx35411 1 "java/util/ArrayList$Itr" "this$0" "Ljava/util/ArrayList;") (List.mem_cons_of_mem _ (List.mem_append_left _ (List.mem_append_left _ (List.mem_of_getElem? (i := 0) rfl))))) (fun _ h9 => h9) rfl hin rfl (by decide +kernel) rfl rfl (Nat.le_of_ble_eq_true rfl) dJx35411_init_45d68_2 (fun H locs hP hD hS => ?_)
  have hP : va_P D vwCl [(h1, .inr (0, [x3, x4, x5, .ref h2])), (h2, .inr (1, [.int 1, x6, x7]))] H := hP
  have hD : va_D A [(h1, .inr (0, [x3, x4, x5, .ref h2])), (h2, .inr (1, [.int 1, x6, x7]))] := hD
  refine lv_aload_n hx hb dJx35411_init_45d68_5 rfl (lv_at hl 0 rfl) ?_
  refine W.objInit hx hb hown (hts (.methodLink RJx35411 7 objectInit) (List.mem_cons_of_mem _ (List.mem_append_left _ (List.mem_append_left _ (List.mem_of_getElem? (i := 1) rfl))))) (hts (.instanceMethod objectInit) (List.mem_cons_of_mem _ (List.mem_append_left _ (List.mem_append_left _ (List.mem_of_getElem? (i := 2) rfl))))) (hts (.code objectInit ⟨#[0xb1]⟩ 1 none) (List.mem_cons_of_mem _ (List.mem_append_left _ (List.mem_append_left _ (List.mem_of_getElem? (i := 3) rfl))))) rfl (by rw [hml]; exact hl.1) rfl dJx35411_init_45d68_6 (Nat.le_of_ble_eq_true rfl) (Nat.le_of_ble_eq_true rfl) ?_
  refine W.eq (g2 := F0 m 9 ls []) rfl ?_
  refine lv_aload_n hx hb dJx35411_init_45d68_9 rfl (lv_at hl 0 rfl) ?_
  refine lv_iconst (v := (-1)) hx hb dJx35411_init_45d68_10 (by decide) ?_
  refine va_put (D := D) (ci := 0) (v := .int (-1)) (ty := .int) (C := RJx35411) (T := TJx35411) (N := 4) hx hb hts (fun _ h => (List.mem_cons_of_mem _ (List.mem_append_left _ (List.mem_append_right _ h)))) tyJx35411 tyJx35411_ok nmJx35411 hown hK hP hD hS 0 rfl rfl 1 (by decide) (hts (.fieldLink RJx35411 13 "java/util/ArrayList$Itr" "lastRet" "I") (List.mem_cons_of_mem _ (List.mem_append_left _ (List.mem_append_left _ (List.mem_of_getElem? (i := 4) rfl))))) (fun _ h9 => h9) rfl (by decide +kernel) rfl rfl (Nat.le_of_ble_eq_true rfl) dJx35411_init_45d68_11 (fun H locs hP hD hS => ?_)
  have hP : va_P D vwCl [(h1, .inr (0, [x3, .int (-1), x5, .ref h2])), (h2, .inr (1, [.int 1, x6, x7]))] H := hP
  have hD : va_D A [(h1, .inr (0, [x3, .int (-1), x5, .ref h2])), (h2, .inr (1, [.int 1, x6, x7]))] := hD
  refine lv_aload_n hx hb dJx35411_init_45d68_14 rfl (lv_at hl 0 rfl) ?_
  refine lv_aload_n hx hb dJx35411_init_45d68_15 rfl (lv_at hl 0 rfl) ?_
  refine va_get (D := D) (ci := 0) (v := .ref h2) (C := RJx35411) (T := TJx35411) (N := 4) hx hb hts (fun _ h => (List.mem_cons_of_mem _ (List.mem_append_left _ (List.mem_append_right _ h)))) hown hK hP 0 rfl rfl 3 (by decide) (hts (.fieldLink RJx35411 1 "java/util/ArrayList$Itr" "this$0" "Ljava/util/ArrayList;") (List.mem_cons_of_mem _ (List.mem_append_left _ (List.mem_append_left _ (List.mem_of_getElem? (i := 0) rfl))))) (fun _ h9 => h9) rfl dJx35411_init_45d68_16 ?_
  refine va_get (D := D) (ci := 1) (v := .int 1) (C := RJx4a65c) (T := TJx4a65c) (N := 3) hx hb hts (fun _ h => (List.mem_cons_of_mem _ (List.mem_append_right _ h))) hown hK hP 1 rfl rfl 0 (by decide) (hts (.fieldLink RJx35411 17 "java/util/ArrayList" "modCount" "I") (List.mem_cons_of_mem _ (List.mem_append_left _ (List.mem_append_left _ (List.mem_of_getElem? (i := 5) rfl))))) (u_same (hts (.sameField "java/util/ArrayList" "java/util/AbstractList" "modCount" "I") (List.mem_cons_of_mem _ (List.mem_append_left _ (List.mem_append_left _ (List.mem_of_getElem? (i := 6) rfl)))))) rfl dJx35411_init_45d68_19 ?_
  refine va_put (D := D) (ci := 0) (v := .int 1) (ty := .int) (C := RJx35411) (T := TJx35411) (N := 4) hx hb hts (fun _ h => (List.mem_cons_of_mem _ (List.mem_append_left _ (List.mem_append_right _ h)))) tyJx35411 tyJx35411_ok nmJx35411 hown hK hP hD hS 0 rfl rfl 2 (by decide) (hts (.fieldLink RJx35411 22 "java/util/ArrayList$Itr" "expectedModCount" "I") (List.mem_cons_of_mem _ (List.mem_append_left _ (List.mem_append_left _ (List.mem_of_getElem? (i := 7) rfl))))) (fun _ h9 => h9) rfl (by decide +kernel) rfl rfl (Nat.le_of_ble_eq_true rfl) dJx35411_init_45d68_22 (fun H locs hP hD hS => ?_)
  have hP : va_P D vwCl [(h1, .inr (0, [x3, .int (-1), .int 1, .ref h2])), (h2, .inr (1, [.int 1, x6, x7]))] H := hP
  have hD : va_D A [(h1, .inr (0, [x3, .int (-1), .int 1, .ref h2])), (h2, .inr (1, [.int 1, x6, x7]))] := hD
  refine W.widen (k := 0) (n := 0) (Nat.le_of_ble_eq_true rfl) (Nat.le_of_ble_eq_true rfl) ?_
  have hP9 := hP.sub (ws' := [(h1, .inr (0, [x3, .int (-1), .int 1, .ref h2])), (h2, .inr (1, [.int 1, x6, x7]))]) [0, 1] rfl
  have hD9 := hD.sub (ws' := [(h1, .inr (0, [x3, .int (-1), .int 1, .ref h2])), (h2, .inr (1, [.int 1, x6, x7]))]) [0, 1] (by decide) rfl
  exact W.vret hx hb hr (fun t ht hW => ⟨⟨(), rfl, trivial, ⟨by rw [ht]; exact hP9, hD9⟩⟩, hS.F ht⟩) hS.2.2 dJx35411_init_45d68_25
theorem dJx4a65c_iterator_32c93_0 : decode cJx4a65c_iterator_32c93 0 = .ok (.new 267, 3) := by decide +kernel
theorem dJx4a65c_iterator_32c93_3 : decode cJx4a65c_iterator_32c93 3 = .ok (.dup, 1) := by decide +kernel
theorem dJx4a65c_iterator_32c93_4 : decode cJx4a65c_iterator_32c93 4 = .ok (.aload_n 0, 1) := by decide +kernel
theorem dJx4a65c_iterator_32c93_5 : decode cJx4a65c_iterator_32c93 5 = .ok (.invokespecial 269, 3) := by decide +kernel
set_option maxRecDepth 20000 in
theorem ggJx4a65c_iterator_32c93_Jx35411_init_45d68 : GoodIn wsJx4a65c_iterator_32c93 wsJx35411_init_45d68 := goodIn_r _ [6, 7, 8, 9, 10, 11, 12, 13, 14, 15, 16, 17, 18, 19, 20, 21] (by decide +kernel) (by decide +kernel)
set_option maxRecDepth 20000 in
theorem gJx4a65c_iterator_32c93_Jx35411_init_45d68 : GoodIn wsJx4a65c_iterator_32c93 (wsJx35411_init_45d68) := ggJx4a65c_iterator_32c93_Jx35411_init_45d68
theorem dJx4a65c_iterator_32c93_8 : decode cJx4a65c_iterator_32c93 8 = .ok (.areturn, 1) := by decide +kernel
set_option maxHeartbeats 4000000 in
set_option maxRecDepth 100000 in
theorem k_Jx4a65c_iterator_32c93 (l : Launch) (D : va_G) (cy : Nat → ClassId) (h1 : Nat) (x2 : Value) (x3 : Value) (sz : Nat) : Met l yJx4a65c_iterator_32c93 wsJx4a65c_iterator_32c93 ({ frames := 2, cells := 1, slots := 4, locals := 33 }) (kW D cy [.ref h1] [(h1, .inr (1, [.int 1, x2, x3]))] sz) (va_Qr (fun (u : Nat) => match u with | z1 => True) (fun (u : Nat) (a9 : Nat) (t : State) => match u with | z1 => a9 = z1 ∧ va_P D vwCl [(h1, .inr (1, [.int 1, x2, x3])), (z1, .inr (0, [.int 0, .int (-1), .int 1, .ref h1]))] t.heap ∧ va_D (va_A [(h1, .inr (1, [.int 1, x2, x3]))] sz) [(h1, .inr (1, [.int 1, x2, x3])), (z1, .inr (0, [.int 0, .int (-1), .int 1, .ref h1]))]) (va_A [(h1, .inr (1, [.int 1, x2, x3]))] sz)) 1 4 (va_A [(h1, .inr (1, [.int 1, x2, x3]))] sz) := by
  refine Met.ofW (cc := cJx4a65c_iterator_32c93) (maxL := 1) (ret := (some (.object "java/util/Iterator"))) (by decide) rfl ?_
  intro p e s m args below meth c s₁ B hml hv
  obtain ⟨rfl, hsz, hP, hK, hD0⟩ := hv
  have hx := B.exec
  have hb := B.bytes
  have hr := B.returns
  have hts := atoms_spec (ws := wsJx4a65c_iterator_32c93) B.pre
  have hown : s.vm.findClass RJx4a65c = some m.cls := findClass_of_methodNamed B.named
  have hlocks := B.notSynchronized
  subst hsz
  have hD := hD0.self (sz := s.heap.size)
  generalize hAe : va_A [(h1, .inr (1, [.int 1, x2, x3]))] s.heap.size = A at hD ⊢
  have hA : ∀ q : Nat, s.heap.size ≤ q → A q := fun q h => by rw [← hAe]; exact Or.inr h
  have hS : va_S A s.heap s.heap [] := va_S.rf
  have hP : va_P D vwCl [(h1, .inr (1, [.int 1, x2, x3]))] s.heap := hP
  have hl := lv_entry ([.ref h1]) (n := 1) (Nat.le_of_ble_eq_true rfl)
  rw [lg_entry_eq]
  generalize (lg_sl ([.ref h1]) ++ List.replicate (1 - (lg_sl ([.ref h1])).length) Slot.unset).toArray = ls at hl ⊢
  have hl : lv_has ls 1 [(0, .ref h1)] := hl
  refine va_new (ci := 0) (fs := [.int 0, .int 0, .int 0, .null]) (C := RJx35411) (T := TJx35411) (N := 4) hx hb hts (fun _ h => (List.mem_cons_of_mem _ (List.mem_append_left _ (List.mem_append_right _ h)))) tyJx35411 tyJx35411_ok hown (hts (.classLink RJx4a65c 267 RJx35411) (List.mem_cons_of_mem _ (List.mem_append_left _ (List.mem_append_left _ (List.mem_of_getElem? (i := 0) rfl))))) (hts (.instantiable RJx35411 4) (List.mem_cons_of_mem _ (List.mem_append_left _ (List.mem_append_left _ (List.mem_of_getElem? (i := 1) rfl))))) (hts (.initialized RJx35411) (List.mem_cons_of_mem _ (List.mem_append_left _ (List.mem_append_left _ (List.mem_of_getElem? (i := 2) rfl))))) hK hP hD hS hA rfl (fun j hj => by rcases (show j = 0 ∨ j = 1 ∨ j = 2 ∨ j = 3 by omega) with rfl | rfl | rfl | rfl <;> rfl) (Nat.le_of_ble_eq_true rfl) (Nat.le_of_ble_eq_true rfl) dJx4a65c_iterator_32c93_0 (fun q_1 H hP hD hS => ?_)
  have hP : va_P D vwCl [(h1, .inr (1, [.int 1, x2, x3])), (q_1, .inr (0, [.int 0, .int 0, .int 0, .null]))] H := hP
  have hD : va_D A [(h1, .inr (1, [.int 1, x2, x3])), (q_1, .inr (0, [.int 0, .int 0, .int 0, .null]))] := hD
  refine W.widen (k := 1) (n := 4) (Nat.le_of_ble_eq_true rfl) (Nat.le_of_ble_eq_true rfl) ?_
  refine lv_dup hx hb dJx4a65c_iterator_32c93_3 rfl ?_
  refine lv_aload_n hx hb dJx4a65c_iterator_32c93_4 rfl (lv_at hl 0 rfl) ?_
  have hPc := hP.sub (ws' := [(q_1, .inr (0, [.int 0, .int 0, .int 0, .null])), (h1, .inr (1, [.int 1, x2, x3]))]) [1, 0] rfl
  have hDc := hD.sub (ws' := [(q_1, .inr (0, [.int 0, .int 0, .int 0, .null])), (h1, .inr (1, [.int 1, x2, x3]))]) [1, 0] (by decide) rfl
  have hFc := va_free (wc := [(q_1, .inr (0, [.int 0, .int 0, .int 0, .null])), (h1, .inr (1, [.int 1, x2, x3]))]) hD hS hA [1, 0] rfl
  refine va_callv (va_runI (As := [.ref h1]) (rest := [.ref q_1]) ⟨hx, hb, hml, hown, hts⟩ (k_Jx35411_init_45d68 l D cy q_1 h1 (.int 0) (.int 0) (.int 0) (x2) (x3) H.size) (cwI 1 hts gJx4a65c_iterator_32c93_Jx35411_init_45d68 rfl rfl rfl (hts (.initialized RJx35411) (List.mem_cons_of_mem _ (List.mem_append_left _ (List.mem_append_left _ (List.mem_of_getElem? (i := 2) rfl))))) (hts (.methodLink RJx4a65c 269 yJx35411_init_45d68) (List.mem_cons_of_mem _ (List.mem_append_left _ (List.mem_append_left _ (List.mem_of_getElem? (i := 3) rfl))))) (hts (.instanceMethod yJx35411_init_45d68) (List.mem_cons_of_mem _ (List.mem_append_left _ (List.mem_append_left _ (List.mem_of_getElem? (i := 4) rfl))))) rfl (by decide +kernel) ⟨(Nat.le_of_ble_eq_true rfl), (Nat.le_of_ble_eq_true rfl)⟩) ⟨kW_fb, (kW_go hPc hK hDc)⟩ rfl rfl hl.1 rfl (lv_room (Nat.le_of_ble_eq_true rfl)) dJx4a65c_iterator_32c93_5 ⟨(Nat.le_of_ble_eq_true rfl), (Nat.le_of_ble_eq_true rfl)⟩) hS (fun q _ h => hFc q h) hFc (fun u t H locs ht hvm hw hB hz1 hk1 hS => ?_)
  obtain ⟨hP1, hD1⟩ := hB
  rw [ht] at hP1
  try dsimp only at hw hP1 hD1
  obtain ⟨hP, hD⟩ := va_join (wr := []) (w1 := [(q_1, .inr (0, [.int 0, .int (-1), .int 1, .ref h1])), (h1, .inr (1, [.int 1, x2, x3]))]) hP hD [1, 0] [] rfl rfl (by decide) (by decide) hk1 hFc hP1 hD1
  have hP : va_P D vwCl [(q_1, .inr (0, [.int 0, .int (-1), .int 1, .ref h1])), (h1, .inr (1, [.int 1, x2, x3]))] H := hP
  have hD : va_D A [(q_1, .inr (0, [.int 0, .int (-1), .int 1, .ref h1])), (h1, .inr (1, [.int 1, x2, x3]))] := hD
  refine W.widen (k := 1) (n := 4) (Nat.le_of_ble_eq_true rfl) (Nat.le_of_ble_eq_true rfl) ?_
  have hP9 := hP.sub (ws' := [(h1, .inr (1, [.int 1, x2, x3])), (q_1, .inr (0, [.int 0, .int (-1), .int 1, .ref h1]))]) [1, 0] rfl
  have hD9 := hD.sub (ws' := [(h1, .inr (1, [.int 1, x2, x3])), (q_1, .inr (0, [.int 0, .int (-1), .int 1, .ref h1]))]) [1, 0] (by decide) rfl
  exact W.aret (v := .ref q_1) hx hb hr (Or.inl ⟨_, rfl⟩) (Or.inr ⟨_, rfl⟩) (fun t ht hW => ⟨⟨(q_1), q_1, rfl, trivial, ⟨rfl, by rw [ht]; exact hP9, hD9⟩⟩, hS.F ht⟩) hS.2.2 dJx4a65c_iterator_32c93_8
theorem dJx35411_hasNext_aae02_0 : decode cJx35411_hasNext_aae02 0 = .ok (.aload_n 0, 1) := by decide +kernel
theorem dJx35411_hasNext_aae02_1 : decode cJx35411_hasNext_aae02 1 = .ok (.getfield 25, 3) := by decide +kernel
theorem dJx35411_hasNext_aae02_4 : decode cJx35411_hasNext_aae02 4 = .ok (.aload_n 0, 1) := by decide +kernel
theorem dJx35411_hasNext_aae02_5 : decode cJx35411_hasNext_aae02 5 = .ok (.getfield 1, 3) := by decide +kernel
theorem dJx35411_hasNext_aae02_8 : decode cJx35411_hasNext_aae02 8 = .ok (.getfield 28, 3) := by decide +kernel
theorem dJx35411_hasNext_aae02_11 : decode cJx35411_hasNext_aae02 11 = .ok (.if_icmp .eq 7, 3) := by decide +kernel
theorem dJx35411_hasNext_aae02_14 : decode cJx35411_hasNext_aae02 14 = .ok (.iconst 1, 1) := by decide +kernel
theorem dJx35411_hasNext_aae02_15 : decode cJx35411_hasNext_aae02 15 = .ok (.goto 4, 3) := by decide +kernel
theorem dJx35411_hasNext_aae02_19 : decode cJx35411_hasNext_aae02 19 = .ok (.ireturn, 1) := by decide +kernel
set_option maxHeartbeats 4000000 in
set_option maxRecDepth 100000 in
theorem k_Jx35411_hasNext_aae02 (l : Launch) (hl9 : l.stackTraces = false) (D : va_G) (cy : Nat → ClassId) (de : Nat) (h1 : Nat) (x2 : Value) (x3 : Value) (h4 : Nat) (x5 : Value) (x6 : Value) : Met l yJx35411_hasNext_aae02 wsJx35411_hasNext_aae02 ({ frames := 0, cells := 0, slots := 0, locals := 0 }) (kRY D cy de [.ref h1] [(h1, .inr (0, [.int 0, x2, x3, .ref h4])), (h4, .inr (1, [x5, x6, .int 1]))]) (va_Qi (fun (r : Int32) (_ : Unit) => r = 1 ∧ True) (fun (_ : Unit) (_ : State) => True) (fun _ : Nat => False)) 0 0 (fun _ : Nat => False) := by
  refine Met.ofW (cc := cJx35411_hasNext_aae02) (maxL := 1) (ret := (some .boolean)) (by decide) rfl ?_
  intro p e s m args below meth c s₁ B hml hv
  obtain ⟨rfl, hP, hK, hE, hY⟩ := hv
  have hx := B.exec
  have hb := B.bytes
  have hr := B.returns
  have hts := atoms_spec (ws := wsJx35411_hasNext_aae02) B.pre
  have hown : s.vm.findClass RJx35411 = some m.cls := findClass_of_methodNamed B.named
  have hlocks := B.notSynchronized
  have hS : va_S (fun _ : Nat => False) s.heap s.heap [] := va_S.rf
  have hP : va_P D vwCl [(h1, .inr (0, [.int 0, x2, x3, .ref h4])), (h4, .inr (1, [x5, x6, .int 1]))] s.heap := hP
  have hl := lv_entry ([.ref h1]) (n := 1) (Nat.le_of_ble_eq_true rfl)
  rw [lg_entry_eq]
  generalize (lg_sl ([.ref h1]) ++ List.replicate (1 - (lg_sl ([.ref h1])).length) Slot.unset).toArray = ls at hl ⊢
  have hl : lv_has ls 1 [(0, .ref h1)] := hl
  refine lv_aload_n hx hb dJx35411_hasNext_aae02_0 rfl (lv_at hl 0 rfl) ?_
  refine va_get (D := D) (ci := 0) (v := .int 0) (C := RJx35411) (T := TJx35411) (N := 4) hx hb hts (fun _ h => (List.mem_cons_of_mem _ (List.mem_append_left _ (List.mem_append_right _ h)))) hown hK hP 0 rfl rfl 0 (by decide) (hts (.fieldLink RJx35411 25 "java/util/ArrayList$Itr" "cursor" "I") (List.mem_cons_of_mem _ (List.mem_append_left _ (List.mem_append_left _ (List.mem_of_getElem? (i := 0) rfl))))) (fun _ h9 => h9) rfl dJx35411_hasNext_aae02_1 ?_
  refine lv_aload_n hx hb dJx35411_hasNext_aae02_4 rfl (lv_at hl 0 rfl) ?_
  refine va_get (D := D) (ci := 0) (v := .ref h4) (C := RJx35411) (T := TJx35411) (N := 4) hx hb hts (fun _ h => (List.mem_cons_of_mem _ (List.mem_append_left _ (List.mem_append_right _ h)))) hown hK hP 0 rfl rfl 3 (by decide) (hts (.fieldLink RJx35411 1 "java/util/ArrayList$Itr" "this$0" "Ljava/util/ArrayList;") (List.mem_cons_of_mem _ (List.mem_append_left _ (List.mem_append_left _ (List.mem_of_getElem? (i := 1) rfl))))) (fun _ h9 => h9) rfl dJx35411_hasNext_aae02_5 ?_
  refine va_getN (D := D) (ci := 1) (v := .int 1) (C := RJx4a65c) (T := TJx4a65c) (N := 3) (host := "java/util/ArrayList") hx hb hts (fun _ h => (List.mem_cons_of_mem _ (List.mem_append_right _ h))) hown hK hP 1 rfl rfl 2 (by decide) (va_Nw.use rfl hY.2.2.2.2.1) (fun _ h9 => h9) rfl dJx35411_hasNext_aae02_8 ?_
  refine lv_icmp_eq (tgt := 18) hx hb dJx35411_hasNext_aae02_11 (by decide) (fun h => absurd h (by decide)) (fun _ => ?_)
  refine lv_iconst (v := 1) hx hb dJx35411_hasNext_aae02_14 (by decide) ?_
  refine lv_goto (tgt := 19) hx hb dJx35411_hasNext_aae02_15 (by decide) ?_
  refine W.widen (k := 0) (n := 0) (Nat.le_of_ble_eq_true rfl) (Nat.le_of_ble_eq_true rfl) ?_
  exact W.zret (v := 1) hx hb hr rfl (fun t ht hW => ⟨⟨1, (), rfl, ⟨rfl, trivial⟩, trivial⟩, hS.F ht⟩) hS.2.2 dJx35411_hasNext_aae02_19
theorem dJx35411_checkForComodification_da8c8_0 : decode cJx35411_checkForComodification_da8c8 0 = .ok (.aload_n 0, 1) := by decide +kernel
theorem dJx35411_checkForComodification_da8c8_1 : decode cJx35411_checkForComodification_da8c8 1 = .ok (.getfield 1, 3) := by decide +kernel
theorem dJx35411_checkForComodification_da8c8_4 : decode cJx35411_checkForComodification_da8c8 4 = .ok (.getfield 17, 3) := by decide +kernel
theorem dJx35411_checkForComodification_da8c8_7 : decode cJx35411_checkForComodification_da8c8 7 = .ok (.aload_n 0, 1) := by decide +kernel
theorem dJx35411_checkForComodification_da8c8_8 : decode cJx35411_checkForComodification_da8c8 8 = .ok (.getfield 22, 3) := by decide +kernel
theorem dJx35411_checkForComodification_da8c8_11 : decode cJx35411_checkForComodification_da8c8 11 = .ok (.if_icmp .eq 11, 3) := by decide +kernel
theorem dJx35411_checkForComodification_da8c8_22 : decode cJx35411_checkForComodification_da8c8 22 = .ok (.return_, 1) := by decide +kernel
set_option maxHeartbeats 4000000 in
set_option maxRecDepth 100000 in
theorem k_Jx35411_checkForComodification_da8c8 (l : Launch) (D : va_G) (cy : Nat → ClassId) (h1 : Nat) (x2 : Value) (x3 : Value) (h4 : Nat) (x5 : Value) (x6 : Value) : Met l yJx35411_checkForComodification_da8c8 wsJx35411_checkForComodification_da8c8 ({ frames := 0, cells := 0, slots := 0, locals := 0 }) (kR D cy [.ref h1] [(h1, .inr (0, [x2, x3, .int 1, .ref h4])), (h4, .inr (1, [.int 1, x5, x6]))]) (va_Qv (fun (_ : Unit) => True) (fun (_ : Unit) (_ : State) => True) (fun _ : Nat => False)) 0 0 (fun _ : Nat => False) := by
  refine Met.ofW (cc := cJx35411_checkForComodification_da8c8) (maxL := 1) (ret := none) (by decide) rfl ?_
  intro p e s m args below meth c s₁ B hml hv
  obtain ⟨rfl, hP, hK⟩ := hv
  have hx := B.exec
  have hb := B.bytes
  have hr := B.returns
  have hts := atoms_spec (ws := wsJx35411_checkForComodification_da8c8) B.pre
  have hown : s.vm.findClass RJx35411 = some m.cls := findClass_of_methodNamed B.named
  have hlocks := B.notSynchronized
  have hS : va_S (fun _ : Nat => False) s.heap s.heap [] := va_S.rf
  have hP : va_P D vwCl [(h1, .inr (0, [x2, x3, .int 1, .ref h4])), (h4, .inr (1, [.int 1, x5, x6]))] s.heap := hP
  have hl := lv_entry ([.ref h1]) (n := 1) (Nat.le_of_ble_eq_true rfl)
  rw [lg_entry_eq]
  generalize (lg_sl ([.ref h1]) ++ List.replicate (1 - (lg_sl ([.ref h1])).length) Slot.unset).toArray = ls at hl ⊢
  have hl : lv_has ls 1 [(0, .ref h1)] := hl
  refine lv_aload_n hx hb dJx35411_checkForComodification_da8c8_0 rfl (lv_at hl 0 rfl) ?_
  refine va_get (D := D) (ci := 0) (v := .ref h4) (C := RJx35411) (T := TJx35411) (N := 4) hx hb hts (fun _ h => (List.mem_cons_of_mem _ (List.mem_append_left _ (List.mem_append_right _ h)))) hown hK hP 0 rfl rfl 3 (by decide) (hts (.fieldLink RJx35411 1 "java/util/ArrayList$Itr" "this$0" "Ljava/util/ArrayList;") (List.mem_cons_of_mem _ (List.mem_append_left _ (List.mem_append_left _ (List.mem_of_getElem? (i := 0) rfl))))) (fun _ h9 => h9) rfl dJx35411_checkForComodification_da8c8_1 ?_
  refine va_get (D := D) (ci := 1) (v := .int 1) (C := RJx4a65c) (T := TJx4a65c) (N := 3) hx hb hts (fun _ h => (List.mem_cons_of_mem _ (List.mem_append_right _ h))) hown hK hP 1 rfl rfl 0 (by decide) (hts (.fieldLink RJx35411 17 "java/util/ArrayList" "modCount" "I") (List.mem_cons_of_mem _ (List.mem_append_left _ (List.mem_append_left _ (List.mem_of_getElem? (i := 1) rfl))))) (u_same (hts (.sameField "java/util/ArrayList" "java/util/AbstractList" "modCount" "I") (List.mem_cons_of_mem _ (List.mem_append_left _ (List.mem_append_left _ (List.mem_of_getElem? (i := 2) rfl)))))) rfl dJx35411_checkForComodification_da8c8_4 ?_
  refine lv_aload_n hx hb dJx35411_checkForComodification_da8c8_7 rfl (lv_at hl 0 rfl) ?_
  refine va_get (D := D) (ci := 0) (v := .int 1) (C := RJx35411) (T := TJx35411) (N := 4) hx hb hts (fun _ h => (List.mem_cons_of_mem _ (List.mem_append_left _ (List.mem_append_right _ h)))) hown hK hP 0 rfl rfl 2 (by decide) (hts (.fieldLink RJx35411 22 "java/util/ArrayList$Itr" "expectedModCount" "I") (List.mem_cons_of_mem _ (List.mem_append_left _ (List.mem_append_left _ (List.mem_of_getElem? (i := 3) rfl))))) (fun _ h9 => h9) rfl dJx35411_checkForComodification_da8c8_8 ?_
  refine lv_icmp_eq (tgt := 22) hx hb dJx35411_checkForComodification_da8c8_11 (by decide) (fun _ => ?_) (fun h => absurd (by decide) h)
  refine W.widen (k := 0) (n := 0) (Nat.le_of_ble_eq_true rfl) (Nat.le_of_ble_eq_true rfl) ?_
  exact W.vret hx hb hr (fun t ht hW => ⟨⟨(), rfl, trivial, trivial⟩, hS.F ht⟩) hS.2.2 dJx35411_checkForComodification_da8c8_22
theorem dJx35411_next_0502b_0 : decode cJx35411_next_0502b 0 = .ok (.aload_n 0, 1) := by decide +kernel
theorem dJx35411_next_0502b_1 : decode cJx35411_next_0502b 1 = .ok (.invokevirtual 31, 3) := by decide +kernel
set_option maxRecDepth 20000 in
theorem ggJx35411_next_0502b_Jx35411_checkForComodification_da8c8 : GoodIn wsJx35411_next_0502b wsJx35411_checkForComodification_da8c8 := goodIn_r _ [9, 2, 10, 11, 12, 13, 14, 15, 16, 17, 18, 19] (by decide +kernel) (by decide +kernel)
set_option maxRecDepth 20000 in
theorem gJx35411_next_0502b_Jx35411_checkForComodification_da8c8 : GoodIn wsJx35411_next_0502b (wsV RJx35411 31 RJx35411 yJx35411_checkForComodification_da8c8 wsJx35411_checkForComodification_da8c8) := goodIn_app (goodIn_of _ (by decide +kernel)) ggJx35411_next_0502b_Jx35411_checkForComodification_da8c8
theorem dJx35411_next_0502b_4 : decode cJx35411_next_0502b 4 = .ok (.aload_n 0, 1) := by decide +kernel
theorem dJx35411_next_0502b_5 : decode cJx35411_next_0502b 5 = .ok (.getfield 25, 3) := by decide +kernel
theorem dJx35411_next_0502b_8 : decode cJx35411_next_0502b 8 = .ok (.istore_n 1, 1) := by decide +kernel
theorem dJx35411_next_0502b_9 : decode cJx35411_next_0502b 9 = .ok (.iload_n 1, 1) := by decide +kernel
theorem dJx35411_next_0502b_10 : decode cJx35411_next_0502b 10 = .ok (.aload_n 0, 1) := by decide +kernel
theorem dJx35411_next_0502b_11 : decode cJx35411_next_0502b 11 = .ok (.getfield 1, 3) := by decide +kernel
theorem dJx35411_next_0502b_14 : decode cJx35411_next_0502b 14 = .ok (.getfield 28, 3) := by decide +kernel
theorem dJx35411_next_0502b_17 : decode cJx35411_next_0502b 17 = .ok (.if_icmp .lt 11, 3) := by decide +kernel
theorem dJx35411_next_0502b_28 : decode cJx35411_next_0502b 28 = .ok (.aload_n 0, 1) := by decide +kernel
theorem dJx35411_next_0502b_29 : decode cJx35411_next_0502b 29 = .ok (.getfield 1, 3) := by decide +kernel
theorem dJx35411_next_0502b_32 : decode cJx35411_next_0502b 32 = .ok (.getfield 37, 3) := by decide +kernel
theorem dJx35411_next_0502b_35 : decode cJx35411_next_0502b 35 = .ok (.astore_n 2, 1) := by decide +kernel
theorem dJx35411_next_0502b_36 : decode cJx35411_next_0502b 36 = .ok (.iload_n 1, 1) := by decide +kernel
theorem dJx35411_next_0502b_37 : decode cJx35411_next_0502b 37 = .ok (.aload_n 2, 1) := by decide +kernel
theorem dJx35411_next_0502b_38 : decode cJx35411_next_0502b 38 = .ok (.arraylength, 1) := by decide +kernel
theorem dJx35411_next_0502b_39 : decode cJx35411_next_0502b 39 = .ok (.if_icmp .lt 11, 3) := by decide +kernel
theorem dJx35411_next_0502b_50 : decode cJx35411_next_0502b 50 = .ok (.aload_n 0, 1) := by decide +kernel
theorem dJx35411_next_0502b_51 : decode cJx35411_next_0502b 51 = .ok (.iload_n 1, 1) := by decide +kernel
theorem dJx35411_next_0502b_52 : decode cJx35411_next_0502b 52 = .ok (.iconst 1, 1) := by decide +kernel
theorem dJx35411_next_0502b_53 : decode cJx35411_next_0502b 53 = .ok (.iadd, 1) := by decide +kernel
theorem dJx35411_next_0502b_54 : decode cJx35411_next_0502b 54 = .ok (.putfield 25, 3) := by decide +kernel
theorem dJx35411_next_0502b_57 : decode cJx35411_next_0502b 57 = .ok (.aload_n 2, 1) := by decide +kernel
theorem dJx35411_next_0502b_58 : decode cJx35411_next_0502b 58 = .ok (.aload_n 0, 1) := by decide +kernel
theorem dJx35411_next_0502b_59 : decode cJx35411_next_0502b 59 = .ok (.iload_n 1, 1) := by decide +kernel
theorem dJx35411_next_0502b_60 : decode cJx35411_next_0502b 60 = .ok (.dup_x1, 1) := by decide +kernel
theorem dJx35411_next_0502b_61 : decode cJx35411_next_0502b 61 = .ok (.putfield 13, 3) := by decide +kernel
theorem dJx35411_next_0502b_64 : decode cJx35411_next_0502b 64 = .ok (.aaload, 1) := by decide +kernel
theorem dJx35411_next_0502b_65 : decode cJx35411_next_0502b 65 = .ok (.areturn, 1) := by decide +kernel
set_option maxHeartbeats 4000000 in
set_option maxRecDepth 100000 in
theorem k_Jx35411_next_0502b (l : Launch) (hl9 : l.stackTraces = false) (D : va_G) (cy : Nat → ClassId) (de : Nat) (h1 : Nat) (x2 : Value) (h3 : Nat) (h4 : Nat) (g5 : Nat → Option Nat) (h6 : Nat) (kg5_0 : g5 0 = some h6) (sz : Nat) : Met l yJx35411_next_0502b wsJx35411_next_0502b ({ frames := 1, cells := 0, slots := 0, locals := 20 }) (kWY D cy de [.ref h1] [(h1, .inr (0, [.int 0, x2, .int 1, .ref h3])), (h3, .inr (1, [.int 1, .ref h4, .int 1])), (h4, .inl (cy 7, 10, .inr (.inr (.inr (.inr g5)))))] sz) (va_Qr (fun (_ : Unit) => True) (fun (_ : Unit) (a9 : Nat) (t : State) => a9 = h6 ∧ va_P D vwCl [(h1, .inr (0, [.int 1, .int 0, .int 1, .ref h3])), (h3, .inr (1, [.int 1, .ref h4, .int 1])), (h4, .inl (cy 7, 10, .inr (.inr (.inr (.inr g5)))))] t.heap ∧ va_D (va_A [(h1, .inr (0, [.int 0, x2, .int 1, .ref h3])), (h3, .inr (1, [.int 1, .ref h4, .int 1])), (h4, .inl (cy 7, 10, .inr (.inr (.inr (.inr g5)))))] sz) [(h1, .inr (0, [.int 1, .int 0, .int 1, .ref h3])), (h3, .inr (1, [.int 1, .ref h4, .int 1])), (h4, .inl (cy 7, 10, .inr (.inr (.inr (.inr g5)))))]) (va_A [(h1, .inr (0, [.int 0, x2, .int 1, .ref h3])), (h3, .inr (1, [.int 1, .ref h4, .int 1])), (h4, .inl (cy 7, 10, .inr (.inr (.inr (.inr g5)))))] sz)) 0 0 (va_A [(h1, .inr (0, [.int 0, x2, .int 1, .ref h3])), (h3, .inr (1, [.int 1, .ref h4, .int 1])), (h4, .inl (cy 7, 10, .inr (.inr (.inr (.inr g5)))))] sz) := by
  refine Met.ofW (cc := cJx35411_next_0502b) (maxL := 3) (ret := (some (.object "java/lang/Object"))) (by decide) rfl ?_
  intro p e s m args below meth c s₁ B hml hv
  obtain ⟨rfl, hsz, hP, hK, hD0, hE, hY⟩ := hv
  have hx := B.exec
  have hb := B.bytes
  have hr := B.returns
  have hts := atoms_spec (ws := wsJx35411_next_0502b) B.pre
  have hown : s.vm.findClass RJx35411 = some m.cls := findClass_of_methodNamed B.named
  have hlocks := B.notSynchronized
  subst hsz
  have hD := hD0.self (sz := s.heap.size)
  generalize hAe : va_A [(h1, .inr (0, [.int 0, x2, .int 1, .ref h3])), (h3, .inr (1, [.int 1, .ref h4, .int 1])), (h4, .inl (cy 7, 10, .inr (.inr (.inr (.inr g5)))))] s.heap.size = A at hD hE hY ⊢
  have hA : ∀ q : Nat, s.heap.size ≤ q → A q := fun q h => by rw [← hAe]; exact Or.inr h
  have hS : va_S A s.heap s.heap [] := va_S.rf
  have hP : va_P D vwCl [(h1, .inr (0, [.int 0, x2, .int 1, .ref h3])), (h3, .inr (1, [.int 1, .ref h4, .int 1])), (h4, .inl (cy 7, 10, .inr (.inr (.inr (.inr g5)))))] s.heap := hP
  have hl := lv_entry ([.ref h1]) (n := 3) (Nat.le_of_ble_eq_true rfl)
  rw [lg_entry_eq]
  generalize (lg_sl ([.ref h1]) ++ List.replicate (3 - (lg_sl ([.ref h1])).length) Slot.unset).toArray = ls at hl ⊢
  have hl : lv_has ls 3 [(0, .ref h1)] := hl
  refine lv_aload_n hx hb dJx35411_next_0502b_0 rfl (lv_at hl 0 rfl) ?_
  have hPc := hP.sub (ws' := [(h1, .inr (0, [.int 0, x2, .int 1, .ref h3])), (h3, .inr (1, [.int 1, .ref h4, .int 1]))]) [0, 1] rfl
  refine va_callv (va_runV (As := []) (rest := []) ⟨hx, hb, hml, hown, hts⟩ (k_Jx35411_checkForComodification_da8c8 l D cy h1 (.int 0) (x2) h3 (.ref h4) (.int 1)) (cwV 0 hts gJx35411_next_0502b_Jx35411_checkForComodification_da8c8 rfl rfl rfl (by decide +kernel) ⟨(Nat.le_of_ble_eq_true rfl), (Nat.le_of_ble_eq_true rfl)⟩) ⟨kR_fb, va_recv hK hP (ci := 0) (q0 := 0) rfl rfl, (kR_go hPc hK)⟩ rfl rfl hl.1 rfl (lv_room (Nat.le_of_ble_eq_true rfl)) dJx35411_next_0502b_1 ⟨(Nat.le_of_ble_eq_true rfl), (Nat.le_of_ble_eq_true rfl)⟩) hS (fun _ _ h => h.elim) (fun _ h => h.elim) (fun u t H locs ht hvm hw hB hz1 hk1 hS => ?_)
  have hP := kx_kept hP hk1
  refine lv_aload_n hx hb dJx35411_next_0502b_4 rfl (lv_at hl 0 rfl) ?_
  refine va_get (D := D) (ci := 0) (v := .int 0) (C := RJx35411) (T := TJx35411) (N := 4) hx hb hts (fun _ h => (List.mem_cons_of_mem _ (List.mem_append_left _ (List.mem_append_right _ h)))) hown hK hP 0 rfl rfl 0 (by decide) (hts (.fieldLink RJx35411 25 "java/util/ArrayList$Itr" "cursor" "I") (List.mem_cons_of_mem _ (List.mem_append_left _ (List.mem_append_left _ (List.mem_of_getElem? (i := 0) rfl))))) (fun _ h9 => h9) rfl dJx35411_next_0502b_5 ?_
  refine lv_istore_n (lv' := [(1, .int 0), (0, .ref h1)]) hx hb dJx35411_next_0502b_8 rfl hl (by decide) rfl (fun ls hl => ?_)
  refine lv_iload_n hx hb dJx35411_next_0502b_9 rfl (lv_at hl 0 rfl) ?_
  refine lv_aload_n hx hb dJx35411_next_0502b_10 rfl (lv_at hl 1 rfl) ?_
  refine va_get (D := D) (ci := 0) (v := .ref h3) (C := RJx35411) (T := TJx35411) (N := 4) hx hb hts (fun _ h => (List.mem_cons_of_mem _ (List.mem_append_left _ (List.mem_append_right _ h)))) hown hK hP 0 rfl rfl 3 (by decide) (hts (.fieldLink RJx35411 1 "java/util/ArrayList$Itr" "this$0" "Ljava/util/ArrayList;") (List.mem_cons_of_mem _ (List.mem_append_left _ (List.mem_append_left _ (List.mem_of_getElem? (i := 1) rfl))))) (fun _ h9 => h9) rfl dJx35411_next_0502b_11 ?_
  refine va_getN (D := D) (ci := 1) (v := .int 1) (C := RJx4a65c) (T := TJx4a65c) (N := 3) (host := "java/util/ArrayList") hx hb hts (fun _ h => (List.mem_cons_of_mem _ (List.mem_append_right _ h))) hown hK hP 1 rfl rfl 2 (by decide) (va_Nw.use rfl hY.2.2.2.2.1) (fun _ h9 => h9) rfl dJx35411_next_0502b_14 ?_
  refine lv_icmp_lt (tgt := 28) hx hb dJx35411_next_0502b_17 (by decide) (fun _ => ?_) (fun h => absurd (by decide) h)
  refine lv_aload_n hx hb dJx35411_next_0502b_28 rfl (lv_at hl 1 rfl) ?_
  refine va_get (D := D) (ci := 0) (v := .ref h3) (C := RJx35411) (T := TJx35411) (N := 4) hx hb hts (fun _ h => (List.mem_cons_of_mem _ (List.mem_append_left _ (List.mem_append_right _ h)))) hown hK hP 0 rfl rfl 3 (by decide) (hts (.fieldLink RJx35411 1 "java/util/ArrayList$Itr" "this$0" "Ljava/util/ArrayList;") (List.mem_cons_of_mem _ (List.mem_append_left _ (List.mem_append_left _ (List.mem_of_getElem? (i := 1) rfl))))) (fun _ h9 => h9) rfl dJx35411_next_0502b_29 ?_
  refine va_get (D := D) (ci := 1) (v := .ref h4) (C := RJx4a65c) (T := TJx4a65c) (N := 3) hx hb hts (fun _ h => (List.mem_cons_of_mem _ (List.mem_append_right _ h))) hown hK hP 1 rfl rfl 1 (by decide) (hts (.fieldLink RJx35411 37 "java/util/ArrayList" "elementData" "[Ljava/lang/Object;") (List.mem_cons_of_mem _ (List.mem_append_left _ (List.mem_append_left _ (List.mem_of_getElem? (i := 2) rfl))))) (fun _ h9 => h9) rfl dJx35411_next_0502b_32 ?_
  refine lv_astore_n (lv' := [(2, .ref h4), (1, .int 0), (0, .ref h1)]) hx hb dJx35411_next_0502b_35 rfl hl (by decide) rfl (fun ls hl => ?_)
  refine lv_iload_n hx hb dJx35411_next_0502b_36 rfl (lv_at hl 1 rfl) ?_
  refine lv_aload_n hx hb dJx35411_next_0502b_37 rfl (lv_at hl 0 rfl) ?_
  refine va_alen (v := 10) hx hb hK hP 2 7 rfl rfl rfl dJx35411_next_0502b_38 ?_
  refine lv_icmp_lt (tgt := 50) hx hb dJx35411_next_0502b_39 (by decide) (fun _ => ?_) (fun h => absurd (by decide) h)
  refine lv_aload_n hx hb dJx35411_next_0502b_50 rfl (lv_at hl 2 rfl) ?_
  refine lv_iload_n hx hb dJx35411_next_0502b_51 rfl (lv_at hl 1 rfl) ?_
  refine lv_iconst (v := 1) hx hb dJx35411_next_0502b_52 (by decide) ?_
  refine lv_iadd hx hb dJx35411_next_0502b_53 ?_
  refine lv_topi (fun v_2 ev_2 => ?_)
  obtain rfl : v_2 = 1 := ev_2.trans (by decide)
  refine va_put (D := D) (ci := 0) (v := .int 1) (ty := .int) (C := RJx35411) (T := TJx35411) (N := 4) hx hb hts (fun _ h => (List.mem_cons_of_mem _ (List.mem_append_left _ (List.mem_append_right _ h)))) tyJx35411 tyJx35411_ok nmJx35411 hown hK hP hD hS 0 rfl rfl 0 (by decide) (hts (.fieldLink RJx35411 25 "java/util/ArrayList$Itr" "cursor" "I") (List.mem_cons_of_mem _ (List.mem_append_left _ (List.mem_append_left _ (List.mem_of_getElem? (i := 0) rfl))))) (fun _ h9 => h9) rfl (by decide +kernel) rfl rfl (Nat.le_of_ble_eq_true rfl) dJx35411_next_0502b_54 (fun H locs hP hD hS => ?_)
  have hP : va_P D vwCl [(h1, .inr (0, [.int 1, x2, .int 1, .ref h3])), (h3, .inr (1, [.int 1, .ref h4, .int 1])), (h4, .inl (cy 7, 10, .inr (.inr (.inr (.inr g5)))))] H := hP
  have hD : va_D A [(h1, .inr (0, [.int 1, x2, .int 1, .ref h3])), (h3, .inr (1, [.int 1, .ref h4, .int 1])), (h4, .inl (cy 7, 10, .inr (.inr (.inr (.inr g5)))))] := hD
  refine lv_aload_n hx hb dJx35411_next_0502b_57 rfl (lv_at hl 0 rfl) ?_
  refine lv_aload_n hx hb dJx35411_next_0502b_58 rfl (lv_at hl 2 rfl) ?_
  refine lv_iload_n hx hb dJx35411_next_0502b_59 rfl (lv_at hl 1 rfl) ?_
  refine lv_dup_x1 hx hb dJx35411_next_0502b_60 rfl rfl ?_
  refine va_put (D := D) (ci := 0) (v := .int 0) (ty := .int) (C := RJx35411) (T := TJx35411) (N := 4) hx hb hts (fun _ h => (List.mem_cons_of_mem _ (List.mem_append_left _ (List.mem_append_right _ h)))) tyJx35411 tyJx35411_ok nmJx35411 hown hK hP hD hS 0 rfl rfl 1 (by decide) (hts (.fieldLink RJx35411 13 "java/util/ArrayList$Itr" "lastRet" "I") (List.mem_cons_of_mem _ (List.mem_append_left _ (List.mem_append_left _ (List.mem_of_getElem? (i := 3) rfl))))) (fun _ h9 => h9) rfl (by decide +kernel) rfl rfl (Nat.le_of_ble_eq_true rfl) dJx35411_next_0502b_61 (fun H locs hP hD hS => ?_)
  have hP : va_P D vwCl [(h1, .inr (0, [.int 1, .int 0, .int 1, .ref h3])), (h3, .inr (1, [.int 1, .ref h4, .int 1])), (h4, .inl (cy 7, 10, .inr (.inr (.inr (.inr g5)))))] H := hP
  have hD : va_D A [(h1, .inr (0, [.int 1, .int 0, .int 1, .ref h3])), (h3, .inr (1, [.int 1, .ref h4, .int 1])), (h4, .inl (cy 7, 10, .inr (.inr (.inr (.inr g5)))))] := hD
  refine va_aldq hx hb hK hP 2 7 rfl rfl (kx_in 0 10 rfl ⟨(Nat.le_of_ble_eq_true rfl), (Nat.le_of_ble_eq_true rfl)⟩ (Nat.le_of_ble_eq_true rfl)) dJx35411_next_0502b_64 ?_
  refine kx_rf (a := h6) (kg5_0) ?_
  refine W.widen (k := 0) (n := 0) (Nat.le_of_ble_eq_true rfl) (Nat.le_of_ble_eq_true rfl) ?_
  have hP9 := hP.sub (ws' := [(h1, .inr (0, [.int 1, .int 0, .int 1, .ref h3])), (h3, .inr (1, [.int 1, .ref h4, .int 1])), (h4, .inl (cy 7, 10, .inr (.inr (.inr (.inr g5)))))]) [0, 1, 2] rfl
  have hD9 := hD.sub (ws' := [(h1, .inr (0, [.int 1, .int 0, .int 1, .ref h3])), (h3, .inr (1, [.int 1, .ref h4, .int 1])), (h4, .inl (cy 7, 10, .inr (.inr (.inr (.inr g5)))))]) [0, 1, 2] (by decide) rfl
  exact W.aret (v := .ref h6) hx hb hr (Or.inl ⟨_, rfl⟩) (Or.inr ⟨_, rfl⟩) (fun t ht hW => ⟨⟨(), h6, rfl, trivial, ⟨rfl, by rw [ht]; exact hP9, hD9⟩⟩, hS.F ht⟩) hS.2.2 dJx35411_next_0502b_65
theorem dJx35411_hasNext_aae02_18 : decode cJx35411_hasNext_aae02 18 = .ok (.iconst 0, 1) := by decide +kernel
set_option maxHeartbeats 4000000 in
set_option maxRecDepth 100000 in
theorem k_Jx35411_hasNext_aae02_1 (l : Launch) (hl9 : l.stackTraces = false) (D : va_G) (cy : Nat → ClassId) (de : Nat) (h1 : Nat) (x2 : Value) (x3 : Value) (h4 : Nat) (x5 : Value) (x6 : Value) : Met l yJx35411_hasNext_aae02 wsJx35411_hasNext_aae02 ({ frames := 0, cells := 0, slots := 0, locals := 0 }) (kRY D cy de [.ref h1] [(h1, .inr (0, [.int 1, x2, x3, .ref h4])), (h4, .inr (1, [x5, x6, .int 1]))]) (va_Qi (fun (r : Int32) (_ : Unit) => r = 0 ∧ True) (fun (_ : Unit) (_ : State) => True) (fun _ : Nat => False)) 0 0 (fun _ : Nat => False) := by
  refine Met.ofW (cc := cJx35411_hasNext_aae02) (maxL := 1) (ret := (some .boolean)) (by decide) rfl ?_
  intro p e s m args below meth c s₁ B hml hv
  obtain ⟨rfl, hP, hK, hE, hY⟩ := hv
  have hx := B.exec
  have hb := B.bytes
  have hr := B.returns
  have hts := atoms_spec (ws := wsJx35411_hasNext_aae02) B.pre
  have hown : s.vm.findClass RJx35411 = some m.cls := findClass_of_methodNamed B.named
  have hlocks := B.notSynchronized
  have hS : va_S (fun _ : Nat => False) s.heap s.heap [] := va_S.rf
  have hP : va_P D vwCl [(h1, .inr (0, [.int 1, x2, x3, .ref h4])), (h4, .inr (1, [x5, x6, .int 1]))] s.heap := hP
  have hl := lv_entry ([.ref h1]) (n := 1) (Nat.le_of_ble_eq_true rfl)
  rw [lg_entry_eq]
  generalize (lg_sl ([.ref h1]) ++ List.replicate (1 - (lg_sl ([.ref h1])).length) Slot.unset).toArray = ls at hl ⊢
  have hl : lv_has ls 1 [(0, .ref h1)] := hl
  refine lv_aload_n hx hb dJx35411_hasNext_aae02_0 rfl (lv_at hl 0 rfl) ?_
  refine va_get (D := D) (ci := 0) (v := .int 1) (C := RJx35411) (T := TJx35411) (N := 4) hx hb hts (fun _ h => (List.mem_cons_of_mem _ (List.mem_append_left _ (List.mem_append_right _ h)))) hown hK hP 0 rfl rfl 0 (by decide) (hts (.fieldLink RJx35411 25 "java/util/ArrayList$Itr" "cursor" "I") (List.mem_cons_of_mem _ (List.mem_append_left _ (List.mem_append_left _ (List.mem_of_getElem? (i := 0) rfl))))) (fun _ h9 => h9) rfl dJx35411_hasNext_aae02_1 ?_
  refine lv_aload_n hx hb dJx35411_hasNext_aae02_4 rfl (lv_at hl 0 rfl) ?_
  refine va_get (D := D) (ci := 0) (v := .ref h4) (C := RJx35411) (T := TJx35411) (N := 4) hx hb hts (fun _ h => (List.mem_cons_of_mem _ (List.mem_append_left _ (List.mem_append_right _ h)))) hown hK hP 0 rfl rfl 3 (by decide) (hts (.fieldLink RJx35411 1 "java/util/ArrayList$Itr" "this$0" "Ljava/util/ArrayList;") (List.mem_cons_of_mem _ (List.mem_append_left _ (List.mem_append_left _ (List.mem_of_getElem? (i := 1) rfl))))) (fun _ h9 => h9) rfl dJx35411_hasNext_aae02_5 ?_
  refine va_getN (D := D) (ci := 1) (v := .int 1) (C := RJx4a65c) (T := TJx4a65c) (N := 3) (host := "java/util/ArrayList") hx hb hts (fun _ h => (List.mem_cons_of_mem _ (List.mem_append_right _ h))) hown hK hP 1 rfl rfl 2 (by decide) (va_Nw.use rfl hY.2.2.2.2.1) (fun _ h9 => h9) rfl dJx35411_hasNext_aae02_8 ?_
  refine lv_icmp_eq (tgt := 18) hx hb dJx35411_hasNext_aae02_11 (by decide) (fun _ => ?_) (fun h => absurd (by decide) h)
  refine lv_iconst (v := 0) hx hb dJx35411_hasNext_aae02_18 (by decide) ?_
  refine W.widen (k := 0) (n := 0) (Nat.le_of_ble_eq_true rfl) (Nat.le_of_ble_eq_true rfl) ?_
  exact W.zret (v := 0) hx hb hr rfl (fun t ht hW => ⟨⟨0, (), rfl, ⟨rfl, trivial⟩, trivial⟩, hS.F ht⟩) hS.2.2 dJx35411_hasNext_aae02_19
theorem dX8_rests_0 : decode cX8_rests 0 = .ok (.new 117, 3) := by decide +kernel
theorem dX8_rests_3 : decode cX8_rests 3 = .ok (.dup, 1) := by decide +kernel
theorem dX8_rests_4 : decode cX8_rests 4 = .ok (.invokespecial 126, 3) := by decide +kernel
set_option maxRecDepth 20000 in
theorem ggX8_rests_Jx4a65c_init_da8c8 : GoodIn wsX8_rests wsJx4a65c_init_da8c8 := goodIn_r _ [7, 8, 9, 10, 11, 12, 13, 14, 15, 16, 17, 18, 19, 20, 21, 167, 168, 169] (by decide +kernel) (by decide +kernel)
set_option maxRecDepth 20000 in
theorem gX8_rests_Jx4a65c_init_da8c8 : GoodIn wsX8_rests (wsJx4a65c_init_da8c8) := ggX8_rests_Jx4a65c_init_da8c8
theorem dX8_rests_7 : decode cX8_rests 7 = .ok (.astore_n 1, 1) := by decide +kernel
theorem dX8_rests_8 : decode cX8_rests 8 = .ok (.aload_n 0, 1) := by decide +kernel
theorem dX8_rests_9 : decode cX8_rests 9 = .ok (.invokevirtual 233, 3) := by decide +kernel
set_option maxRecDepth 20000 in
theorem ggX8_rests_X8_all : GoodIn wsX8_rests wsX8_all := goodIn_ca (goodIn_r _ [26, 1, 2, 3, 27, 28, 29, 30, 31, 32, 4, 5, 6, 7, 8, 9, 10, 11, 12, 13, 14, 15, 16, 17, 18, 19, 20, 21, 33, 34, 35, 25, 36, 37, 38, 39, 40, 41, 42, 43, 44, 45, 46, 47, 48, 49, 50, 51, 52, 53, 54, 55, 56, 57, 58, 59, 60, 61, 62, 63, 64, 65, 66, 67, 68, 69, 70, 71, 72, 73, 74, 75, 76, 77, 78, 79, 80, 81, 82, 83, 84, 85, 86, 87, 88, 89, 90, 91, 92, 93, 94, 95, 96, 97, 98, 167, 168, 169, 170, 171, 172, 173, 174, 175, 176, 177, 178, 179, 180, 181, 182, 183, 184, 185, 186, 187] (by decide +kernel) (by decide +kernel)) (goodIn_sub (fun _ h => List.mem_cons_of_mem _ (List.mem_append_left _ (List.mem_append_right _ h))) (by decide +kernel))
set_option maxRecDepth 20000 in
theorem gX8_rests_X8_all : GoodIn wsX8_rests (wsV RX8 233 RX8 yX8_all wsX8_all) := goodIn_app (goodIn_of _ (by decide +kernel)) ggX8_rests_X8_all
theorem dX8_rests_12 : decode cX8_rests 12 = .ok (.invokevirtual 211, 3) := by decide +kernel
set_option maxRecDepth 20000 in
theorem ggX8_rests_Jx4a65c_iterator_32c93 : GoodIn wsX8_rests wsJx4a65c_iterator_32c93 := goodIn_r _ [102, 103, 104, 105, 106, 107, 108, 109, 110, 20, 21, 111, 112, 45, 113, 188, 189, 190, 191, 167, 168, 169] (by decide +kernel) (by decide +kernel)
set_option maxRecDepth 20000 in
theorem gX8_rests_Jx4a65c_iterator_32c93 : GoodIn wsX8_rests (wsV RX8 211 RJx4a65c yJx4a65c_iterator_32c93 wsJx4a65c_iterator_32c93) := goodIn_app (goodIn_of _ (by decide +kernel)) ggX8_rests_Jx4a65c_iterator_32c93
theorem dX8_rests_15 : decode cX8_rests 15 = .ok (.astore_n 2, 1) := by decide +kernel
theorem dX8_rests_16 : decode cX8_rests 16 = .ok (.aload_n 2, 1) := by decide +kernel
theorem dX8_rests_17 : decode cX8_rests 17 = .ok (.invokeinterface 215 1, 5) := by decide +kernel
set_option maxRecDepth 20000 in
theorem ggX8_rests_Jx35411_hasNext_aae02 : GoodIn wsX8_rests wsJx35411_hasNext_aae02 := goodIn_r _ [117, 118, 109, 188, 189, 190, 191, 167, 168, 169] (by decide +kernel) (by decide +kernel)
set_option maxRecDepth 20000 in
theorem gX8_rests_Jx35411_hasNext_aae02_f215Jx35411 : GoodIn wsX8_rests (va_wsF RX8 215 RJx35411 ⟨"java/util/Iterator", "hasNext", "()Z"⟩ yJx35411_hasNext_aae02 wsJx35411_hasNext_aae02) := goodIn_app (goodIn_of _ (by decide +kernel)) ggX8_rests_Jx35411_hasNext_aae02
theorem dX8_rests_22 : decode cX8_rests 22 = .ok (.ifCond .eq 30, 3) := by decide +kernel
theorem dX8_rests_25 : decode cX8_rests 25 = .ok (.aload_n 2, 1) := by decide +kernel
theorem dX8_rests_26 : decode cX8_rests 26 = .ok (.invokeinterface 220 1, 5) := by decide +kernel
set_option maxRecDepth 20000 in
theorem ggX8_rests_Jx35411_next_0502b : GoodIn wsX8_rests wsJx35411_next_0502b := goodIn_r _ [122, 118, 109, 123, 111, 124, 125, 126, 105, 127, 112, 45, 113, 188, 189, 190, 191, 167, 168, 169] (by decide +kernel) (by decide +kernel)
set_option maxRecDepth 20000 in
theorem gX8_rests_Jx35411_next_0502b_f220Jx35411 : GoodIn wsX8_rests (va_wsF RX8 220 RJx35411 ⟨"java/util/Iterator", "next", "()Ljava/lang/Object;"⟩ yJx35411_next_0502b wsJx35411_next_0502b) := goodIn_app (goodIn_of _ (by decide +kernel)) ggX8_rests_Jx35411_next_0502b
theorem dX8_rests_31 : decode cX8_rests 31 = .ok (.checkcast 156, 3) := by decide +kernel
theorem dX8_rests_34 : decode cX8_rests 34 = .ok (.astore_n 3, 1) := by decide +kernel
theorem dX8_rests_35 : decode cX8_rests 35 = .ok (.aload_n 0, 1) := by decide +kernel
theorem dX8_rests_36 : decode cX8_rests 36 = .ok (.aload_n 3, 1) := by decide +kernel
theorem dX8_rests_37 : decode cX8_rests 37 = .ok (.invokevirtual 201, 3) := by decide +kernel
set_option maxRecDepth 20000 in
theorem ggX8_rests_X8_greatest : GoodIn wsX8_rests wsX8_greatest := goodIn_ca (goodIn_ca (goodIn_r _ [131, 37, 132, 60, 61, 62, 133, 134, 135, 25, 136, 38, 39, 137, 138, 139, 140, 93, 94, 95, 96, 97, 98, 141, 142, 143, 144, 145, 146, 147, 148, 149, 150, 151, 152, 153, 154, 155, 156, 157, 158, 159, 160, 161, 162, 163, 164, 165, 166, 28, 29, 30, 31, 32, 4, 170, 171, 172, 173, 174, 175, 176, 177, 178, 179, 180, 181, 182, 183, 184, 185, 186, 187] (by decide +kernel) (by decide +kernel)) (goodIn_sub (fun _ h => List.mem_cons_of_mem _ (List.mem_append_left _ (List.mem_append_right _ h))) (by decide +kernel))) (goodIn_sub (fun _ h => List.mem_cons_of_mem _ (List.mem_append_right _ h)) (by decide +kernel))
set_option maxRecDepth 20000 in
theorem gX8_rests_X8_greatest : GoodIn wsX8_rests (wsV RX8 201 RX8 yX8_greatest wsX8_greatest) := goodIn_app (goodIn_of _ (by decide +kernel)) ggX8_rests_X8_greatest
theorem dX8_rests_40 : decode cX8_rests 40 = .ok (.ifCond .ne 9, 3) := by decide +kernel
theorem dX8_rests_43 : decode cX8_rests 43 = .ok (.aload_n 1, 1) := by decide +kernel
theorem dX8_rests_44 : decode cX8_rests 44 = .ok (.aload_n 3, 1) := by decide +kernel
theorem dX8_rests_45 : decode cX8_rests 45 = .ok (.invokevirtual 116, 3) := by decide +kernel
set_option maxRecDepth 20000 in
theorem ggX8_rests_Jx4a65c_add_9ea2d : GoodIn wsX8_rests wsJx4a65c_add_9ea2d := goodIn_r _ [43, 44, 45, 9, 46, 47, 48, 49, 3, 50, 51, 52, 53, 54, 55, 56, 57, 58, 8, 59, 60, 61, 62, 63, 64, 65, 66, 67, 68, 69, 70, 71, 72, 73, 74, 75, 76, 77, 78, 79, 80, 81, 82, 83, 84, 85, 86, 87, 88, 89, 90, 91, 92, 167, 168, 169] (by decide +kernel) (by decide +kernel)
set_option maxRecDepth 20000 in
theorem gX8_rests_Jx4a65c_add_9ea2d : GoodIn wsX8_rests (wsV RX8 116 RJx4a65c yJx4a65c_add_9ea2d wsJx4a65c_add_9ea2d) := goodIn_app (goodIn_of _ (by decide +kernel)) ggX8_rests_Jx4a65c_add_9ea2d
theorem dX8_rests_48 : decode cX8_rests 48 = .ok (.pop, 1) := by decide +kernel
theorem dX8_rests_49 : decode cX8_rests 49 = .ok (.goto (-33), 3) := by decide +kernel
theorem dX8_rests_52 : decode cX8_rests 52 = .ok (.aload_n 1, 1) := by decide +kernel
theorem dX8_rests_53 : decode cX8_rests 53 = .ok (.areturn, 1) := by decide +kernel
set_option maxHeartbeats 4000000 in
set_option maxRecDepth 100000 in
theorem k_X8_rests (l : Launch) (hl9 : l.stackTraces = false) (D : va_G) (cy : Nat → ClassId) (de : Nat) (h1 : Nat) (x2 : Value) (x3 : Value) (x4 : Value) (x5 : Value) (x6 : Value) (x7 : Value) (x8 : Value) (x9 : Value) (x10 : Value) (x11 : Value) (x12 : Value) (x13 : Value) (h14 : Nat) (x15 : Value) (x16 : Value) (x17 : Value) (x18 : Value) (g19 : Nat → Int32) (sz : Nat) : Met l yX8_rests wsX8_rests ({ frames := 7, cells := 7, slots := 42, locals := 147 }) (kWY D cy de [.ref h1] [(h1, .inr (10, [x2, x3, x4, x5, x6, x7, x8, x9, x10, x11, x12, x13, .ref h14, x15, x16, .int 0, x17, x18])), (h14, .inl (cy 1, 6, .inl g19))] sz) (va_Qr (fun (u : Nat × Nat × (Nat → Option Nat) × Nat) => match u with | (z1, z2, u3, z4) => (u3 0 = some z4) ∧ True) (fun (u : Nat × Nat × (Nat → Option Nat) × Nat) (a9 : Nat) (t : State) => match u with | (z1, z2, u3, z4) => a9 = z1 ∧ va_P D vwCl [(h1, .inr (10, [x2, x3, x4, x5, x6, x7, x8, x9, x10, x11, x12, x13, .ref h14, x15, x16, .int 0, x17, x18])), (h14, .inl (cy 1, 6, .inl g19)), (z1, .inr (1, [.int 1, .ref z2, .int 1])), (z2, .inl (cy 7, 10, .inr (.inr (.inr (.inr u3))))), (z4, .inl (cy 1, 6, .inl g19))] t.heap ∧ va_D (va_A [(h1, .inr (10, [x2, x3, x4, x5, x6, x7, x8, x9, x10, x11, x12, x13, .ref h14, x15, x16, .int 0, x17, x18])), (h14, .inl (cy 1, 6, .inl g19))] sz) [(h1, .inr (10, [x2, x3, x4, x5, x6, x7, x8, x9, x10, x11, x12, x13, .ref h14, x15, x16, .int 0, x17, x18])), (h14, .inl (cy 1, 6, .inl g19)), (z1, .inr (1, [.int 1, .ref z2, .int 1])), (z2, .inl (cy 7, 10, .inr (.inr (.inr (.inr u3))))), (z4, .inl (cy 1, 6, .inl g19))]) (va_A [(h1, .inr (10, [x2, x3, x4, x5, x6, x7, x8, x9, x10, x11, x12, x13, .ref h14, x15, x16, .int 0, x17, x18])), (h14, .inl (cy 1, 6, .inl g19))] sz)) 7 42 (va_A [(h1, .inr (10, [x2, x3, x4, x5, x6, x7, x8, x9, x10, x11, x12, x13, .ref h14, x15, x16, .int 0, x17, x18])), (h14, .inl (cy 1, 6, .inl g19))] sz) := by
  refine Met.ofW (cc := cX8_rests) (maxL := 4) (ret := (some (.object "java/util/ArrayList"))) (by decide) rfl ?_
  intro p e s m args below meth c s₁ B hml hv
  obtain ⟨rfl, hsz, hP, hK, hD0, hE, hY⟩ := hv
  have hx := B.exec
  have hb := B.bytes
  have hr := B.returns
  have hts := atoms_spec (ws := wsX8_rests) B.pre
  have hown : s.vm.findClass RX8 = some m.cls := findClass_of_methodNamed B.named
  have hlocks := B.notSynchronized
  subst hsz
  have hD := hD0.self (sz := s.heap.size)
  generalize hAe : va_A [(h1, .inr (10, [x2, x3, x4, x5, x6, x7, x8, x9, x10, x11, x12, x13, .ref h14, x15, x16, .int 0, x17, x18])), (h14, .inl (cy 1, 6, .inl g19))] s.heap.size = A at hD hE hY ⊢
  have hA : ∀ q : Nat, s.heap.size ≤ q → A q := fun q h => by rw [← hAe]; exact Or.inr h
  have hS : va_S A s.heap s.heap [] := va_S.rf
  have hP : va_P D vwCl [(h1, .inr (10, [x2, x3, x4, x5, x6, x7, x8, x9, x10, x11, x12, x13, .ref h14, x15, x16, .int 0, x17, x18])), (h14, .inl (cy 1, 6, .inl g19))] s.heap := hP
  have hl := lv_entry ([.ref h1]) (n := 4) (Nat.le_of_ble_eq_true rfl)
  rw [lg_entry_eq]
  generalize (lg_sl ([.ref h1]) ++ List.replicate (4 - (lg_sl ([.ref h1])).length) Slot.unset).toArray = ls at hl ⊢
  have hl : lv_has ls 4 [(0, .ref h1)] := hl
  refine va_new (ci := 1) (fs := [.int 0, .null, .int 0]) (C := RJx4a65c) (T := TJx4a65c) (N := 3) hx hb hts (fun _ h => (List.mem_cons_of_mem _ (List.mem_append_left _ (List.mem_append_left _ (List.mem_append_left _ (List.mem_append_left _ (List.mem_append_right _ h))))))) tyJx4a65c tyJx4a65c_ok hown (hts (.classLink RX8 117 RJx4a65c) (List.mem_cons_of_mem _ (List.mem_append_left _ (List.mem_append_left _ (List.mem_append_left _ (List.mem_append_left _ (List.mem_append_left _ (List.mem_append_left _ (List.mem_of_getElem? (i := 0) rfl))))))))) (hts (.instantiable RJx4a65c 3) (List.mem_cons_of_mem _ (List.mem_append_left _ (List.mem_append_left _ (List.mem_append_left _ (List.mem_append_left _ (List.mem_append_left _ (List.mem_append_left _ (List.mem_of_getElem? (i := 1) rfl))))))))) (hts (.initialized RJx4a65c) (List.mem_cons_of_mem _ (List.mem_append_left _ (List.mem_append_left _ (List.mem_append_left _ (List.mem_append_left _ (List.mem_append_left _ (List.mem_append_left _ (List.mem_of_getElem? (i := 2) rfl))))))))) hK hP hD hS hA rfl (fun j hj => by rcases (show j = 0 ∨ j = 1 ∨ j = 2 by omega) with rfl | rfl | rfl <;> rfl) (Nat.le_of_ble_eq_true rfl) (Nat.le_of_ble_eq_true rfl) dX8_rests_0 (fun q_1 H hP hD hS => ?_)
  have hP : va_P D vwCl [(h1, .inr (10, [x2, x3, x4, x5, x6, x7, x8, x9, x10, x11, x12, x13, .ref h14, x15, x16, .int 0, x17, x18])), (h14, .inl (cy 1, 6, .inl g19)), (q_1, .inr (1, [.int 0, .null, .int 0]))] H := hP
  have hD : va_D A [(h1, .inr (10, [x2, x3, x4, x5, x6, x7, x8, x9, x10, x11, x12, x13, .ref h14, x15, x16, .int 0, x17, x18])), (h14, .inl (cy 1, 6, .inl g19)), (q_1, .inr (1, [.int 0, .null, .int 0]))] := hD
  refine W.widen (k := 1) (n := 3) (Nat.le_of_ble_eq_true rfl) (Nat.le_of_ble_eq_true rfl) ?_
  refine lv_dup hx hb dX8_rests_3 rfl ?_
  have hPc := hP.sub (ws' := [(q_1, .inr (1, [.int 0, .null, .int 0]))]) [2] rfl
  have hDc := hD.sub (ws' := [(q_1, .inr (1, [.int 0, .null, .int 0]))]) [2] (by decide) rfl
  have hFc := va_free (wc := [(q_1, .inr (1, [.int 0, .null, .int 0]))]) hD hS hA [2] rfl
  refine va_callv (va_runI (As := []) (rest := [.ref q_1]) ⟨hx, hb, hml, hown, hts⟩ (k_Jx4a65c_init_da8c8 l hl9 D cy de q_1 (.int 0) (.null) (.int 0) H.size) (cwI 0 hts gX8_rests_Jx4a65c_init_da8c8 rfl rfl rfl (hts (.initialized RJx4a65c) (List.mem_cons_of_mem _ (List.mem_append_left _ (List.mem_append_left _ (List.mem_append_left _ (List.mem_append_left _ (List.mem_append_left _ (List.mem_append_left _ (List.mem_of_getElem? (i := 2) rfl))))))))) (hts (.methodLink RX8 126 yJx4a65c_init_da8c8) (List.mem_cons_of_mem _ (List.mem_append_left _ (List.mem_append_left _ (List.mem_append_left _ (List.mem_append_left _ (List.mem_append_left _ (List.mem_append_left _ (List.mem_of_getElem? (i := 4) rfl))))))))) (hts (.instanceMethod yJx4a65c_init_da8c8) (List.mem_cons_of_mem _ (List.mem_append_left _ (List.mem_append_left _ (List.mem_append_left _ (List.mem_append_left _ (List.mem_append_left _ (List.mem_append_left _ (List.mem_of_getElem? (i := 5) rfl))))))))) rfl (by decide +kernel) ⟨(Nat.le_of_ble_eq_true rfl), (Nat.le_of_ble_eq_true rfl)⟩) ⟨kWY_fb, (kWY_go hPc hK hDc hFc hE hY hS)⟩ rfl rfl hl.1 rfl (lv_room (Nat.le_of_ble_eq_true rfl)) dX8_rests_4 ⟨(Nat.le_of_ble_eq_true rfl), (Nat.le_of_ble_eq_true rfl)⟩) hS (fun q _ h => hFc q h) hFc (fun u t H locs ht hvm hw hB hz1 hk1 hS => ?_)
  obtain ⟨hP1, hD1⟩ := hB
  rw [ht] at hP1
  try dsimp only at hw hP1 hD1
  obtain ⟨hP, hD⟩ := va_join (wr := [(h1, .inr (10, [x2, x3, x4, x5, x6, x7, x8, x9, x10, x11, x12, x13, .ref h14, x15, x16, .int 0, x17, x18])), (h14, .inl (cy 1, 6, .inl g19))]) (w1 := [(q_1, .inr (1, [.int 0, .ref de, .int 0]))]) hP hD [2] [0, 1] rfl rfl (by decide) (by decide) hk1 hFc hP1 hD1
  have hP : va_P D vwCl [(h1, .inr (10, [x2, x3, x4, x5, x6, x7, x8, x9, x10, x11, x12, x13, .ref h14, x15, x16, .int 0, x17, x18])), (h14, .inl (cy 1, 6, .inl g19)), (q_1, .inr (1, [.int 0, .ref de, .int 0]))] H := hP
  have hD : va_D A [(h1, .inr (10, [x2, x3, x4, x5, x6, x7, x8, x9, x10, x11, x12, x13, .ref h14, x15, x16, .int 0, x17, x18])), (h14, .inl (cy 1, 6, .inl g19)), (q_1, .inr (1, [.int 0, .ref de, .int 0]))] := hD
  refine lv_astore_n (lv' := [(1, .ref q_1), (0, .ref h1)]) hx hb dX8_rests_7 rfl hl (by decide) rfl (fun ls hl => ?_)
  refine lv_aload_n hx hb dX8_rests_8 rfl (lv_at hl 1 rfl) ?_
  have hPc := hP.sub (ws' := [(h1, .inr (10, [x2, x3, x4, x5, x6, x7, x8, x9, x10, x11, x12, x13, .ref h14, x15, x16, .int 0, x17, x18])), (h14, .inl (cy 1, 6, .inl g19))]) [0, 1] rfl
  have hDc := hD.sub (ws' := [(h1, .inr (10, [x2, x3, x4, x5, x6, x7, x8, x9, x10, x11, x12, x13, .ref h14, x15, x16, .int 0, x17, x18])), (h14, .inl (cy 1, 6, .inl g19))]) [0, 1] (by decide) rfl
  have hFc := va_free (wc := [(h1, .inr (10, [x2, x3, x4, x5, x6, x7, x8, x9, x10, x11, x12, x13, .ref h14, x15, x16, .int 0, x17, x18])), (h14, .inl (cy 1, 6, .inl g19))]) hD hS hA [0, 1] rfl
  refine va_callr (va_runV (As := []) (rest := []) ⟨hx, hb, hml, hown, hts⟩ (k_X8_all l hl9 D cy de h1 (x2) (x3) (x4) (x5) (x6) (x7) (x8) (x9) (x10) (x11) (x12) (x13) h14 (x15) (x16) (x17) (x18) g19 H.size) (cwV 0 hts gX8_rests_X8_all rfl rfl rfl (by decide +kernel) ⟨(Nat.le_of_ble_eq_true rfl), (Nat.le_of_ble_eq_true rfl)⟩) ⟨kWY_fb, va_recv hK hP (ci := 10) (q0 := 0) rfl rfl, (kWY_go hPc hK hDc hFc hE hY hS)⟩ rfl rfl hl.1 rfl (lv_room (Nat.le_of_ble_eq_true rfl)) dX8_rests_9 ⟨(Nat.le_of_ble_eq_true rfl), (Nat.le_of_ble_eq_true rfl)⟩) hS (fun q _ h => hFc q h) hFc (fun u r9 t H locs ht hvm hw hB hz1 hk1 hS => ?_)
  obtain ⟨z_3, z_4, u_5, z_6⟩ := u
  obtain ⟨e9, hB⟩ := hB
  have e9 := e9.symm
  subst e9
  obtain ⟨hP1, hD1⟩ := hB
  rw [ht] at hP1
  try dsimp only at hw hP1 hD1
  obtain ⟨hP, hD⟩ := va_join (wr := [(q_1, .inr (1, [.int 0, .ref de, .int 0]))]) (w1 := [(h1, .inr (10, [x2, x3, x4, x5, x6, x7, x8, x9, x10, x11, x12, x13, .ref h14, x15, x16, .int 0, x17, x18])), (h14, .inl (cy 1, 6, .inl g19)), (z_3, .inr (1, [.int 1, .ref z_4, .int 1])), (z_4, .inl (cy 7, 10, .inr (.inr (.inr (.inr u_5))))), (z_6, .inl (cy 1, 6, .inl g19))]) hP hD [0, 1] [2] rfl rfl (by decide) (by decide) hk1 hFc hP1 hD1
  have hP : va_P D vwCl [(q_1, .inr (1, [.int 0, .ref de, .int 0])), (h1, .inr (10, [x2, x3, x4, x5, x6, x7, x8, x9, x10, x11, x12, x13, .ref h14, x15, x16, .int 0, x17, x18])), (h14, .inl (cy 1, 6, .inl g19)), (z_3, .inr (1, [.int 1, .ref z_4, .int 1])), (z_4, .inl (cy 7, 10, .inr (.inr (.inr (.inr u_5))))), (z_6, .inl (cy 1, 6, .inl g19))] H := hP
  have hD : va_D A [(q_1, .inr (1, [.int 0, .ref de, .int 0])), (h1, .inr (10, [x2, x3, x4, x5, x6, x7, x8, x9, x10, x11, x12, x13, .ref h14, x15, x16, .int 0, x17, x18])), (h14, .inl (cy 1, 6, .inl g19)), (z_3, .inr (1, [.int 1, .ref z_4, .int 1])), (z_4, .inl (cy 7, 10, .inr (.inr (.inr (.inr u_5))))), (z_6, .inl (cy 1, 6, .inl g19))] := hD
  refine W.widen (k := 5) (n := 28) (Nat.le_of_ble_eq_true rfl) (Nat.le_of_ble_eq_true rfl) ?_
  obtain ⟨kf_7, hw⟩ := hw
  have hPc := hP.sub (ws' := [(z_3, .inr (1, [.int 1, .ref z_4, .int 1]))]) [3] rfl
  have hDc := hD.sub (ws' := [(z_3, .inr (1, [.int 1, .ref z_4, .int 1]))]) [3] (by decide) rfl
  have hFc := va_free (wc := [(z_3, .inr (1, [.int 1, .ref z_4, .int 1]))]) hD hS hA [3] rfl
  refine va_callr (va_runV (As := []) (rest := []) ⟨hx, hb, hml, hown, hts⟩ (k_Jx4a65c_iterator_32c93 l D cy z_3 (.ref z_4) (.int 1) H.size) (cwV 0 hts gX8_rests_Jx4a65c_iterator_32c93 rfl rfl rfl (by decide +kernel) ⟨(Nat.le_of_ble_eq_true rfl), (Nat.le_of_ble_eq_true rfl)⟩) ⟨kW_fb, va_recv hK hP (ci := 1) (q0 := 3) rfl rfl, (kW_go hPc hK hDc)⟩ rfl rfl hl.1 rfl (lv_room (Nat.le_of_ble_eq_true rfl)) dX8_rests_12 ⟨(Nat.le_of_ble_eq_true rfl), (Nat.le_of_ble_eq_true rfl)⟩) hS (fun q _ h => hFc q h) hFc (fun u r9 t H locs ht hvm hw hB hz1 hk1 hS => ?_)
  obtain ⟨z_9, rfl⟩ : ∃ z, z = u := ⟨_, rfl⟩
  obtain ⟨e9, hB⟩ := hB
  have e9 := e9.symm
  subst e9
  obtain ⟨hP1, hD1⟩ := hB
  rw [ht] at hP1
  try dsimp only at hw hP1 hD1
  obtain ⟨hP, hD⟩ := va_join (wr := [(q_1, .inr (1, [.int 0, .ref de, .int 0])), (h1, .inr (10, [x2, x3, x4, x5, x6, x7, x8, x9, x10, x11, x12, x13, .ref h14, x15, x16, .int 0, x17, x18])), (h14, .inl (cy 1, 6, .inl g19)), (z_4, .inl (cy 7, 10, .inr (.inr (.inr (.inr u_5))))), (z_6, .inl (cy 1, 6, .inl g19))]) (w1 := [(z_3, .inr (1, [.int 1, .ref z_4, .int 1])), (z_9, .inr (0, [.int 0, .int (-1), .int 1, .ref z_3]))]) hP hD [3] [0, 1, 2, 4, 5] rfl rfl (by decide) (by decide) hk1 hFc hP1 hD1
  have hP : va_P D vwCl [(q_1, .inr (1, [.int 0, .ref de, .int 0])), (h1, .inr (10, [x2, x3, x4, x5, x6, x7, x8, x9, x10, x11, x12, x13, .ref h14, x15, x16, .int 0, x17, x18])), (h14, .inl (cy 1, 6, .inl g19)), (z_4, .inl (cy 7, 10, .inr (.inr (.inr (.inr u_5))))), (z_6, .inl (cy 1, 6, .inl g19)), (z_3, .inr (1, [.int 1, .ref z_4, .int 1])), (z_9, .inr (0, [.int 0, .int (-1), .int 1, .ref z_3]))] H := hP
  have hD : va_D A [(q_1, .inr (1, [.int 0, .ref de, .int 0])), (h1, .inr (10, [x2, x3, x4, x5, x6, x7, x8, x9, x10, x11, x12, x13, .ref h14, x15, x16, .int 0, x17, x18])), (h14, .inl (cy 1, 6, .inl g19)), (z_4, .inl (cy 7, 10, .inr (.inr (.inr (.inr u_5))))), (z_6, .inl (cy 1, 6, .inl g19)), (z_3, .inr (1, [.int 1, .ref z_4, .int 1])), (z_9, .inr (0, [.int 0, .int (-1), .int 1, .ref z_3]))] := hD
  refine W.widen (k := 6) (n := 32) (Nat.le_of_ble_eq_true rfl) (Nat.le_of_ble_eq_true rfl) ?_
  refine lv_astore_n (lv' := [(2, .ref z_9), (1, .ref q_1), (0, .ref h1)]) hx hb dX8_rests_15 rfl hl (by decide) rfl (fun ls hl => ?_)
  refine lv_aload_n hx hb dX8_rests_16 rfl (lv_at hl 0 rfl) ?_
  have hPc := hP.sub (ws' := [(z_9, .inr (0, [.int 0, .int (-1), .int 1, .ref z_3])), (z_3, .inr (1, [.int 1, .ref z_4, .int 1]))]) [6, 5] rfl
  refine va_callFi (va_runF (hK.1 0 _ rfl).2 (As := []) (rest := []) ⟨hx, hb, hml, hown, hts⟩ (k_Jx35411_hasNext_aae02 l hl9 D cy de z_9 (.int (-1)) (.int 1) z_3 (.int 1) (.ref z_4)) (va_cwF 0 hts gX8_rests_Jx35411_hasNext_aae02_f215Jx35411 rfl rfl rfl hY.2.2.1 (by decide +kernel) ⟨(Nat.le_of_ble_eq_true rfl), (Nat.le_of_ble_eq_true rfl)⟩) ⟨kRY_fb, va_recv hK hP (ci := 0) (q0 := 6) rfl rfl, (kRY_go hPc hK hE hY hS)⟩ rfl rfl hl.1 rfl (lv_room (Nat.le_of_ble_eq_true rfl)) dX8_rests_17 ⟨(Nat.le_of_ble_eq_true rfl), (Nat.le_of_ble_eq_true rfl)⟩) hS (fun _ _ h => h.elim) (fun _ h => h.elim) (fun r9 u t H locs ht hvm hw hB hz1 hk1 hS => ?_)
  have hP := kx_kept hP hk1
  obtain ⟨rfl, hw⟩ := hw
  refine lv_if_eq (tgt := 52) hx hb dX8_rests_22 (by decide) (fun h => absurd h (by decide)) (fun _ => ?_)
  refine lv_aload_n hx hb dX8_rests_25 rfl (lv_at hl 0 rfl) ?_
  have hPc := hP.sub (ws' := [(z_9, .inr (0, [.int 0, .int (-1), .int 1, .ref z_3])), (z_3, .inr (1, [.int 1, .ref z_4, .int 1])), (z_4, .inl (cy 7, 10, .inr (.inr (.inr (.inr u_5)))))]) [6, 5, 3] rfl
  have hDc := hD.sub (ws' := [(z_9, .inr (0, [.int 0, .int (-1), .int 1, .ref z_3])), (z_3, .inr (1, [.int 1, .ref z_4, .int 1])), (z_4, .inl (cy 7, 10, .inr (.inr (.inr (.inr u_5)))))]) [6, 5, 3] (by decide) rfl
  have hFc := va_free (wc := [(z_9, .inr (0, [.int 0, .int (-1), .int 1, .ref z_3])), (z_3, .inr (1, [.int 1, .ref z_4, .int 1])), (z_4, .inl (cy 7, 10, .inr (.inr (.inr (.inr u_5)))))]) hD hS hA [6, 5, 3] rfl
  refine va_callFr (va_runF (hK.1 0 _ rfl).2 (As := []) (rest := []) ⟨hx, hb, hml, hown, hts⟩ (k_Jx35411_next_0502b l hl9 D cy de z_9 (.int (-1)) z_3 z_4 u_5 z_6 (kf_7) H.size) (va_cwF 0 hts gX8_rests_Jx35411_next_0502b_f220Jx35411 rfl rfl rfl hY.2.2.2.1 (by decide +kernel) ⟨(Nat.le_of_ble_eq_true rfl), (Nat.le_of_ble_eq_true rfl)⟩) ⟨kWY_fb, va_recv hK hP (ci := 0) (q0 := 6) rfl rfl, (kWY_go hPc hK hDc hFc hE hY hS)⟩ rfl rfl hl.1 rfl (lv_room (Nat.le_of_ble_eq_true rfl)) dX8_rests_26 ⟨(Nat.le_of_ble_eq_true rfl), (Nat.le_of_ble_eq_true rfl)⟩) hS (fun q _ h => hFc q h) hFc (fun u r9 t H locs ht hvm hw hB hz1 hk1 hS => ?_)
  obtain ⟨e9, hB⟩ := hB
  have e9 := e9.symm
  subst e9
  obtain ⟨hP1, hD1⟩ := hB
  rw [ht] at hP1
  try dsimp only at hw hP1 hD1
  obtain ⟨hP, hD⟩ := va_join (wr := [(q_1, .inr (1, [.int 0, .ref de, .int 0])), (h1, .inr (10, [x2, x3, x4, x5, x6, x7, x8, x9, x10, x11, x12, x13, .ref h14, x15, x16, .int 0, x17, x18])), (h14, .inl (cy 1, 6, .inl g19)), (z_6, .inl (cy 1, 6, .inl g19))]) (w1 := [(z_9, .inr (0, [.int 1, .int 0, .int 1, .ref z_3])), (z_3, .inr (1, [.int 1, .ref z_4, .int 1])), (z_4, .inl (cy 7, 10, .inr (.inr (.inr (.inr u_5)))))]) hP hD [6, 5, 3] [0, 1, 2, 4] rfl rfl (by decide) (by decide) hk1 hFc hP1 hD1
  have hP : va_P D vwCl [(q_1, .inr (1, [.int 0, .ref de, .int 0])), (h1, .inr (10, [x2, x3, x4, x5, x6, x7, x8, x9, x10, x11, x12, x13, .ref h14, x15, x16, .int 0, x17, x18])), (h14, .inl (cy 1, 6, .inl g19)), (z_6, .inl (cy 1, 6, .inl g19)), (z_9, .inr (0, [.int 1, .int 0, .int 1, .ref z_3])), (z_3, .inr (1, [.int 1, .ref z_4, .int 1])), (z_4, .inl (cy 7, 10, .inr (.inr (.inr (.inr u_5)))))] H := hP
  have hD : va_D A [(q_1, .inr (1, [.int 0, .ref de, .int 0])), (h1, .inr (10, [x2, x3, x4, x5, x6, x7, x8, x9, x10, x11, x12, x13, .ref h14, x15, x16, .int 0, x17, x18])), (h14, .inl (cy 1, 6, .inl g19)), (z_6, .inl (cy 1, 6, .inl g19)), (z_9, .inr (0, [.int 1, .int 0, .int 1, .ref z_3])), (z_3, .inr (1, [.int 1, .ref z_4, .int 1])), (z_4, .inl (cy 7, 10, .inr (.inr (.inr (.inr u_5)))))] := hD
  refine va_castA hx hb hown (hts (.classLink RX8 156 "[I") (List.mem_cons_of_mem _ (List.mem_append_left _ (List.mem_append_left _ (List.mem_append_left _ (List.mem_append_left _ (List.mem_append_left _ (List.mem_append_left _ (List.mem_of_getElem? (i := 3) rfl))))))))) hP 3 rfl (va_nm_int (hK.2 1 _ rfl).2) dX8_rests_31 ?_
  refine lv_astore_n (lv' := [(3, .ref z_6), (2, .ref z_9), (1, .ref q_1), (0, .ref h1)]) hx hb dX8_rests_34 rfl hl (by decide) rfl (fun ls hl => ?_)
  refine lv_aload_n hx hb dX8_rests_35 rfl (lv_at hl 3 rfl) ?_
  refine lv_aload_n hx hb dX8_rests_36 rfl (lv_at hl 0 rfl) ?_
  have hPc := hP.sub (ws' := [(h1, .inr (10, [x2, x3, x4, x5, x6, x7, x8, x9, x10, x11, x12, x13, .ref h14, x15, x16, .int 0, x17, x18]))]) [1] rfl
  refine va_calli (va_runV (As := [.ref z_6]) (rest := []) ⟨hx, hb, hml, hown, hts⟩ (k_X8_greatest l D cy h1 z_6 (x2) (x3) (x4) (x5) (x6) (x7) (x8) (x9) (x10) (x11) (x12) (x13) (.ref h14) (x15) (x16) (x17) (x18)) (cwV 1 hts gX8_rests_X8_greatest rfl rfl rfl (by decide +kernel) ⟨(Nat.le_of_ble_eq_true rfl), (Nat.le_of_ble_eq_true rfl)⟩) ⟨kR_fb, va_recv hK hP (ci := 10) (q0 := 1) rfl rfl, (kR_go hPc hK)⟩ rfl rfl hl.1 rfl (lv_room (Nat.le_of_ble_eq_true rfl)) dX8_rests_37 ⟨(Nat.le_of_ble_eq_true rfl), (Nat.le_of_ble_eq_true rfl)⟩) hS (fun _ _ h => h.elim) (fun _ h => h.elim) (fun r9 u t H locs ht hvm hw hB hz1 hk1 hS => ?_)
  have hP := kx_kept hP hk1
  obtain ⟨rfl, hw⟩ := hw
  refine lv_if_ne (tgt := 49) hx hb dX8_rests_40 (by decide) (fun h => absurd (by decide) h) (fun _ => ?_)
  refine lv_aload_n hx hb dX8_rests_43 rfl (lv_at hl 2 rfl) ?_
  refine lv_aload_n hx hb dX8_rests_44 rfl (lv_at hl 0 rfl) ?_
  have hPc := hP.sub (ws' := [(q_1, .inr (1, [.int 0, .ref de, .int 0])), (z_6, .inl (cy 1, 6, .inl g19))]) [0, 3] rfl
  have hDc := hD.sub (ws' := [(q_1, .inr (1, [.int 0, .ref de, .int 0])), (z_6, .inl (cy 1, 6, .inl g19))]) [0, 3] (by decide) rfl
  have hFc := va_free (wc := [(q_1, .inr (1, [.int 0, .ref de, .int 0])), (z_6, .inl (cy 1, 6, .inl g19))]) hD hS hA [0, 3] rfl
  refine va_calli (va_runV (As := [.ref z_6]) (rest := []) ⟨hx, hb, hml, hown, hts⟩ (k_Jx4a65c_add_9ea2d l hl9 D cy de q_1 z_6 g19 H.size) (cwV 1 hts gX8_rests_Jx4a65c_add_9ea2d rfl rfl rfl (by decide +kernel) ⟨(Nat.le_of_ble_eq_true rfl), (Nat.le_of_ble_eq_true rfl)⟩) ⟨kWY_fb, va_recv hK hP (ci := 1) (q0 := 0) rfl rfl, (kWY_go hPc hK hDc hFc hE hY hS)⟩ rfl rfl hl.1 rfl (lv_room (Nat.le_of_ble_eq_true rfl)) dX8_rests_45 ⟨(Nat.le_of_ble_eq_true rfl), (Nat.le_of_ble_eq_true rfl)⟩) hS (fun q _ h => hFc q h) hFc (fun r9 u t H locs ht hvm hw hB hz1 hk1 hS => ?_)
  obtain ⟨z_14, rfl⟩ : ∃ z, z = u := ⟨_, rfl⟩
  obtain ⟨hP1, hD1⟩ := hB
  rw [ht] at hP1
  try dsimp only at hw hP1 hD1
  obtain ⟨hP, hD⟩ := va_join (wr := [(h1, .inr (10, [x2, x3, x4, x5, x6, x7, x8, x9, x10, x11, x12, x13, .ref h14, x15, x16, .int 0, x17, x18])), (h14, .inl (cy 1, 6, .inl g19)), (z_9, .inr (0, [.int 1, .int 0, .int 1, .ref z_3])), (z_3, .inr (1, [.int 1, .ref z_4, .int 1])), (z_4, .inl (cy 7, 10, .inr (.inr (.inr (.inr u_5)))))]) (w1 := [(q_1, .inr (1, [.int 1, .ref z_14, .int 1])), (z_6, .inl (cy 1, 6, .inl g19)), (z_14, .inl (cy 7, 10, .inr (.inr (.inr (.inr (va_up (fun _ => none) 0 (some z_6)))))))]) hP hD [0, 3] [1, 2, 4, 5, 6] rfl rfl (by decide) (by decide) hk1 hFc hP1 hD1
  have hP : va_P D vwCl [(h1, .inr (10, [x2, x3, x4, x5, x6, x7, x8, x9, x10, x11, x12, x13, .ref h14, x15, x16, .int 0, x17, x18])), (h14, .inl (cy 1, 6, .inl g19)), (z_9, .inr (0, [.int 1, .int 0, .int 1, .ref z_3])), (z_3, .inr (1, [.int 1, .ref z_4, .int 1])), (z_4, .inl (cy 7, 10, .inr (.inr (.inr (.inr u_5))))), (q_1, .inr (1, [.int 1, .ref z_14, .int 1])), (z_6, .inl (cy 1, 6, .inl g19)), (z_14, .inl (cy 7, 10, .inr (.inr (.inr (.inr (va_up (fun _ => none) 0 (some z_6)))))))] H := hP
  have hD : va_D A [(h1, .inr (10, [x2, x3, x4, x5, x6, x7, x8, x9, x10, x11, x12, x13, .ref h14, x15, x16, .int 0, x17, x18])), (h14, .inl (cy 1, 6, .inl g19)), (z_9, .inr (0, [.int 1, .int 0, .int 1, .ref z_3])), (z_3, .inr (1, [.int 1, .ref z_4, .int 1])), (z_4, .inl (cy 7, 10, .inr (.inr (.inr (.inr u_5))))), (q_1, .inr (1, [.int 1, .ref z_14, .int 1])), (z_6, .inl (cy 1, 6, .inl g19)), (z_14, .inl (cy 7, 10, .inr (.inr (.inr (.inr (va_up (fun _ => none) 0 (some z_6)))))))] := hD
  refine W.widen (k := 7) (n := 42) (Nat.le_of_ble_eq_true rfl) (Nat.le_of_ble_eq_true rfl) ?_
  obtain ⟨rfl, hw⟩ := hw
  refine lv_pop hx hb dX8_rests_48 rfl ?_
  refine lv_goto (tgt := 16) hx hb dX8_rests_49 (by decide) ?_
  refine lv_aload_n hx hb dX8_rests_16 rfl (lv_at hl 1 rfl) ?_
  have hPc := hP.sub (ws' := [(z_9, .inr (0, [.int 1, .int 0, .int 1, .ref z_3])), (z_3, .inr (1, [.int 1, .ref z_4, .int 1]))]) [2, 3] rfl
  refine va_callFi (va_runF (hK.1 0 _ rfl).2 (As := []) (rest := []) ⟨hx, hb, hml, hown, hts⟩ (k_Jx35411_hasNext_aae02_1 l hl9 D cy de z_9 (.int 0) (.int 1) z_3 (.int 1) (.ref z_4)) (va_cwF 0 hts gX8_rests_Jx35411_hasNext_aae02_f215Jx35411 rfl rfl rfl hY.2.2.1 (by decide +kernel) ⟨(Nat.le_of_ble_eq_true rfl), (Nat.le_of_ble_eq_true rfl)⟩) ⟨kRY_fb, va_recv hK hP (ci := 0) (q0 := 2) rfl rfl, (kRY_go hPc hK hE hY hS)⟩ rfl rfl hl.1 rfl (lv_room (Nat.le_of_ble_eq_true rfl)) dX8_rests_17 ⟨(Nat.le_of_ble_eq_true rfl), (Nat.le_of_ble_eq_true rfl)⟩) hS (fun _ _ h => h.elim) (fun _ h => h.elim) (fun r9 u t H locs ht hvm hw hB hz1 hk1 hS => ?_)
  have hP := kx_kept hP hk1
  obtain ⟨rfl, hw⟩ := hw
  refine lv_if_eq (tgt := 52) hx hb dX8_rests_22 (by decide) (fun _ => ?_) (fun h => absurd (by decide) h)
  refine lv_aload_n hx hb dX8_rests_52 rfl (lv_at hl 2 rfl) ?_
  refine W.widen (k := 7) (n := 42) (Nat.le_of_ble_eq_true rfl) (Nat.le_of_ble_eq_true rfl) ?_
  have hP9 := hP.sub (ws' := [(h1, .inr (10, [x2, x3, x4, x5, x6, x7, x8, x9, x10, x11, x12, x13, .ref h14, x15, x16, .int 0, x17, x18])), (h14, .inl (cy 1, 6, .inl g19)), (q_1, .inr (1, [.int 1, .ref z_14, .int 1])), (z_14, .inl (cy 7, 10, .inr (.inr (.inr (.inr (va_up (fun _ => none) 0 (some z_6))))))), (z_6, .inl (cy 1, 6, .inl g19))]) [0, 1, 5, 7, 6] rfl
  have hD9 := hD.sub (ws' := [(h1, .inr (10, [x2, x3, x4, x5, x6, x7, x8, x9, x10, x11, x12, x13, .ref h14, x15, x16, .int 0, x17, x18])), (h14, .inl (cy 1, 6, .inl g19)), (q_1, .inr (1, [.int 1, .ref z_14, .int 1])), (z_14, .inl (cy 7, 10, .inr (.inr (.inr (.inr (va_up (fun _ => none) 0 (some z_6))))))), (z_6, .inl (cy 1, 6, .inl g19))]) [0, 1, 5, 7, 6] (by decide) rfl
  exact W.aret (v := .ref q_1) hx hb hr (Or.inl ⟨_, rfl⟩) (Or.inr ⟨_, rfl⟩) (fun t ht hW => ⟨⟨(q_1, z_14, (va_up (fun _ => none) 0 (some z_6)), z_6), q_1, rfl, ⟨(rfl), trivial⟩, ⟨rfl, by rw [ht]; exact hP9, hD9⟩⟩, hS.F ht⟩) hS.2.2 dX8_rests_53
theorem dJx4a65c_size_8abf5_0 : decode cJx4a65c_size_8abf5 0 = .ok (.aload_n 0, 1) := by decide +kernel
theorem dJx4a65c_size_8abf5_1 : decode cJx4a65c_size_8abf5 1 = .ok (.getfield 48, 3) := by decide +kernel
theorem dJx4a65c_size_8abf5_4 : decode cJx4a65c_size_8abf5 4 = .ok (.ireturn, 1) := by decide +kernel
set_option maxHeartbeats 4000000 in
set_option maxRecDepth 100000 in
theorem k_Jx4a65c_size_8abf5 (l : Launch) (D : va_G) (cy : Nat → ClassId) (h1 : Nat) (x2 : Value) (x3 : Value) : Met l yJx4a65c_size_8abf5 wsJx4a65c_size_8abf5 ({ frames := 0, cells := 0, slots := 0, locals := 0 }) (kR D cy [.ref h1] [(h1, .inr (1, [x2, x3, .int 1]))]) (va_Qi (fun (r : Int32) (_ : Unit) => r = 1 ∧ True) (fun (_ : Unit) (_ : State) => True) (fun _ : Nat => False)) 0 0 (fun _ : Nat => False) := by
  refine Met.ofW (cc := cJx4a65c_size_8abf5) (maxL := 1) (ret := (some .int)) (by decide) rfl ?_
  intro p e s m args below meth c s₁ B hml hv
  obtain ⟨rfl, hP, hK⟩ := hv
  have hx := B.exec
  have hb := B.bytes
  have hr := B.returns
  have hts := atoms_spec (ws := wsJx4a65c_size_8abf5) B.pre
  have hown : s.vm.findClass RJx4a65c = some m.cls := findClass_of_methodNamed B.named
  have hlocks := B.notSynchronized
  have hS : va_S (fun _ : Nat => False) s.heap s.heap [] := va_S.rf
  have hP : va_P D vwCl [(h1, .inr (1, [x2, x3, .int 1]))] s.heap := hP
  have hl := lv_entry ([.ref h1]) (n := 1) (Nat.le_of_ble_eq_true rfl)
  rw [lg_entry_eq]
  generalize (lg_sl ([.ref h1]) ++ List.replicate (1 - (lg_sl ([.ref h1])).length) Slot.unset).toArray = ls at hl ⊢
  have hl : lv_has ls 1 [(0, .ref h1)] := hl
  refine lv_aload_n hx hb dJx4a65c_size_8abf5_0 rfl (lv_at hl 0 rfl) ?_
  refine va_get (D := D) (ci := 1) (v := .int 1) (C := RJx4a65c) (T := TJx4a65c) (N := 3) hx hb hts (fun _ h => (List.mem_cons_of_mem _ (List.mem_append_right _ h))) hown hK hP 0 rfl rfl 2 (by decide) (hts (.fieldLink RJx4a65c 48 "java/util/ArrayList" "size" "I") (List.mem_cons_of_mem _ (List.mem_append_left _ (List.mem_of_getElem? (i := 0) rfl)))) (fun _ h9 => h9) rfl dJx4a65c_size_8abf5_1 ?_
  refine W.widen (k := 0) (n := 0) (Nat.le_of_ble_eq_true rfl) (Nat.le_of_ble_eq_true rfl) ?_
  exact W.iret (v := 1) hx hb hr (fun t ht hW => ⟨⟨1, (), rfl, ⟨rfl, trivial⟩, trivial⟩, hS.F ht⟩) hS.2.2 dJx4a65c_size_8abf5_4
theorem dX8_countRests_0 : decode cX8_countRests 0 = .ok (.aload_n 0, 1) := by decide +kernel
theorem dX8_countRests_1 : decode cX8_countRests 1 = .ok (.aload_n 0, 1) := by decide +kernel
theorem dX8_countRests_2 : decode cX8_countRests 2 = .ok (.invokevirtual 240, 3) := by decide +kernel
set_option maxRecDepth 20000 in
theorem ggX8_countRests_X8_areMany : GoodIn wsX8_countRests wsX8_areMany := goodIn_ca (goodIn_r _ [5, 6, 7, 8, 4, 9, 10, 11, 12, 13, 14, 15, 16, 17, 18, 188, 189, 190, 191, 192, 193, 194, 195, 196, 197, 198, 199, 200, 201, 202, 203, 204, 205] (by decide +kernel) (by decide +kernel)) (goodIn_sub (fun _ h => List.mem_cons_of_mem _ (List.mem_append_left _ (List.mem_append_right _ h))) (by decide +kernel))
set_option maxRecDepth 20000 in
theorem gX8_countRests_X8_areMany : GoodIn wsX8_countRests (wsV RX8 240 RX8 yX8_areMany wsX8_areMany) := goodIn_app (goodIn_of _ (by decide +kernel)) ggX8_countRests_X8_areMany
theorem dX8_countRests_5 : decode cX8_countRests 5 = .ok (.iconst 1, 1) := by decide +kernel
theorem dX8_countRests_6 : decode cX8_countRests 6 = .ok (.invokevirtual 73, 3) := by decide +kernel
set_option maxRecDepth 20000 in
theorem ggX8_countRests_X8_isThrown : GoodIn wsX8_countRests wsX8_isThrown := goodIn_r _ [22, 23, 188, 189, 190, 191, 192, 193, 194, 195, 196, 197, 198, 199, 200, 201, 202, 203, 204, 205] (by decide +kernel) (by decide +kernel)
set_option maxRecDepth 20000 in
theorem gX8_countRests_X8_isThrown : GoodIn wsX8_countRests (wsV RX8 73 RX8 yX8_isThrown wsX8_isThrown) := goodIn_app (goodIn_of _ (by decide +kernel)) ggX8_countRests_X8_isThrown
theorem dX8_countRests_9 : decode cX8_countRests 9 = .ok (.ifCond .eq 7, 3) := by decide +kernel
theorem dX8_countRests_16 : decode cX8_countRests 16 = .ok (.aload_n 0, 1) := by decide +kernel
theorem dX8_countRests_17 : decode cX8_countRests 17 = .ok (.invokevirtual 243, 3) := by decide +kernel
set_option maxRecDepth 20000 in
theorem ggX8_countRests_X8_rests : GoodIn wsX8_countRests wsX8_rests := goodIn_ca (goodIn_ca (goodIn_r _ [27, 28, 29, 30, 31, 32, 33, 34, 35, 36, 37, 38, 39, 40, 41, 42, 43, 44, 45, 46, 47, 48, 49, 50, 51, 4, 52, 53, 54, 55, 56, 57, 58, 59, 60, 61, 62, 10, 12, 11, 63, 64, 65, 66, 67, 68, 69, 70, 71, 72, 73, 74, 75, 76, 77, 78, 79, 80, 81, 82, 83, 84, 85, 86, 87, 88, 89, 90, 91, 92, 93, 94, 95, 96, 97, 98, 99, 100, 101, 102, 103, 104, 105, 106, 107, 108, 109, 110, 111, 112, 113, 114, 115, 13, 14, 15, 16, 17, 18, 116, 117, 118, 119, 120, 121, 122, 123, 124, 125, 126, 127, 128, 129, 130, 131, 132, 133, 134, 135, 136, 137, 138, 139, 140, 141, 142, 143, 144, 145, 146, 147, 148, 149, 150, 151, 152, 153, 154, 155, 156, 157, 158, 159, 160, 161, 162, 163, 164, 165, 166, 167, 168, 169, 170, 171, 172, 173, 174, 175, 176, 177, 178, 179, 180, 181, 182, 183, 206, 207, 208, 188, 189, 190, 191, 192, 193, 194, 195, 196, 197, 198, 199, 200, 201, 202, 203, 204, 205, 209, 210, 211, 212] (by decide +kernel) (by decide +kernel)) (goodIn_sub (fun _ h => List.mem_cons_of_mem _ (List.mem_append_left _ (List.mem_append_right _ h))) (by decide +kernel))) (goodIn_sub (fun _ h => List.mem_cons_of_mem _ (List.mem_append_right _ h)) (by decide +kernel))
set_option maxRecDepth 20000 in
theorem gX8_countRests_X8_rests : GoodIn wsX8_countRests (wsV RX8 243 RX8 yX8_rests wsX8_rests) := goodIn_app (goodIn_of _ (by decide +kernel)) ggX8_countRests_X8_rests
theorem dX8_countRests_20 : decode cX8_countRests 20 = .ok (.invokevirtual 131, 3) := by decide +kernel
set_option maxRecDepth 20000 in
theorem ggX8_countRests_Jx4a65c_size_8abf5 : GoodIn wsX8_countRests wsJx4a65c_size_8abf5 := goodIn_r _ [187, 69, 206, 207, 208] (by decide +kernel) (by decide +kernel)
set_option maxRecDepth 20000 in
theorem gX8_countRests_Jx4a65c_size_8abf5 : GoodIn wsX8_countRests (wsV RX8 131 RJx4a65c yJx4a65c_size_8abf5 wsJx4a65c_size_8abf5) := goodIn_app (goodIn_of _ (by decide +kernel)) ggX8_countRests_Jx4a65c_size_8abf5
theorem dX8_countRests_23 : decode cX8_countRests 23 = .ok (.ireturn, 1) := by decide +kernel
set_option maxHeartbeats 4000000 in
set_option maxRecDepth 100000 in
theorem k_X8_countRests (l : Launch) (hl9 : l.stackTraces = false) (D : va_G) (cy : Nat → ClassId) (de : Nat) (h1 : Nat) (x2 : Value) (x3 : Value) (x4 : Value) (x5 : Value) (x6 : Value) (x7 : Value) (x8 : Value) (x9 : Value) (x10 : Value) (x11 : Value) (x12 : Value) (x13 : Value) (h14 : Nat) (x15 : Value) (x16 : Value) (x17 : Value) (x18 : Value) (g19 : Nat → Int32) (sz : Nat) : Met l yX8_countRests wsX8_countRests ({ frames := 8, cells := 7, slots := 42, locals := 170 }) (kWY D cy de [.ref h1] [(h1, .inr (10, [x2, x3, x4, x5, x6, x7, x8, x9, x10, x11, x12, x13, .ref h14, x15, x16, .int 0, x17, x18])), (h14, .inl (cy 1, 6, .inl g19))] sz) (va_Qi (fun (r : Int32) (_ : Unit) => r = 1 ∧ True) (fun (_ : Unit) (t : State) => va_P D vwCl [(h1, .inr (10, [x2, x3, x4, x5, x6, x7, x8, x9, x10, x11, x12, x13, .ref h14, x15, x16, .int 0, x17, .int 0])), (h14, .inl (cy 1, 6, .inl g19))] t.heap ∧ va_D (va_A [(h1, .inr (10, [x2, x3, x4, x5, x6, x7, x8, x9, x10, x11, x12, x13, .ref h14, x15, x16, .int 0, x17, x18])), (h14, .inl (cy 1, 6, .inl g19))] sz) [(h1, .inr (10, [x2, x3, x4, x5, x6, x7, x8, x9, x10, x11, x12, x13, .ref h14, x15, x16, .int 0, x17, .int 0])), (h14, .inl (cy 1, 6, .inl g19))]) (va_A [(h1, .inr (10, [x2, x3, x4, x5, x6, x7, x8, x9, x10, x11, x12, x13, .ref h14, x15, x16, .int 0, x17, x18])), (h14, .inl (cy 1, 6, .inl g19))] sz)) 7 42 (va_A [(h1, .inr (10, [x2, x3, x4, x5, x6, x7, x8, x9, x10, x11, x12, x13, .ref h14, x15, x16, .int 0, x17, x18])), (h14, .inl (cy 1, 6, .inl g19))] sz) := by
  refine Met.ofW (cc := cX8_countRests) (maxL := 1) (ret := (some .int)) (by decide) rfl ?_
  intro p e s m args below meth c s₁ B hml hv
  obtain ⟨rfl, hsz, hP, hK, hD0, hE, hY⟩ := hv
  have hx := B.exec
  have hb := B.bytes
  have hr := B.returns
  have hts := atoms_spec (ws := wsX8_countRests) B.pre
  have hown : s.vm.findClass RX8 = some m.cls := findClass_of_methodNamed B.named
  have hlocks := B.notSynchronized
  subst hsz
  have hD := hD0.self (sz := s.heap.size)
  generalize hAe : va_A [(h1, .inr (10, [x2, x3, x4, x5, x6, x7, x8, x9, x10, x11, x12, x13, .ref h14, x15, x16, .int 0, x17, x18])), (h14, .inl (cy 1, 6, .inl g19))] s.heap.size = A at hD hE hY ⊢
  have hA : ∀ q : Nat, s.heap.size ≤ q → A q := fun q h => by rw [← hAe]; exact Or.inr h
  have hS : va_S A s.heap s.heap [] := va_S.rf
  have hP : va_P D vwCl [(h1, .inr (10, [x2, x3, x4, x5, x6, x7, x8, x9, x10, x11, x12, x13, .ref h14, x15, x16, .int 0, x17, x18])), (h14, .inl (cy 1, 6, .inl g19))] s.heap := hP
  have hl := lv_entry ([.ref h1]) (n := 1) (Nat.le_of_ble_eq_true rfl)
  rw [lg_entry_eq]
  generalize (lg_sl ([.ref h1]) ++ List.replicate (1 - (lg_sl ([.ref h1])).length) Slot.unset).toArray = ls at hl ⊢
  have hl : lv_has ls 1 [(0, .ref h1)] := hl
  refine lv_aload_n hx hb dX8_countRests_0 rfl (lv_at hl 0 rfl) ?_
  refine lv_aload_n hx hb dX8_countRests_1 rfl (lv_at hl 0 rfl) ?_
  have hPc := hP.sub (ws' := [(h1, .inr (10, [x2, x3, x4, x5, x6, x7, x8, x9, x10, x11, x12, x13, .ref h14, x15, x16, .int 0, x17, x18]))]) [0] rfl
  refine va_calli (va_runV (As := []) (rest := [.ref h1]) ⟨hx, hb, hml, hown, hts⟩ (k_X8_areMany l D cy h1 (x2) (x3) (x4) (x5) (x6) (x7) (x8) (x9) (x10) (x11) (x12) (x13) (.ref h14) (x15) (x16) (x17) (x18)) (cwV 0 hts gX8_countRests_X8_areMany rfl rfl rfl (by decide +kernel) ⟨(Nat.le_of_ble_eq_true rfl), (Nat.le_of_ble_eq_true rfl)⟩) ⟨kR_fb, va_recv hK hP (ci := 10) (q0 := 0) rfl rfl, (kR_go hPc hK)⟩ rfl rfl hl.1 rfl (lv_room (Nat.le_of_ble_eq_true rfl)) dX8_countRests_2 ⟨(Nat.le_of_ble_eq_true rfl), (Nat.le_of_ble_eq_true rfl)⟩) hS (fun _ _ h => h.elim) (fun _ h => h.elim) (fun r9 u t H locs ht hvm hw hB hz1 hk1 hS => ?_)
  have hP := kx_kept hP hk1
  obtain ⟨rfl, hw⟩ := hw
  refine lv_iconst (v := 1) hx hb dX8_countRests_5 (by decide) ?_
  have hPc := hP.sub (ws' := [(h1, .inr (10, [x2, x3, x4, x5, x6, x7, x8, x9, x10, x11, x12, x13, .ref h14, x15, x16, .int 0, x17, x18]))]) [0] rfl
  have hDc := hD.sub (ws' := [(h1, .inr (10, [x2, x3, x4, x5, x6, x7, x8, x9, x10, x11, x12, x13, .ref h14, x15, x16, .int 0, x17, x18]))]) [0] (by decide) rfl
  have hFc := va_free (wc := [(h1, .inr (10, [x2, x3, x4, x5, x6, x7, x8, x9, x10, x11, x12, x13, .ref h14, x15, x16, .int 0, x17, x18]))]) hD hS hA [0] rfl
  refine va_calli (va_runV (As := [.int 0, .int 1]) (rest := []) ⟨hx, hb, hml, hown, hts⟩ (k_X8_isThrown_1 l D cy h1 (x2) (x3) (x4) (x5) (x6) (x7) (x8) (x9) (x10) (x11) (x12) (x13) (.ref h14) (x15) (x16) (.int 0) (x17) (x18) H.size) (cwV 2 hts gX8_countRests_X8_isThrown rfl rfl rfl (by decide +kernel) ⟨(Nat.le_of_ble_eq_true rfl), (Nat.le_of_ble_eq_true rfl)⟩) ⟨kW_fb, va_recv hK hP (ci := 10) (q0 := 0) rfl rfl, (kW_go hPc hK hDc)⟩ rfl rfl hl.1 rfl (lv_room (Nat.le_of_ble_eq_true rfl)) dX8_countRests_6 ⟨(Nat.le_of_ble_eq_true rfl), (Nat.le_of_ble_eq_true rfl)⟩) hS (fun q _ h => hFc q h) hFc (fun r9 u t H locs ht hvm hw hB hz1 hk1 hS => ?_)
  obtain ⟨hP1, hD1⟩ := hB
  rw [ht] at hP1
  try dsimp only at hw hP1 hD1
  obtain ⟨hP, hD⟩ := va_join (wr := [(h14, .inl (cy 1, 6, .inl g19))]) (w1 := [(h1, .inr (10, [x2, x3, x4, x5, x6, x7, x8, x9, x10, x11, x12, x13, .ref h14, x15, x16, .int 0, x17, .int 0]))]) hP hD [0] [1] rfl rfl (by decide) (by decide) hk1 hFc hP1 hD1
  have hP : va_P D vwCl [(h14, .inl (cy 1, 6, .inl g19)), (h1, .inr (10, [x2, x3, x4, x5, x6, x7, x8, x9, x10, x11, x12, x13, .ref h14, x15, x16, .int 0, x17, .int 0]))] H := hP
  have hD : va_D A [(h14, .inl (cy 1, 6, .inl g19)), (h1, .inr (10, [x2, x3, x4, x5, x6, x7, x8, x9, x10, x11, x12, x13, .ref h14, x15, x16, .int 0, x17, .int 0]))] := hD
  obtain ⟨rfl, hw⟩ := hw
  refine lv_if_eq (tgt := 16) hx hb dX8_countRests_9 (by decide) (fun _ => ?_) (fun h => absurd (by decide) h)
  refine lv_aload_n hx hb dX8_countRests_16 rfl (lv_at hl 0 rfl) ?_
  have hPc := hP.sub (ws' := [(h1, .inr (10, [x2, x3, x4, x5, x6, x7, x8, x9, x10, x11, x12, x13, .ref h14, x15, x16, .int 0, x17, .int 0])), (h14, .inl (cy 1, 6, .inl g19))]) [1, 0] rfl
  have hDc := hD.sub (ws' := [(h1, .inr (10, [x2, x3, x4, x5, x6, x7, x8, x9, x10, x11, x12, x13, .ref h14, x15, x16, .int 0, x17, .int 0])), (h14, .inl (cy 1, 6, .inl g19))]) [1, 0] (by decide) rfl
  have hFc := va_free (wc := [(h1, .inr (10, [x2, x3, x4, x5, x6, x7, x8, x9, x10, x11, x12, x13, .ref h14, x15, x16, .int 0, x17, .int 0])), (h14, .inl (cy 1, 6, .inl g19))]) hD hS hA [1, 0] rfl
  refine va_callr (va_runV (As := []) (rest := []) ⟨hx, hb, hml, hown, hts⟩ (k_X8_rests l hl9 D cy de h1 (x2) (x3) (x4) (x5) (x6) (x7) (x8) (x9) (x10) (x11) (x12) (x13) h14 (x15) (x16) (x17) (.int 0) g19 H.size) (cwV 0 hts gX8_countRests_X8_rests rfl rfl rfl (by decide +kernel) ⟨(Nat.le_of_ble_eq_true rfl), (Nat.le_of_ble_eq_true rfl)⟩) ⟨kWY_fb, va_recv hK hP (ci := 10) (q0 := 1) rfl rfl, (kWY_go hPc hK hDc hFc hE hY hS)⟩ rfl rfl hl.1 rfl (lv_room (Nat.le_of_ble_eq_true rfl)) dX8_countRests_17 ⟨(Nat.le_of_ble_eq_true rfl), (Nat.le_of_ble_eq_true rfl)⟩) hS (fun q _ h => hFc q h) hFc (fun u r9 t H locs ht hvm hw hB hz1 hk1 hS => ?_)
  obtain ⟨z_3, z_4, u_5, z_6⟩ := u
  obtain ⟨e9, hB⟩ := hB
  have e9 := e9.symm
  subst e9
  obtain ⟨hP1, hD1⟩ := hB
  rw [ht] at hP1
  try dsimp only at hw hP1 hD1
  obtain ⟨hP, hD⟩ := va_join (wr := []) (w1 := [(h1, .inr (10, [x2, x3, x4, x5, x6, x7, x8, x9, x10, x11, x12, x13, .ref h14, x15, x16, .int 0, x17, .int 0])), (h14, .inl (cy 1, 6, .inl g19)), (z_3, .inr (1, [.int 1, .ref z_4, .int 1])), (z_4, .inl (cy 7, 10, .inr (.inr (.inr (.inr u_5))))), (z_6, .inl (cy 1, 6, .inl g19))]) hP hD [1, 0] [] rfl rfl (by decide) (by decide) hk1 hFc hP1 hD1
  have hP : va_P D vwCl [(h1, .inr (10, [x2, x3, x4, x5, x6, x7, x8, x9, x10, x11, x12, x13, .ref h14, x15, x16, .int 0, x17, .int 0])), (h14, .inl (cy 1, 6, .inl g19)), (z_3, .inr (1, [.int 1, .ref z_4, .int 1])), (z_4, .inl (cy 7, 10, .inr (.inr (.inr (.inr u_5))))), (z_6, .inl (cy 1, 6, .inl g19))] H := hP
  have hD : va_D A [(h1, .inr (10, [x2, x3, x4, x5, x6, x7, x8, x9, x10, x11, x12, x13, .ref h14, x15, x16, .int 0, x17, .int 0])), (h14, .inl (cy 1, 6, .inl g19)), (z_3, .inr (1, [.int 1, .ref z_4, .int 1])), (z_4, .inl (cy 7, 10, .inr (.inr (.inr (.inr u_5))))), (z_6, .inl (cy 1, 6, .inl g19))] := hD
  refine W.widen (k := 7) (n := 42) (Nat.le_of_ble_eq_true rfl) (Nat.le_of_ble_eq_true rfl) ?_
  obtain ⟨kf_7, hw⟩ := hw
  have hPc := hP.sub (ws' := [(z_3, .inr (1, [.int 1, .ref z_4, .int 1]))]) [2] rfl
  refine va_calli (va_runV (As := []) (rest := []) ⟨hx, hb, hml, hown, hts⟩ (k_Jx4a65c_size_8abf5 l D cy z_3 (.int 1) (.ref z_4)) (cwV 0 hts gX8_countRests_Jx4a65c_size_8abf5 rfl rfl rfl (by decide +kernel) ⟨(Nat.le_of_ble_eq_true rfl), (Nat.le_of_ble_eq_true rfl)⟩) ⟨kR_fb, va_recv hK hP (ci := 1) (q0 := 2) rfl rfl, (kR_go hPc hK)⟩ rfl rfl hl.1 rfl (lv_room (Nat.le_of_ble_eq_true rfl)) dX8_countRests_20 ⟨(Nat.le_of_ble_eq_true rfl), (Nat.le_of_ble_eq_true rfl)⟩) hS (fun _ _ h => h.elim) (fun _ h => h.elim) (fun r9 u t H locs ht hvm hw hB hz1 hk1 hS => ?_)
  have hP := kx_kept hP hk1
  obtain ⟨rfl, hw⟩ := hw
  refine W.widen (k := 7) (n := 42) (Nat.le_of_ble_eq_true rfl) (Nat.le_of_ble_eq_true rfl) ?_
  have hP9 := hP.sub (ws' := [(h1, .inr (10, [x2, x3, x4, x5, x6, x7, x8, x9, x10, x11, x12, x13, .ref h14, x15, x16, .int 0, x17, .int 0])), (h14, .inl (cy 1, 6, .inl g19))]) [0, 1] rfl
  have hD9 := hD.sub (ws' := [(h1, .inr (10, [x2, x3, x4, x5, x6, x7, x8, x9, x10, x11, x12, x13, .ref h14, x15, x16, .int 0, x17, .int 0])), (h14, .inl (cy 1, 6, .inl g19))]) [0, 1] (by decide) rfl
  exact W.iret (v := 1) hx hb hr (fun t ht hW => ⟨⟨1, (), rfl, ⟨rfl, trivial⟩, ⟨by rw [ht]; exact hP9, hD9⟩⟩, hS.F ht⟩) hS.2.2 dX8_countRests_23
theorem dX6_restAt_0 : decode cX6_restAt 0 = .ok (.iconst 0, 1) := by decide +kernel
theorem dX6_restAt_1 : decode cX6_restAt 1 = .ok (.istore_n 2, 1) := by decide +kernel
theorem dX6_restAt_2 : decode cX6_restAt 2 = .ok (.iconst 0, 1) := by decide +kernel
theorem dX6_restAt_3 : decode cX6_restAt 3 = .ok (.istore_n 3, 1) := by decide +kernel
theorem dX6_restAt_4 : decode cX6_restAt 4 = .ok (.iload_n 3, 1) := by decide +kernel
theorem dX6_restAt_5 : decode cX6_restAt 5 = .ok (.aload_n 0, 1) := by decide +kernel
theorem dX6_restAt_6 : decode cX6_restAt 6 = .ok (.getfield 98, 3) := by decide +kernel
theorem dX6_restAt_9 : decode cX6_restAt 9 = .ok (.if_icmp .ge 27, 3) := by decide +kernel
theorem dX6_restAt_12 : decode cX6_restAt 12 = .ok (.aload_n 0, 1) := by decide +kernel
theorem dX6_restAt_13 : decode cX6_restAt 13 = .ok (.iload_n 3, 1) := by decide +kernel
theorem dX6_restAt_14 : decode cX6_restAt 14 = .ok (.invokevirtual 112, 3) := by decide +kernel
set_option maxRecDepth 20000 in
theorem ggX6_restAt_X6_isAtRest : GoodIn wsX6_restAt wsX6_isAtRest := goodIn_ca (goodIn_r _ [6, 7, 8, 9, 10, 11, 12, 13, 14, 15, 16, 17, 18, 19, 20] (by decide +kernel) (by decide +kernel)) (goodIn_sub (fun _ h => List.mem_cons_of_mem _ (List.mem_append_right _ h)) (by decide +kernel))
set_option maxRecDepth 20000 in
theorem gX6_restAt_X6_isAtRest : GoodIn wsX6_restAt (wsV RX6 112 RX6 yX6_isAtRest wsX6_isAtRest) := goodIn_app (goodIn_of _ (by decide +kernel)) ggX6_restAt_X6_isAtRest
theorem dX6_restAt_17 : decode cX6_restAt 17 = .ok (.ifCond .eq 13, 3) := by decide +kernel
theorem dX6_restAt_20 : decode cX6_restAt 20 = .ok (.iload_n 2, 1) := by decide +kernel
theorem dX6_restAt_21 : decode cX6_restAt 21 = .ok (.iload_n 1, 1) := by decide +kernel
theorem dX6_restAt_22 : decode cX6_restAt 22 = .ok (.if_icmp .ne 5, 3) := by decide +kernel
theorem dX6_restAt_27 : decode cX6_restAt 27 = .ok (.iinc 2 1, 3) := by decide +kernel
theorem dX6_restAt_30 : decode cX6_restAt 30 = .ok (.iinc 3 1, 3) := by decide +kernel
theorem dX6_restAt_33 : decode cX6_restAt 33 = .ok (.goto (-29), 3) := by decide +kernel
theorem dX6_restAt_36 : decode cX6_restAt 36 = .ok (.iconst (-1), 1) := by decide +kernel
theorem dX6_restAt_37 : decode cX6_restAt 37 = .ok (.ireturn, 1) := by decide +kernel
theorem dX6_restAt_25 : decode cX6_restAt 25 = .ok (.iload_n 3, 1) := by decide +kernel
theorem dX6_restAt_26 : decode cX6_restAt 26 = .ok (.ireturn, 1) := by decide +kernel
set_option maxHeartbeats 4000000 in
set_option maxRecDepth 100000 in
theorem k_X6_restAt (l : Launch) (D : va_G) (cy : Nat → ClassId) (h1 : Nat) (p0 : Int32) (x2 : Value) (x3 : Value) (x4 : Value) (x5 : Value) (x6 : Value) (h7 : Nat) (x8 : Value) (x9 : Value) (x10 : Value) (x11 : Value) (x12 : Value) (x13 : Value) (g14 : Nat → Int32) (kg14_0 : g14 0 = 0) : Met l yX6_restAt wsX6_restAt ({ frames := 1, cells := 0, slots := 0, locals := 21 }) (kR D cy [.ref h1, .int p0] [(h1, .inr (8, [x2, x3, x4, x5, x6, .ref h7, x8, x9, x10, x11, x12, x13, .int 1])), (h7, .inl (cy 1, 1000, .inl g14))]) (va_Qi (fun (r : Int32) (_ : Unit) => ((r = (-1) ∧ (0 : Int) ≠ p0.toInt) ∨ (r = 0 ∧ (0 : Int) = p0.toInt))) (fun (_ : Unit) (_ : State) => True) (fun _ : Nat => False)) 0 0 (fun _ : Nat => False) := by
  refine Met.ofW (cc := cX6_restAt) (maxL := 4) (ret := (some .int)) (by decide) rfl ?_
  intro p e s m args below meth c s₁ B hml hv
  obtain ⟨rfl, hP, hK⟩ := hv
  have hx := B.exec
  have hb := B.bytes
  have hr := B.returns
  have hts := atoms_spec (ws := wsX6_restAt) B.pre
  have hown : s.vm.findClass RX6 = some m.cls := findClass_of_methodNamed B.named
  have hlocks := B.notSynchronized
  have hS : va_S (fun _ : Nat => False) s.heap s.heap [] := va_S.rf
  have hP : va_P D vwCl [(h1, .inr (8, [x2, x3, x4, x5, x6, .ref h7, x8, x9, x10, x11, x12, x13, .int 1])), (h7, .inl (cy 1, 1000, .inl g14))] s.heap := hP
  have hl := lv_entry ([.ref h1, .int p0]) (n := 4) (Nat.le_of_ble_eq_true rfl)
  rw [lg_entry_eq]
  generalize (lg_sl ([.ref h1, .int p0]) ++ List.replicate (4 - (lg_sl ([.ref h1, .int p0])).length) Slot.unset).toArray = ls at hl ⊢
  have hl : lv_has ls 4 [(0, .ref h1), (1, .int p0)] := hl
  refine lv_iconst (v := 0) hx hb dX6_restAt_0 (by decide) ?_
  refine lv_istore_n (lv' := [(2, .int 0), (0, .ref h1), (1, .int p0)]) hx hb dX6_restAt_1 rfl hl (by decide) rfl (fun ls hl => ?_)
  refine lv_iconst (v := 0) hx hb dX6_restAt_2 (by decide) ?_
  refine lv_istore_n (lv' := [(3, .int 0), (2, .int 0), (0, .ref h1), (1, .int p0)]) hx hb dX6_restAt_3 rfl hl (by decide) rfl (fun ls hl => ?_)
  refine lv_iload_n hx hb dX6_restAt_4 rfl (lv_at hl 0 rfl) ?_
  refine lv_aload_n hx hb dX6_restAt_5 rfl (lv_at hl 2 rfl) ?_
  refine va_get (D := D) (ci := 8) (v := .int 1) (C := RX6) (T := TX6) (N := 13) hx hb hts (fun _ h => (List.mem_cons_of_mem _ (List.mem_append_left _ (List.mem_append_right _ h)))) hown hK hP 0 rfl rfl 12 (by decide) (hts (.fieldLink RX6 98 "SelfishJunction$Survey" "filled" "I") (List.mem_cons_of_mem _ (List.mem_append_left _ (List.mem_append_left _ (List.mem_of_getElem? (i := 0) rfl))))) (fun _ h9 => h9) rfl dX6_restAt_6 ?_
  refine lv_icmp_ge (tgt := 36) hx hb dX6_restAt_9 (by decide) (fun h => absurd h (by decide)) (fun _ => ?_)
  refine lv_aload_n hx hb dX6_restAt_12 rfl (lv_at hl 2 rfl) ?_
  refine lv_iload_n hx hb dX6_restAt_13 rfl (lv_at hl 0 rfl) ?_
  have hPc := hP.sub (ws' := [(h1, .inr (8, [x2, x3, x4, x5, x6, .ref h7, x8, x9, x10, x11, x12, x13, .int 1])), (h7, .inl (cy 1, 1000, .inl g14))]) [0, 1] rfl
  refine va_calli (va_runV (As := [.int 0]) (rest := []) ⟨hx, hb, hml, hown, hts⟩ (k_X6_isAtRest l D cy h1 (x2) (x3) (x4) (x5) (x6) h7 (x8) (x9) (x10) (x11) (x12) (x13) (.int 1) g14 (kg14_0)) (cwV 1 hts gX6_restAt_X6_isAtRest rfl rfl rfl (by decide +kernel) ⟨(Nat.le_of_ble_eq_true rfl), (Nat.le_of_ble_eq_true rfl)⟩) ⟨kR_fb, va_recv hK hP (ci := 8) (q0 := 0) rfl rfl, (kR_go hPc hK)⟩ rfl rfl hl.1 rfl (lv_room (Nat.le_of_ble_eq_true rfl)) dX6_restAt_14 ⟨(Nat.le_of_ble_eq_true rfl), (Nat.le_of_ble_eq_true rfl)⟩) hS (fun _ _ h => h.elim) (fun _ h => h.elim) (fun r9 u t H locs ht hvm hw hB hz1 hk1 hS => ?_)
  have hP := kx_kept hP hk1
  obtain ⟨rfl, hw⟩ := hw
  refine lv_if_eq (tgt := 30) hx hb dX6_restAt_17 (by decide) (fun h => absurd h (by decide)) (fun _ => ?_)
  refine lv_iload_n hx hb dX6_restAt_20 rfl (lv_at hl 1 rfl) ?_
  refine lv_iload_n hx hb dX6_restAt_21 rfl (lv_at hl 3 rfl) ?_
  refine lv_icmp_ne (tgt := 27) hx hb dX6_restAt_22 (by decide) (fun c_2 => ?_) (fun c_2 => ?_)
  · have f_3 : (0 : Int) ≠ p0.toInt := kx_ne c_2
    refine lv_iinc (v := 1) (lv' := [(2, .int 1), (3, .int 0), (0, .ref h1), (1, .int p0)]) hx hb dX6_restAt_27 hl (k := 1) rfl (by decide) (by decide) rfl (fun ls hl => ?_)
    refine lv_iinc (v := 1) (lv' := [(3, .int 1), (2, .int 1), (0, .ref h1), (1, .int p0)]) hx hb dX6_restAt_30 hl (k := 1) rfl (by decide) (by decide) rfl (fun ls hl => ?_)
    refine lv_goto (tgt := 4) hx hb dX6_restAt_33 (by decide) ?_
    refine lv_iload_n hx hb dX6_restAt_4 rfl (lv_at hl 0 rfl) ?_
    refine lv_aload_n hx hb dX6_restAt_5 rfl (lv_at hl 2 rfl) ?_
    refine va_get (D := D) (ci := 8) (v := .int 1) (C := RX6) (T := TX6) (N := 13) hx hb hts (fun _ h => (List.mem_cons_of_mem _ (List.mem_append_left _ (List.mem_append_right _ h)))) hown hK hP 0 rfl rfl 12 (by decide) (hts (.fieldLink RX6 98 "SelfishJunction$Survey" "filled" "I") (List.mem_cons_of_mem _ (List.mem_append_left _ (List.mem_append_left _ (List.mem_of_getElem? (i := 0) rfl))))) (fun _ h9 => h9) rfl dX6_restAt_6 ?_
    refine lv_icmp_ge (tgt := 36) hx hb dX6_restAt_9 (by decide) (fun _ => ?_) (fun h => absurd (by decide) h)
    refine lv_iconst (v := (-1)) hx hb dX6_restAt_36 (by decide) ?_
    refine W.widen (k := 0) (n := 0) (Nat.le_of_ble_eq_true rfl) (Nat.le_of_ble_eq_true rfl) ?_
    exact W.iret (v := (-1)) hx hb hr (fun t ht hW => ⟨⟨(-1), (), rfl, Or.inl (⟨rfl, (by omega)⟩), trivial⟩, hS.F ht⟩) hS.2.2 dX6_restAt_37
  · have f_4 : (0 : Int) = p0.toInt := kx_eq c_2
    refine lv_iload_n hx hb dX6_restAt_25 rfl (lv_at hl 0 rfl) ?_
    refine W.widen (k := 0) (n := 0) (Nat.le_of_ble_eq_true rfl) (Nat.le_of_ble_eq_true rfl) ?_
    exact W.iret (v := 0) hx hb hr (fun t ht hW => ⟨⟨0, (), rfl, Or.inr (⟨rfl, (by omega)⟩), trivial⟩, hS.F ht⟩) hS.2.2 dX6_restAt_26
theorem dX7_findRest_0 : decode cX7_findRest 0 = .ok (.aload_n 0, 1) := by decide +kernel
theorem dX7_findRest_1 : decode cX7_findRest 1 = .ok (.invokevirtual 264, 3) := by decide +kernel
set_option maxRecDepth 20000 in
theorem ggX7_findRest_X7_lookAtPlays : GoodIn wsX7_findRest wsX7_lookAtPlays := goodIn_ca (goodIn_ca (goodIn_ca (goodIn_r _ [8, 3, 9, 10, 11, 12, 7, 13, 14, 15, 16, 17, 18, 19, 20, 21, 22, 23, 24, 25, 26, 27, 28, 29, 30, 31, 32, 33, 34, 35, 36, 37, 38, 39, 40, 41, 42, 43, 44, 45, 46, 47, 48, 49, 50, 51, 52, 53, 54, 55, 56, 57, 58, 59, 60, 61, 62, 63, 64, 65, 66, 67, 68, 69, 70, 71, 72, 73, 74, 75, 76, 77, 78, 79, 80, 81, 82, 83, 84, 85, 86, 87, 88, 89, 90, 91, 92, 93, 94, 95, 96, 97, 98, 99, 100, 101, 102, 103, 104, 105, 106, 107, 108, 109, 110, 111, 112, 113, 114, 123, 124, 125, 126, 127, 128, 129, 130, 131, 132, 133, 134, 135, 136, 137, 138, 139, 140, 141, 142, 143, 144, 145, 146, 147, 148, 149, 150, 151, 152, 153, 154, 155, 156, 157, 158, 159, 160, 161, 162] (by decide +kernel) (by decide +kernel)) (goodIn_sub (fun _ h => List.mem_cons_of_mem _ (List.mem_append_left _ (List.mem_append_left _ (List.mem_append_right _ h)))) (by decide +kernel))) (goodIn_sub (fun _ h => List.mem_cons_of_mem _ (List.mem_append_left _ (List.mem_append_right _ h))) (by decide +kernel))) (goodIn_sub (fun _ h => List.mem_cons_of_mem _ (List.mem_append_right _ h)) (by decide +kernel))
set_option maxRecDepth 20000 in
theorem gX7_findRest_X7_lookAtPlays : GoodIn wsX7_findRest (wsV RX7 264 RX7 yX7_lookAtPlays wsX7_lookAtPlays) := goodIn_app (goodIn_of _ (by decide +kernel)) ggX7_findRest_X7_lookAtPlays
theorem dX7_findRest_4 : decode cX7_findRest 4 = .ok (.aload_n 0, 1) := by decide +kernel
theorem dX7_findRest_5 : decode cX7_findRest 5 = .ok (.getfield 29, 3) := by decide +kernel
theorem dX7_findRest_8 : decode cX7_findRest 8 = .ok (.iload_n 1, 1) := by decide +kernel
theorem dX7_findRest_9 : decode cX7_findRest 9 = .ok (.invokevirtual 385, 3) := by decide +kernel
set_option maxRecDepth 20000 in
theorem ggX7_findRest_X6_restAt : GoodIn wsX7_findRest wsX6_restAt := goodIn_ca (goodIn_r _ [118, 66, 119, 120, 121, 21, 122, 68, 130, 131, 132, 133, 134, 135, 136, 137, 138, 139, 140, 141, 142] (by decide +kernel) (by decide +kernel)) (goodIn_sub (fun _ h => List.mem_cons_of_mem _ (List.mem_append_left _ (List.mem_append_right _ h))) (by decide +kernel))
set_option maxRecDepth 20000 in
theorem gX7_findRest_X6_restAt : GoodIn wsX7_findRest (wsV RX7 385 RX6 yX6_restAt wsX6_restAt) := goodIn_app (goodIn_of _ (by decide +kernel)) ggX7_findRest_X6_restAt
theorem dX7_findRest_12 : decode cX7_findRest 12 = .ok (.istore_n 2, 1) := by decide +kernel
theorem dX7_findRest_13 : decode cX7_findRest 13 = .ok (.iload_n 2, 1) := by decide +kernel
theorem dX7_findRest_14 : decode cX7_findRest 14 = .ok (.ifCond .ge 14, 3) := by decide +kernel
theorem dX7_findRest_17 : decode cX7_findRest 17 = .ok (.new 139, 3) := by decide +kernel
theorem dX7_findRest_20 : decode cX7_findRest 20 = .ok (.dup, 1) := by decide +kernel
theorem dX7_findRest_21 : decode cX7_findRest 21 = .ok (.ldc_w 388, 3) := by decide +kernel
theorem dX7_findRest_24 : decode cX7_findRest 24 = .ok (.invokespecial 143, 3) := by decide +kernel
theorem dX7_findRest_27 : decode cX7_findRest 27 = .ok (.athrow, 1) := by decide +kernel
theorem dX7_findRest_28 : decode cX7_findRest 28 = .ok (.iload_n 2, 1) := by decide +kernel
theorem dX7_findRest_29 : decode cX7_findRest 29 = .ok (.ireturn, 1) := by decide +kernel
set_option maxHeartbeats 4000000 in
set_option maxRecDepth 100000 in
theorem k_X7_findRest (l : Launch) (hl9 : l.stackTraces = false) (D : va_G) (cy : Nat → ClassId) (h1 : Nat) (p0 : Int32) (h2 : Nat) (h3 : Nat) (x4 : Value) (h5 : Nat) (x6 : Value) (x7 : Value) (x8 : Value) (x9 : Value) (x10 : Value) (x11 : Value) (x12 : Value) (x13 : Value) (x14 : Value) (x15 : Value) (x16 : Value) (x17 : Value) (h18 : Nat) (h19 : Nat) (x20 : Value) (x21 : Value) (x22 : Value) (x23 : Value) (h24 : Nat) (g25 : Nat → Int32) (g26 : Nat → Int32) (kg26_0 : g26 0 = 0) (x27 : Value) (x28 : Value) (x29 : Value) (sz : Nat) : vx_Met l yX7_findRest wsX7_findRest ({ frames := 6, cells := 1, slots := 6, locals := 82 }) (kWX D cy [.ref h1, .int p0] [(h1, .inr (9, [.ref h2, .ref h3, x4, .ref h5, x6, x7, x8])), (h2, .inr (2, [x9, x10, x11, .int 0])), (h3, .inr (5, [x12, x13, .int 0])), (h5, .inr (8, [x14, x15, x16, x17, .ref h18, .ref h19, x20, x21, x22, x23, .ref h24, .int 0, .int 0])), (h18, .inl (cy 1, 1000, .inl g25)), (h19, .inl (cy 1, 1000, .inl g26)), (h24, .inr (5, [x27, x28, x29]))] sz) (va_Qi (fun (r : Int32) (_ : Unit) => r = 0 ∧ (0 : Int) = p0.toInt) (fun (_ : Unit) (t : State) => va_P D vwCl [(h1, .inr (9, [.ref h2, .ref h3, x4, .ref h5, x6, x7, x8])), (h2, .inr (2, [x9, x10, x11, .int 0])), (h3, .inr (5, [x12, x13, .int 0])), (h5, .inr (8, [x14, x15, x16, x17, .ref h18, .ref h19, x20, x21, x22, x23, .ref h24, .int 1, .int 1])), (h18, .inl (cy 1, 1000, .inl (upd g25 0 0))), (h19, .inl (cy 1, 1000, .inl (upd g26 0 0))), (h24, .inr (5, [x27, x28, .int 0]))] t.heap ∧ va_D (va_A [(h1, .inr (9, [.ref h2, .ref h3, x4, .ref h5, x6, x7, x8])), (h2, .inr (2, [x9, x10, x11, .int 0])), (h3, .inr (5, [x12, x13, .int 0])), (h5, .inr (8, [x14, x15, x16, x17, .ref h18, .ref h19, x20, x21, x22, x23, .ref h24, .int 0, .int 0])), (h18, .inl (cy 1, 1000, .inl g25)), (h19, .inl (cy 1, 1000, .inl g26)), (h24, .inr (5, [x27, x28, x29]))] sz) [(h1, .inr (9, [.ref h2, .ref h3, x4, .ref h5, x6, x7, x8])), (h2, .inr (2, [x9, x10, x11, .int 0])), (h3, .inr (5, [x12, x13, .int 0])), (h5, .inr (8, [x14, x15, x16, x17, .ref h18, .ref h19, x20, x21, x22, x23, .ref h24, .int 1, .int 1])), (h18, .inl (cy 1, 1000, .inl (upd g25 0 0))), (h19, .inl (cy 1, 1000, .inl (upd g26 0 0))), (h24, .inr (5, [x27, x28, .int 0]))]) (va_A [(h1, .inr (9, [.ref h2, .ref h3, x4, .ref h5, x6, x7, x8])), (h2, .inr (2, [x9, x10, x11, .int 0])), (h3, .inr (5, [x12, x13, .int 0])), (h5, .inr (8, [x14, x15, x16, x17, .ref h18, .ref h19, x20, x21, x22, x23, .ref h24, .int 0, .int 0])), (h18, .inl (cy 1, 1000, .inl g25)), (h19, .inl (cy 1, 1000, .inl g26)), (h24, .inr (5, [x27, x28, x29]))] sz)) (vx_X (fun _ : Unit => True) (fun (E : String) (_ : Unit) (_ : State) => (E = "java/util/NoSuchElementException" ∧ (0 : Int) ≠ p0.toInt)) (va_A [(h1, .inr (9, [.ref h2, .ref h3, x4, .ref h5, x6, x7, x8])), (h2, .inr (2, [x9, x10, x11, .int 0])), (h3, .inr (5, [x12, x13, .int 0])), (h5, .inr (8, [x14, x15, x16, x17, .ref h18, .ref h19, x20, x21, x22, x23, .ref h24, .int 0, .int 0])), (h18, .inl (cy 1, 1000, .inl g25)), (h19, .inl (cy 1, 1000, .inl g26)), (h24, .inr (5, [x27, x28, x29]))] sz)) 1 6 (va_A [(h1, .inr (9, [.ref h2, .ref h3, x4, .ref h5, x6, x7, x8])), (h2, .inr (2, [x9, x10, x11, .int 0])), (h3, .inr (5, [x12, x13, .int 0])), (h5, .inr (8, [x14, x15, x16, x17, .ref h18, .ref h19, x20, x21, x22, x23, .ref h24, .int 0, .int 0])), (h18, .inl (cy 1, 1000, .inl g25)), (h19, .inl (cy 1, 1000, .inl g26)), (h24, .inr (5, [x27, x28, x29]))] sz) := by
  refine vx_ofW (cc := cX7_findRest) (maxL := 3) (ret := (some .int)) (by decide) rfl ?_
  intro p e s m args below meth c s₁ B hml ht9 hv
  obtain ⟨rfl, hsz, hP, hK, hD0, hE⟩ := hv
  have hx := B.exec
  have hb := B.bytes
  have hr := B.returns
  have hts := atoms_spec (ws := wsX7_findRest) B.pre
  have hown : s.vm.findClass RX7 = some m.cls := findClass_of_methodNamed B.named
  have hlocks := B.notSynchronized
  subst hsz
  have hD := hD0.self (sz := s.heap.size)
  generalize hAe : va_A [(h1, .inr (9, [.ref h2, .ref h3, x4, .ref h5, x6, x7, x8])), (h2, .inr (2, [x9, x10, x11, .int 0])), (h3, .inr (5, [x12, x13, .int 0])), (h5, .inr (8, [x14, x15, x16, x17, .ref h18, .ref h19, x20, x21, x22, x23, .ref h24, .int 0, .int 0])), (h18, .inl (cy 1, 1000, .inl g25)), (h19, .inl (cy 1, 1000, .inl g26)), (h24, .inr (5, [x27, x28, x29]))] s.heap.size = A at hD hE ⊢
  have hA : ∀ q : Nat, s.heap.size ≤ q → A q := fun q h => by rw [← hAe]; exact Or.inr h
  have hS : va_S A s.heap s.heap [] := va_S.rf
  have hP : va_P D vwCl [(h1, .inr (9, [.ref h2, .ref h3, x4, .ref h5, x6, x7, x8])), (h2, .inr (2, [x9, x10, x11, .int 0])), (h3, .inr (5, [x12, x13, .int 0])), (h5, .inr (8, [x14, x15, x16, x17, .ref h18, .ref h19, x20, x21, x22, x23, .ref h24, .int 0, .int 0])), (h18, .inl (cy 1, 1000, .inl g25)), (h19, .inl (cy 1, 1000, .inl g26)), (h24, .inr (5, [x27, x28, x29]))] s.heap := hP
  have hl := lv_entry ([.ref h1, .int p0]) (n := 3) (Nat.le_of_ble_eq_true rfl)
  rw [lg_entry_eq]
  generalize (lg_sl ([.ref h1, .int p0]) ++ List.replicate (3 - (lg_sl ([.ref h1, .int p0])).length) Slot.unset).toArray = ls at hl ⊢
  have hl : lv_has ls 3 [(0, .ref h1), (1, .int p0)] := hl
  refine lv_aload_n hx hb dX7_findRest_0 rfl (lv_at hl 0 rfl) ?_
  have hPc := hP.sub (ws' := [(h1, .inr (9, [.ref h2, .ref h3, x4, .ref h5, x6, x7, x8])), (h2, .inr (2, [x9, x10, x11, .int 0])), (h3, .inr (5, [x12, x13, .int 0])), (h5, .inr (8, [x14, x15, x16, x17, .ref h18, .ref h19, x20, x21, x22, x23, .ref h24, .int 0, .int 0])), (h18, .inl (cy 1, 1000, .inl g25)), (h19, .inl (cy 1, 1000, .inl g26)), (h24, .inr (5, [x27, x28, x29]))]) [0, 1, 2, 3, 4, 5, 6] rfl
  have hDc := hD.sub (ws' := [(h1, .inr (9, [.ref h2, .ref h3, x4, .ref h5, x6, x7, x8])), (h2, .inr (2, [x9, x10, x11, .int 0])), (h3, .inr (5, [x12, x13, .int 0])), (h5, .inr (8, [x14, x15, x16, x17, .ref h18, .ref h19, x20, x21, x22, x23, .ref h24, .int 0, .int 0])), (h18, .inl (cy 1, 1000, .inl g25)), (h19, .inl (cy 1, 1000, .inl g26)), (h24, .inr (5, [x27, x28, x29]))]) [0, 1, 2, 3, 4, 5, 6] (by decide) rfl
  have hFc := va_free (wc := [(h1, .inr (9, [.ref h2, .ref h3, x4, .ref h5, x6, x7, x8])), (h2, .inr (2, [x9, x10, x11, .int 0])), (h3, .inr (5, [x12, x13, .int 0])), (h5, .inr (8, [x14, x15, x16, x17, .ref h18, .ref h19, x20, x21, x22, x23, .ref h24, .int 0, .int 0])), (h18, .inl (cy 1, 1000, .inl g25)), (h19, .inl (cy 1, 1000, .inl g26)), (h24, .inr (5, [x27, x28, x29]))]) hD hS hA [0, 1, 2, 3, 4, 5, 6] rfl
  refine va_callv (va_runV (As := []) (rest := []) ⟨hx, hb, hml, hown, hts⟩ (k_X7_lookAtPlays l D cy h1 h2 h3 (x4) h5 (x6) (x7) (x8) (x9) (x10) (x11) (x12) (x13) (x14) (x15) (x16) (x17) h18 h19 (x20) (x21) (x22) (x23) h24 g25 g26 (x27) (x28) (x29) s.heap.size) (cwV 0 hts gX7_findRest_X7_lookAtPlays rfl rfl rfl (by decide +kernel) ⟨(Nat.le_of_ble_eq_true rfl), (Nat.le_of_ble_eq_true rfl)⟩) ⟨kW_fb, va_recv hK hP (ci := 9) (q0 := 0) rfl rfl, (kW_go hPc hK hDc)⟩ rfl rfl hl.1 rfl (lv_room (Nat.le_of_ble_eq_true rfl)) dX7_findRest_1 ⟨(Nat.le_of_ble_eq_true rfl), (Nat.le_of_ble_eq_true rfl)⟩) hS (fun q _ h => hFc q h) hFc (fun u t H locs ht hvm hw hB hz1 hk1 hS => ?_)
  obtain ⟨hP1, hD1⟩ := hB
  rw [ht] at hP1
  try dsimp only at hw hP1 hD1
  obtain ⟨hP, hD⟩ := va_join (wr := []) (w1 := [(h1, .inr (9, [.ref h2, .ref h3, x4, .ref h5, x6, x7, x8])), (h2, .inr (2, [x9, x10, x11, .int 0])), (h3, .inr (5, [x12, x13, .int 0])), (h5, .inr (8, [x14, x15, x16, x17, .ref h18, .ref h19, x20, x21, x22, x23, .ref h24, .int 1, .int 1])), (h18, .inl (cy 1, 1000, .inl (upd g25 0 0))), (h19, .inl (cy 1, 1000, .inl (upd g26 0 0))), (h24, .inr (5, [x27, x28, .int 0]))]) hP hD [0, 1, 2, 3, 4, 5, 6] [] rfl rfl (by decide) (by decide) hk1 hFc hP1 hD1
  have hP : va_P D vwCl [(h1, .inr (9, [.ref h2, .ref h3, x4, .ref h5, x6, x7, x8])), (h2, .inr (2, [x9, x10, x11, .int 0])), (h3, .inr (5, [x12, x13, .int 0])), (h5, .inr (8, [x14, x15, x16, x17, .ref h18, .ref h19, x20, x21, x22, x23, .ref h24, .int 1, .int 1])), (h18, .inl (cy 1, 1000, .inl (upd g25 0 0))), (h19, .inl (cy 1, 1000, .inl (upd g26 0 0))), (h24, .inr (5, [x27, x28, .int 0]))] H := hP
  have hD : va_D A [(h1, .inr (9, [.ref h2, .ref h3, x4, .ref h5, x6, x7, x8])), (h2, .inr (2, [x9, x10, x11, .int 0])), (h3, .inr (5, [x12, x13, .int 0])), (h5, .inr (8, [x14, x15, x16, x17, .ref h18, .ref h19, x20, x21, x22, x23, .ref h24, .int 1, .int 1])), (h18, .inl (cy 1, 1000, .inl (upd g25 0 0))), (h19, .inl (cy 1, 1000, .inl (upd g26 0 0))), (h24, .inr (5, [x27, x28, .int 0]))] := hD
  refine lv_aload_n hx hb dX7_findRest_4 rfl (lv_at hl 0 rfl) ?_
  refine va_get (D := D) (ci := 9) (v := .ref h5) (C := RX7) (T := TX7) (N := 7) hx hb hts (fun _ h => (List.mem_cons_of_mem _ (List.mem_append_left _ (List.mem_append_left _ (List.mem_append_left _ (List.mem_append_left _ (List.mem_append_left _ (List.mem_append_left _ (List.mem_append_left _ (List.mem_append_left _ (List.mem_append_left _ (List.mem_append_right _ h)))))))))))) hown hK hP 0 rfl rfl 3 (by decide) (hts (.fieldLink RX7 29 "SelfishJunction" "survey" "LSelfishJunction$Survey;") (List.mem_cons_of_mem _ (List.mem_append_left _ (List.mem_append_left _ (List.mem_append_left _ (List.mem_append_left _ (List.mem_append_left _ (List.mem_append_left _ (List.mem_append_left _ (List.mem_append_left _ (List.mem_append_left _ (List.mem_append_left _ (List.mem_append_left _ (List.mem_of_getElem? (i := 2) rfl)))))))))))))) (fun _ h9 => h9) rfl dX7_findRest_5 ?_
  refine lv_iload_n hx hb dX7_findRest_8 rfl (lv_at hl 1 rfl) ?_
  have hPc := hP.sub (ws' := [(h5, .inr (8, [x14, x15, x16, x17, .ref h18, .ref h19, x20, x21, x22, x23, .ref h24, .int 1, .int 1])), (h19, .inl (cy 1, 1000, .inl (upd g26 0 0)))]) [3, 5] rfl
  refine va_calli (va_runV (As := [.int p0]) (rest := []) ⟨hx, hb, hml, hown, hts⟩ (k_X6_restAt l D cy h5 p0 (x14) (x15) (x16) (x17) (.ref h18) h19 (x20) (x21) (x22) (x23) (.ref h24) (.int 1) (upd g26 0 0) (rfl)) (cwV 1 hts gX7_findRest_X6_restAt rfl rfl rfl (by decide +kernel) ⟨(Nat.le_of_ble_eq_true rfl), (Nat.le_of_ble_eq_true rfl)⟩) ⟨kR_fb, va_recv hK hP (ci := 8) (q0 := 3) rfl rfl, (kR_go hPc hK)⟩ rfl rfl hl.1 rfl (lv_room (Nat.le_of_ble_eq_true rfl)) dX7_findRest_9 ⟨(Nat.le_of_ble_eq_true rfl), (Nat.le_of_ble_eq_true rfl)⟩) hS (fun _ _ h => h.elim) (fun _ h => h.elim) (fun r9 u t H locs ht hvm hw hB hz1 hk1 hS => ?_)
  have hP := kx_kept hP hk1
  rcases hw with ⟨rfl, hw⟩ | ⟨rfl, hw⟩
  · have f_2 : (0 : Int) ≠ p0.toInt := hw
    refine lv_istore_n (lv' := [(2, .int (-1)), (0, .ref h1), (1, .int p0)]) hx hb dX7_findRest_12 rfl hl (by decide) rfl (fun ls hl => ?_)
    refine lv_iload_n hx hb dX7_findRest_13 rfl (lv_at hl 0 rfl) ?_
    refine lv_if_ge (tgt := 28) hx hb dX7_findRest_14 (by decide) (fun h => absurd h (by decide)) (fun _ => ?_)
    obtain ⟨sa9, hsa9⟩ := hE.2.1 (388, "no such play at rest") (by decide +kernel)
    exact vn_throwW (own := RX7) (text := "no such play at rest") (A := A) hx hb hl9 hown (hts (.classLink RX7 139 "java/util/NoSuchElementException") (List.mem_cons_of_mem _ (List.mem_append_left _ (List.mem_append_left _ (List.mem_append_left _ (List.mem_append_left _ (List.mem_append_left _ (List.mem_append_left _ (List.mem_append_left _ (List.mem_append_left _ (List.mem_append_left _ (List.mem_append_left _ (List.mem_append_left _ (List.mem_of_getElem? (i := 0) rfl)))))))))))))) (hts (.initialized "java/util/NoSuchElementException") (List.mem_cons_of_mem _ (List.mem_append_left _ (List.mem_append_left _ (List.mem_append_left _ (List.mem_append_left _ (List.mem_append_left _ (List.mem_append_left _ (List.mem_append_left _ (List.mem_append_left _ (List.mem_append_left _ (List.mem_append_left _ (List.mem_append_left _ (List.mem_of_getElem? (i := 1) rfl)))))))))))))) hsa9 (ex_hatN hE (fun w h => hts w (List.mem_cons_of_mem _ (List.mem_append_left _ (List.mem_append_left _ (List.mem_append_left _ (List.mem_append_right _ h)))))) (by decide +kernel)) (by decide +kernel) hE.1.1 hE.1.2 hS (by rw [hml]; exact hl.1) dX7_findRest_17 dX7_findRest_20 dX7_findRest_21 dX7_findRest_24 dX7_findRest_27 (fun x hx => (ht9 x hx).elim) (Nat.le_of_ble_eq_true rfl) (Nat.le_of_ble_eq_true rfl) (Nat.le_of_ble_eq_true rfl) (Nat.le_of_ble_eq_true rfl) hlocks (fun t hal hz hk => ⟨(), trivial, (⟨rfl, (by omega)⟩), kx_thr hS hz hk⟩) hS.2.2 (Nat.le_of_ble_eq_true rfl) (Nat.le_of_ble_eq_true rfl)
  · have f_3 : (0 : Int) = p0.toInt := hw
    refine lv_istore_n (lv' := [(2, .int 0), (0, .ref h1), (1, .int p0)]) hx hb dX7_findRest_12 rfl hl (by decide) rfl (fun ls hl => ?_)
    refine lv_iload_n hx hb dX7_findRest_13 rfl (lv_at hl 0 rfl) ?_
    refine lv_if_ge (tgt := 28) hx hb dX7_findRest_14 (by decide) (fun _ => ?_) (fun h => absurd (by decide) h)
    refine lv_iload_n hx hb dX7_findRest_28 rfl (lv_at hl 0 rfl) ?_
    refine vx_ret ?_
    refine W.widen (k := 1) (n := 6) (Nat.le_of_ble_eq_true rfl) (Nat.le_of_ble_eq_true rfl) ?_
    have hP9 := hP.sub (ws' := [(h1, .inr (9, [.ref h2, .ref h3, x4, .ref h5, x6, x7, x8])), (h2, .inr (2, [x9, x10, x11, .int 0])), (h3, .inr (5, [x12, x13, .int 0])), (h5, .inr (8, [x14, x15, x16, x17, .ref h18, .ref h19, x20, x21, x22, x23, .ref h24, .int 1, .int 1])), (h18, .inl (cy 1, 1000, .inl (upd g25 0 0))), (h19, .inl (cy 1, 1000, .inl (upd g26 0 0))), (h24, .inr (5, [x27, x28, .int 0]))]) [0, 1, 2, 3, 4, 5, 6] rfl
    have hD9 := hD.sub (ws' := [(h1, .inr (9, [.ref h2, .ref h3, x4, .ref h5, x6, x7, x8])), (h2, .inr (2, [x9, x10, x11, .int 0])), (h3, .inr (5, [x12, x13, .int 0])), (h5, .inr (8, [x14, x15, x16, x17, .ref h18, .ref h19, x20, x21, x22, x23, .ref h24, .int 1, .int 1])), (h18, .inl (cy 1, 1000, .inl (upd g25 0 0))), (h19, .inl (cy 1, 1000, .inl (upd g26 0 0))), (h24, .inr (5, [x27, x28, .int 0]))]) [0, 1, 2, 3, 4, 5, 6] (by decide) rfl
    exact W.iret (v := 0) hx hb hr (fun t ht hW => ⟨⟨0, (), rfl, ⟨rfl, (by omega)⟩, ⟨by rw [ht]; exact hP9, hD9⟩⟩, hS.F ht⟩) hS.2.2 dX7_findRest_29
theorem dX7_restTotal_0 : decode cX7_restTotal 0 = .ok (.aload_n 0, 1) := by decide +kernel
theorem dX7_restTotal_1 : decode cX7_restTotal 1 = .ok (.getfield 29, 3) := by decide +kernel
theorem dX7_restTotal_4 : decode cX7_restTotal 4 = .ok (.getfield 271, 3) := by decide +kernel
theorem dX7_restTotal_7 : decode cX7_restTotal 7 = .ok (.aload_n 0, 1) := by decide +kernel
theorem dX7_restTotal_8 : decode cX7_restTotal 8 = .ok (.iload_n 1, 1) := by decide +kernel
theorem dX7_restTotal_9 : decode cX7_restTotal 9 = .ok (.invokevirtual 274, 3) := by decide +kernel
set_option maxRecDepth 20000 in
theorem ggX7_restTotal_X7_findRest : GoodIn wsX7_restTotal wsX7_findRest := goodIn_ca (goodIn_ca (goodIn_ca (goodIn_ca (goodIn_r _ [7, 8, 9, 1, 10, 11, 12, 6, 13, 14, 15, 16, 17, 18, 19, 20, 21, 22, 23, 24, 25, 26, 27, 28, 29, 30, 31, 32, 33, 34, 35, 36, 37, 38, 39, 40, 41, 42, 43, 44, 45, 46, 47, 48, 49, 50, 51, 52, 53, 54, 55, 56, 57, 58, 59, 60, 61, 62, 63, 64, 65, 66, 67, 68, 69, 70, 71, 72, 73, 74, 75, 76, 77, 78, 79, 80, 81, 82, 83, 84, 85, 86, 87, 88, 89, 90, 91, 92, 93, 94, 95, 96, 97, 98, 99, 100, 101, 102, 103, 104, 105, 106, 107, 108, 109, 110, 111, 112, 113, 114, 115, 116, 117, 118, 119, 120, 121, 122, 123, 124, 125, 126, 127, 128, 129, 130, 131, 132, 133, 134, 135, 136, 137, 138, 139, 140, 141, 142, 143, 144, 145, 146, 147, 148, 149, 150, 151, 152, 153, 154, 155, 156, 157, 158, 159, 160, 161, 162, 163, 164, 165, 166, 167] (by decide +kernel) (by decide +kernel)) (goodIn_sub (fun _ h => List.mem_cons_of_mem _ (List.mem_append_left _ (List.mem_append_left _ (List.mem_append_right _ h)))) (by decide +kernel))) (goodIn_sub (fun _ h => List.mem_cons_of_mem _ (List.mem_append_left _ (List.mem_append_right _ h))) (by decide +kernel))) (goodIn_sub (fun _ h => List.mem_cons_of_mem _ (List.mem_append_left _ (List.mem_append_left _ (List.mem_append_left _ (List.mem_append_right _ h))))) (by decide +kernel))) (goodIn_sub (fun _ h => List.mem_cons_of_mem _ (List.mem_append_right _ h)) (by decide +kernel))
set_option maxRecDepth 20000 in
theorem gX7_restTotal_X7_findRest : GoodIn wsX7_restTotal (wsV RX7 274 RX7 yX7_findRest wsX7_findRest) := goodIn_app (goodIn_of _ (by decide +kernel)) ggX7_restTotal_X7_findRest
theorem dX7_restTotal_12 : decode cX7_restTotal 12 = .ok (.iaload, 1) := by decide +kernel
theorem dX7_restTotal_13 : decode cX7_restTotal 13 = .ok (.ireturn, 1) := by decide +kernel
set_option maxHeartbeats 4000000 in
set_option maxRecDepth 100000 in
theorem k_X7_restTotal (l : Launch) (hl9 : l.stackTraces = false) (D : va_G) (cy : Nat → ClassId) (h1 : Nat) (p0 : Int32) (h2 : Nat) (h3 : Nat) (x4 : Value) (h5 : Nat) (x6 : Value) (x7 : Value) (x8 : Value) (x9 : Value) (x10 : Value) (x11 : Value) (x12 : Value) (x13 : Value) (x14 : Value) (x15 : Value) (x16 : Value) (x17 : Value) (h18 : Nat) (h19 : Nat) (x20 : Value) (x21 : Value) (x22 : Value) (x23 : Value) (h24 : Nat) (g25 : Nat → Int32) (kg25_0 : g25 0 = 0) (g26 : Nat → Int32) (kg26_0 : g26 0 = 0) (x27 : Value) (x28 : Value) (x29 : Value) (sz : Nat) : vx_Met l yX7_restTotal wsX7_restTotal ({ frames := 7, cells := 1, slots := 6, locals := 104 }) (kWX D cy [.ref h1, .int p0] [(h1, .inr (9, [.ref h2, .ref h3, x4, .ref h5, x6, x7, x8])), (h2, .inr (2, [x9, x10, x11, .int 0])), (h3, .inr (5, [x12, x13, .int 0])), (h5, .inr (8, [x14, x15, x16, x17, .ref h18, .ref h19, x20, x21, x22, x23, .ref h24, .int 0, .int 0])), (h18, .inl (cy 1, 1000, .inl g25)), (h19, .inl (cy 1, 1000, .inl g26)), (h24, .inr (5, [x27, x28, x29]))] sz) (va_Qi (fun (r : Int32) (_ : Unit) => r = 0 ∧ (0 : Int) = p0.toInt) (fun (_ : Unit) (t : State) => va_P D vwCl [(h1, .inr (9, [.ref h2, .ref h3, x4, .ref h5, x6, x7, x8])), (h2, .inr (2, [x9, x10, x11, .int 0])), (h3, .inr (5, [x12, x13, .int 0])), (h5, .inr (8, [x14, x15, x16, x17, .ref h18, .ref h19, x20, x21, x22, x23, .ref h24, .int 1, .int 1])), (h18, .inl (cy 1, 1000, .inl (upd g25 0 0))), (h19, .inl (cy 1, 1000, .inl (upd g26 0 0))), (h24, .inr (5, [x27, x28, .int 0]))] t.heap ∧ va_D (va_A [(h1, .inr (9, [.ref h2, .ref h3, x4, .ref h5, x6, x7, x8])), (h2, .inr (2, [x9, x10, x11, .int 0])), (h3, .inr (5, [x12, x13, .int 0])), (h5, .inr (8, [x14, x15, x16, x17, .ref h18, .ref h19, x20, x21, x22, x23, .ref h24, .int 0, .int 0])), (h18, .inl (cy 1, 1000, .inl g25)), (h19, .inl (cy 1, 1000, .inl g26)), (h24, .inr (5, [x27, x28, x29]))] sz) [(h1, .inr (9, [.ref h2, .ref h3, x4, .ref h5, x6, x7, x8])), (h2, .inr (2, [x9, x10, x11, .int 0])), (h3, .inr (5, [x12, x13, .int 0])), (h5, .inr (8, [x14, x15, x16, x17, .ref h18, .ref h19, x20, x21, x22, x23, .ref h24, .int 1, .int 1])), (h18, .inl (cy 1, 1000, .inl (upd g25 0 0))), (h19, .inl (cy 1, 1000, .inl (upd g26 0 0))), (h24, .inr (5, [x27, x28, .int 0]))]) (va_A [(h1, .inr (9, [.ref h2, .ref h3, x4, .ref h5, x6, x7, x8])), (h2, .inr (2, [x9, x10, x11, .int 0])), (h3, .inr (5, [x12, x13, .int 0])), (h5, .inr (8, [x14, x15, x16, x17, .ref h18, .ref h19, x20, x21, x22, x23, .ref h24, .int 0, .int 0])), (h18, .inl (cy 1, 1000, .inl g25)), (h19, .inl (cy 1, 1000, .inl g26)), (h24, .inr (5, [x27, x28, x29]))] sz)) (vx_X (fun _ : Unit => True) (fun (E : String) (_ : Unit) (_ : State) => (E = "java/util/NoSuchElementException" ∧ (0 : Int) ≠ p0.toInt)) (va_A [(h1, .inr (9, [.ref h2, .ref h3, x4, .ref h5, x6, x7, x8])), (h2, .inr (2, [x9, x10, x11, .int 0])), (h3, .inr (5, [x12, x13, .int 0])), (h5, .inr (8, [x14, x15, x16, x17, .ref h18, .ref h19, x20, x21, x22, x23, .ref h24, .int 0, .int 0])), (h18, .inl (cy 1, 1000, .inl g25)), (h19, .inl (cy 1, 1000, .inl g26)), (h24, .inr (5, [x27, x28, x29]))] sz)) 1 6 (va_A [(h1, .inr (9, [.ref h2, .ref h3, x4, .ref h5, x6, x7, x8])), (h2, .inr (2, [x9, x10, x11, .int 0])), (h3, .inr (5, [x12, x13, .int 0])), (h5, .inr (8, [x14, x15, x16, x17, .ref h18, .ref h19, x20, x21, x22, x23, .ref h24, .int 0, .int 0])), (h18, .inl (cy 1, 1000, .inl g25)), (h19, .inl (cy 1, 1000, .inl g26)), (h24, .inr (5, [x27, x28, x29]))] sz) := by
  refine vx_ofW (cc := cX7_restTotal) (maxL := 2) (ret := (some .int)) (by decide) rfl ?_
  intro p e s m args below meth c s₁ B hml ht9 hv
  obtain ⟨rfl, hsz, hP, hK, hD0, hE⟩ := hv
  have hx := B.exec
  have hb := B.bytes
  have hr := B.returns
  have hts := atoms_spec (ws := wsX7_restTotal) B.pre
  have hown : s.vm.findClass RX7 = some m.cls := findClass_of_methodNamed B.named
  have hlocks := B.notSynchronized
  subst hsz
  have hD := hD0.self (sz := s.heap.size)
  generalize hAe : va_A [(h1, .inr (9, [.ref h2, .ref h3, x4, .ref h5, x6, x7, x8])), (h2, .inr (2, [x9, x10, x11, .int 0])), (h3, .inr (5, [x12, x13, .int 0])), (h5, .inr (8, [x14, x15, x16, x17, .ref h18, .ref h19, x20, x21, x22, x23, .ref h24, .int 0, .int 0])), (h18, .inl (cy 1, 1000, .inl g25)), (h19, .inl (cy 1, 1000, .inl g26)), (h24, .inr (5, [x27, x28, x29]))] s.heap.size = A at hD hE ⊢
  have hA : ∀ q : Nat, s.heap.size ≤ q → A q := fun q h => by rw [← hAe]; exact Or.inr h
  have hS : va_S A s.heap s.heap [] := va_S.rf
  have hP : va_P D vwCl [(h1, .inr (9, [.ref h2, .ref h3, x4, .ref h5, x6, x7, x8])), (h2, .inr (2, [x9, x10, x11, .int 0])), (h3, .inr (5, [x12, x13, .int 0])), (h5, .inr (8, [x14, x15, x16, x17, .ref h18, .ref h19, x20, x21, x22, x23, .ref h24, .int 0, .int 0])), (h18, .inl (cy 1, 1000, .inl g25)), (h19, .inl (cy 1, 1000, .inl g26)), (h24, .inr (5, [x27, x28, x29]))] s.heap := hP
  have hl := lv_entry ([.ref h1, .int p0]) (n := 2) (Nat.le_of_ble_eq_true rfl)
  rw [lg_entry_eq]
  generalize (lg_sl ([.ref h1, .int p0]) ++ List.replicate (2 - (lg_sl ([.ref h1, .int p0])).length) Slot.unset).toArray = ls at hl ⊢
  have hl : lv_has ls 2 [(0, .ref h1), (1, .int p0)] := hl
  refine lv_aload_n hx hb dX7_restTotal_0 rfl (lv_at hl 0 rfl) ?_
  refine va_get (D := D) (ci := 9) (v := .ref h5) (C := RX7) (T := TX7) (N := 7) hx hb hts (fun _ h => (List.mem_cons_of_mem _ (List.mem_append_left _ (List.mem_append_left _ (List.mem_append_left _ (List.mem_append_left _ (List.mem_append_left _ (List.mem_append_left _ (List.mem_append_left _ (List.mem_append_left _ (List.mem_append_left _ (List.mem_append_right _ h)))))))))))) hown hK hP 0 rfl rfl 3 (by decide) (hts (.fieldLink RX7 29 "SelfishJunction" "survey" "LSelfishJunction$Survey;") (List.mem_cons_of_mem _ (List.mem_append_left _ (List.mem_append_left _ (List.mem_append_left _ (List.mem_append_left _ (List.mem_append_left _ (List.mem_append_left _ (List.mem_append_left _ (List.mem_append_left _ (List.mem_append_left _ (List.mem_append_left _ (List.mem_append_left _ (List.mem_of_getElem? (i := 0) rfl)))))))))))))) (fun _ h9 => h9) rfl dX7_restTotal_1 ?_
  refine va_get (D := D) (ci := 8) (v := .ref h18) (C := RX6) (T := TX6) (N := 13) hx hb hts (fun _ h => (List.mem_cons_of_mem _ (List.mem_append_left _ (List.mem_append_left _ (List.mem_append_left _ (List.mem_append_left _ (List.mem_append_left _ (List.mem_append_left _ (List.mem_append_left _ (List.mem_append_left _ (List.mem_append_right _ h))))))))))) hown hK hP 3 rfl rfl 4 (by decide) (hts (.fieldLink RX7 271 "SelfishJunction$Survey" "totals" "[I") (List.mem_cons_of_mem _ (List.mem_append_left _ (List.mem_append_left _ (List.mem_append_left _ (List.mem_append_left _ (List.mem_append_left _ (List.mem_append_left _ (List.mem_append_left _ (List.mem_append_left _ (List.mem_append_left _ (List.mem_append_left _ (List.mem_append_left _ (List.mem_of_getElem? (i := 1) rfl)))))))))))))) (fun _ h9 => h9) rfl dX7_restTotal_4 ?_
  refine lv_aload_n hx hb dX7_restTotal_7 rfl (lv_at hl 0 rfl) ?_
  refine lv_iload_n hx hb dX7_restTotal_8 rfl (lv_at hl 1 rfl) ?_
  have hPc := hP.sub (ws' := [(h1, .inr (9, [.ref h2, .ref h3, x4, .ref h5, x6, x7, x8])), (h2, .inr (2, [x9, x10, x11, .int 0])), (h3, .inr (5, [x12, x13, .int 0])), (h5, .inr (8, [x14, x15, x16, x17, .ref h18, .ref h19, x20, x21, x22, x23, .ref h24, .int 0, .int 0])), (h18, .inl (cy 1, 1000, .inl g25)), (h19, .inl (cy 1, 1000, .inl g26)), (h24, .inr (5, [x27, x28, x29]))]) [0, 1, 2, 3, 4, 5, 6] rfl
  have hDc := hD.sub (ws' := [(h1, .inr (9, [.ref h2, .ref h3, x4, .ref h5, x6, x7, x8])), (h2, .inr (2, [x9, x10, x11, .int 0])), (h3, .inr (5, [x12, x13, .int 0])), (h5, .inr (8, [x14, x15, x16, x17, .ref h18, .ref h19, x20, x21, x22, x23, .ref h24, .int 0, .int 0])), (h18, .inl (cy 1, 1000, .inl g25)), (h19, .inl (cy 1, 1000, .inl g26)), (h24, .inr (5, [x27, x28, x29]))]) [0, 1, 2, 3, 4, 5, 6] (by decide) rfl
  have hFc := va_free (wc := [(h1, .inr (9, [.ref h2, .ref h3, x4, .ref h5, x6, x7, x8])), (h2, .inr (2, [x9, x10, x11, .int 0])), (h3, .inr (5, [x12, x13, .int 0])), (h5, .inr (8, [x14, x15, x16, x17, .ref h18, .ref h19, x20, x21, x22, x23, .ref h24, .int 0, .int 0])), (h18, .inl (cy 1, 1000, .inl g25)), (h19, .inl (cy 1, 1000, .inl g26)), (h24, .inr (5, [x27, x28, x29]))]) hD hS hA [0, 1, 2, 3, 4, 5, 6] rfl
  refine vx_calli (vx_runV (As := [.int p0]) (rest := [.ref h18]) ⟨hx, hb, hml, hown, hts⟩ (k_X7_findRest l hl9 D cy h1 p0 h2 h3 (x4) h5 (x6) (x7) (x8) (x9) (x10) (x11) (x12) (x13) (x14) (x15) (x16) (x17) h18 h19 (x20) (x21) (x22) (x23) h24 g25 g26 (kg26_0) (x27) (x28) (x29) s.heap.size) (cwV 1 hts gX7_restTotal_X7_findRest rfl rfl rfl (by decide +kernel) ⟨(Nat.le_of_ble_eq_true rfl), (Nat.le_of_ble_eq_true rfl)⟩) ⟨kWX_fb, va_recv hK hP (ci := 9) (q0 := 0) rfl rfl, (kWX_go hPc hK hDc hFc hE hS)⟩ rfl rfl hl.1 rfl (lv_room (Nat.le_of_ble_eq_true rfl)) dX7_restTotal_9 ⟨(Nat.le_of_ble_eq_true rfl), (Nat.le_of_ble_eq_true rfl)⟩) hS (fun q _ h => hFc q h) hFc (fun q _ h => hFc q h) (fun E9 ce9 q9 u t H locs ht hvm hw hB hz1 hk1 hS hce hcv hcl => ?_) (fun r9 u t H locs ht hvm hw hB hz1 hk1 hS => ?_)
  · obtain ⟨rfl, hB⟩ := hB
    have f_1 : (0 : Int) ≠ p0.toInt := hB
    exact vx_out (fun x hx => (ht9 x hx).elim) hlocks hce hcv hcl (fun t ht _ => ⟨(), trivial, (⟨rfl, (by omega)⟩), hS.F ht⟩) hS.2.2 (Nat.le_of_ble_eq_true rfl) (Nat.le_of_ble_eq_true rfl)
  · obtain ⟨hP1, hD1⟩ := hB
    rw [ht] at hP1
    try dsimp only at hw hP1 hD1
    obtain ⟨hP, hD⟩ := va_join (wr := []) (w1 := [(h1, .inr (9, [.ref h2, .ref h3, x4, .ref h5, x6, x7, x8])), (h2, .inr (2, [x9, x10, x11, .int 0])), (h3, .inr (5, [x12, x13, .int 0])), (h5, .inr (8, [x14, x15, x16, x17, .ref h18, .ref h19, x20, x21, x22, x23, .ref h24, .int 1, .int 1])), (h18, .inl (cy 1, 1000, .inl (upd g25 0 0))), (h19, .inl (cy 1, 1000, .inl (upd g26 0 0))), (h24, .inr (5, [x27, x28, .int 0]))]) hP hD [0, 1, 2, 3, 4, 5, 6] [] rfl rfl (by decide) (by decide) hk1 hFc hP1 hD1
    have hP : va_P D vwCl [(h1, .inr (9, [.ref h2, .ref h3, x4, .ref h5, x6, x7, x8])), (h2, .inr (2, [x9, x10, x11, .int 0])), (h3, .inr (5, [x12, x13, .int 0])), (h5, .inr (8, [x14, x15, x16, x17, .ref h18, .ref h19, x20, x21, x22, x23, .ref h24, .int 1, .int 1])), (h18, .inl (cy 1, 1000, .inl (upd g25 0 0))), (h19, .inl (cy 1, 1000, .inl (upd g26 0 0))), (h24, .inr (5, [x27, x28, .int 0]))] H := hP
    have hD : va_D A [(h1, .inr (9, [.ref h2, .ref h3, x4, .ref h5, x6, x7, x8])), (h2, .inr (2, [x9, x10, x11, .int 0])), (h3, .inr (5, [x12, x13, .int 0])), (h5, .inr (8, [x14, x15, x16, x17, .ref h18, .ref h19, x20, x21, x22, x23, .ref h24, .int 1, .int 1])), (h18, .inl (cy 1, 1000, .inl (upd g25 0 0))), (h19, .inl (cy 1, 1000, .inl (upd g26 0 0))), (h24, .inr (5, [x27, x28, .int 0]))] := hD
    refine W.widen (k := 1) (n := 6) (Nat.le_of_ble_eq_true rfl) (Nat.le_of_ble_eq_true rfl) ?_
    obtain ⟨rfl, hw⟩ := hw
    have f_2 : (0 : Int) = p0.toInt := hw
    refine va_iald hx hb hK hP 4 1 rfl rfl (kx_in 0 1000 rfl ⟨(Nat.le_of_ble_eq_true rfl), (Nat.le_of_ble_eq_true rfl)⟩ (Nat.le_of_ble_eq_true rfl)) dX7_restTotal_12 ?_
    refine lv_topi (fun v_3 ev_3 => ?_)
    obtain rfl : v_3 = 0 := ev_3.trans rfl
    refine vx_ret ?_
    refine W.widen (k := 1) (n := 6) (Nat.le_of_ble_eq_true rfl) (Nat.le_of_ble_eq_true rfl) ?_
    have hP9 := hP.sub (ws' := [(h1, .inr (9, [.ref h2, .ref h3, x4, .ref h5, x6, x7, x8])), (h2, .inr (2, [x9, x10, x11, .int 0])), (h3, .inr (5, [x12, x13, .int 0])), (h5, .inr (8, [x14, x15, x16, x17, .ref h18, .ref h19, x20, x21, x22, x23, .ref h24, .int 1, .int 1])), (h18, .inl (cy 1, 1000, .inl (upd g25 0 0))), (h19, .inl (cy 1, 1000, .inl (upd g26 0 0))), (h24, .inr (5, [x27, x28, .int 0]))]) [0, 1, 2, 3, 4, 5, 6] rfl
    have hD9 := hD.sub (ws' := [(h1, .inr (9, [.ref h2, .ref h3, x4, .ref h5, x6, x7, x8])), (h2, .inr (2, [x9, x10, x11, .int 0])), (h3, .inr (5, [x12, x13, .int 0])), (h5, .inr (8, [x14, x15, x16, x17, .ref h18, .ref h19, x20, x21, x22, x23, .ref h24, .int 1, .int 1])), (h18, .inl (cy 1, 1000, .inl (upd g25 0 0))), (h19, .inl (cy 1, 1000, .inl (upd g26 0 0))), (h24, .inr (5, [x27, x28, .int 0]))]) [0, 1, 2, 3, 4, 5, 6] (by decide) rfl
    exact W.iret (v := 0) hx hb hr (fun t ht hW => ⟨⟨0, (), rfl, ⟨rfl, (by omega)⟩, ⟨by rw [ht]; exact hP9, hD9⟩⟩, hS.F ht⟩) hS.2.2 dX7_restTotal_13
theorem dL_restTotal_0 : decode cL_restTotal 0 = .ok (.aload_n 2, 1) := by decide +kernel
theorem dL_restTotal_1 : decode cL_restTotal 1 = .ok (.iconst 0, 1) := by decide +kernel
theorem dL_restTotal_2 : decode cL_restTotal 2 = .ok (.aload_n 0, 1) := by decide +kernel
theorem dL_restTotal_3 : decode cL_restTotal 3 = .ok (.iload_n 1, 1) := by decide +kernel
theorem dL_restTotal_4 : decode cL_restTotal 4 = .ok (.invokevirtual 96, 3) := by decide +kernel
set_option maxRecDepth 20000 in
theorem ggL_restTotal_X7_restTotal : GoodIn wsL_restTotal wsX7_restTotal := goodIn_ca (goodIn_ca (goodIn_ca (goodIn_ca (goodIn_r _ [7, 8, 9, 10, 11, 12, 6, 13, 14, 15, 16, 17, 18, 19, 20, 21, 22, 23, 24, 25, 26, 27, 28, 29, 30, 31, 32, 33, 34, 35, 36, 37, 38, 39, 40, 41, 42, 43, 44, 45, 46, 47, 48, 49, 50, 51, 52, 53, 54, 55, 56, 57, 58, 59, 60, 61, 62, 63, 64, 65, 66, 67, 68, 69, 70, 71, 72, 73, 74, 75, 76, 77, 78, 79, 80, 81, 82, 83, 84, 85, 86, 87, 88, 89, 90, 91, 92, 93, 94, 95, 96, 97, 98, 99, 100, 101, 102, 103, 104, 105, 106, 107, 108, 109, 110, 111, 112, 113, 114, 115, 116, 117, 118, 119, 120, 121, 122, 123, 124, 125, 126, 127, 128, 129, 130, 131, 132, 133, 134, 135, 136, 137, 138, 139, 140, 141, 142, 143, 144, 145, 146, 147, 148, 149, 150, 151, 152, 153, 154, 155, 156, 157, 158, 159, 160, 161, 162, 163, 164, 165, 166, 167, 168, 169, 170, 171, 172, 173] (by decide +kernel) (by decide +kernel)) (goodIn_sub (fun _ h => List.mem_cons_of_mem _ (List.mem_append_left _ (List.mem_append_left _ (List.mem_append_left _ (List.mem_append_right _ h))))) (by decide +kernel))) (goodIn_sub (fun _ h => List.mem_cons_of_mem _ (List.mem_append_left _ (List.mem_append_left _ (List.mem_append_right _ h)))) (by decide +kernel))) (goodIn_sub (fun _ h => List.mem_cons_of_mem _ (List.mem_append_left _ (List.mem_append_right _ h))) (by decide +kernel))) (goodIn_sub (fun _ h => List.mem_cons_of_mem _ (List.mem_append_right _ h)) (by decide +kernel))
set_option maxRecDepth 20000 in
theorem gL_restTotal_X7_restTotal : GoodIn wsL_restTotal (wsV RL 96 RX7 yX7_restTotal wsX7_restTotal) := goodIn_app (goodIn_of _ (by decide +kernel)) ggL_restTotal_X7_restTotal
theorem dL_restTotal_15 : decode cL_restTotal 15 = .ok (.astore_n 3, 1) := by decide +kernel
theorem dL_restTotal_16 : decode cL_restTotal 16 = .ok (.iconst 2, 1) := by decide +kernel
theorem dL_restTotal_17 : decode cL_restTotal 17 = .ok (.ireturn, 1) := by decide +kernel
theorem dL_restTotal_7 : decode cL_restTotal 7 = .ok (.i2l, 1) := by decide +kernel
theorem dL_restTotal_8 : decode cL_restTotal 8 = .ok (.lastore, 1) := by decide +kernel
theorem dL_restTotal_9 : decode cL_restTotal 9 = .ok (.goto 9, 3) := by decide +kernel
theorem dL_restTotal_18 : decode cL_restTotal 18 = .ok (.iconst 0, 1) := by decide +kernel
theorem dL_restTotal_19 : decode cL_restTotal 19 = .ok (.ireturn, 1) := by decide +kernel
set_option maxHeartbeats 4000000 in
set_option maxRecDepth 100000 in
theorem k_L_restTotal (l : Launch) (hl9 : l.stackTraces = false) (D : va_G) (cy : Nat → ClassId) (h1 : Nat) (p1 : Int32) (h2 : Nat) (h3 : Nat) (h4 : Nat) (x5 : Value) (h6 : Nat) (x7 : Value) (x8 : Value) (x9 : Value) (g10 : Nat → Int64) (x11 : Value) (x12 : Value) (x13 : Value) (x14 : Value) (x15 : Value) (x16 : Value) (x17 : Value) (x18 : Value) (x19 : Value) (h20 : Nat) (h21 : Nat) (x22 : Value) (x23 : Value) (x24 : Value) (x25 : Value) (h26 : Nat) (g27 : Nat → Int32) (kg27_0 : g27 0 = 0) (g28 : Nat → Int32) (kg28_0 : g28 0 = 0) (x29 : Value) (x30 : Value) (x31 : Value) (sz : Nat) : Met l yL_restTotal wsL_restTotal ({ frames := 8, cells := 1, slots := 6, locals := 125 }) (kWX D cy [.ref h1, .int p1, .ref h2] [(h1, .inr (9, [.ref h3, .ref h4, x5, .ref h6, x7, x8, x9])), (h2, .inl (cy 2, 1, .inr (.inl g10))), (h3, .inr (2, [x11, x12, x13, .int 0])), (h4, .inr (5, [x14, x15, .int 0])), (h6, .inr (8, [x16, x17, x18, x19, .ref h20, .ref h21, x22, x23, x24, x25, .ref h26, .int 0, .int 0])), (h20, .inl (cy 1, 1000, .inl g27)), (h21, .inl (cy 1, 1000, .inl g28)), (h26, .inr (5, [x29, x30, x31]))] sz) (va_Qi (fun (r : Int32) (u : (Nat → Int64)) => match u with | u1 => ((r = 2 ∧ (0 : Int) ≠ p1.toInt) ∨ (r = 0 ∧ (u1 0 = 0) ∧ (0 : Int) = p1.toInt))) (fun (u : (Nat → Int64)) (t : State) => match u with | u1 => va_P D vwCl [(h2, .inl (cy 2, 1, .inr (.inl u1)))] t.heap ∧ va_D (va_A [(h1, .inr (9, [.ref h3, .ref h4, x5, .ref h6, x7, x8, x9])), (h2, .inl (cy 2, 1, .inr (.inl g10))), (h3, .inr (2, [x11, x12, x13, .int 0])), (h4, .inr (5, [x14, x15, .int 0])), (h6, .inr (8, [x16, x17, x18, x19, .ref h20, .ref h21, x22, x23, x24, x25, .ref h26, .int 0, .int 0])), (h20, .inl (cy 1, 1000, .inl g27)), (h21, .inl (cy 1, 1000, .inl g28)), (h26, .inr (5, [x29, x30, x31]))] sz) [(h2, .inl (cy 2, 1, .inr (.inl u1)))]) (va_A [(h1, .inr (9, [.ref h3, .ref h4, x5, .ref h6, x7, x8, x9])), (h2, .inl (cy 2, 1, .inr (.inl g10))), (h3, .inr (2, [x11, x12, x13, .int 0])), (h4, .inr (5, [x14, x15, .int 0])), (h6, .inr (8, [x16, x17, x18, x19, .ref h20, .ref h21, x22, x23, x24, x25, .ref h26, .int 0, .int 0])), (h20, .inl (cy 1, 1000, .inl g27)), (h21, .inl (cy 1, 1000, .inl g28)), (h26, .inr (5, [x29, x30, x31]))] sz)) 1 6 (va_A [(h1, .inr (9, [.ref h3, .ref h4, x5, .ref h6, x7, x8, x9])), (h2, .inl (cy 2, 1, .inr (.inl g10))), (h3, .inr (2, [x11, x12, x13, .int 0])), (h4, .inr (5, [x14, x15, .int 0])), (h6, .inr (8, [x16, x17, x18, x19, .ref h20, .ref h21, x22, x23, x24, x25, .ref h26, .int 0, .int 0])), (h20, .inl (cy 1, 1000, .inl g27)), (h21, .inl (cy 1, 1000, .inl g28)), (h26, .inr (5, [x29, x30, x31]))] sz) := by
  refine va_MetW (cc := cL_restTotal) (maxL := 4) (ret := (some .int)) (by decide) rfl ?_
  intro p e s m args below meth c s₁ B hml hv
  obtain ⟨rfl, hsz, hP, hK, hD0, hE⟩ := hv
  have hx := B.exec
  have hb := B.bytes
  have hr := B.returns
  have hts := atoms_spec (ws := wsL_restTotal) B.pre
  have hown : s.vm.findClass RL = some m.cls := findClass_of_methodNamed B.named
  have hlocks := B.notSynchronized
  have htb := vx_table (x := yL_restTotal) B (hts _ (List.mem_cons_self))
  subst hsz
  have hD := hD0.self (sz := s.heap.size)
  generalize hAe : va_A [(h1, .inr (9, [.ref h3, .ref h4, x5, .ref h6, x7, x8, x9])), (h2, .inl (cy 2, 1, .inr (.inl g10))), (h3, .inr (2, [x11, x12, x13, .int 0])), (h4, .inr (5, [x14, x15, .int 0])), (h6, .inr (8, [x16, x17, x18, x19, .ref h20, .ref h21, x22, x23, x24, x25, .ref h26, .int 0, .int 0])), (h20, .inl (cy 1, 1000, .inl g27)), (h21, .inl (cy 1, 1000, .inl g28)), (h26, .inr (5, [x29, x30, x31]))] s.heap.size = A at hD hE ⊢
  have hA : ∀ q : Nat, s.heap.size ≤ q → A q := fun q h => by rw [← hAe]; exact Or.inr h
  have hS : va_S A s.heap s.heap [] := va_S.rf
  have hP : va_P D vwCl [(h1, .inr (9, [.ref h3, .ref h4, x5, .ref h6, x7, x8, x9])), (h2, .inl (cy 2, 1, .inr (.inl g10))), (h3, .inr (2, [x11, x12, x13, .int 0])), (h4, .inr (5, [x14, x15, .int 0])), (h6, .inr (8, [x16, x17, x18, x19, .ref h20, .ref h21, x22, x23, x24, x25, .ref h26, .int 0, .int 0])), (h20, .inl (cy 1, 1000, .inl g27)), (h21, .inl (cy 1, 1000, .inl g28)), (h26, .inr (5, [x29, x30, x31]))] s.heap := hP
  have hl := lv_entry ([.ref h1, .int p1, .ref h2]) (n := 4) (Nat.le_of_ble_eq_true rfl)
  rw [lg_entry_eq]
  generalize (lg_sl ([.ref h1, .int p1, .ref h2]) ++ List.replicate (4 - (lg_sl ([.ref h1, .int p1, .ref h2])).length) Slot.unset).toArray = ls at hl ⊢
  have hl : lv_has ls 4 [(0, .ref h1), (1, .int p1), (2, .ref h2)] := hl
  refine lv_aload_n hx hb dL_restTotal_0 rfl (lv_at hl 2 rfl) ?_
  refine lv_iconst (v := 0) hx hb dL_restTotal_1 (by decide) ?_
  refine lv_aload_n hx hb dL_restTotal_2 rfl (lv_at hl 0 rfl) ?_
  refine lv_iload_n hx hb dL_restTotal_3 rfl (lv_at hl 1 rfl) ?_
  have hPc := hP.sub (ws' := [(h1, .inr (9, [.ref h3, .ref h4, x5, .ref h6, x7, x8, x9])), (h3, .inr (2, [x11, x12, x13, .int 0])), (h4, .inr (5, [x14, x15, .int 0])), (h6, .inr (8, [x16, x17, x18, x19, .ref h20, .ref h21, x22, x23, x24, x25, .ref h26, .int 0, .int 0])), (h20, .inl (cy 1, 1000, .inl g27)), (h21, .inl (cy 1, 1000, .inl g28)), (h26, .inr (5, [x29, x30, x31]))]) [0, 2, 3, 4, 5, 6, 7] rfl
  have hDc := hD.sub (ws' := [(h1, .inr (9, [.ref h3, .ref h4, x5, .ref h6, x7, x8, x9])), (h3, .inr (2, [x11, x12, x13, .int 0])), (h4, .inr (5, [x14, x15, .int 0])), (h6, .inr (8, [x16, x17, x18, x19, .ref h20, .ref h21, x22, x23, x24, x25, .ref h26, .int 0, .int 0])), (h20, .inl (cy 1, 1000, .inl g27)), (h21, .inl (cy 1, 1000, .inl g28)), (h26, .inr (5, [x29, x30, x31]))]) [0, 2, 3, 4, 5, 6, 7] (by decide) rfl
  have hFc := va_free (wc := [(h1, .inr (9, [.ref h3, .ref h4, x5, .ref h6, x7, x8, x9])), (h3, .inr (2, [x11, x12, x13, .int 0])), (h4, .inr (5, [x14, x15, .int 0])), (h6, .inr (8, [x16, x17, x18, x19, .ref h20, .ref h21, x22, x23, x24, x25, .ref h26, .int 0, .int 0])), (h20, .inl (cy 1, 1000, .inl g27)), (h21, .inl (cy 1, 1000, .inl g28)), (h26, .inr (5, [x29, x30, x31]))]) hD hS hA [0, 2, 3, 4, 5, 6, 7] rfl
  refine vx_calli (vx_runV (As := [.int p1]) (rest := [.int 0, .ref h2]) ⟨hx, hb, hml, hown, hts⟩ (k_X7_restTotal l hl9 D cy h1 p1 h3 h4 (x5) h6 (x7) (x8) (x9) (x11) (x12) (x13) (x14) (x15) (x16) (x17) (x18) (x19) h20 h21 (x22) (x23) (x24) (x25) h26 g27 (kg27_0) g28 (kg28_0) (x29) (x30) (x31) s.heap.size) (cwV 1 hts gL_restTotal_X7_restTotal rfl rfl rfl (by decide +kernel) ⟨(Nat.le_of_ble_eq_true rfl), (Nat.le_of_ble_eq_true rfl)⟩) ⟨kWX_fb, va_recv hK hP (ci := 9) (q0 := 0) rfl rfl, (kWX_go hPc hK hDc hFc hE hS)⟩ rfl rfl hl.1 rfl (lv_room (Nat.le_of_ble_eq_true rfl)) dL_restTotal_4 ⟨(Nat.le_of_ble_eq_true rfl), (Nat.le_of_ble_eq_true rfl)⟩) hS (fun q _ h => hFc q h) hFc (fun q _ h => hFc q h) (fun E9 ce9 q9 u t H locs ht hvm hw hB hz1 hk1 hS hce hcv hcl => ?_) (fun r9 u t H locs ht hvm hw hB hz1 hk1 hS => ?_)
  · obtain ⟨rfl, hB⟩ := hB
    have f_1 : (0 : Int) ≠ p1.toInt := hB
    obtain ⟨hP, hD⟩ := va_join (wr := [(h2, .inl (cy 2, 1, .inr (.inl g10)))]) (w1 := []) hP hD [0, 2, 3, 4, 5, 6, 7] [1] rfl rfl (by decide) (by decide) hk1 hFc (fun k q h => by simp at h) ⟨fun i j p q h => by simp at h, fun k q h => by simp at h⟩
    have hP : va_P D vwCl [(h2, .inl (cy 2, 1, .inr (.inl g10)))] H := hP
    have hD : va_D A [(h2, .inl (cy 2, 1, .inr (.inl g10)))] := hD
    refine vx_catch (E := "java/util/NoSuchElementException") (name := "java/util/NoSuchElementException") hown [(⟨0, 9, 12, 30⟩ : ExceptionTableEntry)] (⟨0, 9, 15, 36⟩ : ExceptionTableEntry) [] htb (List.forall_mem_cons.mpr ⟨Or.inr ⟨by decide, "java/lang/UnsupportedOperationException", (hts (.classLink RL 30 "java/lang/UnsupportedOperationException") (List.mem_cons_of_mem _ (List.mem_append_left _ (List.mem_append_left _ (List.mem_append_left _ (List.mem_append_left _ (List.mem_append_left _ (List.mem_append_left _ (List.mem_append_left _ (List.mem_append_left _ (List.mem_append_left _ (List.mem_append_left _ (List.mem_append_left _ (List.mem_of_getElem? (i := 0) rfl)))))))))))))), exP.nc hE "java/util/NoSuchElementException" "java/lang/UnsupportedOperationException" (by decide +kernel) (by decide +kernel) (by decide +kernel)⟩, (fun _ h => absurd h List.not_mem_nil)⟩) rfl (by decide) (hts (.classLink RL 36 "java/util/NoSuchElementException") (List.mem_cons_of_mem _ (List.mem_append_left _ (List.mem_append_left _ (List.mem_append_left _ (List.mem_append_left _ (List.mem_append_left _ (List.mem_append_left _ (List.mem_append_left _ (List.mem_append_left _ (List.mem_append_left _ (List.mem_append_left _ (List.mem_append_left _ (List.mem_of_getElem? (i := 1) rfl)))))))))))))) (exP.cast hE "java/util/NoSuchElementException" (by decide +kernel)) hce hcv hcl ?_
    refine lv_astore_n (lv' := [(3, .ref q9), (0, .ref h1), (1, .int p1), (2, .ref h2)]) hx hb dL_restTotal_15 rfl hl (by decide) rfl (fun ls hl => ?_)
    refine lv_iconst (v := 2) hx hb dL_restTotal_16 (by decide) ?_
    refine W.widen (k := 1) (n := 6) (Nat.le_of_ble_eq_true rfl) (Nat.le_of_ble_eq_true rfl) ?_
    have hP9 := hP.sub (ws' := [(h2, .inl (cy 2, 1, .inr (.inl g10)))]) [0] rfl
    have hD9 := hD.sub (ws' := [(h2, .inl (cy 2, 1, .inr (.inl g10)))]) [0] (by decide) rfl
    exact W.iret (v := 2) hx hb hr (fun t ht hW => ⟨⟨2, (g10), rfl, Or.inl (⟨rfl, (by omega)⟩), ⟨by rw [ht]; exact hP9, hD9⟩⟩, hS.F ht⟩) hS.2.2 dL_restTotal_17
  · obtain ⟨hP1, hD1⟩ := hB
    rw [ht] at hP1
    try dsimp only at hw hP1 hD1
    obtain ⟨hP, hD⟩ := va_join (wr := [(h2, .inl (cy 2, 1, .inr (.inl g10)))]) (w1 := [(h1, .inr (9, [.ref h3, .ref h4, x5, .ref h6, x7, x8, x9])), (h3, .inr (2, [x11, x12, x13, .int 0])), (h4, .inr (5, [x14, x15, .int 0])), (h6, .inr (8, [x16, x17, x18, x19, .ref h20, .ref h21, x22, x23, x24, x25, .ref h26, .int 1, .int 1])), (h20, .inl (cy 1, 1000, .inl (upd g27 0 0))), (h21, .inl (cy 1, 1000, .inl (upd g28 0 0))), (h26, .inr (5, [x29, x30, .int 0]))]) hP hD [0, 2, 3, 4, 5, 6, 7] [1] rfl rfl (by decide) (by decide) hk1 hFc hP1 hD1
    have hP : va_P D vwCl [(h2, .inl (cy 2, 1, .inr (.inl g10))), (h1, .inr (9, [.ref h3, .ref h4, x5, .ref h6, x7, x8, x9])), (h3, .inr (2, [x11, x12, x13, .int 0])), (h4, .inr (5, [x14, x15, .int 0])), (h6, .inr (8, [x16, x17, x18, x19, .ref h20, .ref h21, x22, x23, x24, x25, .ref h26, .int 1, .int 1])), (h20, .inl (cy 1, 1000, .inl (upd g27 0 0))), (h21, .inl (cy 1, 1000, .inl (upd g28 0 0))), (h26, .inr (5, [x29, x30, .int 0]))] H := hP
    have hD : va_D A [(h2, .inl (cy 2, 1, .inr (.inl g10))), (h1, .inr (9, [.ref h3, .ref h4, x5, .ref h6, x7, x8, x9])), (h3, .inr (2, [x11, x12, x13, .int 0])), (h4, .inr (5, [x14, x15, .int 0])), (h6, .inr (8, [x16, x17, x18, x19, .ref h20, .ref h21, x22, x23, x24, x25, .ref h26, .int 1, .int 1])), (h20, .inl (cy 1, 1000, .inl (upd g27 0 0))), (h21, .inl (cy 1, 1000, .inl (upd g28 0 0))), (h26, .inr (5, [x29, x30, .int 0]))] := hD
    refine W.widen (k := 1) (n := 6) (Nat.le_of_ble_eq_true rfl) (Nat.le_of_ble_eq_true rfl) ?_
    obtain ⟨rfl, hw⟩ := hw
    have f_2 : (0 : Int) = p1.toInt := hw
    refine lv_i2l (v := 0) hx hb dL_restTotal_7 (by decide) ?_
    refine va_last hx hb hK hP hD hS 0 2 rfl rfl (kx_in 0 1 rfl ⟨(Nat.le_of_ble_eq_true rfl), (Nat.le_of_ble_eq_true rfl)⟩ (Nat.le_of_ble_eq_true rfl)) dL_restTotal_8 (fun H locs hP hD hS => ?_)
    have hP : va_P D vwCl [(h2, .inl (cy 2, 1, .inr (.inl (vp_updL g10 0 0)))), (h1, .inr (9, [.ref h3, .ref h4, x5, .ref h6, x7, x8, x9])), (h3, .inr (2, [x11, x12, x13, .int 0])), (h4, .inr (5, [x14, x15, .int 0])), (h6, .inr (8, [x16, x17, x18, x19, .ref h20, .ref h21, x22, x23, x24, x25, .ref h26, .int 1, .int 1])), (h20, .inl (cy 1, 1000, .inl (upd g27 0 0))), (h21, .inl (cy 1, 1000, .inl (upd g28 0 0))), (h26, .inr (5, [x29, x30, .int 0]))] H := hP
    have hD : va_D A [(h2, .inl (cy 2, 1, .inr (.inl (vp_updL g10 0 0)))), (h1, .inr (9, [.ref h3, .ref h4, x5, .ref h6, x7, x8, x9])), (h3, .inr (2, [x11, x12, x13, .int 0])), (h4, .inr (5, [x14, x15, .int 0])), (h6, .inr (8, [x16, x17, x18, x19, .ref h20, .ref h21, x22, x23, x24, x25, .ref h26, .int 1, .int 1])), (h20, .inl (cy 1, 1000, .inl (upd g27 0 0))), (h21, .inl (cy 1, 1000, .inl (upd g28 0 0))), (h26, .inr (5, [x29, x30, .int 0]))] := hD
    refine lv_goto (tgt := 18) hx hb dL_restTotal_9 (by decide) ?_
    refine lv_iconst (v := 0) hx hb dL_restTotal_18 (by decide) ?_
    refine W.widen (k := 1) (n := 6) (Nat.le_of_ble_eq_true rfl) (Nat.le_of_ble_eq_true rfl) ?_
    have hP9 := hP.sub (ws' := [(h2, .inl (cy 2, 1, .inr (.inl (vp_updL g10 0 0))))]) [0] rfl
    have hD9 := hD.sub (ws' := [(h2, .inl (cy 2, 1, .inr (.inl (vp_updL g10 0 0))))]) [0] (by decide) rfl
    exact W.iret (v := 0) hx hb hr (fun t ht hW => ⟨⟨0, ((vp_updL g10 0 0)), rfl, Or.inr (⟨rfl, (rfl), (by omega)⟩), ⟨by rw [ht]; exact hP9, hD9⟩⟩, hS.F ht⟩) hS.2.2 dL_restTotal_19
theorem dJ3_checkIndex_8e157_0 : decode cJ3_checkIndex_8e157 0 = .ok (.iload_n 0, 1) := by decide +kernel
theorem dJ3_checkIndex_8e157_1 : decode cJ3_checkIndex_8e157 1 = .ok (.ifCond .lt 8, 3) := by decide +kernel
theorem dJ3_checkIndex_8e157_4 : decode cJ3_checkIndex_8e157 4 = .ok (.iload_n 0, 1) := by decide +kernel
theorem dJ3_checkIndex_8e157_5 : decode cJ3_checkIndex_8e157 5 = .ok (.iload_n 1, 1) := by decide +kernel
theorem dJ3_checkIndex_8e157_6 : decode cJ3_checkIndex_8e157 6 = .ok (.if_icmp .lt 10, 3) := by decide +kernel
theorem dJ3_checkIndex_8e157_16 : decode cJ3_checkIndex_8e157 16 = .ok (.iload_n 0, 1) := by decide +kernel
theorem dJ3_checkIndex_8e157_17 : decode cJ3_checkIndex_8e157 17 = .ok (.ireturn, 1) := by decide +kernel
set_option maxHeartbeats 4000000 in
set_option maxRecDepth 100000 in
theorem k_J3_checkIndex_8e157 (l : Launch) (D : va_G) (cy : Nat → ClassId) : Met l yJ3_checkIndex_8e157 wsJ3_checkIndex_8e157 ({ frames := 0, cells := 0, slots := 0, locals := 0 }) (kR D cy [.int 0, .int 1, .null] []) (va_Qi (fun (r : Int32) (_ : Unit) => r = 0 ∧ True) (fun (_ : Unit) (_ : State) => True) (fun _ : Nat => False)) 0 0 (fun _ : Nat => False) := by
  refine Met.ofW (cc := cJ3_checkIndex_8e157) (maxL := 3) (ret := (some .int)) (by decide) rfl ?_
  intro p e s m args below meth c s₁ B hml hv
  obtain ⟨rfl, hP, hK⟩ := hv
  have hx := B.exec
  have hb := B.bytes
  have hr := B.returns
  have hts := atoms_spec (ws := wsJ3_checkIndex_8e157) B.pre
  have hown : s.vm.findClass RJ3 = some m.cls := findClass_of_methodNamed B.named
  have hlocks := B.notSynchronized
  have hS : va_S (fun _ : Nat => False) s.heap s.heap [] := va_S.rf
  have hP : va_P D vwCl [] s.heap := hP
  have hl := lv_entry ([.int 0, .int 1, .null]) (n := 3) (Nat.le_of_ble_eq_true rfl)
  rw [lg_entry_eq]
  generalize (lg_sl ([.int 0, .int 1, .null]) ++ List.replicate (3 - (lg_sl ([.int 0, .int 1, .null])).length) Slot.unset).toArray = ls at hl ⊢
  have hl : lv_has ls 3 [(0, .int 0), (1, .int 1), (2, .null)] := hl
  refine lv_iload_n hx hb dJ3_checkIndex_8e157_0 rfl (lv_at hl 0 rfl) ?_
  refine lv_if_lt (tgt := 9) hx hb dJ3_checkIndex_8e157_1 (by decide) (fun h => absurd h (by decide)) (fun _ => ?_)
  refine lv_iload_n hx hb dJ3_checkIndex_8e157_4 rfl (lv_at hl 0 rfl) ?_
  refine lv_iload_n hx hb dJ3_checkIndex_8e157_5 rfl (lv_at hl 1 rfl) ?_
  refine lv_icmp_lt (tgt := 16) hx hb dJ3_checkIndex_8e157_6 (by decide) (fun _ => ?_) (fun h => absurd (by decide) h)
  refine lv_iload_n hx hb dJ3_checkIndex_8e157_16 rfl (lv_at hl 0 rfl) ?_
  refine W.widen (k := 0) (n := 0) (Nat.le_of_ble_eq_true rfl) (Nat.le_of_ble_eq_true rfl) ?_
  exact W.iret (v := 0) hx hb hr (fun t ht hW => ⟨⟨0, (), rfl, ⟨rfl, trivial⟩, trivial⟩, hS.F ht⟩) hS.2.2 dJ3_checkIndex_8e157_17
theorem dJ15_checkIndex_7cf53_0 : decode cJ15_checkIndex_7cf53 0 = .ok (.iload_n 0, 1) := by decide +kernel
theorem dJ15_checkIndex_7cf53_1 : decode cJ15_checkIndex_7cf53 1 = .ok (.iload_n 1, 1) := by decide +kernel
theorem dJ15_checkIndex_7cf53_2 : decode cJ15_checkIndex_7cf53 2 = .ok (.aconst_null, 1) := by decide +kernel
theorem dJ15_checkIndex_7cf53_3 : decode cJ15_checkIndex_7cf53 3 = .ok (.invokestatic 105, 3) := by decide +kernel
set_option maxRecDepth 20000 in
theorem ggJ15_checkIndex_7cf53_J3_checkIndex_8e157 : GoodIn wsJ15_checkIndex_7cf53 wsJ3_checkIndex_8e157 := goodIn_r _ [4] (by decide +kernel) (by decide +kernel)
set_option maxRecDepth 20000 in
theorem gJ15_checkIndex_7cf53_J3_checkIndex_8e157 : GoodIn wsJ15_checkIndex_7cf53 (va_wsS RJ15 105 yJ3_checkIndex_8e157 wsJ3_checkIndex_8e157) := goodIn_app (goodIn_of _ (by decide +kernel)) ggJ15_checkIndex_7cf53_J3_checkIndex_8e157
theorem dJ15_checkIndex_7cf53_6 : decode cJ15_checkIndex_7cf53 6 = .ok (.ireturn, 1) := by decide +kernel
set_option maxHeartbeats 4000000 in
set_option maxRecDepth 100000 in
theorem k_J15_checkIndex_7cf53 (l : Launch) (D : va_G) (cy : Nat → ClassId) : Met l yJ15_checkIndex_7cf53 wsJ15_checkIndex_7cf53 ({ frames := 1, cells := 0, slots := 0, locals := 22 }) (kR D cy [.int 0, .int 1] []) (va_Qi (fun (r : Int32) (_ : Unit) => r = 0 ∧ True) (fun (_ : Unit) (_ : State) => True) (fun _ : Nat => False)) 0 0 (fun _ : Nat => False) := by
  refine Met.ofW (cc := cJ15_checkIndex_7cf53) (maxL := 2) (ret := (some .int)) (by decide) rfl ?_
  intro p e s m args below meth c s₁ B hml hv
  obtain ⟨rfl, hP, hK⟩ := hv
  have hx := B.exec
  have hb := B.bytes
  have hr := B.returns
  have hts := atoms_spec (ws := wsJ15_checkIndex_7cf53) B.pre
  have hown : s.vm.findClass RJ15 = some m.cls := findClass_of_methodNamed B.named
  have hlocks := B.notSynchronized
  have hS : va_S (fun _ : Nat => False) s.heap s.heap [] := va_S.rf
  have hP : va_P D vwCl [] s.heap := hP
  have hl := lv_entry ([.int 0, .int 1]) (n := 2) (Nat.le_of_ble_eq_true rfl)
  rw [lg_entry_eq]
  generalize (lg_sl ([.int 0, .int 1]) ++ List.replicate (2 - (lg_sl ([.int 0, .int 1])).length) Slot.unset).toArray = ls at hl ⊢
  have hl : lv_has ls 2 [(0, .int 0), (1, .int 1)] := hl
  refine lv_iload_n hx hb dJ15_checkIndex_7cf53_0 rfl (lv_at hl 0 rfl) ?_
  refine lv_iload_n hx hb dJ15_checkIndex_7cf53_1 rfl (lv_at hl 1 rfl) ?_
  refine lv_null hx hb dJ15_checkIndex_7cf53_2 ?_
  have hPc := hP.sub (ws' := []) [] rfl
  refine va_calli (va_runS (As := [.int 0, .int 1, .null]) (rest := []) ⟨hx, hb, hml, hown, hts⟩ (k_J3_checkIndex_8e157 l D cy ) (va_cwS 3 hts gJ15_checkIndex_7cf53_J3_checkIndex_8e157 rfl rfl rfl (by decide +kernel) ⟨(Nat.le_of_ble_eq_true rfl), (Nat.le_of_ble_eq_true rfl)⟩) ⟨kR_fb, (kR_go hPc hK)⟩ rfl rfl hl.1 rfl (lv_room (Nat.le_of_ble_eq_true rfl)) dJ15_checkIndex_7cf53_3 ⟨(Nat.le_of_ble_eq_true rfl), (Nat.le_of_ble_eq_true rfl)⟩) hS (fun _ _ h => h.elim) (fun _ h => h.elim) (fun r9 u t H locs ht hvm hw hB hz1 hk1 hS => ?_)
  have hP := kx_kept hP hk1
  obtain ⟨rfl, hw⟩ := hw
  refine W.widen (k := 0) (n := 0) (Nat.le_of_ble_eq_true rfl) (Nat.le_of_ble_eq_true rfl) ?_
  exact W.iret (v := 0) hx hb hr (fun t ht hW => ⟨⟨0, (), rfl, ⟨rfl, trivial⟩, trivial⟩, hS.F ht⟩) hS.2.2 dJ15_checkIndex_7cf53_6
