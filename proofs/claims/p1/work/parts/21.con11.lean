theorem dJx4a65c_elementData_915e3_0 : decode cJx4a65c_elementData_915e3 0 = .ok (.aload_n 0, 1) := by decide +kernel
theorem dJx4a65c_elementData_915e3_1 : decode cJx4a65c_elementData_915e3 1 = .ok (.getfield 9, 3) := by decide +kernel
theorem dJx4a65c_elementData_915e3_4 : decode cJx4a65c_elementData_915e3 4 = .ok (.iload_n 1, 1) := by decide +kernel
theorem dJx4a65c_elementData_915e3_5 : decode cJx4a65c_elementData_915e3 5 = .ok (.aaload, 1) := by decide +kernel
theorem dJx4a65c_elementData_915e3_6 : decode cJx4a65c_elementData_915e3 6 = .ok (.areturn, 1) := by decide +kernel
set_option maxHeartbeats 4000000 in
set_option maxRecDepth 100000 in
theorem k_Jx4a65c_elementData_915e3 (l : Launch) (D : va_G) (cy : Nat → ClassId) (h1 : Nat) (x2 : Value) (h3 : Nat) (x4 : Value) (g5 : Nat → Option Nat) (h6 : Nat) (kg5_0 : g5 0 = some h6) : Met l yJx4a65c_elementData_915e3 wsJx4a65c_elementData_915e3 ({ frames := 0, cells := 0, slots := 0, locals := 0 }) (kR D cy [.ref h1, .int 0] [(h1, .inr (1, [x2, .ref h3, x4])), (h3, .inl (cy 7, 10, .inr (.inr (.inr (.inr g5)))))]) (va_Qr (fun (_ : Unit) => True) (fun (_ : Unit) (a9 : Nat) (_ : State) => a9 = h6) (fun _ : Nat => False)) 0 0 (fun _ : Nat => False) := by
  refine Met.ofW (cc := cJx4a65c_elementData_915e3) (maxL := 2) (ret := (some (.object "java/lang/Object"))) (by decide) rfl ?_
  intro p e s m args below meth c s₁ B hml hv
  obtain ⟨rfl, hP, hK⟩ := hv
  have hx := B.exec
  have hb := B.bytes
  have hr := B.returns
  have hts := atoms_spec (ws := wsJx4a65c_elementData_915e3) B.pre
  have hown : s.vm.findClass RJx4a65c = some m.cls := findClass_of_methodNamed B.named
  have hlocks := B.notSynchronized
  have hS : va_S (fun _ : Nat => False) s.heap s.heap [] := va_S.rf
  have hP : va_P D vwCl [(h1, .inr (1, [x2, .ref h3, x4])), (h3, .inl (cy 7, 10, .inr (.inr (.inr (.inr g5)))))] s.heap := hP
  have hl := lv_entry ([.ref h1, .int 0]) (n := 2) (Nat.le_of_ble_eq_true rfl)
  rw [lg_entry_eq]
  generalize (lg_sl ([.ref h1, .int 0]) ++ List.replicate (2 - (lg_sl ([.ref h1, .int 0])).length) Slot.unset).toArray = ls at hl ⊢
  have hl : lv_has ls 2 [(0, .ref h1), (1, .int 0)] := hl
  refine lv_aload_n hx hb dJx4a65c_elementData_915e3_0 rfl (lv_at hl 0 rfl) ?_
  refine va_get (D := D) (ci := 1) (v := .ref h3) (C := RJx4a65c) (T := TJx4a65c) (N := 3) hx hb hts (fun _ h => (List.mem_cons_of_mem _ (List.mem_append_right _ h))) hown hK hP 0 rfl rfl 1 (by decide) (hts (.fieldLink RJx4a65c 9 "java/util/ArrayList" "elementData" "[Ljava/lang/Object;") (List.mem_cons_of_mem _ (List.mem_append_left _ (List.mem_of_getElem? (i := 0) rfl)))) (fun _ h9 => h9) rfl dJx4a65c_elementData_915e3_1 ?_
  refine lv_iload_n hx hb dJx4a65c_elementData_915e3_4 rfl (lv_at hl 1 rfl) ?_
  refine va_aldq hx hb hK hP 1 7 rfl rfl (kx_in 0 10 rfl ⟨(Nat.le_of_ble_eq_true rfl), (Nat.le_of_ble_eq_true rfl)⟩ (Nat.le_of_ble_eq_true rfl)) dJx4a65c_elementData_915e3_5 ?_
  refine kx_rf (a := h6) (kg5_0) ?_
  refine W.widen (k := 0) (n := 0) (Nat.le_of_ble_eq_true rfl) (Nat.le_of_ble_eq_true rfl) ?_
  exact W.aret (v := .ref h6) hx hb hr (Or.inl ⟨_, rfl⟩) (Or.inr ⟨_, rfl⟩) (fun t ht hW => ⟨⟨(), h6, rfl, trivial, rfl⟩, hS.F ht⟩) hS.2.2 dJx4a65c_elementData_915e3_6
theorem dJx4a65c_get_915e3_0 : decode cJx4a65c_get_915e3 0 = .ok (.iload_n 1, 1) := by decide +kernel
theorem dJx4a65c_get_915e3_1 : decode cJx4a65c_get_915e3 1 = .ok (.aload_n 0, 1) := by decide +kernel
theorem dJx4a65c_get_915e3_2 : decode cJx4a65c_get_915e3 2 = .ok (.getfield 48, 3) := by decide +kernel
theorem dJx4a65c_get_915e3_5 : decode cJx4a65c_get_915e3 5 = .ok (.invokestatic 118, 3) := by decide +kernel
set_option maxRecDepth 20000 in
theorem ggJx4a65c_get_915e3_J15_checkIndex_7cf53 : GoodIn wsJx4a65c_get_915e3 wsJ15_checkIndex_7cf53 := goodIn_r _ [5, 6, 7, 8, 9] (by decide +kernel) (by decide +kernel)
set_option maxRecDepth 20000 in
theorem gJx4a65c_get_915e3_J15_checkIndex_7cf53 : GoodIn wsJx4a65c_get_915e3 (va_wsS RJx4a65c 118 yJ15_checkIndex_7cf53 wsJ15_checkIndex_7cf53) := goodIn_app (goodIn_of _ (by decide +kernel)) ggJx4a65c_get_915e3_J15_checkIndex_7cf53
theorem dJx4a65c_get_915e3_8 : decode cJx4a65c_get_915e3 8 = .ok (.pop, 1) := by decide +kernel
theorem dJx4a65c_get_915e3_9 : decode cJx4a65c_get_915e3 9 = .ok (.aload_n 0, 1) := by decide +kernel
theorem dJx4a65c_get_915e3_10 : decode cJx4a65c_get_915e3 10 = .ok (.iload_n 1, 1) := by decide +kernel
theorem dJx4a65c_get_915e3_11 : decode cJx4a65c_get_915e3 11 = .ok (.invokevirtual 123, 3) := by decide +kernel
set_option maxRecDepth 20000 in
theorem ggJx4a65c_get_915e3_Jx4a65c_elementData_915e3 : GoodIn wsJx4a65c_get_915e3 wsJx4a65c_elementData_915e3 := goodIn_r _ [14, 15, 16, 17, 18] (by decide +kernel) (by decide +kernel)
set_option maxRecDepth 20000 in
theorem gJx4a65c_get_915e3_Jx4a65c_elementData_915e3 : GoodIn wsJx4a65c_get_915e3 (wsV RJx4a65c 123 RJx4a65c yJx4a65c_elementData_915e3 wsJx4a65c_elementData_915e3) := goodIn_app (goodIn_of _ (by decide +kernel)) ggJx4a65c_get_915e3_Jx4a65c_elementData_915e3
theorem dJx4a65c_get_915e3_14 : decode cJx4a65c_get_915e3 14 = .ok (.areturn, 1) := by decide +kernel
set_option maxHeartbeats 4000000 in
set_option maxRecDepth 100000 in
theorem k_Jx4a65c_get_915e3 (l : Launch) (D : va_G) (cy : Nat → ClassId) (h1 : Nat) (x2 : Value) (h3 : Nat) (g4 : Nat → Option Nat) (h5 : Nat) (kg4_0 : g4 0 = some h5) : Met l yJx4a65c_get_915e3 wsJx4a65c_get_915e3 ({ frames := 2, cells := 0, slots := 0, locals := 43 }) (kR D cy [.ref h1, .int 0] [(h1, .inr (1, [x2, .ref h3, .int 1])), (h3, .inl (cy 7, 10, .inr (.inr (.inr (.inr g4)))))]) (va_Qr (fun (_ : Unit) => True) (fun (_ : Unit) (a9 : Nat) (_ : State) => a9 = h5) (fun _ : Nat => False)) 0 0 (fun _ : Nat => False) := by
  refine Met.ofW (cc := cJx4a65c_get_915e3) (maxL := 2) (ret := (some (.object "java/lang/Object"))) (by decide) rfl ?_
  intro p e s m args below meth c s₁ B hml hv
  obtain ⟨rfl, hP, hK⟩ := hv
  have hx := B.exec
  have hb := B.bytes
  have hr := B.returns
  have hts := atoms_spec (ws := wsJx4a65c_get_915e3) B.pre
  have hown : s.vm.findClass RJx4a65c = some m.cls := findClass_of_methodNamed B.named
  have hlocks := B.notSynchronized
  have hS : va_S (fun _ : Nat => False) s.heap s.heap [] := va_S.rf
  have hP : va_P D vwCl [(h1, .inr (1, [x2, .ref h3, .int 1])), (h3, .inl (cy 7, 10, .inr (.inr (.inr (.inr g4)))))] s.heap := hP
  have hl := lv_entry ([.ref h1, .int 0]) (n := 2) (Nat.le_of_ble_eq_true rfl)
  rw [lg_entry_eq]
  generalize (lg_sl ([.ref h1, .int 0]) ++ List.replicate (2 - (lg_sl ([.ref h1, .int 0])).length) Slot.unset).toArray = ls at hl ⊢
  have hl : lv_has ls 2 [(0, .ref h1), (1, .int 0)] := hl
  refine lv_iload_n hx hb dJx4a65c_get_915e3_0 rfl (lv_at hl 1 rfl) ?_
  refine lv_aload_n hx hb dJx4a65c_get_915e3_1 rfl (lv_at hl 0 rfl) ?_
  refine va_get (D := D) (ci := 1) (v := .int 1) (C := RJx4a65c) (T := TJx4a65c) (N := 3) hx hb hts (fun _ h => (List.mem_cons_of_mem _ (List.mem_append_right _ h))) hown hK hP 0 rfl rfl 2 (by decide) (hts (.fieldLink RJx4a65c 48 "java/util/ArrayList" "size" "I") (List.mem_cons_of_mem _ (List.mem_append_left _ (List.mem_of_getElem? (i := 0) rfl)))) (fun _ h9 => h9) rfl dJx4a65c_get_915e3_2 ?_
  have hPc := hP.sub (ws' := []) [] rfl
  refine va_calli (va_runS (As := [.int 0, .int 1]) (rest := []) ⟨hx, hb, hml, hown, hts⟩ (k_J15_checkIndex_7cf53 l D cy ) (va_cwS 2 hts gJx4a65c_get_915e3_J15_checkIndex_7cf53 rfl rfl rfl (by decide +kernel) ⟨(Nat.le_of_ble_eq_true rfl), (Nat.le_of_ble_eq_true rfl)⟩) ⟨kR_fb, (kR_go hPc hK)⟩ rfl rfl hl.1 rfl (lv_room (Nat.le_of_ble_eq_true rfl)) dJx4a65c_get_915e3_5 ⟨(Nat.le_of_ble_eq_true rfl), (Nat.le_of_ble_eq_true rfl)⟩) hS (fun _ _ h => h.elim) (fun _ h => h.elim) (fun r9 u t H locs ht hvm hw hB hz1 hk1 hS => ?_)
  have hP := kx_kept hP hk1
  obtain ⟨rfl, hw⟩ := hw
  refine lv_pop hx hb dJx4a65c_get_915e3_8 rfl ?_
  refine lv_aload_n hx hb dJx4a65c_get_915e3_9 rfl (lv_at hl 0 rfl) ?_
  refine lv_iload_n hx hb dJx4a65c_get_915e3_10 rfl (lv_at hl 1 rfl) ?_
  have hPc := hP.sub (ws' := [(h1, .inr (1, [x2, .ref h3, .int 1])), (h3, .inl (cy 7, 10, .inr (.inr (.inr (.inr g4)))))]) [0, 1] rfl
  refine va_callr (va_runV (As := [.int 0]) (rest := []) ⟨hx, hb, hml, hown, hts⟩ (k_Jx4a65c_elementData_915e3 l D cy h1 (x2) h3 (.int 1) g4 h5 (kg4_0)) (cwV 1 hts gJx4a65c_get_915e3_Jx4a65c_elementData_915e3 rfl rfl rfl (by decide +kernel) ⟨(Nat.le_of_ble_eq_true rfl), (Nat.le_of_ble_eq_true rfl)⟩) ⟨kR_fb, va_recv hK hP (ci := 1) (q0 := 0) rfl rfl, (kR_go hPc hK)⟩ rfl rfl hl.1 rfl (lv_room (Nat.le_of_ble_eq_true rfl)) dJx4a65c_get_915e3_11 ⟨(Nat.le_of_ble_eq_true rfl), (Nat.le_of_ble_eq_true rfl)⟩) hS (fun _ _ h => h.elim) (fun _ h => h.elim) (fun u r9 t H locs ht hvm hw hB hz1 hk1 hS => ?_)
  have e9 := Eq.symm hB
  subst e9
  have hP := kx_kept hP hk1
  refine W.widen (k := 0) (n := 0) (Nat.le_of_ble_eq_true rfl) (Nat.le_of_ble_eq_true rfl) ?_
  exact W.aret (v := .ref h5) hx hb hr (Or.inl ⟨_, rfl⟩) (Or.inr ⟨_, rfl⟩) (fun t ht hW => ⟨⟨(), h5, rfl, trivial, rfl⟩, hS.F ht⟩) hS.2.2 dJx4a65c_get_915e3_14
theorem dX8_restTotal_0 : decode cX8_restTotal 0 = .ok (.aload_n 0, 1) := by decide +kernel
theorem dX8_restTotal_1 : decode cX8_restTotal 1 = .ok (.aload_n 0, 1) := by decide +kernel
theorem dX8_restTotal_2 : decode cX8_restTotal 2 = .ok (.invokevirtual 240, 3) := by decide +kernel
set_option maxRecDepth 20000 in
theorem ggX8_restTotal_X8_areMany : GoodIn wsX8_restTotal wsX8_areMany := goodIn_ca (goodIn_r _ [6, 7, 8, 9, 5, 10, 11, 12, 13, 14, 15, 16, 17, 18, 19, 211, 212, 213, 214, 215, 216, 217, 218, 219, 220, 221, 222, 223, 224, 225, 226, 227, 228] (by decide +kernel) (by decide +kernel)) (goodIn_sub (fun _ h => List.mem_cons_of_mem _ (List.mem_append_left _ (List.mem_append_right _ h))) (by decide +kernel))
set_option maxRecDepth 20000 in
theorem gX8_restTotal_X8_areMany : GoodIn wsX8_restTotal (wsV RX8 240 RX8 yX8_areMany wsX8_areMany) := goodIn_app (goodIn_of _ (by decide +kernel)) ggX8_restTotal_X8_areMany
theorem dX8_restTotal_5 : decode cX8_restTotal 5 = .ok (.iconst 1, 1) := by decide +kernel
theorem dX8_restTotal_6 : decode cX8_restTotal 6 = .ok (.invokevirtual 73, 3) := by decide +kernel
set_option maxRecDepth 20000 in
theorem ggX8_restTotal_X8_isThrown : GoodIn wsX8_restTotal wsX8_isThrown := goodIn_r _ [23, 24, 211, 212, 213, 214, 215, 216, 217, 218, 219, 220, 221, 222, 223, 224, 225, 226, 227, 228] (by decide +kernel) (by decide +kernel)
set_option maxRecDepth 20000 in
theorem gX8_restTotal_X8_isThrown : GoodIn wsX8_restTotal (wsV RX8 73 RX8 yX8_isThrown wsX8_isThrown) := goodIn_app (goodIn_of _ (by decide +kernel)) ggX8_restTotal_X8_isThrown
theorem dX8_restTotal_9 : decode cX8_restTotal 9 = .ok (.ifCond .eq 5, 3) := by decide +kernel
theorem dX8_restTotal_14 : decode cX8_restTotal 14 = .ok (.aload_n 0, 1) := by decide +kernel
theorem dX8_restTotal_15 : decode cX8_restTotal 15 = .ok (.invokevirtual 243, 3) := by decide +kernel
set_option maxRecDepth 20000 in
theorem ggX8_restTotal_X8_rests : GoodIn wsX8_restTotal wsX8_rests := goodIn_ca (goodIn_ca (goodIn_r _ [28, 29, 30, 31, 1, 32, 33, 34, 35, 36, 37, 38, 39, 40, 41, 42, 43, 44, 45, 46, 47, 48, 49, 50, 51, 5, 52, 53, 54, 55, 56, 57, 58, 59, 60, 61, 62, 11, 13, 12, 63, 64, 65, 66, 67, 68, 69, 70, 71, 72, 73, 74, 75, 76, 77, 78, 79, 80, 81, 82, 83, 84, 85, 86, 87, 88, 89, 90, 91, 92, 93, 94, 95, 96, 97, 98, 99, 100, 101, 102, 103, 104, 105, 106, 107, 108, 109, 110, 111, 112, 113, 114, 115, 14, 15, 16, 17, 18, 19, 116, 117, 118, 119, 120, 121, 122, 123, 124, 125, 126, 127, 128, 129, 130, 131, 132, 133, 134, 135, 136, 137, 138, 139, 140, 141, 142, 143, 144, 145, 146, 147, 148, 149, 150, 151, 152, 153, 154, 155, 156, 157, 158, 159, 160, 161, 162, 163, 164, 165, 166, 167, 168, 169, 170, 171, 172, 173, 174, 175, 176, 177, 178, 179, 180, 181, 182, 183, 229, 230, 231, 211, 212, 213, 214, 215, 216, 217, 218, 219, 220, 221, 222, 223, 224, 225, 226, 227, 228, 232, 233, 234, 235] (by decide +kernel) (by decide +kernel)) (goodIn_sub (fun _ h => List.mem_cons_of_mem _ (List.mem_append_left _ (List.mem_append_right _ h))) (by decide +kernel))) (goodIn_sub (fun _ h => List.mem_cons_of_mem _ (List.mem_append_right _ h)) (by decide +kernel))
set_option maxRecDepth 20000 in
theorem gX8_restTotal_X8_rests : GoodIn wsX8_restTotal (wsV RX8 243 RX8 yX8_rests wsX8_rests) := goodIn_app (goodIn_of _ (by decide +kernel)) ggX8_restTotal_X8_rests
theorem dX8_restTotal_18 : decode cX8_restTotal 18 = .ok (.astore_n 2, 1) := by decide +kernel
theorem dX8_restTotal_19 : decode cX8_restTotal 19 = .ok (.aload_n 0, 1) := by decide +kernel
theorem dX8_restTotal_20 : decode cX8_restTotal 20 = .ok (.iload_n 1, 1) := by decide +kernel
theorem dX8_restTotal_21 : decode cX8_restTotal 21 = .ok (.iconst 0, 1) := by decide +kernel
theorem dX8_restTotal_22 : decode cX8_restTotal 22 = .ok (.aload_n 2, 1) := by decide +kernel
theorem dX8_restTotal_23 : decode cX8_restTotal 23 = .ok (.invokevirtual 131, 3) := by decide +kernel
set_option maxRecDepth 20000 in
theorem ggX8_restTotal_Jx4a65c_size_8abf5 : GoodIn wsX8_restTotal wsJx4a65c_size_8abf5 := goodIn_r _ [187, 69, 229, 230, 231] (by decide +kernel) (by decide +kernel)
set_option maxRecDepth 20000 in
theorem gX8_restTotal_Jx4a65c_size_8abf5 : GoodIn wsX8_restTotal (wsV RX8 131 RJx4a65c yJx4a65c_size_8abf5 wsJx4a65c_size_8abf5) := goodIn_app (goodIn_of _ (by decide +kernel)) ggX8_restTotal_Jx4a65c_size_8abf5
theorem dX8_restTotal_26 : decode cX8_restTotal 26 = .ok (.iconst 1, 1) := by decide +kernel
theorem dX8_restTotal_27 : decode cX8_restTotal 27 = .ok (.isub, 1) := by decide +kernel
theorem dX8_restTotal_28 : decode cX8_restTotal 28 = .ok (.invokestatic 65, 3) := by decide +kernel
set_option maxRecDepth 20000 in
theorem ggX8_restTotal_X8_isIn : GoodIn wsX8_restTotal wsX8_isIn := goodIn_r _ [190] (by decide +kernel) (by decide +kernel)
set_option maxRecDepth 20000 in
theorem gX8_restTotal_X8_isIn : GoodIn wsX8_restTotal (va_wsS RX8 65 yX8_isIn wsX8_isIn) := goodIn_app (goodIn_of _ (by decide +kernel)) ggX8_restTotal_X8_isIn
theorem dX8_restTotal_31 : decode cX8_restTotal 31 = .ok (.ifCond .ne 7, 3) := by decide +kernel
theorem dX8_restTotal_38 : decode cX8_restTotal 38 = .ok (.iconst 0, 1) := by decide +kernel
theorem dX8_restTotal_39 : decode cX8_restTotal 39 = .ok (.iconst 2, 1) := by decide +kernel
theorem dX8_restTotal_40 : decode cX8_restTotal 40 = .ok (.invokevirtual 73, 3) := by decide +kernel
theorem dX8_restTotal_43 : decode cX8_restTotal 43 = .ok (.ifCond .eq 7, 3) := by decide +kernel
theorem dX8_restTotal_50 : decode cX8_restTotal 50 = .ok (.aload_n 0, 1) := by decide +kernel
theorem dX8_restTotal_51 : decode cX8_restTotal 51 = .ok (.aload_n 2, 1) := by decide +kernel
theorem dX8_restTotal_52 : decode cX8_restTotal 52 = .ok (.iload_n 1, 1) := by decide +kernel
theorem dX8_restTotal_53 : decode cX8_restTotal 53 = .ok (.invokevirtual 135, 3) := by decide +kernel
set_option maxRecDepth 20000 in
theorem ggX8_restTotal_Jx4a65c_get_915e3 : GoodIn wsX8_restTotal wsJx4a65c_get_915e3 := goodIn_r _ [194, 69, 195, 196, 197, 198, 199, 200, 201, 202, 203, 204, 205, 31, 206, 36, 229, 230, 231] (by decide +kernel) (by decide +kernel)
set_option maxRecDepth 20000 in
theorem gX8_restTotal_Jx4a65c_get_915e3 : GoodIn wsX8_restTotal (wsV RX8 135 RJx4a65c yJx4a65c_get_915e3 wsJx4a65c_get_915e3) := goodIn_app (goodIn_of _ (by decide +kernel)) ggX8_restTotal_Jx4a65c_get_915e3
theorem dX8_restTotal_56 : decode cX8_restTotal 56 = .ok (.checkcast 156, 3) := by decide +kernel
theorem dX8_restTotal_59 : decode cX8_restTotal 59 = .ok (.invokevirtual 170, 3) := by decide +kernel
set_option maxRecDepth 20000 in
theorem ggX8_restTotal_X8_total : GoodIn wsX8_restTotal wsX8_total := goodIn_ca (goodIn_ca (goodIn_r _ [210, 11, 166, 18, 173, 169, 170, 171, 5, 172, 174, 175, 176, 177, 178, 179, 180, 211, 212, 213, 214, 215, 216, 217, 218, 219, 220, 221, 222, 223, 224, 225, 226, 227, 228] (by decide +kernel) (by decide +kernel)) (goodIn_sub (fun _ h => List.mem_cons_of_mem _ (List.mem_append_left _ (List.mem_append_right _ h))) (by decide +kernel))) (goodIn_sub (fun _ h => List.mem_cons_of_mem _ (List.mem_append_right _ h)) (by decide +kernel))
set_option maxRecDepth 20000 in
theorem gX8_restTotal_X8_total : GoodIn wsX8_restTotal (wsV RX8 170 RX8 yX8_total wsX8_total) := goodIn_app (goodIn_of _ (by decide +kernel)) ggX8_restTotal_X8_total
theorem dX8_restTotal_62 : decode cX8_restTotal 62 = .ok (.ireturn, 1) := by decide +kernel
theorem dX8_restTotal_34 : decode cX8_restTotal 34 = .ok (.iconst 1, 1) := by decide +kernel
theorem dX8_restTotal_35 : decode cX8_restTotal 35 = .ok (.goto 4, 3) := by decide +kernel
theorem dX8_restTotal_46 : decode cX8_restTotal 46 = .ok (.iconst 0, 1) := by decide +kernel
theorem dX8_restTotal_47 : decode cX8_restTotal 47 = .ok (.goto 15, 3) := by decide +kernel
set_option maxHeartbeats 4000000 in
set_option maxRecDepth 100000 in
theorem k_X8_restTotal (l : Launch) (hl9 : l.stackTraces = false) (D : va_G) (cy : Nat → ClassId) (de : Nat) (h1 : Nat) (p0 : Int32) (x2 : Value) (x3 : Value) (x4 : Value) (x5 : Value) (x6 : Value) (x7 : Value) (x8 : Value) (x9 : Value) (x10 : Value) (x11 : Value) (x12 : Value) (x13 : Value) (h14 : Nat) (x15 : Value) (x16 : Value) (x17 : Value) (x18 : Value) (g19 : Nat → Int32) (sz : Nat) : Met l yX8_restTotal wsX8_restTotal ({ frames := 8, cells := 7, slots := 42, locals := 170 }) (kWY D cy de [.ref h1, .int p0] [(h1, .inr (10, [x2, x3, x4, x5, x6, x7, x8, x9, x10, x11, x12, x13, .ref h14, x15, x16, .int 0, x17, x18])), (h14, .inl (cy 1, 6, .inl g19))] sz) (va_Qi (fun (r : Int32) (u : Int32) => match u with | y1 => ((r = 0 ∧ (y1 = 0) ∧ ((0 : Int) ≤ p0.toInt ∧ p0.toInt ≤ (0 : Int))) ∨ (r = 0 ∧ (y1 = 2) ∧ ¬ (((0 : Int) ≤ p0.toInt ∧ p0.toInt ≤ (0 : Int)))))) (fun (u : Int32) (t : State) => match u with | y1 => va_P D vwCl [(h1, .inr (10, [x2, x3, x4, x5, x6, x7, x8, x9, x10, x11, x12, x13, .ref h14, x15, x16, .int 0, x17, .int y1])), (h14, .inl (cy 1, 6, .inl g19))] t.heap ∧ va_D (va_A [(h1, .inr (10, [x2, x3, x4, x5, x6, x7, x8, x9, x10, x11, x12, x13, .ref h14, x15, x16, .int 0, x17, x18])), (h14, .inl (cy 1, 6, .inl g19))] sz) [(h1, .inr (10, [x2, x3, x4, x5, x6, x7, x8, x9, x10, x11, x12, x13, .ref h14, x15, x16, .int 0, x17, .int y1])), (h14, .inl (cy 1, 6, .inl g19))]) (va_A [(h1, .inr (10, [x2, x3, x4, x5, x6, x7, x8, x9, x10, x11, x12, x13, .ref h14, x15, x16, .int 0, x17, x18])), (h14, .inl (cy 1, 6, .inl g19))] sz)) 7 42 (va_A [(h1, .inr (10, [x2, x3, x4, x5, x6, x7, x8, x9, x10, x11, x12, x13, .ref h14, x15, x16, .int 0, x17, x18])), (h14, .inl (cy 1, 6, .inl g19))] sz) := by
  refine Met.ofW (cc := cX8_restTotal) (maxL := 3) (ret := (some .int)) (by decide) rfl ?_
  intro p e s m args below meth c s₁ B hml hv
  obtain ⟨rfl, hsz, hP, hK, hD0, hE, hY⟩ := hv
  have hx := B.exec
  have hb := B.bytes
  have hr := B.returns
  have hts := atoms_spec (ws := wsX8_restTotal) B.pre
  have hown : s.vm.findClass RX8 = some m.cls := findClass_of_methodNamed B.named
  have hlocks := B.notSynchronized
  subst hsz
  have hD := hD0.self (sz := s.heap.size)
  generalize hAe : va_A [(h1, .inr (10, [x2, x3, x4, x5, x6, x7, x8, x9, x10, x11, x12, x13, .ref h14, x15, x16, .int 0, x17, x18])), (h14, .inl (cy 1, 6, .inl g19))] s.heap.size = A at hD hE hY ⊢
  have hA : ∀ q : Nat, s.heap.size ≤ q → A q := fun q h => by rw [← hAe]; exact Or.inr h
  have hS : va_S A s.heap s.heap [] := va_S.rf
  have hP : va_P D vwCl [(h1, .inr (10, [x2, x3, x4, x5, x6, x7, x8, x9, x10, x11, x12, x13, .ref h14, x15, x16, .int 0, x17, x18])), (h14, .inl (cy 1, 6, .inl g19))] s.heap := hP
  have hl := lv_entry ([.ref h1, .int p0]) (n := 3) (Nat.le_of_ble_eq_true rfl)
  rw [lg_entry_eq]
  generalize (lg_sl ([.ref h1, .int p0]) ++ List.replicate (3 - (lg_sl ([.ref h1, .int p0])).length) Slot.unset).toArray = ls at hl ⊢
  have hl : lv_has ls 3 [(0, .ref h1), (1, .int p0)] := hl
  refine lv_aload_n hx hb dX8_restTotal_0 rfl (lv_at hl 0 rfl) ?_
  refine lv_aload_n hx hb dX8_restTotal_1 rfl (lv_at hl 0 rfl) ?_
  have hPc := hP.sub (ws' := [(h1, .inr (10, [x2, x3, x4, x5, x6, x7, x8, x9, x10, x11, x12, x13, .ref h14, x15, x16, .int 0, x17, x18]))]) [0] rfl
  refine va_calli (va_runV (As := []) (rest := [.ref h1]) ⟨hx, hb, hml, hown, hts⟩ (k_X8_areMany l D cy h1 (x2) (x3) (x4) (x5) (x6) (x7) (x8) (x9) (x10) (x11) (x12) (x13) (.ref h14) (x15) (x16) (x17) (x18)) (cwV 0 hts gX8_restTotal_X8_areMany rfl rfl rfl (by decide +kernel) ⟨(Nat.le_of_ble_eq_true rfl), (Nat.le_of_ble_eq_true rfl)⟩) ⟨kR_fb, va_recv hK hP (ci := 10) (q0 := 0) rfl rfl, (kR_go hPc hK)⟩ rfl rfl hl.1 rfl (lv_room (Nat.le_of_ble_eq_true rfl)) dX8_restTotal_2 ⟨(Nat.le_of_ble_eq_true rfl), (Nat.le_of_ble_eq_true rfl)⟩) hS (fun _ _ h => h.elim) (fun _ h => h.elim) (fun r9 u t H locs ht hvm hw hB hz1 hk1 hS => ?_)
  have hP := kx_kept hP hk1
  obtain ⟨rfl, hw⟩ := hw
  refine lv_iconst (v := 1) hx hb dX8_restTotal_5 (by decide) ?_
  have hPc := hP.sub (ws' := [(h1, .inr (10, [x2, x3, x4, x5, x6, x7, x8, x9, x10, x11, x12, x13, .ref h14, x15, x16, .int 0, x17, x18]))]) [0] rfl
  have hDc := hD.sub (ws' := [(h1, .inr (10, [x2, x3, x4, x5, x6, x7, x8, x9, x10, x11, x12, x13, .ref h14, x15, x16, .int 0, x17, x18]))]) [0] (by decide) rfl
  have hFc := va_free (wc := [(h1, .inr (10, [x2, x3, x4, x5, x6, x7, x8, x9, x10, x11, x12, x13, .ref h14, x15, x16, .int 0, x17, x18]))]) hD hS hA [0] rfl
  refine va_calli (va_runV (As := [.int 0, .int 1]) (rest := []) ⟨hx, hb, hml, hown, hts⟩ (k_X8_isThrown_1 l D cy h1 (x2) (x3) (x4) (x5) (x6) (x7) (x8) (x9) (x10) (x11) (x12) (x13) (.ref h14) (x15) (x16) (.int 0) (x17) (x18) H.size) (cwV 2 hts gX8_restTotal_X8_isThrown rfl rfl rfl (by decide +kernel) ⟨(Nat.le_of_ble_eq_true rfl), (Nat.le_of_ble_eq_true rfl)⟩) ⟨kW_fb, va_recv hK hP (ci := 10) (q0 := 0) rfl rfl, (kW_go hPc hK hDc)⟩ rfl rfl hl.1 rfl (lv_room (Nat.le_of_ble_eq_true rfl)) dX8_restTotal_6 ⟨(Nat.le_of_ble_eq_true rfl), (Nat.le_of_ble_eq_true rfl)⟩) hS (fun q _ h => hFc q h) hFc (fun r9 u t H locs ht hvm hw hB hz1 hk1 hS => ?_)
  obtain ⟨hP1, hD1⟩ := hB
  rw [ht] at hP1
  try dsimp only at hw hP1 hD1
  obtain ⟨hP, hD⟩ := va_join (wr := [(h14, .inl (cy 1, 6, .inl g19))]) (w1 := [(h1, .inr (10, [x2, x3, x4, x5, x6, x7, x8, x9, x10, x11, x12, x13, .ref h14, x15, x16, .int 0, x17, .int 0]))]) hP hD [0] [1] rfl rfl (by decide) (by decide) hk1 hFc hP1 hD1
  have hP : va_P D vwCl [(h14, .inl (cy 1, 6, .inl g19)), (h1, .inr (10, [x2, x3, x4, x5, x6, x7, x8, x9, x10, x11, x12, x13, .ref h14, x15, x16, .int 0, x17, .int 0]))] H := hP
  have hD : va_D A [(h14, .inl (cy 1, 6, .inl g19)), (h1, .inr (10, [x2, x3, x4, x5, x6, x7, x8, x9, x10, x11, x12, x13, .ref h14, x15, x16, .int 0, x17, .int 0]))] := hD
  obtain ⟨rfl, hw⟩ := hw
  refine lv_if_eq (tgt := 14) hx hb dX8_restTotal_9 (by decide) (fun _ => ?_) (fun h => absurd (by decide) h)
  refine lv_aload_n hx hb dX8_restTotal_14 rfl (lv_at hl 0 rfl) ?_
  have hPc := hP.sub (ws' := [(h1, .inr (10, [x2, x3, x4, x5, x6, x7, x8, x9, x10, x11, x12, x13, .ref h14, x15, x16, .int 0, x17, .int 0])), (h14, .inl (cy 1, 6, .inl g19))]) [1, 0] rfl
  have hDc := hD.sub (ws' := [(h1, .inr (10, [x2, x3, x4, x5, x6, x7, x8, x9, x10, x11, x12, x13, .ref h14, x15, x16, .int 0, x17, .int 0])), (h14, .inl (cy 1, 6, .inl g19))]) [1, 0] (by decide) rfl
  have hFc := va_free (wc := [(h1, .inr (10, [x2, x3, x4, x5, x6, x7, x8, x9, x10, x11, x12, x13, .ref h14, x15, x16, .int 0, x17, .int 0])), (h14, .inl (cy 1, 6, .inl g19))]) hD hS hA [1, 0] rfl
  refine va_callr (va_runV (As := []) (rest := []) ⟨hx, hb, hml, hown, hts⟩ (k_X8_rests l hl9 D cy de h1 (x2) (x3) (x4) (x5) (x6) (x7) (x8) (x9) (x10) (x11) (x12) (x13) h14 (x15) (x16) (x17) (.int 0) g19 H.size) (cwV 0 hts gX8_restTotal_X8_rests rfl rfl rfl (by decide +kernel) ⟨(Nat.le_of_ble_eq_true rfl), (Nat.le_of_ble_eq_true rfl)⟩) ⟨kWY_fb, va_recv hK hP (ci := 10) (q0 := 1) rfl rfl, (kWY_go hPc hK hDc hFc hE hY hS)⟩ rfl rfl hl.1 rfl (lv_room (Nat.le_of_ble_eq_true rfl)) dX8_restTotal_15 ⟨(Nat.le_of_ble_eq_true rfl), (Nat.le_of_ble_eq_true rfl)⟩) hS (fun q _ h => hFc q h) hFc (fun u r9 t H locs ht hvm hw hB hz1 hk1 hS => ?_)
  obtain ⟨z_3, z_4, u_5, z_6⟩ := u
  obtain ⟨e9, hB⟩ := hB
  have e9 := e9.symm
  subst e9
  obtain ⟨hP1, hD1⟩ := hB
  rw [ht] at hP1
  try dsimp only at hw hP1 hD1
  obtain ⟨hP, hD⟩ := va_join (wr := []) (w1 := [(h1, .inr (10, [x2, x3, x4, x5, x6, x7, x8, x9, x10, x11, x12, x13, .ref h14, x15, x16, .int 0, x17, .int 0])), (h14, .inl (cy 1, 6, .inl g19)), (z_3, .inr (1, [.int 1, .ref z_4, .int 1])), (z_4, .inl (cy 7, 10, .inr (.inr (.inr (.inr u_5))))), (z_6, .inl (cy 1, 6, .inl g19))]) hP hD [1, 0] [] rfl rfl (by decide) (by decide) hk1 hFc hP1 hD1
  have hP : va_P D vwCl [(h1, .inr (10, [x2, x3, x4, x5, x6, x7, x8, x9, x10, x11, x12, x13, .ref h14, x15, x16, .int 0, x17, .int 0])), (h14, .inl (cy 1, 6, .inl g19)), (z_3, .inr (1, [.int 1, .ref z_4, .int 1])), (z_4, .inl (cy 7, 10, .inr (.inr (.inr (.inr u_5))))), (z_6, .inl (cy 1, 6, .inl g19))] H := hP
  have hD : va_D A [(h1, .inr (10, [x2, x3, x4, x5, x6, x7, x8, x9, x10, x11, x12, x13, .ref h14, x15, x16, .int 0, x17, .int 0])), (h14, .inl (cy 1, 6, .inl g19)), (z_3, .inr (1, [.int 1, .ref z_4, .int 1])), (z_4, .inl (cy 7, 10, .inr (.inr (.inr (.inr u_5))))), (z_6, .inl (cy 1, 6, .inl g19))] := hD
  refine W.widen (k := 7) (n := 42) (Nat.le_of_ble_eq_true rfl) (Nat.le_of_ble_eq_true rfl) ?_
  obtain ⟨kf_7, hw⟩ := hw
  refine lv_astore_n (lv' := [(2, .ref z_3), (0, .ref h1), (1, .int p0)]) hx hb dX8_restTotal_18 rfl hl (by decide) rfl (fun ls hl => ?_)
  refine lv_aload_n hx hb dX8_restTotal_19 rfl (lv_at hl 1 rfl) ?_
  refine lv_iload_n hx hb dX8_restTotal_20 rfl (lv_at hl 2 rfl) ?_
  refine lv_iconst (v := 0) hx hb dX8_restTotal_21 (by decide) ?_
  refine lv_aload_n hx hb dX8_restTotal_22 rfl (lv_at hl 0 rfl) ?_
  have hPc := hP.sub (ws' := [(z_3, .inr (1, [.int 1, .ref z_4, .int 1]))]) [2] rfl
  refine va_calli (va_runV (As := []) (rest := [.int 0, .int p0, .ref h1]) ⟨hx, hb, hml, hown, hts⟩ (k_Jx4a65c_size_8abf5 l D cy z_3 (.int 1) (.ref z_4)) (cwV 0 hts gX8_restTotal_Jx4a65c_size_8abf5 rfl rfl rfl (by decide +kernel) ⟨(Nat.le_of_ble_eq_true rfl), (Nat.le_of_ble_eq_true rfl)⟩) ⟨kR_fb, va_recv hK hP (ci := 1) (q0 := 2) rfl rfl, (kR_go hPc hK)⟩ rfl rfl hl.1 rfl (lv_room (Nat.le_of_ble_eq_true rfl)) dX8_restTotal_23 ⟨(Nat.le_of_ble_eq_true rfl), (Nat.le_of_ble_eq_true rfl)⟩) hS (fun _ _ h => h.elim) (fun _ h => h.elim) (fun r9 u t H locs ht hvm hw hB hz1 hk1 hS => ?_)
  have hP := kx_kept hP hk1
  obtain ⟨rfl, hw⟩ := hw
  refine lv_iconst (v := 1) hx hb dX8_restTotal_26 (by decide) ?_
  refine lv_isub hx hb dX8_restTotal_27 ?_
  refine lv_topi (fun v_10 ev_10 => ?_)
  obtain rfl : v_10 = 0 := ev_10.trans (by decide)
  have hPc := hP.sub (ws' := []) [] rfl
  refine va_calli (va_runS (As := [.int p0, .int 0, .int 0]) (rest := [.ref h1]) ⟨hx, hb, hml, hown, hts⟩ (k_X8_isIn l D cy p0 0 0) (va_cwS 3 hts gX8_restTotal_X8_isIn rfl rfl rfl (by decide +kernel) ⟨(Nat.le_of_ble_eq_true rfl), (Nat.le_of_ble_eq_true rfl)⟩) ⟨kR_fb, (kR_go hPc hK)⟩ rfl rfl hl.1 rfl (lv_room (Nat.le_of_ble_eq_true rfl)) dX8_restTotal_28 ⟨(Nat.le_of_ble_eq_true rfl), (Nat.le_of_ble_eq_true rfl)⟩) hS (fun _ _ h => h.elim) (fun _ h => h.elim) (fun r9 u t H locs ht hvm hw hB hz1 hk1 hS => ?_)
  have hP := kx_kept hP hk1
  rcases hw with ⟨rfl, hw⟩ | ⟨rfl, hw⟩
  · have f_11 : ((0 : Int) ≤ p0.toInt ∧ p0.toInt ≤ (0 : Int)) := hw
    refine lv_if_ne (tgt := 38) hx hb dX8_restTotal_31 (by decide) (fun _ => ?_) (fun h => absurd h (by decide))
    refine lv_iconst (v := 0) hx hb dX8_restTotal_38 (by decide) ?_
    refine lv_iconst (v := 2) hx hb dX8_restTotal_39 (by decide) ?_
    have hPc := hP.sub (ws' := [(h1, .inr (10, [x2, x3, x4, x5, x6, x7, x8, x9, x10, x11, x12, x13, .ref h14, x15, x16, .int 0, x17, .int 0]))]) [0] rfl
    have hDc := hD.sub (ws' := [(h1, .inr (10, [x2, x3, x4, x5, x6, x7, x8, x9, x10, x11, x12, x13, .ref h14, x15, x16, .int 0, x17, .int 0]))]) [0] (by decide) rfl
    have hFc := va_free (wc := [(h1, .inr (10, [x2, x3, x4, x5, x6, x7, x8, x9, x10, x11, x12, x13, .ref h14, x15, x16, .int 0, x17, .int 0]))]) hD hS hA [0] rfl
    refine va_calli (va_runV (As := [.int 0, .int 2]) (rest := []) ⟨hx, hb, hml, hown, hts⟩ (k_X8_isThrown_2 l D cy h1 (x2) (x3) (x4) (x5) (x6) (x7) (x8) (x9) (x10) (x11) (x12) (x13) (.ref h14) (x15) (x16) (.int 0) (x17) (.int 0) H.size) (cwV 2 hts gX8_restTotal_X8_isThrown rfl rfl rfl (by decide +kernel) ⟨(Nat.le_of_ble_eq_true rfl), (Nat.le_of_ble_eq_true rfl)⟩) ⟨kW_fb, va_recv hK hP (ci := 10) (q0 := 0) rfl rfl, (kW_go hPc hK hDc)⟩ rfl rfl hl.1 rfl (lv_room (Nat.le_of_ble_eq_true rfl)) dX8_restTotal_40 ⟨(Nat.le_of_ble_eq_true rfl), (Nat.le_of_ble_eq_true rfl)⟩) hS (fun q _ h => hFc q h) hFc (fun r9 u t H locs ht hvm hw hB hz1 hk1 hS => ?_)
    obtain ⟨hP1, hD1⟩ := hB
    rw [ht] at hP1
    try dsimp only at hw hP1 hD1
    obtain ⟨hP, hD⟩ := va_join (wr := [(h14, .inl (cy 1, 6, .inl g19)), (z_3, .inr (1, [.int 1, .ref z_4, .int 1])), (z_4, .inl (cy 7, 10, .inr (.inr (.inr (.inr u_5))))), (z_6, .inl (cy 1, 6, .inl g19))]) (w1 := [(h1, .inr (10, [x2, x3, x4, x5, x6, x7, x8, x9, x10, x11, x12, x13, .ref h14, x15, x16, .int 0, x17, .int 0]))]) hP hD [0] [1, 2, 3, 4] rfl rfl (by decide) (by decide) hk1 hFc hP1 hD1
    have hP : va_P D vwCl [(h14, .inl (cy 1, 6, .inl g19)), (z_3, .inr (1, [.int 1, .ref z_4, .int 1])), (z_4, .inl (cy 7, 10, .inr (.inr (.inr (.inr u_5))))), (z_6, .inl (cy 1, 6, .inl g19)), (h1, .inr (10, [x2, x3, x4, x5, x6, x7, x8, x9, x10, x11, x12, x13, .ref h14, x15, x16, .int 0, x17, .int 0]))] H := hP
    have hD : va_D A [(h14, .inl (cy 1, 6, .inl g19)), (z_3, .inr (1, [.int 1, .ref z_4, .int 1])), (z_4, .inl (cy 7, 10, .inr (.inr (.inr (.inr u_5))))), (z_6, .inl (cy 1, 6, .inl g19)), (h1, .inr (10, [x2, x3, x4, x5, x6, x7, x8, x9, x10, x11, x12, x13, .ref h14, x15, x16, .int 0, x17, .int 0]))] := hD
    obtain ⟨rfl, hw⟩ := hw
    refine lv_if_eq (tgt := 50) hx hb dX8_restTotal_43 (by decide) (fun _ => ?_) (fun h => absurd (by decide) h)
    refine lv_aload_n hx hb dX8_restTotal_50 rfl (lv_at hl 1 rfl) ?_
    refine lv_aload_n hx hb dX8_restTotal_51 rfl (lv_at hl 0 rfl) ?_
    refine lv_iload_n hx hb dX8_restTotal_52 rfl (lv_at hl 2 rfl) ?_
    obtain rfl : p0 = 0 := Int32.toInt_inj.mp (show p0.toInt = (0 : Int) by omega)
    have z9 : (0 : Int32).toInt = 0 := rfl
    have hPc := hP.sub (ws' := [(z_3, .inr (1, [.int 1, .ref z_4, .int 1])), (z_4, .inl (cy 7, 10, .inr (.inr (.inr (.inr u_5)))))]) [1, 2] rfl
    refine va_callr (va_runV (As := [.int 0]) (rest := [.ref h1]) ⟨hx, hb, hml, hown, hts⟩ (k_Jx4a65c_get_915e3 l D cy z_3 (.int 1) z_4 u_5 z_6 (kf_7)) (cwV 1 hts gX8_restTotal_Jx4a65c_get_915e3 rfl rfl rfl (by decide +kernel) ⟨(Nat.le_of_ble_eq_true rfl), (Nat.le_of_ble_eq_true rfl)⟩) ⟨kR_fb, va_recv hK hP (ci := 1) (q0 := 1) rfl rfl, (kR_go hPc hK)⟩ rfl rfl hl.1 rfl (lv_room (Nat.le_of_ble_eq_true rfl)) dX8_restTotal_53 ⟨(Nat.le_of_ble_eq_true rfl), (Nat.le_of_ble_eq_true rfl)⟩) hS (fun _ _ h => h.elim) (fun _ h => h.elim) (fun u r9 t H locs ht hvm hw hB hz1 hk1 hS => ?_)
    have e9 := Eq.symm hB
    subst e9
    have hP := kx_kept hP hk1
    refine va_castA hx hb hown (hts (.classLink RX8 156 "[I") (List.mem_cons_of_mem _ (List.mem_append_left _ (List.mem_append_left _ (List.mem_append_left _ (List.mem_append_left _ (List.mem_append_left _ (List.mem_append_left _ (List.mem_of_getElem? (i := 0) rfl))))))))) hP 3 rfl (va_nm_int (hK.2 1 _ rfl).2) dX8_restTotal_56 ?_
    have hPc := hP.sub (ws' := [(h1, .inr (10, [x2, x3, x4, x5, x6, x7, x8, x9, x10, x11, x12, x13, .ref h14, x15, x16, .int 0, x17, .int 0]))]) [4] rfl
    refine va_calli (va_runV (As := [.ref z_6]) (rest := []) ⟨hx, hb, hml, hown, hts⟩ (k_X8_total l D cy h1 z_6 (x2) (x3) (x4) (x5) (x6) (x7) (x8) (x9) (x10) (x11) (x12) (x13) (.ref h14) (x15) (x16) (x17) (.int 0)) (cwV 1 hts gX8_restTotal_X8_total rfl rfl rfl (by decide +kernel) ⟨(Nat.le_of_ble_eq_true rfl), (Nat.le_of_ble_eq_true rfl)⟩) ⟨kR_fb, va_recv hK hP (ci := 10) (q0 := 4) rfl rfl, (kR_go hPc hK)⟩ rfl rfl hl.1 rfl (lv_room (Nat.le_of_ble_eq_true rfl)) dX8_restTotal_59 ⟨(Nat.le_of_ble_eq_true rfl), (Nat.le_of_ble_eq_true rfl)⟩) hS (fun _ _ h => h.elim) (fun _ h => h.elim) (fun r9 u t H locs ht hvm hw hB hz1 hk1 hS => ?_)
    have hP := kx_kept hP hk1
    obtain ⟨rfl, hw⟩ := hw
    refine W.widen (k := 7) (n := 42) (Nat.le_of_ble_eq_true rfl) (Nat.le_of_ble_eq_true rfl) ?_
    have hP9 := hP.sub (ws' := [(h1, .inr (10, [x2, x3, x4, x5, x6, x7, x8, x9, x10, x11, x12, x13, .ref h14, x15, x16, .int 0, x17, .int 0])), (h14, .inl (cy 1, 6, .inl g19))]) [4, 0] rfl
    have hD9 := hD.sub (ws' := [(h1, .inr (10, [x2, x3, x4, x5, x6, x7, x8, x9, x10, x11, x12, x13, .ref h14, x15, x16, .int 0, x17, .int 0])), (h14, .inl (cy 1, 6, .inl g19))]) [4, 0] (by decide) rfl
    exact W.iret (v := 0) hx hb hr (fun t ht hW => ⟨⟨0, (0), rfl, Or.inl (⟨rfl, rfl, (by omega)⟩), ⟨by rw [ht]; exact hP9, hD9⟩⟩, hS.F ht⟩) hS.2.2 dX8_restTotal_62
  · have f_15 : ¬ (((0 : Int) ≤ p0.toInt ∧ p0.toInt ≤ (0 : Int))) := hw
    refine lv_if_ne (tgt := 38) hx hb dX8_restTotal_31 (by decide) (fun h => absurd (by decide) h) (fun _ => ?_)
    refine lv_iconst (v := 1) hx hb dX8_restTotal_34 (by decide) ?_
    refine lv_goto (tgt := 39) hx hb dX8_restTotal_35 (by decide) ?_
    refine lv_iconst (v := 2) hx hb dX8_restTotal_39 (by decide) ?_
    have hPc := hP.sub (ws' := [(h1, .inr (10, [x2, x3, x4, x5, x6, x7, x8, x9, x10, x11, x12, x13, .ref h14, x15, x16, .int 0, x17, .int 0]))]) [0] rfl
    have hDc := hD.sub (ws' := [(h1, .inr (10, [x2, x3, x4, x5, x6, x7, x8, x9, x10, x11, x12, x13, .ref h14, x15, x16, .int 0, x17, .int 0]))]) [0] (by decide) rfl
    have hFc := va_free (wc := [(h1, .inr (10, [x2, x3, x4, x5, x6, x7, x8, x9, x10, x11, x12, x13, .ref h14, x15, x16, .int 0, x17, .int 0]))]) hD hS hA [0] rfl
    refine va_calli (va_runV (As := [.int 1, .int 2]) (rest := []) ⟨hx, hb, hml, hown, hts⟩ (k_X8_isThrown_3 l D cy h1 (x2) (x3) (x4) (x5) (x6) (x7) (x8) (x9) (x10) (x11) (x12) (x13) (.ref h14) (x15) (x16) (.int 0) (x17) (.int 0) H.size) (cwV 2 hts gX8_restTotal_X8_isThrown rfl rfl rfl (by decide +kernel) ⟨(Nat.le_of_ble_eq_true rfl), (Nat.le_of_ble_eq_true rfl)⟩) ⟨kW_fb, va_recv hK hP (ci := 10) (q0 := 0) rfl rfl, (kW_go hPc hK hDc)⟩ rfl rfl hl.1 rfl (lv_room (Nat.le_of_ble_eq_true rfl)) dX8_restTotal_40 ⟨(Nat.le_of_ble_eq_true rfl), (Nat.le_of_ble_eq_true rfl)⟩) hS (fun q _ h => hFc q h) hFc (fun r9 u t H locs ht hvm hw hB hz1 hk1 hS => ?_)
    obtain ⟨hP1, hD1⟩ := hB
    rw [ht] at hP1
    try dsimp only at hw hP1 hD1
    obtain ⟨hP, hD⟩ := va_join (wr := [(h14, .inl (cy 1, 6, .inl g19)), (z_3, .inr (1, [.int 1, .ref z_4, .int 1])), (z_4, .inl (cy 7, 10, .inr (.inr (.inr (.inr u_5))))), (z_6, .inl (cy 1, 6, .inl g19))]) (w1 := [(h1, .inr (10, [x2, x3, x4, x5, x6, x7, x8, x9, x10, x11, x12, x13, .ref h14, x15, x16, .int 0, x17, .int 2]))]) hP hD [0] [1, 2, 3, 4] rfl rfl (by decide) (by decide) hk1 hFc hP1 hD1
    have hP : va_P D vwCl [(h14, .inl (cy 1, 6, .inl g19)), (z_3, .inr (1, [.int 1, .ref z_4, .int 1])), (z_4, .inl (cy 7, 10, .inr (.inr (.inr (.inr u_5))))), (z_6, .inl (cy 1, 6, .inl g19)), (h1, .inr (10, [x2, x3, x4, x5, x6, x7, x8, x9, x10, x11, x12, x13, .ref h14, x15, x16, .int 0, x17, .int 2]))] H := hP
    have hD : va_D A [(h14, .inl (cy 1, 6, .inl g19)), (z_3, .inr (1, [.int 1, .ref z_4, .int 1])), (z_4, .inl (cy 7, 10, .inr (.inr (.inr (.inr u_5))))), (z_6, .inl (cy 1, 6, .inl g19)), (h1, .inr (10, [x2, x3, x4, x5, x6, x7, x8, x9, x10, x11, x12, x13, .ref h14, x15, x16, .int 0, x17, .int 2]))] := hD
    obtain ⟨rfl, hw⟩ := hw
    refine lv_if_eq (tgt := 50) hx hb dX8_restTotal_43 (by decide) (fun h => absurd h (by decide)) (fun _ => ?_)
    refine lv_iconst (v := 0) hx hb dX8_restTotal_46 (by decide) ?_
    refine lv_goto (tgt := 62) hx hb dX8_restTotal_47 (by decide) ?_
    refine W.widen (k := 7) (n := 42) (Nat.le_of_ble_eq_true rfl) (Nat.le_of_ble_eq_true rfl) ?_
    have hP9 := hP.sub (ws' := [(h1, .inr (10, [x2, x3, x4, x5, x6, x7, x8, x9, x10, x11, x12, x13, .ref h14, x15, x16, .int 0, x17, .int 2])), (h14, .inl (cy 1, 6, .inl g19))]) [4, 0] rfl
    have hD9 := hD.sub (ws' := [(h1, .inr (10, [x2, x3, x4, x5, x6, x7, x8, x9, x10, x11, x12, x13, .ref h14, x15, x16, .int 0, x17, .int 2])), (h14, .inl (cy 1, 6, .inl g19))]) [4, 0] (by decide) rfl
    exact W.iret (v := 0) hx hb hr (fun t ht hW => ⟨⟨0, (2), rfl, Or.inr (⟨rfl, rfl, (by omega)⟩), ⟨by rw [ht]; exact hP9, hD9⟩⟩, hS.F ht⟩) hS.2.2 dX8_restTotal_62
theorem dX7_goToRest_0 : decode cX7_goToRest 0 = .ok (.aload_n 0, 1) := by decide +kernel
theorem dX7_goToRest_1 : decode cX7_goToRest 1 = .ok (.getfield 29, 3) := by decide +kernel
theorem dX7_goToRest_4 : decode cX7_goToRest 4 = .ok (.aload_n 0, 1) := by decide +kernel
theorem dX7_goToRest_5 : decode cX7_goToRest 5 = .ok (.getfield 10, 3) := by decide +kernel
theorem dX7_goToRest_8 : decode cX7_goToRest 8 = .ok (.aload_n 0, 1) := by decide +kernel
theorem dX7_goToRest_9 : decode cX7_goToRest 9 = .ok (.iload_n 1, 1) := by decide +kernel
theorem dX7_goToRest_10 : decode cX7_goToRest 10 = .ok (.invokevirtual 274, 3) := by decide +kernel
set_option maxRecDepth 20000 in
theorem ggX7_goToRest_X7_findRest : GoodIn wsX7_goToRest wsX7_findRest := goodIn_ca (goodIn_ca (goodIn_ca (goodIn_ca (goodIn_r _ [11, 12, 13, 1, 14, 15, 16, 10, 17, 2, 18, 19, 20, 21, 22, 23, 4, 24, 25, 26, 27, 28, 29, 30, 31, 32, 33, 34, 35, 36, 37, 38, 39, 40, 41, 42, 43, 44, 45, 46, 47, 48, 49, 50, 51, 52, 53, 54, 55, 56, 57, 58, 59, 60, 61, 62, 63, 64, 65, 66, 67, 68, 69, 70, 71, 72, 73, 74, 75, 76, 77, 78, 79, 80, 81, 82, 83, 84, 85, 86, 87, 88, 89, 90, 91, 92, 93, 94, 95, 96, 97, 98, 99, 100, 101, 102, 103, 104, 105, 106, 107, 108, 109, 110, 111, 112, 113, 114, 115, 116, 117, 118, 119, 120, 121, 122, 123, 124, 125, 126, 127, 128, 129, 132, 133, 134, 135, 136, 137, 138, 146, 147, 148, 149, 150, 151, 152, 153, 154, 155, 156, 157, 158, 143, 144, 145, 139, 140, 141, 142, 159, 160, 161, 162, 163, 164, 165, 166, 167, 168, 169, 170, 171] (by decide +kernel) (by decide +kernel)) (goodIn_sub (fun _ h => List.mem_cons_of_mem _ (List.mem_append_left _ (List.mem_append_left _ (List.mem_append_right _ h)))) (by decide +kernel))) (goodIn_sub (fun _ h => List.mem_cons_of_mem _ (List.mem_append_left _ (List.mem_append_right _ h))) (by decide +kernel))) (goodIn_sub (fun _ h => List.mem_cons_of_mem _ (List.mem_append_left _ (List.mem_append_left _ (List.mem_append_left _ (List.mem_append_right _ h))))) (by decide +kernel))) (goodIn_sub (fun _ h => List.mem_cons_of_mem _ (List.mem_append_right _ h)) (by decide +kernel))
set_option maxRecDepth 20000 in
theorem gX7_goToRest_X7_findRest : GoodIn wsX7_goToRest (wsV RX7 274 RX7 yX7_findRest wsX7_findRest) := goodIn_app (goodIn_of _ (by decide +kernel)) ggX7_goToRest_X7_findRest
theorem dX7_goToRest_13 : decode cX7_goToRest 13 = .ok (.invokevirtual 277, 3) := by decide +kernel
set_option maxRecDepth 20000 in
theorem ggX7_goToRest_X6_show : GoodIn wsX7_goToRest wsX6_show := goodIn_ca (goodIn_ca (goodIn_r _ [79, 33, 63, 30, 38, 80, 81, 82, 28, 83, 35, 34, 84, 85, 86, 42, 87, 44, 46, 88, 89, 90, 52, 53, 54, 55, 56, 57, 58, 91, 10, 92, 139, 140, 141, 142, 146, 147, 148, 149, 150, 151, 152, 153, 154, 155, 156, 157, 158, 143, 144, 145, 159, 160, 161, 162, 163, 164] (by decide +kernel) (by decide +kernel)) (goodIn_sub (fun _ h => List.mem_cons_of_mem _ (List.mem_append_left _ (List.mem_append_left _ (List.mem_append_left _ (List.mem_append_right _ h))))) (by decide +kernel))) (goodIn_sub (fun _ h => List.mem_cons_of_mem _ (List.mem_append_right _ h)) (by decide +kernel))
set_option maxRecDepth 20000 in
theorem gX7_goToRest_X6_show : GoodIn wsX7_goToRest (wsV RX7 277 RX6 yX6_show wsX6_show) := goodIn_app (goodIn_of _ (by decide +kernel)) ggX7_goToRest_X6_show
theorem dX7_goToRest_16 : decode cX7_goToRest 16 = .ok (.iconst 0, 1) := by decide +kernel
theorem dX7_goToRest_17 : decode cX7_goToRest 17 = .ok (.istore_n 2, 1) := by decide +kernel
theorem dX7_goToRest_18 : decode cX7_goToRest 18 = .ok (.iconst 0, 1) := by decide +kernel
theorem dX7_goToRest_19 : decode cX7_goToRest 19 = .ok (.istore_n 3, 1) := by decide +kernel
theorem dX7_goToRest_20 : decode cX7_goToRest 20 = .ok (.iload_n 3, 1) := by decide +kernel
theorem dX7_goToRest_21 : decode cX7_goToRest 21 = .ok (.aload_n 0, 1) := by decide +kernel
theorem dX7_goToRest_22 : decode cX7_goToRest 22 = .ok (.getfield 10, 3) := by decide +kernel
theorem dX7_goToRest_25 : decode cX7_goToRest 25 = .ok (.getfield 281, 3) := by decide +kernel
theorem dX7_goToRest_28 : decode cX7_goToRest 28 = .ok (.if_icmp .ge 60, 3) := by decide +kernel
theorem dX7_goToRest_88 : decode cX7_goToRest 88 = .ok (.iload_n 2, 1) := by decide +kernel
theorem dX7_goToRest_89 : decode cX7_goToRest 89 = .ok (.ireturn, 1) := by decide +kernel
set_option maxHeartbeats 4000000 in
set_option maxRecDepth 100000 in
theorem k_X7_goToRest (l : Launch) (hl9 : l.stackTraces = false) (D : va_G) (cy : Nat → ClassId) (h1 : Nat) (p0 : Int32) (h2 : Nat) (h3 : Nat) (x4 : Value) (h5 : Nat) (x6 : Value) (x7 : Value) (x8 : Value) (x9 : Value) (x10 : Value) (x11 : Value) (x12 : Value) (x13 : Value) (x14 : Value) (x15 : Value) (x16 : Value) (x17 : Value) (h18 : Nat) (h19 : Nat) (x20 : Value) (x21 : Value) (x22 : Value) (x23 : Value) (h24 : Nat) (g25 : Nat → Int32) (g26 : Nat → Int32) (kg26_0 : g26 0 = 0) (x27 : Value) (x28 : Value) (x29 : Value) (sz : Nat) : vx_Met l yX7_goToRest wsX7_goToRest ({ frames := 7, cells := 1, slots := 6, locals := 104 }) (kWX D cy [.ref h1, .int p0] [(h1, .inr (9, [.ref h2, .ref h3, x4, .ref h5, x6, x7, x8])), (h2, .inr (2, [x9, x10, x11, .int 0])), (h3, .inr (5, [x12, x13, .int 0])), (h5, .inr (8, [x14, x15, x16, x17, .ref h18, .ref h19, x20, x21, x22, x23, .ref h24, .int 0, .int 0])), (h18, .inl (cy 1, 1000, .inl g25)), (h19, .inl (cy 1, 1000, .inl g26)), (h24, .inr (5, [x27, x28, x29]))] sz) (va_Qi (fun (r : Int32) (_ : Unit) => r = 0 ∧ (0 : Int) = p0.toInt) (fun (_ : Unit) (t : State) => va_P D vwCl [(h1, .inr (9, [.ref h2, .ref h3, x4, .ref h5, x6, x7, x8])), (h2, .inr (2, [x9, x10, x11, .int 0])), (h3, .inr (5, [x12, x13, .int 0])), (h5, .inr (8, [x14, x15, x16, x17, .ref h18, .ref h19, x20, x21, x22, x23, .ref h24, .int 1, .int 1])), (h18, .inl (cy 1, 1000, .inl (upd g25 0 0))), (h19, .inl (cy 1, 1000, .inl (upd g26 0 0))), (h24, .inr (5, [x27, x28, .int 0]))] t.heap ∧ va_D (va_A [(h1, .inr (9, [.ref h2, .ref h3, x4, .ref h5, x6, x7, x8])), (h2, .inr (2, [x9, x10, x11, .int 0])), (h3, .inr (5, [x12, x13, .int 0])), (h5, .inr (8, [x14, x15, x16, x17, .ref h18, .ref h19, x20, x21, x22, x23, .ref h24, .int 0, .int 0])), (h18, .inl (cy 1, 1000, .inl g25)), (h19, .inl (cy 1, 1000, .inl g26)), (h24, .inr (5, [x27, x28, x29]))] sz) [(h1, .inr (9, [.ref h2, .ref h3, x4, .ref h5, x6, x7, x8])), (h2, .inr (2, [x9, x10, x11, .int 0])), (h3, .inr (5, [x12, x13, .int 0])), (h5, .inr (8, [x14, x15, x16, x17, .ref h18, .ref h19, x20, x21, x22, x23, .ref h24, .int 1, .int 1])), (h18, .inl (cy 1, 1000, .inl (upd g25 0 0))), (h19, .inl (cy 1, 1000, .inl (upd g26 0 0))), (h24, .inr (5, [x27, x28, .int 0]))]) (va_A [(h1, .inr (9, [.ref h2, .ref h3, x4, .ref h5, x6, x7, x8])), (h2, .inr (2, [x9, x10, x11, .int 0])), (h3, .inr (5, [x12, x13, .int 0])), (h5, .inr (8, [x14, x15, x16, x17, .ref h18, .ref h19, x20, x21, x22, x23, .ref h24, .int 0, .int 0])), (h18, .inl (cy 1, 1000, .inl g25)), (h19, .inl (cy 1, 1000, .inl g26)), (h24, .inr (5, [x27, x28, x29]))] sz)) (vx_X (fun _ : Unit => True) (fun (E : String) (_ : Unit) (_ : State) => (E = "java/util/NoSuchElementException" ∧ (0 : Int) ≠ p0.toInt)) (va_A [(h1, .inr (9, [.ref h2, .ref h3, x4, .ref h5, x6, x7, x8])), (h2, .inr (2, [x9, x10, x11, .int 0])), (h3, .inr (5, [x12, x13, .int 0])), (h5, .inr (8, [x14, x15, x16, x17, .ref h18, .ref h19, x20, x21, x22, x23, .ref h24, .int 0, .int 0])), (h18, .inl (cy 1, 1000, .inl g25)), (h19, .inl (cy 1, 1000, .inl g26)), (h24, .inr (5, [x27, x28, x29]))] sz)) 1 6 (va_A [(h1, .inr (9, [.ref h2, .ref h3, x4, .ref h5, x6, x7, x8])), (h2, .inr (2, [x9, x10, x11, .int 0])), (h3, .inr (5, [x12, x13, .int 0])), (h5, .inr (8, [x14, x15, x16, x17, .ref h18, .ref h19, x20, x21, x22, x23, .ref h24, .int 0, .int 0])), (h18, .inl (cy 1, 1000, .inl g25)), (h19, .inl (cy 1, 1000, .inl g26)), (h24, .inr (5, [x27, x28, x29]))] sz) := by
  refine vx_ofW (cc := cX7_goToRest) (maxL := 4) (ret := (some .int)) (by decide) rfl ?_
  intro p e s m args below meth c s₁ B hml ht9 hv
  obtain ⟨rfl, hsz, hP, hK, hD0, hE⟩ := hv
  have hx := B.exec
  have hb := B.bytes
  have hr := B.returns
  have hts := atoms_spec (ws := wsX7_goToRest) B.pre
  have hown : s.vm.findClass RX7 = some m.cls := findClass_of_methodNamed B.named
  have hlocks := B.notSynchronized
  subst hsz
  have hD := hD0.self (sz := s.heap.size)
  generalize hAe : va_A [(h1, .inr (9, [.ref h2, .ref h3, x4, .ref h5, x6, x7, x8])), (h2, .inr (2, [x9, x10, x11, .int 0])), (h3, .inr (5, [x12, x13, .int 0])), (h5, .inr (8, [x14, x15, x16, x17, .ref h18, .ref h19, x20, x21, x22, x23, .ref h24, .int 0, .int 0])), (h18, .inl (cy 1, 1000, .inl g25)), (h19, .inl (cy 1, 1000, .inl g26)), (h24, .inr (5, [x27, x28, x29]))] s.heap.size = A at hD hE ⊢
  have hA : ∀ q : Nat, s.heap.size ≤ q → A q := fun q h => by rw [← hAe]; exact Or.inr h
  have hS : va_S A s.heap s.heap [] := va_S.rf
  have hP : va_P D vwCl [(h1, .inr (9, [.ref h2, .ref h3, x4, .ref h5, x6, x7, x8])), (h2, .inr (2, [x9, x10, x11, .int 0])), (h3, .inr (5, [x12, x13, .int 0])), (h5, .inr (8, [x14, x15, x16, x17, .ref h18, .ref h19, x20, x21, x22, x23, .ref h24, .int 0, .int 0])), (h18, .inl (cy 1, 1000, .inl g25)), (h19, .inl (cy 1, 1000, .inl g26)), (h24, .inr (5, [x27, x28, x29]))] s.heap := hP
  have hl := lv_entry ([.ref h1, .int p0]) (n := 4) (Nat.le_of_ble_eq_true rfl)
  rw [lg_entry_eq]
  generalize (lg_sl ([.ref h1, .int p0]) ++ List.replicate (4 - (lg_sl ([.ref h1, .int p0])).length) Slot.unset).toArray = ls at hl ⊢
  have hl : lv_has ls 4 [(0, .ref h1), (1, .int p0)] := hl
  refine lv_aload_n hx hb dX7_goToRest_0 rfl (lv_at hl 0 rfl) ?_
  refine va_get (D := D) (ci := 9) (v := .ref h5) (C := RX7) (T := TX7) (N := 7) hx hb hts (fun _ h => (List.mem_cons_of_mem _ (List.mem_append_left _ (List.mem_append_left _ (List.mem_append_left _ (List.mem_append_left _ (List.mem_append_left _ (List.mem_append_left _ (List.mem_append_left _ (List.mem_append_left _ (List.mem_append_left _ (List.mem_append_right _ h)))))))))))) hown hK hP 0 rfl rfl 3 (by decide) (hts (.fieldLink RX7 29 "SelfishJunction" "survey" "LSelfishJunction$Survey;") (List.mem_cons_of_mem _ (List.mem_append_left _ (List.mem_append_left _ (List.mem_append_left _ (List.mem_append_left _ (List.mem_append_left _ (List.mem_append_left _ (List.mem_append_left _ (List.mem_append_left _ (List.mem_append_left _ (List.mem_append_left _ (List.mem_append_left _ (List.mem_of_getElem? (i := 0) rfl)))))))))))))) (fun _ h9 => h9) rfl dX7_goToRest_1 ?_
  refine lv_aload_n hx hb dX7_goToRest_4 rfl (lv_at hl 0 rfl) ?_
  refine va_get (D := D) (ci := 9) (v := .ref h2) (C := RX7) (T := TX7) (N := 7) hx hb hts (fun _ h => (List.mem_cons_of_mem _ (List.mem_append_left _ (List.mem_append_left _ (List.mem_append_left _ (List.mem_append_left _ (List.mem_append_left _ (List.mem_append_left _ (List.mem_append_left _ (List.mem_append_left _ (List.mem_append_left _ (List.mem_append_right _ h)))))))))))) hown hK hP 0 rfl rfl 0 (by decide) (hts (.fieldLink RX7 10 "SelfishJunction" "board" "LSelfishJunction$Board;") (List.mem_cons_of_mem _ (List.mem_append_left _ (List.mem_append_left _ (List.mem_append_left _ (List.mem_append_left _ (List.mem_append_left _ (List.mem_append_left _ (List.mem_append_left _ (List.mem_append_left _ (List.mem_append_left _ (List.mem_append_left _ (List.mem_append_left _ (List.mem_of_getElem? (i := 1) rfl)))))))))))))) (fun _ h9 => h9) rfl dX7_goToRest_5 ?_
  refine lv_aload_n hx hb dX7_goToRest_8 rfl (lv_at hl 0 rfl) ?_
  refine lv_iload_n hx hb dX7_goToRest_9 rfl (lv_at hl 1 rfl) ?_
  have hPc := hP.sub (ws' := [(h1, .inr (9, [.ref h2, .ref h3, x4, .ref h5, x6, x7, x8])), (h2, .inr (2, [x9, x10, x11, .int 0])), (h3, .inr (5, [x12, x13, .int 0])), (h5, .inr (8, [x14, x15, x16, x17, .ref h18, .ref h19, x20, x21, x22, x23, .ref h24, .int 0, .int 0])), (h18, .inl (cy 1, 1000, .inl g25)), (h19, .inl (cy 1, 1000, .inl g26)), (h24, .inr (5, [x27, x28, x29]))]) [0, 1, 2, 3, 4, 5, 6] rfl
  have hDc := hD.sub (ws' := [(h1, .inr (9, [.ref h2, .ref h3, x4, .ref h5, x6, x7, x8])), (h2, .inr (2, [x9, x10, x11, .int 0])), (h3, .inr (5, [x12, x13, .int 0])), (h5, .inr (8, [x14, x15, x16, x17, .ref h18, .ref h19, x20, x21, x22, x23, .ref h24, .int 0, .int 0])), (h18, .inl (cy 1, 1000, .inl g25)), (h19, .inl (cy 1, 1000, .inl g26)), (h24, .inr (5, [x27, x28, x29]))]) [0, 1, 2, 3, 4, 5, 6] (by decide) rfl
  have hFc := va_free (wc := [(h1, .inr (9, [.ref h2, .ref h3, x4, .ref h5, x6, x7, x8])), (h2, .inr (2, [x9, x10, x11, .int 0])), (h3, .inr (5, [x12, x13, .int 0])), (h5, .inr (8, [x14, x15, x16, x17, .ref h18, .ref h19, x20, x21, x22, x23, .ref h24, .int 0, .int 0])), (h18, .inl (cy 1, 1000, .inl g25)), (h19, .inl (cy 1, 1000, .inl g26)), (h24, .inr (5, [x27, x28, x29]))]) hD hS hA [0, 1, 2, 3, 4, 5, 6] rfl
  refine vx_calli (vx_runV (As := [.int p0]) (rest := [.ref h2, .ref h5]) ⟨hx, hb, hml, hown, hts⟩ (k_X7_findRest l hl9 D cy h1 p0 h2 h3 (x4) h5 (x6) (x7) (x8) (x9) (x10) (x11) (x12) (x13) (x14) (x15) (x16) (x17) h18 h19 (x20) (x21) (x22) (x23) h24 g25 g26 (kg26_0) (x27) (x28) (x29) s.heap.size) (cwV 1 hts gX7_goToRest_X7_findRest rfl rfl rfl (by decide +kernel) ⟨(Nat.le_of_ble_eq_true rfl), (Nat.le_of_ble_eq_true rfl)⟩) ⟨kWX_fb, va_recv hK hP (ci := 9) (q0 := 0) rfl rfl, (kWX_go hPc hK hDc hFc hE hS)⟩ rfl rfl hl.1 rfl (lv_room (Nat.le_of_ble_eq_true rfl)) dX7_goToRest_10 ⟨(Nat.le_of_ble_eq_true rfl), (Nat.le_of_ble_eq_true rfl)⟩) hS (fun q _ h => hFc q h) hFc (fun q _ h => hFc q h) (fun E9 ce9 q9 u t H locs ht hvm hw hB hz1 hk1 hS hce hcv hcl => ?_) (fun r9 u t H locs ht hvm hw hB hz1 hk1 hS => ?_)
  · obtain ⟨rfl, hB⟩ := hB
    have f_1 : (0 : Int) ≠ p0.toInt := hB
    exact vx_out (fun x hx => (ht9 x hx).elim) hlocks hce hcv hcl (fun t ht _ => ⟨(), trivial, (⟨rfl, (by omega)⟩), hS.F ht⟩) hS.2.2 (Nat.le_of_ble_eq_true rfl) (Nat.le_of_ble_eq_true rfl)
  · obtain ⟨hP1, hD1⟩ := hB
    rw [ht] at hP1
    try dsimp only at hw hP1 hD1
    obtain ⟨hP, hD⟩ := va_join (wr := []) (w1 := [(h1, .inr (9, [.ref h2, .ref h3, x4, .ref h5, x6, x7, x8])), (h2, .inr (2, [x9, x10, x11, .int 0])), (h3, .inr (5, [x12, x13, .int 0])), (h5, .inr (8, [x14, x15, x16, x17, .ref h18, .ref h19, x20, x21, x22, x23, .ref h24, .int 1, .int 1])), (h18, .inl (cy 1, 1000, .inl (upd g25 0 0))), (h19, .inl (cy 1, 1000, .inl (upd g26 0 0))), (h24, .inr (5, [x27, x28, .int 0]))]) hP hD [0, 1, 2, 3, 4, 5, 6] [] rfl rfl (by decide) (by decide) hk1 hFc hP1 hD1
    have hP : va_P D vwCl [(h1, .inr (9, [.ref h2, .ref h3, x4, .ref h5, x6, x7, x8])), (h2, .inr (2, [x9, x10, x11, .int 0])), (h3, .inr (5, [x12, x13, .int 0])), (h5, .inr (8, [x14, x15, x16, x17, .ref h18, .ref h19, x20, x21, x22, x23, .ref h24, .int 1, .int 1])), (h18, .inl (cy 1, 1000, .inl (upd g25 0 0))), (h19, .inl (cy 1, 1000, .inl (upd g26 0 0))), (h24, .inr (5, [x27, x28, .int 0]))] H := hP
    have hD : va_D A [(h1, .inr (9, [.ref h2, .ref h3, x4, .ref h5, x6, x7, x8])), (h2, .inr (2, [x9, x10, x11, .int 0])), (h3, .inr (5, [x12, x13, .int 0])), (h5, .inr (8, [x14, x15, x16, x17, .ref h18, .ref h19, x20, x21, x22, x23, .ref h24, .int 1, .int 1])), (h18, .inl (cy 1, 1000, .inl (upd g25 0 0))), (h19, .inl (cy 1, 1000, .inl (upd g26 0 0))), (h24, .inr (5, [x27, x28, .int 0]))] := hD
    refine W.widen (k := 1) (n := 6) (Nat.le_of_ble_eq_true rfl) (Nat.le_of_ble_eq_true rfl) ?_
    obtain ⟨rfl, hw⟩ := hw
    have f_2 : (0 : Int) = p0.toInt := hw
    have hPc := hP.sub (ws' := [(h2, .inr (2, [x9, x10, x11, .int 0]))]) [1] rfl
    refine va_callv (va_runV (As := [.ref h2, .int 0]) (rest := []) ⟨hx, hb, hml, hown, hts⟩ (k_X6_show l D cy h5 h2 (x9) (x10) (x11)) (cwV 2 hts gX7_goToRest_X6_show rfl rfl rfl (by decide +kernel) ⟨(Nat.le_of_ble_eq_true rfl), (Nat.le_of_ble_eq_true rfl)⟩) ⟨kR_fb, va_recv hK hP (ci := 8) (q0 := 3) rfl rfl, (kR_go hPc hK)⟩ rfl rfl hl.1 rfl (lv_room (Nat.le_of_ble_eq_true rfl)) dX7_goToRest_13 ⟨(Nat.le_of_ble_eq_true rfl), (Nat.le_of_ble_eq_true rfl)⟩) hS (fun _ _ h => h.elim) (fun _ h => h.elim) (fun u t H locs ht hvm hw hB hz1 hk1 hS => ?_)
    have hP := kx_kept hP hk1
    refine lv_iconst (v := 0) hx hb dX7_goToRest_16 (by decide) ?_
    refine lv_istore_n (lv' := [(2, .int 0), (0, .ref h1), (1, .int p0)]) hx hb dX7_goToRest_17 rfl hl (by decide) rfl (fun ls hl => ?_)
    refine lv_iconst (v := 0) hx hb dX7_goToRest_18 (by decide) ?_
    refine lv_istore_n (lv' := [(3, .int 0), (2, .int 0), (0, .ref h1), (1, .int p0)]) hx hb dX7_goToRest_19 rfl hl (by decide) rfl (fun ls hl => ?_)
    refine lv_iload_n hx hb dX7_goToRest_20 rfl (lv_at hl 0 rfl) ?_
    refine lv_aload_n hx hb dX7_goToRest_21 rfl (lv_at hl 2 rfl) ?_
    refine va_get (D := D) (ci := 9) (v := .ref h2) (C := RX7) (T := TX7) (N := 7) hx hb hts (fun _ h => (List.mem_cons_of_mem _ (List.mem_append_left _ (List.mem_append_left _ (List.mem_append_left _ (List.mem_append_left _ (List.mem_append_left _ (List.mem_append_left _ (List.mem_append_left _ (List.mem_append_left _ (List.mem_append_left _ (List.mem_append_right _ h)))))))))))) hown hK hP 0 rfl rfl 0 (by decide) (hts (.fieldLink RX7 10 "SelfishJunction" "board" "LSelfishJunction$Board;") (List.mem_cons_of_mem _ (List.mem_append_left _ (List.mem_append_left _ (List.mem_append_left _ (List.mem_append_left _ (List.mem_append_left _ (List.mem_append_left _ (List.mem_append_left _ (List.mem_append_left _ (List.mem_append_left _ (List.mem_append_left _ (List.mem_append_left _ (List.mem_of_getElem? (i := 1) rfl)))))))))))))) (fun _ h9 => h9) rfl dX7_goToRest_22 ?_
    refine va_get (D := D) (ci := 2) (v := .int 0) (C := RX0) (T := TX0) (N := 4) hx hb hts (fun _ h => (List.mem_cons_of_mem _ (List.mem_append_left _ (List.mem_append_left _ (List.mem_append_left _ (List.mem_append_left _ (List.mem_append_left _ (List.mem_append_left _ (List.mem_append_left _ (List.mem_append_left _ (List.mem_append_right _ h))))))))))) hown hK hP 1 rfl rfl 3 (by decide) (hts (.fieldLink RX7 281 "SelfishJunction$Board" "playerCount" "I") (List.mem_cons_of_mem _ (List.mem_append_left _ (List.mem_append_left _ (List.mem_append_left _ (List.mem_append_left _ (List.mem_append_left _ (List.mem_append_left _ (List.mem_append_left _ (List.mem_append_left _ (List.mem_append_left _ (List.mem_append_left _ (List.mem_append_left _ (List.mem_of_getElem? (i := 2) rfl)))))))))))))) (fun _ h9 => h9) rfl dX7_goToRest_25 ?_
    refine lv_icmp_ge (tgt := 88) hx hb dX7_goToRest_28 (by decide) (fun _ => ?_) (fun h => absurd (by decide) h)
    refine lv_iload_n hx hb dX7_goToRest_88 rfl (lv_at hl 1 rfl) ?_
    refine vx_ret ?_
    refine W.widen (k := 1) (n := 6) (Nat.le_of_ble_eq_true rfl) (Nat.le_of_ble_eq_true rfl) ?_
    have hP9 := hP.sub (ws' := [(h1, .inr (9, [.ref h2, .ref h3, x4, .ref h5, x6, x7, x8])), (h2, .inr (2, [x9, x10, x11, .int 0])), (h3, .inr (5, [x12, x13, .int 0])), (h5, .inr (8, [x14, x15, x16, x17, .ref h18, .ref h19, x20, x21, x22, x23, .ref h24, .int 1, .int 1])), (h18, .inl (cy 1, 1000, .inl (upd g25 0 0))), (h19, .inl (cy 1, 1000, .inl (upd g26 0 0))), (h24, .inr (5, [x27, x28, .int 0]))]) [0, 1, 2, 3, 4, 5, 6] rfl
    have hD9 := hD.sub (ws' := [(h1, .inr (9, [.ref h2, .ref h3, x4, .ref h5, x6, x7, x8])), (h2, .inr (2, [x9, x10, x11, .int 0])), (h3, .inr (5, [x12, x13, .int 0])), (h5, .inr (8, [x14, x15, x16, x17, .ref h18, .ref h19, x20, x21, x22, x23, .ref h24, .int 1, .int 1])), (h18, .inl (cy 1, 1000, .inl (upd g25 0 0))), (h19, .inl (cy 1, 1000, .inl (upd g26 0 0))), (h24, .inr (5, [x27, x28, .int 0]))]) [0, 1, 2, 3, 4, 5, 6] (by decide) rfl
    exact W.iret (v := 0) hx hb hr (fun t ht hW => ⟨⟨0, (), rfl, ⟨rfl, (by omega)⟩, ⟨by rw [ht]; exact hP9, hD9⟩⟩, hS.F ht⟩) hS.2.2 dX7_goToRest_89
theorem dL_goToRest_0 : decode cL_goToRest 0 = .ok (.aload_n 2, 1) := by decide +kernel
theorem dL_goToRest_1 : decode cL_goToRest 1 = .ok (.iconst 0, 1) := by decide +kernel
theorem dL_goToRest_2 : decode cL_goToRest 2 = .ok (.aload_n 0, 1) := by decide +kernel
theorem dL_goToRest_3 : decode cL_goToRest 3 = .ok (.iload_n 1, 1) := by decide +kernel
theorem dL_goToRest_4 : decode cL_goToRest 4 = .ok (.invokevirtual 99, 3) := by decide +kernel
set_option maxRecDepth 20000 in
theorem ggL_goToRest_X7_goToRest : GoodIn wsL_goToRest wsX7_goToRest := goodIn_ca (goodIn_ca (goodIn_ca (goodIn_ca (goodIn_r _ [7, 8, 9, 10, 11, 12, 13, 14, 15, 16, 6, 17, 18, 19, 20, 21, 22, 23, 24, 25, 26, 27, 28, 29, 30, 31, 32, 33, 34, 35, 36, 37, 38, 39, 40, 41, 42, 43, 44, 45, 46, 47, 48, 49, 50, 51, 52, 53, 54, 55, 56, 57, 58, 59, 60, 61, 62, 63, 64, 65, 66, 67, 68, 69, 70, 71, 72, 73, 74, 75, 76, 77, 78, 79, 80, 81, 82, 83, 84, 85, 86, 87, 88, 89, 90, 91, 92, 93, 94, 95, 96, 97, 98, 99, 100, 101, 102, 103, 104, 105, 106, 107, 108, 109, 110, 111, 112, 113, 114, 115, 116, 117, 118, 119, 120, 121, 122, 123, 124, 125, 126, 127, 128, 129, 130, 131, 132, 133, 134, 135, 136, 137, 138, 139, 140, 141, 142, 143, 144, 145, 146, 147, 148, 149, 150, 151, 152, 153, 154, 155, 156, 157, 158, 159, 160, 161, 162, 163, 164, 165, 166, 167, 168, 169, 170, 171, 172, 173, 174, 175, 176, 177] (by decide +kernel) (by decide +kernel)) (goodIn_sub (fun _ h => List.mem_cons_of_mem _ (List.mem_append_left _ (List.mem_append_left _ (List.mem_append_left _ (List.mem_append_right _ h))))) (by decide +kernel))) (goodIn_sub (fun _ h => List.mem_cons_of_mem _ (List.mem_append_left _ (List.mem_append_left _ (List.mem_append_right _ h)))) (by decide +kernel))) (goodIn_sub (fun _ h => List.mem_cons_of_mem _ (List.mem_append_left _ (List.mem_append_right _ h))) (by decide +kernel))) (goodIn_sub (fun _ h => List.mem_cons_of_mem _ (List.mem_append_right _ h)) (by decide +kernel))
set_option maxRecDepth 20000 in
theorem gL_goToRest_X7_goToRest : GoodIn wsL_goToRest (wsV RL 99 RX7 yX7_goToRest wsX7_goToRest) := goodIn_app (goodIn_of _ (by decide +kernel)) ggL_goToRest_X7_goToRest
theorem dL_goToRest_15 : decode cL_goToRest 15 = .ok (.astore_n 3, 1) := by decide +kernel
theorem dL_goToRest_16 : decode cL_goToRest 16 = .ok (.iconst 2, 1) := by decide +kernel
theorem dL_goToRest_17 : decode cL_goToRest 17 = .ok (.ireturn, 1) := by decide +kernel
theorem dL_goToRest_7 : decode cL_goToRest 7 = .ok (.i2l, 1) := by decide +kernel
theorem dL_goToRest_8 : decode cL_goToRest 8 = .ok (.lastore, 1) := by decide +kernel
theorem dL_goToRest_9 : decode cL_goToRest 9 = .ok (.goto 9, 3) := by decide +kernel
theorem dL_goToRest_18 : decode cL_goToRest 18 = .ok (.iconst 0, 1) := by decide +kernel
theorem dL_goToRest_19 : decode cL_goToRest 19 = .ok (.ireturn, 1) := by decide +kernel
set_option maxHeartbeats 4000000 in
set_option maxRecDepth 100000 in
theorem k_L_goToRest (l : Launch) (hl9 : l.stackTraces = false) (D : va_G) (cy : Nat → ClassId) (h1 : Nat) (p1 : Int32) (h2 : Nat) (h3 : Nat) (h4 : Nat) (x5 : Value) (h6 : Nat) (x7 : Value) (x8 : Value) (x9 : Value) (g10 : Nat → Int64) (x11 : Value) (x12 : Value) (x13 : Value) (x14 : Value) (x15 : Value) (x16 : Value) (x17 : Value) (x18 : Value) (x19 : Value) (h20 : Nat) (h21 : Nat) (x22 : Value) (x23 : Value) (x24 : Value) (x25 : Value) (h26 : Nat) (g27 : Nat → Int32) (g28 : Nat → Int32) (kg28_0 : g28 0 = 0) (x29 : Value) (x30 : Value) (x31 : Value) (sz : Nat) : Met l yL_goToRest wsL_goToRest ({ frames := 8, cells := 1, slots := 6, locals := 127 }) (kWX D cy [.ref h1, .int p1, .ref h2] [(h1, .inr (9, [.ref h3, .ref h4, x5, .ref h6, x7, x8, x9])), (h2, .inl (cy 2, 1, .inr (.inl g10))), (h3, .inr (2, [x11, x12, x13, .int 0])), (h4, .inr (5, [x14, x15, .int 0])), (h6, .inr (8, [x16, x17, x18, x19, .ref h20, .ref h21, x22, x23, x24, x25, .ref h26, .int 0, .int 0])), (h20, .inl (cy 1, 1000, .inl g27)), (h21, .inl (cy 1, 1000, .inl g28)), (h26, .inr (5, [x29, x30, x31]))] sz) (va_Qi (fun (r : Int32) (u : (Nat → Int64)) => match u with | u1 => ((r = 2 ∧ (0 : Int) ≠ p1.toInt) ∨ (r = 0 ∧ (u1 0 = 0) ∧ (0 : Int) = p1.toInt))) (fun (u : (Nat → Int64)) (t : State) => match u with | u1 => va_P D vwCl [(h2, .inl (cy 2, 1, .inr (.inl u1)))] t.heap ∧ va_D (va_A [(h1, .inr (9, [.ref h3, .ref h4, x5, .ref h6, x7, x8, x9])), (h2, .inl (cy 2, 1, .inr (.inl g10))), (h3, .inr (2, [x11, x12, x13, .int 0])), (h4, .inr (5, [x14, x15, .int 0])), (h6, .inr (8, [x16, x17, x18, x19, .ref h20, .ref h21, x22, x23, x24, x25, .ref h26, .int 0, .int 0])), (h20, .inl (cy 1, 1000, .inl g27)), (h21, .inl (cy 1, 1000, .inl g28)), (h26, .inr (5, [x29, x30, x31]))] sz) [(h2, .inl (cy 2, 1, .inr (.inl u1)))]) (va_A [(h1, .inr (9, [.ref h3, .ref h4, x5, .ref h6, x7, x8, x9])), (h2, .inl (cy 2, 1, .inr (.inl g10))), (h3, .inr (2, [x11, x12, x13, .int 0])), (h4, .inr (5, [x14, x15, .int 0])), (h6, .inr (8, [x16, x17, x18, x19, .ref h20, .ref h21, x22, x23, x24, x25, .ref h26, .int 0, .int 0])), (h20, .inl (cy 1, 1000, .inl g27)), (h21, .inl (cy 1, 1000, .inl g28)), (h26, .inr (5, [x29, x30, x31]))] sz)) 1 6 (va_A [(h1, .inr (9, [.ref h3, .ref h4, x5, .ref h6, x7, x8, x9])), (h2, .inl (cy 2, 1, .inr (.inl g10))), (h3, .inr (2, [x11, x12, x13, .int 0])), (h4, .inr (5, [x14, x15, .int 0])), (h6, .inr (8, [x16, x17, x18, x19, .ref h20, .ref h21, x22, x23, x24, x25, .ref h26, .int 0, .int 0])), (h20, .inl (cy 1, 1000, .inl g27)), (h21, .inl (cy 1, 1000, .inl g28)), (h26, .inr (5, [x29, x30, x31]))] sz) := by
  refine va_MetW (cc := cL_goToRest) (maxL := 4) (ret := (some .int)) (by decide) rfl ?_
  intro p e s m args below meth c s₁ B hml hv
  obtain ⟨rfl, hsz, hP, hK, hD0, hE⟩ := hv
  have hx := B.exec
  have hb := B.bytes
  have hr := B.returns
  have hts := atoms_spec (ws := wsL_goToRest) B.pre
  have hown : s.vm.findClass RL = some m.cls := findClass_of_methodNamed B.named
  have hlocks := B.notSynchronized
  have htb := vx_table (x := yL_goToRest) B (hts _ (List.mem_cons_self))
  subst hsz
  have hD := hD0.self (sz := s.heap.size)
  generalize hAe : va_A [(h1, .inr (9, [.ref h3, .ref h4, x5, .ref h6, x7, x8, x9])), (h2, .inl (cy 2, 1, .inr (.inl g10))), (h3, .inr (2, [x11, x12, x13, .int 0])), (h4, .inr (5, [x14, x15, .int 0])), (h6, .inr (8, [x16, x17, x18, x19, .ref h20, .ref h21, x22, x23, x24, x25, .ref h26, .int 0, .int 0])), (h20, .inl (cy 1, 1000, .inl g27)), (h21, .inl (cy 1, 1000, .inl g28)), (h26, .inr (5, [x29, x30, x31]))] s.heap.size = A at hD hE ⊢
  have hA : ∀ q : Nat, s.heap.size ≤ q → A q := fun q h => by rw [← hAe]; exact Or.inr h
  have hS : va_S A s.heap s.heap [] := va_S.rf
  have hP : va_P D vwCl [(h1, .inr (9, [.ref h3, .ref h4, x5, .ref h6, x7, x8, x9])), (h2, .inl (cy 2, 1, .inr (.inl g10))), (h3, .inr (2, [x11, x12, x13, .int 0])), (h4, .inr (5, [x14, x15, .int 0])), (h6, .inr (8, [x16, x17, x18, x19, .ref h20, .ref h21, x22, x23, x24, x25, .ref h26, .int 0, .int 0])), (h20, .inl (cy 1, 1000, .inl g27)), (h21, .inl (cy 1, 1000, .inl g28)), (h26, .inr (5, [x29, x30, x31]))] s.heap := hP
  have hl := lv_entry ([.ref h1, .int p1, .ref h2]) (n := 4) (Nat.le_of_ble_eq_true rfl)
  rw [lg_entry_eq]
  generalize (lg_sl ([.ref h1, .int p1, .ref h2]) ++ List.replicate (4 - (lg_sl ([.ref h1, .int p1, .ref h2])).length) Slot.unset).toArray = ls at hl ⊢
  have hl : lv_has ls 4 [(0, .ref h1), (1, .int p1), (2, .ref h2)] := hl
  refine lv_aload_n hx hb dL_goToRest_0 rfl (lv_at hl 2 rfl) ?_
  refine lv_iconst (v := 0) hx hb dL_goToRest_1 (by decide) ?_
  refine lv_aload_n hx hb dL_goToRest_2 rfl (lv_at hl 0 rfl) ?_
  refine lv_iload_n hx hb dL_goToRest_3 rfl (lv_at hl 1 rfl) ?_
  have hPc := hP.sub (ws' := [(h1, .inr (9, [.ref h3, .ref h4, x5, .ref h6, x7, x8, x9])), (h3, .inr (2, [x11, x12, x13, .int 0])), (h4, .inr (5, [x14, x15, .int 0])), (h6, .inr (8, [x16, x17, x18, x19, .ref h20, .ref h21, x22, x23, x24, x25, .ref h26, .int 0, .int 0])), (h20, .inl (cy 1, 1000, .inl g27)), (h21, .inl (cy 1, 1000, .inl g28)), (h26, .inr (5, [x29, x30, x31]))]) [0, 2, 3, 4, 5, 6, 7] rfl
  have hDc := hD.sub (ws' := [(h1, .inr (9, [.ref h3, .ref h4, x5, .ref h6, x7, x8, x9])), (h3, .inr (2, [x11, x12, x13, .int 0])), (h4, .inr (5, [x14, x15, .int 0])), (h6, .inr (8, [x16, x17, x18, x19, .ref h20, .ref h21, x22, x23, x24, x25, .ref h26, .int 0, .int 0])), (h20, .inl (cy 1, 1000, .inl g27)), (h21, .inl (cy 1, 1000, .inl g28)), (h26, .inr (5, [x29, x30, x31]))]) [0, 2, 3, 4, 5, 6, 7] (by decide) rfl
  have hFc := va_free (wc := [(h1, .inr (9, [.ref h3, .ref h4, x5, .ref h6, x7, x8, x9])), (h3, .inr (2, [x11, x12, x13, .int 0])), (h4, .inr (5, [x14, x15, .int 0])), (h6, .inr (8, [x16, x17, x18, x19, .ref h20, .ref h21, x22, x23, x24, x25, .ref h26, .int 0, .int 0])), (h20, .inl (cy 1, 1000, .inl g27)), (h21, .inl (cy 1, 1000, .inl g28)), (h26, .inr (5, [x29, x30, x31]))]) hD hS hA [0, 2, 3, 4, 5, 6, 7] rfl
  refine vx_calli (vx_runV (As := [.int p1]) (rest := [.int 0, .ref h2]) ⟨hx, hb, hml, hown, hts⟩ (k_X7_goToRest l hl9 D cy h1 p1 h3 h4 (x5) h6 (x7) (x8) (x9) (x11) (x12) (x13) (x14) (x15) (x16) (x17) (x18) (x19) h20 h21 (x22) (x23) (x24) (x25) h26 g27 g28 (kg28_0) (x29) (x30) (x31) s.heap.size) (cwV 1 hts gL_goToRest_X7_goToRest rfl rfl rfl (by decide +kernel) ⟨(Nat.le_of_ble_eq_true rfl), (Nat.le_of_ble_eq_true rfl)⟩) ⟨kWX_fb, va_recv hK hP (ci := 9) (q0 := 0) rfl rfl, (kWX_go hPc hK hDc hFc hE hS)⟩ rfl rfl hl.1 rfl (lv_room (Nat.le_of_ble_eq_true rfl)) dL_goToRest_4 ⟨(Nat.le_of_ble_eq_true rfl), (Nat.le_of_ble_eq_true rfl)⟩) hS (fun q _ h => hFc q h) hFc (fun q _ h => hFc q h) (fun E9 ce9 q9 u t H locs ht hvm hw hB hz1 hk1 hS hce hcv hcl => ?_) (fun r9 u t H locs ht hvm hw hB hz1 hk1 hS => ?_)
  · obtain ⟨rfl, hB⟩ := hB
    have f_1 : (0 : Int) ≠ p1.toInt := hB
    obtain ⟨hP, hD⟩ := va_join (wr := [(h2, .inl (cy 2, 1, .inr (.inl g10)))]) (w1 := []) hP hD [0, 2, 3, 4, 5, 6, 7] [1] rfl rfl (by decide) (by decide) hk1 hFc (fun k q h => by simp at h) ⟨fun i j p q h => by simp at h, fun k q h => by simp at h⟩
    have hP : va_P D vwCl [(h2, .inl (cy 2, 1, .inr (.inl g10)))] H := hP
    have hD : va_D A [(h2, .inl (cy 2, 1, .inr (.inl g10)))] := hD
    refine vx_catch (E := "java/util/NoSuchElementException") (name := "java/util/NoSuchElementException") hown [(⟨0, 9, 12, 30⟩ : ExceptionTableEntry)] (⟨0, 9, 15, 36⟩ : ExceptionTableEntry) [] htb (List.forall_mem_cons.mpr ⟨Or.inr ⟨by decide, "java/lang/UnsupportedOperationException", (hts (.classLink RL 30 "java/lang/UnsupportedOperationException") (List.mem_cons_of_mem _ (List.mem_append_left _ (List.mem_append_left _ (List.mem_append_left _ (List.mem_append_left _ (List.mem_append_left _ (List.mem_append_left _ (List.mem_append_left _ (List.mem_append_left _ (List.mem_append_left _ (List.mem_append_left _ (List.mem_append_left _ (List.mem_of_getElem? (i := 0) rfl)))))))))))))), exP.nc hE "java/util/NoSuchElementException" "java/lang/UnsupportedOperationException" (by decide +kernel) (by decide +kernel) (by decide +kernel)⟩, (fun _ h => absurd h List.not_mem_nil)⟩) rfl (by decide) (hts (.classLink RL 36 "java/util/NoSuchElementException") (List.mem_cons_of_mem _ (List.mem_append_left _ (List.mem_append_left _ (List.mem_append_left _ (List.mem_append_left _ (List.mem_append_left _ (List.mem_append_left _ (List.mem_append_left _ (List.mem_append_left _ (List.mem_append_left _ (List.mem_append_left _ (List.mem_append_left _ (List.mem_of_getElem? (i := 1) rfl)))))))))))))) (exP.cast hE "java/util/NoSuchElementException" (by decide +kernel)) hce hcv hcl ?_
    refine lv_astore_n (lv' := [(3, .ref q9), (0, .ref h1), (1, .int p1), (2, .ref h2)]) hx hb dL_goToRest_15 rfl hl (by decide) rfl (fun ls hl => ?_)
    refine lv_iconst (v := 2) hx hb dL_goToRest_16 (by decide) ?_
    refine W.widen (k := 1) (n := 6) (Nat.le_of_ble_eq_true rfl) (Nat.le_of_ble_eq_true rfl) ?_
    have hP9 := hP.sub (ws' := [(h2, .inl (cy 2, 1, .inr (.inl g10)))]) [0] rfl
    have hD9 := hD.sub (ws' := [(h2, .inl (cy 2, 1, .inr (.inl g10)))]) [0] (by decide) rfl
    exact W.iret (v := 2) hx hb hr (fun t ht hW => ⟨⟨2, (g10), rfl, Or.inl (⟨rfl, (by omega)⟩), ⟨by rw [ht]; exact hP9, hD9⟩⟩, hS.F ht⟩) hS.2.2 dL_goToRest_17
  · obtain ⟨hP1, hD1⟩ := hB
    rw [ht] at hP1
    try dsimp only at hw hP1 hD1
    obtain ⟨hP, hD⟩ := va_join (wr := [(h2, .inl (cy 2, 1, .inr (.inl g10)))]) (w1 := [(h1, .inr (9, [.ref h3, .ref h4, x5, .ref h6, x7, x8, x9])), (h3, .inr (2, [x11, x12, x13, .int 0])), (h4, .inr (5, [x14, x15, .int 0])), (h6, .inr (8, [x16, x17, x18, x19, .ref h20, .ref h21, x22, x23, x24, x25, .ref h26, .int 1, .int 1])), (h20, .inl (cy 1, 1000, .inl (upd g27 0 0))), (h21, .inl (cy 1, 1000, .inl (upd g28 0 0))), (h26, .inr (5, [x29, x30, .int 0]))]) hP hD [0, 2, 3, 4, 5, 6, 7] [1] rfl rfl (by decide) (by decide) hk1 hFc hP1 hD1
    have hP : va_P D vwCl [(h2, .inl (cy 2, 1, .inr (.inl g10))), (h1, .inr (9, [.ref h3, .ref h4, x5, .ref h6, x7, x8, x9])), (h3, .inr (2, [x11, x12, x13, .int 0])), (h4, .inr (5, [x14, x15, .int 0])), (h6, .inr (8, [x16, x17, x18, x19, .ref h20, .ref h21, x22, x23, x24, x25, .ref h26, .int 1, .int 1])), (h20, .inl (cy 1, 1000, .inl (upd g27 0 0))), (h21, .inl (cy 1, 1000, .inl (upd g28 0 0))), (h26, .inr (5, [x29, x30, .int 0]))] H := hP
    have hD : va_D A [(h2, .inl (cy 2, 1, .inr (.inl g10))), (h1, .inr (9, [.ref h3, .ref h4, x5, .ref h6, x7, x8, x9])), (h3, .inr (2, [x11, x12, x13, .int 0])), (h4, .inr (5, [x14, x15, .int 0])), (h6, .inr (8, [x16, x17, x18, x19, .ref h20, .ref h21, x22, x23, x24, x25, .ref h26, .int 1, .int 1])), (h20, .inl (cy 1, 1000, .inl (upd g27 0 0))), (h21, .inl (cy 1, 1000, .inl (upd g28 0 0))), (h26, .inr (5, [x29, x30, .int 0]))] := hD
    refine W.widen (k := 1) (n := 6) (Nat.le_of_ble_eq_true rfl) (Nat.le_of_ble_eq_true rfl) ?_
    obtain ⟨rfl, hw⟩ := hw
    have f_2 : (0 : Int) = p1.toInt := hw
    refine lv_i2l (v := 0) hx hb dL_goToRest_7 (by decide) ?_
    refine va_last hx hb hK hP hD hS 0 2 rfl rfl (kx_in 0 1 rfl ⟨(Nat.le_of_ble_eq_true rfl), (Nat.le_of_ble_eq_true rfl)⟩ (Nat.le_of_ble_eq_true rfl)) dL_goToRest_8 (fun H locs hP hD hS => ?_)
    have hP : va_P D vwCl [(h2, .inl (cy 2, 1, .inr (.inl (vp_updL g10 0 0)))), (h1, .inr (9, [.ref h3, .ref h4, x5, .ref h6, x7, x8, x9])), (h3, .inr (2, [x11, x12, x13, .int 0])), (h4, .inr (5, [x14, x15, .int 0])), (h6, .inr (8, [x16, x17, x18, x19, .ref h20, .ref h21, x22, x23, x24, x25, .ref h26, .int 1, .int 1])), (h20, .inl (cy 1, 1000, .inl (upd g27 0 0))), (h21, .inl (cy 1, 1000, .inl (upd g28 0 0))), (h26, .inr (5, [x29, x30, .int 0]))] H := hP
    have hD : va_D A [(h2, .inl (cy 2, 1, .inr (.inl (vp_updL g10 0 0)))), (h1, .inr (9, [.ref h3, .ref h4, x5, .ref h6, x7, x8, x9])), (h3, .inr (2, [x11, x12, x13, .int 0])), (h4, .inr (5, [x14, x15, .int 0])), (h6, .inr (8, [x16, x17, x18, x19, .ref h20, .ref h21, x22, x23, x24, x25, .ref h26, .int 1, .int 1])), (h20, .inl (cy 1, 1000, .inl (upd g27 0 0))), (h21, .inl (cy 1, 1000, .inl (upd g28 0 0))), (h26, .inr (5, [x29, x30, .int 0]))] := hD
    refine lv_goto (tgt := 18) hx hb dL_goToRest_9 (by decide) ?_
    refine lv_iconst (v := 0) hx hb dL_goToRest_18 (by decide) ?_
    refine W.widen (k := 1) (n := 6) (Nat.le_of_ble_eq_true rfl) (Nat.le_of_ble_eq_true rfl) ?_
    have hP9 := hP.sub (ws' := [(h2, .inl (cy 2, 1, .inr (.inl (vp_updL g10 0 0))))]) [0] rfl
    have hD9 := hD.sub (ws' := [(h2, .inl (cy 2, 1, .inr (.inl (vp_updL g10 0 0))))]) [0] (by decide) rfl
    exact W.iret (v := 0) hx hb hr (fun t ht hW => ⟨⟨0, ((vp_updL g10 0 0)), rfl, Or.inr (⟨rfl, (rfl), (by omega)⟩), ⟨by rw [ht]; exact hP9, hD9⟩⟩, hS.F ht⟩) hS.2.2 dL_goToRest_19
theorem dX8_goToRest_0 : decode cX8_goToRest 0 = .ok (.aload_n 0, 1) := by decide +kernel
theorem dX8_goToRest_1 : decode cX8_goToRest 1 = .ok (.aload_n 0, 1) := by decide +kernel
theorem dX8_goToRest_2 : decode cX8_goToRest 2 = .ok (.invokevirtual 240, 3) := by decide +kernel
set_option maxRecDepth 20000 in
theorem ggX8_goToRest_X8_areMany : GoodIn wsX8_goToRest wsX8_areMany := goodIn_ca (goodIn_r _ [8, 9, 10, 11, 7, 12, 1, 13, 14, 15, 16, 17, 18, 19, 20, 207, 208, 209, 210, 211, 212, 213, 214, 215, 216, 217, 218, 219, 220, 221, 222, 223, 224] (by decide +kernel) (by decide +kernel)) (goodIn_sub (fun _ h => List.mem_cons_of_mem _ (List.mem_append_left _ (List.mem_append_right _ h))) (by decide +kernel))
set_option maxRecDepth 20000 in
theorem gX8_goToRest_X8_areMany : GoodIn wsX8_goToRest (wsV RX8 240 RX8 yX8_areMany wsX8_areMany) := goodIn_app (goodIn_of _ (by decide +kernel)) ggX8_goToRest_X8_areMany
theorem dX8_goToRest_5 : decode cX8_goToRest 5 = .ok (.iconst 1, 1) := by decide +kernel
theorem dX8_goToRest_6 : decode cX8_goToRest 6 = .ok (.invokevirtual 73, 3) := by decide +kernel
set_option maxRecDepth 20000 in
theorem ggX8_goToRest_X8_isThrown : GoodIn wsX8_goToRest wsX8_isThrown := goodIn_r _ [24, 25, 207, 208, 209, 210, 211, 212, 213, 214, 215, 216, 217, 218, 219, 220, 221, 222, 223, 224] (by decide +kernel) (by decide +kernel)
set_option maxRecDepth 20000 in
theorem gX8_goToRest_X8_isThrown : GoodIn wsX8_goToRest (wsV RX8 73 RX8 yX8_isThrown wsX8_isThrown) := goodIn_app (goodIn_of _ (by decide +kernel)) ggX8_goToRest_X8_isThrown
theorem dX8_goToRest_9 : decode cX8_goToRest 9 = .ok (.ifCond .eq 5, 3) := by decide +kernel
theorem dX8_goToRest_14 : decode cX8_goToRest 14 = .ok (.aload_n 0, 1) := by decide +kernel
theorem dX8_goToRest_15 : decode cX8_goToRest 15 = .ok (.invokevirtual 243, 3) := by decide +kernel
set_option maxRecDepth 20000 in
theorem ggX8_goToRest_X8_rests : GoodIn wsX8_goToRest wsX8_rests := goodIn_ca (goodIn_ca (goodIn_r _ [29, 30, 31, 32, 3, 33, 34, 35, 36, 37, 38, 39, 40, 41, 42, 43, 44, 45, 46, 47, 48, 49, 50, 51, 52, 7, 53, 2, 54, 55, 56, 57, 58, 59, 60, 61, 62, 1, 14, 13, 63, 64, 65, 66, 67, 68, 69, 70, 71, 72, 73, 74, 75, 76, 77, 78, 79, 80, 81, 82, 83, 84, 85, 86, 87, 88, 89, 90, 91, 92, 93, 94, 95, 96, 97, 98, 99, 100, 101, 102, 103, 104, 105, 106, 107, 108, 109, 110, 111, 112, 113, 114, 115, 15, 16, 17, 18, 19, 20, 116, 117, 118, 119, 120, 121, 122, 123, 124, 125, 126, 127, 128, 129, 130, 131, 132, 133, 134, 135, 136, 137, 138, 139, 140, 141, 142, 143, 144, 145, 146, 147, 148, 149, 150, 151, 152, 153, 154, 155, 156, 157, 158, 159, 160, 161, 162, 163, 164, 165, 166, 167, 168, 169, 170, 171, 172, 173, 174, 175, 176, 177, 178, 179, 180, 181, 182, 183, 225, 226, 227, 207, 208, 209, 210, 211, 212, 213, 214, 215, 216, 217, 218, 219, 220, 221, 222, 223, 224, 228, 229, 230, 231] (by decide +kernel) (by decide +kernel)) (goodIn_sub (fun _ h => List.mem_cons_of_mem _ (List.mem_append_left _ (List.mem_append_right _ h))) (by decide +kernel))) (goodIn_sub (fun _ h => List.mem_cons_of_mem _ (List.mem_append_right _ h)) (by decide +kernel))
set_option maxRecDepth 20000 in
theorem gX8_goToRest_X8_rests : GoodIn wsX8_goToRest (wsV RX8 243 RX8 yX8_rests wsX8_rests) := goodIn_app (goodIn_of _ (by decide +kernel)) ggX8_goToRest_X8_rests
theorem dX8_goToRest_18 : decode cX8_goToRest 18 = .ok (.astore_n 2, 1) := by decide +kernel
theorem dX8_goToRest_19 : decode cX8_goToRest 19 = .ok (.aload_n 0, 1) := by decide +kernel
theorem dX8_goToRest_20 : decode cX8_goToRest 20 = .ok (.iload_n 1, 1) := by decide +kernel
theorem dX8_goToRest_21 : decode cX8_goToRest 21 = .ok (.iconst 0, 1) := by decide +kernel
theorem dX8_goToRest_22 : decode cX8_goToRest 22 = .ok (.aload_n 2, 1) := by decide +kernel
theorem dX8_goToRest_23 : decode cX8_goToRest 23 = .ok (.invokevirtual 131, 3) := by decide +kernel
set_option maxRecDepth 20000 in
theorem ggX8_goToRest_Jx4a65c_size_8abf5 : GoodIn wsX8_goToRest wsJx4a65c_size_8abf5 := goodIn_r _ [187, 69, 225, 226, 227] (by decide +kernel) (by decide +kernel)
set_option maxRecDepth 20000 in
theorem gX8_goToRest_Jx4a65c_size_8abf5 : GoodIn wsX8_goToRest (wsV RX8 131 RJx4a65c yJx4a65c_size_8abf5 wsJx4a65c_size_8abf5) := goodIn_app (goodIn_of _ (by decide +kernel)) ggX8_goToRest_Jx4a65c_size_8abf5
theorem dX8_goToRest_26 : decode cX8_goToRest 26 = .ok (.iconst 1, 1) := by decide +kernel
theorem dX8_goToRest_27 : decode cX8_goToRest 27 = .ok (.isub, 1) := by decide +kernel
theorem dX8_goToRest_28 : decode cX8_goToRest 28 = .ok (.invokestatic 65, 3) := by decide +kernel
set_option maxRecDepth 20000 in
theorem ggX8_goToRest_X8_isIn : GoodIn wsX8_goToRest wsX8_isIn := goodIn_r _ [190] (by decide +kernel) (by decide +kernel)
set_option maxRecDepth 20000 in
theorem gX8_goToRest_X8_isIn : GoodIn wsX8_goToRest (va_wsS RX8 65 yX8_isIn wsX8_isIn) := goodIn_app (goodIn_of _ (by decide +kernel)) ggX8_goToRest_X8_isIn
theorem dX8_goToRest_31 : decode cX8_goToRest 31 = .ok (.ifCond .ne 7, 3) := by decide +kernel
theorem dX8_goToRest_38 : decode cX8_goToRest 38 = .ok (.iconst 0, 1) := by decide +kernel
theorem dX8_goToRest_39 : decode cX8_goToRest 39 = .ok (.iconst 2, 1) := by decide +kernel
theorem dX8_goToRest_40 : decode cX8_goToRest 40 = .ok (.invokevirtual 73, 3) := by decide +kernel
theorem dX8_goToRest_43 : decode cX8_goToRest 43 = .ok (.ifCond .eq 5, 3) := by decide +kernel
theorem dX8_goToRest_48 : decode cX8_goToRest 48 = .ok (.iconst 0, 1) := by decide +kernel
theorem dX8_goToRest_49 : decode cX8_goToRest 49 = .ok (.istore_n 3, 1) := by decide +kernel
theorem dX8_goToRest_50 : decode cX8_goToRest 50 = .ok (.iconst 0, 1) := by decide +kernel
theorem dX8_goToRest_51 : decode cX8_goToRest 51 = .ok (.istore 4, 2) := by decide +kernel
theorem dX8_goToRest_53 : decode cX8_goToRest 53 = .ok (.iload 4, 2) := by decide +kernel
theorem dX8_goToRest_55 : decode cX8_goToRest 55 = .ok (.aload_n 0, 1) := by decide +kernel
theorem dX8_goToRest_56 : decode cX8_goToRest 56 = .ok (.getfield 85, 3) := by decide +kernel
theorem dX8_goToRest_59 : decode cX8_goToRest 59 = .ok (.if_icmp .ge 38, 3) := by decide +kernel
theorem dX8_goToRest_97 : decode cX8_goToRest 97 = .ok (.aload_n 0, 1) := by decide +kernel
theorem dX8_goToRest_98 : decode cX8_goToRest 98 = .ok (.aload_n 2, 1) := by decide +kernel
theorem dX8_goToRest_99 : decode cX8_goToRest 99 = .ok (.iload_n 1, 1) := by decide +kernel
theorem dX8_goToRest_100 : decode cX8_goToRest 100 = .ok (.invokevirtual 135, 3) := by decide +kernel
set_option maxRecDepth 20000 in
theorem ggX8_goToRest_Jx4a65c_get_915e3 : GoodIn wsX8_goToRest wsJx4a65c_get_915e3 := goodIn_r _ [194, 69, 195, 196, 197, 198, 199, 200, 201, 202, 203, 204, 205, 32, 206, 37, 225, 226, 227] (by decide +kernel) (by decide +kernel)
set_option maxRecDepth 20000 in
theorem gX8_goToRest_Jx4a65c_get_915e3 : GoodIn wsX8_goToRest (wsV RX8 135 RJx4a65c yJx4a65c_get_915e3 wsJx4a65c_get_915e3) := goodIn_app (goodIn_of _ (by decide +kernel)) ggX8_goToRest_Jx4a65c_get_915e3
theorem dX8_goToRest_103 : decode cX8_goToRest 103 = .ok (.checkcast 156, 3) := by decide +kernel
theorem dX8_goToRest_106 : decode cX8_goToRest 106 = .ok (.putfield 52, 3) := by decide +kernel
theorem dX8_goToRest_109 : decode cX8_goToRest 109 = .ok (.iload_n 3, 1) := by decide +kernel
theorem dX8_goToRest_110 : decode cX8_goToRest 110 = .ok (.ireturn, 1) := by decide +kernel
theorem dX8_goToRest_34 : decode cX8_goToRest 34 = .ok (.iconst 1, 1) := by decide +kernel
theorem dX8_goToRest_35 : decode cX8_goToRest 35 = .ok (.goto 4, 3) := by decide +kernel
theorem dX8_goToRest_46 : decode cX8_goToRest 46 = .ok (.iconst 0, 1) := by decide +kernel
theorem dX8_goToRest_47 : decode cX8_goToRest 47 = .ok (.ireturn, 1) := by decide +kernel
set_option maxHeartbeats 4000000 in
set_option maxRecDepth 100000 in
theorem k_X8_goToRest (l : Launch) (hl9 : l.stackTraces = false) (D : va_G) (cy : Nat → ClassId) (de : Nat) (h1 : Nat) (p0 : Int32) (x2 : Value) (x3 : Value) (x4 : Value) (x5 : Value) (x6 : Value) (x7 : Value) (x8 : Value) (x9 : Value) (x10 : Value) (x11 : Value) (x12 : Value) (x13 : Value) (h14 : Nat) (x15 : Value) (x16 : Value) (x17 : Value) (x18 : Value) (g19 : Nat → Int32) (sz : Nat) : Met l yX8_goToRest wsX8_goToRest ({ frames := 8, cells := 7, slots := 42, locals := 170 }) (kWY D cy de [.ref h1, .int p0] [(h1, .inr (10, [x2, x3, x4, x5, x6, x7, x8, x9, x10, x11, x12, x13, .ref h14, x15, x16, .int 0, x17, x18])), (h14, .inl (cy 1, 6, .inl g19))] sz) (va_Qi (fun (r : Int32) (u : Value × Int32) => match u with | (w1, y2) => ((r = 0 ∧ (y2 = 0) ∧ ((0 : Int) ≤ p0.toInt ∧ p0.toInt ≤ (0 : Int))) ∨ (r = 0 ∧ (y2 = 2) ∧ ¬ (((0 : Int) ≤ p0.toInt ∧ p0.toInt ≤ (0 : Int)))))) (fun (u : Value × Int32) (t : State) => match u with | (w1, y2) => va_P D vwCl [(h1, .inr (10, [x2, x3, x4, x5, x6, x7, x8, x9, x10, x11, x12, x13, w1, x15, x16, .int 0, x17, .int y2])), (h14, .inl (cy 1, 6, .inl g19))] t.heap ∧ va_D (va_A [(h1, .inr (10, [x2, x3, x4, x5, x6, x7, x8, x9, x10, x11, x12, x13, .ref h14, x15, x16, .int 0, x17, x18])), (h14, .inl (cy 1, 6, .inl g19))] sz) [(h1, .inr (10, [x2, x3, x4, x5, x6, x7, x8, x9, x10, x11, x12, x13, w1, x15, x16, .int 0, x17, .int y2])), (h14, .inl (cy 1, 6, .inl g19))]) (va_A [(h1, .inr (10, [x2, x3, x4, x5, x6, x7, x8, x9, x10, x11, x12, x13, .ref h14, x15, x16, .int 0, x17, x18])), (h14, .inl (cy 1, 6, .inl g19))] sz)) 7 42 (va_A [(h1, .inr (10, [x2, x3, x4, x5, x6, x7, x8, x9, x10, x11, x12, x13, .ref h14, x15, x16, .int 0, x17, x18])), (h14, .inl (cy 1, 6, .inl g19))] sz) := by
  refine Met.ofW (cc := cX8_goToRest) (maxL := 5) (ret := (some .int)) (by decide) rfl ?_
  intro p e s m args below meth c s₁ B hml hv
  obtain ⟨rfl, hsz, hP, hK, hD0, hE, hY⟩ := hv
  have hx := B.exec
  have hb := B.bytes
  have hr := B.returns
  have hts := atoms_spec (ws := wsX8_goToRest) B.pre
  have hown : s.vm.findClass RX8 = some m.cls := findClass_of_methodNamed B.named
  have hlocks := B.notSynchronized
  subst hsz
  have hD := hD0.self (sz := s.heap.size)
  generalize hAe : va_A [(h1, .inr (10, [x2, x3, x4, x5, x6, x7, x8, x9, x10, x11, x12, x13, .ref h14, x15, x16, .int 0, x17, x18])), (h14, .inl (cy 1, 6, .inl g19))] s.heap.size = A at hD hE hY ⊢
  have hA : ∀ q : Nat, s.heap.size ≤ q → A q := fun q h => by rw [← hAe]; exact Or.inr h
  have hS : va_S A s.heap s.heap [] := va_S.rf
  have hP : va_P D vwCl [(h1, .inr (10, [x2, x3, x4, x5, x6, x7, x8, x9, x10, x11, x12, x13, .ref h14, x15, x16, .int 0, x17, x18])), (h14, .inl (cy 1, 6, .inl g19))] s.heap := hP
  have hl := lv_entry ([.ref h1, .int p0]) (n := 5) (Nat.le_of_ble_eq_true rfl)
  rw [lg_entry_eq]
  generalize (lg_sl ([.ref h1, .int p0]) ++ List.replicate (5 - (lg_sl ([.ref h1, .int p0])).length) Slot.unset).toArray = ls at hl ⊢
  have hl : lv_has ls 5 [(0, .ref h1), (1, .int p0)] := hl
  refine lv_aload_n hx hb dX8_goToRest_0 rfl (lv_at hl 0 rfl) ?_
  refine lv_aload_n hx hb dX8_goToRest_1 rfl (lv_at hl 0 rfl) ?_
  have hPc := hP.sub (ws' := [(h1, .inr (10, [x2, x3, x4, x5, x6, x7, x8, x9, x10, x11, x12, x13, .ref h14, x15, x16, .int 0, x17, x18]))]) [0] rfl
  refine va_calli (va_runV (As := []) (rest := [.ref h1]) ⟨hx, hb, hml, hown, hts⟩ (k_X8_areMany l D cy h1 (x2) (x3) (x4) (x5) (x6) (x7) (x8) (x9) (x10) (x11) (x12) (x13) (.ref h14) (x15) (x16) (x17) (x18)) (cwV 0 hts gX8_goToRest_X8_areMany rfl rfl rfl (by decide +kernel) ⟨(Nat.le_of_ble_eq_true rfl), (Nat.le_of_ble_eq_true rfl)⟩) ⟨kR_fb, va_recv hK hP (ci := 10) (q0 := 0) rfl rfl, (kR_go hPc hK)⟩ rfl rfl hl.1 rfl (lv_room (Nat.le_of_ble_eq_true rfl)) dX8_goToRest_2 ⟨(Nat.le_of_ble_eq_true rfl), (Nat.le_of_ble_eq_true rfl)⟩) hS (fun _ _ h => h.elim) (fun _ h => h.elim) (fun r9 u t H locs ht hvm hw hB hz1 hk1 hS => ?_)
  have hP := kx_kept hP hk1
  obtain ⟨rfl, hw⟩ := hw
  refine lv_iconst (v := 1) hx hb dX8_goToRest_5 (by decide) ?_
  have hPc := hP.sub (ws' := [(h1, .inr (10, [x2, x3, x4, x5, x6, x7, x8, x9, x10, x11, x12, x13, .ref h14, x15, x16, .int 0, x17, x18]))]) [0] rfl
  have hDc := hD.sub (ws' := [(h1, .inr (10, [x2, x3, x4, x5, x6, x7, x8, x9, x10, x11, x12, x13, .ref h14, x15, x16, .int 0, x17, x18]))]) [0] (by decide) rfl
  have hFc := va_free (wc := [(h1, .inr (10, [x2, x3, x4, x5, x6, x7, x8, x9, x10, x11, x12, x13, .ref h14, x15, x16, .int 0, x17, x18]))]) hD hS hA [0] rfl
  refine va_calli (va_runV (As := [.int 0, .int 1]) (rest := []) ⟨hx, hb, hml, hown, hts⟩ (k_X8_isThrown_1 l D cy h1 (x2) (x3) (x4) (x5) (x6) (x7) (x8) (x9) (x10) (x11) (x12) (x13) (.ref h14) (x15) (x16) (.int 0) (x17) (x18) H.size) (cwV 2 hts gX8_goToRest_X8_isThrown rfl rfl rfl (by decide +kernel) ⟨(Nat.le_of_ble_eq_true rfl), (Nat.le_of_ble_eq_true rfl)⟩) ⟨kW_fb, va_recv hK hP (ci := 10) (q0 := 0) rfl rfl, (kW_go hPc hK hDc)⟩ rfl rfl hl.1 rfl (lv_room (Nat.le_of_ble_eq_true rfl)) dX8_goToRest_6 ⟨(Nat.le_of_ble_eq_true rfl), (Nat.le_of_ble_eq_true rfl)⟩) hS (fun q _ h => hFc q h) hFc (fun r9 u t H locs ht hvm hw hB hz1 hk1 hS => ?_)
  obtain ⟨hP1, hD1⟩ := hB
  rw [ht] at hP1
  try dsimp only at hw hP1 hD1
  obtain ⟨hP, hD⟩ := va_join (wr := [(h14, .inl (cy 1, 6, .inl g19))]) (w1 := [(h1, .inr (10, [x2, x3, x4, x5, x6, x7, x8, x9, x10, x11, x12, x13, .ref h14, x15, x16, .int 0, x17, .int 0]))]) hP hD [0] [1] rfl rfl (by decide) (by decide) hk1 hFc hP1 hD1
  have hP : va_P D vwCl [(h14, .inl (cy 1, 6, .inl g19)), (h1, .inr (10, [x2, x3, x4, x5, x6, x7, x8, x9, x10, x11, x12, x13, .ref h14, x15, x16, .int 0, x17, .int 0]))] H := hP
  have hD : va_D A [(h14, .inl (cy 1, 6, .inl g19)), (h1, .inr (10, [x2, x3, x4, x5, x6, x7, x8, x9, x10, x11, x12, x13, .ref h14, x15, x16, .int 0, x17, .int 0]))] := hD
  obtain ⟨rfl, hw⟩ := hw
  refine lv_if_eq (tgt := 14) hx hb dX8_goToRest_9 (by decide) (fun _ => ?_) (fun h => absurd (by decide) h)
  refine lv_aload_n hx hb dX8_goToRest_14 rfl (lv_at hl 0 rfl) ?_
  have hPc := hP.sub (ws' := [(h1, .inr (10, [x2, x3, x4, x5, x6, x7, x8, x9, x10, x11, x12, x13, .ref h14, x15, x16, .int 0, x17, .int 0])), (h14, .inl (cy 1, 6, .inl g19))]) [1, 0] rfl
  have hDc := hD.sub (ws' := [(h1, .inr (10, [x2, x3, x4, x5, x6, x7, x8, x9, x10, x11, x12, x13, .ref h14, x15, x16, .int 0, x17, .int 0])), (h14, .inl (cy 1, 6, .inl g19))]) [1, 0] (by decide) rfl
  have hFc := va_free (wc := [(h1, .inr (10, [x2, x3, x4, x5, x6, x7, x8, x9, x10, x11, x12, x13, .ref h14, x15, x16, .int 0, x17, .int 0])), (h14, .inl (cy 1, 6, .inl g19))]) hD hS hA [1, 0] rfl
  refine va_callr (va_runV (As := []) (rest := []) ⟨hx, hb, hml, hown, hts⟩ (k_X8_rests l hl9 D cy de h1 (x2) (x3) (x4) (x5) (x6) (x7) (x8) (x9) (x10) (x11) (x12) (x13) h14 (x15) (x16) (x17) (.int 0) g19 H.size) (cwV 0 hts gX8_goToRest_X8_rests rfl rfl rfl (by decide +kernel) ⟨(Nat.le_of_ble_eq_true rfl), (Nat.le_of_ble_eq_true rfl)⟩) ⟨kWY_fb, va_recv hK hP (ci := 10) (q0 := 1) rfl rfl, (kWY_go hPc hK hDc hFc hE hY hS)⟩ rfl rfl hl.1 rfl (lv_room (Nat.le_of_ble_eq_true rfl)) dX8_goToRest_15 ⟨(Nat.le_of_ble_eq_true rfl), (Nat.le_of_ble_eq_true rfl)⟩) hS (fun q _ h => hFc q h) hFc (fun u r9 t H locs ht hvm hw hB hz1 hk1 hS => ?_)
  obtain ⟨z_3, z_4, u_5, z_6⟩ := u
  obtain ⟨e9, hB⟩ := hB
  have e9 := e9.symm
  subst e9
  obtain ⟨hP1, hD1⟩ := hB
  rw [ht] at hP1
  try dsimp only at hw hP1 hD1
  obtain ⟨hP, hD⟩ := va_join (wr := []) (w1 := [(h1, .inr (10, [x2, x3, x4, x5, x6, x7, x8, x9, x10, x11, x12, x13, .ref h14, x15, x16, .int 0, x17, .int 0])), (h14, .inl (cy 1, 6, .inl g19)), (z_3, .inr (1, [.int 1, .ref z_4, .int 1])), (z_4, .inl (cy 7, 10, .inr (.inr (.inr (.inr u_5))))), (z_6, .inl (cy 1, 6, .inl g19))]) hP hD [1, 0] [] rfl rfl (by decide) (by decide) hk1 hFc hP1 hD1
  have hP : va_P D vwCl [(h1, .inr (10, [x2, x3, x4, x5, x6, x7, x8, x9, x10, x11, x12, x13, .ref h14, x15, x16, .int 0, x17, .int 0])), (h14, .inl (cy 1, 6, .inl g19)), (z_3, .inr (1, [.int 1, .ref z_4, .int 1])), (z_4, .inl (cy 7, 10, .inr (.inr (.inr (.inr u_5))))), (z_6, .inl (cy 1, 6, .inl g19))] H := hP
  have hD : va_D A [(h1, .inr (10, [x2, x3, x4, x5, x6, x7, x8, x9, x10, x11, x12, x13, .ref h14, x15, x16, .int 0, x17, .int 0])), (h14, .inl (cy 1, 6, .inl g19)), (z_3, .inr (1, [.int 1, .ref z_4, .int 1])), (z_4, .inl (cy 7, 10, .inr (.inr (.inr (.inr u_5))))), (z_6, .inl (cy 1, 6, .inl g19))] := hD
  refine W.widen (k := 7) (n := 42) (Nat.le_of_ble_eq_true rfl) (Nat.le_of_ble_eq_true rfl) ?_
  obtain ⟨kf_7, hw⟩ := hw
  refine lv_astore_n (lv' := [(2, .ref z_3), (0, .ref h1), (1, .int p0)]) hx hb dX8_goToRest_18 rfl hl (by decide) rfl (fun ls hl => ?_)
  refine lv_aload_n hx hb dX8_goToRest_19 rfl (lv_at hl 1 rfl) ?_
  refine lv_iload_n hx hb dX8_goToRest_20 rfl (lv_at hl 2 rfl) ?_
  refine lv_iconst (v := 0) hx hb dX8_goToRest_21 (by decide) ?_
  refine lv_aload_n hx hb dX8_goToRest_22 rfl (lv_at hl 0 rfl) ?_
  have hPc := hP.sub (ws' := [(z_3, .inr (1, [.int 1, .ref z_4, .int 1]))]) [2] rfl
  refine va_calli (va_runV (As := []) (rest := [.int 0, .int p0, .ref h1]) ⟨hx, hb, hml, hown, hts⟩ (k_Jx4a65c_size_8abf5 l D cy z_3 (.int 1) (.ref z_4)) (cwV 0 hts gX8_goToRest_Jx4a65c_size_8abf5 rfl rfl rfl (by decide +kernel) ⟨(Nat.le_of_ble_eq_true rfl), (Nat.le_of_ble_eq_true rfl)⟩) ⟨kR_fb, va_recv hK hP (ci := 1) (q0 := 2) rfl rfl, (kR_go hPc hK)⟩ rfl rfl hl.1 rfl (lv_room (Nat.le_of_ble_eq_true rfl)) dX8_goToRest_23 ⟨(Nat.le_of_ble_eq_true rfl), (Nat.le_of_ble_eq_true rfl)⟩) hS (fun _ _ h => h.elim) (fun _ h => h.elim) (fun r9 u t H locs ht hvm hw hB hz1 hk1 hS => ?_)
  have hP := kx_kept hP hk1
  obtain ⟨rfl, hw⟩ := hw
  refine lv_iconst (v := 1) hx hb dX8_goToRest_26 (by decide) ?_
  refine lv_isub hx hb dX8_goToRest_27 ?_
  refine lv_topi (fun v_10 ev_10 => ?_)
  obtain rfl : v_10 = 0 := ev_10.trans (by decide)
  have hPc := hP.sub (ws' := []) [] rfl
  refine va_calli (va_runS (As := [.int p0, .int 0, .int 0]) (rest := [.ref h1]) ⟨hx, hb, hml, hown, hts⟩ (k_X8_isIn l D cy p0 0 0) (va_cwS 3 hts gX8_goToRest_X8_isIn rfl rfl rfl (by decide +kernel) ⟨(Nat.le_of_ble_eq_true rfl), (Nat.le_of_ble_eq_true rfl)⟩) ⟨kR_fb, (kR_go hPc hK)⟩ rfl rfl hl.1 rfl (lv_room (Nat.le_of_ble_eq_true rfl)) dX8_goToRest_28 ⟨(Nat.le_of_ble_eq_true rfl), (Nat.le_of_ble_eq_true rfl)⟩) hS (fun _ _ h => h.elim) (fun _ h => h.elim) (fun r9 u t H locs ht hvm hw hB hz1 hk1 hS => ?_)
  have hP := kx_kept hP hk1
  rcases hw with ⟨rfl, hw⟩ | ⟨rfl, hw⟩
  · have f_11 : ((0 : Int) ≤ p0.toInt ∧ p0.toInt ≤ (0 : Int)) := hw
    refine lv_if_ne (tgt := 38) hx hb dX8_goToRest_31 (by decide) (fun _ => ?_) (fun h => absurd h (by decide))
    refine lv_iconst (v := 0) hx hb dX8_goToRest_38 (by decide) ?_
    refine lv_iconst (v := 2) hx hb dX8_goToRest_39 (by decide) ?_
    have hPc := hP.sub (ws' := [(h1, .inr (10, [x2, x3, x4, x5, x6, x7, x8, x9, x10, x11, x12, x13, .ref h14, x15, x16, .int 0, x17, .int 0]))]) [0] rfl
    have hDc := hD.sub (ws' := [(h1, .inr (10, [x2, x3, x4, x5, x6, x7, x8, x9, x10, x11, x12, x13, .ref h14, x15, x16, .int 0, x17, .int 0]))]) [0] (by decide) rfl
    have hFc := va_free (wc := [(h1, .inr (10, [x2, x3, x4, x5, x6, x7, x8, x9, x10, x11, x12, x13, .ref h14, x15, x16, .int 0, x17, .int 0]))]) hD hS hA [0] rfl
    refine va_calli (va_runV (As := [.int 0, .int 2]) (rest := []) ⟨hx, hb, hml, hown, hts⟩ (k_X8_isThrown_2 l D cy h1 (x2) (x3) (x4) (x5) (x6) (x7) (x8) (x9) (x10) (x11) (x12) (x13) (.ref h14) (x15) (x16) (.int 0) (x17) (.int 0) H.size) (cwV 2 hts gX8_goToRest_X8_isThrown rfl rfl rfl (by decide +kernel) ⟨(Nat.le_of_ble_eq_true rfl), (Nat.le_of_ble_eq_true rfl)⟩) ⟨kW_fb, va_recv hK hP (ci := 10) (q0 := 0) rfl rfl, (kW_go hPc hK hDc)⟩ rfl rfl hl.1 rfl (lv_room (Nat.le_of_ble_eq_true rfl)) dX8_goToRest_40 ⟨(Nat.le_of_ble_eq_true rfl), (Nat.le_of_ble_eq_true rfl)⟩) hS (fun q _ h => hFc q h) hFc (fun r9 u t H locs ht hvm hw hB hz1 hk1 hS => ?_)
    obtain ⟨hP1, hD1⟩ := hB
    rw [ht] at hP1
    try dsimp only at hw hP1 hD1
    obtain ⟨hP, hD⟩ := va_join (wr := [(h14, .inl (cy 1, 6, .inl g19)), (z_3, .inr (1, [.int 1, .ref z_4, .int 1])), (z_4, .inl (cy 7, 10, .inr (.inr (.inr (.inr u_5))))), (z_6, .inl (cy 1, 6, .inl g19))]) (w1 := [(h1, .inr (10, [x2, x3, x4, x5, x6, x7, x8, x9, x10, x11, x12, x13, .ref h14, x15, x16, .int 0, x17, .int 0]))]) hP hD [0] [1, 2, 3, 4] rfl rfl (by decide) (by decide) hk1 hFc hP1 hD1
    have hP : va_P D vwCl [(h14, .inl (cy 1, 6, .inl g19)), (z_3, .inr (1, [.int 1, .ref z_4, .int 1])), (z_4, .inl (cy 7, 10, .inr (.inr (.inr (.inr u_5))))), (z_6, .inl (cy 1, 6, .inl g19)), (h1, .inr (10, [x2, x3, x4, x5, x6, x7, x8, x9, x10, x11, x12, x13, .ref h14, x15, x16, .int 0, x17, .int 0]))] H := hP
    have hD : va_D A [(h14, .inl (cy 1, 6, .inl g19)), (z_3, .inr (1, [.int 1, .ref z_4, .int 1])), (z_4, .inl (cy 7, 10, .inr (.inr (.inr (.inr u_5))))), (z_6, .inl (cy 1, 6, .inl g19)), (h1, .inr (10, [x2, x3, x4, x5, x6, x7, x8, x9, x10, x11, x12, x13, .ref h14, x15, x16, .int 0, x17, .int 0]))] := hD
    obtain ⟨rfl, hw⟩ := hw
    refine lv_if_eq (tgt := 48) hx hb dX8_goToRest_43 (by decide) (fun _ => ?_) (fun h => absurd (by decide) h)
    refine lv_iconst (v := 0) hx hb dX8_goToRest_48 (by decide) ?_
    refine lv_istore_n (lv' := [(3, .int 0), (2, .ref z_3), (0, .ref h1), (1, .int p0)]) hx hb dX8_goToRest_49 rfl hl (by decide) rfl (fun ls hl => ?_)
    refine lv_iconst (v := 0) hx hb dX8_goToRest_50 (by decide) ?_
    refine lv_istore (lv' := [(4, .int 0), (3, .int 0), (2, .ref z_3), (0, .ref h1), (1, .int p0)]) hx hb dX8_goToRest_51 hl (by decide) rfl (fun ls hl => ?_)
    refine lv_iload hx hb dX8_goToRest_53 (lv_at hl 0 rfl) ?_
    refine lv_aload_n hx hb dX8_goToRest_55 rfl (lv_at hl 3 rfl) ?_
    refine va_get (D := D) (ci := 10) (v := .int 0) (C := RX8) (T := TX8) (N := 18) hx hb hts (fun _ h => (List.mem_cons_of_mem _ (List.mem_append_left _ (List.mem_append_left _ (List.mem_append_left _ (List.mem_append_left _ (List.mem_append_right _ h))))))) hown hK hP 4 rfl rfl 15 (by decide) (hts (.fieldLink RX8 85 "SelfishJunctionModel" "players" "I") (List.mem_cons_of_mem _ (List.mem_append_left _ (List.mem_append_left _ (List.mem_append_left _ (List.mem_append_left _ (List.mem_append_left _ (List.mem_append_left _ (List.mem_of_getElem? (i := 0) rfl))))))))) (fun _ h9 => h9) rfl dX8_goToRest_56 ?_
    refine lv_icmp_ge (tgt := 97) hx hb dX8_goToRest_59 (by decide) (fun _ => ?_) (fun h => absurd (by decide) h)
    refine lv_aload_n hx hb dX8_goToRest_97 rfl (lv_at hl 3 rfl) ?_
    refine lv_aload_n hx hb dX8_goToRest_98 rfl (lv_at hl 2 rfl) ?_
    refine lv_iload_n hx hb dX8_goToRest_99 rfl (lv_at hl 4 rfl) ?_
    obtain rfl : p0 = 0 := Int32.toInt_inj.mp (show p0.toInt = (0 : Int) by omega)
    have z9 : (0 : Int32).toInt = 0 := rfl
    have hPc := hP.sub (ws' := [(z_3, .inr (1, [.int 1, .ref z_4, .int 1])), (z_4, .inl (cy 7, 10, .inr (.inr (.inr (.inr u_5)))))]) [1, 2] rfl
    refine va_callr (va_runV (As := [.int 0]) (rest := [.ref h1]) ⟨hx, hb, hml, hown, hts⟩ (k_Jx4a65c_get_915e3 l D cy z_3 (.int 1) z_4 u_5 z_6 (kf_7)) (cwV 1 hts gX8_goToRest_Jx4a65c_get_915e3 rfl rfl rfl (by decide +kernel) ⟨(Nat.le_of_ble_eq_true rfl), (Nat.le_of_ble_eq_true rfl)⟩) ⟨kR_fb, va_recv hK hP (ci := 1) (q0 := 1) rfl rfl, (kR_go hPc hK)⟩ rfl rfl hl.1 rfl (lv_room (Nat.le_of_ble_eq_true rfl)) dX8_goToRest_100 ⟨(Nat.le_of_ble_eq_true rfl), (Nat.le_of_ble_eq_true rfl)⟩) hS (fun _ _ h => h.elim) (fun _ h => h.elim) (fun u r9 t H locs ht hvm hw hB hz1 hk1 hS => ?_)
    have e9 := Eq.symm hB
    subst e9
    have hP := kx_kept hP hk1
    refine va_castA hx hb hown (hts (.classLink RX8 156 "[I") (List.mem_cons_of_mem _ (List.mem_append_left _ (List.mem_append_left _ (List.mem_append_left _ (List.mem_append_left _ (List.mem_append_left _ (List.mem_append_left _ (List.mem_of_getElem? (i := 2) rfl))))))))) hP 3 rfl (va_nm_int (hK.2 1 _ rfl).2) dX8_goToRest_103 ?_
    refine va_put (D := D) (ci := 10) (v := .ref z_6) (ty := .array .int) (C := RX8) (T := TX8) (N := 18) hx hb hts (fun _ h => (List.mem_cons_of_mem _ (List.mem_append_left _ (List.mem_append_left _ (List.mem_append_left _ (List.mem_append_left _ (List.mem_append_right _ h))))))) tyX8 tyX8_ok nmX8 hown hK hP hD hS 4 rfl rfl 12 (by decide) (hts (.fieldLink RX8 52 "SelfishJunctionModel" "chosen" "[I") (List.mem_cons_of_mem _ (List.mem_append_left _ (List.mem_append_left _ (List.mem_append_left _ (List.mem_append_left _ (List.mem_append_left _ (List.mem_append_left _ (List.mem_of_getElem? (i := 1) rfl))))))))) (fun _ h9 => h9) rfl (by decide +kernel) rfl rfl (Nat.le_of_ble_eq_true rfl) dX8_goToRest_106 (fun H locs hP hD hS => ?_)
    have hP : va_P D vwCl [(h14, .inl (cy 1, 6, .inl g19)), (z_3, .inr (1, [.int 1, .ref z_4, .int 1])), (z_4, .inl (cy 7, 10, .inr (.inr (.inr (.inr u_5))))), (z_6, .inl (cy 1, 6, .inl g19)), (h1, .inr (10, [x2, x3, x4, x5, x6, x7, x8, x9, x10, x11, x12, x13, .ref z_6, x15, x16, .int 0, x17, .int 0]))] H := hP
    have hD : va_D A [(h14, .inl (cy 1, 6, .inl g19)), (z_3, .inr (1, [.int 1, .ref z_4, .int 1])), (z_4, .inl (cy 7, 10, .inr (.inr (.inr (.inr u_5))))), (z_6, .inl (cy 1, 6, .inl g19)), (h1, .inr (10, [x2, x3, x4, x5, x6, x7, x8, x9, x10, x11, x12, x13, .ref z_6, x15, x16, .int 0, x17, .int 0]))] := hD
    refine lv_iload_n hx hb dX8_goToRest_109 rfl (lv_at hl 1 rfl) ?_
    refine W.widen (k := 7) (n := 42) (Nat.le_of_ble_eq_true rfl) (Nat.le_of_ble_eq_true rfl) ?_
    have hP9 := hP.sub (ws' := [(h1, .inr (10, [x2, x3, x4, x5, x6, x7, x8, x9, x10, x11, x12, x13, .ref z_6, x15, x16, .int 0, x17, .int 0])), (h14, .inl (cy 1, 6, .inl g19))]) [4, 0] rfl
    have hD9 := hD.sub (ws' := [(h1, .inr (10, [x2, x3, x4, x5, x6, x7, x8, x9, x10, x11, x12, x13, .ref z_6, x15, x16, .int 0, x17, .int 0])), (h14, .inl (cy 1, 6, .inl g19))]) [4, 0] (by decide) rfl
    exact W.iret (v := 0) hx hb hr (fun t ht hW => ⟨⟨0, ((.ref z_6), 0), rfl, Or.inl (⟨rfl, rfl, (by omega)⟩), ⟨by rw [ht]; exact hP9, hD9⟩⟩, hS.F ht⟩) hS.2.2 dX8_goToRest_110
  · have f_14 : ¬ (((0 : Int) ≤ p0.toInt ∧ p0.toInt ≤ (0 : Int))) := hw
    refine lv_if_ne (tgt := 38) hx hb dX8_goToRest_31 (by decide) (fun h => absurd (by decide) h) (fun _ => ?_)
    refine lv_iconst (v := 1) hx hb dX8_goToRest_34 (by decide) ?_
    refine lv_goto (tgt := 39) hx hb dX8_goToRest_35 (by decide) ?_
    refine lv_iconst (v := 2) hx hb dX8_goToRest_39 (by decide) ?_
    have hPc := hP.sub (ws' := [(h1, .inr (10, [x2, x3, x4, x5, x6, x7, x8, x9, x10, x11, x12, x13, .ref h14, x15, x16, .int 0, x17, .int 0]))]) [0] rfl
    have hDc := hD.sub (ws' := [(h1, .inr (10, [x2, x3, x4, x5, x6, x7, x8, x9, x10, x11, x12, x13, .ref h14, x15, x16, .int 0, x17, .int 0]))]) [0] (by decide) rfl
    have hFc := va_free (wc := [(h1, .inr (10, [x2, x3, x4, x5, x6, x7, x8, x9, x10, x11, x12, x13, .ref h14, x15, x16, .int 0, x17, .int 0]))]) hD hS hA [0] rfl
    refine va_calli (va_runV (As := [.int 1, .int 2]) (rest := []) ⟨hx, hb, hml, hown, hts⟩ (k_X8_isThrown_3 l D cy h1 (x2) (x3) (x4) (x5) (x6) (x7) (x8) (x9) (x10) (x11) (x12) (x13) (.ref h14) (x15) (x16) (.int 0) (x17) (.int 0) H.size) (cwV 2 hts gX8_goToRest_X8_isThrown rfl rfl rfl (by decide +kernel) ⟨(Nat.le_of_ble_eq_true rfl), (Nat.le_of_ble_eq_true rfl)⟩) ⟨kW_fb, va_recv hK hP (ci := 10) (q0 := 0) rfl rfl, (kW_go hPc hK hDc)⟩ rfl rfl hl.1 rfl (lv_room (Nat.le_of_ble_eq_true rfl)) dX8_goToRest_40 ⟨(Nat.le_of_ble_eq_true rfl), (Nat.le_of_ble_eq_true rfl)⟩) hS (fun q _ h => hFc q h) hFc (fun r9 u t H locs ht hvm hw hB hz1 hk1 hS => ?_)
    obtain ⟨hP1, hD1⟩ := hB
    rw [ht] at hP1
    try dsimp only at hw hP1 hD1
    obtain ⟨hP, hD⟩ := va_join (wr := [(h14, .inl (cy 1, 6, .inl g19)), (z_3, .inr (1, [.int 1, .ref z_4, .int 1])), (z_4, .inl (cy 7, 10, .inr (.inr (.inr (.inr u_5))))), (z_6, .inl (cy 1, 6, .inl g19))]) (w1 := [(h1, .inr (10, [x2, x3, x4, x5, x6, x7, x8, x9, x10, x11, x12, x13, .ref h14, x15, x16, .int 0, x17, .int 2]))]) hP hD [0] [1, 2, 3, 4] rfl rfl (by decide) (by decide) hk1 hFc hP1 hD1
    have hP : va_P D vwCl [(h14, .inl (cy 1, 6, .inl g19)), (z_3, .inr (1, [.int 1, .ref z_4, .int 1])), (z_4, .inl (cy 7, 10, .inr (.inr (.inr (.inr u_5))))), (z_6, .inl (cy 1, 6, .inl g19)), (h1, .inr (10, [x2, x3, x4, x5, x6, x7, x8, x9, x10, x11, x12, x13, .ref h14, x15, x16, .int 0, x17, .int 2]))] H := hP
    have hD : va_D A [(h14, .inl (cy 1, 6, .inl g19)), (z_3, .inr (1, [.int 1, .ref z_4, .int 1])), (z_4, .inl (cy 7, 10, .inr (.inr (.inr (.inr u_5))))), (z_6, .inl (cy 1, 6, .inl g19)), (h1, .inr (10, [x2, x3, x4, x5, x6, x7, x8, x9, x10, x11, x12, x13, .ref h14, x15, x16, .int 0, x17, .int 2]))] := hD
    obtain ⟨rfl, hw⟩ := hw
    refine lv_if_eq (tgt := 48) hx hb dX8_goToRest_43 (by decide) (fun h => absurd h (by decide)) (fun _ => ?_)
    refine lv_iconst (v := 0) hx hb dX8_goToRest_46 (by decide) ?_
    refine W.widen (k := 7) (n := 42) (Nat.le_of_ble_eq_true rfl) (Nat.le_of_ble_eq_true rfl) ?_
    have hP9 := hP.sub (ws' := [(h1, .inr (10, [x2, x3, x4, x5, x6, x7, x8, x9, x10, x11, x12, x13, .ref h14, x15, x16, .int 0, x17, .int 2])), (h14, .inl (cy 1, 6, .inl g19))]) [4, 0] rfl
    have hD9 := hD.sub (ws' := [(h1, .inr (10, [x2, x3, x4, x5, x6, x7, x8, x9, x10, x11, x12, x13, .ref h14, x15, x16, .int 0, x17, .int 2])), (h14, .inl (cy 1, 6, .inl g19))]) [4, 0] (by decide) rfl
    exact W.iret (v := 0) hx hb hr (fun t ht hW => ⟨⟨0, ((.ref h14), 2), rfl, Or.inr (⟨rfl, rfl, (by omega)⟩), ⟨by rw [ht]; exact hP9, hD9⟩⟩, hS.F ht⟩) hS.2.2 dX8_goToRest_47
set_option maxHeartbeats 4000000 in
set_option maxRecDepth 100000 in
theorem k_X6_leastOf_1 (l : Launch) (D : va_G) (cy : Nat → ClassId) (h1 : Nat) (x2 : Value) (x3 : Value) (x4 : Value) (x5 : Value) (h6 : Nat) (x7 : Value) (x8 : Value) (x9 : Value) (x10 : Value) (x11 : Value) (x12 : Value) (x13 : Value) (g14 : Nat → Int32) (kg14_0 : g14 0 = 0) : Met l yX6_leastOf wsX6_leastOf ({ frames := 0, cells := 0, slots := 0, locals := 0 }) (kR D cy [.ref h1, .int 0] [(h1, .inr (8, [x2, x3, x4, x5, .ref h6, x7, x8, x9, x10, x11, x12, x13, .int 1])), (h6, .inl (cy 1, 1000, .inl g14))]) (va_Qi (fun (r : Int32) (_ : Unit) => r = 0 ∧ True) (fun (_ : Unit) (_ : State) => True) (fun _ : Nat => False)) 0 0 (fun _ : Nat => False) := by
  refine Met.ofW (cc := cX6_leastOf) (maxL := 4) (ret := (some .int)) (by decide) rfl ?_
  intro p e s m args below meth c s₁ B hml hv
  obtain ⟨rfl, hP, hK⟩ := hv
  have hx := B.exec
  have hb := B.bytes
  have hr := B.returns
  have hts := atoms_spec (ws := wsX6_leastOf) B.pre
  have hown : s.vm.findClass RX6 = some m.cls := findClass_of_methodNamed B.named
  have hlocks := B.notSynchronized
  have hS : va_S (fun _ : Nat => False) s.heap s.heap [] := va_S.rf
  have hP : va_P D vwCl [(h1, .inr (8, [x2, x3, x4, x5, .ref h6, x7, x8, x9, x10, x11, x12, x13, .int 1])), (h6, .inl (cy 1, 1000, .inl g14))] s.heap := hP
  have hl := lv_entry ([.ref h1, .int 0]) (n := 4) (Nat.le_of_ble_eq_true rfl)
  rw [lg_entry_eq]
  generalize (lg_sl ([.ref h1, .int 0]) ++ List.replicate (4 - (lg_sl ([.ref h1, .int 0])).length) Slot.unset).toArray = ls at hl ⊢
  have hl : lv_has ls 4 [(0, .ref h1), (1, .int 0)] := hl
  refine lv_iconst (v := (-1)) hx hb dX6_leastOf_0 (by decide) ?_
  refine lv_istore_n (lv' := [(2, .int (-1)), (0, .ref h1), (1, .int 0)]) hx hb dX6_leastOf_1 rfl hl (by decide) rfl (fun ls hl => ?_)
  refine lv_iconst (v := 0) hx hb dX6_leastOf_2 (by decide) ?_
  refine lv_istore_n (lv' := [(3, .int 0), (2, .int (-1)), (0, .ref h1), (1, .int 0)]) hx hb dX6_leastOf_3 rfl hl (by decide) rfl (fun ls hl => ?_)
  refine lv_iload_n hx hb dX6_leastOf_4 rfl (lv_at hl 0 rfl) ?_
  refine lv_aload_n hx hb dX6_leastOf_5 rfl (lv_at hl 2 rfl) ?_
  refine va_get (D := D) (ci := 8) (v := .int 1) (C := RX6) (T := TX6) (N := 13) hx hb hts (fun _ h => (List.mem_cons_of_mem _ (List.mem_append_left _ (List.mem_append_right _ h)))) hown hK hP 0 rfl rfl 12 (by decide) (hts (.fieldLink RX6 98 "SelfishJunction$Survey" "filled" "I") (List.mem_cons_of_mem _ (List.mem_append_left _ (List.mem_append_left _ (List.mem_of_getElem? (i := 0) rfl))))) (fun _ h9 => h9) rfl dX6_leastOf_6 ?_
  refine lv_icmp_ge (tgt := 51) hx hb dX6_leastOf_9 (by decide) (fun h => absurd h (by decide)) (fun _ => ?_)
  refine lv_iload_n hx hb dX6_leastOf_12 rfl (lv_at hl 3 rfl) ?_
  refine lv_if_eq (tgt := 24) hx hb dX6_leastOf_13 (by decide) (fun _ => ?_) (fun h => absurd (by decide) h)
  refine lv_iload_n hx hb dX6_leastOf_24 rfl (lv_at hl 1 rfl) ?_
  refine lv_if_lt (tgt := 38) hx hb dX6_leastOf_25 (by decide) (fun _ => ?_) (fun h => absurd (by decide) h)
  refine lv_aload_n hx hb dX6_leastOf_38 rfl (lv_at hl 2 rfl) ?_
  refine va_get (D := D) (ci := 8) (v := .ref h6) (C := RX6) (T := TX6) (N := 13) hx hb hts (fun _ h => (List.mem_cons_of_mem _ (List.mem_append_left _ (List.mem_append_right _ h)))) hown hK hP 0 rfl rfl 4 (by decide) (hts (.fieldLink RX6 24 "SelfishJunction$Survey" "totals" "[I") (List.mem_cons_of_mem _ (List.mem_append_left _ (List.mem_append_left _ (List.mem_of_getElem? (i := 1) rfl))))) (fun _ h9 => h9) rfl dX6_leastOf_39 ?_
  refine lv_iload_n hx hb dX6_leastOf_42 rfl (lv_at hl 0 rfl) ?_
  refine va_iald hx hb hK hP 1 1 rfl rfl (kx_in 0 1000 rfl ⟨(Nat.le_of_ble_eq_true rfl), (Nat.le_of_ble_eq_true rfl)⟩ (Nat.le_of_ble_eq_true rfl)) dX6_leastOf_43 ?_
  refine lv_topi (fun v_1 ev_1 => ?_)
  obtain rfl : v_1 = 0 := ev_1.trans (kg14_0)
  refine lv_istore_n (lv' := [(2, .int 0), (3, .int 0), (0, .ref h1), (1, .int 0)]) hx hb dX6_leastOf_44 rfl hl (by decide) rfl (fun ls hl => ?_)
  refine lv_iinc (v := 1) (lv' := [(3, .int 1), (2, .int 0), (0, .ref h1), (1, .int 0)]) hx hb dX6_leastOf_45 hl (k := 1) rfl (by decide) (by decide) rfl (fun ls hl => ?_)
  refine lv_goto (tgt := 4) hx hb dX6_leastOf_48 (by decide) ?_
  refine lv_iload_n hx hb dX6_leastOf_4 rfl (lv_at hl 0 rfl) ?_
  refine lv_aload_n hx hb dX6_leastOf_5 rfl (lv_at hl 2 rfl) ?_
  refine va_get (D := D) (ci := 8) (v := .int 1) (C := RX6) (T := TX6) (N := 13) hx hb hts (fun _ h => (List.mem_cons_of_mem _ (List.mem_append_left _ (List.mem_append_right _ h)))) hown hK hP 0 rfl rfl 12 (by decide) (hts (.fieldLink RX6 98 "SelfishJunction$Survey" "filled" "I") (List.mem_cons_of_mem _ (List.mem_append_left _ (List.mem_append_left _ (List.mem_of_getElem? (i := 0) rfl))))) (fun _ h9 => h9) rfl dX6_leastOf_6 ?_
  refine lv_icmp_ge (tgt := 51) hx hb dX6_leastOf_9 (by decide) (fun _ => ?_) (fun h => absurd (by decide) h)
  refine lv_iload_n hx hb dX6_leastOf_51 rfl (lv_at hl 1 rfl) ?_
  refine W.widen (k := 0) (n := 0) (Nat.le_of_ble_eq_true rfl) (Nat.le_of_ble_eq_true rfl) ?_
  exact W.iret (v := 0) hx hb hr (fun t ht hW => ⟨⟨0, (), rfl, ⟨rfl, trivial⟩, trivial⟩, hS.F ht⟩) hS.2.2 dX6_leastOf_52
theorem dX7_leastTotal_0 : decode cX7_leastTotal 0 = .ok (.aload_n 0, 1) := by decide +kernel
theorem dX7_leastTotal_1 : decode cX7_leastTotal 1 = .ok (.invokevirtual 264, 3) := by decide +kernel
set_option maxRecDepth 20000 in
theorem ggX7_leastTotal_X7_lookAtPlays : GoodIn wsX7_leastTotal wsX7_lookAtPlays := goodIn_ca (goodIn_ca (goodIn_ca (goodIn_r _ [6, 1, 7, 8, 9, 10, 5, 11, 12, 13, 14, 15, 16, 17, 18, 19, 20, 21, 22, 23, 24, 25, 26, 27, 28, 29, 30, 31, 32, 33, 34, 35, 36, 37, 38, 39, 40, 41, 42, 43, 44, 45, 46, 47, 48, 49, 50, 51, 52, 53, 54, 55, 56, 57, 58, 59, 60, 61, 62, 63, 64, 65, 66, 67, 68, 69, 70, 71, 72, 73, 74, 75, 76, 77, 78, 79, 80, 81, 82, 83, 84, 85, 86, 87, 88, 89, 90, 91, 92, 93, 94, 95, 96, 97, 98, 99, 100, 101, 102, 103, 104, 105, 106, 107, 108, 109, 110, 111, 112, 121, 122, 123, 124, 125, 126, 127, 128, 129, 130, 131, 132, 133, 134, 135, 136, 137, 138, 139, 140, 141, 142, 143, 144, 145, 146, 147, 148, 149, 150, 151, 152, 153, 154, 155, 156, 157, 158, 159, 160] (by decide +kernel) (by decide +kernel)) (goodIn_sub (fun _ h => List.mem_cons_of_mem _ (List.mem_append_left _ (List.mem_append_left _ (List.mem_append_right _ h)))) (by decide +kernel))) (goodIn_sub (fun _ h => List.mem_cons_of_mem _ (List.mem_append_left _ (List.mem_append_right _ h))) (by decide +kernel))) (goodIn_sub (fun _ h => List.mem_cons_of_mem _ (List.mem_append_right _ h)) (by decide +kernel))
set_option maxRecDepth 20000 in
theorem gX7_leastTotal_X7_lookAtPlays : GoodIn wsX7_leastTotal (wsV RX7 264 RX7 yX7_lookAtPlays wsX7_lookAtPlays) := goodIn_app (goodIn_of _ (by decide +kernel)) ggX7_leastTotal_X7_lookAtPlays
theorem dX7_leastTotal_4 : decode cX7_leastTotal 4 = .ok (.aload_n 0, 1) := by decide +kernel
theorem dX7_leastTotal_5 : decode cX7_leastTotal 5 = .ok (.getfield 29, 3) := by decide +kernel
theorem dX7_leastTotal_8 : decode cX7_leastTotal 8 = .ok (.iconst 0, 1) := by decide +kernel
theorem dX7_leastTotal_9 : decode cX7_leastTotal 9 = .ok (.invokevirtual 287, 3) := by decide +kernel
set_option maxRecDepth 20000 in
theorem ggX7_leastTotal_X6_leastOf : GoodIn wsX7_leastTotal wsX6_leastOf := goodIn_ca (goodIn_r _ [116, 64, 65, 117, 118, 119, 19, 120, 66, 128, 129, 130, 131, 132, 133, 134, 135, 136, 137, 138, 139, 140] (by decide +kernel) (by decide +kernel)) (goodIn_sub (fun _ h => List.mem_cons_of_mem _ (List.mem_append_left _ (List.mem_append_right _ h))) (by decide +kernel))
set_option maxRecDepth 20000 in
theorem gX7_leastTotal_X6_leastOf : GoodIn wsX7_leastTotal (wsV RX7 287 RX6 yX6_leastOf wsX6_leastOf) := goodIn_app (goodIn_of _ (by decide +kernel)) ggX7_leastTotal_X6_leastOf
theorem dX7_leastTotal_12 : decode cX7_leastTotal 12 = .ok (.ireturn, 1) := by decide +kernel
set_option maxHeartbeats 4000000 in
set_option maxRecDepth 100000 in
theorem k_X7_leastTotal (l : Launch) (D : va_G) (cy : Nat → ClassId) (h1 : Nat) (h2 : Nat) (h3 : Nat) (x4 : Value) (h5 : Nat) (x6 : Value) (x7 : Value) (x8 : Value) (x9 : Value) (x10 : Value) (x11 : Value) (x12 : Value) (x13 : Value) (x14 : Value) (x15 : Value) (x16 : Value) (x17 : Value) (h18 : Nat) (h19 : Nat) (x20 : Value) (x21 : Value) (x22 : Value) (x23 : Value) (h24 : Nat) (g25 : Nat → Int32) (kg25_0 : g25 0 = 0) (g26 : Nat → Int32) (x27 : Value) (x28 : Value) (x29 : Value) (sz : Nat) : Met l yX7_leastTotal wsX7_leastTotal ({ frames := 3, cells := 0, slots := 0, locals := 67 }) (kW D cy [.ref h1] [(h1, .inr (9, [.ref h2, .ref h3, x4, .ref h5, x6, x7, x8])), (h2, .inr (2, [x9, x10, x11, .int 0])), (h3, .inr (5, [x12, x13, .int 0])), (h5, .inr (8, [x14, x15, x16, x17, .ref h18, .ref h19, x20, x21, x22, x23, .ref h24, .int 0, .int 0])), (h18, .inl (cy 1, 1000, .inl g25)), (h19, .inl (cy 1, 1000, .inl g26)), (h24, .inr (5, [x27, x28, x29]))] sz) (va_Qi (fun (r : Int32) (_ : Unit) => r = 0 ∧ True) (fun (_ : Unit) (t : State) => va_P D vwCl [(h1, .inr (9, [.ref h2, .ref h3, x4, .ref h5, x6, x7, x8])), (h2, .inr (2, [x9, x10, x11, .int 0])), (h3, .inr (5, [x12, x13, .int 0])), (h5, .inr (8, [x14, x15, x16, x17, .ref h18, .ref h19, x20, x21, x22, x23, .ref h24, .int 1, .int 1])), (h18, .inl (cy 1, 1000, .inl (upd g25 0 0))), (h19, .inl (cy 1, 1000, .inl (upd g26 0 0))), (h24, .inr (5, [x27, x28, .int 0]))] t.heap ∧ va_D (va_A [(h1, .inr (9, [.ref h2, .ref h3, x4, .ref h5, x6, x7, x8])), (h2, .inr (2, [x9, x10, x11, .int 0])), (h3, .inr (5, [x12, x13, .int 0])), (h5, .inr (8, [x14, x15, x16, x17, .ref h18, .ref h19, x20, x21, x22, x23, .ref h24, .int 0, .int 0])), (h18, .inl (cy 1, 1000, .inl g25)), (h19, .inl (cy 1, 1000, .inl g26)), (h24, .inr (5, [x27, x28, x29]))] sz) [(h1, .inr (9, [.ref h2, .ref h3, x4, .ref h5, x6, x7, x8])), (h2, .inr (2, [x9, x10, x11, .int 0])), (h3, .inr (5, [x12, x13, .int 0])), (h5, .inr (8, [x14, x15, x16, x17, .ref h18, .ref h19, x20, x21, x22, x23, .ref h24, .int 1, .int 1])), (h18, .inl (cy 1, 1000, .inl (upd g25 0 0))), (h19, .inl (cy 1, 1000, .inl (upd g26 0 0))), (h24, .inr (5, [x27, x28, .int 0]))]) (va_A [(h1, .inr (9, [.ref h2, .ref h3, x4, .ref h5, x6, x7, x8])), (h2, .inr (2, [x9, x10, x11, .int 0])), (h3, .inr (5, [x12, x13, .int 0])), (h5, .inr (8, [x14, x15, x16, x17, .ref h18, .ref h19, x20, x21, x22, x23, .ref h24, .int 0, .int 0])), (h18, .inl (cy 1, 1000, .inl g25)), (h19, .inl (cy 1, 1000, .inl g26)), (h24, .inr (5, [x27, x28, x29]))] sz)) 0 0 (va_A [(h1, .inr (9, [.ref h2, .ref h3, x4, .ref h5, x6, x7, x8])), (h2, .inr (2, [x9, x10, x11, .int 0])), (h3, .inr (5, [x12, x13, .int 0])), (h5, .inr (8, [x14, x15, x16, x17, .ref h18, .ref h19, x20, x21, x22, x23, .ref h24, .int 0, .int 0])), (h18, .inl (cy 1, 1000, .inl g25)), (h19, .inl (cy 1, 1000, .inl g26)), (h24, .inr (5, [x27, x28, x29]))] sz) := by
  refine Met.ofW (cc := cX7_leastTotal) (maxL := 1) (ret := (some .int)) (by decide) rfl ?_
  intro p e s m args below meth c s₁ B hml hv
  obtain ⟨rfl, hsz, hP, hK, hD0⟩ := hv
  have hx := B.exec
  have hb := B.bytes
  have hr := B.returns
  have hts := atoms_spec (ws := wsX7_leastTotal) B.pre
  have hown : s.vm.findClass RX7 = some m.cls := findClass_of_methodNamed B.named
  have hlocks := B.notSynchronized
  subst hsz
  have hD := hD0.self (sz := s.heap.size)
  generalize hAe : va_A [(h1, .inr (9, [.ref h2, .ref h3, x4, .ref h5, x6, x7, x8])), (h2, .inr (2, [x9, x10, x11, .int 0])), (h3, .inr (5, [x12, x13, .int 0])), (h5, .inr (8, [x14, x15, x16, x17, .ref h18, .ref h19, x20, x21, x22, x23, .ref h24, .int 0, .int 0])), (h18, .inl (cy 1, 1000, .inl g25)), (h19, .inl (cy 1, 1000, .inl g26)), (h24, .inr (5, [x27, x28, x29]))] s.heap.size = A at hD ⊢
  have hA : ∀ q : Nat, s.heap.size ≤ q → A q := fun q h => by rw [← hAe]; exact Or.inr h
  have hS : va_S A s.heap s.heap [] := va_S.rf
  have hP : va_P D vwCl [(h1, .inr (9, [.ref h2, .ref h3, x4, .ref h5, x6, x7, x8])), (h2, .inr (2, [x9, x10, x11, .int 0])), (h3, .inr (5, [x12, x13, .int 0])), (h5, .inr (8, [x14, x15, x16, x17, .ref h18, .ref h19, x20, x21, x22, x23, .ref h24, .int 0, .int 0])), (h18, .inl (cy 1, 1000, .inl g25)), (h19, .inl (cy 1, 1000, .inl g26)), (h24, .inr (5, [x27, x28, x29]))] s.heap := hP
  have hl := lv_entry ([.ref h1]) (n := 1) (Nat.le_of_ble_eq_true rfl)
  rw [lg_entry_eq]
  generalize (lg_sl ([.ref h1]) ++ List.replicate (1 - (lg_sl ([.ref h1])).length) Slot.unset).toArray = ls at hl ⊢
  have hl : lv_has ls 1 [(0, .ref h1)] := hl
  refine lv_aload_n hx hb dX7_leastTotal_0 rfl (lv_at hl 0 rfl) ?_
  have hPc := hP.sub (ws' := [(h1, .inr (9, [.ref h2, .ref h3, x4, .ref h5, x6, x7, x8])), (h2, .inr (2, [x9, x10, x11, .int 0])), (h3, .inr (5, [x12, x13, .int 0])), (h5, .inr (8, [x14, x15, x16, x17, .ref h18, .ref h19, x20, x21, x22, x23, .ref h24, .int 0, .int 0])), (h18, .inl (cy 1, 1000, .inl g25)), (h19, .inl (cy 1, 1000, .inl g26)), (h24, .inr (5, [x27, x28, x29]))]) [0, 1, 2, 3, 4, 5, 6] rfl
  have hDc := hD.sub (ws' := [(h1, .inr (9, [.ref h2, .ref h3, x4, .ref h5, x6, x7, x8])), (h2, .inr (2, [x9, x10, x11, .int 0])), (h3, .inr (5, [x12, x13, .int 0])), (h5, .inr (8, [x14, x15, x16, x17, .ref h18, .ref h19, x20, x21, x22, x23, .ref h24, .int 0, .int 0])), (h18, .inl (cy 1, 1000, .inl g25)), (h19, .inl (cy 1, 1000, .inl g26)), (h24, .inr (5, [x27, x28, x29]))]) [0, 1, 2, 3, 4, 5, 6] (by decide) rfl
  have hFc := va_free (wc := [(h1, .inr (9, [.ref h2, .ref h3, x4, .ref h5, x6, x7, x8])), (h2, .inr (2, [x9, x10, x11, .int 0])), (h3, .inr (5, [x12, x13, .int 0])), (h5, .inr (8, [x14, x15, x16, x17, .ref h18, .ref h19, x20, x21, x22, x23, .ref h24, .int 0, .int 0])), (h18, .inl (cy 1, 1000, .inl g25)), (h19, .inl (cy 1, 1000, .inl g26)), (h24, .inr (5, [x27, x28, x29]))]) hD hS hA [0, 1, 2, 3, 4, 5, 6] rfl
  refine va_callv (va_runV (As := []) (rest := []) ⟨hx, hb, hml, hown, hts⟩ (k_X7_lookAtPlays l D cy h1 h2 h3 (x4) h5 (x6) (x7) (x8) (x9) (x10) (x11) (x12) (x13) (x14) (x15) (x16) (x17) h18 h19 (x20) (x21) (x22) (x23) h24 g25 g26 (x27) (x28) (x29) s.heap.size) (cwV 0 hts gX7_leastTotal_X7_lookAtPlays rfl rfl rfl (by decide +kernel) ⟨(Nat.le_of_ble_eq_true rfl), (Nat.le_of_ble_eq_true rfl)⟩) ⟨kW_fb, va_recv hK hP (ci := 9) (q0 := 0) rfl rfl, (kW_go hPc hK hDc)⟩ rfl rfl hl.1 rfl (lv_room (Nat.le_of_ble_eq_true rfl)) dX7_leastTotal_1 ⟨(Nat.le_of_ble_eq_true rfl), (Nat.le_of_ble_eq_true rfl)⟩) hS (fun q _ h => hFc q h) hFc (fun u t H locs ht hvm hw hB hz1 hk1 hS => ?_)
  obtain ⟨hP1, hD1⟩ := hB
  rw [ht] at hP1
  try dsimp only at hw hP1 hD1
  obtain ⟨hP, hD⟩ := va_join (wr := []) (w1 := [(h1, .inr (9, [.ref h2, .ref h3, x4, .ref h5, x6, x7, x8])), (h2, .inr (2, [x9, x10, x11, .int 0])), (h3, .inr (5, [x12, x13, .int 0])), (h5, .inr (8, [x14, x15, x16, x17, .ref h18, .ref h19, x20, x21, x22, x23, .ref h24, .int 1, .int 1])), (h18, .inl (cy 1, 1000, .inl (upd g25 0 0))), (h19, .inl (cy 1, 1000, .inl (upd g26 0 0))), (h24, .inr (5, [x27, x28, .int 0]))]) hP hD [0, 1, 2, 3, 4, 5, 6] [] rfl rfl (by decide) (by decide) hk1 hFc hP1 hD1
  have hP : va_P D vwCl [(h1, .inr (9, [.ref h2, .ref h3, x4, .ref h5, x6, x7, x8])), (h2, .inr (2, [x9, x10, x11, .int 0])), (h3, .inr (5, [x12, x13, .int 0])), (h5, .inr (8, [x14, x15, x16, x17, .ref h18, .ref h19, x20, x21, x22, x23, .ref h24, .int 1, .int 1])), (h18, .inl (cy 1, 1000, .inl (upd g25 0 0))), (h19, .inl (cy 1, 1000, .inl (upd g26 0 0))), (h24, .inr (5, [x27, x28, .int 0]))] H := hP
  have hD : va_D A [(h1, .inr (9, [.ref h2, .ref h3, x4, .ref h5, x6, x7, x8])), (h2, .inr (2, [x9, x10, x11, .int 0])), (h3, .inr (5, [x12, x13, .int 0])), (h5, .inr (8, [x14, x15, x16, x17, .ref h18, .ref h19, x20, x21, x22, x23, .ref h24, .int 1, .int 1])), (h18, .inl (cy 1, 1000, .inl (upd g25 0 0))), (h19, .inl (cy 1, 1000, .inl (upd g26 0 0))), (h24, .inr (5, [x27, x28, .int 0]))] := hD
  refine lv_aload_n hx hb dX7_leastTotal_4 rfl (lv_at hl 0 rfl) ?_
  refine va_get (D := D) (ci := 9) (v := .ref h5) (C := RX7) (T := TX7) (N := 7) hx hb hts (fun _ h => (List.mem_cons_of_mem _ (List.mem_append_left _ (List.mem_append_left _ (List.mem_append_left _ (List.mem_append_left _ (List.mem_append_left _ (List.mem_append_left _ (List.mem_append_left _ (List.mem_append_left _ (List.mem_append_right _ h))))))))))) hown hK hP 0 rfl rfl 3 (by decide) (hts (.fieldLink RX7 29 "SelfishJunction" "survey" "LSelfishJunction$Survey;") (List.mem_cons_of_mem _ (List.mem_append_left _ (List.mem_append_left _ (List.mem_append_left _ (List.mem_append_left _ (List.mem_append_left _ (List.mem_append_left _ (List.mem_append_left _ (List.mem_append_left _ (List.mem_append_left _ (List.mem_append_left _ (List.mem_of_getElem? (i := 0) rfl))))))))))))) (fun _ h9 => h9) rfl dX7_leastTotal_5 ?_
  refine lv_iconst (v := 0) hx hb dX7_leastTotal_8 (by decide) ?_
  have hPc := hP.sub (ws' := [(h5, .inr (8, [x14, x15, x16, x17, .ref h18, .ref h19, x20, x21, x22, x23, .ref h24, .int 1, .int 1])), (h18, .inl (cy 1, 1000, .inl (upd g25 0 0)))]) [3, 4] rfl
  refine va_calli (va_runV (As := [.int 0]) (rest := []) ⟨hx, hb, hml, hown, hts⟩ (k_X6_leastOf_1 l D cy h5 (x14) (x15) (x16) (x17) h18 (.ref h19) (x20) (x21) (x22) (x23) (.ref h24) (.int 1) (upd g25 0 0) (rfl)) (cwV 1 hts gX7_leastTotal_X6_leastOf rfl rfl rfl (by decide +kernel) ⟨(Nat.le_of_ble_eq_true rfl), (Nat.le_of_ble_eq_true rfl)⟩) ⟨kR_fb, va_recv hK hP (ci := 8) (q0 := 3) rfl rfl, (kR_go hPc hK)⟩ rfl rfl hl.1 rfl (lv_room (Nat.le_of_ble_eq_true rfl)) dX7_leastTotal_9 ⟨(Nat.le_of_ble_eq_true rfl), (Nat.le_of_ble_eq_true rfl)⟩) hS (fun _ _ h => h.elim) (fun _ h => h.elim) (fun r9 u t H locs ht hvm hw hB hz1 hk1 hS => ?_)
  have hP := kx_kept hP hk1
  obtain ⟨rfl, hw⟩ := hw
  refine W.widen (k := 0) (n := 0) (Nat.le_of_ble_eq_true rfl) (Nat.le_of_ble_eq_true rfl) ?_
  have hP9 := hP.sub (ws' := [(h1, .inr (9, [.ref h2, .ref h3, x4, .ref h5, x6, x7, x8])), (h2, .inr (2, [x9, x10, x11, .int 0])), (h3, .inr (5, [x12, x13, .int 0])), (h5, .inr (8, [x14, x15, x16, x17, .ref h18, .ref h19, x20, x21, x22, x23, .ref h24, .int 1, .int 1])), (h18, .inl (cy 1, 1000, .inl (upd g25 0 0))), (h19, .inl (cy 1, 1000, .inl (upd g26 0 0))), (h24, .inr (5, [x27, x28, .int 0]))]) [0, 1, 2, 3, 4, 5, 6] rfl
  have hD9 := hD.sub (ws' := [(h1, .inr (9, [.ref h2, .ref h3, x4, .ref h5, x6, x7, x8])), (h2, .inr (2, [x9, x10, x11, .int 0])), (h3, .inr (5, [x12, x13, .int 0])), (h5, .inr (8, [x14, x15, x16, x17, .ref h18, .ref h19, x20, x21, x22, x23, .ref h24, .int 1, .int 1])), (h18, .inl (cy 1, 1000, .inl (upd g25 0 0))), (h19, .inl (cy 1, 1000, .inl (upd g26 0 0))), (h24, .inr (5, [x27, x28, .int 0]))]) [0, 1, 2, 3, 4, 5, 6] (by decide) rfl
  exact W.iret (v := 0) hx hb hr (fun t ht hW => ⟨⟨0, (), rfl, ⟨rfl, trivial⟩, ⟨by rw [ht]; exact hP9, hD9⟩⟩, hS.F ht⟩) hS.2.2 dX7_leastTotal_12
theorem dL_leastTotal_0 : decode cL_leastTotal 0 = .ok (.aload_n 1, 1) := by decide +kernel
theorem dL_leastTotal_1 : decode cL_leastTotal 1 = .ok (.iconst 0, 1) := by decide +kernel
theorem dL_leastTotal_2 : decode cL_leastTotal 2 = .ok (.aload_n 0, 1) := by decide +kernel
theorem dL_leastTotal_3 : decode cL_leastTotal 3 = .ok (.invokevirtual 102, 3) := by decide +kernel
set_option maxRecDepth 20000 in
theorem ggL_leastTotal_X7_leastTotal : GoodIn wsL_leastTotal wsX7_leastTotal := goodIn_ca (goodIn_ca (goodIn_ca (goodIn_r _ [6, 7, 8, 9, 10, 5, 11, 12, 13, 14, 15, 16, 17, 18, 19, 20, 21, 22, 23, 24, 25, 26, 27, 28, 29, 30, 31, 32, 33, 34, 35, 36, 37, 38, 39, 40, 41, 42, 43, 44, 45, 46, 47, 48, 49, 50, 51, 52, 53, 54, 55, 56, 57, 58, 59, 60, 61, 62, 63, 64, 65, 66, 67, 68, 69, 70, 71, 72, 73, 74, 75, 76, 77, 78, 79, 80, 81, 82, 83, 84, 85, 86, 87, 88, 89, 90, 91, 92, 93, 94, 95, 96, 97, 98, 99, 100, 101, 102, 103, 104, 105, 106, 107, 108, 109, 110, 111, 112, 113, 114, 115, 116, 117, 118, 119, 120, 121, 122, 123, 124, 125, 126, 127, 128, 129, 130, 131, 132, 133, 134, 135, 136, 137, 138, 139, 140, 141, 142, 143, 144, 145, 146, 147, 148, 149, 150, 151, 152, 153, 154, 155, 156, 157, 158, 159, 160, 161, 162, 163, 164, 165] (by decide +kernel) (by decide +kernel)) (goodIn_sub (fun _ h => List.mem_cons_of_mem _ (List.mem_append_left _ (List.mem_append_right _ h))) (by decide +kernel))) (goodIn_sub (fun _ h => List.mem_cons_of_mem _ (List.mem_append_left _ (List.mem_append_left _ (List.mem_append_right _ h)))) (by decide +kernel))) (goodIn_sub (fun _ h => List.mem_cons_of_mem _ (List.mem_append_right _ h)) (by decide +kernel))
set_option maxRecDepth 20000 in
theorem gL_leastTotal_X7_leastTotal : GoodIn wsL_leastTotal (wsV RL 102 RX7 yX7_leastTotal wsX7_leastTotal) := goodIn_app (goodIn_of _ (by decide +kernel)) ggL_leastTotal_X7_leastTotal
theorem dL_leastTotal_6 : decode cL_leastTotal 6 = .ok (.i2l, 1) := by decide +kernel
theorem dL_leastTotal_7 : decode cL_leastTotal 7 = .ok (.lastore, 1) := by decide +kernel
theorem dL_leastTotal_8 : decode cL_leastTotal 8 = .ok (.goto 6, 3) := by decide +kernel
theorem dL_leastTotal_14 : decode cL_leastTotal 14 = .ok (.iconst 0, 1) := by decide +kernel
theorem dL_leastTotal_15 : decode cL_leastTotal 15 = .ok (.ireturn, 1) := by decide +kernel
set_option maxHeartbeats 4000000 in
set_option maxRecDepth 100000 in
theorem k_L_leastTotal (l : Launch) (D : va_G) (cy : Nat → ClassId) (h1 : Nat) (h2 : Nat) (h3 : Nat) (h4 : Nat) (x5 : Value) (h6 : Nat) (x7 : Value) (x8 : Value) (x9 : Value) (g10 : Nat → Int64) (x11 : Value) (x12 : Value) (x13 : Value) (x14 : Value) (x15 : Value) (x16 : Value) (x17 : Value) (x18 : Value) (x19 : Value) (h20 : Nat) (h21 : Nat) (x22 : Value) (x23 : Value) (x24 : Value) (x25 : Value) (h26 : Nat) (g27 : Nat → Int32) (kg27_0 : g27 0 = 0) (g28 : Nat → Int32) (x29 : Value) (x30 : Value) (x31 : Value) (sz : Nat) : Met l yL_leastTotal wsL_leastTotal ({ frames := 4, cells := 0, slots := 0, locals := 87 }) (kW D cy [.ref h1, .ref h2] [(h1, .inr (9, [.ref h3, .ref h4, x5, .ref h6, x7, x8, x9])), (h2, .inl (cy 2, 1, .inr (.inl g10))), (h3, .inr (2, [x11, x12, x13, .int 0])), (h4, .inr (5, [x14, x15, .int 0])), (h6, .inr (8, [x16, x17, x18, x19, .ref h20, .ref h21, x22, x23, x24, x25, .ref h26, .int 0, .int 0])), (h20, .inl (cy 1, 1000, .inl g27)), (h21, .inl (cy 1, 1000, .inl g28)), (h26, .inr (5, [x29, x30, x31]))] sz) (va_Qi (fun (r : Int32) (_ : Unit) => r = 0 ∧ True) (fun (_ : Unit) (t : State) => va_P D vwCl [(h2, .inl (cy 2, 1, .inr (.inl (vp_updL g10 0 0))))] t.heap ∧ va_D (va_A [(h1, .inr (9, [.ref h3, .ref h4, x5, .ref h6, x7, x8, x9])), (h2, .inl (cy 2, 1, .inr (.inl g10))), (h3, .inr (2, [x11, x12, x13, .int 0])), (h4, .inr (5, [x14, x15, .int 0])), (h6, .inr (8, [x16, x17, x18, x19, .ref h20, .ref h21, x22, x23, x24, x25, .ref h26, .int 0, .int 0])), (h20, .inl (cy 1, 1000, .inl g27)), (h21, .inl (cy 1, 1000, .inl g28)), (h26, .inr (5, [x29, x30, x31]))] sz) [(h2, .inl (cy 2, 1, .inr (.inl (vp_updL g10 0 0))))]) (va_A [(h1, .inr (9, [.ref h3, .ref h4, x5, .ref h6, x7, x8, x9])), (h2, .inl (cy 2, 1, .inr (.inl g10))), (h3, .inr (2, [x11, x12, x13, .int 0])), (h4, .inr (5, [x14, x15, .int 0])), (h6, .inr (8, [x16, x17, x18, x19, .ref h20, .ref h21, x22, x23, x24, x25, .ref h26, .int 0, .int 0])), (h20, .inl (cy 1, 1000, .inl g27)), (h21, .inl (cy 1, 1000, .inl g28)), (h26, .inr (5, [x29, x30, x31]))] sz)) 0 0 (va_A [(h1, .inr (9, [.ref h3, .ref h4, x5, .ref h6, x7, x8, x9])), (h2, .inl (cy 2, 1, .inr (.inl g10))), (h3, .inr (2, [x11, x12, x13, .int 0])), (h4, .inr (5, [x14, x15, .int 0])), (h6, .inr (8, [x16, x17, x18, x19, .ref h20, .ref h21, x22, x23, x24, x25, .ref h26, .int 0, .int 0])), (h20, .inl (cy 1, 1000, .inl g27)), (h21, .inl (cy 1, 1000, .inl g28)), (h26, .inr (5, [x29, x30, x31]))] sz) := by
  refine va_MetW (cc := cL_leastTotal) (maxL := 3) (ret := (some .int)) (by decide) rfl ?_
  intro p e s m args below meth c s₁ B hml hv
  obtain ⟨rfl, hsz, hP, hK, hD0⟩ := hv
  have hx := B.exec
  have hb := B.bytes
  have hr := B.returns
  have hts := atoms_spec (ws := wsL_leastTotal) B.pre
  have hown : s.vm.findClass RL = some m.cls := findClass_of_methodNamed B.named
  have hlocks := B.notSynchronized
  have htb := vx_table (x := yL_leastTotal) B (hts _ (List.mem_cons_self))
  subst hsz
  have hD := hD0.self (sz := s.heap.size)
  generalize hAe : va_A [(h1, .inr (9, [.ref h3, .ref h4, x5, .ref h6, x7, x8, x9])), (h2, .inl (cy 2, 1, .inr (.inl g10))), (h3, .inr (2, [x11, x12, x13, .int 0])), (h4, .inr (5, [x14, x15, .int 0])), (h6, .inr (8, [x16, x17, x18, x19, .ref h20, .ref h21, x22, x23, x24, x25, .ref h26, .int 0, .int 0])), (h20, .inl (cy 1, 1000, .inl g27)), (h21, .inl (cy 1, 1000, .inl g28)), (h26, .inr (5, [x29, x30, x31]))] s.heap.size = A at hD ⊢
  have hA : ∀ q : Nat, s.heap.size ≤ q → A q := fun q h => by rw [← hAe]; exact Or.inr h
  have hS : va_S A s.heap s.heap [] := va_S.rf
  have hP : va_P D vwCl [(h1, .inr (9, [.ref h3, .ref h4, x5, .ref h6, x7, x8, x9])), (h2, .inl (cy 2, 1, .inr (.inl g10))), (h3, .inr (2, [x11, x12, x13, .int 0])), (h4, .inr (5, [x14, x15, .int 0])), (h6, .inr (8, [x16, x17, x18, x19, .ref h20, .ref h21, x22, x23, x24, x25, .ref h26, .int 0, .int 0])), (h20, .inl (cy 1, 1000, .inl g27)), (h21, .inl (cy 1, 1000, .inl g28)), (h26, .inr (5, [x29, x30, x31]))] s.heap := hP
  have hl := lv_entry ([.ref h1, .ref h2]) (n := 3) (Nat.le_of_ble_eq_true rfl)
  rw [lg_entry_eq]
  generalize (lg_sl ([.ref h1, .ref h2]) ++ List.replicate (3 - (lg_sl ([.ref h1, .ref h2])).length) Slot.unset).toArray = ls at hl ⊢
  have hl : lv_has ls 3 [(0, .ref h1), (1, .ref h2)] := hl
  refine lv_aload_n hx hb dL_leastTotal_0 rfl (lv_at hl 1 rfl) ?_
  refine lv_iconst (v := 0) hx hb dL_leastTotal_1 (by decide) ?_
  refine lv_aload_n hx hb dL_leastTotal_2 rfl (lv_at hl 0 rfl) ?_
  have hPc := hP.sub (ws' := [(h1, .inr (9, [.ref h3, .ref h4, x5, .ref h6, x7, x8, x9])), (h3, .inr (2, [x11, x12, x13, .int 0])), (h4, .inr (5, [x14, x15, .int 0])), (h6, .inr (8, [x16, x17, x18, x19, .ref h20, .ref h21, x22, x23, x24, x25, .ref h26, .int 0, .int 0])), (h20, .inl (cy 1, 1000, .inl g27)), (h21, .inl (cy 1, 1000, .inl g28)), (h26, .inr (5, [x29, x30, x31]))]) [0, 2, 3, 4, 5, 6, 7] rfl
  have hDc := hD.sub (ws' := [(h1, .inr (9, [.ref h3, .ref h4, x5, .ref h6, x7, x8, x9])), (h3, .inr (2, [x11, x12, x13, .int 0])), (h4, .inr (5, [x14, x15, .int 0])), (h6, .inr (8, [x16, x17, x18, x19, .ref h20, .ref h21, x22, x23, x24, x25, .ref h26, .int 0, .int 0])), (h20, .inl (cy 1, 1000, .inl g27)), (h21, .inl (cy 1, 1000, .inl g28)), (h26, .inr (5, [x29, x30, x31]))]) [0, 2, 3, 4, 5, 6, 7] (by decide) rfl
  have hFc := va_free (wc := [(h1, .inr (9, [.ref h3, .ref h4, x5, .ref h6, x7, x8, x9])), (h3, .inr (2, [x11, x12, x13, .int 0])), (h4, .inr (5, [x14, x15, .int 0])), (h6, .inr (8, [x16, x17, x18, x19, .ref h20, .ref h21, x22, x23, x24, x25, .ref h26, .int 0, .int 0])), (h20, .inl (cy 1, 1000, .inl g27)), (h21, .inl (cy 1, 1000, .inl g28)), (h26, .inr (5, [x29, x30, x31]))]) hD hS hA [0, 2, 3, 4, 5, 6, 7] rfl
  refine va_calli (va_runV (As := []) (rest := [.int 0, .ref h2]) ⟨hx, hb, hml, hown, hts⟩ (k_X7_leastTotal l D cy h1 h3 h4 (x5) h6 (x7) (x8) (x9) (x11) (x12) (x13) (x14) (x15) (x16) (x17) (x18) (x19) h20 h21 (x22) (x23) (x24) (x25) h26 g27 (kg27_0) g28 (x29) (x30) (x31) s.heap.size) (cwV 0 hts gL_leastTotal_X7_leastTotal rfl rfl rfl (by decide +kernel) ⟨(Nat.le_of_ble_eq_true rfl), (Nat.le_of_ble_eq_true rfl)⟩) ⟨kW_fb, va_recv hK hP (ci := 9) (q0 := 0) rfl rfl, (kW_go hPc hK hDc)⟩ rfl rfl hl.1 rfl (lv_room (Nat.le_of_ble_eq_true rfl)) dL_leastTotal_3 ⟨(Nat.le_of_ble_eq_true rfl), (Nat.le_of_ble_eq_true rfl)⟩) hS (fun q _ h => hFc q h) hFc (fun r9 u t H locs ht hvm hw hB hz1 hk1 hS => ?_)
  obtain ⟨hP1, hD1⟩ := hB
  rw [ht] at hP1
  try dsimp only at hw hP1 hD1
  obtain ⟨hP, hD⟩ := va_join (wr := [(h2, .inl (cy 2, 1, .inr (.inl g10)))]) (w1 := [(h1, .inr (9, [.ref h3, .ref h4, x5, .ref h6, x7, x8, x9])), (h3, .inr (2, [x11, x12, x13, .int 0])), (h4, .inr (5, [x14, x15, .int 0])), (h6, .inr (8, [x16, x17, x18, x19, .ref h20, .ref h21, x22, x23, x24, x25, .ref h26, .int 1, .int 1])), (h20, .inl (cy 1, 1000, .inl (upd g27 0 0))), (h21, .inl (cy 1, 1000, .inl (upd g28 0 0))), (h26, .inr (5, [x29, x30, .int 0]))]) hP hD [0, 2, 3, 4, 5, 6, 7] [1] rfl rfl (by decide) (by decide) hk1 hFc hP1 hD1
  have hP : va_P D vwCl [(h2, .inl (cy 2, 1, .inr (.inl g10))), (h1, .inr (9, [.ref h3, .ref h4, x5, .ref h6, x7, x8, x9])), (h3, .inr (2, [x11, x12, x13, .int 0])), (h4, .inr (5, [x14, x15, .int 0])), (h6, .inr (8, [x16, x17, x18, x19, .ref h20, .ref h21, x22, x23, x24, x25, .ref h26, .int 1, .int 1])), (h20, .inl (cy 1, 1000, .inl (upd g27 0 0))), (h21, .inl (cy 1, 1000, .inl (upd g28 0 0))), (h26, .inr (5, [x29, x30, .int 0]))] H := hP
  have hD : va_D A [(h2, .inl (cy 2, 1, .inr (.inl g10))), (h1, .inr (9, [.ref h3, .ref h4, x5, .ref h6, x7, x8, x9])), (h3, .inr (2, [x11, x12, x13, .int 0])), (h4, .inr (5, [x14, x15, .int 0])), (h6, .inr (8, [x16, x17, x18, x19, .ref h20, .ref h21, x22, x23, x24, x25, .ref h26, .int 1, .int 1])), (h20, .inl (cy 1, 1000, .inl (upd g27 0 0))), (h21, .inl (cy 1, 1000, .inl (upd g28 0 0))), (h26, .inr (5, [x29, x30, .int 0]))] := hD
  obtain ⟨rfl, hw⟩ := hw
  refine lv_i2l (v := 0) hx hb dL_leastTotal_6 (by decide) ?_
  refine va_last hx hb hK hP hD hS 0 2 rfl rfl (kx_in 0 1 rfl ⟨(Nat.le_of_ble_eq_true rfl), (Nat.le_of_ble_eq_true rfl)⟩ (Nat.le_of_ble_eq_true rfl)) dL_leastTotal_7 (fun H locs hP hD hS => ?_)
  have hP : va_P D vwCl [(h2, .inl (cy 2, 1, .inr (.inl (vp_updL g10 0 0)))), (h1, .inr (9, [.ref h3, .ref h4, x5, .ref h6, x7, x8, x9])), (h3, .inr (2, [x11, x12, x13, .int 0])), (h4, .inr (5, [x14, x15, .int 0])), (h6, .inr (8, [x16, x17, x18, x19, .ref h20, .ref h21, x22, x23, x24, x25, .ref h26, .int 1, .int 1])), (h20, .inl (cy 1, 1000, .inl (upd g27 0 0))), (h21, .inl (cy 1, 1000, .inl (upd g28 0 0))), (h26, .inr (5, [x29, x30, .int 0]))] H := hP
  have hD : va_D A [(h2, .inl (cy 2, 1, .inr (.inl (vp_updL g10 0 0)))), (h1, .inr (9, [.ref h3, .ref h4, x5, .ref h6, x7, x8, x9])), (h3, .inr (2, [x11, x12, x13, .int 0])), (h4, .inr (5, [x14, x15, .int 0])), (h6, .inr (8, [x16, x17, x18, x19, .ref h20, .ref h21, x22, x23, x24, x25, .ref h26, .int 1, .int 1])), (h20, .inl (cy 1, 1000, .inl (upd g27 0 0))), (h21, .inl (cy 1, 1000, .inl (upd g28 0 0))), (h26, .inr (5, [x29, x30, .int 0]))] := hD
  refine lv_goto (tgt := 14) hx hb dL_leastTotal_8 (by decide) ?_
  refine lv_iconst (v := 0) hx hb dL_leastTotal_14 (by decide) ?_
  refine W.widen (k := 0) (n := 0) (Nat.le_of_ble_eq_true rfl) (Nat.le_of_ble_eq_true rfl) ?_
  have hP9 := hP.sub (ws' := [(h2, .inl (cy 2, 1, .inr (.inl (vp_updL g10 0 0))))]) [0] rfl
  have hD9 := hD.sub (ws' := [(h2, .inl (cy 2, 1, .inr (.inl (vp_updL g10 0 0))))]) [0] (by decide) rfl
  exact W.iret (v := 0) hx hb hr (fun t ht hW => ⟨⟨0, (), rfl, ⟨rfl, trivial⟩, ⟨by rw [ht]; exact hP9, hD9⟩⟩, hS.F ht⟩) hS.2.2 dL_leastTotal_15
theorem dX8_least_0 : decode cX8_least 0 = .ok (.ldc 246, 2) := by decide +kernel
theorem dX8_least_2 : decode cX8_least 2 = .ok (.istore_n 2, 1) := by decide +kernel
theorem dX8_least_3 : decode cX8_least 3 = .ok (.aload_n 1, 1) := by decide +kernel
theorem dX8_least_4 : decode cX8_least 4 = .ok (.invokevirtual 211, 3) := by decide +kernel
set_option maxRecDepth 20000 in
theorem ggX8_least_Jx4a65c_iterator_32c93 : GoodIn wsX8_least wsJx4a65c_iterator_32c93 := goodIn_r _ [11, 12, 13, 14, 15, 16, 17, 18, 19, 20, 21, 22, 23, 24, 25, 60, 61, 62, 63, 64, 65, 66] (by decide +kernel) (by decide +kernel)
set_option maxRecDepth 20000 in
theorem gX8_least_Jx4a65c_iterator_32c93 : GoodIn wsX8_least (wsV RX8 211 RJx4a65c yJx4a65c_iterator_32c93 wsJx4a65c_iterator_32c93) := goodIn_app (goodIn_of _ (by decide +kernel)) ggX8_least_Jx4a65c_iterator_32c93
theorem dX8_least_7 : decode cX8_least 7 = .ok (.astore_n 3, 1) := by decide +kernel
theorem dX8_least_8 : decode cX8_least 8 = .ok (.aload_n 3, 1) := by decide +kernel
theorem dX8_least_9 : decode cX8_least 9 = .ok (.invokeinterface 215 1, 5) := by decide +kernel
set_option maxRecDepth 20000 in
theorem ggX8_least_Jx35411_hasNext_aae02 : GoodIn wsX8_least wsJx35411_hasNext_aae02 := goodIn_r _ [29, 30, 18, 60, 61, 62, 63, 64, 65, 66] (by decide +kernel) (by decide +kernel)
set_option maxRecDepth 20000 in
theorem gX8_least_Jx35411_hasNext_aae02_f215Jx35411 : GoodIn wsX8_least (va_wsF RX8 215 RJx35411 ⟨"java/util/Iterator", "hasNext", "()Z"⟩ yJx35411_hasNext_aae02 wsJx35411_hasNext_aae02) := goodIn_app (goodIn_of _ (by decide +kernel)) ggX8_least_Jx35411_hasNext_aae02
theorem dX8_least_14 : decode cX8_least 14 = .ok (.ifCond .eq 28, 3) := by decide +kernel
theorem dX8_least_17 : decode cX8_least 17 = .ok (.aload_n 3, 1) := by decide +kernel
theorem dX8_least_18 : decode cX8_least 18 = .ok (.invokeinterface 220 1, 5) := by decide +kernel
set_option maxRecDepth 20000 in
theorem ggX8_least_Jx35411_next_0502b : GoodIn wsX8_least wsJx35411_next_0502b := goodIn_r _ [34, 30, 18, 35, 22, 36, 37, 38, 14, 39, 23, 24, 25, 60, 61, 62, 63, 64, 65, 66] (by decide +kernel) (by decide +kernel)
set_option maxRecDepth 20000 in
theorem gX8_least_Jx35411_next_0502b_f220Jx35411 : GoodIn wsX8_least (va_wsF RX8 220 RJx35411 ⟨"java/util/Iterator", "next", "()Ljava/lang/Object;"⟩ yJx35411_next_0502b wsJx35411_next_0502b) := goodIn_app (goodIn_of _ (by decide +kernel)) ggX8_least_Jx35411_next_0502b
theorem dX8_least_23 : decode cX8_least 23 = .ok (.checkcast 156, 3) := by decide +kernel
theorem dX8_least_26 : decode cX8_least 26 = .ok (.astore 4, 2) := by decide +kernel
theorem dX8_least_28 : decode cX8_least 28 = .ok (.iload_n 2, 1) := by decide +kernel
theorem dX8_least_29 : decode cX8_least 29 = .ok (.aload_n 0, 1) := by decide +kernel
theorem dX8_least_30 : decode cX8_least 30 = .ok (.aload 4, 2) := by decide +kernel
theorem dX8_least_32 : decode cX8_least 32 = .ok (.invokevirtual 170, 3) := by decide +kernel
set_option maxRecDepth 20000 in
theorem ggX8_least_X8_total : GoodIn wsX8_least wsX8_total := goodIn_ca (goodIn_ca (goodIn_r _ [44, 45, 46, 47, 48, 49, 50, 51, 43, 52, 53, 54, 55, 56, 57, 58, 59, 67, 68, 69, 70, 71, 72, 73, 74, 75, 76, 77, 78, 79, 80, 81, 82, 83, 84] (by decide +kernel) (by decide +kernel)) (goodIn_sub (fun _ h => List.mem_cons_of_mem _ (List.mem_append_left _ (List.mem_append_right _ h))) (by decide +kernel))) (goodIn_sub (fun _ h => List.mem_cons_of_mem _ (List.mem_append_right _ h)) (by decide +kernel))
set_option maxRecDepth 20000 in
theorem gX8_least_X8_total : GoodIn wsX8_least (wsV RX8 170 RX8 yX8_total wsX8_total) := goodIn_app (goodIn_of _ (by decide +kernel)) ggX8_least_X8_total
theorem dX8_least_35 : decode cX8_least 35 = .ok (.invokestatic 178, 3) := by decide +kernel
theorem dX8_least_38 : decode cX8_least 38 = .ok (.istore_n 2, 1) := by decide +kernel
theorem dX8_least_39 : decode cX8_least 39 = .ok (.goto (-31), 3) := by decide +kernel
theorem dX8_least_42 : decode cX8_least 42 = .ok (.iload_n 2, 1) := by decide +kernel
theorem dX8_least_43 : decode cX8_least 43 = .ok (.ireturn, 1) := by decide +kernel
set_option maxHeartbeats 4000000 in
set_option maxRecDepth 100000 in
theorem k_X8_least (l : Launch) (hl9 : l.stackTraces = false) (D : va_G) (cy : Nat → ClassId) (de : Nat) (h1 : Nat) (h2 : Nat) (x3 : Value) (x4 : Value) (x5 : Value) (x6 : Value) (x7 : Value) (x8 : Value) (x9 : Value) (x10 : Value) (x11 : Value) (x12 : Value) (x13 : Value) (x14 : Value) (x15 : Value) (x16 : Value) (x17 : Value) (x18 : Value) (x19 : Value) (h20 : Nat) (g21 : Nat → Option Nat) (h22 : Nat) (kg21_0 : g21 0 = some h22) (g23 : Nat → Int32) (sz : Nat) : Met l yX8_least wsX8_least ({ frames := 3, cells := 1, slots := 4, locals := 53 }) (kWY D cy de [.ref h1, .ref h2] [(h1, .inr (10, [x3, x4, x5, x6, x7, x8, x9, x10, x11, x12, x13, x14, x15, x16, x17, .int 0, x18, x19])), (h2, .inr (1, [.int 1, .ref h20, .int 1])), (h20, .inl (cy 7, 10, .inr (.inr (.inr (.inr g21))))), (h22, .inl (cy 1, 6, .inl g23))] sz) (va_Qi (fun (r : Int32) (_ : Unit) => r = 0 ∧ True) (fun (_ : Unit) (t : State) => va_P D vwCl [(h1, .inr (10, [x3, x4, x5, x6, x7, x8, x9, x10, x11, x12, x13, x14, x15, x16, x17, .int 0, x18, x19])), (h2, .inr (1, [.int 1, .ref h20, .int 1])), (h20, .inl (cy 7, 10, .inr (.inr (.inr (.inr g21))))), (h22, .inl (cy 1, 6, .inl g23))] t.heap ∧ va_D (va_A [(h1, .inr (10, [x3, x4, x5, x6, x7, x8, x9, x10, x11, x12, x13, x14, x15, x16, x17, .int 0, x18, x19])), (h2, .inr (1, [.int 1, .ref h20, .int 1])), (h20, .inl (cy 7, 10, .inr (.inr (.inr (.inr g21))))), (h22, .inl (cy 1, 6, .inl g23))] sz) [(h1, .inr (10, [x3, x4, x5, x6, x7, x8, x9, x10, x11, x12, x13, x14, x15, x16, x17, .int 0, x18, x19])), (h2, .inr (1, [.int 1, .ref h20, .int 1])), (h20, .inl (cy 7, 10, .inr (.inr (.inr (.inr g21))))), (h22, .inl (cy 1, 6, .inl g23))]) (va_A [(h1, .inr (10, [x3, x4, x5, x6, x7, x8, x9, x10, x11, x12, x13, x14, x15, x16, x17, .int 0, x18, x19])), (h2, .inr (1, [.int 1, .ref h20, .int 1])), (h20, .inl (cy 7, 10, .inr (.inr (.inr (.inr g21))))), (h22, .inl (cy 1, 6, .inl g23))] sz)) 1 4 (va_A [(h1, .inr (10, [x3, x4, x5, x6, x7, x8, x9, x10, x11, x12, x13, x14, x15, x16, x17, .int 0, x18, x19])), (h2, .inr (1, [.int 1, .ref h20, .int 1])), (h20, .inl (cy 7, 10, .inr (.inr (.inr (.inr g21))))), (h22, .inl (cy 1, 6, .inl g23))] sz) := by
  refine Met.ofW (cc := cX8_least) (maxL := 5) (ret := (some .int)) (by decide) rfl ?_
  intro p e s m args below meth c s₁ B hml hv
  obtain ⟨rfl, hsz, hP, hK, hD0, hE, hY⟩ := hv
  have hx := B.exec
  have hb := B.bytes
  have hr := B.returns
  have hts := atoms_spec (ws := wsX8_least) B.pre
  have hown : s.vm.findClass RX8 = some m.cls := findClass_of_methodNamed B.named
  have hlocks := B.notSynchronized
  subst hsz
  have hD := hD0.self (sz := s.heap.size)
  generalize hAe : va_A [(h1, .inr (10, [x3, x4, x5, x6, x7, x8, x9, x10, x11, x12, x13, x14, x15, x16, x17, .int 0, x18, x19])), (h2, .inr (1, [.int 1, .ref h20, .int 1])), (h20, .inl (cy 7, 10, .inr (.inr (.inr (.inr g21))))), (h22, .inl (cy 1, 6, .inl g23))] s.heap.size = A at hD hE hY ⊢
  have hA : ∀ q : Nat, s.heap.size ≤ q → A q := fun q h => by rw [← hAe]; exact Or.inr h
  have hS : va_S A s.heap s.heap [] := va_S.rf
  have hP : va_P D vwCl [(h1, .inr (10, [x3, x4, x5, x6, x7, x8, x9, x10, x11, x12, x13, x14, x15, x16, x17, .int 0, x18, x19])), (h2, .inr (1, [.int 1, .ref h20, .int 1])), (h20, .inl (cy 7, 10, .inr (.inr (.inr (.inr g21))))), (h22, .inl (cy 1, 6, .inl g23))] s.heap := hP
  have hl := lv_entry ([.ref h1, .ref h2]) (n := 5) (Nat.le_of_ble_eq_true rfl)
  rw [lg_entry_eq]
  generalize (lg_sl ([.ref h1, .ref h2]) ++ List.replicate (5 - (lg_sl ([.ref h1, .ref h2])).length) Slot.unset).toArray = ls at hl ⊢
  have hl : lv_has ls 5 [(0, .ref h1), (1, .ref h2)] := hl
  refine lv_ldc (v := 2147483647) hx hb hown (hts (.constant RX8 246 (2147483647)) (List.mem_cons_of_mem _ (List.mem_append_left _ (List.mem_append_left _ (List.mem_append_left _ (List.mem_append_left _ (List.mem_append_left _ (List.mem_append_left _ (List.mem_of_getElem? (i := 0) rfl))))))))) dX8_least_0 ?_
  refine lv_istore_n (lv' := [(2, .int 2147483647), (0, .ref h1), (1, .ref h2)]) hx hb dX8_least_2 rfl hl (by decide) rfl (fun ls hl => ?_)
  refine lv_aload_n hx hb dX8_least_3 rfl (lv_at hl 2 rfl) ?_
  have hPc := hP.sub (ws' := [(h2, .inr (1, [.int 1, .ref h20, .int 1]))]) [1] rfl
  have hDc := hD.sub (ws' := [(h2, .inr (1, [.int 1, .ref h20, .int 1]))]) [1] (by decide) rfl
  have hFc := va_free (wc := [(h2, .inr (1, [.int 1, .ref h20, .int 1]))]) hD hS hA [1] rfl
  refine va_callr (va_runV (As := []) (rest := []) ⟨hx, hb, hml, hown, hts⟩ (k_Jx4a65c_iterator_32c93 l D cy h2 (.ref h20) (.int 1) s.heap.size) (cwV 0 hts gX8_least_Jx4a65c_iterator_32c93 rfl rfl rfl (by decide +kernel) ⟨(Nat.le_of_ble_eq_true rfl), (Nat.le_of_ble_eq_true rfl)⟩) ⟨kW_fb, va_recv hK hP (ci := 1) (q0 := 1) rfl rfl, (kW_go hPc hK hDc)⟩ rfl rfl hl.1 rfl (lv_room (Nat.le_of_ble_eq_true rfl)) dX8_least_4 ⟨(Nat.le_of_ble_eq_true rfl), (Nat.le_of_ble_eq_true rfl)⟩) hS (fun q _ h => hFc q h) hFc (fun u r9 t H locs ht hvm hw hB hz1 hk1 hS => ?_)
  obtain ⟨z_1, rfl⟩ : ∃ z, z = u := ⟨_, rfl⟩
  obtain ⟨e9, hB⟩ := hB
  have e9 := e9.symm
  subst e9
  obtain ⟨hP1, hD1⟩ := hB
  rw [ht] at hP1
  try dsimp only at hw hP1 hD1
  obtain ⟨hP, hD⟩ := va_join (wr := [(h1, .inr (10, [x3, x4, x5, x6, x7, x8, x9, x10, x11, x12, x13, x14, x15, x16, x17, .int 0, x18, x19])), (h20, .inl (cy 7, 10, .inr (.inr (.inr (.inr g21))))), (h22, .inl (cy 1, 6, .inl g23))]) (w1 := [(h2, .inr (1, [.int 1, .ref h20, .int 1])), (z_1, .inr (0, [.int 0, .int (-1), .int 1, .ref h2]))]) hP hD [1] [0, 2, 3] rfl rfl (by decide) (by decide) hk1 hFc hP1 hD1
  have hP : va_P D vwCl [(h1, .inr (10, [x3, x4, x5, x6, x7, x8, x9, x10, x11, x12, x13, x14, x15, x16, x17, .int 0, x18, x19])), (h20, .inl (cy 7, 10, .inr (.inr (.inr (.inr g21))))), (h22, .inl (cy 1, 6, .inl g23)), (h2, .inr (1, [.int 1, .ref h20, .int 1])), (z_1, .inr (0, [.int 0, .int (-1), .int 1, .ref h2]))] H := hP
  have hD : va_D A [(h1, .inr (10, [x3, x4, x5, x6, x7, x8, x9, x10, x11, x12, x13, x14, x15, x16, x17, .int 0, x18, x19])), (h20, .inl (cy 7, 10, .inr (.inr (.inr (.inr g21))))), (h22, .inl (cy 1, 6, .inl g23)), (h2, .inr (1, [.int 1, .ref h20, .int 1])), (z_1, .inr (0, [.int 0, .int (-1), .int 1, .ref h2]))] := hD
  refine W.widen (k := 1) (n := 4) (Nat.le_of_ble_eq_true rfl) (Nat.le_of_ble_eq_true rfl) ?_
  refine lv_astore_n (lv' := [(3, .ref z_1), (2, .int 2147483647), (0, .ref h1), (1, .ref h2)]) hx hb dX8_least_7 rfl hl (by decide) rfl (fun ls hl => ?_)
  refine lv_aload_n hx hb dX8_least_8 rfl (lv_at hl 0 rfl) ?_
  have hPc := hP.sub (ws' := [(z_1, .inr (0, [.int 0, .int (-1), .int 1, .ref h2])), (h2, .inr (1, [.int 1, .ref h20, .int 1]))]) [4, 3] rfl
  refine va_callFi (va_runF (hK.1 0 _ rfl).2 (As := []) (rest := []) ⟨hx, hb, hml, hown, hts⟩ (k_Jx35411_hasNext_aae02 l hl9 D cy de z_1 (.int (-1)) (.int 1) h2 (.int 1) (.ref h20)) (va_cwF 0 hts gX8_least_Jx35411_hasNext_aae02_f215Jx35411 rfl rfl rfl hY.2.2.1 (by decide +kernel) ⟨(Nat.le_of_ble_eq_true rfl), (Nat.le_of_ble_eq_true rfl)⟩) ⟨kRY_fb, va_recv hK hP (ci := 0) (q0 := 4) rfl rfl, (kRY_go hPc hK hE hY hS)⟩ rfl rfl hl.1 rfl (lv_room (Nat.le_of_ble_eq_true rfl)) dX8_least_9 ⟨(Nat.le_of_ble_eq_true rfl), (Nat.le_of_ble_eq_true rfl)⟩) hS (fun _ _ h => h.elim) (fun _ h => h.elim) (fun r9 u t H locs ht hvm hw hB hz1 hk1 hS => ?_)
  have hP := kx_kept hP hk1
  obtain ⟨rfl, hw⟩ := hw
  refine lv_if_eq (tgt := 42) hx hb dX8_least_14 (by decide) (fun h => absurd h (by decide)) (fun _ => ?_)
  refine lv_aload_n hx hb dX8_least_17 rfl (lv_at hl 0 rfl) ?_
  have hPc := hP.sub (ws' := [(z_1, .inr (0, [.int 0, .int (-1), .int 1, .ref h2])), (h2, .inr (1, [.int 1, .ref h20, .int 1])), (h20, .inl (cy 7, 10, .inr (.inr (.inr (.inr g21)))))]) [4, 3, 1] rfl
  have hDc := hD.sub (ws' := [(z_1, .inr (0, [.int 0, .int (-1), .int 1, .ref h2])), (h2, .inr (1, [.int 1, .ref h20, .int 1])), (h20, .inl (cy 7, 10, .inr (.inr (.inr (.inr g21)))))]) [4, 3, 1] (by decide) rfl
  have hFc := va_free (wc := [(z_1, .inr (0, [.int 0, .int (-1), .int 1, .ref h2])), (h2, .inr (1, [.int 1, .ref h20, .int 1])), (h20, .inl (cy 7, 10, .inr (.inr (.inr (.inr g21)))))]) hD hS hA [4, 3, 1] rfl
  refine va_callFr (va_runF (hK.1 0 _ rfl).2 (As := []) (rest := []) ⟨hx, hb, hml, hown, hts⟩ (k_Jx35411_next_0502b l hl9 D cy de z_1 (.int (-1)) h2 h20 g21 h22 (kg21_0) H.size) (va_cwF 0 hts gX8_least_Jx35411_next_0502b_f220Jx35411 rfl rfl rfl hY.2.2.2.1 (by decide +kernel) ⟨(Nat.le_of_ble_eq_true rfl), (Nat.le_of_ble_eq_true rfl)⟩) ⟨kWY_fb, va_recv hK hP (ci := 0) (q0 := 4) rfl rfl, (kWY_go hPc hK hDc hFc hE hY hS)⟩ rfl rfl hl.1 rfl (lv_room (Nat.le_of_ble_eq_true rfl)) dX8_least_18 ⟨(Nat.le_of_ble_eq_true rfl), (Nat.le_of_ble_eq_true rfl)⟩) hS (fun q _ h => hFc q h) hFc (fun u r9 t H locs ht hvm hw hB hz1 hk1 hS => ?_)
  obtain ⟨e9, hB⟩ := hB
  have e9 := e9.symm
  subst e9
  obtain ⟨hP1, hD1⟩ := hB
  rw [ht] at hP1
  try dsimp only at hw hP1 hD1
  obtain ⟨hP, hD⟩ := va_join (wr := [(h1, .inr (10, [x3, x4, x5, x6, x7, x8, x9, x10, x11, x12, x13, x14, x15, x16, x17, .int 0, x18, x19])), (h22, .inl (cy 1, 6, .inl g23))]) (w1 := [(z_1, .inr (0, [.int 1, .int 0, .int 1, .ref h2])), (h2, .inr (1, [.int 1, .ref h20, .int 1])), (h20, .inl (cy 7, 10, .inr (.inr (.inr (.inr g21)))))]) hP hD [4, 3, 1] [0, 2] rfl rfl (by decide) (by decide) hk1 hFc hP1 hD1
  have hP : va_P D vwCl [(h1, .inr (10, [x3, x4, x5, x6, x7, x8, x9, x10, x11, x12, x13, x14, x15, x16, x17, .int 0, x18, x19])), (h22, .inl (cy 1, 6, .inl g23)), (z_1, .inr (0, [.int 1, .int 0, .int 1, .ref h2])), (h2, .inr (1, [.int 1, .ref h20, .int 1])), (h20, .inl (cy 7, 10, .inr (.inr (.inr (.inr g21)))))] H := hP
  have hD : va_D A [(h1, .inr (10, [x3, x4, x5, x6, x7, x8, x9, x10, x11, x12, x13, x14, x15, x16, x17, .int 0, x18, x19])), (h22, .inl (cy 1, 6, .inl g23)), (z_1, .inr (0, [.int 1, .int 0, .int 1, .ref h2])), (h2, .inr (1, [.int 1, .ref h20, .int 1])), (h20, .inl (cy 7, 10, .inr (.inr (.inr (.inr g21)))))] := hD
  refine va_castA hx hb hown (hts (.classLink RX8 156 "[I") (List.mem_cons_of_mem _ (List.mem_append_left _ (List.mem_append_left _ (List.mem_append_left _ (List.mem_append_left _ (List.mem_append_left _ (List.mem_append_left _ (List.mem_of_getElem? (i := 1) rfl))))))))) hP 1 rfl (va_nm_int (hK.2 1 _ rfl).2) dX8_least_23 ?_
  refine lv_astore (lv' := [(4, .ref h22), (3, .ref z_1), (2, .int 2147483647), (0, .ref h1), (1, .ref h2)]) hx hb dX8_least_26 hl (by decide) rfl (fun ls hl => ?_)
  refine lv_iload_n hx hb dX8_least_28 rfl (lv_at hl 2 rfl) ?_
  refine lv_aload_n hx hb dX8_least_29 rfl (lv_at hl 3 rfl) ?_
  refine lv_aload hx hb dX8_least_30 (lv_at hl 0 rfl) ?_
  have hPc := hP.sub (ws' := [(h1, .inr (10, [x3, x4, x5, x6, x7, x8, x9, x10, x11, x12, x13, x14, x15, x16, x17, .int 0, x18, x19]))]) [0] rfl
  refine va_calli (va_runV (As := [.ref h22]) (rest := [.int 2147483647]) ⟨hx, hb, hml, hown, hts⟩ (k_X8_total l D cy h1 h22 (x3) (x4) (x5) (x6) (x7) (x8) (x9) (x10) (x11) (x12) (x13) (x14) (x15) (x16) (x17) (x18) (x19)) (cwV 1 hts gX8_least_X8_total rfl rfl rfl (by decide +kernel) ⟨(Nat.le_of_ble_eq_true rfl), (Nat.le_of_ble_eq_true rfl)⟩) ⟨kR_fb, va_recv hK hP (ci := 10) (q0 := 0) rfl rfl, (kR_go hPc hK)⟩ rfl rfl hl.1 rfl (lv_room (Nat.le_of_ble_eq_true rfl)) dX8_least_32 ⟨(Nat.le_of_ble_eq_true rfl), (Nat.le_of_ble_eq_true rfl)⟩) hS (fun _ _ h => h.elim) (fun _ h => h.elim) (fun r9 u t H locs ht hvm hw hB hz1 hk1 hS => ?_)
  have hP := kx_kept hP hk1
  obtain ⟨rfl, hw⟩ := hw
  refine va_mmin hx hb (by rw [hml]; exact hl.1.symm) hown (hts (.methodLink RX8 178 Lib.Math.min.name) (List.mem_cons_of_mem _ (List.mem_append_left _ (List.mem_append_left _ (List.mem_append_left _ (List.mem_append_left _ (List.mem_append_left _ (List.mem_append_left _ (List.mem_of_getElem? (i := 2) rfl))))))))) (hts (.static Lib.Math.min.name) (List.mem_cons_of_mem _ (List.mem_append_left _ (List.mem_append_left _ (List.mem_append_left _ (List.mem_append_left _ (List.mem_append_left _ (List.mem_append_left _ (List.mem_of_getElem? (i := 3) rfl))))))))) (hts (.initialized "java/lang/Math") (List.mem_cons_of_mem _ (List.mem_append_left _ (List.mem_append_left _ (List.mem_append_left _ (List.mem_append_left _ (List.mem_append_left _ (List.mem_append_left _ (List.mem_of_getElem? (i := 4) rfl))))))))) (hts (.code Lib.Math.min.name Lib.Math.min.code 2 (some .int)) (List.mem_cons_of_mem _ (List.mem_append_left _ (List.mem_append_left _ (List.mem_append_left _ (List.mem_append_left _ (List.mem_append_left _ (List.mem_append_left _ (List.mem_of_getElem? (i := 5) rfl))))))))) (Nat.le_of_ble_eq_true rfl) (Nat.le_of_ble_eq_true rfl) (Nat.le_of_ble_eq_true rfl) (Nat.le_of_ble_eq_true rfl) dX8_least_35 ?_
  refine lv_topi (fun v_6 ev_6 => ?_)
  obtain rfl : v_6 = 0 := ev_6.trans (by decide)
  refine lv_istore_n (lv' := [(2, .int 0), (4, .ref h22), (3, .ref z_1), (0, .ref h1), (1, .ref h2)]) hx hb dX8_least_38 rfl hl (by decide) rfl (fun ls hl => ?_)
  refine lv_goto (tgt := 8) hx hb dX8_least_39 (by decide) ?_
  refine lv_aload_n hx hb dX8_least_8 rfl (lv_at hl 2 rfl) ?_
  have hPc := hP.sub (ws' := [(z_1, .inr (0, [.int 1, .int 0, .int 1, .ref h2])), (h2, .inr (1, [.int 1, .ref h20, .int 1]))]) [2, 3] rfl
  refine va_callFi (va_runF (hK.1 0 _ rfl).2 (As := []) (rest := []) ⟨hx, hb, hml, hown, hts⟩ (k_Jx35411_hasNext_aae02_1 l hl9 D cy de z_1 (.int 0) (.int 1) h2 (.int 1) (.ref h20)) (va_cwF 0 hts gX8_least_Jx35411_hasNext_aae02_f215Jx35411 rfl rfl rfl hY.2.2.1 (by decide +kernel) ⟨(Nat.le_of_ble_eq_true rfl), (Nat.le_of_ble_eq_true rfl)⟩) ⟨kRY_fb, va_recv hK hP (ci := 0) (q0 := 2) rfl rfl, (kRY_go hPc hK hE hY hS)⟩ rfl rfl hl.1 rfl (lv_room (Nat.le_of_ble_eq_true rfl)) dX8_least_9 ⟨(Nat.le_of_ble_eq_true rfl), (Nat.le_of_ble_eq_true rfl)⟩) hS (fun _ _ h => h.elim) (fun _ h => h.elim) (fun r9 u t H locs ht hvm hw hB hz1 hk1 hS => ?_)
  have hP := kx_kept hP hk1
  obtain ⟨rfl, hw⟩ := hw
  refine lv_if_eq (tgt := 42) hx hb dX8_least_14 (by decide) (fun _ => ?_) (fun h => absurd (by decide) h)
  refine lv_iload_n hx hb dX8_least_42 rfl (lv_at hl 0 rfl) ?_
  refine W.widen (k := 1) (n := 4) (Nat.le_of_ble_eq_true rfl) (Nat.le_of_ble_eq_true rfl) ?_
  have hP9 := hP.sub (ws' := [(h1, .inr (10, [x3, x4, x5, x6, x7, x8, x9, x10, x11, x12, x13, x14, x15, x16, x17, .int 0, x18, x19])), (h2, .inr (1, [.int 1, .ref h20, .int 1])), (h20, .inl (cy 7, 10, .inr (.inr (.inr (.inr g21))))), (h22, .inl (cy 1, 6, .inl g23))]) [0, 3, 4, 1] rfl
  have hD9 := hD.sub (ws' := [(h1, .inr (10, [x3, x4, x5, x6, x7, x8, x9, x10, x11, x12, x13, x14, x15, x16, x17, .int 0, x18, x19])), (h2, .inr (1, [.int 1, .ref h20, .int 1])), (h20, .inl (cy 7, 10, .inr (.inr (.inr (.inr g21))))), (h22, .inl (cy 1, 6, .inl g23))]) [0, 3, 4, 1] (by decide) rfl
  exact W.iret (v := 0) hx hb hr (fun t ht hW => ⟨⟨0, (), rfl, ⟨rfl, trivial⟩, ⟨by rw [ht]; exact hP9, hD9⟩⟩, hS.F ht⟩) hS.2.2 dX8_least_43
theorem dX8_leastTotal_0 : decode cX8_leastTotal 0 = .ok (.aload_n 0, 1) := by decide +kernel
theorem dX8_leastTotal_1 : decode cX8_leastTotal 1 = .ok (.aload_n 0, 1) := by decide +kernel
theorem dX8_leastTotal_2 : decode cX8_leastTotal 2 = .ok (.invokevirtual 240, 3) := by decide +kernel
set_option maxRecDepth 20000 in
theorem ggX8_leastTotal_X8_areMany : GoodIn wsX8_leastTotal wsX8_areMany := goodIn_ca (goodIn_r _ [5, 6, 7, 8, 4, 9, 10, 11, 12, 13, 14, 15, 16, 17, 18, 164, 165, 166, 167, 168, 169, 170, 171, 172, 173, 174, 175, 176, 177, 178, 179, 180, 181] (by decide +kernel) (by decide +kernel)) (goodIn_sub (fun _ h => List.mem_cons_of_mem _ (List.mem_append_left _ (List.mem_append_right _ h))) (by decide +kernel))
set_option maxRecDepth 20000 in
theorem gX8_leastTotal_X8_areMany : GoodIn wsX8_leastTotal (wsV RX8 240 RX8 yX8_areMany wsX8_areMany) := goodIn_app (goodIn_of _ (by decide +kernel)) ggX8_leastTotal_X8_areMany
theorem dX8_leastTotal_5 : decode cX8_leastTotal 5 = .ok (.iconst 1, 1) := by decide +kernel
theorem dX8_leastTotal_6 : decode cX8_leastTotal 6 = .ok (.invokevirtual 73, 3) := by decide +kernel
set_option maxRecDepth 20000 in
theorem ggX8_leastTotal_X8_isThrown : GoodIn wsX8_leastTotal wsX8_isThrown := goodIn_r _ [22, 23, 164, 165, 166, 167, 168, 169, 170, 171, 172, 173, 174, 175, 176, 177, 178, 179, 180, 181] (by decide +kernel) (by decide +kernel)
set_option maxRecDepth 20000 in
theorem gX8_leastTotal_X8_isThrown : GoodIn wsX8_leastTotal (wsV RX8 73 RX8 yX8_isThrown wsX8_isThrown) := goodIn_app (goodIn_of _ (by decide +kernel)) ggX8_leastTotal_X8_isThrown
theorem dX8_leastTotal_9 : decode cX8_leastTotal 9 = .ok (.ifCond .eq 7, 3) := by decide +kernel
theorem dX8_leastTotal_16 : decode cX8_leastTotal 16 = .ok (.aload_n 0, 1) := by decide +kernel
theorem dX8_leastTotal_17 : decode cX8_leastTotal 17 = .ok (.aload_n 0, 1) := by decide +kernel
theorem dX8_leastTotal_18 : decode cX8_leastTotal 18 = .ok (.invokevirtual 233, 3) := by decide +kernel
set_option maxRecDepth 20000 in
theorem ggX8_leastTotal_X8_all : GoodIn wsX8_leastTotal wsX8_all := goodIn_ca (goodIn_r _ [27, 28, 29, 30, 31, 32, 33, 34, 35, 36, 37, 38, 39, 40, 41, 42, 43, 44, 45, 46, 47, 48, 49, 50, 51, 52, 53, 54, 55, 56, 57, 4, 58, 10, 12, 11, 59, 60, 61, 62, 63, 64, 65, 66, 67, 68, 69, 70, 71, 72, 73, 74, 75, 76, 77, 78, 79, 80, 81, 82, 83, 84, 85, 86, 87, 88, 89, 90, 91, 92, 93, 94, 95, 96, 97, 98, 99, 100, 101, 102, 103, 104, 105, 106, 107, 108, 109, 110, 111, 13, 14, 15, 16, 17, 18, 182, 183, 184, 164, 165, 166, 167, 168, 169, 170, 171, 172, 173, 174, 175, 176, 177, 178, 179, 180, 181] (by decide +kernel) (by decide +kernel)) (goodIn_sub (fun _ h => List.mem_cons_of_mem _ (List.mem_append_left _ (List.mem_append_right _ h))) (by decide +kernel))
set_option maxRecDepth 20000 in
theorem gX8_leastTotal_X8_all : GoodIn wsX8_leastTotal (wsV RX8 233 RX8 yX8_all wsX8_all) := goodIn_app (goodIn_of _ (by decide +kernel)) ggX8_leastTotal_X8_all
theorem dX8_leastTotal_21 : decode cX8_leastTotal 21 = .ok (.invokevirtual 247, 3) := by decide +kernel
set_option maxRecDepth 20000 in
theorem ggX8_leastTotal_X8_least : GoodIn wsX8_leastTotal wsX8_least := goodIn_ca (goodIn_ca (goodIn_r _ [115, 116, 37, 117, 106, 80, 107, 118, 119, 120, 30, 121, 122, 123, 124, 125, 126, 127, 128, 129, 53, 54, 130, 131, 64, 132, 133, 134, 135, 136, 137, 138, 139, 140, 141, 142, 143, 144, 145, 146, 147, 148, 149, 4, 150, 10, 151, 17, 152, 153, 154, 155, 156, 157, 158, 159, 160, 161, 162, 163, 185, 186, 187, 188, 182, 183, 184, 164, 165, 166, 167, 168, 169, 170, 171, 172, 173, 174, 175, 176, 177, 178, 179, 180, 181] (by decide +kernel) (by decide +kernel)) (goodIn_sub (fun _ h => List.mem_cons_of_mem _ (List.mem_append_left _ (List.mem_append_right _ h))) (by decide +kernel))) (goodIn_sub (fun _ h => List.mem_cons_of_mem _ (List.mem_append_right _ h)) (by decide +kernel))
set_option maxRecDepth 20000 in
theorem gX8_leastTotal_X8_least : GoodIn wsX8_leastTotal (wsV RX8 247 RX8 yX8_least wsX8_least) := goodIn_app (goodIn_of _ (by decide +kernel)) ggX8_leastTotal_X8_least
theorem dX8_leastTotal_24 : decode cX8_leastTotal 24 = .ok (.ireturn, 1) := by decide +kernel
set_option maxHeartbeats 4000000 in
set_option maxRecDepth 100000 in
theorem k_X8_leastTotal (l : Launch) (hl9 : l.stackTraces = false) (D : va_G) (cy : Nat → ClassId) (de : Nat) (h1 : Nat) (x2 : Value) (x3 : Value) (x4 : Value) (x5 : Value) (x6 : Value) (x7 : Value) (x8 : Value) (x9 : Value) (x10 : Value) (x11 : Value) (x12 : Value) (x13 : Value) (h14 : Nat) (x15 : Value) (x16 : Value) (x17 : Value) (x18 : Value) (g19 : Nat → Int32) (sz : Nat) : Met l yX8_leastTotal wsX8_leastTotal ({ frames := 7, cells := 5, slots := 29, locals := 147 }) (kWY D cy de [.ref h1] [(h1, .inr (10, [x2, x3, x4, x5, x6, x7, x8, x9, x10, x11, x12, x13, .ref h14, x15, x16, .int 0, x17, x18])), (h14, .inl (cy 1, 6, .inl g19))] sz) (va_Qi (fun (r : Int32) (_ : Unit) => r = 0 ∧ True) (fun (_ : Unit) (t : State) => va_P D vwCl [(h1, .inr (10, [x2, x3, x4, x5, x6, x7, x8, x9, x10, x11, x12, x13, .ref h14, x15, x16, .int 0, x17, .int 0])), (h14, .inl (cy 1, 6, .inl g19))] t.heap ∧ va_D (va_A [(h1, .inr (10, [x2, x3, x4, x5, x6, x7, x8, x9, x10, x11, x12, x13, .ref h14, x15, x16, .int 0, x17, x18])), (h14, .inl (cy 1, 6, .inl g19))] sz) [(h1, .inr (10, [x2, x3, x4, x5, x6, x7, x8, x9, x10, x11, x12, x13, .ref h14, x15, x16, .int 0, x17, .int 0])), (h14, .inl (cy 1, 6, .inl g19))]) (va_A [(h1, .inr (10, [x2, x3, x4, x5, x6, x7, x8, x9, x10, x11, x12, x13, .ref h14, x15, x16, .int 0, x17, x18])), (h14, .inl (cy 1, 6, .inl g19))] sz)) 5 29 (va_A [(h1, .inr (10, [x2, x3, x4, x5, x6, x7, x8, x9, x10, x11, x12, x13, .ref h14, x15, x16, .int 0, x17, x18])), (h14, .inl (cy 1, 6, .inl g19))] sz) := by
  refine Met.ofW (cc := cX8_leastTotal) (maxL := 1) (ret := (some .int)) (by decide) rfl ?_
  intro p e s m args below meth c s₁ B hml hv
  obtain ⟨rfl, hsz, hP, hK, hD0, hE, hY⟩ := hv
  have hx := B.exec
  have hb := B.bytes
  have hr := B.returns
  have hts := atoms_spec (ws := wsX8_leastTotal) B.pre
  have hown : s.vm.findClass RX8 = some m.cls := findClass_of_methodNamed B.named
  have hlocks := B.notSynchronized
  subst hsz
  have hD := hD0.self (sz := s.heap.size)
  generalize hAe : va_A [(h1, .inr (10, [x2, x3, x4, x5, x6, x7, x8, x9, x10, x11, x12, x13, .ref h14, x15, x16, .int 0, x17, x18])), (h14, .inl (cy 1, 6, .inl g19))] s.heap.size = A at hD hE hY ⊢
  have hA : ∀ q : Nat, s.heap.size ≤ q → A q := fun q h => by rw [← hAe]; exact Or.inr h
  have hS : va_S A s.heap s.heap [] := va_S.rf
  have hP : va_P D vwCl [(h1, .inr (10, [x2, x3, x4, x5, x6, x7, x8, x9, x10, x11, x12, x13, .ref h14, x15, x16, .int 0, x17, x18])), (h14, .inl (cy 1, 6, .inl g19))] s.heap := hP
  have hl := lv_entry ([.ref h1]) (n := 1) (Nat.le_of_ble_eq_true rfl)
  rw [lg_entry_eq]
  generalize (lg_sl ([.ref h1]) ++ List.replicate (1 - (lg_sl ([.ref h1])).length) Slot.unset).toArray = ls at hl ⊢
  have hl : lv_has ls 1 [(0, .ref h1)] := hl
  refine lv_aload_n hx hb dX8_leastTotal_0 rfl (lv_at hl 0 rfl) ?_
  refine lv_aload_n hx hb dX8_leastTotal_1 rfl (lv_at hl 0 rfl) ?_
  have hPc := hP.sub (ws' := [(h1, .inr (10, [x2, x3, x4, x5, x6, x7, x8, x9, x10, x11, x12, x13, .ref h14, x15, x16, .int 0, x17, x18]))]) [0] rfl
  refine va_calli (va_runV (As := []) (rest := [.ref h1]) ⟨hx, hb, hml, hown, hts⟩ (k_X8_areMany l D cy h1 (x2) (x3) (x4) (x5) (x6) (x7) (x8) (x9) (x10) (x11) (x12) (x13) (.ref h14) (x15) (x16) (x17) (x18)) (cwV 0 hts gX8_leastTotal_X8_areMany rfl rfl rfl (by decide +kernel) ⟨(Nat.le_of_ble_eq_true rfl), (Nat.le_of_ble_eq_true rfl)⟩) ⟨kR_fb, va_recv hK hP (ci := 10) (q0 := 0) rfl rfl, (kR_go hPc hK)⟩ rfl rfl hl.1 rfl (lv_room (Nat.le_of_ble_eq_true rfl)) dX8_leastTotal_2 ⟨(Nat.le_of_ble_eq_true rfl), (Nat.le_of_ble_eq_true rfl)⟩) hS (fun _ _ h => h.elim) (fun _ h => h.elim) (fun r9 u t H locs ht hvm hw hB hz1 hk1 hS => ?_)
  have hP := kx_kept hP hk1
  obtain ⟨rfl, hw⟩ := hw
  refine lv_iconst (v := 1) hx hb dX8_leastTotal_5 (by decide) ?_
  have hPc := hP.sub (ws' := [(h1, .inr (10, [x2, x3, x4, x5, x6, x7, x8, x9, x10, x11, x12, x13, .ref h14, x15, x16, .int 0, x17, x18]))]) [0] rfl
  have hDc := hD.sub (ws' := [(h1, .inr (10, [x2, x3, x4, x5, x6, x7, x8, x9, x10, x11, x12, x13, .ref h14, x15, x16, .int 0, x17, x18]))]) [0] (by decide) rfl
  have hFc := va_free (wc := [(h1, .inr (10, [x2, x3, x4, x5, x6, x7, x8, x9, x10, x11, x12, x13, .ref h14, x15, x16, .int 0, x17, x18]))]) hD hS hA [0] rfl
  refine va_calli (va_runV (As := [.int 0, .int 1]) (rest := []) ⟨hx, hb, hml, hown, hts⟩ (k_X8_isThrown_1 l D cy h1 (x2) (x3) (x4) (x5) (x6) (x7) (x8) (x9) (x10) (x11) (x12) (x13) (.ref h14) (x15) (x16) (.int 0) (x17) (x18) H.size) (cwV 2 hts gX8_leastTotal_X8_isThrown rfl rfl rfl (by decide +kernel) ⟨(Nat.le_of_ble_eq_true rfl), (Nat.le_of_ble_eq_true rfl)⟩) ⟨kW_fb, va_recv hK hP (ci := 10) (q0 := 0) rfl rfl, (kW_go hPc hK hDc)⟩ rfl rfl hl.1 rfl (lv_room (Nat.le_of_ble_eq_true rfl)) dX8_leastTotal_6 ⟨(Nat.le_of_ble_eq_true rfl), (Nat.le_of_ble_eq_true rfl)⟩) hS (fun q _ h => hFc q h) hFc (fun r9 u t H locs ht hvm hw hB hz1 hk1 hS => ?_)
  obtain ⟨hP1, hD1⟩ := hB
  rw [ht] at hP1
  try dsimp only at hw hP1 hD1
  obtain ⟨hP, hD⟩ := va_join (wr := [(h14, .inl (cy 1, 6, .inl g19))]) (w1 := [(h1, .inr (10, [x2, x3, x4, x5, x6, x7, x8, x9, x10, x11, x12, x13, .ref h14, x15, x16, .int 0, x17, .int 0]))]) hP hD [0] [1] rfl rfl (by decide) (by decide) hk1 hFc hP1 hD1
  have hP : va_P D vwCl [(h14, .inl (cy 1, 6, .inl g19)), (h1, .inr (10, [x2, x3, x4, x5, x6, x7, x8, x9, x10, x11, x12, x13, .ref h14, x15, x16, .int 0, x17, .int 0]))] H := hP
  have hD : va_D A [(h14, .inl (cy 1, 6, .inl g19)), (h1, .inr (10, [x2, x3, x4, x5, x6, x7, x8, x9, x10, x11, x12, x13, .ref h14, x15, x16, .int 0, x17, .int 0]))] := hD
  obtain ⟨rfl, hw⟩ := hw
  refine lv_if_eq (tgt := 16) hx hb dX8_leastTotal_9 (by decide) (fun _ => ?_) (fun h => absurd (by decide) h)
  refine lv_aload_n hx hb dX8_leastTotal_16 rfl (lv_at hl 0 rfl) ?_
  refine lv_aload_n hx hb dX8_leastTotal_17 rfl (lv_at hl 0 rfl) ?_
  have hPc := hP.sub (ws' := [(h1, .inr (10, [x2, x3, x4, x5, x6, x7, x8, x9, x10, x11, x12, x13, .ref h14, x15, x16, .int 0, x17, .int 0])), (h14, .inl (cy 1, 6, .inl g19))]) [1, 0] rfl
  have hDc := hD.sub (ws' := [(h1, .inr (10, [x2, x3, x4, x5, x6, x7, x8, x9, x10, x11, x12, x13, .ref h14, x15, x16, .int 0, x17, .int 0])), (h14, .inl (cy 1, 6, .inl g19))]) [1, 0] (by decide) rfl
  have hFc := va_free (wc := [(h1, .inr (10, [x2, x3, x4, x5, x6, x7, x8, x9, x10, x11, x12, x13, .ref h14, x15, x16, .int 0, x17, .int 0])), (h14, .inl (cy 1, 6, .inl g19))]) hD hS hA [1, 0] rfl
  refine va_callr (va_runV (As := []) (rest := [.ref h1]) ⟨hx, hb, hml, hown, hts⟩ (k_X8_all l hl9 D cy de h1 (x2) (x3) (x4) (x5) (x6) (x7) (x8) (x9) (x10) (x11) (x12) (x13) h14 (x15) (x16) (x17) (.int 0) g19 H.size) (cwV 0 hts gX8_leastTotal_X8_all rfl rfl rfl (by decide +kernel) ⟨(Nat.le_of_ble_eq_true rfl), (Nat.le_of_ble_eq_true rfl)⟩) ⟨kWY_fb, va_recv hK hP (ci := 10) (q0 := 1) rfl rfl, (kWY_go hPc hK hDc hFc hE hY hS)⟩ rfl rfl hl.1 rfl (lv_room (Nat.le_of_ble_eq_true rfl)) dX8_leastTotal_18 ⟨(Nat.le_of_ble_eq_true rfl), (Nat.le_of_ble_eq_true rfl)⟩) hS (fun q _ h => hFc q h) hFc (fun u r9 t H locs ht hvm hw hB hz1 hk1 hS => ?_)
  obtain ⟨z_3, z_4, u_5, z_6⟩ := u
  obtain ⟨e9, hB⟩ := hB
  have e9 := e9.symm
  subst e9
  obtain ⟨hP1, hD1⟩ := hB
  rw [ht] at hP1
  try dsimp only at hw hP1 hD1
  obtain ⟨hP, hD⟩ := va_join (wr := []) (w1 := [(h1, .inr (10, [x2, x3, x4, x5, x6, x7, x8, x9, x10, x11, x12, x13, .ref h14, x15, x16, .int 0, x17, .int 0])), (h14, .inl (cy 1, 6, .inl g19)), (z_3, .inr (1, [.int 1, .ref z_4, .int 1])), (z_4, .inl (cy 7, 10, .inr (.inr (.inr (.inr u_5))))), (z_6, .inl (cy 1, 6, .inl g19))]) hP hD [1, 0] [] rfl rfl (by decide) (by decide) hk1 hFc hP1 hD1
  have hP : va_P D vwCl [(h1, .inr (10, [x2, x3, x4, x5, x6, x7, x8, x9, x10, x11, x12, x13, .ref h14, x15, x16, .int 0, x17, .int 0])), (h14, .inl (cy 1, 6, .inl g19)), (z_3, .inr (1, [.int 1, .ref z_4, .int 1])), (z_4, .inl (cy 7, 10, .inr (.inr (.inr (.inr u_5))))), (z_6, .inl (cy 1, 6, .inl g19))] H := hP
  have hD : va_D A [(h1, .inr (10, [x2, x3, x4, x5, x6, x7, x8, x9, x10, x11, x12, x13, .ref h14, x15, x16, .int 0, x17, .int 0])), (h14, .inl (cy 1, 6, .inl g19)), (z_3, .inr (1, [.int 1, .ref z_4, .int 1])), (z_4, .inl (cy 7, 10, .inr (.inr (.inr (.inr u_5))))), (z_6, .inl (cy 1, 6, .inl g19))] := hD
  refine W.widen (k := 4) (n := 25) (Nat.le_of_ble_eq_true rfl) (Nat.le_of_ble_eq_true rfl) ?_
  obtain ⟨kf_7, hw⟩ := hw
  have hPc := hP.sub (ws' := [(h1, .inr (10, [x2, x3, x4, x5, x6, x7, x8, x9, x10, x11, x12, x13, .ref h14, x15, x16, .int 0, x17, .int 0])), (z_3, .inr (1, [.int 1, .ref z_4, .int 1])), (z_4, .inl (cy 7, 10, .inr (.inr (.inr (.inr u_5))))), (z_6, .inl (cy 1, 6, .inl g19))]) [0, 2, 3, 4] rfl
  have hDc := hD.sub (ws' := [(h1, .inr (10, [x2, x3, x4, x5, x6, x7, x8, x9, x10, x11, x12, x13, .ref h14, x15, x16, .int 0, x17, .int 0])), (z_3, .inr (1, [.int 1, .ref z_4, .int 1])), (z_4, .inl (cy 7, 10, .inr (.inr (.inr (.inr u_5))))), (z_6, .inl (cy 1, 6, .inl g19))]) [0, 2, 3, 4] (by decide) rfl
  have hFc := va_free (wc := [(h1, .inr (10, [x2, x3, x4, x5, x6, x7, x8, x9, x10, x11, x12, x13, .ref h14, x15, x16, .int 0, x17, .int 0])), (z_3, .inr (1, [.int 1, .ref z_4, .int 1])), (z_4, .inl (cy 7, 10, .inr (.inr (.inr (.inr u_5))))), (z_6, .inl (cy 1, 6, .inl g19))]) hD hS hA [0, 2, 3, 4] rfl
  refine va_calli (va_runV (As := [.ref z_3]) (rest := []) ⟨hx, hb, hml, hown, hts⟩ (k_X8_least l hl9 D cy de h1 z_3 (x2) (x3) (x4) (x5) (x6) (x7) (x8) (x9) (x10) (x11) (x12) (x13) (.ref h14) (x15) (x16) (x17) (.int 0) z_4 u_5 z_6 (kf_7) g19 H.size) (cwV 1 hts gX8_leastTotal_X8_least rfl rfl rfl (by decide +kernel) ⟨(Nat.le_of_ble_eq_true rfl), (Nat.le_of_ble_eq_true rfl)⟩) ⟨kWY_fb, va_recv hK hP (ci := 10) (q0 := 0) rfl rfl, (kWY_go hPc hK hDc hFc hE hY hS)⟩ rfl rfl hl.1 rfl (lv_room (Nat.le_of_ble_eq_true rfl)) dX8_leastTotal_21 ⟨(Nat.le_of_ble_eq_true rfl), (Nat.le_of_ble_eq_true rfl)⟩) hS (fun q _ h => hFc q h) hFc (fun r9 u t H locs ht hvm hw hB hz1 hk1 hS => ?_)
  obtain ⟨hP1, hD1⟩ := hB
  rw [ht] at hP1
  try dsimp only at hw hP1 hD1
  obtain ⟨hP, hD⟩ := va_join (wr := [(h14, .inl (cy 1, 6, .inl g19))]) (w1 := [(h1, .inr (10, [x2, x3, x4, x5, x6, x7, x8, x9, x10, x11, x12, x13, .ref h14, x15, x16, .int 0, x17, .int 0])), (z_3, .inr (1, [.int 1, .ref z_4, .int 1])), (z_4, .inl (cy 7, 10, .inr (.inr (.inr (.inr u_5))))), (z_6, .inl (cy 1, 6, .inl g19))]) hP hD [0, 2, 3, 4] [1] rfl rfl (by decide) (by decide) hk1 hFc hP1 hD1
  have hP : va_P D vwCl [(h14, .inl (cy 1, 6, .inl g19)), (h1, .inr (10, [x2, x3, x4, x5, x6, x7, x8, x9, x10, x11, x12, x13, .ref h14, x15, x16, .int 0, x17, .int 0])), (z_3, .inr (1, [.int 1, .ref z_4, .int 1])), (z_4, .inl (cy 7, 10, .inr (.inr (.inr (.inr u_5))))), (z_6, .inl (cy 1, 6, .inl g19))] H := hP
  have hD : va_D A [(h14, .inl (cy 1, 6, .inl g19)), (h1, .inr (10, [x2, x3, x4, x5, x6, x7, x8, x9, x10, x11, x12, x13, .ref h14, x15, x16, .int 0, x17, .int 0])), (z_3, .inr (1, [.int 1, .ref z_4, .int 1])), (z_4, .inl (cy 7, 10, .inr (.inr (.inr (.inr u_5))))), (z_6, .inl (cy 1, 6, .inl g19))] := hD
  refine W.widen (k := 5) (n := 29) (Nat.le_of_ble_eq_true rfl) (Nat.le_of_ble_eq_true rfl) ?_
  obtain ⟨rfl, hw⟩ := hw
  refine W.widen (k := 5) (n := 29) (Nat.le_of_ble_eq_true rfl) (Nat.le_of_ble_eq_true rfl) ?_
  have hP9 := hP.sub (ws' := [(h1, .inr (10, [x2, x3, x4, x5, x6, x7, x8, x9, x10, x11, x12, x13, .ref h14, x15, x16, .int 0, x17, .int 0])), (h14, .inl (cy 1, 6, .inl g19))]) [1, 0] rfl
  have hD9 := hD.sub (ws' := [(h1, .inr (10, [x2, x3, x4, x5, x6, x7, x8, x9, x10, x11, x12, x13, .ref h14, x15, x16, .int 0, x17, .int 0])), (h14, .inl (cy 1, 6, .inl g19))]) [1, 0] (by decide) rfl
  exact W.iret (v := 0) hx hb hr (fun t ht hW => ⟨⟨0, (), rfl, ⟨rfl, trivial⟩, ⟨by rw [ht]; exact hP9, hD9⟩⟩, hS.F ht⟩) hS.2.2 dX8_leastTotal_24
theorem dX7_hasRing_0 : decode cX7_hasRing 0 = .ok (.aload_n 0, 1) := by decide +kernel
theorem dX7_hasRing_1 : decode cX7_hasRing 1 = .ok (.invokevirtual 264, 3) := by decide +kernel
set_option maxRecDepth 20000 in
theorem ggX7_hasRing_X7_lookAtPlays : GoodIn wsX7_hasRing wsX7_lookAtPlays := goodIn_ca (goodIn_ca (goodIn_ca (goodIn_r _ [6, 1, 7, 8, 9, 10, 5, 11, 12, 13, 14, 15, 16, 17, 18, 19, 20, 21, 22, 23, 24, 25, 26, 27, 28, 29, 30, 31, 32, 33, 34, 35, 36, 37, 38, 39, 40, 41, 42, 43, 44, 45, 46, 47, 48, 49, 50, 51, 52, 53, 54, 55, 56, 57, 58, 59, 60, 61, 62, 63, 64, 65, 66, 67, 68, 69, 70, 71, 72, 73, 74, 75, 76, 77, 78, 79, 80, 81, 82, 83, 84, 85, 86, 87, 88, 89, 90, 91, 92, 93, 94, 95, 96, 97, 98, 99, 100, 101, 102, 103, 104, 105, 106, 107, 108, 109, 110, 111, 112, 145, 146, 147, 148, 149, 150, 151, 152, 153, 154, 155, 156, 157, 158, 159, 160, 161, 162, 163, 164, 165, 166, 167, 168, 169, 170, 171, 172, 173, 174, 175, 176, 177, 178, 179, 180, 181, 182, 183, 184] (by decide +kernel) (by decide +kernel)) (goodIn_sub (fun _ h => List.mem_cons_of_mem _ (List.mem_append_left _ (List.mem_append_left _ (List.mem_append_right _ h)))) (by decide +kernel))) (goodIn_sub (fun _ h => List.mem_cons_of_mem _ (List.mem_append_left _ (List.mem_append_right _ h))) (by decide +kernel))) (goodIn_sub (fun _ h => List.mem_cons_of_mem _ (List.mem_append_right _ h)) (by decide +kernel))
set_option maxRecDepth 20000 in
theorem gX7_hasRing_X7_lookAtPlays : GoodIn wsX7_hasRing (wsV RX7 264 RX7 yX7_lookAtPlays wsX7_lookAtPlays) := goodIn_app (goodIn_of _ (by decide +kernel)) ggX7_hasRing_X7_lookAtPlays
theorem dX7_hasRing_4 : decode cX7_hasRing 4 = .ok (.aload_n 0, 1) := by decide +kernel
theorem dX7_hasRing_5 : decode cX7_hasRing 5 = .ok (.getfield 29, 3) := by decide +kernel
theorem dX7_hasRing_8 : decode cX7_hasRing 8 = .ok (.invokevirtual 291, 3) := by decide +kernel
set_option maxRecDepth 20000 in
theorem ggX7_hasRing_X6_anyRing : GoodIn wsX7_hasRing wsX6_anyRing := goodIn_ca (goodIn_ca (goodIn_r _ [116, 64, 117, 118, 119, 120, 19, 121, 122, 123, 124, 125, 126, 127, 128, 66, 129, 130, 131, 132, 133, 134, 135, 136, 137, 138, 139, 62, 140, 82, 5, 83, 141, 142, 143, 144, 55, 26, 71, 72, 73, 74, 25, 152, 153, 154, 155, 156, 157, 158, 159, 160, 161, 162, 163, 164] (by decide +kernel) (by decide +kernel)) (goodIn_sub (fun _ h => List.mem_cons_of_mem _ (List.mem_append_left _ (List.mem_append_right _ h))) (by decide +kernel))) (goodIn_sub (fun _ h => List.mem_cons_of_mem _ (List.mem_append_right _ h)) (by decide +kernel))
set_option maxRecDepth 20000 in
theorem gX7_hasRing_X6_anyRing : GoodIn wsX7_hasRing (wsV RX7 291 RX6 yX6_anyRing wsX6_anyRing) := goodIn_app (goodIn_of _ (by decide +kernel)) ggX7_hasRing_X6_anyRing
theorem dX7_hasRing_11 : decode cX7_hasRing 11 = .ok (.ireturn, 1) := by decide +kernel
set_option maxHeartbeats 4000000 in
set_option maxRecDepth 100000 in
theorem k_X7_hasRing (l : Launch) (hl9 : l.stackTraces = false) (D : va_G) (cy : Nat → ClassId) (h1 : Nat) (h2 : Nat) (h3 : Nat) (x4 : Value) (h5 : Nat) (x6 : Value) (x7 : Value) (x8 : Value) (x9 : Value) (x10 : Value) (x11 : Value) (x12 : Value) (x13 : Value) (x14 : Value) (x15 : Value) (x16 : Value) (x17 : Value) (h18 : Nat) (h19 : Nat) (h20 : Nat) (h21 : Nat) (h22 : Nat) (h23 : Nat) (h24 : Nat) (g25 : Nat → Int32) (g26 : Nat → Int32) (kg26_0 : g26 0 = 0) (g27 : Nat → Int32) (kg27_0 : g27 0 = 0) (g28 : Nat → Int32) (g29 : Nat → Int32) (kg29_0 : g29 0 = 0) (g30 : Nat → Int32) (kg30_0 : g30 0 = 0) (x31 : Value) (x32 : Value) (x33 : Value) (sz : Nat) : Met l yX7_hasRing wsX7_hasRing ({ frames := 3, cells := 0, slots := 0, locals := 69 }) (kWX D cy [.ref h1] [(h1, .inr (9, [.ref h2, .ref h3, x4, .ref h5, x6, x7, x8])), (h2, .inr (2, [x9, x10, x11, .int 0])), (h3, .inr (5, [x12, x13, .int 0])), (h5, .inr (8, [x14, x15, x16, x17, .ref h18, .ref h19, .ref h20, .ref h21, .ref h22, .ref h23, .ref h24, .int 0, .int 0])), (h18, .inl (cy 1, 1000, .inl g25)), (h19, .inl (cy 1, 1000, .inl g26)), (h20, .inl (cy 1, 1000, .inl g27)), (h21, .inl (cy 1, 1000, .inl g28)), (h22, .inl (cy 1, 1000, .inl g29)), (h23, .inl (cy 1, 1000, .inl g30)), (h24, .inr (5, [x31, x32, x33]))] sz) (va_Qi (fun (r : Int32) (_ : Unit) => r = 0 ∧ True) (fun (_ : Unit) (t : State) => va_P D vwCl [(h1, .inr (9, [.ref h2, .ref h3, x4, .ref h5, x6, x7, x8])), (h2, .inr (2, [x9, x10, x11, .int 0])), (h3, .inr (5, [x12, x13, .int 0])), (h5, .inr (8, [x14, x15, x16, x17, .ref h18, .ref h19, .ref h20, .ref h21, .ref h22, .ref h23, .ref h24, .int 1, .int 1])), (h18, .inl (cy 1, 1000, .inl (upd g25 0 0))), (h19, .inl (cy 1, 1000, .inl (upd g26 0 0))), (h20, .inl (cy 1, 1000, .inl (upd (upd g27 0 0) 0 2))), (h21, .inl (cy 1, 1000, .inl (upd g28 0 0))), (h22, .inl (cy 1, 1000, .inl (upd g29 0 30))), (h23, .inl (cy 1, 1000, .inl (upd g30 0 0))), (h24, .inr (5, [x31, x32, .int 0]))] t.heap ∧ va_D (va_A [(h1, .inr (9, [.ref h2, .ref h3, x4, .ref h5, x6, x7, x8])), (h2, .inr (2, [x9, x10, x11, .int 0])), (h3, .inr (5, [x12, x13, .int 0])), (h5, .inr (8, [x14, x15, x16, x17, .ref h18, .ref h19, .ref h20, .ref h21, .ref h22, .ref h23, .ref h24, .int 0, .int 0])), (h18, .inl (cy 1, 1000, .inl g25)), (h19, .inl (cy 1, 1000, .inl g26)), (h20, .inl (cy 1, 1000, .inl g27)), (h21, .inl (cy 1, 1000, .inl g28)), (h22, .inl (cy 1, 1000, .inl g29)), (h23, .inl (cy 1, 1000, .inl g30)), (h24, .inr (5, [x31, x32, x33]))] sz) [(h1, .inr (9, [.ref h2, .ref h3, x4, .ref h5, x6, x7, x8])), (h2, .inr (2, [x9, x10, x11, .int 0])), (h3, .inr (5, [x12, x13, .int 0])), (h5, .inr (8, [x14, x15, x16, x17, .ref h18, .ref h19, .ref h20, .ref h21, .ref h22, .ref h23, .ref h24, .int 1, .int 1])), (h18, .inl (cy 1, 1000, .inl (upd g25 0 0))), (h19, .inl (cy 1, 1000, .inl (upd g26 0 0))), (h20, .inl (cy 1, 1000, .inl (upd (upd g27 0 0) 0 2))), (h21, .inl (cy 1, 1000, .inl (upd g28 0 0))), (h22, .inl (cy 1, 1000, .inl (upd g29 0 30))), (h23, .inl (cy 1, 1000, .inl (upd g30 0 0))), (h24, .inr (5, [x31, x32, .int 0]))]) (va_A [(h1, .inr (9, [.ref h2, .ref h3, x4, .ref h5, x6, x7, x8])), (h2, .inr (2, [x9, x10, x11, .int 0])), (h3, .inr (5, [x12, x13, .int 0])), (h5, .inr (8, [x14, x15, x16, x17, .ref h18, .ref h19, .ref h20, .ref h21, .ref h22, .ref h23, .ref h24, .int 0, .int 0])), (h18, .inl (cy 1, 1000, .inl g25)), (h19, .inl (cy 1, 1000, .inl g26)), (h20, .inl (cy 1, 1000, .inl g27)), (h21, .inl (cy 1, 1000, .inl g28)), (h22, .inl (cy 1, 1000, .inl g29)), (h23, .inl (cy 1, 1000, .inl g30)), (h24, .inr (5, [x31, x32, x33]))] sz)) 0 0 (va_A [(h1, .inr (9, [.ref h2, .ref h3, x4, .ref h5, x6, x7, x8])), (h2, .inr (2, [x9, x10, x11, .int 0])), (h3, .inr (5, [x12, x13, .int 0])), (h5, .inr (8, [x14, x15, x16, x17, .ref h18, .ref h19, .ref h20, .ref h21, .ref h22, .ref h23, .ref h24, .int 0, .int 0])), (h18, .inl (cy 1, 1000, .inl g25)), (h19, .inl (cy 1, 1000, .inl g26)), (h20, .inl (cy 1, 1000, .inl g27)), (h21, .inl (cy 1, 1000, .inl g28)), (h22, .inl (cy 1, 1000, .inl g29)), (h23, .inl (cy 1, 1000, .inl g30)), (h24, .inr (5, [x31, x32, x33]))] sz) := by
  refine Met.ofW (cc := cX7_hasRing) (maxL := 1) (ret := (some .boolean)) (by decide) rfl ?_
  intro p e s m args below meth c s₁ B hml hv
  obtain ⟨rfl, hsz, hP, hK, hD0, hE⟩ := hv
  have hx := B.exec
  have hb := B.bytes
  have hr := B.returns
  have hts := atoms_spec (ws := wsX7_hasRing) B.pre
  have hown : s.vm.findClass RX7 = some m.cls := findClass_of_methodNamed B.named
  have hlocks := B.notSynchronized
  subst hsz
  have hD := hD0.self (sz := s.heap.size)
  generalize hAe : va_A [(h1, .inr (9, [.ref h2, .ref h3, x4, .ref h5, x6, x7, x8])), (h2, .inr (2, [x9, x10, x11, .int 0])), (h3, .inr (5, [x12, x13, .int 0])), (h5, .inr (8, [x14, x15, x16, x17, .ref h18, .ref h19, .ref h20, .ref h21, .ref h22, .ref h23, .ref h24, .int 0, .int 0])), (h18, .inl (cy 1, 1000, .inl g25)), (h19, .inl (cy 1, 1000, .inl g26)), (h20, .inl (cy 1, 1000, .inl g27)), (h21, .inl (cy 1, 1000, .inl g28)), (h22, .inl (cy 1, 1000, .inl g29)), (h23, .inl (cy 1, 1000, .inl g30)), (h24, .inr (5, [x31, x32, x33]))] s.heap.size = A at hD hE ⊢
  have hA : ∀ q : Nat, s.heap.size ≤ q → A q := fun q h => by rw [← hAe]; exact Or.inr h
  have hS : va_S A s.heap s.heap [] := va_S.rf
  have hP : va_P D vwCl [(h1, .inr (9, [.ref h2, .ref h3, x4, .ref h5, x6, x7, x8])), (h2, .inr (2, [x9, x10, x11, .int 0])), (h3, .inr (5, [x12, x13, .int 0])), (h5, .inr (8, [x14, x15, x16, x17, .ref h18, .ref h19, .ref h20, .ref h21, .ref h22, .ref h23, .ref h24, .int 0, .int 0])), (h18, .inl (cy 1, 1000, .inl g25)), (h19, .inl (cy 1, 1000, .inl g26)), (h20, .inl (cy 1, 1000, .inl g27)), (h21, .inl (cy 1, 1000, .inl g28)), (h22, .inl (cy 1, 1000, .inl g29)), (h23, .inl (cy 1, 1000, .inl g30)), (h24, .inr (5, [x31, x32, x33]))] s.heap := hP
  have hl := lv_entry ([.ref h1]) (n := 1) (Nat.le_of_ble_eq_true rfl)
  rw [lg_entry_eq]
  generalize (lg_sl ([.ref h1]) ++ List.replicate (1 - (lg_sl ([.ref h1])).length) Slot.unset).toArray = ls at hl ⊢
  have hl : lv_has ls 1 [(0, .ref h1)] := hl
  refine lv_aload_n hx hb dX7_hasRing_0 rfl (lv_at hl 0 rfl) ?_
  have hPc := hP.sub (ws' := [(h1, .inr (9, [.ref h2, .ref h3, x4, .ref h5, x6, x7, x8])), (h2, .inr (2, [x9, x10, x11, .int 0])), (h3, .inr (5, [x12, x13, .int 0])), (h5, .inr (8, [x14, x15, x16, x17, .ref h18, .ref h19, .ref h20, .ref h21, .ref h22, .ref h23, .ref h24, .int 0, .int 0])), (h18, .inl (cy 1, 1000, .inl g25)), (h19, .inl (cy 1, 1000, .inl g26)), (h24, .inr (5, [x31, x32, x33]))]) [0, 1, 2, 3, 4, 5, 10] rfl
  have hDc := hD.sub (ws' := [(h1, .inr (9, [.ref h2, .ref h3, x4, .ref h5, x6, x7, x8])), (h2, .inr (2, [x9, x10, x11, .int 0])), (h3, .inr (5, [x12, x13, .int 0])), (h5, .inr (8, [x14, x15, x16, x17, .ref h18, .ref h19, .ref h20, .ref h21, .ref h22, .ref h23, .ref h24, .int 0, .int 0])), (h18, .inl (cy 1, 1000, .inl g25)), (h19, .inl (cy 1, 1000, .inl g26)), (h24, .inr (5, [x31, x32, x33]))]) [0, 1, 2, 3, 4, 5, 10] (by decide) rfl
  have hFc := va_free (wc := [(h1, .inr (9, [.ref h2, .ref h3, x4, .ref h5, x6, x7, x8])), (h2, .inr (2, [x9, x10, x11, .int 0])), (h3, .inr (5, [x12, x13, .int 0])), (h5, .inr (8, [x14, x15, x16, x17, .ref h18, .ref h19, .ref h20, .ref h21, .ref h22, .ref h23, .ref h24, .int 0, .int 0])), (h18, .inl (cy 1, 1000, .inl g25)), (h19, .inl (cy 1, 1000, .inl g26)), (h24, .inr (5, [x31, x32, x33]))]) hD hS hA [0, 1, 2, 3, 4, 5, 10] rfl
  refine va_callv (va_runV (As := []) (rest := []) ⟨hx, hb, hml, hown, hts⟩ (k_X7_lookAtPlays l D cy h1 h2 h3 (x4) h5 (x6) (x7) (x8) (x9) (x10) (x11) (x12) (x13) (x14) (x15) (x16) (x17) h18 h19 (.ref h20) (.ref h21) (.ref h22) (.ref h23) h24 g25 g26 (x31) (x32) (x33) s.heap.size) (cwV 0 hts gX7_hasRing_X7_lookAtPlays rfl rfl rfl (by decide +kernel) ⟨(Nat.le_of_ble_eq_true rfl), (Nat.le_of_ble_eq_true rfl)⟩) ⟨kW_fb, va_recv hK hP (ci := 9) (q0 := 0) rfl rfl, (kW_go hPc hK hDc)⟩ rfl rfl hl.1 rfl (lv_room (Nat.le_of_ble_eq_true rfl)) dX7_hasRing_1 ⟨(Nat.le_of_ble_eq_true rfl), (Nat.le_of_ble_eq_true rfl)⟩) hS (fun q _ h => hFc q h) hFc (fun u t H locs ht hvm hw hB hz1 hk1 hS => ?_)
  obtain ⟨hP1, hD1⟩ := hB
  rw [ht] at hP1
  try dsimp only at hw hP1 hD1
  obtain ⟨hP, hD⟩ := va_join (wr := [(h20, .inl (cy 1, 1000, .inl g27)), (h21, .inl (cy 1, 1000, .inl g28)), (h22, .inl (cy 1, 1000, .inl g29)), (h23, .inl (cy 1, 1000, .inl g30))]) (w1 := [(h1, .inr (9, [.ref h2, .ref h3, x4, .ref h5, x6, x7, x8])), (h2, .inr (2, [x9, x10, x11, .int 0])), (h3, .inr (5, [x12, x13, .int 0])), (h5, .inr (8, [x14, x15, x16, x17, .ref h18, .ref h19, .ref h20, .ref h21, .ref h22, .ref h23, .ref h24, .int 1, .int 1])), (h18, .inl (cy 1, 1000, .inl (upd g25 0 0))), (h19, .inl (cy 1, 1000, .inl (upd g26 0 0))), (h24, .inr (5, [x31, x32, .int 0]))]) hP hD [0, 1, 2, 3, 4, 5, 10] [6, 7, 8, 9] rfl rfl (by decide) (by decide) hk1 hFc hP1 hD1
  have hP : va_P D vwCl [(h20, .inl (cy 1, 1000, .inl g27)), (h21, .inl (cy 1, 1000, .inl g28)), (h22, .inl (cy 1, 1000, .inl g29)), (h23, .inl (cy 1, 1000, .inl g30)), (h1, .inr (9, [.ref h2, .ref h3, x4, .ref h5, x6, x7, x8])), (h2, .inr (2, [x9, x10, x11, .int 0])), (h3, .inr (5, [x12, x13, .int 0])), (h5, .inr (8, [x14, x15, x16, x17, .ref h18, .ref h19, .ref h20, .ref h21, .ref h22, .ref h23, .ref h24, .int 1, .int 1])), (h18, .inl (cy 1, 1000, .inl (upd g25 0 0))), (h19, .inl (cy 1, 1000, .inl (upd g26 0 0))), (h24, .inr (5, [x31, x32, .int 0]))] H := hP
  have hD : va_D A [(h20, .inl (cy 1, 1000, .inl g27)), (h21, .inl (cy 1, 1000, .inl g28)), (h22, .inl (cy 1, 1000, .inl g29)), (h23, .inl (cy 1, 1000, .inl g30)), (h1, .inr (9, [.ref h2, .ref h3, x4, .ref h5, x6, x7, x8])), (h2, .inr (2, [x9, x10, x11, .int 0])), (h3, .inr (5, [x12, x13, .int 0])), (h5, .inr (8, [x14, x15, x16, x17, .ref h18, .ref h19, .ref h20, .ref h21, .ref h22, .ref h23, .ref h24, .int 1, .int 1])), (h18, .inl (cy 1, 1000, .inl (upd g25 0 0))), (h19, .inl (cy 1, 1000, .inl (upd g26 0 0))), (h24, .inr (5, [x31, x32, .int 0]))] := hD
  refine lv_aload_n hx hb dX7_hasRing_4 rfl (lv_at hl 0 rfl) ?_
  refine va_get (D := D) (ci := 9) (v := .ref h5) (C := RX7) (T := TX7) (N := 7) hx hb hts (fun _ h => (List.mem_cons_of_mem _ (List.mem_append_left _ (List.mem_append_left _ (List.mem_append_left _ (List.mem_append_left _ (List.mem_append_left _ (List.mem_append_left _ (List.mem_append_left _ (List.mem_append_left _ (List.mem_append_right _ h))))))))))) hown hK hP 4 rfl rfl 3 (by decide) (hts (.fieldLink RX7 29 "SelfishJunction" "survey" "LSelfishJunction$Survey;") (List.mem_cons_of_mem _ (List.mem_append_left _ (List.mem_append_left _ (List.mem_append_left _ (List.mem_append_left _ (List.mem_append_left _ (List.mem_append_left _ (List.mem_append_left _ (List.mem_append_left _ (List.mem_append_left _ (List.mem_append_left _ (List.mem_of_getElem? (i := 0) rfl))))))))))))) (fun _ h9 => h9) rfl dX7_hasRing_5 ?_
  have hPc := hP.sub (ws' := [(h5, .inr (8, [x14, x15, x16, x17, .ref h18, .ref h19, .ref h20, .ref h21, .ref h22, .ref h23, .ref h24, .int 1, .int 1])), (h19, .inl (cy 1, 1000, .inl (upd g26 0 0))), (h20, .inl (cy 1, 1000, .inl g27)), (h21, .inl (cy 1, 1000, .inl g28)), (h22, .inl (cy 1, 1000, .inl g29)), (h23, .inl (cy 1, 1000, .inl g30))]) [7, 9, 0, 1, 2, 3] rfl
  have hDc := hD.sub (ws' := [(h5, .inr (8, [x14, x15, x16, x17, .ref h18, .ref h19, .ref h20, .ref h21, .ref h22, .ref h23, .ref h24, .int 1, .int 1])), (h19, .inl (cy 1, 1000, .inl (upd g26 0 0))), (h20, .inl (cy 1, 1000, .inl g27)), (h21, .inl (cy 1, 1000, .inl g28)), (h22, .inl (cy 1, 1000, .inl g29)), (h23, .inl (cy 1, 1000, .inl g30))]) [7, 9, 0, 1, 2, 3] (by decide) rfl
  have hFc := va_free (wc := [(h5, .inr (8, [x14, x15, x16, x17, .ref h18, .ref h19, .ref h20, .ref h21, .ref h22, .ref h23, .ref h24, .int 1, .int 1])), (h19, .inl (cy 1, 1000, .inl (upd g26 0 0))), (h20, .inl (cy 1, 1000, .inl g27)), (h21, .inl (cy 1, 1000, .inl g28)), (h22, .inl (cy 1, 1000, .inl g29)), (h23, .inl (cy 1, 1000, .inl g30))]) hD hS hA [7, 9, 0, 1, 2, 3] rfl
  refine va_calli (va_runV (As := []) (rest := []) ⟨hx, hb, hml, hown, hts⟩ (k_X6_anyRing l hl9 D cy h5 (x14) (x15) (x16) (x17) (.ref h18) h19 h20 h21 h22 h23 (.ref h24) (.int 1) (upd g26 0 0) (rfl) g27 (kg27_0) g28 g29 (kg29_0) g30 (kg30_0) H.size) (cwV 0 hts gX7_hasRing_X6_anyRing rfl rfl rfl (by decide +kernel) ⟨(Nat.le_of_ble_eq_true rfl), (Nat.le_of_ble_eq_true rfl)⟩) ⟨kWX_fb, va_recv hK hP (ci := 8) (q0 := 7) rfl rfl, (kWX_go hPc hK hDc hFc hE hS)⟩ rfl rfl hl.1 rfl (lv_room (Nat.le_of_ble_eq_true rfl)) dX7_hasRing_8 ⟨(Nat.le_of_ble_eq_true rfl), (Nat.le_of_ble_eq_true rfl)⟩) hS (fun q _ h => hFc q h) hFc (fun r9 u t H locs ht hvm hw hB hz1 hk1 hS => ?_)
  obtain ⟨hP1, hD1⟩ := hB
  rw [ht] at hP1
  try dsimp only at hw hP1 hD1
  obtain ⟨hP, hD⟩ := va_join (wr := [(h1, .inr (9, [.ref h2, .ref h3, x4, .ref h5, x6, x7, x8])), (h2, .inr (2, [x9, x10, x11, .int 0])), (h3, .inr (5, [x12, x13, .int 0])), (h18, .inl (cy 1, 1000, .inl (upd g25 0 0))), (h24, .inr (5, [x31, x32, .int 0]))]) (w1 := [(h5, .inr (8, [x14, x15, x16, x17, .ref h18, .ref h19, .ref h20, .ref h21, .ref h22, .ref h23, .ref h24, .int 1, .int 1])), (h19, .inl (cy 1, 1000, .inl (upd g26 0 0))), (h20, .inl (cy 1, 1000, .inl (upd (upd g27 0 0) 0 2))), (h21, .inl (cy 1, 1000, .inl (upd g28 0 0))), (h22, .inl (cy 1, 1000, .inl (upd g29 0 30))), (h23, .inl (cy 1, 1000, .inl (upd g30 0 0)))]) hP hD [7, 9, 0, 1, 2, 3] [4, 5, 6, 8, 10] rfl rfl (by decide) (by decide) hk1 hFc hP1 hD1
  have hP : va_P D vwCl [(h1, .inr (9, [.ref h2, .ref h3, x4, .ref h5, x6, x7, x8])), (h2, .inr (2, [x9, x10, x11, .int 0])), (h3, .inr (5, [x12, x13, .int 0])), (h18, .inl (cy 1, 1000, .inl (upd g25 0 0))), (h24, .inr (5, [x31, x32, .int 0])), (h5, .inr (8, [x14, x15, x16, x17, .ref h18, .ref h19, .ref h20, .ref h21, .ref h22, .ref h23, .ref h24, .int 1, .int 1])), (h19, .inl (cy 1, 1000, .inl (upd g26 0 0))), (h20, .inl (cy 1, 1000, .inl (upd (upd g27 0 0) 0 2))), (h21, .inl (cy 1, 1000, .inl (upd g28 0 0))), (h22, .inl (cy 1, 1000, .inl (upd g29 0 30))), (h23, .inl (cy 1, 1000, .inl (upd g30 0 0)))] H := hP
  have hD : va_D A [(h1, .inr (9, [.ref h2, .ref h3, x4, .ref h5, x6, x7, x8])), (h2, .inr (2, [x9, x10, x11, .int 0])), (h3, .inr (5, [x12, x13, .int 0])), (h18, .inl (cy 1, 1000, .inl (upd g25 0 0))), (h24, .inr (5, [x31, x32, .int 0])), (h5, .inr (8, [x14, x15, x16, x17, .ref h18, .ref h19, .ref h20, .ref h21, .ref h22, .ref h23, .ref h24, .int 1, .int 1])), (h19, .inl (cy 1, 1000, .inl (upd g26 0 0))), (h20, .inl (cy 1, 1000, .inl (upd (upd g27 0 0) 0 2))), (h21, .inl (cy 1, 1000, .inl (upd g28 0 0))), (h22, .inl (cy 1, 1000, .inl (upd g29 0 30))), (h23, .inl (cy 1, 1000, .inl (upd g30 0 0)))] := hD
  obtain ⟨rfl, hw⟩ := hw
  refine W.widen (k := 0) (n := 0) (Nat.le_of_ble_eq_true rfl) (Nat.le_of_ble_eq_true rfl) ?_
  have hP9 := hP.sub (ws' := [(h1, .inr (9, [.ref h2, .ref h3, x4, .ref h5, x6, x7, x8])), (h2, .inr (2, [x9, x10, x11, .int 0])), (h3, .inr (5, [x12, x13, .int 0])), (h5, .inr (8, [x14, x15, x16, x17, .ref h18, .ref h19, .ref h20, .ref h21, .ref h22, .ref h23, .ref h24, .int 1, .int 1])), (h18, .inl (cy 1, 1000, .inl (upd g25 0 0))), (h19, .inl (cy 1, 1000, .inl (upd g26 0 0))), (h20, .inl (cy 1, 1000, .inl (upd (upd g27 0 0) 0 2))), (h21, .inl (cy 1, 1000, .inl (upd g28 0 0))), (h22, .inl (cy 1, 1000, .inl (upd g29 0 30))), (h23, .inl (cy 1, 1000, .inl (upd g30 0 0))), (h24, .inr (5, [x31, x32, .int 0]))]) [0, 1, 2, 5, 3, 6, 7, 8, 9, 10, 4] rfl
  have hD9 := hD.sub (ws' := [(h1, .inr (9, [.ref h2, .ref h3, x4, .ref h5, x6, x7, x8])), (h2, .inr (2, [x9, x10, x11, .int 0])), (h3, .inr (5, [x12, x13, .int 0])), (h5, .inr (8, [x14, x15, x16, x17, .ref h18, .ref h19, .ref h20, .ref h21, .ref h22, .ref h23, .ref h24, .int 1, .int 1])), (h18, .inl (cy 1, 1000, .inl (upd g25 0 0))), (h19, .inl (cy 1, 1000, .inl (upd g26 0 0))), (h20, .inl (cy 1, 1000, .inl (upd (upd g27 0 0) 0 2))), (h21, .inl (cy 1, 1000, .inl (upd g28 0 0))), (h22, .inl (cy 1, 1000, .inl (upd g29 0 30))), (h23, .inl (cy 1, 1000, .inl (upd g30 0 0))), (h24, .inr (5, [x31, x32, .int 0]))]) [0, 1, 2, 5, 3, 6, 7, 8, 9, 10, 4] (by decide) rfl
  exact W.zret (v := 0) hx hb hr rfl (fun t ht hW => ⟨⟨0, (), rfl, ⟨rfl, trivial⟩, ⟨by rw [ht]; exact hP9, hD9⟩⟩, hS.F ht⟩) hS.2.2 dX7_hasRing_11
theorem dL_hasRing_0 : decode cL_hasRing 0 = .ok (.aload_n 1, 1) := by decide +kernel
theorem dL_hasRing_1 : decode cL_hasRing 1 = .ok (.iconst 0, 1) := by decide +kernel
theorem dL_hasRing_2 : decode cL_hasRing 2 = .ok (.aload_n 0, 1) := by decide +kernel
theorem dL_hasRing_3 : decode cL_hasRing 3 = .ok (.invokevirtual 105, 3) := by decide +kernel
set_option maxRecDepth 20000 in
theorem ggL_hasRing_X7_hasRing : GoodIn wsL_hasRing wsX7_hasRing := goodIn_ca (goodIn_ca (goodIn_ca (goodIn_r _ [6, 7, 8, 9, 10, 5, 11, 12, 13, 14, 15, 16, 17, 18, 19, 20, 21, 22, 23, 24, 25, 26, 27, 28, 29, 30, 31, 32, 33, 34, 35, 36, 37, 38, 39, 40, 41, 42, 43, 44, 45, 46, 47, 48, 49, 50, 51, 52, 53, 54, 55, 56, 57, 58, 59, 60, 61, 62, 63, 64, 65, 66, 67, 68, 69, 70, 71, 72, 73, 74, 75, 76, 77, 78, 79, 80, 81, 82, 83, 84, 85, 86, 87, 88, 89, 90, 91, 92, 93, 94, 95, 96, 97, 98, 99, 100, 101, 102, 103, 104, 105, 106, 107, 108, 109, 110, 111, 112, 113, 114, 115, 116, 117, 118, 119, 120, 121, 122, 123, 124, 125, 126, 127, 128, 129, 130, 131, 132, 133, 134, 135, 136, 137, 138, 139, 140, 141, 142, 143, 144, 145, 146, 147, 148, 149, 150, 151, 152, 153, 154, 155, 156, 157, 158, 159, 160, 161, 162, 163, 164, 165, 166, 167, 168, 169, 170, 171, 172, 173, 174, 175, 176, 177, 178, 179, 180, 181, 182, 183, 184, 185, 186, 187, 188, 189] (by decide +kernel) (by decide +kernel)) (goodIn_sub (fun _ h => List.mem_cons_of_mem _ (List.mem_append_left _ (List.mem_append_right _ h))) (by decide +kernel))) (goodIn_sub (fun _ h => List.mem_cons_of_mem _ (List.mem_append_left _ (List.mem_append_left _ (List.mem_append_right _ h)))) (by decide +kernel))) (goodIn_sub (fun _ h => List.mem_cons_of_mem _ (List.mem_append_right _ h)) (by decide +kernel))
set_option maxRecDepth 20000 in
theorem gL_hasRing_X7_hasRing : GoodIn wsL_hasRing (wsV RL 105 RX7 yX7_hasRing wsX7_hasRing) := goodIn_app (goodIn_of _ (by decide +kernel)) ggL_hasRing_X7_hasRing
theorem dL_hasRing_6 : decode cL_hasRing 6 = .ok (.ifCond .eq 7, 3) := by decide +kernel
theorem dL_hasRing_13 : decode cL_hasRing 13 = .ok (.lconst 0, 1) := by decide +kernel
theorem dL_hasRing_14 : decode cL_hasRing 14 = .ok (.lastore, 1) := by decide +kernel
theorem dL_hasRing_15 : decode cL_hasRing 15 = .ok (.goto 6, 3) := by decide +kernel
theorem dL_hasRing_21 : decode cL_hasRing 21 = .ok (.iconst 0, 1) := by decide +kernel
theorem dL_hasRing_22 : decode cL_hasRing 22 = .ok (.ireturn, 1) := by decide +kernel
set_option maxHeartbeats 4000000 in
set_option maxRecDepth 100000 in
theorem k_L_hasRing (l : Launch) (hl9 : l.stackTraces = false) (D : va_G) (cy : Nat → ClassId) (h1 : Nat) (h2 : Nat) (h3 : Nat) (h4 : Nat) (x5 : Value) (h6 : Nat) (x7 : Value) (x8 : Value) (x9 : Value) (g10 : Nat → Int64) (x11 : Value) (x12 : Value) (x13 : Value) (x14 : Value) (x15 : Value) (x16 : Value) (x17 : Value) (x18 : Value) (x19 : Value) (h20 : Nat) (h21 : Nat) (h22 : Nat) (h23 : Nat) (h24 : Nat) (h25 : Nat) (h26 : Nat) (g27 : Nat → Int32) (g28 : Nat → Int32) (kg28_0 : g28 0 = 0) (g29 : Nat → Int32) (kg29_0 : g29 0 = 0) (g30 : Nat → Int32) (g31 : Nat → Int32) (kg31_0 : g31 0 = 0) (g32 : Nat → Int32) (kg32_0 : g32 0 = 0) (x33 : Value) (x34 : Value) (x35 : Value) (sz : Nat) : Met l yL_hasRing wsL_hasRing ({ frames := 4, cells := 0, slots := 0, locals := 89 }) (kWX D cy [.ref h1, .ref h2] [(h1, .inr (9, [.ref h3, .ref h4, x5, .ref h6, x7, x8, x9])), (h2, .inl (cy 2, 1, .inr (.inl g10))), (h3, .inr (2, [x11, x12, x13, .int 0])), (h4, .inr (5, [x14, x15, .int 0])), (h6, .inr (8, [x16, x17, x18, x19, .ref h20, .ref h21, .ref h22, .ref h23, .ref h24, .ref h25, .ref h26, .int 0, .int 0])), (h20, .inl (cy 1, 1000, .inl g27)), (h21, .inl (cy 1, 1000, .inl g28)), (h22, .inl (cy 1, 1000, .inl g29)), (h23, .inl (cy 1, 1000, .inl g30)), (h24, .inl (cy 1, 1000, .inl g31)), (h25, .inl (cy 1, 1000, .inl g32)), (h26, .inr (5, [x33, x34, x35]))] sz) (va_Qi (fun (r : Int32) (_ : Unit) => r = 0 ∧ True) (fun (_ : Unit) (t : State) => va_P D vwCl [(h2, .inl (cy 2, 1, .inr (.inl (vp_updL g10 0 0))))] t.heap ∧ va_D (va_A [(h1, .inr (9, [.ref h3, .ref h4, x5, .ref h6, x7, x8, x9])), (h2, .inl (cy 2, 1, .inr (.inl g10))), (h3, .inr (2, [x11, x12, x13, .int 0])), (h4, .inr (5, [x14, x15, .int 0])), (h6, .inr (8, [x16, x17, x18, x19, .ref h20, .ref h21, .ref h22, .ref h23, .ref h24, .ref h25, .ref h26, .int 0, .int 0])), (h20, .inl (cy 1, 1000, .inl g27)), (h21, .inl (cy 1, 1000, .inl g28)), (h22, .inl (cy 1, 1000, .inl g29)), (h23, .inl (cy 1, 1000, .inl g30)), (h24, .inl (cy 1, 1000, .inl g31)), (h25, .inl (cy 1, 1000, .inl g32)), (h26, .inr (5, [x33, x34, x35]))] sz) [(h2, .inl (cy 2, 1, .inr (.inl (vp_updL g10 0 0))))]) (va_A [(h1, .inr (9, [.ref h3, .ref h4, x5, .ref h6, x7, x8, x9])), (h2, .inl (cy 2, 1, .inr (.inl g10))), (h3, .inr (2, [x11, x12, x13, .int 0])), (h4, .inr (5, [x14, x15, .int 0])), (h6, .inr (8, [x16, x17, x18, x19, .ref h20, .ref h21, .ref h22, .ref h23, .ref h24, .ref h25, .ref h26, .int 0, .int 0])), (h20, .inl (cy 1, 1000, .inl g27)), (h21, .inl (cy 1, 1000, .inl g28)), (h22, .inl (cy 1, 1000, .inl g29)), (h23, .inl (cy 1, 1000, .inl g30)), (h24, .inl (cy 1, 1000, .inl g31)), (h25, .inl (cy 1, 1000, .inl g32)), (h26, .inr (5, [x33, x34, x35]))] sz)) 0 0 (va_A [(h1, .inr (9, [.ref h3, .ref h4, x5, .ref h6, x7, x8, x9])), (h2, .inl (cy 2, 1, .inr (.inl g10))), (h3, .inr (2, [x11, x12, x13, .int 0])), (h4, .inr (5, [x14, x15, .int 0])), (h6, .inr (8, [x16, x17, x18, x19, .ref h20, .ref h21, .ref h22, .ref h23, .ref h24, .ref h25, .ref h26, .int 0, .int 0])), (h20, .inl (cy 1, 1000, .inl g27)), (h21, .inl (cy 1, 1000, .inl g28)), (h22, .inl (cy 1, 1000, .inl g29)), (h23, .inl (cy 1, 1000, .inl g30)), (h24, .inl (cy 1, 1000, .inl g31)), (h25, .inl (cy 1, 1000, .inl g32)), (h26, .inr (5, [x33, x34, x35]))] sz) := by
  refine va_MetW (cc := cL_hasRing) (maxL := 3) (ret := (some .int)) (by decide) rfl ?_
  intro p e s m args below meth c s₁ B hml hv
  obtain ⟨rfl, hsz, hP, hK, hD0, hE⟩ := hv
  have hx := B.exec
  have hb := B.bytes
  have hr := B.returns
  have hts := atoms_spec (ws := wsL_hasRing) B.pre
  have hown : s.vm.findClass RL = some m.cls := findClass_of_methodNamed B.named
  have hlocks := B.notSynchronized
  have htb := vx_table (x := yL_hasRing) B (hts _ (List.mem_cons_self))
  subst hsz
  have hD := hD0.self (sz := s.heap.size)
  generalize hAe : va_A [(h1, .inr (9, [.ref h3, .ref h4, x5, .ref h6, x7, x8, x9])), (h2, .inl (cy 2, 1, .inr (.inl g10))), (h3, .inr (2, [x11, x12, x13, .int 0])), (h4, .inr (5, [x14, x15, .int 0])), (h6, .inr (8, [x16, x17, x18, x19, .ref h20, .ref h21, .ref h22, .ref h23, .ref h24, .ref h25, .ref h26, .int 0, .int 0])), (h20, .inl (cy 1, 1000, .inl g27)), (h21, .inl (cy 1, 1000, .inl g28)), (h22, .inl (cy 1, 1000, .inl g29)), (h23, .inl (cy 1, 1000, .inl g30)), (h24, .inl (cy 1, 1000, .inl g31)), (h25, .inl (cy 1, 1000, .inl g32)), (h26, .inr (5, [x33, x34, x35]))] s.heap.size = A at hD hE ⊢
  have hA : ∀ q : Nat, s.heap.size ≤ q → A q := fun q h => by rw [← hAe]; exact Or.inr h
  have hS : va_S A s.heap s.heap [] := va_S.rf
  have hP : va_P D vwCl [(h1, .inr (9, [.ref h3, .ref h4, x5, .ref h6, x7, x8, x9])), (h2, .inl (cy 2, 1, .inr (.inl g10))), (h3, .inr (2, [x11, x12, x13, .int 0])), (h4, .inr (5, [x14, x15, .int 0])), (h6, .inr (8, [x16, x17, x18, x19, .ref h20, .ref h21, .ref h22, .ref h23, .ref h24, .ref h25, .ref h26, .int 0, .int 0])), (h20, .inl (cy 1, 1000, .inl g27)), (h21, .inl (cy 1, 1000, .inl g28)), (h22, .inl (cy 1, 1000, .inl g29)), (h23, .inl (cy 1, 1000, .inl g30)), (h24, .inl (cy 1, 1000, .inl g31)), (h25, .inl (cy 1, 1000, .inl g32)), (h26, .inr (5, [x33, x34, x35]))] s.heap := hP
  have hl := lv_entry ([.ref h1, .ref h2]) (n := 3) (Nat.le_of_ble_eq_true rfl)
  rw [lg_entry_eq]
  generalize (lg_sl ([.ref h1, .ref h2]) ++ List.replicate (3 - (lg_sl ([.ref h1, .ref h2])).length) Slot.unset).toArray = ls at hl ⊢
  have hl : lv_has ls 3 [(0, .ref h1), (1, .ref h2)] := hl
  refine lv_aload_n hx hb dL_hasRing_0 rfl (lv_at hl 1 rfl) ?_
  refine lv_iconst (v := 0) hx hb dL_hasRing_1 (by decide) ?_
  refine lv_aload_n hx hb dL_hasRing_2 rfl (lv_at hl 0 rfl) ?_
  have hPc := hP.sub (ws' := [(h1, .inr (9, [.ref h3, .ref h4, x5, .ref h6, x7, x8, x9])), (h3, .inr (2, [x11, x12, x13, .int 0])), (h4, .inr (5, [x14, x15, .int 0])), (h6, .inr (8, [x16, x17, x18, x19, .ref h20, .ref h21, .ref h22, .ref h23, .ref h24, .ref h25, .ref h26, .int 0, .int 0])), (h20, .inl (cy 1, 1000, .inl g27)), (h21, .inl (cy 1, 1000, .inl g28)), (h22, .inl (cy 1, 1000, .inl g29)), (h23, .inl (cy 1, 1000, .inl g30)), (h24, .inl (cy 1, 1000, .inl g31)), (h25, .inl (cy 1, 1000, .inl g32)), (h26, .inr (5, [x33, x34, x35]))]) [0, 2, 3, 4, 5, 6, 7, 8, 9, 10, 11] rfl
  have hDc := hD.sub (ws' := [(h1, .inr (9, [.ref h3, .ref h4, x5, .ref h6, x7, x8, x9])), (h3, .inr (2, [x11, x12, x13, .int 0])), (h4, .inr (5, [x14, x15, .int 0])), (h6, .inr (8, [x16, x17, x18, x19, .ref h20, .ref h21, .ref h22, .ref h23, .ref h24, .ref h25, .ref h26, .int 0, .int 0])), (h20, .inl (cy 1, 1000, .inl g27)), (h21, .inl (cy 1, 1000, .inl g28)), (h22, .inl (cy 1, 1000, .inl g29)), (h23, .inl (cy 1, 1000, .inl g30)), (h24, .inl (cy 1, 1000, .inl g31)), (h25, .inl (cy 1, 1000, .inl g32)), (h26, .inr (5, [x33, x34, x35]))]) [0, 2, 3, 4, 5, 6, 7, 8, 9, 10, 11] (by decide) rfl
  have hFc := va_free (wc := [(h1, .inr (9, [.ref h3, .ref h4, x5, .ref h6, x7, x8, x9])), (h3, .inr (2, [x11, x12, x13, .int 0])), (h4, .inr (5, [x14, x15, .int 0])), (h6, .inr (8, [x16, x17, x18, x19, .ref h20, .ref h21, .ref h22, .ref h23, .ref h24, .ref h25, .ref h26, .int 0, .int 0])), (h20, .inl (cy 1, 1000, .inl g27)), (h21, .inl (cy 1, 1000, .inl g28)), (h22, .inl (cy 1, 1000, .inl g29)), (h23, .inl (cy 1, 1000, .inl g30)), (h24, .inl (cy 1, 1000, .inl g31)), (h25, .inl (cy 1, 1000, .inl g32)), (h26, .inr (5, [x33, x34, x35]))]) hD hS hA [0, 2, 3, 4, 5, 6, 7, 8, 9, 10, 11] rfl
  refine va_calli (va_runV (As := []) (rest := [.int 0, .ref h2]) ⟨hx, hb, hml, hown, hts⟩ (k_X7_hasRing l hl9 D cy h1 h3 h4 (x5) h6 (x7) (x8) (x9) (x11) (x12) (x13) (x14) (x15) (x16) (x17) (x18) (x19) h20 h21 h22 h23 h24 h25 h26 g27 g28 (kg28_0) g29 (kg29_0) g30 g31 (kg31_0) g32 (kg32_0) (x33) (x34) (x35) s.heap.size) (cwV 0 hts gL_hasRing_X7_hasRing rfl rfl rfl (by decide +kernel) ⟨(Nat.le_of_ble_eq_true rfl), (Nat.le_of_ble_eq_true rfl)⟩) ⟨kWX_fb, va_recv hK hP (ci := 9) (q0 := 0) rfl rfl, (kWX_go hPc hK hDc hFc hE hS)⟩ rfl rfl hl.1 rfl (lv_room (Nat.le_of_ble_eq_true rfl)) dL_hasRing_3 ⟨(Nat.le_of_ble_eq_true rfl), (Nat.le_of_ble_eq_true rfl)⟩) hS (fun q _ h => hFc q h) hFc (fun r9 u t H locs ht hvm hw hB hz1 hk1 hS => ?_)
  obtain ⟨hP1, hD1⟩ := hB
  rw [ht] at hP1
  try dsimp only at hw hP1 hD1
  obtain ⟨hP, hD⟩ := va_join (wr := [(h2, .inl (cy 2, 1, .inr (.inl g10)))]) (w1 := [(h1, .inr (9, [.ref h3, .ref h4, x5, .ref h6, x7, x8, x9])), (h3, .inr (2, [x11, x12, x13, .int 0])), (h4, .inr (5, [x14, x15, .int 0])), (h6, .inr (8, [x16, x17, x18, x19, .ref h20, .ref h21, .ref h22, .ref h23, .ref h24, .ref h25, .ref h26, .int 1, .int 1])), (h20, .inl (cy 1, 1000, .inl (upd g27 0 0))), (h21, .inl (cy 1, 1000, .inl (upd g28 0 0))), (h22, .inl (cy 1, 1000, .inl (upd (upd g29 0 0) 0 2))), (h23, .inl (cy 1, 1000, .inl (upd g30 0 0))), (h24, .inl (cy 1, 1000, .inl (upd g31 0 30))), (h25, .inl (cy 1, 1000, .inl (upd g32 0 0))), (h26, .inr (5, [x33, x34, .int 0]))]) hP hD [0, 2, 3, 4, 5, 6, 7, 8, 9, 10, 11] [1] rfl rfl (by decide) (by decide) hk1 hFc hP1 hD1
  have hP : va_P D vwCl [(h2, .inl (cy 2, 1, .inr (.inl g10))), (h1, .inr (9, [.ref h3, .ref h4, x5, .ref h6, x7, x8, x9])), (h3, .inr (2, [x11, x12, x13, .int 0])), (h4, .inr (5, [x14, x15, .int 0])), (h6, .inr (8, [x16, x17, x18, x19, .ref h20, .ref h21, .ref h22, .ref h23, .ref h24, .ref h25, .ref h26, .int 1, .int 1])), (h20, .inl (cy 1, 1000, .inl (upd g27 0 0))), (h21, .inl (cy 1, 1000, .inl (upd g28 0 0))), (h22, .inl (cy 1, 1000, .inl (upd (upd g29 0 0) 0 2))), (h23, .inl (cy 1, 1000, .inl (upd g30 0 0))), (h24, .inl (cy 1, 1000, .inl (upd g31 0 30))), (h25, .inl (cy 1, 1000, .inl (upd g32 0 0))), (h26, .inr (5, [x33, x34, .int 0]))] H := hP
  have hD : va_D A [(h2, .inl (cy 2, 1, .inr (.inl g10))), (h1, .inr (9, [.ref h3, .ref h4, x5, .ref h6, x7, x8, x9])), (h3, .inr (2, [x11, x12, x13, .int 0])), (h4, .inr (5, [x14, x15, .int 0])), (h6, .inr (8, [x16, x17, x18, x19, .ref h20, .ref h21, .ref h22, .ref h23, .ref h24, .ref h25, .ref h26, .int 1, .int 1])), (h20, .inl (cy 1, 1000, .inl (upd g27 0 0))), (h21, .inl (cy 1, 1000, .inl (upd g28 0 0))), (h22, .inl (cy 1, 1000, .inl (upd (upd g29 0 0) 0 2))), (h23, .inl (cy 1, 1000, .inl (upd g30 0 0))), (h24, .inl (cy 1, 1000, .inl (upd g31 0 30))), (h25, .inl (cy 1, 1000, .inl (upd g32 0 0))), (h26, .inr (5, [x33, x34, .int 0]))] := hD
  obtain ⟨rfl, hw⟩ := hw
  refine lv_if_eq (tgt := 13) hx hb dL_hasRing_6 (by decide) (fun _ => ?_) (fun h => absurd (by decide) h)
  refine lv_lconst (v := 0) hx hb dL_hasRing_13 (by decide) ?_
  refine va_last hx hb hK hP hD hS 0 2 rfl rfl (kx_in 0 1 rfl ⟨(Nat.le_of_ble_eq_true rfl), (Nat.le_of_ble_eq_true rfl)⟩ (Nat.le_of_ble_eq_true rfl)) dL_hasRing_14 (fun H locs hP hD hS => ?_)
  have hP : va_P D vwCl [(h2, .inl (cy 2, 1, .inr (.inl (vp_updL g10 0 0)))), (h1, .inr (9, [.ref h3, .ref h4, x5, .ref h6, x7, x8, x9])), (h3, .inr (2, [x11, x12, x13, .int 0])), (h4, .inr (5, [x14, x15, .int 0])), (h6, .inr (8, [x16, x17, x18, x19, .ref h20, .ref h21, .ref h22, .ref h23, .ref h24, .ref h25, .ref h26, .int 1, .int 1])), (h20, .inl (cy 1, 1000, .inl (upd g27 0 0))), (h21, .inl (cy 1, 1000, .inl (upd g28 0 0))), (h22, .inl (cy 1, 1000, .inl (upd (upd g29 0 0) 0 2))), (h23, .inl (cy 1, 1000, .inl (upd g30 0 0))), (h24, .inl (cy 1, 1000, .inl (upd g31 0 30))), (h25, .inl (cy 1, 1000, .inl (upd g32 0 0))), (h26, .inr (5, [x33, x34, .int 0]))] H := hP
  have hD : va_D A [(h2, .inl (cy 2, 1, .inr (.inl (vp_updL g10 0 0)))), (h1, .inr (9, [.ref h3, .ref h4, x5, .ref h6, x7, x8, x9])), (h3, .inr (2, [x11, x12, x13, .int 0])), (h4, .inr (5, [x14, x15, .int 0])), (h6, .inr (8, [x16, x17, x18, x19, .ref h20, .ref h21, .ref h22, .ref h23, .ref h24, .ref h25, .ref h26, .int 1, .int 1])), (h20, .inl (cy 1, 1000, .inl (upd g27 0 0))), (h21, .inl (cy 1, 1000, .inl (upd g28 0 0))), (h22, .inl (cy 1, 1000, .inl (upd (upd g29 0 0) 0 2))), (h23, .inl (cy 1, 1000, .inl (upd g30 0 0))), (h24, .inl (cy 1, 1000, .inl (upd g31 0 30))), (h25, .inl (cy 1, 1000, .inl (upd g32 0 0))), (h26, .inr (5, [x33, x34, .int 0]))] := hD
  refine lv_goto (tgt := 21) hx hb dL_hasRing_15 (by decide) ?_
  refine lv_iconst (v := 0) hx hb dL_hasRing_21 (by decide) ?_
  refine W.widen (k := 0) (n := 0) (Nat.le_of_ble_eq_true rfl) (Nat.le_of_ble_eq_true rfl) ?_
  have hP9 := hP.sub (ws' := [(h2, .inl (cy 2, 1, .inr (.inl (vp_updL g10 0 0))))]) [0] rfl
  have hD9 := hD.sub (ws' := [(h2, .inl (cy 2, 1, .inr (.inl (vp_updL g10 0 0))))]) [0] (by decide) rfl
  exact W.iret (v := 0) hx hb hr (fun t ht hW => ⟨⟨0, (), rfl, ⟨rfl, trivial⟩, ⟨by rw [ht]; exact hP9, hD9⟩⟩, hS.F ht⟩) hS.2.2 dL_hasRing_22
theorem dX8_rings_0 : decode cX8_rings 0 = .ok (.ldc_w 258, 3) := by decide +kernel
theorem dX8_rings_3 : decode cX8_rings 3 = .ok (.newarray .int, 2) := by decide +kernel
theorem dX8_rings_5 : decode cX8_rings 5 = .ok (.astore_n 1, 1) := by decide +kernel
theorem dX8_rings_6 : decode cX8_rings 6 = .ok (.aload_n 0, 1) := by decide +kernel
theorem dX8_rings_7 : decode cX8_rings 7 = .ok (.invokevirtual 233, 3) := by decide +kernel
set_option maxRecDepth 20000 in
theorem ggX8_rings_X8_all : GoodIn wsX8_rings wsX8_all := goodIn_ca (goodIn_r _ [8, 9, 10, 11, 12, 13, 14, 15, 16, 17, 3, 18, 19, 20, 21, 22, 23, 24, 25, 26, 27, 28, 29, 30, 31, 32, 33, 34, 35, 36, 37, 7, 38, 39, 40, 41, 42, 43, 44, 45, 46, 47, 48, 49, 50, 51, 52, 53, 54, 55, 56, 57, 58, 59, 60, 61, 62, 63, 64, 65, 66, 67, 68, 69, 70, 71, 72, 73, 74, 75, 76, 77, 78, 79, 80, 81, 82, 83, 84, 85, 86, 87, 88, 89, 90, 91, 92, 93, 94, 95, 96, 97, 98, 99, 100, 164, 165, 166, 167, 168, 169, 170, 171, 172, 173, 174, 175, 176, 177, 178, 179, 180, 181, 182, 183, 184] (by decide +kernel) (by decide +kernel)) (goodIn_sub (fun _ h => List.mem_cons_of_mem _ (List.mem_append_left _ (List.mem_append_right _ h))) (by decide +kernel))
set_option maxRecDepth 20000 in
theorem gX8_rings_X8_all : GoodIn wsX8_rings (wsV RX8 233 RX8 yX8_all wsX8_all) := goodIn_app (goodIn_of _ (by decide +kernel)) ggX8_rings_X8_all
theorem dX8_rings_10 : decode cX8_rings 10 = .ok (.invokevirtual 211, 3) := by decide +kernel
set_option maxRecDepth 20000 in
theorem ggX8_rings_Jx4a65c_iterator_32c93 : GoodIn wsX8_rings wsJx4a65c_iterator_32c93 := goodIn_r _ [104, 105, 106, 107, 108, 109, 110, 111, 112, 33, 34, 113, 114, 47, 115, 185, 186, 187, 188, 164, 165, 166] (by decide +kernel) (by decide +kernel)
set_option maxRecDepth 20000 in
theorem gX8_rings_Jx4a65c_iterator_32c93 : GoodIn wsX8_rings (wsV RX8 211 RJx4a65c yJx4a65c_iterator_32c93 wsJx4a65c_iterator_32c93) := goodIn_app (goodIn_of _ (by decide +kernel)) ggX8_rings_Jx4a65c_iterator_32c93
theorem dX8_rings_13 : decode cX8_rings 13 = .ok (.astore_n 2, 1) := by decide +kernel
theorem dX8_rings_14 : decode cX8_rings 14 = .ok (.aload_n 2, 1) := by decide +kernel
theorem dX8_rings_15 : decode cX8_rings 15 = .ok (.invokeinterface 215 1, 5) := by decide +kernel
set_option maxRecDepth 20000 in
theorem ggX8_rings_Jx35411_hasNext_aae02 : GoodIn wsX8_rings wsJx35411_hasNext_aae02 := goodIn_r _ [119, 120, 111, 185, 186, 187, 188, 164, 165, 166] (by decide +kernel) (by decide +kernel)
set_option maxRecDepth 20000 in
theorem gX8_rings_Jx35411_hasNext_aae02_f215Jx35411 : GoodIn wsX8_rings (va_wsF RX8 215 RJx35411 ⟨"java/util/Iterator", "hasNext", "()Z"⟩ yJx35411_hasNext_aae02 wsJx35411_hasNext_aae02) := goodIn_app (goodIn_of _ (by decide +kernel)) ggX8_rings_Jx35411_hasNext_aae02
theorem dX8_rings_20 : decode cX8_rings 20 = .ok (.ifCond .eq 28, 3) := by decide +kernel
theorem dX8_rings_23 : decode cX8_rings 23 = .ok (.aload_n 2, 1) := by decide +kernel
theorem dX8_rings_24 : decode cX8_rings 24 = .ok (.invokeinterface 220 1, 5) := by decide +kernel
set_option maxRecDepth 20000 in
theorem ggX8_rings_Jx35411_next_0502b : GoodIn wsX8_rings wsJx35411_next_0502b := goodIn_r _ [124, 120, 111, 125, 113, 126, 127, 128, 107, 129, 114, 47, 115, 185, 186, 187, 188, 164, 165, 166] (by decide +kernel) (by decide +kernel)
set_option maxRecDepth 20000 in
theorem gX8_rings_Jx35411_next_0502b_f220Jx35411 : GoodIn wsX8_rings (va_wsF RX8 220 RJx35411 ⟨"java/util/Iterator", "next", "()Ljava/lang/Object;"⟩ yJx35411_next_0502b wsJx35411_next_0502b) := goodIn_app (goodIn_of _ (by decide +kernel)) ggX8_rings_Jx35411_next_0502b
theorem dX8_rings_29 : decode cX8_rings 29 = .ok (.checkcast 156, 3) := by decide +kernel
theorem dX8_rings_32 : decode cX8_rings 32 = .ok (.astore_n 3, 1) := by decide +kernel
theorem dX8_rings_33 : decode cX8_rings 33 = .ok (.aload_n 0, 1) := by decide +kernel
theorem dX8_rings_34 : decode cX8_rings 34 = .ok (.aload_n 3, 1) := by decide +kernel
theorem dX8_rings_35 : decode cX8_rings 35 = .ok (.aload_n 1, 1) := by decide +kernel
theorem dX8_rings_36 : decode cX8_rings 36 = .ok (.invokevirtual 254, 3) := by decide +kernel
set_option maxRecDepth 20000 in
theorem ggX8_rings_X8_longest : GoodIn wsX8_rings wsX8_longest := goodIn_ca (goodIn_ca (goodIn_r _ [133, 39, 41, 40, 134, 62, 63, 64, 135, 136, 7, 137, 95, 96, 97, 98, 99, 100, 138, 139, 140, 141, 142, 143, 144, 145, 146, 147, 148, 149, 150, 151, 152, 153, 154, 155, 156, 157, 158, 159, 160, 161, 162, 163, 13, 14, 15, 16, 17, 3, 130, 131, 132, 167, 168, 169, 170, 171, 172, 173, 174, 175, 176, 177, 178, 179, 180, 181, 182, 183, 184] (by decide +kernel) (by decide +kernel)) (goodIn_sub (fun _ h => List.mem_cons_of_mem _ (List.mem_append_left _ (List.mem_append_right _ h))) (by decide +kernel))) (goodIn_sub (fun _ h => List.mem_cons_of_mem _ (List.mem_append_right _ h)) (by decide +kernel))
set_option maxRecDepth 20000 in
theorem gX8_rings_X8_longest : GoodIn wsX8_rings (wsV RX8 254 RX8 yX8_longest wsX8_longest) := goodIn_app (goodIn_of _ (by decide +kernel)) ggX8_rings_X8_longest
theorem dX8_rings_39 : decode cX8_rings 39 = .ok (.iconst (-1), 1) := by decide +kernel
theorem dX8_rings_40 : decode cX8_rings 40 = .ok (.if_icmp .ne 5, 3) := by decide +kernel
theorem dX8_rings_45 : decode cX8_rings 45 = .ok (.goto (-31), 3) := by decide +kernel
theorem dX8_rings_48 : decode cX8_rings 48 = .ok (.iconst 0, 1) := by decide +kernel
theorem dX8_rings_49 : decode cX8_rings 49 = .ok (.ireturn, 1) := by decide +kernel
set_option maxHeartbeats 4000000 in
set_option maxRecDepth 100000 in
theorem k_X8_rings (l : Launch) (hl9 : l.stackTraces = false) (D : va_G) (cy : Nat → ClassId) (de : Nat) (h1 : Nat) (x2 : Value) (x3 : Value) (x4 : Value) (x5 : Value) (x6 : Value) (x7 : Value) (x8 : Value) (x9 : Value) (x10 : Value) (x11 : Value) (x12 : Value) (x13 : Value) (h14 : Nat) (x15 : Value) (x16 : Value) (x17 : Value) (x18 : Value) (g19 : Nat → Int32) (kg19_0 : g19 0 = (-1)) (kg19_1 : g19 1 = (-1)) (kg19_2 : g19 2 = (-1)) (kg19_3 : g19 3 = (-1)) (kg19_4 : g19 4 = (-1)) (kg19_5 : g19 5 = (-1)) (sz : Nat) : Met l yX8_rings wsX8_rings ({ frames := 7, cells := 6, slots := 46685, locals := 147 }) (kWY D cy de [.ref h1] [(h1, .inr (10, [x2, x3, x4, x5, x6, x7, x8, x9, x10, x11, x12, x13, .ref h14, x15, x16, .int 0, x17, x18])), (h14, .inl (cy 1, 6, .inl g19))] sz) (va_Qi (fun (r : Int32) (_ : Unit) => r = 0 ∧ True) (fun (_ : Unit) (t : State) => va_P D vwCl [(h1, .inr (10, [x2, x3, x4, x5, x6, x7, x8, x9, x10, x11, x12, x13, .ref h14, x15, x16, .int 0, x17, x18])), (h14, .inl (cy 1, 6, .inl g19))] t.heap ∧ va_D (va_A [(h1, .inr (10, [x2, x3, x4, x5, x6, x7, x8, x9, x10, x11, x12, x13, .ref h14, x15, x16, .int 0, x17, x18])), (h14, .inl (cy 1, 6, .inl g19))] sz) [(h1, .inr (10, [x2, x3, x4, x5, x6, x7, x8, x9, x10, x11, x12, x13, .ref h14, x15, x16, .int 0, x17, x18])), (h14, .inl (cy 1, 6, .inl g19))]) (va_A [(h1, .inr (10, [x2, x3, x4, x5, x6, x7, x8, x9, x10, x11, x12, x13, .ref h14, x15, x16, .int 0, x17, x18])), (h14, .inl (cy 1, 6, .inl g19))] sz)) 6 46685 (va_A [(h1, .inr (10, [x2, x3, x4, x5, x6, x7, x8, x9, x10, x11, x12, x13, .ref h14, x15, x16, .int 0, x17, x18])), (h14, .inl (cy 1, 6, .inl g19))] sz) := by
  refine Met.ofW (cc := cX8_rings) (maxL := 4) (ret := (some .boolean)) (by decide) rfl ?_
  intro p e s m args below meth c s₁ B hml hv
  obtain ⟨rfl, hsz, hP, hK, hD0, hE, hY⟩ := hv
  have hx := B.exec
  have hb := B.bytes
  have hr := B.returns
  have hts := atoms_spec (ws := wsX8_rings) B.pre
  have hown : s.vm.findClass RX8 = some m.cls := findClass_of_methodNamed B.named
  have hlocks := B.notSynchronized
  subst hsz
  have hD := hD0.self (sz := s.heap.size)
  generalize hAe : va_A [(h1, .inr (10, [x2, x3, x4, x5, x6, x7, x8, x9, x10, x11, x12, x13, .ref h14, x15, x16, .int 0, x17, x18])), (h14, .inl (cy 1, 6, .inl g19))] s.heap.size = A at hD hE hY ⊢
  have hA : ∀ q : Nat, s.heap.size ≤ q → A q := fun q h => by rw [← hAe]; exact Or.inr h
  have hS : va_S A s.heap s.heap [] := va_S.rf
  have hP : va_P D vwCl [(h1, .inr (10, [x2, x3, x4, x5, x6, x7, x8, x9, x10, x11, x12, x13, .ref h14, x15, x16, .int 0, x17, x18])), (h14, .inl (cy 1, 6, .inl g19))] s.heap := hP
  have hl := lv_entry ([.ref h1]) (n := 4) (Nat.le_of_ble_eq_true rfl)
  rw [lg_entry_eq]
  generalize (lg_sl ([.ref h1]) ++ List.replicate (4 - (lg_sl ([.ref h1])).length) Slot.unset).toArray = ls at hl ⊢
  have hl : lv_has ls 4 [(0, .ref h1)] := hl
  refine lv_ldcw (v := 46656) hx hb hown (hts (.constant RX8 258 (46656)) (List.mem_cons_of_mem _ (List.mem_append_left _ (List.mem_append_left _ (List.mem_append_left _ (List.mem_append_left _ (List.mem_append_left _ (List.mem_append_left _ (List.mem_of_getElem? (i := 0) rfl))))))))) dX8_rings_0 ?_
  refine va_newa (atype := .int) (ty := .int) (N' := 46656) (a0 := (46656, .inl (fun _ => 0))) hx hb (hts (.arrayClass .int) (List.mem_cons_of_mem _ (List.mem_append_left _ (List.mem_append_left _ (List.mem_append_left _ (List.mem_append_left _ (List.mem_append_left _ (List.mem_append_left _ (List.mem_of_getElem? (i := 1) rfl))))))))) rfl hK hP hD hS hA (fun _ => rfl) (by decide) (by decide) (Nat.le_of_ble_eq_true rfl) (Nat.le_of_ble_eq_true rfl) (Nat.le_of_ble_eq_true rfl) dX8_rings_3 (fun q_1 cA_2 H hK hP hD hS => ?_)
  obtain rfl : cA_2 = cy 1 := kx_ty hK 10 1 rfl rfl
  have hK := hK.sub (tys' := tyG cy) [0, 1, 2, 3, 4, 5, 6, 7, 8, 9] rfl
  have hP : va_P D vwCl [(h1, .inr (10, [x2, x3, x4, x5, x6, x7, x8, x9, x10, x11, x12, x13, .ref h14, x15, x16, .int 0, x17, x18])), (h14, .inl (cy 1, 6, .inl g19)), (q_1, .inl (cy 1, 46656, .inl (fun _ => 0)))] H := hP
  have hD : va_D A [(h1, .inr (10, [x2, x3, x4, x5, x6, x7, x8, x9, x10, x11, x12, x13, .ref h14, x15, x16, .int 0, x17, x18])), (h14, .inl (cy 1, 6, .inl g19)), (q_1, .inl (cy 1, 46656, .inl (fun _ => 0)))] := hD
  refine W.widen (k := 1) (n := 46656) (Nat.le_of_ble_eq_true rfl) (Nat.le_of_ble_eq_true rfl) ?_
  refine lv_astore_n (lv' := [(1, .ref q_1), (0, .ref h1)]) hx hb dX8_rings_5 rfl hl (by decide) rfl (fun ls hl => ?_)
  refine lv_aload_n hx hb dX8_rings_6 rfl (lv_at hl 1 rfl) ?_
  have hPc := hP.sub (ws' := [(h1, .inr (10, [x2, x3, x4, x5, x6, x7, x8, x9, x10, x11, x12, x13, .ref h14, x15, x16, .int 0, x17, x18])), (h14, .inl (cy 1, 6, .inl g19))]) [0, 1] rfl
  have hDc := hD.sub (ws' := [(h1, .inr (10, [x2, x3, x4, x5, x6, x7, x8, x9, x10, x11, x12, x13, .ref h14, x15, x16, .int 0, x17, x18])), (h14, .inl (cy 1, 6, .inl g19))]) [0, 1] (by decide) rfl
  have hFc := va_free (wc := [(h1, .inr (10, [x2, x3, x4, x5, x6, x7, x8, x9, x10, x11, x12, x13, .ref h14, x15, x16, .int 0, x17, x18])), (h14, .inl (cy 1, 6, .inl g19))]) hD hS hA [0, 1] rfl
  refine va_callr (va_runV (As := []) (rest := []) ⟨hx, hb, hml, hown, hts⟩ (k_X8_all l hl9 D cy de h1 (x2) (x3) (x4) (x5) (x6) (x7) (x8) (x9) (x10) (x11) (x12) (x13) h14 (x15) (x16) (x17) (x18) g19 H.size) (cwV 0 hts gX8_rings_X8_all rfl rfl rfl (by decide +kernel) ⟨(Nat.le_of_ble_eq_true rfl), (Nat.le_of_ble_eq_true rfl)⟩) ⟨kWY_fb, va_recv hK hP (ci := 10) (q0 := 0) rfl rfl, (kWY_go hPc hK hDc hFc hE hY hS)⟩ rfl rfl hl.1 rfl (lv_room (Nat.le_of_ble_eq_true rfl)) dX8_rings_7 ⟨(Nat.le_of_ble_eq_true rfl), (Nat.le_of_ble_eq_true rfl)⟩) hS (fun q _ h => hFc q h) hFc (fun u r9 t H locs ht hvm hw hB hz1 hk1 hS => ?_)
  obtain ⟨z_3, z_4, u_5, z_6⟩ := u
  obtain ⟨e9, hB⟩ := hB
  have e9 := e9.symm
  subst e9
  obtain ⟨hP1, hD1⟩ := hB
  rw [ht] at hP1
  try dsimp only at hw hP1 hD1
  obtain ⟨hP, hD⟩ := va_join (wr := [(q_1, .inl (cy 1, 46656, .inl (fun _ => 0)))]) (w1 := [(h1, .inr (10, [x2, x3, x4, x5, x6, x7, x8, x9, x10, x11, x12, x13, .ref h14, x15, x16, .int 0, x17, x18])), (h14, .inl (cy 1, 6, .inl g19)), (z_3, .inr (1, [.int 1, .ref z_4, .int 1])), (z_4, .inl (cy 7, 10, .inr (.inr (.inr (.inr u_5))))), (z_6, .inl (cy 1, 6, .inl g19))]) hP hD [0, 1] [2] rfl rfl (by decide) (by decide) hk1 hFc hP1 hD1
  have hP : va_P D vwCl [(q_1, .inl (cy 1, 46656, .inl (fun _ => 0))), (h1, .inr (10, [x2, x3, x4, x5, x6, x7, x8, x9, x10, x11, x12, x13, .ref h14, x15, x16, .int 0, x17, x18])), (h14, .inl (cy 1, 6, .inl g19)), (z_3, .inr (1, [.int 1, .ref z_4, .int 1])), (z_4, .inl (cy 7, 10, .inr (.inr (.inr (.inr u_5))))), (z_6, .inl (cy 1, 6, .inl g19))] H := hP
  have hD : va_D A [(q_1, .inl (cy 1, 46656, .inl (fun _ => 0))), (h1, .inr (10, [x2, x3, x4, x5, x6, x7, x8, x9, x10, x11, x12, x13, .ref h14, x15, x16, .int 0, x17, x18])), (h14, .inl (cy 1, 6, .inl g19)), (z_3, .inr (1, [.int 1, .ref z_4, .int 1])), (z_4, .inl (cy 7, 10, .inr (.inr (.inr (.inr u_5))))), (z_6, .inl (cy 1, 6, .inl g19))] := hD
  refine W.widen (k := 5) (n := 46681) (Nat.le_of_ble_eq_true rfl) (Nat.le_of_ble_eq_true rfl) ?_
  obtain ⟨kf_7, hw⟩ := hw
  have hPc := hP.sub (ws' := [(z_3, .inr (1, [.int 1, .ref z_4, .int 1]))]) [3] rfl
  have hDc := hD.sub (ws' := [(z_3, .inr (1, [.int 1, .ref z_4, .int 1]))]) [3] (by decide) rfl
  have hFc := va_free (wc := [(z_3, .inr (1, [.int 1, .ref z_4, .int 1]))]) hD hS hA [3] rfl
  refine va_callr (va_runV (As := []) (rest := []) ⟨hx, hb, hml, hown, hts⟩ (k_Jx4a65c_iterator_32c93 l D cy z_3 (.ref z_4) (.int 1) H.size) (cwV 0 hts gX8_rings_Jx4a65c_iterator_32c93 rfl rfl rfl (by decide +kernel) ⟨(Nat.le_of_ble_eq_true rfl), (Nat.le_of_ble_eq_true rfl)⟩) ⟨kW_fb, va_recv hK hP (ci := 1) (q0 := 3) rfl rfl, (kW_go hPc hK hDc)⟩ rfl rfl hl.1 rfl (lv_room (Nat.le_of_ble_eq_true rfl)) dX8_rings_10 ⟨(Nat.le_of_ble_eq_true rfl), (Nat.le_of_ble_eq_true rfl)⟩) hS (fun q _ h => hFc q h) hFc (fun u r9 t H locs ht hvm hw hB hz1 hk1 hS => ?_)
  obtain ⟨z_9, rfl⟩ : ∃ z, z = u := ⟨_, rfl⟩
  obtain ⟨e9, hB⟩ := hB
  have e9 := e9.symm
  subst e9
  obtain ⟨hP1, hD1⟩ := hB
  rw [ht] at hP1
  try dsimp only at hw hP1 hD1
  obtain ⟨hP, hD⟩ := va_join (wr := [(q_1, .inl (cy 1, 46656, .inl (fun _ => 0))), (h1, .inr (10, [x2, x3, x4, x5, x6, x7, x8, x9, x10, x11, x12, x13, .ref h14, x15, x16, .int 0, x17, x18])), (h14, .inl (cy 1, 6, .inl g19)), (z_4, .inl (cy 7, 10, .inr (.inr (.inr (.inr u_5))))), (z_6, .inl (cy 1, 6, .inl g19))]) (w1 := [(z_3, .inr (1, [.int 1, .ref z_4, .int 1])), (z_9, .inr (0, [.int 0, .int (-1), .int 1, .ref z_3]))]) hP hD [3] [0, 1, 2, 4, 5] rfl rfl (by decide) (by decide) hk1 hFc hP1 hD1
  have hP : va_P D vwCl [(q_1, .inl (cy 1, 46656, .inl (fun _ => 0))), (h1, .inr (10, [x2, x3, x4, x5, x6, x7, x8, x9, x10, x11, x12, x13, .ref h14, x15, x16, .int 0, x17, x18])), (h14, .inl (cy 1, 6, .inl g19)), (z_4, .inl (cy 7, 10, .inr (.inr (.inr (.inr u_5))))), (z_6, .inl (cy 1, 6, .inl g19)), (z_3, .inr (1, [.int 1, .ref z_4, .int 1])), (z_9, .inr (0, [.int 0, .int (-1), .int 1, .ref z_3]))] H := hP
  have hD : va_D A [(q_1, .inl (cy 1, 46656, .inl (fun _ => 0))), (h1, .inr (10, [x2, x3, x4, x5, x6, x7, x8, x9, x10, x11, x12, x13, .ref h14, x15, x16, .int 0, x17, x18])), (h14, .inl (cy 1, 6, .inl g19)), (z_4, .inl (cy 7, 10, .inr (.inr (.inr (.inr u_5))))), (z_6, .inl (cy 1, 6, .inl g19)), (z_3, .inr (1, [.int 1, .ref z_4, .int 1])), (z_9, .inr (0, [.int 0, .int (-1), .int 1, .ref z_3]))] := hD
  refine W.widen (k := 6) (n := 46685) (Nat.le_of_ble_eq_true rfl) (Nat.le_of_ble_eq_true rfl) ?_
  refine lv_astore_n (lv' := [(2, .ref z_9), (1, .ref q_1), (0, .ref h1)]) hx hb dX8_rings_13 rfl hl (by decide) rfl (fun ls hl => ?_)
  refine lv_aload_n hx hb dX8_rings_14 rfl (lv_at hl 0 rfl) ?_
  have hPc := hP.sub (ws' := [(z_9, .inr (0, [.int 0, .int (-1), .int 1, .ref z_3])), (z_3, .inr (1, [.int 1, .ref z_4, .int 1]))]) [6, 5] rfl
  refine va_callFi (va_runF (hK.1 0 _ rfl).2 (As := []) (rest := []) ⟨hx, hb, hml, hown, hts⟩ (k_Jx35411_hasNext_aae02 l hl9 D cy de z_9 (.int (-1)) (.int 1) z_3 (.int 1) (.ref z_4)) (va_cwF 0 hts gX8_rings_Jx35411_hasNext_aae02_f215Jx35411 rfl rfl rfl hY.2.2.1 (by decide +kernel) ⟨(Nat.le_of_ble_eq_true rfl), (Nat.le_of_ble_eq_true rfl)⟩) ⟨kRY_fb, va_recv hK hP (ci := 0) (q0 := 6) rfl rfl, (kRY_go hPc hK hE hY hS)⟩ rfl rfl hl.1 rfl (lv_room (Nat.le_of_ble_eq_true rfl)) dX8_rings_15 ⟨(Nat.le_of_ble_eq_true rfl), (Nat.le_of_ble_eq_true rfl)⟩) hS (fun _ _ h => h.elim) (fun _ h => h.elim) (fun r9 u t H locs ht hvm hw hB hz1 hk1 hS => ?_)
  have hP := kx_kept hP hk1
  obtain ⟨rfl, hw⟩ := hw
  refine lv_if_eq (tgt := 48) hx hb dX8_rings_20 (by decide) (fun h => absurd h (by decide)) (fun _ => ?_)
  refine lv_aload_n hx hb dX8_rings_23 rfl (lv_at hl 0 rfl) ?_
  have hPc := hP.sub (ws' := [(z_9, .inr (0, [.int 0, .int (-1), .int 1, .ref z_3])), (z_3, .inr (1, [.int 1, .ref z_4, .int 1])), (z_4, .inl (cy 7, 10, .inr (.inr (.inr (.inr u_5)))))]) [6, 5, 3] rfl
  have hDc := hD.sub (ws' := [(z_9, .inr (0, [.int 0, .int (-1), .int 1, .ref z_3])), (z_3, .inr (1, [.int 1, .ref z_4, .int 1])), (z_4, .inl (cy 7, 10, .inr (.inr (.inr (.inr u_5)))))]) [6, 5, 3] (by decide) rfl
  have hFc := va_free (wc := [(z_9, .inr (0, [.int 0, .int (-1), .int 1, .ref z_3])), (z_3, .inr (1, [.int 1, .ref z_4, .int 1])), (z_4, .inl (cy 7, 10, .inr (.inr (.inr (.inr u_5)))))]) hD hS hA [6, 5, 3] rfl
  refine va_callFr (va_runF (hK.1 0 _ rfl).2 (As := []) (rest := []) ⟨hx, hb, hml, hown, hts⟩ (k_Jx35411_next_0502b l hl9 D cy de z_9 (.int (-1)) z_3 z_4 u_5 z_6 (kf_7) H.size) (va_cwF 0 hts gX8_rings_Jx35411_next_0502b_f220Jx35411 rfl rfl rfl hY.2.2.2.1 (by decide +kernel) ⟨(Nat.le_of_ble_eq_true rfl), (Nat.le_of_ble_eq_true rfl)⟩) ⟨kWY_fb, va_recv hK hP (ci := 0) (q0 := 6) rfl rfl, (kWY_go hPc hK hDc hFc hE hY hS)⟩ rfl rfl hl.1 rfl (lv_room (Nat.le_of_ble_eq_true rfl)) dX8_rings_24 ⟨(Nat.le_of_ble_eq_true rfl), (Nat.le_of_ble_eq_true rfl)⟩) hS (fun q _ h => hFc q h) hFc (fun u r9 t H locs ht hvm hw hB hz1 hk1 hS => ?_)
  obtain ⟨e9, hB⟩ := hB
  have e9 := e9.symm
  subst e9
  obtain ⟨hP1, hD1⟩ := hB
  rw [ht] at hP1
  try dsimp only at hw hP1 hD1
  obtain ⟨hP, hD⟩ := va_join (wr := [(q_1, .inl (cy 1, 46656, .inl (fun _ => 0))), (h1, .inr (10, [x2, x3, x4, x5, x6, x7, x8, x9, x10, x11, x12, x13, .ref h14, x15, x16, .int 0, x17, x18])), (h14, .inl (cy 1, 6, .inl g19)), (z_6, .inl (cy 1, 6, .inl g19))]) (w1 := [(z_9, .inr (0, [.int 1, .int 0, .int 1, .ref z_3])), (z_3, .inr (1, [.int 1, .ref z_4, .int 1])), (z_4, .inl (cy 7, 10, .inr (.inr (.inr (.inr u_5)))))]) hP hD [6, 5, 3] [0, 1, 2, 4] rfl rfl (by decide) (by decide) hk1 hFc hP1 hD1
  have hP : va_P D vwCl [(q_1, .inl (cy 1, 46656, .inl (fun _ => 0))), (h1, .inr (10, [x2, x3, x4, x5, x6, x7, x8, x9, x10, x11, x12, x13, .ref h14, x15, x16, .int 0, x17, x18])), (h14, .inl (cy 1, 6, .inl g19)), (z_6, .inl (cy 1, 6, .inl g19)), (z_9, .inr (0, [.int 1, .int 0, .int 1, .ref z_3])), (z_3, .inr (1, [.int 1, .ref z_4, .int 1])), (z_4, .inl (cy 7, 10, .inr (.inr (.inr (.inr u_5)))))] H := hP
  have hD : va_D A [(q_1, .inl (cy 1, 46656, .inl (fun _ => 0))), (h1, .inr (10, [x2, x3, x4, x5, x6, x7, x8, x9, x10, x11, x12, x13, .ref h14, x15, x16, .int 0, x17, x18])), (h14, .inl (cy 1, 6, .inl g19)), (z_6, .inl (cy 1, 6, .inl g19)), (z_9, .inr (0, [.int 1, .int 0, .int 1, .ref z_3])), (z_3, .inr (1, [.int 1, .ref z_4, .int 1])), (z_4, .inl (cy 7, 10, .inr (.inr (.inr (.inr u_5)))))] := hD
  refine va_castA hx hb hown (hts (.classLink RX8 156 "[I") (List.mem_cons_of_mem _ (List.mem_append_left _ (List.mem_append_left _ (List.mem_append_left _ (List.mem_append_left _ (List.mem_append_left _ (List.mem_append_left _ (List.mem_of_getElem? (i := 2) rfl))))))))) hP 3 rfl (va_nm_int (hK.2 1 _ rfl).2) dX8_rings_29 ?_
  refine lv_astore_n (lv' := [(3, .ref z_6), (2, .ref z_9), (1, .ref q_1), (0, .ref h1)]) hx hb dX8_rings_32 rfl hl (by decide) rfl (fun ls hl => ?_)
  refine lv_aload_n hx hb dX8_rings_33 rfl (lv_at hl 3 rfl) ?_
  refine lv_aload_n hx hb dX8_rings_34 rfl (lv_at hl 0 rfl) ?_
  refine lv_aload_n hx hb dX8_rings_35 rfl (lv_at hl 2 rfl) ?_
  have hPc := hP.sub (ws' := [(h1, .inr (10, [x2, x3, x4, x5, x6, x7, x8, x9, x10, x11, x12, x13, .ref h14, x15, x16, .int 0, x17, x18])), (z_6, .inl (cy 1, 6, .inl g19)), (q_1, .inl (cy 1, 46656, .inl (fun _ => 0)))]) [1, 3, 0] rfl
  have hDc := hD.sub (ws' := [(h1, .inr (10, [x2, x3, x4, x5, x6, x7, x8, x9, x10, x11, x12, x13, .ref h14, x15, x16, .int 0, x17, x18])), (z_6, .inl (cy 1, 6, .inl g19)), (q_1, .inl (cy 1, 46656, .inl (fun _ => 0)))]) [1, 3, 0] (by decide) rfl
  have hFc := va_free (wc := [(h1, .inr (10, [x2, x3, x4, x5, x6, x7, x8, x9, x10, x11, x12, x13, .ref h14, x15, x16, .int 0, x17, x18])), (z_6, .inl (cy 1, 6, .inl g19)), (q_1, .inl (cy 1, 46656, .inl (fun _ => 0)))]) hD hS hA [1, 3, 0] rfl
  refine va_calli (va_runV (As := [.ref z_6, .ref q_1]) (rest := []) ⟨hx, hb, hml, hown, hts⟩ (k_X8_longest l D cy h1 z_6 q_1 (x2) (x3) (x4) (x5) (x6) (x7) (x8) (x9) (x10) (x11) (x12) (x13) (.ref h14) (x15) (x16) (x17) (x18) g19 (kg19_0) (kg19_1) (kg19_2) (kg19_3) (kg19_4) (kg19_5) (fun _ => 0) (rfl) H.size) (cwV 2 hts gX8_rings_X8_longest rfl rfl rfl (by decide +kernel) ⟨(Nat.le_of_ble_eq_true rfl), (Nat.le_of_ble_eq_true rfl)⟩) ⟨kW_fb, va_recv hK hP (ci := 10) (q0 := 1) rfl rfl, (kW_go hPc hK hDc)⟩ rfl rfl hl.1 rfl (lv_room (Nat.le_of_ble_eq_true rfl)) dX8_rings_36 ⟨(Nat.le_of_ble_eq_true rfl), (Nat.le_of_ble_eq_true rfl)⟩) hS (fun q _ h => hFc q h) hFc (fun r9 u t H locs ht hvm hw hB hz1 hk1 hS => ?_)
  obtain ⟨hP1, hD1⟩ := hB
  rw [ht] at hP1
  try dsimp only at hw hP1 hD1
  obtain ⟨hP, hD⟩ := va_join (wr := [(h14, .inl (cy 1, 6, .inl g19)), (z_9, .inr (0, [.int 1, .int 0, .int 1, .ref z_3])), (z_3, .inr (1, [.int 1, .ref z_4, .int 1])), (z_4, .inl (cy 7, 10, .inr (.inr (.inr (.inr u_5)))))]) (w1 := [(h1, .inr (10, [x2, x3, x4, x5, x6, x7, x8, x9, x10, x11, x12, x13, .ref h14, x15, x16, .int 0, x17, x18])), (z_6, .inl (cy 1, 6, .inl g19)), (q_1, .inl (cy 1, 46656, .inl (upd (fun _ => 0) 0 1)))]) hP hD [1, 3, 0] [2, 4, 5, 6] rfl rfl (by decide) (by decide) hk1 hFc hP1 hD1
  have hP : va_P D vwCl [(h14, .inl (cy 1, 6, .inl g19)), (z_9, .inr (0, [.int 1, .int 0, .int 1, .ref z_3])), (z_3, .inr (1, [.int 1, .ref z_4, .int 1])), (z_4, .inl (cy 7, 10, .inr (.inr (.inr (.inr u_5))))), (h1, .inr (10, [x2, x3, x4, x5, x6, x7, x8, x9, x10, x11, x12, x13, .ref h14, x15, x16, .int 0, x17, x18])), (z_6, .inl (cy 1, 6, .inl g19)), (q_1, .inl (cy 1, 46656, .inl (upd (fun _ => 0) 0 1)))] H := hP
  have hD : va_D A [(h14, .inl (cy 1, 6, .inl g19)), (z_9, .inr (0, [.int 1, .int 0, .int 1, .ref z_3])), (z_3, .inr (1, [.int 1, .ref z_4, .int 1])), (z_4, .inl (cy 7, 10, .inr (.inr (.inr (.inr u_5))))), (h1, .inr (10, [x2, x3, x4, x5, x6, x7, x8, x9, x10, x11, x12, x13, .ref h14, x15, x16, .int 0, x17, x18])), (z_6, .inl (cy 1, 6, .inl g19)), (q_1, .inl (cy 1, 46656, .inl (upd (fun _ => 0) 0 1)))] := hD
  obtain ⟨rfl, hw⟩ := hw
  refine lv_iconst (v := (-1)) hx hb dX8_rings_39 (by decide) ?_
  refine lv_icmp_ne (tgt := 45) hx hb dX8_rings_40 (by decide) (fun _ => ?_) (fun h => absurd h (by decide))
  refine lv_goto (tgt := 14) hx hb dX8_rings_45 (by decide) ?_
  refine lv_aload_n hx hb dX8_rings_14 rfl (lv_at hl 1 rfl) ?_
  have hPc := hP.sub (ws' := [(z_9, .inr (0, [.int 1, .int 0, .int 1, .ref z_3])), (z_3, .inr (1, [.int 1, .ref z_4, .int 1]))]) [1, 2] rfl
  refine va_callFi (va_runF (hK.1 0 _ rfl).2 (As := []) (rest := []) ⟨hx, hb, hml, hown, hts⟩ (k_Jx35411_hasNext_aae02_1 l hl9 D cy de z_9 (.int 0) (.int 1) z_3 (.int 1) (.ref z_4)) (va_cwF 0 hts gX8_rings_Jx35411_hasNext_aae02_f215Jx35411 rfl rfl rfl hY.2.2.1 (by decide +kernel) ⟨(Nat.le_of_ble_eq_true rfl), (Nat.le_of_ble_eq_true rfl)⟩) ⟨kRY_fb, va_recv hK hP (ci := 0) (q0 := 1) rfl rfl, (kRY_go hPc hK hE hY hS)⟩ rfl rfl hl.1 rfl (lv_room (Nat.le_of_ble_eq_true rfl)) dX8_rings_15 ⟨(Nat.le_of_ble_eq_true rfl), (Nat.le_of_ble_eq_true rfl)⟩) hS (fun _ _ h => h.elim) (fun _ h => h.elim) (fun r9 u t H locs ht hvm hw hB hz1 hk1 hS => ?_)
  have hP := kx_kept hP hk1
  obtain ⟨rfl, hw⟩ := hw
  refine lv_if_eq (tgt := 48) hx hb dX8_rings_20 (by decide) (fun _ => ?_) (fun h => absurd (by decide) h)
  refine lv_iconst (v := 0) hx hb dX8_rings_48 (by decide) ?_
  refine W.widen (k := 6) (n := 46685) (Nat.le_of_ble_eq_true rfl) (Nat.le_of_ble_eq_true rfl) ?_
  have hP9 := hP.sub (ws' := [(h1, .inr (10, [x2, x3, x4, x5, x6, x7, x8, x9, x10, x11, x12, x13, .ref h14, x15, x16, .int 0, x17, x18])), (h14, .inl (cy 1, 6, .inl g19))]) [4, 0] rfl
  have hD9 := hD.sub (ws' := [(h1, .inr (10, [x2, x3, x4, x5, x6, x7, x8, x9, x10, x11, x12, x13, .ref h14, x15, x16, .int 0, x17, x18])), (h14, .inl (cy 1, 6, .inl g19))]) [4, 0] (by decide) rfl
  exact W.zret (v := 0) hx hb hr rfl (fun t ht hW => ⟨⟨0, (), rfl, ⟨rfl, trivial⟩, ⟨by rw [ht]; exact hP9, hD9⟩⟩, hS.F ht⟩) hS.2.2 dX8_rings_49
theorem dX8_hasRing_0 : decode cX8_hasRing 0 = .ok (.aload_n 0, 1) := by decide +kernel
theorem dX8_hasRing_1 : decode cX8_hasRing 1 = .ok (.aload_n 0, 1) := by decide +kernel
theorem dX8_hasRing_2 : decode cX8_hasRing 2 = .ok (.invokevirtual 240, 3) := by decide +kernel
set_option maxRecDepth 20000 in
theorem ggX8_hasRing_X8_areMany : GoodIn wsX8_hasRing wsX8_areMany := goodIn_ca (goodIn_r _ [5, 6, 7, 8, 4, 9, 10, 11, 12, 13, 14, 15, 16, 17, 18, 181, 182, 183, 184, 185, 186, 187, 188, 189, 190, 191, 192, 193, 194, 195, 196, 197, 198] (by decide +kernel) (by decide +kernel)) (goodIn_sub (fun _ h => List.mem_cons_of_mem _ (List.mem_append_left _ (List.mem_append_right _ h))) (by decide +kernel))
set_option maxRecDepth 20000 in
theorem gX8_hasRing_X8_areMany : GoodIn wsX8_hasRing (wsV RX8 240 RX8 yX8_areMany wsX8_areMany) := goodIn_app (goodIn_of _ (by decide +kernel)) ggX8_hasRing_X8_areMany
theorem dX8_hasRing_5 : decode cX8_hasRing 5 = .ok (.iconst 1, 1) := by decide +kernel
theorem dX8_hasRing_6 : decode cX8_hasRing 6 = .ok (.invokevirtual 73, 3) := by decide +kernel
set_option maxRecDepth 20000 in
theorem ggX8_hasRing_X8_isThrown : GoodIn wsX8_hasRing wsX8_isThrown := goodIn_r _ [22, 23, 181, 182, 183, 184, 185, 186, 187, 188, 189, 190, 191, 192, 193, 194, 195, 196, 197, 198] (by decide +kernel) (by decide +kernel)
set_option maxRecDepth 20000 in
theorem gX8_hasRing_X8_isThrown : GoodIn wsX8_hasRing (wsV RX8 73 RX8 yX8_isThrown wsX8_isThrown) := goodIn_app (goodIn_of _ (by decide +kernel)) ggX8_hasRing_X8_isThrown
theorem dX8_hasRing_9 : decode cX8_hasRing 9 = .ok (.ifCond .ne 14, 3) := by decide +kernel
theorem dX8_hasRing_12 : decode cX8_hasRing 12 = .ok (.aload_n 0, 1) := by decide +kernel
theorem dX8_hasRing_13 : decode cX8_hasRing 13 = .ok (.invokevirtual 259, 3) := by decide +kernel
set_option maxRecDepth 20000 in
theorem ggX8_hasRing_X8_rings : GoodIn wsX8_hasRing wsX8_rings := goodIn_ca (goodIn_ca (goodIn_r _ [27, 28, 29, 30, 31, 32, 33, 4, 34, 35, 36, 37, 38, 39, 40, 41, 42, 43, 44, 45, 46, 47, 48, 49, 50, 51, 52, 53, 54, 55, 56, 57, 58, 59, 60, 61, 62, 63, 64, 10, 12, 11, 65, 66, 67, 68, 69, 70, 71, 72, 73, 74, 75, 76, 77, 78, 79, 80, 81, 82, 83, 84, 85, 86, 87, 88, 89, 90, 91, 92, 93, 94, 95, 96, 97, 98, 99, 100, 101, 102, 103, 104, 105, 106, 107, 108, 109, 110, 111, 112, 113, 114, 115, 116, 117, 13, 14, 15, 16, 17, 18, 118, 119, 120, 121, 122, 123, 124, 125, 126, 127, 128, 129, 130, 131, 132, 133, 134, 135, 136, 137, 138, 139, 140, 141, 142, 143, 144, 145, 146, 147, 148, 149, 150, 151, 152, 153, 154, 155, 156, 157, 158, 159, 160, 161, 162, 163, 164, 165, 166, 167, 168, 169, 170, 171, 172, 173, 174, 175, 176, 177, 178, 179, 180, 199, 200, 201, 181, 182, 183, 184, 185, 186, 187, 188, 189, 190, 191, 192, 193, 194, 195, 196, 197, 198, 202, 203, 204, 205] (by decide +kernel) (by decide +kernel)) (goodIn_sub (fun _ h => List.mem_cons_of_mem _ (List.mem_append_left _ (List.mem_append_right _ h))) (by decide +kernel))) (goodIn_sub (fun _ h => List.mem_cons_of_mem _ (List.mem_append_right _ h)) (by decide +kernel))
set_option maxRecDepth 20000 in
theorem gX8_hasRing_X8_rings : GoodIn wsX8_hasRing (wsV RX8 259 RX8 yX8_rings wsX8_rings) := goodIn_app (goodIn_of _ (by decide +kernel)) ggX8_hasRing_X8_rings
theorem dX8_hasRing_16 : decode cX8_hasRing 16 = .ok (.ifCond .eq 7, 3) := by decide +kernel
theorem dX8_hasRing_23 : decode cX8_hasRing 23 = .ok (.iconst 0, 1) := by decide +kernel
theorem dX8_hasRing_24 : decode cX8_hasRing 24 = .ok (.ireturn, 1) := by decide +kernel
set_option maxHeartbeats 4000000 in
set_option maxRecDepth 100000 in
theorem k_X8_hasRing (l : Launch) (hl9 : l.stackTraces = false) (D : va_G) (cy : Nat → ClassId) (de : Nat) (h1 : Nat) (x2 : Value) (x3 : Value) (x4 : Value) (x5 : Value) (x6 : Value) (x7 : Value) (x8 : Value) (x9 : Value) (x10 : Value) (x11 : Value) (x12 : Value) (x13 : Value) (h14 : Nat) (x15 : Value) (x16 : Value) (x17 : Value) (x18 : Value) (g19 : Nat → Int32) (kg19_0 : g19 0 = (-1)) (kg19_1 : g19 1 = (-1)) (kg19_2 : g19 2 = (-1)) (kg19_3 : g19 3 = (-1)) (kg19_4 : g19 4 = (-1)) (kg19_5 : g19 5 = (-1)) (sz : Nat) : Met l yX8_hasRing wsX8_hasRing ({ frames := 8, cells := 6, slots := 46685, locals := 170 }) (kWY D cy de [.ref h1] [(h1, .inr (10, [x2, x3, x4, x5, x6, x7, x8, x9, x10, x11, x12, x13, .ref h14, x15, x16, .int 0, x17, x18])), (h14, .inl (cy 1, 6, .inl g19))] sz) (va_Qi (fun (r : Int32) (_ : Unit) => r = 0 ∧ True) (fun (_ : Unit) (t : State) => va_P D vwCl [(h1, .inr (10, [x2, x3, x4, x5, x6, x7, x8, x9, x10, x11, x12, x13, .ref h14, x15, x16, .int 0, x17, .int 0])), (h14, .inl (cy 1, 6, .inl g19))] t.heap ∧ va_D (va_A [(h1, .inr (10, [x2, x3, x4, x5, x6, x7, x8, x9, x10, x11, x12, x13, .ref h14, x15, x16, .int 0, x17, x18])), (h14, .inl (cy 1, 6, .inl g19))] sz) [(h1, .inr (10, [x2, x3, x4, x5, x6, x7, x8, x9, x10, x11, x12, x13, .ref h14, x15, x16, .int 0, x17, .int 0])), (h14, .inl (cy 1, 6, .inl g19))]) (va_A [(h1, .inr (10, [x2, x3, x4, x5, x6, x7, x8, x9, x10, x11, x12, x13, .ref h14, x15, x16, .int 0, x17, x18])), (h14, .inl (cy 1, 6, .inl g19))] sz)) 6 46685 (va_A [(h1, .inr (10, [x2, x3, x4, x5, x6, x7, x8, x9, x10, x11, x12, x13, .ref h14, x15, x16, .int 0, x17, x18])), (h14, .inl (cy 1, 6, .inl g19))] sz) := by
  refine Met.ofW (cc := cX8_hasRing) (maxL := 1) (ret := (some .boolean)) (by decide) rfl ?_
  intro p e s m args below meth c s₁ B hml hv
  obtain ⟨rfl, hsz, hP, hK, hD0, hE, hY⟩ := hv
  have hx := B.exec
  have hb := B.bytes
  have hr := B.returns
  have hts := atoms_spec (ws := wsX8_hasRing) B.pre
  have hown : s.vm.findClass RX8 = some m.cls := findClass_of_methodNamed B.named
  have hlocks := B.notSynchronized
  subst hsz
  have hD := hD0.self (sz := s.heap.size)
  generalize hAe : va_A [(h1, .inr (10, [x2, x3, x4, x5, x6, x7, x8, x9, x10, x11, x12, x13, .ref h14, x15, x16, .int 0, x17, x18])), (h14, .inl (cy 1, 6, .inl g19))] s.heap.size = A at hD hE hY ⊢
  have hA : ∀ q : Nat, s.heap.size ≤ q → A q := fun q h => by rw [← hAe]; exact Or.inr h
  have hS : va_S A s.heap s.heap [] := va_S.rf
  have hP : va_P D vwCl [(h1, .inr (10, [x2, x3, x4, x5, x6, x7, x8, x9, x10, x11, x12, x13, .ref h14, x15, x16, .int 0, x17, x18])), (h14, .inl (cy 1, 6, .inl g19))] s.heap := hP
  have hl := lv_entry ([.ref h1]) (n := 1) (Nat.le_of_ble_eq_true rfl)
  rw [lg_entry_eq]
  generalize (lg_sl ([.ref h1]) ++ List.replicate (1 - (lg_sl ([.ref h1])).length) Slot.unset).toArray = ls at hl ⊢
  have hl : lv_has ls 1 [(0, .ref h1)] := hl
  refine lv_aload_n hx hb dX8_hasRing_0 rfl (lv_at hl 0 rfl) ?_
  refine lv_aload_n hx hb dX8_hasRing_1 rfl (lv_at hl 0 rfl) ?_
  have hPc := hP.sub (ws' := [(h1, .inr (10, [x2, x3, x4, x5, x6, x7, x8, x9, x10, x11, x12, x13, .ref h14, x15, x16, .int 0, x17, x18]))]) [0] rfl
  refine va_calli (va_runV (As := []) (rest := [.ref h1]) ⟨hx, hb, hml, hown, hts⟩ (k_X8_areMany l D cy h1 (x2) (x3) (x4) (x5) (x6) (x7) (x8) (x9) (x10) (x11) (x12) (x13) (.ref h14) (x15) (x16) (x17) (x18)) (cwV 0 hts gX8_hasRing_X8_areMany rfl rfl rfl (by decide +kernel) ⟨(Nat.le_of_ble_eq_true rfl), (Nat.le_of_ble_eq_true rfl)⟩) ⟨kR_fb, va_recv hK hP (ci := 10) (q0 := 0) rfl rfl, (kR_go hPc hK)⟩ rfl rfl hl.1 rfl (lv_room (Nat.le_of_ble_eq_true rfl)) dX8_hasRing_2 ⟨(Nat.le_of_ble_eq_true rfl), (Nat.le_of_ble_eq_true rfl)⟩) hS (fun _ _ h => h.elim) (fun _ h => h.elim) (fun r9 u t H locs ht hvm hw hB hz1 hk1 hS => ?_)
  have hP := kx_kept hP hk1
  obtain ⟨rfl, hw⟩ := hw
  refine lv_iconst (v := 1) hx hb dX8_hasRing_5 (by decide) ?_
  have hPc := hP.sub (ws' := [(h1, .inr (10, [x2, x3, x4, x5, x6, x7, x8, x9, x10, x11, x12, x13, .ref h14, x15, x16, .int 0, x17, x18]))]) [0] rfl
  have hDc := hD.sub (ws' := [(h1, .inr (10, [x2, x3, x4, x5, x6, x7, x8, x9, x10, x11, x12, x13, .ref h14, x15, x16, .int 0, x17, x18]))]) [0] (by decide) rfl
  have hFc := va_free (wc := [(h1, .inr (10, [x2, x3, x4, x5, x6, x7, x8, x9, x10, x11, x12, x13, .ref h14, x15, x16, .int 0, x17, x18]))]) hD hS hA [0] rfl
  refine va_calli (va_runV (As := [.int 0, .int 1]) (rest := []) ⟨hx, hb, hml, hown, hts⟩ (k_X8_isThrown_1 l D cy h1 (x2) (x3) (x4) (x5) (x6) (x7) (x8) (x9) (x10) (x11) (x12) (x13) (.ref h14) (x15) (x16) (.int 0) (x17) (x18) H.size) (cwV 2 hts gX8_hasRing_X8_isThrown rfl rfl rfl (by decide +kernel) ⟨(Nat.le_of_ble_eq_true rfl), (Nat.le_of_ble_eq_true rfl)⟩) ⟨kW_fb, va_recv hK hP (ci := 10) (q0 := 0) rfl rfl, (kW_go hPc hK hDc)⟩ rfl rfl hl.1 rfl (lv_room (Nat.le_of_ble_eq_true rfl)) dX8_hasRing_6 ⟨(Nat.le_of_ble_eq_true rfl), (Nat.le_of_ble_eq_true rfl)⟩) hS (fun q _ h => hFc q h) hFc (fun r9 u t H locs ht hvm hw hB hz1 hk1 hS => ?_)
  obtain ⟨hP1, hD1⟩ := hB
  rw [ht] at hP1
  try dsimp only at hw hP1 hD1
  obtain ⟨hP, hD⟩ := va_join (wr := [(h14, .inl (cy 1, 6, .inl g19))]) (w1 := [(h1, .inr (10, [x2, x3, x4, x5, x6, x7, x8, x9, x10, x11, x12, x13, .ref h14, x15, x16, .int 0, x17, .int 0]))]) hP hD [0] [1] rfl rfl (by decide) (by decide) hk1 hFc hP1 hD1
  have hP : va_P D vwCl [(h14, .inl (cy 1, 6, .inl g19)), (h1, .inr (10, [x2, x3, x4, x5, x6, x7, x8, x9, x10, x11, x12, x13, .ref h14, x15, x16, .int 0, x17, .int 0]))] H := hP
  have hD : va_D A [(h14, .inl (cy 1, 6, .inl g19)), (h1, .inr (10, [x2, x3, x4, x5, x6, x7, x8, x9, x10, x11, x12, x13, .ref h14, x15, x16, .int 0, x17, .int 0]))] := hD
  obtain ⟨rfl, hw⟩ := hw
  refine lv_if_ne (tgt := 23) hx hb dX8_hasRing_9 (by decide) (fun h => absurd (by decide) h) (fun _ => ?_)
  refine lv_aload_n hx hb dX8_hasRing_12 rfl (lv_at hl 0 rfl) ?_
  have hPc := hP.sub (ws' := [(h1, .inr (10, [x2, x3, x4, x5, x6, x7, x8, x9, x10, x11, x12, x13, .ref h14, x15, x16, .int 0, x17, .int 0])), (h14, .inl (cy 1, 6, .inl g19))]) [1, 0] rfl
  have hDc := hD.sub (ws' := [(h1, .inr (10, [x2, x3, x4, x5, x6, x7, x8, x9, x10, x11, x12, x13, .ref h14, x15, x16, .int 0, x17, .int 0])), (h14, .inl (cy 1, 6, .inl g19))]) [1, 0] (by decide) rfl
  have hFc := va_free (wc := [(h1, .inr (10, [x2, x3, x4, x5, x6, x7, x8, x9, x10, x11, x12, x13, .ref h14, x15, x16, .int 0, x17, .int 0])), (h14, .inl (cy 1, 6, .inl g19))]) hD hS hA [1, 0] rfl
  refine va_calli (va_runV (As := []) (rest := []) ⟨hx, hb, hml, hown, hts⟩ (k_X8_rings l hl9 D cy de h1 (x2) (x3) (x4) (x5) (x6) (x7) (x8) (x9) (x10) (x11) (x12) (x13) h14 (x15) (x16) (x17) (.int 0) g19 (kg19_0) (kg19_1) (kg19_2) (kg19_3) (kg19_4) (kg19_5) H.size) (cwV 0 hts gX8_hasRing_X8_rings rfl rfl rfl (by decide +kernel) ⟨(Nat.le_of_ble_eq_true rfl), (Nat.le_of_ble_eq_true rfl)⟩) ⟨kWY_fb, va_recv hK hP (ci := 10) (q0 := 1) rfl rfl, (kWY_go hPc hK hDc hFc hE hY hS)⟩ rfl rfl hl.1 rfl (lv_room (Nat.le_of_ble_eq_true rfl)) dX8_hasRing_13 ⟨(Nat.le_of_ble_eq_true rfl), (Nat.le_of_ble_eq_true rfl)⟩) hS (fun q _ h => hFc q h) hFc (fun r9 u t H locs ht hvm hw hB hz1 hk1 hS => ?_)
  obtain ⟨hP1, hD1⟩ := hB
  rw [ht] at hP1
  try dsimp only at hw hP1 hD1
  obtain ⟨hP, hD⟩ := va_join (wr := []) (w1 := [(h1, .inr (10, [x2, x3, x4, x5, x6, x7, x8, x9, x10, x11, x12, x13, .ref h14, x15, x16, .int 0, x17, .int 0])), (h14, .inl (cy 1, 6, .inl g19))]) hP hD [1, 0] [] rfl rfl (by decide) (by decide) hk1 hFc hP1 hD1
  have hP : va_P D vwCl [(h1, .inr (10, [x2, x3, x4, x5, x6, x7, x8, x9, x10, x11, x12, x13, .ref h14, x15, x16, .int 0, x17, .int 0])), (h14, .inl (cy 1, 6, .inl g19))] H := hP
  have hD : va_D A [(h1, .inr (10, [x2, x3, x4, x5, x6, x7, x8, x9, x10, x11, x12, x13, .ref h14, x15, x16, .int 0, x17, .int 0])), (h14, .inl (cy 1, 6, .inl g19))] := hD
  refine W.widen (k := 6) (n := 46685) (Nat.le_of_ble_eq_true rfl) (Nat.le_of_ble_eq_true rfl) ?_
  obtain ⟨rfl, hw⟩ := hw
  refine lv_if_eq (tgt := 23) hx hb dX8_hasRing_16 (by decide) (fun _ => ?_) (fun h => absurd (by decide) h)
  refine lv_iconst (v := 0) hx hb dX8_hasRing_23 (by decide) ?_
  refine W.widen (k := 6) (n := 46685) (Nat.le_of_ble_eq_true rfl) (Nat.le_of_ble_eq_true rfl) ?_
  have hP9 := hP.sub (ws' := [(h1, .inr (10, [x2, x3, x4, x5, x6, x7, x8, x9, x10, x11, x12, x13, .ref h14, x15, x16, .int 0, x17, .int 0])), (h14, .inl (cy 1, 6, .inl g19))]) [0, 1] rfl
  have hD9 := hD.sub (ws' := [(h1, .inr (10, [x2, x3, x4, x5, x6, x7, x8, x9, x10, x11, x12, x13, .ref h14, x15, x16, .int 0, x17, .int 0])), (h14, .inl (cy 1, 6, .inl g19))]) [0, 1] (by decide) rfl
  exact W.zret (v := 0) hx hb hr rfl (fun t ht hW => ⟨⟨0, (), rfl, ⟨rfl, trivial⟩, ⟨by rw [ht]; exact hP9, hD9⟩⟩, hS.F ht⟩) hS.2.2 dX8_hasRing_24
theorem dX7_isStrong_0 : decode cX7_isStrong 0 = .ok (.aload_n 0, 1) := by decide +kernel
theorem dX7_isStrong_1 : decode cX7_isStrong 1 = .ok (.invokevirtual 307, 3) := by decide +kernel
set_option maxRecDepth 20000 in
theorem ggX7_isStrong_X7_numberPlays : GoodIn wsX7_isStrong wsX7_numberPlays := goodIn_ca (goodIn_ca (goodIn_r _ [10, 11, 12, 1, 2, 3, 4, 13, 14, 15, 16, 17, 18, 19, 20, 21, 22, 23, 24, 25, 26, 27, 28, 29, 30, 31, 32, 33, 34, 35, 36, 37, 38, 39, 40, 41, 42, 43, 44, 45, 46, 47, 48, 49, 50, 51, 52, 96, 97, 98, 99, 100, 101, 102, 103, 104, 105, 106, 107, 108, 109, 110, 111, 112, 113, 114, 115, 116, 117, 118, 119, 120, 121, 122, 123, 124, 125, 126, 127, 128] (by decide +kernel) (by decide +kernel)) (goodIn_sub (fun _ h => List.mem_cons_of_mem _ (List.mem_append_left _ (List.mem_append_left _ (List.mem_append_right _ h)))) (by decide +kernel))) (goodIn_sub (fun _ h => List.mem_cons_of_mem _ (List.mem_append_left _ (List.mem_append_right _ h))) (by decide +kernel))
set_option maxRecDepth 20000 in
theorem gX7_isStrong_X7_numberPlays : GoodIn wsX7_isStrong (wsV RX7 307 RX7 yX7_numberPlays wsX7_numberPlays) := goodIn_app (goodIn_of _ (by decide +kernel)) ggX7_isStrong_X7_numberPlays
theorem dX7_isStrong_4 : decode cX7_isStrong 4 = .ok (.aload_n 0, 1) := by decide +kernel
theorem dX7_isStrong_5 : decode cX7_isStrong 5 = .ok (.getfield 29, 3) := by decide +kernel
theorem dX7_isStrong_8 : decode cX7_isStrong 8 = .ok (.aload_n 0, 1) := by decide +kernel
theorem dX7_isStrong_9 : decode cX7_isStrong 9 = .ok (.getfield 10, 3) := by decide +kernel
theorem dX7_isStrong_12 : decode cX7_isStrong 12 = .ok (.aload_n 0, 1) := by decide +kernel
theorem dX7_isStrong_13 : decode cX7_isStrong 13 = .ok (.getfield 19, 3) := by decide +kernel
theorem dX7_isStrong_16 : decode cX7_isStrong 16 = .ok (.invokevirtual 295, 3) := by decide +kernel
set_option maxRecDepth 20000 in
theorem ggX7_isStrong_X6_indexOf : GoodIn wsX7_isStrong wsX6_indexOf := goodIn_ca (goodIn_r _ [56, 21, 26, 52, 23, 119, 120, 121, 122, 116, 117, 118, 103, 104, 105, 106, 107, 108, 109, 110, 111, 112, 113, 114, 115] (by decide +kernel) (by decide +kernel)) (goodIn_sub (fun _ h => List.mem_cons_of_mem _ (List.mem_append_left _ (List.mem_append_right _ h))) (by decide +kernel))
set_option maxRecDepth 20000 in
theorem gX7_isStrong_X6_indexOf : GoodIn wsX7_isStrong (wsV RX7 295 RX6 yX6_indexOf wsX6_indexOf) := goodIn_app (goodIn_of _ (by decide +kernel)) ggX7_isStrong_X6_indexOf
theorem dX7_isStrong_19 : decode cX7_isStrong 19 = .ok (.istore_n 1, 1) := by decide +kernel
theorem dX7_isStrong_20 : decode cX7_isStrong 20 = .ok (.iconst 0, 1) := by decide +kernel
theorem dX7_isStrong_21 : decode cX7_isStrong 21 = .ok (.istore_n 2, 1) := by decide +kernel
theorem dX7_isStrong_22 : decode cX7_isStrong 22 = .ok (.iload_n 2, 1) := by decide +kernel
theorem dX7_isStrong_23 : decode cX7_isStrong 23 = .ok (.aload_n 0, 1) := by decide +kernel
theorem dX7_isStrong_24 : decode cX7_isStrong 24 = .ok (.getfield 29, 3) := by decide +kernel
theorem dX7_isStrong_27 : decode cX7_isStrong 27 = .ok (.getfield 261, 3) := by decide +kernel
theorem dX7_isStrong_30 : decode cX7_isStrong 30 = .ok (.if_icmp .ge 49, 3) := by decide +kernel
theorem dX7_isStrong_33 : decode cX7_isStrong 33 = .ok (.iload_n 2, 1) := by decide +kernel
theorem dX7_isStrong_34 : decode cX7_isStrong 34 = .ok (.iload_n 1, 1) := by decide +kernel
theorem dX7_isStrong_35 : decode cX7_isStrong 35 = .ok (.if_icmp .eq 38, 3) := by decide +kernel
theorem dX7_isStrong_73 : decode cX7_isStrong 73 = .ok (.iinc 2 1, 3) := by decide +kernel
theorem dX7_isStrong_76 : decode cX7_isStrong 76 = .ok (.goto (-54), 3) := by decide +kernel
theorem dX7_isStrong_79 : decode cX7_isStrong 79 = .ok (.iconst 1, 1) := by decide +kernel
theorem dX7_isStrong_80 : decode cX7_isStrong 80 = .ok (.ireturn, 1) := by decide +kernel
set_option maxHeartbeats 4000000 in
set_option maxRecDepth 100000 in
theorem k_X7_isStrong (l : Launch) (D : va_G) (cy : Nat → ClassId) (h1 : Nat) (h2 : Nat) (h3 : Nat) (x4 : Value) (h5 : Nat) (x6 : Value) (x7 : Value) (x8 : Value) (x9 : Value) (x10 : Value) (x11 : Value) (x12 : Value) (x13 : Value) (x14 : Value) (x15 : Value) (x16 : Value) (x17 : Value) (x18 : Value) (x19 : Value) (x20 : Value) (x21 : Value) (x22 : Value) (x23 : Value) (h24 : Nat) (x25 : Value) (x26 : Value) (x27 : Value) (x28 : Value) (sz : Nat) : Met l yX7_isStrong wsX7_isStrong ({ frames := 2, cells := 0, slots := 0, locals := 44 }) (kW D cy [.ref h1] [(h1, .inr (9, [.ref h2, .ref h3, x4, .ref h5, x6, x7, x8])), (h2, .inr (2, [x9, x10, x11, .int 0])), (h3, .inr (5, [x12, x13, .int 0])), (h5, .inr (8, [x14, x15, x16, x17, x18, x19, x20, x21, x22, x23, .ref h24, .int 0, x25])), (h24, .inr (5, [x26, x27, x28]))] sz) (va_Qi (fun (r : Int32) (_ : Unit) => r = 1 ∧ True) (fun (_ : Unit) (t : State) => va_P D vwCl [(h1, .inr (9, [.ref h2, .ref h3, x4, .ref h5, x6, x7, x8])), (h2, .inr (2, [x9, x10, x11, .int 0])), (h3, .inr (5, [x12, x13, .int 0])), (h5, .inr (8, [x14, x15, x16, x17, x18, x19, x20, x21, x22, x23, .ref h24, .int 1, x25])), (h24, .inr (5, [x26, x27, .int 0]))] t.heap ∧ va_D (va_A [(h1, .inr (9, [.ref h2, .ref h3, x4, .ref h5, x6, x7, x8])), (h2, .inr (2, [x9, x10, x11, .int 0])), (h3, .inr (5, [x12, x13, .int 0])), (h5, .inr (8, [x14, x15, x16, x17, x18, x19, x20, x21, x22, x23, .ref h24, .int 0, x25])), (h24, .inr (5, [x26, x27, x28]))] sz) [(h1, .inr (9, [.ref h2, .ref h3, x4, .ref h5, x6, x7, x8])), (h2, .inr (2, [x9, x10, x11, .int 0])), (h3, .inr (5, [x12, x13, .int 0])), (h5, .inr (8, [x14, x15, x16, x17, x18, x19, x20, x21, x22, x23, .ref h24, .int 1, x25])), (h24, .inr (5, [x26, x27, .int 0]))]) (va_A [(h1, .inr (9, [.ref h2, .ref h3, x4, .ref h5, x6, x7, x8])), (h2, .inr (2, [x9, x10, x11, .int 0])), (h3, .inr (5, [x12, x13, .int 0])), (h5, .inr (8, [x14, x15, x16, x17, x18, x19, x20, x21, x22, x23, .ref h24, .int 0, x25])), (h24, .inr (5, [x26, x27, x28]))] sz)) 0 0 (va_A [(h1, .inr (9, [.ref h2, .ref h3, x4, .ref h5, x6, x7, x8])), (h2, .inr (2, [x9, x10, x11, .int 0])), (h3, .inr (5, [x12, x13, .int 0])), (h5, .inr (8, [x14, x15, x16, x17, x18, x19, x20, x21, x22, x23, .ref h24, .int 0, x25])), (h24, .inr (5, [x26, x27, x28]))] sz) := by
  refine Met.ofW (cc := cX7_isStrong) (maxL := 3) (ret := (some .boolean)) (by decide) rfl ?_
  intro p e s m args below meth c s₁ B hml hv
  obtain ⟨rfl, hsz, hP, hK, hD0⟩ := hv
  have hx := B.exec
  have hb := B.bytes
  have hr := B.returns
  have hts := atoms_spec (ws := wsX7_isStrong) B.pre
  have hown : s.vm.findClass RX7 = some m.cls := findClass_of_methodNamed B.named
  have hlocks := B.notSynchronized
  subst hsz
  have hD := hD0.self (sz := s.heap.size)
  generalize hAe : va_A [(h1, .inr (9, [.ref h2, .ref h3, x4, .ref h5, x6, x7, x8])), (h2, .inr (2, [x9, x10, x11, .int 0])), (h3, .inr (5, [x12, x13, .int 0])), (h5, .inr (8, [x14, x15, x16, x17, x18, x19, x20, x21, x22, x23, .ref h24, .int 0, x25])), (h24, .inr (5, [x26, x27, x28]))] s.heap.size = A at hD ⊢
  have hA : ∀ q : Nat, s.heap.size ≤ q → A q := fun q h => by rw [← hAe]; exact Or.inr h
  have hS : va_S A s.heap s.heap [] := va_S.rf
  have hP : va_P D vwCl [(h1, .inr (9, [.ref h2, .ref h3, x4, .ref h5, x6, x7, x8])), (h2, .inr (2, [x9, x10, x11, .int 0])), (h3, .inr (5, [x12, x13, .int 0])), (h5, .inr (8, [x14, x15, x16, x17, x18, x19, x20, x21, x22, x23, .ref h24, .int 0, x25])), (h24, .inr (5, [x26, x27, x28]))] s.heap := hP
  have hl := lv_entry ([.ref h1]) (n := 3) (Nat.le_of_ble_eq_true rfl)
  rw [lg_entry_eq]
  generalize (lg_sl ([.ref h1]) ++ List.replicate (3 - (lg_sl ([.ref h1])).length) Slot.unset).toArray = ls at hl ⊢
  have hl : lv_has ls 3 [(0, .ref h1)] := hl
  refine lv_aload_n hx hb dX7_isStrong_0 rfl (lv_at hl 0 rfl) ?_
  have hPc := hP.sub (ws' := [(h1, .inr (9, [.ref h2, .ref h3, x4, .ref h5, x6, x7, x8])), (h2, .inr (2, [x9, x10, x11, .int 0])), (h3, .inr (5, [x12, x13, .int 0])), (h5, .inr (8, [x14, x15, x16, x17, x18, x19, x20, x21, x22, x23, .ref h24, .int 0, x25])), (h24, .inr (5, [x26, x27, x28]))]) [0, 1, 2, 3, 4] rfl
  have hDc := hD.sub (ws' := [(h1, .inr (9, [.ref h2, .ref h3, x4, .ref h5, x6, x7, x8])), (h2, .inr (2, [x9, x10, x11, .int 0])), (h3, .inr (5, [x12, x13, .int 0])), (h5, .inr (8, [x14, x15, x16, x17, x18, x19, x20, x21, x22, x23, .ref h24, .int 0, x25])), (h24, .inr (5, [x26, x27, x28]))]) [0, 1, 2, 3, 4] (by decide) rfl
  have hFc := va_free (wc := [(h1, .inr (9, [.ref h2, .ref h3, x4, .ref h5, x6, x7, x8])), (h2, .inr (2, [x9, x10, x11, .int 0])), (h3, .inr (5, [x12, x13, .int 0])), (h5, .inr (8, [x14, x15, x16, x17, x18, x19, x20, x21, x22, x23, .ref h24, .int 0, x25])), (h24, .inr (5, [x26, x27, x28]))]) hD hS hA [0, 1, 2, 3, 4] rfl
  refine va_callv (va_runV (As := []) (rest := []) ⟨hx, hb, hml, hown, hts⟩ (k_X7_numberPlays l D cy h1 h2 h3 (x4) h5 (x6) (x7) (x8) (x9) (x10) (x11) (x12) (x13) (x14) (x15) (x16) (x17) (x18) (x19) (x20) (x21) (x22) (x23) h24 (x25) (x26) (x27) (x28) s.heap.size) (cwV 0 hts gX7_isStrong_X7_numberPlays rfl rfl rfl (by decide +kernel) ⟨(Nat.le_of_ble_eq_true rfl), (Nat.le_of_ble_eq_true rfl)⟩) ⟨kW_fb, va_recv hK hP (ci := 9) (q0 := 0) rfl rfl, (kW_go hPc hK hDc)⟩ rfl rfl hl.1 rfl (lv_room (Nat.le_of_ble_eq_true rfl)) dX7_isStrong_1 ⟨(Nat.le_of_ble_eq_true rfl), (Nat.le_of_ble_eq_true rfl)⟩) hS (fun q _ h => hFc q h) hFc (fun u t H locs ht hvm hw hB hz1 hk1 hS => ?_)
  obtain ⟨hP1, hD1⟩ := hB
  rw [ht] at hP1
  try dsimp only at hw hP1 hD1
  obtain ⟨hP, hD⟩ := va_join (wr := []) (w1 := [(h1, .inr (9, [.ref h2, .ref h3, x4, .ref h5, x6, x7, x8])), (h2, .inr (2, [x9, x10, x11, .int 0])), (h3, .inr (5, [x12, x13, .int 0])), (h5, .inr (8, [x14, x15, x16, x17, x18, x19, x20, x21, x22, x23, .ref h24, .int 1, x25])), (h24, .inr (5, [x26, x27, .int 0]))]) hP hD [0, 1, 2, 3, 4] [] rfl rfl (by decide) (by decide) hk1 hFc hP1 hD1
  have hP : va_P D vwCl [(h1, .inr (9, [.ref h2, .ref h3, x4, .ref h5, x6, x7, x8])), (h2, .inr (2, [x9, x10, x11, .int 0])), (h3, .inr (5, [x12, x13, .int 0])), (h5, .inr (8, [x14, x15, x16, x17, x18, x19, x20, x21, x22, x23, .ref h24, .int 1, x25])), (h24, .inr (5, [x26, x27, .int 0]))] H := hP
  have hD : va_D A [(h1, .inr (9, [.ref h2, .ref h3, x4, .ref h5, x6, x7, x8])), (h2, .inr (2, [x9, x10, x11, .int 0])), (h3, .inr (5, [x12, x13, .int 0])), (h5, .inr (8, [x14, x15, x16, x17, x18, x19, x20, x21, x22, x23, .ref h24, .int 1, x25])), (h24, .inr (5, [x26, x27, .int 0]))] := hD
  refine lv_aload_n hx hb dX7_isStrong_4 rfl (lv_at hl 0 rfl) ?_
  refine va_get (D := D) (ci := 9) (v := .ref h5) (C := RX7) (T := TX7) (N := 7) hx hb hts (fun _ h => (List.mem_cons_of_mem _ (List.mem_append_left _ (List.mem_append_left _ (List.mem_append_left _ (List.mem_append_left _ (List.mem_append_left _ (List.mem_append_left _ (List.mem_append_left _ (List.mem_append_left _ (List.mem_append_right _ h))))))))))) hown hK hP 0 rfl rfl 3 (by decide) (hts (.fieldLink RX7 29 "SelfishJunction" "survey" "LSelfishJunction$Survey;") (List.mem_cons_of_mem _ (List.mem_append_left _ (List.mem_append_left _ (List.mem_append_left _ (List.mem_append_left _ (List.mem_append_left _ (List.mem_append_left _ (List.mem_append_left _ (List.mem_append_left _ (List.mem_append_left _ (List.mem_append_left _ (List.mem_of_getElem? (i := 0) rfl))))))))))))) (fun _ h9 => h9) rfl dX7_isStrong_5 ?_
  refine lv_aload_n hx hb dX7_isStrong_8 rfl (lv_at hl 0 rfl) ?_
  refine va_get (D := D) (ci := 9) (v := .ref h2) (C := RX7) (T := TX7) (N := 7) hx hb hts (fun _ h => (List.mem_cons_of_mem _ (List.mem_append_left _ (List.mem_append_left _ (List.mem_append_left _ (List.mem_append_left _ (List.mem_append_left _ (List.mem_append_left _ (List.mem_append_left _ (List.mem_append_left _ (List.mem_append_right _ h))))))))))) hown hK hP 0 rfl rfl 0 (by decide) (hts (.fieldLink RX7 10 "SelfishJunction" "board" "LSelfishJunction$Board;") (List.mem_cons_of_mem _ (List.mem_append_left _ (List.mem_append_left _ (List.mem_append_left _ (List.mem_append_left _ (List.mem_append_left _ (List.mem_append_left _ (List.mem_append_left _ (List.mem_append_left _ (List.mem_append_left _ (List.mem_append_left _ (List.mem_of_getElem? (i := 1) rfl))))))))))))) (fun _ h9 => h9) rfl dX7_isStrong_9 ?_
  refine lv_aload_n hx hb dX7_isStrong_12 rfl (lv_at hl 0 rfl) ?_
  refine va_get (D := D) (ci := 9) (v := .ref h3) (C := RX7) (T := TX7) (N := 7) hx hb hts (fun _ h => (List.mem_cons_of_mem _ (List.mem_append_left _ (List.mem_append_left _ (List.mem_append_left _ (List.mem_append_left _ (List.mem_append_left _ (List.mem_append_left _ (List.mem_append_left _ (List.mem_append_left _ (List.mem_append_right _ h))))))))))) hown hK hP 0 rfl rfl 1 (by decide) (hts (.fieldLink RX7 19 "SelfishJunction" "now" "LSelfishJunction$Play;") (List.mem_cons_of_mem _ (List.mem_append_left _ (List.mem_append_left _ (List.mem_append_left _ (List.mem_append_left _ (List.mem_append_left _ (List.mem_append_left _ (List.mem_append_left _ (List.mem_append_left _ (List.mem_append_left _ (List.mem_append_left _ (List.mem_of_getElem? (i := 2) rfl))))))))))))) (fun _ h9 => h9) rfl dX7_isStrong_13 ?_
  have hPc := hP.sub (ws' := [(h2, .inr (2, [x9, x10, x11, .int 0]))]) [1] rfl
  refine va_calli (va_runV (As := [.ref h2, .ref h3]) (rest := []) ⟨hx, hb, hml, hown, hts⟩ (k_X6_indexOf l D cy h5 h2 h3 (x9) (x10) (x11)) (cwV 2 hts gX7_isStrong_X6_indexOf rfl rfl rfl (by decide +kernel) ⟨(Nat.le_of_ble_eq_true rfl), (Nat.le_of_ble_eq_true rfl)⟩) ⟨kR_fb, va_recv hK hP (ci := 8) (q0 := 3) rfl rfl, (kR_go hPc hK)⟩ rfl rfl hl.1 rfl (lv_room (Nat.le_of_ble_eq_true rfl)) dX7_isStrong_16 ⟨(Nat.le_of_ble_eq_true rfl), (Nat.le_of_ble_eq_true rfl)⟩) hS (fun _ _ h => h.elim) (fun _ h => h.elim) (fun r9 u t H locs ht hvm hw hB hz1 hk1 hS => ?_)
  have hP := kx_kept hP hk1
  obtain ⟨rfl, hw⟩ := hw
  refine lv_istore_n (lv' := [(1, .int 0), (0, .ref h1)]) hx hb dX7_isStrong_19 rfl hl (by decide) rfl (fun ls hl => ?_)
  refine lv_iconst (v := 0) hx hb dX7_isStrong_20 (by decide) ?_
  refine lv_istore_n (lv' := [(2, .int 0), (1, .int 0), (0, .ref h1)]) hx hb dX7_isStrong_21 rfl hl (by decide) rfl (fun ls hl => ?_)
  refine lv_iload_n hx hb dX7_isStrong_22 rfl (lv_at hl 0 rfl) ?_
  refine lv_aload_n hx hb dX7_isStrong_23 rfl (lv_at hl 2 rfl) ?_
  refine va_get (D := D) (ci := 9) (v := .ref h5) (C := RX7) (T := TX7) (N := 7) hx hb hts (fun _ h => (List.mem_cons_of_mem _ (List.mem_append_left _ (List.mem_append_left _ (List.mem_append_left _ (List.mem_append_left _ (List.mem_append_left _ (List.mem_append_left _ (List.mem_append_left _ (List.mem_append_left _ (List.mem_append_right _ h))))))))))) hown hK hP 0 rfl rfl 3 (by decide) (hts (.fieldLink RX7 29 "SelfishJunction" "survey" "LSelfishJunction$Survey;") (List.mem_cons_of_mem _ (List.mem_append_left _ (List.mem_append_left _ (List.mem_append_left _ (List.mem_append_left _ (List.mem_append_left _ (List.mem_append_left _ (List.mem_append_left _ (List.mem_append_left _ (List.mem_append_left _ (List.mem_append_left _ (List.mem_of_getElem? (i := 0) rfl))))))))))))) (fun _ h9 => h9) rfl dX7_isStrong_24 ?_
  refine va_get (D := D) (ci := 8) (v := .int 1) (C := RX6) (T := TX6) (N := 13) hx hb hts (fun _ h => (List.mem_cons_of_mem _ (List.mem_append_left _ (List.mem_append_left _ (List.mem_append_left _ (List.mem_append_left _ (List.mem_append_left _ (List.mem_append_left _ (List.mem_append_left _ (List.mem_append_right _ h)))))))))) hown hK hP 3 rfl rfl 11 (by decide) (hts (.fieldLink RX7 261 "SelfishJunction$Survey" "count" "I") (List.mem_cons_of_mem _ (List.mem_append_left _ (List.mem_append_left _ (List.mem_append_left _ (List.mem_append_left _ (List.mem_append_left _ (List.mem_append_left _ (List.mem_append_left _ (List.mem_append_left _ (List.mem_append_left _ (List.mem_append_left _ (List.mem_of_getElem? (i := 3) rfl))))))))))))) (fun _ h9 => h9) rfl dX7_isStrong_27 ?_
  refine lv_icmp_ge (tgt := 79) hx hb dX7_isStrong_30 (by decide) (fun h => absurd h (by decide)) (fun _ => ?_)
  refine lv_iload_n hx hb dX7_isStrong_33 rfl (lv_at hl 0 rfl) ?_
  refine lv_iload_n hx hb dX7_isStrong_34 rfl (lv_at hl 1 rfl) ?_
  refine lv_icmp_eq (tgt := 73) hx hb dX7_isStrong_35 (by decide) (fun _ => ?_) (fun h => absurd (by decide) h)
  refine lv_iinc (v := 1) (lv' := [(2, .int 1), (1, .int 0), (0, .ref h1)]) hx hb dX7_isStrong_73 hl (k := 0) rfl (by decide) (by decide) rfl (fun ls hl => ?_)
  refine lv_goto (tgt := 22) hx hb dX7_isStrong_76 (by decide) ?_
  refine lv_iload_n hx hb dX7_isStrong_22 rfl (lv_at hl 0 rfl) ?_
  refine lv_aload_n hx hb dX7_isStrong_23 rfl (lv_at hl 2 rfl) ?_
  refine va_get (D := D) (ci := 9) (v := .ref h5) (C := RX7) (T := TX7) (N := 7) hx hb hts (fun _ h => (List.mem_cons_of_mem _ (List.mem_append_left _ (List.mem_append_left _ (List.mem_append_left _ (List.mem_append_left _ (List.mem_append_left _ (List.mem_append_left _ (List.mem_append_left _ (List.mem_append_left _ (List.mem_append_right _ h))))))))))) hown hK hP 0 rfl rfl 3 (by decide) (hts (.fieldLink RX7 29 "SelfishJunction" "survey" "LSelfishJunction$Survey;") (List.mem_cons_of_mem _ (List.mem_append_left _ (List.mem_append_left _ (List.mem_append_left _ (List.mem_append_left _ (List.mem_append_left _ (List.mem_append_left _ (List.mem_append_left _ (List.mem_append_left _ (List.mem_append_left _ (List.mem_append_left _ (List.mem_of_getElem? (i := 0) rfl))))))))))))) (fun _ h9 => h9) rfl dX7_isStrong_24 ?_
  refine va_get (D := D) (ci := 8) (v := .int 1) (C := RX6) (T := TX6) (N := 13) hx hb hts (fun _ h => (List.mem_cons_of_mem _ (List.mem_append_left _ (List.mem_append_left _ (List.mem_append_left _ (List.mem_append_left _ (List.mem_append_left _ (List.mem_append_left _ (List.mem_append_left _ (List.mem_append_right _ h)))))))))) hown hK hP 3 rfl rfl 11 (by decide) (hts (.fieldLink RX7 261 "SelfishJunction$Survey" "count" "I") (List.mem_cons_of_mem _ (List.mem_append_left _ (List.mem_append_left _ (List.mem_append_left _ (List.mem_append_left _ (List.mem_append_left _ (List.mem_append_left _ (List.mem_append_left _ (List.mem_append_left _ (List.mem_append_left _ (List.mem_append_left _ (List.mem_of_getElem? (i := 3) rfl))))))))))))) (fun _ h9 => h9) rfl dX7_isStrong_27 ?_
  refine lv_icmp_ge (tgt := 79) hx hb dX7_isStrong_30 (by decide) (fun _ => ?_) (fun h => absurd (by decide) h)
  refine lv_iconst (v := 1) hx hb dX7_isStrong_79 (by decide) ?_
  refine W.widen (k := 0) (n := 0) (Nat.le_of_ble_eq_true rfl) (Nat.le_of_ble_eq_true rfl) ?_
  have hP9 := hP.sub (ws' := [(h1, .inr (9, [.ref h2, .ref h3, x4, .ref h5, x6, x7, x8])), (h2, .inr (2, [x9, x10, x11, .int 0])), (h3, .inr (5, [x12, x13, .int 0])), (h5, .inr (8, [x14, x15, x16, x17, x18, x19, x20, x21, x22, x23, .ref h24, .int 1, x25])), (h24, .inr (5, [x26, x27, .int 0]))]) [0, 1, 2, 3, 4] rfl
  have hD9 := hD.sub (ws' := [(h1, .inr (9, [.ref h2, .ref h3, x4, .ref h5, x6, x7, x8])), (h2, .inr (2, [x9, x10, x11, .int 0])), (h3, .inr (5, [x12, x13, .int 0])), (h5, .inr (8, [x14, x15, x16, x17, x18, x19, x20, x21, x22, x23, .ref h24, .int 1, x25])), (h24, .inr (5, [x26, x27, .int 0]))]) [0, 1, 2, 3, 4] (by decide) rfl
  exact W.zret (v := 1) hx hb hr rfl (fun t ht hW => ⟨⟨1, (), rfl, ⟨rfl, trivial⟩, ⟨by rw [ht]; exact hP9, hD9⟩⟩, hS.F ht⟩) hS.2.2 dX7_isStrong_80
