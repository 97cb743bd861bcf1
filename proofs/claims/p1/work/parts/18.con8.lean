theorem dX7_getRegret_0 : decode cX7_getRegret 0 = .ok (.aload_n 0, 1) := by decide +kernel
theorem dX7_getRegret_1 : decode cX7_getRegret 1 = .ok (.iload_n 1, 1) := by decide +kernel
theorem dX7_getRegret_2 : decode cX7_getRegret 2 = .ok (.invokevirtual 88, 3) := by decide +kernel
set_option maxRecDepth 20000 in
theorem ggX7_getRegret_X7_checkPlayer : GoodIn wsX7_getRegret wsX7_checkPlayer := goodIn_ca (goodIn_r _ [12, 13, 14, 2, 15, 43, 44, 45, 46, 47, 48, 49, 50, 51, 52, 53] (by decide +kernel) (by decide +kernel)) (goodIn_sub (fun _ h => List.mem_cons_of_mem _ (List.mem_append_left _ (List.mem_append_right _ h))) (by decide +kernel))
set_option maxRecDepth 20000 in
theorem gX7_getRegret_X7_checkPlayer : GoodIn wsX7_getRegret (wsV RX7 88 RX7 yX7_checkPlayer wsX7_checkPlayer) := goodIn_app (goodIn_of _ (by decide +kernel)) ggX7_getRegret_X7_checkPlayer
set_option maxHeartbeats 4000000 in
set_option maxRecDepth 100000 in
theorem k_X7_getRegret (l : Launch) (hl9 : l.stackTraces = false) (D : va_G) (cy : Nat → ClassId) (h1 : Nat) (p0 : Int32) (h2 : Nat) (x3 : Value) (x4 : Value) (x5 : Value) (x6 : Value) (x7 : Value) (x8 : Value) (x9 : Value) (x10 : Value) (x11 : Value) : vx_Met l yX7_getRegret wsX7_getRegret ({ frames := 7, cells := 1, slots := 6, locals := 103 }) (kRX D cy [.ref h1, .int p0] [(h1, .inr (9, [.ref h2, x3, x4, x5, x6, x7, x8])), (h2, .inr (2, [x9, x10, x11, .int 0]))]) (va_Qi (fun (r : Int32) (_ : Unit) => False) (fun (_ : Unit) (_ : State) => True) (fun _ : Nat => False)) (vx_X (fun _ : Unit => True) (fun (E : String) (_ : Unit) (_ : State) => (E = "java/lang/IndexOutOfBoundsException" ∧ True)) (fun _ : Nat => False)) 1 6 (fun _ : Nat => False) := by
  refine vx_ofW (cc := cX7_getRegret) (maxL := 2) (ret := (some .int)) (by decide) rfl ?_
  intro p e s m args below meth c s₁ B hml ht9 hv
  obtain ⟨rfl, hP, hK, hE⟩ := hv
  have hx := B.exec
  have hb := B.bytes
  have hr := B.returns
  have hts := atoms_spec (ws := wsX7_getRegret) B.pre
  have hown : s.vm.findClass RX7 = some m.cls := findClass_of_methodNamed B.named
  have hlocks := B.notSynchronized
  have hS : va_S (fun _ : Nat => False) s.heap s.heap [] := va_S.rf
  have hP : va_P D vwCl [(h1, .inr (9, [.ref h2, x3, x4, x5, x6, x7, x8])), (h2, .inr (2, [x9, x10, x11, .int 0]))] s.heap := hP
  have hl := lv_entry ([.ref h1, .int p0]) (n := 2) (Nat.le_of_ble_eq_true rfl)
  rw [lg_entry_eq]
  generalize (lg_sl ([.ref h1, .int p0]) ++ List.replicate (2 - (lg_sl ([.ref h1, .int p0])).length) Slot.unset).toArray = ls at hl ⊢
  have hl : lv_has ls 2 [(0, .ref h1), (1, .int p0)] := hl
  refine lv_aload_n hx hb dX7_getRegret_0 rfl (lv_at hl 0 rfl) ?_
  refine lv_iload_n hx hb dX7_getRegret_1 rfl (lv_at hl 1 rfl) ?_
  have hPc := hP.sub (ws' := [(h1, .inr (9, [.ref h2, x3, x4, x5, x6, x7, x8])), (h2, .inr (2, [x9, x10, x11, .int 0]))]) [0, 1] rfl
  refine vx_callv (vx_runV (As := [.int p0]) (rest := []) ⟨hx, hb, hml, hown, hts⟩ (k_X7_checkPlayer l hl9 D cy h1 p0 h2 (x3) (x4) (x5) (x6) (x7) (x8) (x9) (x10) (x11)) (cwV 1 hts gX7_getRegret_X7_checkPlayer rfl rfl rfl (by decide +kernel) ⟨(Nat.le_of_ble_eq_true rfl), (Nat.le_of_ble_eq_true rfl)⟩) ⟨kRX_fb, va_recv hK hP (ci := 9) (q0 := 0) rfl rfl, (kRX_go hPc hK hE hS)⟩ rfl rfl hl.1 rfl (lv_room (Nat.le_of_ble_eq_true rfl)) dX7_getRegret_2 ⟨(Nat.le_of_ble_eq_true rfl), (Nat.le_of_ble_eq_true rfl)⟩) hS (fun _ _ h => h.elim) (fun _ h => h.elim) (fun _ _ h => h.elim) (fun E9 ce9 q9 u t H locs ht hvm hw hB hz1 hk1 hS hce hcv hcl => ?_) (fun u t H locs ht hvm hw hB hz1 hk1 hS => ?_)
  · obtain ⟨rfl, hB⟩ := hB
    have f_1 : True := hB
    exact vx_out (fun x hx => (ht9 x hx).elim) hlocks hce hcv hcl (fun t ht _ => ⟨(), trivial, (⟨rfl, trivial⟩), hS.F ht⟩) hS.2.2 (Nat.le_of_ble_eq_true rfl) (Nat.le_of_ble_eq_true rfl)
  · exact (show False from hw).elim
theorem dL_getRegret_0 : decode cL_getRegret 0 = .ok (.aload_n 2, 1) := by decide +kernel
theorem dL_getRegret_1 : decode cL_getRegret 1 = .ok (.iconst 0, 1) := by decide +kernel
theorem dL_getRegret_2 : decode cL_getRegret 2 = .ok (.aload_n 0, 1) := by decide +kernel
theorem dL_getRegret_3 : decode cL_getRegret 3 = .ok (.iload_n 1, 1) := by decide +kernel
theorem dL_getRegret_4 : decode cL_getRegret 4 = .ok (.invokevirtual 123, 3) := by decide +kernel
set_option maxRecDepth 20000 in
theorem ggL_getRegret_X7_getRegret : GoodIn wsL_getRegret wsX7_getRegret := goodIn_ca (goodIn_ca (goodIn_r _ [6, 7, 8, 9, 10, 11, 12, 13, 14, 15, 16, 5, 17, 18, 19, 20, 21, 22, 23, 24, 25, 26, 27, 28, 29, 30, 31, 32, 33, 34, 35, 36, 37, 38, 39, 40, 41, 42, 43, 44, 45, 46, 47, 48, 49, 50, 51, 52, 53, 54, 55, 56, 57, 58, 59, 60, 61, 62, 63, 64, 65, 66, 67] (by decide +kernel) (by decide +kernel)) (goodIn_sub (fun _ h => List.mem_cons_of_mem _ (List.mem_append_right _ h)) (by decide +kernel))) (goodIn_sub (fun _ h => List.mem_cons_of_mem _ (List.mem_append_left _ (List.mem_append_right _ h))) (by decide +kernel))
set_option maxRecDepth 20000 in
theorem gL_getRegret_X7_getRegret : GoodIn wsL_getRegret (wsV RL 123 RX7 yX7_getRegret wsX7_getRegret) := goodIn_app (goodIn_of _ (by decide +kernel)) ggL_getRegret_X7_getRegret
theorem dL_getRegret_12 : decode cL_getRegret 12 = .ok (.astore_n 3, 1) := by decide +kernel
theorem dL_getRegret_13 : decode cL_getRegret 13 = .ok (.iconst 1, 1) := by decide +kernel
theorem dL_getRegret_14 : decode cL_getRegret 14 = .ok (.ireturn, 1) := by decide +kernel
set_option maxHeartbeats 4000000 in
set_option maxRecDepth 100000 in
theorem k_L_getRegret (l : Launch) (hl9 : l.stackTraces = false) (D : va_G) (cy : Nat → ClassId) (h1 : Nat) (p1 : Int32) (h2 : Nat) (h3 : Nat) (x4 : Value) (x5 : Value) (x6 : Value) (x7 : Value) (x8 : Value) (x9 : Value) (x10 : Value) (x11 : Value) (x12 : Value) : Met l yL_getRegret wsL_getRegret ({ frames := 8, cells := 1, slots := 6, locals := 124 }) (kRX D cy [.ref h1, .int p1, .ref h2] [(h1, .inr (9, [.ref h3, x4, x5, x6, x7, x8, x9])), (h3, .inr (2, [x10, x11, x12, .int 0]))]) (va_Qi (fun (r : Int32) (_ : Unit) => r = 1 ∧ True) (fun (_ : Unit) (_ : State) => True) (fun _ : Nat => False)) 1 6 (fun _ : Nat => False) := by
  refine va_MetW (cc := cL_getRegret) (maxL := 4) (ret := (some .int)) (by decide) rfl ?_
  intro p e s m args below meth c s₁ B hml hv
  obtain ⟨rfl, hP, hK, hE⟩ := hv
  have hx := B.exec
  have hb := B.bytes
  have hr := B.returns
  have hts := atoms_spec (ws := wsL_getRegret) B.pre
  have hown : s.vm.findClass RL = some m.cls := findClass_of_methodNamed B.named
  have hlocks := B.notSynchronized
  have htb := vx_table (x := yL_getRegret) B (hts _ (List.mem_cons_self))
  have hS : va_S (fun _ : Nat => False) s.heap s.heap [] := va_S.rf
  have hP : va_P D vwCl [(h1, .inr (9, [.ref h3, x4, x5, x6, x7, x8, x9])), (h3, .inr (2, [x10, x11, x12, .int 0]))] s.heap := hP
  have hl := lv_entry ([.ref h1, .int p1, .ref h2]) (n := 4) (Nat.le_of_ble_eq_true rfl)
  rw [lg_entry_eq]
  generalize (lg_sl ([.ref h1, .int p1, .ref h2]) ++ List.replicate (4 - (lg_sl ([.ref h1, .int p1, .ref h2])).length) Slot.unset).toArray = ls at hl ⊢
  have hl : lv_has ls 4 [(0, .ref h1), (1, .int p1), (2, .ref h2)] := hl
  refine lv_aload_n hx hb dL_getRegret_0 rfl (lv_at hl 2 rfl) ?_
  refine lv_iconst (v := 0) hx hb dL_getRegret_1 (by decide) ?_
  refine lv_aload_n hx hb dL_getRegret_2 rfl (lv_at hl 0 rfl) ?_
  refine lv_iload_n hx hb dL_getRegret_3 rfl (lv_at hl 1 rfl) ?_
  have hPc := hP.sub (ws' := [(h1, .inr (9, [.ref h3, x4, x5, x6, x7, x8, x9])), (h3, .inr (2, [x10, x11, x12, .int 0]))]) [0, 1] rfl
  refine vx_calli (vx_runV (As := [.int p1]) (rest := [.int 0, .ref h2]) ⟨hx, hb, hml, hown, hts⟩ (k_X7_getRegret l hl9 D cy h1 p1 h3 (x4) (x5) (x6) (x7) (x8) (x9) (x10) (x11) (x12)) (cwV 1 hts gL_getRegret_X7_getRegret rfl rfl rfl (by decide +kernel) ⟨(Nat.le_of_ble_eq_true rfl), (Nat.le_of_ble_eq_true rfl)⟩) ⟨kRX_fb, va_recv hK hP (ci := 9) (q0 := 0) rfl rfl, (kRX_go hPc hK hE hS)⟩ rfl rfl hl.1 rfl (lv_room (Nat.le_of_ble_eq_true rfl)) dL_getRegret_4 ⟨(Nat.le_of_ble_eq_true rfl), (Nat.le_of_ble_eq_true rfl)⟩) hS (fun _ _ h => h.elim) (fun _ h => h.elim) (fun _ _ h => h.elim) (fun E9 ce9 q9 u t H locs ht hvm hw hB hz1 hk1 hS hce hcv hcl => ?_) (fun r9 u t H locs ht hvm hw hB hz1 hk1 hS => ?_)
  · obtain ⟨rfl, hB⟩ := hB
    have f_1 : True := hB
    have hP := kx_kept hP hk1
    refine vx_catch (E := "java/lang/IndexOutOfBoundsException") (name := "java/lang/IndexOutOfBoundsException") hown [] (⟨0, 9, 12, 28⟩ : ExceptionTableEntry) [] htb (fun _ h => absurd h List.not_mem_nil) rfl (by decide) (hts (.classLink RL 28 "java/lang/IndexOutOfBoundsException") (List.mem_cons_of_mem _ (List.mem_append_left _ (List.mem_append_left _ (List.mem_append_left _ (List.mem_append_left _ (List.mem_append_left _ (List.mem_append_left _ (List.mem_append_left _ (List.mem_of_getElem? (i := 0) rfl)))))))))) (exP.cast hE "java/lang/IndexOutOfBoundsException" (by decide +kernel)) hce hcv hcl ?_
    refine lv_astore_n (lv' := [(3, .ref q9), (0, .ref h1), (1, .int p1), (2, .ref h2)]) hx hb dL_getRegret_12 rfl hl (by decide) rfl (fun ls hl => ?_)
    refine lv_iconst (v := 1) hx hb dL_getRegret_13 (by decide) ?_
    refine W.widen (k := 1) (n := 6) (Nat.le_of_ble_eq_true rfl) (Nat.le_of_ble_eq_true rfl) ?_
    exact W.iret (v := 1) hx hb hr (fun t ht hW => ⟨⟨1, (), rfl, ⟨rfl, trivial⟩, trivial⟩, hS.F ht⟩) hS.2.2 dL_getRegret_14
  · exact (show False from hw).elim
theorem dX8_getRegret_0 : decode cX8_getRegret 0 = .ok (.aload_n 0, 1) := by decide +kernel
theorem dX8_getRegret_1 : decode cX8_getRegret 1 = .ok (.aload_n 0, 1) := by decide +kernel
theorem dX8_getRegret_2 : decode cX8_getRegret 2 = .ok (.iload_n 1, 1) := by decide +kernel
theorem dX8_getRegret_3 : decode cX8_getRegret 3 = .ok (.invokevirtual 100, 3) := by decide +kernel
set_option maxRecDepth 20000 in
theorem ggX8_getRegret_X8_isNone : GoodIn wsX8_getRegret wsX8_isNone := goodIn_r _ [11, 12, 13, 14, 10, 15, 27, 28, 29, 30, 31, 32, 33, 34, 35, 36, 37, 38, 39, 40, 41, 42, 43, 44] (by decide +kernel) (by decide +kernel)
set_option maxRecDepth 20000 in
theorem gX8_getRegret_X8_isNone : GoodIn wsX8_getRegret (wsV RX8 100 RX8 yX8_isNone wsX8_isNone) := goodIn_app (goodIn_of _ (by decide +kernel)) ggX8_getRegret_X8_isNone
theorem dX8_getRegret_6 : decode cX8_getRegret 6 = .ok (.iconst 1, 1) := by decide +kernel
theorem dX8_getRegret_7 : decode cX8_getRegret 7 = .ok (.invokevirtual 73, 3) := by decide +kernel
set_option maxRecDepth 20000 in
theorem ggX8_getRegret_X8_isThrown : GoodIn wsX8_getRegret wsX8_isThrown := goodIn_r _ [19, 20, 27, 28, 29, 30, 31, 32, 33, 34, 35, 36, 37, 38, 39, 40, 41, 42, 43, 44] (by decide +kernel) (by decide +kernel)
set_option maxRecDepth 20000 in
theorem gX8_getRegret_X8_isThrown : GoodIn wsX8_getRegret (wsV RX8 73 RX8 yX8_isThrown wsX8_isThrown) := goodIn_app (goodIn_of _ (by decide +kernel)) ggX8_getRegret_X8_isThrown
theorem dX8_getRegret_10 : decode cX8_getRegret 10 = .ok (.ifCond .eq 5, 3) := by decide +kernel
theorem dX8_getRegret_13 : decode cX8_getRegret 13 = .ok (.iconst 0, 1) := by decide +kernel
theorem dX8_getRegret_14 : decode cX8_getRegret 14 = .ok (.ireturn, 1) := by decide +kernel
set_option maxHeartbeats 4000000 in
set_option maxRecDepth 100000 in
theorem k_X8_getRegret (l : Launch) (D : va_G) (cy : Nat → ClassId) (h1 : Nat) (p0 : Int32) (x2 : Value) (x3 : Value) (x4 : Value) (x5 : Value) (x6 : Value) (x7 : Value) (x8 : Value) (x9 : Value) (x10 : Value) (x11 : Value) (x12 : Value) (x13 : Value) (x14 : Value) (x15 : Value) (x16 : Value) (x17 : Value) (x18 : Value) (sz : Nat) : Met l yX8_getRegret wsX8_getRegret ({ frames := 2, cells := 0, slots := 0, locals := 43 }) (kW D cy [.ref h1, .int p0] [(h1, .inr (10, [x2, x3, x4, x5, x6, x7, x8, x9, x10, x11, x12, x13, x14, x15, x16, .int 0, x17, x18]))] sz) (va_Qi (fun (r : Int32) (_ : Unit) => r = 0 ∧ True) (fun (_ : Unit) (t : State) => va_P D vwCl [(h1, .inr (10, [x2, x3, x4, x5, x6, x7, x8, x9, x10, x11, x12, x13, x14, x15, x16, .int 0, x17, .int 1]))] t.heap ∧ va_D (va_A [(h1, .inr (10, [x2, x3, x4, x5, x6, x7, x8, x9, x10, x11, x12, x13, x14, x15, x16, .int 0, x17, x18]))] sz) [(h1, .inr (10, [x2, x3, x4, x5, x6, x7, x8, x9, x10, x11, x12, x13, x14, x15, x16, .int 0, x17, .int 1]))]) (va_A [(h1, .inr (10, [x2, x3, x4, x5, x6, x7, x8, x9, x10, x11, x12, x13, x14, x15, x16, .int 0, x17, x18]))] sz)) 0 0 (va_A [(h1, .inr (10, [x2, x3, x4, x5, x6, x7, x8, x9, x10, x11, x12, x13, x14, x15, x16, .int 0, x17, x18]))] sz) := by
  refine Met.ofW (cc := cX8_getRegret) (maxL := 5) (ret := (some .int)) (by decide) rfl ?_
  intro p e s m args below meth c s₁ B hml hv
  obtain ⟨rfl, hsz, hP, hK, hD0⟩ := hv
  have hx := B.exec
  have hb := B.bytes
  have hr := B.returns
  have hts := atoms_spec (ws := wsX8_getRegret) B.pre
  have hown : s.vm.findClass RX8 = some m.cls := findClass_of_methodNamed B.named
  have hlocks := B.notSynchronized
  subst hsz
  have hD := hD0.self (sz := s.heap.size)
  generalize hAe : va_A [(h1, .inr (10, [x2, x3, x4, x5, x6, x7, x8, x9, x10, x11, x12, x13, x14, x15, x16, .int 0, x17, x18]))] s.heap.size = A at hD ⊢
  have hA : ∀ q : Nat, s.heap.size ≤ q → A q := fun q h => by rw [← hAe]; exact Or.inr h
  have hS : va_S A s.heap s.heap [] := va_S.rf
  have hP : va_P D vwCl [(h1, .inr (10, [x2, x3, x4, x5, x6, x7, x8, x9, x10, x11, x12, x13, x14, x15, x16, .int 0, x17, x18]))] s.heap := hP
  have hl := lv_entry ([.ref h1, .int p0]) (n := 5) (Nat.le_of_ble_eq_true rfl)
  rw [lg_entry_eq]
  generalize (lg_sl ([.ref h1, .int p0]) ++ List.replicate (5 - (lg_sl ([.ref h1, .int p0])).length) Slot.unset).toArray = ls at hl ⊢
  have hl : lv_has ls 5 [(0, .ref h1), (1, .int p0)] := hl
  refine lv_aload_n hx hb dX8_getRegret_0 rfl (lv_at hl 0 rfl) ?_
  refine lv_aload_n hx hb dX8_getRegret_1 rfl (lv_at hl 0 rfl) ?_
  refine lv_iload_n hx hb dX8_getRegret_2 rfl (lv_at hl 1 rfl) ?_
  have hPc := hP.sub (ws' := [(h1, .inr (10, [x2, x3, x4, x5, x6, x7, x8, x9, x10, x11, x12, x13, x14, x15, x16, .int 0, x17, x18]))]) [0] rfl
  refine va_calli (va_runV (As := [.int p0]) (rest := [.ref h1]) ⟨hx, hb, hml, hown, hts⟩ (k_X8_isNone l D cy h1 p0 (x2) (x3) (x4) (x5) (x6) (x7) (x8) (x9) (x10) (x11) (x12) (x13) (x14) (x15) (x16) (x17) (x18)) (cwV 1 hts gX8_getRegret_X8_isNone rfl rfl rfl (by decide +kernel) ⟨(Nat.le_of_ble_eq_true rfl), (Nat.le_of_ble_eq_true rfl)⟩) ⟨kR_fb, va_recv hK hP (ci := 10) (q0 := 0) rfl rfl, (kR_go hPc hK)⟩ rfl rfl hl.1 rfl (lv_room (Nat.le_of_ble_eq_true rfl)) dX8_getRegret_3 ⟨(Nat.le_of_ble_eq_true rfl), (Nat.le_of_ble_eq_true rfl)⟩) hS (fun _ _ h => h.elim) (fun _ h => h.elim) (fun r9 u t H locs ht hvm hw hB hz1 hk1 hS => ?_)
  have hP := kx_kept hP hk1
  obtain ⟨rfl, hw⟩ := hw
  refine lv_iconst (v := 1) hx hb dX8_getRegret_6 (by decide) ?_
  have hPc := hP.sub (ws' := [(h1, .inr (10, [x2, x3, x4, x5, x6, x7, x8, x9, x10, x11, x12, x13, x14, x15, x16, .int 0, x17, x18]))]) [0] rfl
  have hDc := hD.sub (ws' := [(h1, .inr (10, [x2, x3, x4, x5, x6, x7, x8, x9, x10, x11, x12, x13, x14, x15, x16, .int 0, x17, x18]))]) [0] (by decide) rfl
  have hFc := va_free (wc := [(h1, .inr (10, [x2, x3, x4, x5, x6, x7, x8, x9, x10, x11, x12, x13, x14, x15, x16, .int 0, x17, x18]))]) hD hS hA [0] rfl
  refine va_calli (va_runV (As := [.int 1, .int 1]) (rest := []) ⟨hx, hb, hml, hown, hts⟩ (k_X8_isThrown l D cy h1 (x2) (x3) (x4) (x5) (x6) (x7) (x8) (x9) (x10) (x11) (x12) (x13) (x14) (x15) (x16) (.int 0) (x17) (x18) H.size) (cwV 2 hts gX8_getRegret_X8_isThrown rfl rfl rfl (by decide +kernel) ⟨(Nat.le_of_ble_eq_true rfl), (Nat.le_of_ble_eq_true rfl)⟩) ⟨kW_fb, va_recv hK hP (ci := 10) (q0 := 0) rfl rfl, (kW_go hPc hK hDc)⟩ rfl rfl hl.1 rfl (lv_room (Nat.le_of_ble_eq_true rfl)) dX8_getRegret_7 ⟨(Nat.le_of_ble_eq_true rfl), (Nat.le_of_ble_eq_true rfl)⟩) hS (fun q _ h => hFc q h) hFc (fun r9 u t H locs ht hvm hw hB hz1 hk1 hS => ?_)
  obtain ⟨hP1, hD1⟩ := hB
  rw [ht] at hP1
  try dsimp only at hw hP1 hD1
  obtain ⟨hP, hD⟩ := va_join (wr := []) (w1 := [(h1, .inr (10, [x2, x3, x4, x5, x6, x7, x8, x9, x10, x11, x12, x13, x14, x15, x16, .int 0, x17, .int 1]))]) hP hD [0] [] rfl rfl (by decide) (by decide) hk1 hFc hP1 hD1
  have hP : va_P D vwCl [(h1, .inr (10, [x2, x3, x4, x5, x6, x7, x8, x9, x10, x11, x12, x13, x14, x15, x16, .int 0, x17, .int 1]))] H := hP
  have hD : va_D A [(h1, .inr (10, [x2, x3, x4, x5, x6, x7, x8, x9, x10, x11, x12, x13, x14, x15, x16, .int 0, x17, .int 1]))] := hD
  obtain ⟨rfl, hw⟩ := hw
  refine lv_if_eq (tgt := 15) hx hb dX8_getRegret_10 (by decide) (fun h => absurd h (by decide)) (fun _ => ?_)
  refine lv_iconst (v := 0) hx hb dX8_getRegret_13 (by decide) ?_
  refine W.widen (k := 0) (n := 0) (Nat.le_of_ble_eq_true rfl) (Nat.le_of_ble_eq_true rfl) ?_
  have hP9 := hP.sub (ws' := [(h1, .inr (10, [x2, x3, x4, x5, x6, x7, x8, x9, x10, x11, x12, x13, x14, x15, x16, .int 0, x17, .int 1]))]) [0] rfl
  have hD9 := hD.sub (ws' := [(h1, .inr (10, [x2, x3, x4, x5, x6, x7, x8, x9, x10, x11, x12, x13, x14, x15, x16, .int 0, x17, .int 1]))]) [0] (by decide) rfl
  exact W.iret (v := 0) hx hb hr (fun t ht hW => ⟨⟨0, (), rfl, ⟨rfl, trivial⟩, ⟨by rw [ht]; exact hP9, hD9⟩⟩, hS.F ht⟩) hS.2.2 dX8_getRegret_14
theorem dX7_setSeed_0 : decode cX7_setSeed 0 = .ok (.aload_n 0, 1) := by decide +kernel
theorem dX7_setSeed_1 : decode cX7_setSeed 1 = .ok (.iload_n 1, 1) := by decide +kernel
theorem dX7_setSeed_2 : decode cX7_setSeed 2 = .ok (.iconst 1, 1) := by decide +kernel
theorem dX7_setSeed_3 : decode cX7_setSeed 3 = .ok (.ldc_w 331, 3) := by decide +kernel
theorem dX7_setSeed_6 : decode cX7_setSeed 6 = .ok (.invokevirtual 174, 3) := by decide +kernel
set_option maxRecDepth 20000 in
theorem ggX7_setSeed_X7_checkRange : GoodIn wsX7_setSeed wsX7_checkRange := goodIn_ca (goodIn_r _ [7, 8, 9] (by decide +kernel) (by decide +kernel)) (goodIn_sub (fun _ h => List.mem_cons_of_mem _ (List.mem_append_right _ h)) (by decide +kernel))
set_option maxRecDepth 20000 in
theorem gX7_setSeed_X7_checkRange : GoodIn wsX7_setSeed (wsV RX7 174 RX7 yX7_checkRange wsX7_checkRange) := goodIn_app (goodIn_of _ (by decide +kernel)) ggX7_setSeed_X7_checkRange
theorem dX7_setSeed_9 : decode cX7_setSeed 9 = .ok (.aload_n 0, 1) := by decide +kernel
theorem dX7_setSeed_10 : decode cX7_setSeed 10 = .ok (.getfield 47, 3) := by decide +kernel
theorem dX7_setSeed_13 : decode cX7_setSeed 13 = .ok (.istore_n 2, 1) := by decide +kernel
theorem dX7_setSeed_14 : decode cX7_setSeed 14 = .ok (.aload_n 0, 1) := by decide +kernel
theorem dX7_setSeed_15 : decode cX7_setSeed 15 = .ok (.iload_n 1, 1) := by decide +kernel
theorem dX7_setSeed_16 : decode cX7_setSeed 16 = .ok (.putfield 47, 3) := by decide +kernel
theorem dX7_setSeed_19 : decode cX7_setSeed 19 = .ok (.iload_n 2, 1) := by decide +kernel
theorem dX7_setSeed_20 : decode cX7_setSeed 20 = .ok (.ireturn, 1) := by decide +kernel
set_option maxHeartbeats 4000000 in
set_option maxRecDepth 100000 in
theorem k_X7_setSeed (l : Launch) (hl9 : l.stackTraces = false) (D : va_G) (cy : Nat → ClassId) (h1 : Nat) (p0 : Int32) (x2 : Value) (x3 : Value) (x4 : Value) (x5 : Value) (x6 : Value) (x7 : Value) (sz : Nat) : vx_Met l yX7_setSeed wsX7_setSeed ({ frames := 7, cells := 1, slots := 6, locals := 105 }) (kWX D cy [.ref h1, .int p0] [(h1, .inr (9, [x2, x3, x4, x5, x6, x7, .int 1]))] sz) (va_Qi (fun (r : Int32) (_ : Unit) => r = 1 ∧ ((1 : Int) ≤ p0.toInt ∧ p0.toInt ≤ (2147483646 : Int))) (fun (_ : Unit) (t : State) => va_P D vwCl [(h1, .inr (9, [x2, x3, x4, x5, x6, x7, .int p0]))] t.heap ∧ va_D (va_A [(h1, .inr (9, [x2, x3, x4, x5, x6, x7, .int 1]))] sz) [(h1, .inr (9, [x2, x3, x4, x5, x6, x7, .int p0]))]) (va_A [(h1, .inr (9, [x2, x3, x4, x5, x6, x7, .int 1]))] sz)) (vx_X (fun _ : Unit => True) (fun (E : String) (_ : Unit) (_ : State) => (E = "java/lang/IllegalArgumentException" ∧ ¬ (((1 : Int) ≤ p0.toInt ∧ p0.toInt ≤ (2147483646 : Int))))) (va_A [(h1, .inr (9, [x2, x3, x4, x5, x6, x7, .int 1]))] sz)) 1 6 (va_A [(h1, .inr (9, [x2, x3, x4, x5, x6, x7, .int 1]))] sz) := by
  refine vx_ofW (cc := cX7_setSeed) (maxL := 3) (ret := (some .int)) (by decide) rfl ?_
  intro p e s m args below meth c s₁ B hml ht9 hv
  obtain ⟨rfl, hsz, hP, hK, hD0, hE⟩ := hv
  have hx := B.exec
  have hb := B.bytes
  have hr := B.returns
  have hts := atoms_spec (ws := wsX7_setSeed) B.pre
  have hown : s.vm.findClass RX7 = some m.cls := findClass_of_methodNamed B.named
  have hlocks := B.notSynchronized
  subst hsz
  have hD := hD0.self (sz := s.heap.size)
  generalize hAe : va_A [(h1, .inr (9, [x2, x3, x4, x5, x6, x7, .int 1]))] s.heap.size = A at hD hE ⊢
  have hA : ∀ q : Nat, s.heap.size ≤ q → A q := fun q h => by rw [← hAe]; exact Or.inr h
  have hS : va_S A s.heap s.heap [] := va_S.rf
  have hP : va_P D vwCl [(h1, .inr (9, [x2, x3, x4, x5, x6, x7, .int 1]))] s.heap := hP
  have hl := lv_entry ([.ref h1, .int p0]) (n := 3) (Nat.le_of_ble_eq_true rfl)
  rw [lg_entry_eq]
  generalize (lg_sl ([.ref h1, .int p0]) ++ List.replicate (3 - (lg_sl ([.ref h1, .int p0])).length) Slot.unset).toArray = ls at hl ⊢
  have hl : lv_has ls 3 [(0, .ref h1), (1, .int p0)] := hl
  refine lv_aload_n hx hb dX7_setSeed_0 rfl (lv_at hl 0 rfl) ?_
  refine lv_iload_n hx hb dX7_setSeed_1 rfl (lv_at hl 1 rfl) ?_
  refine lv_iconst (v := 1) hx hb dX7_setSeed_2 (by decide) ?_
  refine lv_ldcw (v := 2147483646) hx hb hown (hts (.constant RX7 331 (2147483646)) (List.mem_cons_of_mem _ (List.mem_append_left _ (List.mem_append_left _ (List.mem_of_getElem? (i := 0) rfl))))) dX7_setSeed_3 ?_
  have hPc := hP.sub (ws' := []) [] rfl
  refine vx_callv (vx_runV (As := [.int p0, .int 1, .int 2147483646]) (rest := []) ⟨hx, hb, hml, hown, hts⟩ (k_X7_checkRange l hl9 D cy h1 p0 1 2147483646) (cwV 3 hts gX7_setSeed_X7_checkRange rfl rfl rfl (by decide +kernel) ⟨(Nat.le_of_ble_eq_true rfl), (Nat.le_of_ble_eq_true rfl)⟩) ⟨kRX_fb, va_recv hK hP (ci := 9) (q0 := 0) rfl rfl, (kRX_go hPc hK hE hS)⟩ rfl rfl hl.1 rfl (lv_room (Nat.le_of_ble_eq_true rfl)) dX7_setSeed_6 ⟨(Nat.le_of_ble_eq_true rfl), (Nat.le_of_ble_eq_true rfl)⟩) hS (fun _ _ h => h.elim) (fun _ h => h.elim) (fun _ _ h => h.elim) (fun E9 ce9 q9 u t H locs ht hvm hw hB hz1 hk1 hS hce hcv hcl => ?_) (fun u t H locs ht hvm hw hB hz1 hk1 hS => ?_)
  · obtain ⟨rfl, hB⟩ := hB
    have f_1 : ¬ (((1 : Int) ≤ p0.toInt ∧ p0.toInt ≤ (2147483646 : Int))) := hB
    exact vx_out (fun x hx => (ht9 x hx).elim) hlocks hce hcv hcl (fun t ht _ => ⟨(), trivial, (⟨rfl, (by omega)⟩), hS.F ht⟩) hS.2.2 (Nat.le_of_ble_eq_true rfl) (Nat.le_of_ble_eq_true rfl)
  · have hP := kx_kept hP hk1
    have f_2 : ((1 : Int) ≤ p0.toInt ∧ p0.toInt ≤ (2147483646 : Int)) := hw
    refine lv_aload_n hx hb dX7_setSeed_9 rfl (lv_at hl 0 rfl) ?_
    refine va_get (D := D) (ci := 9) (v := .int 1) (C := RX7) (T := TX7) (N := 7) hx hb hts (fun _ h => (List.mem_cons_of_mem _ (List.mem_append_left _ (List.mem_append_right _ h)))) hown hK hP 0 rfl rfl 6 (by decide) (hts (.fieldLink RX7 47 "SelfishJunction" "z" "I") (List.mem_cons_of_mem _ (List.mem_append_left _ (List.mem_append_left _ (List.mem_of_getElem? (i := 1) rfl))))) (fun _ h9 => h9) rfl dX7_setSeed_10 ?_
    refine lv_istore_n (lv' := [(2, .int 1), (0, .ref h1), (1, .int p0)]) hx hb dX7_setSeed_13 rfl hl (by decide) rfl (fun ls hl => ?_)
    refine lv_aload_n hx hb dX7_setSeed_14 rfl (lv_at hl 1 rfl) ?_
    refine lv_iload_n hx hb dX7_setSeed_15 rfl (lv_at hl 2 rfl) ?_
    refine va_put (D := D) (ci := 9) (v := .int p0) (ty := .int) (C := RX7) (T := TX7) (N := 7) hx hb hts (fun _ h => (List.mem_cons_of_mem _ (List.mem_append_left _ (List.mem_append_right _ h)))) tyX7 tyX7_ok nmX7 hown hK hP hD hS 0 rfl rfl 6 (by decide) (hts (.fieldLink RX7 47 "SelfishJunction" "z" "I") (List.mem_cons_of_mem _ (List.mem_append_left _ (List.mem_append_left _ (List.mem_of_getElem? (i := 1) rfl))))) (fun _ h9 => h9) rfl (by decide +kernel) rfl rfl (Nat.le_of_ble_eq_true rfl) dX7_setSeed_16 (fun H locs hP hD hS => ?_)
    have hP : va_P D vwCl [(h1, .inr (9, [x2, x3, x4, x5, x6, x7, .int p0]))] H := hP
    have hD : va_D A [(h1, .inr (9, [x2, x3, x4, x5, x6, x7, .int p0]))] := hD
    refine lv_iload_n hx hb dX7_setSeed_19 rfl (lv_at hl 0 rfl) ?_
    refine vx_ret ?_
    refine W.widen (k := 1) (n := 6) (Nat.le_of_ble_eq_true rfl) (Nat.le_of_ble_eq_true rfl) ?_
    have hP9 := hP.sub (ws' := [(h1, .inr (9, [x2, x3, x4, x5, x6, x7, .int p0]))]) [0] rfl
    have hD9 := hD.sub (ws' := [(h1, .inr (9, [x2, x3, x4, x5, x6, x7, .int p0]))]) [0] (by decide) rfl
    exact W.iret (v := 1) hx hb hr (fun t ht hW => ⟨⟨1, (), rfl, ⟨rfl, (by omega)⟩, ⟨by rw [ht]; exact hP9, hD9⟩⟩, hS.F ht⟩) hS.2.2 dX7_setSeed_20
theorem dL_setSeed_0 : decode cL_setSeed 0 = .ok (.aload_n 2, 1) := by decide +kernel
theorem dL_setSeed_1 : decode cL_setSeed 1 = .ok (.iconst 0, 1) := by decide +kernel
theorem dL_setSeed_2 : decode cL_setSeed 2 = .ok (.aload_n 0, 1) := by decide +kernel
theorem dL_setSeed_3 : decode cL_setSeed 3 = .ok (.iload_n 1, 1) := by decide +kernel
theorem dL_setSeed_4 : decode cL_setSeed 4 = .ok (.invokevirtual 126, 3) := by decide +kernel
set_option maxRecDepth 20000 in
theorem ggL_setSeed_X7_setSeed : GoodIn wsL_setSeed wsX7_setSeed := goodIn_ca (goodIn_r _ [6, 7, 8, 9, 10, 11, 5, 12, 13, 14, 15, 16, 17, 18, 19, 20, 21] (by decide +kernel) (by decide +kernel)) (goodIn_sub (fun _ h => List.mem_cons_of_mem _ (List.mem_append_right _ h)) (by decide +kernel))
set_option maxRecDepth 20000 in
theorem gL_setSeed_X7_setSeed : GoodIn wsL_setSeed (wsV RL 126 RX7 yX7_setSeed wsX7_setSeed) := goodIn_app (goodIn_of _ (by decide +kernel)) ggL_setSeed_X7_setSeed
theorem dL_setSeed_12 : decode cL_setSeed 12 = .ok (.astore_n 3, 1) := by decide +kernel
theorem dL_setSeed_13 : decode cL_setSeed 13 = .ok (.iconst 1, 1) := by decide +kernel
theorem dL_setSeed_14 : decode cL_setSeed 14 = .ok (.ireturn, 1) := by decide +kernel
theorem dL_setSeed_7 : decode cL_setSeed 7 = .ok (.i2l, 1) := by decide +kernel
theorem dL_setSeed_8 : decode cL_setSeed 8 = .ok (.lastore, 1) := by decide +kernel
theorem dL_setSeed_9 : decode cL_setSeed 9 = .ok (.goto 6, 3) := by decide +kernel
theorem dL_setSeed_15 : decode cL_setSeed 15 = .ok (.iconst 0, 1) := by decide +kernel
theorem dL_setSeed_16 : decode cL_setSeed 16 = .ok (.ireturn, 1) := by decide +kernel
set_option maxHeartbeats 4000000 in
set_option maxRecDepth 100000 in
theorem k_L_setSeed (l : Launch) (hl9 : l.stackTraces = false) (D : va_G) (cy : Nat → ClassId) (h1 : Nat) (p1 : Int32) (h2 : Nat) (x3 : Value) (x4 : Value) (x5 : Value) (x6 : Value) (x7 : Value) (x8 : Value) (g9 : Nat → Int64) (sz : Nat) : Met l yL_setSeed wsL_setSeed ({ frames := 8, cells := 1, slots := 6, locals := 127 }) (kWX D cy [.ref h1, .int p1, .ref h2] [(h1, .inr (9, [x3, x4, x5, x6, x7, x8, .int 1])), (h2, .inl (cy 2, 1, .inr (.inl g9)))] sz) (va_Qi (fun (r : Int32) (u : (Nat → Int64)) => match u with | u1 => ((r = 1 ∧ ¬ (((1 : Int) ≤ p1.toInt ∧ p1.toInt ≤ (2147483646 : Int)))) ∨ (r = 0 ∧ (u1 0 = 1) ∧ ((1 : Int) ≤ p1.toInt ∧ p1.toInt ≤ (2147483646 : Int))))) (fun (u : (Nat → Int64)) (t : State) => match u with | u1 => va_P D vwCl [(h2, .inl (cy 2, 1, .inr (.inl u1)))] t.heap ∧ va_D (va_A [(h1, .inr (9, [x3, x4, x5, x6, x7, x8, .int 1])), (h2, .inl (cy 2, 1, .inr (.inl g9)))] sz) [(h2, .inl (cy 2, 1, .inr (.inl u1)))]) (va_A [(h1, .inr (9, [x3, x4, x5, x6, x7, x8, .int 1])), (h2, .inl (cy 2, 1, .inr (.inl g9)))] sz)) 1 6 (va_A [(h1, .inr (9, [x3, x4, x5, x6, x7, x8, .int 1])), (h2, .inl (cy 2, 1, .inr (.inl g9)))] sz) := by
  refine va_MetW (cc := cL_setSeed) (maxL := 4) (ret := (some .int)) (by decide) rfl ?_
  intro p e s m args below meth c s₁ B hml hv
  obtain ⟨rfl, hsz, hP, hK, hD0, hE⟩ := hv
  have hx := B.exec
  have hb := B.bytes
  have hr := B.returns
  have hts := atoms_spec (ws := wsL_setSeed) B.pre
  have hown : s.vm.findClass RL = some m.cls := findClass_of_methodNamed B.named
  have hlocks := B.notSynchronized
  have htb := vx_table (x := yL_setSeed) B (hts _ (List.mem_cons_self))
  subst hsz
  have hD := hD0.self (sz := s.heap.size)
  generalize hAe : va_A [(h1, .inr (9, [x3, x4, x5, x6, x7, x8, .int 1])), (h2, .inl (cy 2, 1, .inr (.inl g9)))] s.heap.size = A at hD hE ⊢
  have hA : ∀ q : Nat, s.heap.size ≤ q → A q := fun q h => by rw [← hAe]; exact Or.inr h
  have hS : va_S A s.heap s.heap [] := va_S.rf
  have hP : va_P D vwCl [(h1, .inr (9, [x3, x4, x5, x6, x7, x8, .int 1])), (h2, .inl (cy 2, 1, .inr (.inl g9)))] s.heap := hP
  have hl := lv_entry ([.ref h1, .int p1, .ref h2]) (n := 4) (Nat.le_of_ble_eq_true rfl)
  rw [lg_entry_eq]
  generalize (lg_sl ([.ref h1, .int p1, .ref h2]) ++ List.replicate (4 - (lg_sl ([.ref h1, .int p1, .ref h2])).length) Slot.unset).toArray = ls at hl ⊢
  have hl : lv_has ls 4 [(0, .ref h1), (1, .int p1), (2, .ref h2)] := hl
  refine lv_aload_n hx hb dL_setSeed_0 rfl (lv_at hl 2 rfl) ?_
  refine lv_iconst (v := 0) hx hb dL_setSeed_1 (by decide) ?_
  refine lv_aload_n hx hb dL_setSeed_2 rfl (lv_at hl 0 rfl) ?_
  refine lv_iload_n hx hb dL_setSeed_3 rfl (lv_at hl 1 rfl) ?_
  have hPc := hP.sub (ws' := [(h1, .inr (9, [x3, x4, x5, x6, x7, x8, .int 1]))]) [0] rfl
  have hDc := hD.sub (ws' := [(h1, .inr (9, [x3, x4, x5, x6, x7, x8, .int 1]))]) [0] (by decide) rfl
  have hFc := va_free (wc := [(h1, .inr (9, [x3, x4, x5, x6, x7, x8, .int 1]))]) hD hS hA [0] rfl
  refine vx_calli (vx_runV (As := [.int p1]) (rest := [.int 0, .ref h2]) ⟨hx, hb, hml, hown, hts⟩ (k_X7_setSeed l hl9 D cy h1 p1 (x3) (x4) (x5) (x6) (x7) (x8) s.heap.size) (cwV 1 hts gL_setSeed_X7_setSeed rfl rfl rfl (by decide +kernel) ⟨(Nat.le_of_ble_eq_true rfl), (Nat.le_of_ble_eq_true rfl)⟩) ⟨kWX_fb, va_recv hK hP (ci := 9) (q0 := 0) rfl rfl, (kWX_go hPc hK hDc hFc hE hS)⟩ rfl rfl hl.1 rfl (lv_room (Nat.le_of_ble_eq_true rfl)) dL_setSeed_4 ⟨(Nat.le_of_ble_eq_true rfl), (Nat.le_of_ble_eq_true rfl)⟩) hS (fun q _ h => hFc q h) hFc (fun q _ h => hFc q h) (fun E9 ce9 q9 u t H locs ht hvm hw hB hz1 hk1 hS hce hcv hcl => ?_) (fun r9 u t H locs ht hvm hw hB hz1 hk1 hS => ?_)
  · obtain ⟨rfl, hB⟩ := hB
    have f_1 : ¬ (((1 : Int) ≤ p1.toInt ∧ p1.toInt ≤ (2147483646 : Int))) := hB
    obtain ⟨hP, hD⟩ := va_join (wr := [(h2, .inl (cy 2, 1, .inr (.inl g9)))]) (w1 := []) hP hD [0] [1] rfl rfl (by decide) (by decide) hk1 hFc (fun k q h => by simp at h) ⟨fun i j p q h => by simp at h, fun k q h => by simp at h⟩
    have hP : va_P D vwCl [(h2, .inl (cy 2, 1, .inr (.inl g9)))] H := hP
    have hD : va_D A [(h2, .inl (cy 2, 1, .inr (.inl g9)))] := hD
    refine vx_catch (E := "java/lang/IllegalArgumentException") (name := "java/lang/IllegalArgumentException") hown [] (⟨0, 9, 12, 13⟩ : ExceptionTableEntry) [] htb (fun _ h => absurd h List.not_mem_nil) rfl (by decide) (hts (.classLink RL 13 "java/lang/IllegalArgumentException") (List.mem_cons_of_mem _ (List.mem_append_left _ (List.mem_append_left _ (List.mem_append_left _ (List.mem_of_getElem? (i := 0) rfl)))))) (exP.cast hE "java/lang/IllegalArgumentException" (by decide +kernel)) hce hcv hcl ?_
    refine lv_astore_n (lv' := [(3, .ref q9), (0, .ref h1), (1, .int p1), (2, .ref h2)]) hx hb dL_setSeed_12 rfl hl (by decide) rfl (fun ls hl => ?_)
    refine lv_iconst (v := 1) hx hb dL_setSeed_13 (by decide) ?_
    refine W.widen (k := 1) (n := 6) (Nat.le_of_ble_eq_true rfl) (Nat.le_of_ble_eq_true rfl) ?_
    have hP9 := hP.sub (ws' := [(h2, .inl (cy 2, 1, .inr (.inl g9)))]) [0] rfl
    have hD9 := hD.sub (ws' := [(h2, .inl (cy 2, 1, .inr (.inl g9)))]) [0] (by decide) rfl
    exact W.iret (v := 1) hx hb hr (fun t ht hW => ⟨⟨1, (g9), rfl, Or.inl (⟨rfl, (by omega)⟩), ⟨by rw [ht]; exact hP9, hD9⟩⟩, hS.F ht⟩) hS.2.2 dL_setSeed_14
  · obtain ⟨hP1, hD1⟩ := hB
    rw [ht] at hP1
    try dsimp only at hw hP1 hD1
    obtain ⟨hP, hD⟩ := va_join (wr := [(h2, .inl (cy 2, 1, .inr (.inl g9)))]) (w1 := [(h1, .inr (9, [x3, x4, x5, x6, x7, x8, .int p1]))]) hP hD [0] [1] rfl rfl (by decide) (by decide) hk1 hFc hP1 hD1
    have hP : va_P D vwCl [(h2, .inl (cy 2, 1, .inr (.inl g9))), (h1, .inr (9, [x3, x4, x5, x6, x7, x8, .int p1]))] H := hP
    have hD : va_D A [(h2, .inl (cy 2, 1, .inr (.inl g9))), (h1, .inr (9, [x3, x4, x5, x6, x7, x8, .int p1]))] := hD
    refine W.widen (k := 1) (n := 6) (Nat.le_of_ble_eq_true rfl) (Nat.le_of_ble_eq_true rfl) ?_
    obtain ⟨rfl, hw⟩ := hw
    have f_2 : ((1 : Int) ≤ p1.toInt ∧ p1.toInt ≤ (2147483646 : Int)) := hw
    refine lv_i2l (v := 1) hx hb dL_setSeed_7 (by decide) ?_
    refine va_last hx hb hK hP hD hS 0 2 rfl rfl (kx_in 0 1 rfl ⟨(Nat.le_of_ble_eq_true rfl), (Nat.le_of_ble_eq_true rfl)⟩ (Nat.le_of_ble_eq_true rfl)) dL_setSeed_8 (fun H locs hP hD hS => ?_)
    have hP : va_P D vwCl [(h2, .inl (cy 2, 1, .inr (.inl (vp_updL g9 0 1)))), (h1, .inr (9, [x3, x4, x5, x6, x7, x8, .int p1]))] H := hP
    have hD : va_D A [(h2, .inl (cy 2, 1, .inr (.inl (vp_updL g9 0 1)))), (h1, .inr (9, [x3, x4, x5, x6, x7, x8, .int p1]))] := hD
    refine lv_goto (tgt := 15) hx hb dL_setSeed_9 (by decide) ?_
    refine lv_iconst (v := 0) hx hb dL_setSeed_15 (by decide) ?_
    refine W.widen (k := 1) (n := 6) (Nat.le_of_ble_eq_true rfl) (Nat.le_of_ble_eq_true rfl) ?_
    have hP9 := hP.sub (ws' := [(h2, .inl (cy 2, 1, .inr (.inl (vp_updL g9 0 1))))]) [0] rfl
    have hD9 := hD.sub (ws' := [(h2, .inl (cy 2, 1, .inr (.inl (vp_updL g9 0 1))))]) [0] (by decide) rfl
    exact W.iret (v := 0) hx hb hr (fun t ht hW => ⟨⟨0, ((vp_updL g9 0 1)), rfl, Or.inr (⟨rfl, (rfl), (by omega)⟩), ⟨by rw [ht]; exact hP9, hD9⟩⟩, hS.F ht⟩) hS.2.2 dL_setSeed_16
theorem dX8_setSeed_0 : decode cX8_setSeed 0 = .ok (.aload_n 0, 1) := by decide +kernel
theorem dX8_setSeed_1 : decode cX8_setSeed 1 = .ok (.iload_n 1, 1) := by decide +kernel
theorem dX8_setSeed_2 : decode cX8_setSeed 2 = .ok (.iconst 1, 1) := by decide +kernel
theorem dX8_setSeed_3 : decode cX8_setSeed 3 = .ok (.if_icmp .lt 9, 3) := by decide +kernel
theorem dX8_setSeed_12 : decode cX8_setSeed 12 = .ok (.iconst 1, 1) := by decide +kernel
theorem dX8_setSeed_13 : decode cX8_setSeed 13 = .ok (.goto 4, 3) := by decide +kernel
theorem dX8_setSeed_17 : decode cX8_setSeed 17 = .ok (.iconst 1, 1) := by decide +kernel
theorem dX8_setSeed_18 : decode cX8_setSeed 18 = .ok (.invokevirtual 73, 3) := by decide +kernel
set_option maxRecDepth 20000 in
theorem ggX8_setSeed_X8_isThrown : GoodIn wsX8_setSeed wsX8_isThrown := goodIn_r _ [7, 8, 9, 10, 11, 12, 13, 14, 15, 16, 17, 18, 19, 20, 21, 22, 23, 24, 25, 26] (by decide +kernel) (by decide +kernel)
set_option maxRecDepth 20000 in
theorem gX8_setSeed_X8_isThrown : GoodIn wsX8_setSeed (wsV RX8 73 RX8 yX8_isThrown wsX8_isThrown) := goodIn_app (goodIn_of _ (by decide +kernel)) ggX8_setSeed_X8_isThrown
theorem dX8_setSeed_21 : decode cX8_setSeed 21 = .ok (.ifCond .eq 5, 3) := by decide +kernel
theorem dX8_setSeed_24 : decode cX8_setSeed 24 = .ok (.iconst 0, 1) := by decide +kernel
theorem dX8_setSeed_25 : decode cX8_setSeed 25 = .ok (.ireturn, 1) := by decide +kernel
theorem dX8_setSeed_6 : decode cX8_setSeed 6 = .ok (.iload_n 1, 1) := by decide +kernel
theorem dX8_setSeed_7 : decode cX8_setSeed 7 = .ok (.ldc 246, 2) := by decide +kernel
theorem dX8_setSeed_9 : decode cX8_setSeed 9 = .ok (.if_icmp .ne 7, 3) := by decide +kernel
theorem dX8_setSeed_16 : decode cX8_setSeed 16 = .ok (.iconst 0, 1) := by decide +kernel
theorem dX8_setSeed_26 : decode cX8_setSeed 26 = .ok (.aload_n 0, 1) := by decide +kernel
theorem dX8_setSeed_27 : decode cX8_setSeed 27 = .ok (.getfield 55, 3) := by decide +kernel
theorem dX8_setSeed_30 : decode cX8_setSeed 30 = .ok (.istore_n 2, 1) := by decide +kernel
theorem dX8_setSeed_31 : decode cX8_setSeed 31 = .ok (.aload_n 0, 1) := by decide +kernel
theorem dX8_setSeed_32 : decode cX8_setSeed 32 = .ok (.iload_n 1, 1) := by decide +kernel
theorem dX8_setSeed_33 : decode cX8_setSeed 33 = .ok (.putfield 55, 3) := by decide +kernel
theorem dX8_setSeed_36 : decode cX8_setSeed 36 = .ok (.iload_n 2, 1) := by decide +kernel
theorem dX8_setSeed_37 : decode cX8_setSeed 37 = .ok (.ireturn, 1) := by decide +kernel
set_option maxHeartbeats 4000000 in
set_option maxRecDepth 100000 in
theorem k_X8_setSeed (l : Launch) (D : va_G) (cy : Nat → ClassId) (h1 : Nat) (p0 : Int32) (x2 : Value) (x3 : Value) (x4 : Value) (x5 : Value) (x6 : Value) (x7 : Value) (x8 : Value) (x9 : Value) (x10 : Value) (x11 : Value) (x12 : Value) (x13 : Value) (x14 : Value) (x15 : Value) (x16 : Value) (x17 : Value) (x18 : Value) (sz : Nat) : Met l yX8_setSeed wsX8_setSeed ({ frames := 1, cells := 0, slots := 0, locals := 22 }) (kW D cy [.ref h1, .int p0] [(h1, .inr (10, [x2, x3, x4, x5, x6, x7, x8, x9, x10, x11, x12, x13, x14, x15, x16, x17, .int 1, x18]))] sz) (va_Qi (fun (r : Int32) (u : Int32 × Int32) => match u with | (y1, y2) => ((r = 0 ∧ (y1 = 1) ∧ (y2 = 1) ∧ (p0.toInt < (1 : Int) ∨ ((1 : Int) ≤ p0.toInt ∧ p0.toInt = (2147483647 : Int)))) ∨ (r = 1 ∧ (y2 = 0) ∧ ((1 : Int) ≤ p0.toInt ∧ p0.toInt ≠ (2147483647 : Int))))) (fun (u : Int32 × Int32) (t : State) => match u with | (y1, y2) => va_P D vwCl [(h1, .inr (10, [x2, x3, x4, x5, x6, x7, x8, x9, x10, x11, x12, x13, x14, x15, x16, x17, .int y1, .int y2]))] t.heap ∧ va_D (va_A [(h1, .inr (10, [x2, x3, x4, x5, x6, x7, x8, x9, x10, x11, x12, x13, x14, x15, x16, x17, .int 1, x18]))] sz) [(h1, .inr (10, [x2, x3, x4, x5, x6, x7, x8, x9, x10, x11, x12, x13, x14, x15, x16, x17, .int y1, .int y2]))]) (va_A [(h1, .inr (10, [x2, x3, x4, x5, x6, x7, x8, x9, x10, x11, x12, x13, x14, x15, x16, x17, .int 1, x18]))] sz)) 0 0 (va_A [(h1, .inr (10, [x2, x3, x4, x5, x6, x7, x8, x9, x10, x11, x12, x13, x14, x15, x16, x17, .int 1, x18]))] sz) := by
  refine Met.ofW (cc := cX8_setSeed) (maxL := 3) (ret := (some .int)) (by decide) rfl ?_
  intro p e s m args below meth c s₁ B hml hv
  obtain ⟨rfl, hsz, hP, hK, hD0⟩ := hv
  have hx := B.exec
  have hb := B.bytes
  have hr := B.returns
  have hts := atoms_spec (ws := wsX8_setSeed) B.pre
  have hown : s.vm.findClass RX8 = some m.cls := findClass_of_methodNamed B.named
  have hlocks := B.notSynchronized
  subst hsz
  have hD := hD0.self (sz := s.heap.size)
  generalize hAe : va_A [(h1, .inr (10, [x2, x3, x4, x5, x6, x7, x8, x9, x10, x11, x12, x13, x14, x15, x16, x17, .int 1, x18]))] s.heap.size = A at hD ⊢
  have hA : ∀ q : Nat, s.heap.size ≤ q → A q := fun q h => by rw [← hAe]; exact Or.inr h
  have hS : va_S A s.heap s.heap [] := va_S.rf
  have hP : va_P D vwCl [(h1, .inr (10, [x2, x3, x4, x5, x6, x7, x8, x9, x10, x11, x12, x13, x14, x15, x16, x17, .int 1, x18]))] s.heap := hP
  have hl := lv_entry ([.ref h1, .int p0]) (n := 3) (Nat.le_of_ble_eq_true rfl)
  rw [lg_entry_eq]
  generalize (lg_sl ([.ref h1, .int p0]) ++ List.replicate (3 - (lg_sl ([.ref h1, .int p0])).length) Slot.unset).toArray = ls at hl ⊢
  have hl : lv_has ls 3 [(0, .ref h1), (1, .int p0)] := hl
  refine lv_aload_n hx hb dX8_setSeed_0 rfl (lv_at hl 0 rfl) ?_
  refine lv_iload_n hx hb dX8_setSeed_1 rfl (lv_at hl 1 rfl) ?_
  refine lv_iconst (v := 1) hx hb dX8_setSeed_2 (by decide) ?_
  refine lv_icmp_lt (tgt := 12) hx hb dX8_setSeed_3 (by decide) (fun c_1 => ?_) (fun c_1 => ?_)
  · have f_2 : p0.toInt < (1 : Int) := kx_lt c_1
    refine lv_iconst (v := 1) hx hb dX8_setSeed_12 (by decide) ?_
    refine lv_goto (tgt := 17) hx hb dX8_setSeed_13 (by decide) ?_
    refine lv_iconst (v := 1) hx hb dX8_setSeed_17 (by decide) ?_
    have hPc := hP.sub (ws' := [(h1, .inr (10, [x2, x3, x4, x5, x6, x7, x8, x9, x10, x11, x12, x13, x14, x15, x16, x17, .int 1, x18]))]) [0] rfl
    have hDc := hD.sub (ws' := [(h1, .inr (10, [x2, x3, x4, x5, x6, x7, x8, x9, x10, x11, x12, x13, x14, x15, x16, x17, .int 1, x18]))]) [0] (by decide) rfl
    have hFc := va_free (wc := [(h1, .inr (10, [x2, x3, x4, x5, x6, x7, x8, x9, x10, x11, x12, x13, x14, x15, x16, x17, .int 1, x18]))]) hD hS hA [0] rfl
    refine va_calli (va_runV (As := [.int 1, .int 1]) (rest := []) ⟨hx, hb, hml, hown, hts⟩ (k_X8_isThrown l D cy h1 (x2) (x3) (x4) (x5) (x6) (x7) (x8) (x9) (x10) (x11) (x12) (x13) (x14) (x15) (x16) (x17) (.int 1) (x18) s.heap.size) (cwV 2 hts gX8_setSeed_X8_isThrown rfl rfl rfl (by decide +kernel) ⟨(Nat.le_of_ble_eq_true rfl), (Nat.le_of_ble_eq_true rfl)⟩) ⟨kW_fb, va_recv hK hP (ci := 10) (q0 := 0) rfl rfl, (kW_go hPc hK hDc)⟩ rfl rfl hl.1 rfl (lv_room (Nat.le_of_ble_eq_true rfl)) dX8_setSeed_18 ⟨(Nat.le_of_ble_eq_true rfl), (Nat.le_of_ble_eq_true rfl)⟩) hS (fun q _ h => hFc q h) hFc (fun r9 u t H locs ht hvm hw hB hz1 hk1 hS => ?_)
    obtain ⟨hP1, hD1⟩ := hB
    rw [ht] at hP1
    try dsimp only at hw hP1 hD1
    obtain ⟨hP, hD⟩ := va_join (wr := []) (w1 := [(h1, .inr (10, [x2, x3, x4, x5, x6, x7, x8, x9, x10, x11, x12, x13, x14, x15, x16, x17, .int 1, .int 1]))]) hP hD [0] [] rfl rfl (by decide) (by decide) hk1 hFc hP1 hD1
    have hP : va_P D vwCl [(h1, .inr (10, [x2, x3, x4, x5, x6, x7, x8, x9, x10, x11, x12, x13, x14, x15, x16, x17, .int 1, .int 1]))] H := hP
    have hD : va_D A [(h1, .inr (10, [x2, x3, x4, x5, x6, x7, x8, x9, x10, x11, x12, x13, x14, x15, x16, x17, .int 1, .int 1]))] := hD
    obtain ⟨rfl, hw⟩ := hw
    refine lv_if_eq (tgt := 26) hx hb dX8_setSeed_21 (by decide) (fun h => absurd h (by decide)) (fun _ => ?_)
    refine lv_iconst (v := 0) hx hb dX8_setSeed_24 (by decide) ?_
    refine W.widen (k := 0) (n := 0) (Nat.le_of_ble_eq_true rfl) (Nat.le_of_ble_eq_true rfl) ?_
    have hP9 := hP.sub (ws' := [(h1, .inr (10, [x2, x3, x4, x5, x6, x7, x8, x9, x10, x11, x12, x13, x14, x15, x16, x17, .int 1, .int 1]))]) [0] rfl
    have hD9 := hD.sub (ws' := [(h1, .inr (10, [x2, x3, x4, x5, x6, x7, x8, x9, x10, x11, x12, x13, x14, x15, x16, x17, .int 1, .int 1]))]) [0] (by decide) rfl
    exact W.iret (v := 0) hx hb hr (fun t ht hW => ⟨⟨0, (1, 1), rfl, Or.inl (⟨rfl, rfl, rfl, (by omega)⟩), ⟨by rw [ht]; exact hP9, hD9⟩⟩, hS.F ht⟩) hS.2.2 dX8_setSeed_25
  · have f_4 : (1 : Int) ≤ p0.toInt := kx_nlt c_1
    refine lv_iload_n hx hb dX8_setSeed_6 rfl (lv_at hl 1 rfl) ?_
    refine lv_ldc (v := 2147483647) hx hb hown (hts (.constant RX8 246 (2147483647)) (List.mem_cons_of_mem _ (List.mem_append_left _ (List.mem_of_getElem? (i := 0) rfl)))) dX8_setSeed_7 ?_
    refine lv_icmp_ne (tgt := 16) hx hb dX8_setSeed_9 (by decide) (fun c_5 => ?_) (fun c_5 => ?_)
    · have f_6 : p0.toInt ≠ (2147483647 : Int) := kx_ne c_5
      refine lv_iconst (v := 0) hx hb dX8_setSeed_16 (by decide) ?_
      refine lv_iconst (v := 1) hx hb dX8_setSeed_17 (by decide) ?_
      have hPc := hP.sub (ws' := [(h1, .inr (10, [x2, x3, x4, x5, x6, x7, x8, x9, x10, x11, x12, x13, x14, x15, x16, x17, .int 1, x18]))]) [0] rfl
      have hDc := hD.sub (ws' := [(h1, .inr (10, [x2, x3, x4, x5, x6, x7, x8, x9, x10, x11, x12, x13, x14, x15, x16, x17, .int 1, x18]))]) [0] (by decide) rfl
      have hFc := va_free (wc := [(h1, .inr (10, [x2, x3, x4, x5, x6, x7, x8, x9, x10, x11, x12, x13, x14, x15, x16, x17, .int 1, x18]))]) hD hS hA [0] rfl
      refine va_calli (va_runV (As := [.int 0, .int 1]) (rest := []) ⟨hx, hb, hml, hown, hts⟩ (k_X8_isThrown_1 l D cy h1 (x2) (x3) (x4) (x5) (x6) (x7) (x8) (x9) (x10) (x11) (x12) (x13) (x14) (x15) (x16) (x17) (.int 1) (x18) s.heap.size) (cwV 2 hts gX8_setSeed_X8_isThrown rfl rfl rfl (by decide +kernel) ⟨(Nat.le_of_ble_eq_true rfl), (Nat.le_of_ble_eq_true rfl)⟩) ⟨kW_fb, va_recv hK hP (ci := 10) (q0 := 0) rfl rfl, (kW_go hPc hK hDc)⟩ rfl rfl hl.1 rfl (lv_room (Nat.le_of_ble_eq_true rfl)) dX8_setSeed_18 ⟨(Nat.le_of_ble_eq_true rfl), (Nat.le_of_ble_eq_true rfl)⟩) hS (fun q _ h => hFc q h) hFc (fun r9 u t H locs ht hvm hw hB hz1 hk1 hS => ?_)
      obtain ⟨hP1, hD1⟩ := hB
      rw [ht] at hP1
      try dsimp only at hw hP1 hD1
      obtain ⟨hP, hD⟩ := va_join (wr := []) (w1 := [(h1, .inr (10, [x2, x3, x4, x5, x6, x7, x8, x9, x10, x11, x12, x13, x14, x15, x16, x17, .int 1, .int 0]))]) hP hD [0] [] rfl rfl (by decide) (by decide) hk1 hFc hP1 hD1
      have hP : va_P D vwCl [(h1, .inr (10, [x2, x3, x4, x5, x6, x7, x8, x9, x10, x11, x12, x13, x14, x15, x16, x17, .int 1, .int 0]))] H := hP
      have hD : va_D A [(h1, .inr (10, [x2, x3, x4, x5, x6, x7, x8, x9, x10, x11, x12, x13, x14, x15, x16, x17, .int 1, .int 0]))] := hD
      obtain ⟨rfl, hw⟩ := hw
      refine lv_if_eq (tgt := 26) hx hb dX8_setSeed_21 (by decide) (fun _ => ?_) (fun h => absurd (by decide) h)
      refine lv_aload_n hx hb dX8_setSeed_26 rfl (lv_at hl 0 rfl) ?_
      refine va_get (D := D) (ci := 10) (v := .int 1) (C := RX8) (T := TX8) (N := 18) hx hb hts (fun _ h => (List.mem_cons_of_mem _ (List.mem_append_right _ h))) hown hK hP 0 rfl rfl 16 (by decide) (hts (.fieldLink RX8 55 "SelfishJunctionModel" "z" "I") (List.mem_cons_of_mem _ (List.mem_append_left _ (List.mem_of_getElem? (i := 1) rfl)))) (fun _ h9 => h9) rfl dX8_setSeed_27 ?_
      refine lv_istore_n (lv' := [(2, .int 1), (0, .ref h1), (1, .int p0)]) hx hb dX8_setSeed_30 rfl hl (by decide) rfl (fun ls hl => ?_)
      refine lv_aload_n hx hb dX8_setSeed_31 rfl (lv_at hl 1 rfl) ?_
      refine lv_iload_n hx hb dX8_setSeed_32 rfl (lv_at hl 2 rfl) ?_
      refine va_put (D := D) (ci := 10) (v := .int p0) (ty := .int) (C := RX8) (T := TX8) (N := 18) hx hb hts (fun _ h => (List.mem_cons_of_mem _ (List.mem_append_right _ h))) tyX8 tyX8_ok nmX8 hown hK hP hD hS 0 rfl rfl 16 (by decide) (hts (.fieldLink RX8 55 "SelfishJunctionModel" "z" "I") (List.mem_cons_of_mem _ (List.mem_append_left _ (List.mem_of_getElem? (i := 1) rfl)))) (fun _ h9 => h9) rfl (by decide +kernel) rfl rfl (Nat.le_of_ble_eq_true rfl) dX8_setSeed_33 (fun H locs hP hD hS => ?_)
      have hP : va_P D vwCl [(h1, .inr (10, [x2, x3, x4, x5, x6, x7, x8, x9, x10, x11, x12, x13, x14, x15, x16, x17, .int p0, .int 0]))] H := hP
      have hD : va_D A [(h1, .inr (10, [x2, x3, x4, x5, x6, x7, x8, x9, x10, x11, x12, x13, x14, x15, x16, x17, .int p0, .int 0]))] := hD
      refine lv_iload_n hx hb dX8_setSeed_36 rfl (lv_at hl 0 rfl) ?_
      refine W.widen (k := 0) (n := 0) (Nat.le_of_ble_eq_true rfl) (Nat.le_of_ble_eq_true rfl) ?_
      have hP9 := hP.sub (ws' := [(h1, .inr (10, [x2, x3, x4, x5, x6, x7, x8, x9, x10, x11, x12, x13, x14, x15, x16, x17, .int p0, .int 0]))]) [0] rfl
      have hD9 := hD.sub (ws' := [(h1, .inr (10, [x2, x3, x4, x5, x6, x7, x8, x9, x10, x11, x12, x13, x14, x15, x16, x17, .int p0, .int 0]))]) [0] (by decide) rfl
      exact W.iret (v := 1) hx hb hr (fun t ht hW => ⟨⟨1, (p0, 0), rfl, Or.inr (⟨rfl, rfl, (by omega)⟩), ⟨by rw [ht]; exact hP9, hD9⟩⟩, hS.F ht⟩) hS.2.2 dX8_setSeed_37
    · have f_8 : p0.toInt = (2147483647 : Int) := kx_eq c_5
      refine lv_iconst (v := 1) hx hb dX8_setSeed_12 (by decide) ?_
      refine lv_goto (tgt := 17) hx hb dX8_setSeed_13 (by decide) ?_
      refine lv_iconst (v := 1) hx hb dX8_setSeed_17 (by decide) ?_
      have hPc := hP.sub (ws' := [(h1, .inr (10, [x2, x3, x4, x5, x6, x7, x8, x9, x10, x11, x12, x13, x14, x15, x16, x17, .int 1, x18]))]) [0] rfl
      have hDc := hD.sub (ws' := [(h1, .inr (10, [x2, x3, x4, x5, x6, x7, x8, x9, x10, x11, x12, x13, x14, x15, x16, x17, .int 1, x18]))]) [0] (by decide) rfl
      have hFc := va_free (wc := [(h1, .inr (10, [x2, x3, x4, x5, x6, x7, x8, x9, x10, x11, x12, x13, x14, x15, x16, x17, .int 1, x18]))]) hD hS hA [0] rfl
      refine va_calli (va_runV (As := [.int 1, .int 1]) (rest := []) ⟨hx, hb, hml, hown, hts⟩ (k_X8_isThrown l D cy h1 (x2) (x3) (x4) (x5) (x6) (x7) (x8) (x9) (x10) (x11) (x12) (x13) (x14) (x15) (x16) (x17) (.int 1) (x18) s.heap.size) (cwV 2 hts gX8_setSeed_X8_isThrown rfl rfl rfl (by decide +kernel) ⟨(Nat.le_of_ble_eq_true rfl), (Nat.le_of_ble_eq_true rfl)⟩) ⟨kW_fb, va_recv hK hP (ci := 10) (q0 := 0) rfl rfl, (kW_go hPc hK hDc)⟩ rfl rfl hl.1 rfl (lv_room (Nat.le_of_ble_eq_true rfl)) dX8_setSeed_18 ⟨(Nat.le_of_ble_eq_true rfl), (Nat.le_of_ble_eq_true rfl)⟩) hS (fun q _ h => hFc q h) hFc (fun r9 u t H locs ht hvm hw hB hz1 hk1 hS => ?_)
      obtain ⟨hP1, hD1⟩ := hB
      rw [ht] at hP1
      try dsimp only at hw hP1 hD1
      obtain ⟨hP, hD⟩ := va_join (wr := []) (w1 := [(h1, .inr (10, [x2, x3, x4, x5, x6, x7, x8, x9, x10, x11, x12, x13, x14, x15, x16, x17, .int 1, .int 1]))]) hP hD [0] [] rfl rfl (by decide) (by decide) hk1 hFc hP1 hD1
      have hP : va_P D vwCl [(h1, .inr (10, [x2, x3, x4, x5, x6, x7, x8, x9, x10, x11, x12, x13, x14, x15, x16, x17, .int 1, .int 1]))] H := hP
      have hD : va_D A [(h1, .inr (10, [x2, x3, x4, x5, x6, x7, x8, x9, x10, x11, x12, x13, x14, x15, x16, x17, .int 1, .int 1]))] := hD
      obtain ⟨rfl, hw⟩ := hw
      refine lv_if_eq (tgt := 26) hx hb dX8_setSeed_21 (by decide) (fun h => absurd h (by decide)) (fun _ => ?_)
      refine lv_iconst (v := 0) hx hb dX8_setSeed_24 (by decide) ?_
      refine W.widen (k := 0) (n := 0) (Nat.le_of_ble_eq_true rfl) (Nat.le_of_ble_eq_true rfl) ?_
      have hP9 := hP.sub (ws' := [(h1, .inr (10, [x2, x3, x4, x5, x6, x7, x8, x9, x10, x11, x12, x13, x14, x15, x16, x17, .int 1, .int 1]))]) [0] rfl
      have hD9 := hD.sub (ws' := [(h1, .inr (10, [x2, x3, x4, x5, x6, x7, x8, x9, x10, x11, x12, x13, x14, x15, x16, x17, .int 1, .int 1]))]) [0] (by decide) rfl
      exact W.iret (v := 0) hx hb hr (fun t ht hW => ⟨⟨0, (1, 1), rfl, Or.inl (⟨rfl, rfl, rfl, (by omega)⟩), ⟨by rw [ht]; exact hP9, hD9⟩⟩, hS.F ht⟩) hS.2.2 dX8_setSeed_25
theorem dX1_usable_0 : decode cX1_usable 0 = .ok (.iconst 0, 1) := by decide +kernel
theorem dX1_usable_1 : decode cX1_usable 1 = .ok (.istore_n 3, 1) := by decide +kernel
theorem dX1_usable_2 : decode cX1_usable 2 = .ok (.iconst 0, 1) := by decide +kernel
theorem dX1_usable_3 : decode cX1_usable 3 = .ok (.istore 4, 2) := by decide +kernel
theorem dX1_usable_5 : decode cX1_usable 5 = .ok (.iload 4, 2) := by decide +kernel
theorem dX1_usable_7 : decode cX1_usable 7 = .ok (.aload_n 1, 1) := by decide +kernel
theorem dX1_usable_8 : decode cX1_usable 8 = .ok (.getfield 25, 3) := by decide +kernel
theorem dX1_usable_11 : decode cX1_usable 11 = .ok (.if_icmp .ge 38, 3) := by decide +kernel
theorem dX1_usable_49 : decode cX1_usable 49 = .ok (.iload_n 3, 1) := by decide +kernel
theorem dX1_usable_50 : decode cX1_usable 50 = .ok (.ireturn, 1) := by decide +kernel
set_option maxHeartbeats 4000000 in
set_option maxRecDepth 100000 in
theorem k_X1_usable (l : Launch) (D : va_G) (cy : Nat → ClassId) (h1 : Nat) (h2 : Nat) (x3 : Value) (x4 : Value) (x5 : Value) : Met l yX1_usable wsX1_usable ({ frames := 0, cells := 0, slots := 0, locals := 0 }) (kR D cy [.ref h1, .ref h2, .int 0] [(h2, .inr (2, [x3, x4, .int 0, x5]))]) (va_Qi (fun (r : Int32) (_ : Unit) => r = 0 ∧ True) (fun (_ : Unit) (_ : State) => True) (fun _ : Nat => False)) 0 0 (fun _ : Nat => False) := by
  refine Met.ofW (cc := cX1_usable) (maxL := 5) (ret := (some .int)) (by decide) rfl ?_
  intro p e s m args below meth c s₁ B hml hv
  obtain ⟨rfl, hP, hK⟩ := hv
  have hx := B.exec
  have hb := B.bytes
  have hr := B.returns
  have hts := atoms_spec (ws := wsX1_usable) B.pre
  have hown : s.vm.findClass RX1 = some m.cls := findClass_of_methodNamed B.named
  have hlocks := B.notSynchronized
  have hS : va_S (fun _ : Nat => False) s.heap s.heap [] := va_S.rf
  have hP : va_P D vwCl [(h2, .inr (2, [x3, x4, .int 0, x5]))] s.heap := hP
  have hl := lv_entry ([.ref h1, .ref h2, .int 0]) (n := 5) (Nat.le_of_ble_eq_true rfl)
  rw [lg_entry_eq]
  generalize (lg_sl ([.ref h1, .ref h2, .int 0]) ++ List.replicate (5 - (lg_sl ([.ref h1, .ref h2, .int 0])).length) Slot.unset).toArray = ls at hl ⊢
  have hl : lv_has ls 5 [(0, .ref h1), (1, .ref h2), (2, .int 0)] := hl
  refine lv_iconst (v := 0) hx hb dX1_usable_0 (by decide) ?_
  refine lv_istore_n (lv' := [(3, .int 0), (0, .ref h1), (1, .ref h2), (2, .int 0)]) hx hb dX1_usable_1 rfl hl (by decide) rfl (fun ls hl => ?_)
  refine lv_iconst (v := 0) hx hb dX1_usable_2 (by decide) ?_
  refine lv_istore (lv' := [(4, .int 0), (3, .int 0), (0, .ref h1), (1, .ref h2), (2, .int 0)]) hx hb dX1_usable_3 hl (by decide) rfl (fun ls hl => ?_)
  refine lv_iload hx hb dX1_usable_5 (lv_at hl 0 rfl) ?_
  refine lv_aload_n hx hb dX1_usable_7 rfl (lv_at hl 3 rfl) ?_
  refine va_get (D := D) (ci := 2) (v := .int 0) (C := RX0) (T := TX0) (N := 4) hx hb hts (fun _ h => (List.mem_cons_of_mem _ (List.mem_append_left _ (List.mem_append_right _ h)))) hown hK hP 0 rfl rfl 2 (by decide) (hts (.fieldLink RX1 25 "SelfishJunction$Board" "resourceCount" "I") (List.mem_cons_of_mem _ (List.mem_append_left _ (List.mem_append_left _ (List.mem_of_getElem? (i := 0) rfl))))) (fun _ h9 => h9) rfl dX1_usable_8 ?_
  refine lv_icmp_ge (tgt := 49) hx hb dX1_usable_11 (by decide) (fun _ => ?_) (fun h => absurd (by decide) h)
  refine lv_iload_n hx hb dX1_usable_49 rfl (lv_at hl 1 rfl) ?_
  refine W.widen (k := 0) (n := 0) (Nat.le_of_ble_eq_true rfl) (Nat.le_of_ble_eq_true rfl) ?_
  exact W.iret (v := 0) hx hb hr (fun t ht hW => ⟨⟨0, (), rfl, ⟨rfl, trivial⟩, trivial⟩, hS.F ht⟩) hS.2.2 dX1_usable_50
theorem dX1_spread_0 : decode cX1_spread 0 = .ok (.aload_n 0, 1) := by decide +kernel
theorem dX1_spread_1 : decode cX1_spread 1 = .ok (.aload_n 1, 1) := by decide +kernel
theorem dX1_spread_2 : decode cX1_spread 2 = .ok (.iload_n 2, 1) := by decide +kernel
theorem dX1_spread_3 : decode cX1_spread 3 = .ok (.invokevirtual 9, 3) := by decide +kernel
set_option maxRecDepth 20000 in
theorem ggX1_spread_X1_usable : GoodIn wsX1_spread wsX1_usable := goodIn_r _ [5, 6, 7, 8, 9, 10, 11, 12, 13, 14, 15, 16, 17, 35, 36, 37, 38, 39, 40, 41, 42, 43, 44, 45] (by decide +kernel) (by decide +kernel)
set_option maxRecDepth 20000 in
theorem gX1_spread_X1_usable : GoodIn wsX1_spread (wsV RX1 9 RX1 yX1_usable wsX1_usable) := goodIn_app (goodIn_of _ (by decide +kernel)) ggX1_spread_X1_usable
theorem dX1_spread_6 : decode cX1_spread 6 = .ok (.istore 4, 2) := by decide +kernel
theorem dX1_spread_8 : decode cX1_spread 8 = .ok (.iload 4, 2) := by decide +kernel
theorem dX1_spread_10 : decode cX1_spread 10 = .ok (.ifCond .ne 5, 3) := by decide +kernel
theorem dX1_spread_13 : decode cX1_spread 13 = .ok (.iconst 0, 1) := by decide +kernel
theorem dX1_spread_14 : decode cX1_spread 14 = .ok (.ireturn, 1) := by decide +kernel
set_option maxHeartbeats 4000000 in
set_option maxRecDepth 100000 in
theorem k_X1_spread (l : Launch) (D : va_G) (cy : Nat → ClassId) (h1 : Nat) (h2 : Nat) (p2 : Int32) (x3 : Value) (x4 : Value) (x5 : Value) (x6 : Value) (x7 : Value) : Met l yX1_spread wsX1_spread ({ frames := 1, cells := 0, slots := 0, locals := 24 }) (kR D cy [.ref h1, .ref h2, .int 0, .int p2] [(h1, .inr (3, [x3, x4])), (h2, .inr (2, [x5, x6, .int 0, x7]))]) (va_Qi (fun (r : Int32) (_ : Unit) => r = 0 ∧ True) (fun (_ : Unit) (_ : State) => True) (fun _ : Nat => False)) 0 0 (fun _ : Nat => False) := by
  refine Met.ofW (cc := cX1_spread) (maxL := 6) (ret := (some .boolean)) (by decide) rfl ?_
  intro p e s m args below meth c s₁ B hml hv
  obtain ⟨rfl, hP, hK⟩ := hv
  have hx := B.exec
  have hb := B.bytes
  have hr := B.returns
  have hts := atoms_spec (ws := wsX1_spread) B.pre
  have hown : s.vm.findClass RX1 = some m.cls := findClass_of_methodNamed B.named
  have hlocks := B.notSynchronized
  have hS : va_S (fun _ : Nat => False) s.heap s.heap [] := va_S.rf
  have hP : va_P D vwCl [(h1, .inr (3, [x3, x4])), (h2, .inr (2, [x5, x6, .int 0, x7]))] s.heap := hP
  have hl := lv_entry ([.ref h1, .ref h2, .int 0, .int p2]) (n := 6) (Nat.le_of_ble_eq_true rfl)
  rw [lg_entry_eq]
  generalize (lg_sl ([.ref h1, .ref h2, .int 0, .int p2]) ++ List.replicate (6 - (lg_sl ([.ref h1, .ref h2, .int 0, .int p2])).length) Slot.unset).toArray = ls at hl ⊢
  have hl : lv_has ls 6 [(0, .ref h1), (1, .ref h2), (2, .int 0), (3, .int p2)] := hl
  refine lv_aload_n hx hb dX1_spread_0 rfl (lv_at hl 0 rfl) ?_
  refine lv_aload_n hx hb dX1_spread_1 rfl (lv_at hl 1 rfl) ?_
  refine lv_iload_n hx hb dX1_spread_2 rfl (lv_at hl 2 rfl) ?_
  have hPc := hP.sub (ws' := [(h2, .inr (2, [x5, x6, .int 0, x7]))]) [1] rfl
  refine va_calli (va_runV (As := [.ref h2, .int 0]) (rest := []) ⟨hx, hb, hml, hown, hts⟩ (k_X1_usable l D cy h1 h2 (x5) (x6) (x7)) (cwV 2 hts gX1_spread_X1_usable rfl rfl rfl (by decide +kernel) ⟨(Nat.le_of_ble_eq_true rfl), (Nat.le_of_ble_eq_true rfl)⟩) ⟨kR_fb, va_recv hK hP (ci := 3) (q0 := 0) rfl rfl, (kR_go hPc hK)⟩ rfl rfl hl.1 rfl (lv_room (Nat.le_of_ble_eq_true rfl)) dX1_spread_3 ⟨(Nat.le_of_ble_eq_true rfl), (Nat.le_of_ble_eq_true rfl)⟩) hS (fun _ _ h => h.elim) (fun _ h => h.elim) (fun r9 u t H locs ht hvm hw hB hz1 hk1 hS => ?_)
  have hP := kx_kept hP hk1
  obtain ⟨rfl, hw⟩ := hw
  refine lv_istore (lv' := [(4, .int 0), (0, .ref h1), (1, .ref h2), (2, .int 0), (3, .int p2)]) hx hb dX1_spread_6 hl (by decide) rfl (fun ls hl => ?_)
  refine lv_iload hx hb dX1_spread_8 (lv_at hl 0 rfl) ?_
  refine lv_if_ne (tgt := 15) hx hb dX1_spread_10 (by decide) (fun h => absurd (by decide) h) (fun _ => ?_)
  refine lv_iconst (v := 0) hx hb dX1_spread_13 (by decide) ?_
  refine W.widen (k := 0) (n := 0) (Nat.le_of_ble_eq_true rfl) (Nat.le_of_ble_eq_true rfl) ?_
  exact W.zret (v := 0) hx hb hr rfl (fun t ht hW => ⟨⟨0, (), rfl, ⟨rfl, trivial⟩, trivial⟩, hS.F ht⟩) hS.2.2 dX1_spread_14
theorem dX7_getLevel_0 : decode cX7_getLevel 0 = .ok (.aload_n 0, 1) := by decide +kernel
theorem dX7_getLevel_1 : decode cX7_getLevel 1 = .ok (.iload_n 1, 1) := by decide +kernel
theorem dX7_getLevel_2 : decode cX7_getLevel 2 = .ok (.iconst 1, 1) := by decide +kernel
theorem dX7_getLevel_3 : decode cX7_getLevel 3 = .ok (.sipush 999, 3) := by decide +kernel
theorem dX7_getLevel_6 : decode cX7_getLevel 6 = .ok (.invokevirtual 174, 3) := by decide +kernel
set_option maxRecDepth 20000 in
theorem ggX7_getLevel_X7_checkRange : GoodIn wsX7_getLevel wsX7_checkRange := goodIn_ca (goodIn_r _ [13, 14, 15] (by decide +kernel) (by decide +kernel)) (goodIn_sub (fun _ h => List.mem_cons_of_mem _ (List.mem_append_left _ (List.mem_append_right _ h))) (by decide +kernel))
set_option maxRecDepth 20000 in
theorem gX7_getLevel_X7_checkRange : GoodIn wsX7_getLevel (wsV RX7 174 RX7 yX7_checkRange wsX7_checkRange) := goodIn_app (goodIn_of _ (by decide +kernel)) ggX7_getLevel_X7_checkRange
theorem dX7_getLevel_9 : decode cX7_getLevel 9 = .ok (.aload_n 0, 1) := by decide +kernel
theorem dX7_getLevel_10 : decode cX7_getLevel 10 = .ok (.getfield 43, 3) := by decide +kernel
theorem dX7_getLevel_13 : decode cX7_getLevel 13 = .ok (.aload_n 0, 1) := by decide +kernel
theorem dX7_getLevel_14 : decode cX7_getLevel 14 = .ok (.getfield 10, 3) := by decide +kernel
theorem dX7_getLevel_17 : decode cX7_getLevel 17 = .ok (.aload_n 0, 1) := by decide +kernel
theorem dX7_getLevel_18 : decode cX7_getLevel 18 = .ok (.getfield 19, 3) := by decide +kernel
theorem dX7_getLevel_21 : decode cX7_getLevel 21 = .ok (.getfield 102, 3) := by decide +kernel
theorem dX7_getLevel_24 : decode cX7_getLevel 24 = .ok (.iload_n 1, 1) := by decide +kernel
theorem dX7_getLevel_25 : decode cX7_getLevel 25 = .ok (.invokevirtual 332, 3) := by decide +kernel
set_option maxRecDepth 20000 in
theorem ggX7_getLevel_X1_spread : GoodIn wsX7_getLevel wsX1_spread := goodIn_ca (goodIn_r _ [20, 21, 22, 23, 19, 24, 25, 26, 27, 12, 28, 29, 30, 31, 32, 33, 34, 35, 36, 37, 38, 39, 40, 41, 42, 43, 44, 45, 46, 47, 48, 49, 50, 51, 52, 65, 66, 67, 68, 69, 70, 71, 72, 73, 74, 75, 63, 64] (by decide +kernel) (by decide +kernel)) (goodIn_sub (fun _ h => List.mem_cons_of_mem _ (List.mem_append_right _ h)) (by decide +kernel))
set_option maxRecDepth 20000 in
theorem gX7_getLevel_X1_spread : GoodIn wsX7_getLevel (wsV RX7 332 RX1 yX1_spread wsX1_spread) := goodIn_app (goodIn_of _ (by decide +kernel)) ggX7_getLevel_X1_spread
theorem dX7_getLevel_28 : decode cX7_getLevel 28 = .ok (.ifCond .ne 14, 3) := by decide +kernel
theorem dX7_getLevel_31 : decode cX7_getLevel 31 = .ok (.new 139, 3) := by decide +kernel
theorem dX7_getLevel_34 : decode cX7_getLevel 34 = .ok (.dup, 1) := by decide +kernel
theorem dX7_getLevel_35 : decode cX7_getLevel 35 = .ok (.ldc_w 336, 3) := by decide +kernel
theorem dX7_getLevel_38 : decode cX7_getLevel 38 = .ok (.invokespecial 143, 3) := by decide +kernel
theorem dX7_getLevel_41 : decode cX7_getLevel 41 = .ok (.athrow, 1) := by decide +kernel
set_option maxHeartbeats 4000000 in
set_option maxRecDepth 100000 in
theorem k_X7_getLevel (l : Launch) (hl9 : l.stackTraces = false) (D : va_G) (cy : Nat → ClassId) (h1 : Nat) (p0 : Int32) (h2 : Nat) (h3 : Nat) (x4 : Value) (x5 : Value) (x6 : Value) (h7 : Nat) (x8 : Value) (x9 : Value) (x10 : Value) (x11 : Value) (x12 : Value) (x13 : Value) (x14 : Value) (x15 : Value) : vx_Met l yX7_getLevel wsX7_getLevel ({ frames := 7, cells := 2, slots := 12, locals := 105 }) (kRX D cy [.ref h1, .int p0, .int 0] [(h1, .inr (9, [.ref h2, .ref h3, x4, x5, x6, .ref h7, x8])), (h2, .inr (2, [x9, x10, .int 0, x11])), (h3, .inr (5, [x12, x13, .int 0])), (h7, .inr (3, [x14, x15]))]) (va_Ql (fun (r : Int64) (_ : Unit) => False) (fun (_ : Unit) (_ : State) => True) (fun _ : Nat => False)) (vx_X (fun _ : Unit => True) (fun (E : String) (_ : Unit) (_ : State) => (E = "java/lang/IllegalArgumentException" ∧ ¬ (((1 : Int) ≤ p0.toInt ∧ p0.toInt ≤ (999 : Int)))) ∨ (E = "java/util/NoSuchElementException" ∧ ((1 : Int) ≤ p0.toInt ∧ p0.toInt ≤ (999 : Int)))) (fun _ : Nat => False)) 2 12 (fun _ : Nat => False) := by
  refine vx_ofW (cc := cX7_getLevel) (maxL := 3) (ret := (some .long)) (by decide) rfl ?_
  intro p e s m args below meth c s₁ B hml ht9 hv
  obtain ⟨rfl, hP, hK, hE⟩ := hv
  have hx := B.exec
  have hb := B.bytes
  have hr := B.returns
  have hts := atoms_spec (ws := wsX7_getLevel) B.pre
  have hown : s.vm.findClass RX7 = some m.cls := findClass_of_methodNamed B.named
  have hlocks := B.notSynchronized
  have hS : va_S (fun _ : Nat => False) s.heap s.heap [] := va_S.rf
  have hP : va_P D vwCl [(h1, .inr (9, [.ref h2, .ref h3, x4, x5, x6, .ref h7, x8])), (h2, .inr (2, [x9, x10, .int 0, x11])), (h3, .inr (5, [x12, x13, .int 0])), (h7, .inr (3, [x14, x15]))] s.heap := hP
  have hl := lv_entry ([.ref h1, .int p0, .int 0]) (n := 3) (Nat.le_of_ble_eq_true rfl)
  rw [lg_entry_eq]
  generalize (lg_sl ([.ref h1, .int p0, .int 0]) ++ List.replicate (3 - (lg_sl ([.ref h1, .int p0, .int 0])).length) Slot.unset).toArray = ls at hl ⊢
  have hl : lv_has ls 3 [(0, .ref h1), (1, .int p0), (2, .int 0)] := hl
  refine lv_aload_n hx hb dX7_getLevel_0 rfl (lv_at hl 0 rfl) ?_
  refine lv_iload_n hx hb dX7_getLevel_1 rfl (lv_at hl 1 rfl) ?_
  refine lv_iconst (v := 1) hx hb dX7_getLevel_2 (by decide) ?_
  refine lv_sipush (v := 999) hx hb dX7_getLevel_3 (by decide) ?_
  have hPc := hP.sub (ws' := []) [] rfl
  refine vx_callv (vx_runV (As := [.int p0, .int 1, .int 999]) (rest := []) ⟨hx, hb, hml, hown, hts⟩ (k_X7_checkRange l hl9 D cy h1 p0 1 999) (cwV 3 hts gX7_getLevel_X7_checkRange rfl rfl rfl (by decide +kernel) ⟨(Nat.le_of_ble_eq_true rfl), (Nat.le_of_ble_eq_true rfl)⟩) ⟨kRX_fb, va_recv hK hP (ci := 9) (q0 := 0) rfl rfl, (kRX_go hPc hK hE hS)⟩ rfl rfl hl.1 rfl (lv_room (Nat.le_of_ble_eq_true rfl)) dX7_getLevel_6 ⟨(Nat.le_of_ble_eq_true rfl), (Nat.le_of_ble_eq_true rfl)⟩) hS (fun _ _ h => h.elim) (fun _ h => h.elim) (fun _ _ h => h.elim) (fun E9 ce9 q9 u t H locs ht hvm hw hB hz1 hk1 hS hce hcv hcl => ?_) (fun u t H locs ht hvm hw hB hz1 hk1 hS => ?_)
  · obtain ⟨rfl, hB⟩ := hB
    have f_1 : ¬ (((1 : Int) ≤ p0.toInt ∧ p0.toInt ≤ (999 : Int))) := hB
    exact vx_out (fun x hx => (ht9 x hx).elim) hlocks hce hcv hcl (fun t ht _ => ⟨(), trivial, (Or.inl (⟨rfl, (by omega)⟩)), hS.F ht⟩) hS.2.2 (Nat.le_of_ble_eq_true rfl) (Nat.le_of_ble_eq_true rfl)
  · have hP := kx_kept hP hk1
    have f_2 : ((1 : Int) ≤ p0.toInt ∧ p0.toInt ≤ (999 : Int)) := hw
    refine lv_aload_n hx hb dX7_getLevel_9 rfl (lv_at hl 0 rfl) ?_
    refine va_get (D := D) (ci := 9) (v := .ref h7) (C := RX7) (T := TX7) (N := 7) hx hb hts (fun _ h => (List.mem_cons_of_mem _ (List.mem_append_left _ (List.mem_append_left _ (List.mem_append_left _ (List.mem_append_left _ (List.mem_append_left _ (List.mem_append_left _ (List.mem_append_left _ (List.mem_append_right _ h)))))))))) hown hK hP 0 rfl rfl 5 (by decide) (hts (.fieldLink RX7 43 "SelfishJunction" "level" "LSelfishJunction$Level;") (List.mem_cons_of_mem _ (List.mem_append_left _ (List.mem_append_left _ (List.mem_append_left _ (List.mem_append_left _ (List.mem_append_left _ (List.mem_append_left _ (List.mem_append_left _ (List.mem_append_left _ (List.mem_append_left _ (List.mem_of_getElem? (i := 2) rfl)))))))))))) (fun _ h9 => h9) rfl dX7_getLevel_10 ?_
    refine lv_aload_n hx hb dX7_getLevel_13 rfl (lv_at hl 0 rfl) ?_
    refine va_get (D := D) (ci := 9) (v := .ref h2) (C := RX7) (T := TX7) (N := 7) hx hb hts (fun _ h => (List.mem_cons_of_mem _ (List.mem_append_left _ (List.mem_append_left _ (List.mem_append_left _ (List.mem_append_left _ (List.mem_append_left _ (List.mem_append_left _ (List.mem_append_left _ (List.mem_append_right _ h)))))))))) hown hK hP 0 rfl rfl 0 (by decide) (hts (.fieldLink RX7 10 "SelfishJunction" "board" "LSelfishJunction$Board;") (List.mem_cons_of_mem _ (List.mem_append_left _ (List.mem_append_left _ (List.mem_append_left _ (List.mem_append_left _ (List.mem_append_left _ (List.mem_append_left _ (List.mem_append_left _ (List.mem_append_left _ (List.mem_append_left _ (List.mem_of_getElem? (i := 3) rfl)))))))))))) (fun _ h9 => h9) rfl dX7_getLevel_14 ?_
    refine lv_aload_n hx hb dX7_getLevel_17 rfl (lv_at hl 0 rfl) ?_
    refine va_get (D := D) (ci := 9) (v := .ref h3) (C := RX7) (T := TX7) (N := 7) hx hb hts (fun _ h => (List.mem_cons_of_mem _ (List.mem_append_left _ (List.mem_append_left _ (List.mem_append_left _ (List.mem_append_left _ (List.mem_append_left _ (List.mem_append_left _ (List.mem_append_left _ (List.mem_append_right _ h)))))))))) hown hK hP 0 rfl rfl 1 (by decide) (hts (.fieldLink RX7 19 "SelfishJunction" "now" "LSelfishJunction$Play;") (List.mem_cons_of_mem _ (List.mem_append_left _ (List.mem_append_left _ (List.mem_append_left _ (List.mem_append_left _ (List.mem_append_left _ (List.mem_append_left _ (List.mem_append_left _ (List.mem_append_left _ (List.mem_append_left _ (List.mem_of_getElem? (i := 4) rfl)))))))))))) (fun _ h9 => h9) rfl dX7_getLevel_18 ?_
    refine va_get (D := D) (ci := 5) (v := .int 0) (C := RX3) (T := TX3) (N := 3) hx hb hts (fun _ h => (List.mem_cons_of_mem _ (List.mem_append_left _ (List.mem_append_left _ (List.mem_append_left _ (List.mem_append_left _ (List.mem_append_left _ (List.mem_append_left _ (List.mem_append_right _ h))))))))) hown hK hP 2 rfl rfl 2 (by decide) (hts (.fieldLink RX7 102 "SelfishJunction$Play" "closed" "I") (List.mem_cons_of_mem _ (List.mem_append_left _ (List.mem_append_left _ (List.mem_append_left _ (List.mem_append_left _ (List.mem_append_left _ (List.mem_append_left _ (List.mem_append_left _ (List.mem_append_left _ (List.mem_append_left _ (List.mem_of_getElem? (i := 5) rfl)))))))))))) (fun _ h9 => h9) rfl dX7_getLevel_21 ?_
    refine lv_iload_n hx hb dX7_getLevel_24 rfl (lv_at hl 1 rfl) ?_
    have hPc := hP.sub (ws' := [(h7, .inr (3, [x14, x15])), (h2, .inr (2, [x9, x10, .int 0, x11]))]) [3, 1] rfl
    refine va_calli (va_runV (As := [.ref h2, .int 0, .int p0]) (rest := []) ⟨hx, hb, hml, hown, hts⟩ (k_X1_spread l D cy h7 h2 p0 (x14) (x15) (x9) (x10) (x11)) (cwV 3 hts gX7_getLevel_X1_spread rfl rfl rfl (by decide +kernel) ⟨(Nat.le_of_ble_eq_true rfl), (Nat.le_of_ble_eq_true rfl)⟩) ⟨kR_fb, va_recv hK hP (ci := 3) (q0 := 3) rfl rfl, (kR_go hPc hK)⟩ rfl rfl hl.1 rfl (lv_room (Nat.le_of_ble_eq_true rfl)) dX7_getLevel_25 ⟨(Nat.le_of_ble_eq_true rfl), (Nat.le_of_ble_eq_true rfl)⟩) hS (fun _ _ h => h.elim) (fun _ h => h.elim) (fun r9 u t H locs ht hvm hw hB hz1 hk1 hS => ?_)
    have hP := kx_kept hP hk1
    obtain ⟨rfl, hw⟩ := hw
    refine lv_if_ne (tgt := 42) hx hb dX7_getLevel_28 (by decide) (fun h => absurd (by decide) h) (fun _ => ?_)
    obtain ⟨sa9, hsa9⟩ := hE.2.1 (336, "no open resource whose delay grows evenly") (by decide +kernel)
    exact vn_throwW (own := RX7) (text := "no open resource whose delay grows evenly") (A := (fun _ : Nat => False)) hx hb hl9 hown (hts (.classLink RX7 139 "java/util/NoSuchElementException") (List.mem_cons_of_mem _ (List.mem_append_left _ (List.mem_append_left _ (List.mem_append_left _ (List.mem_append_left _ (List.mem_append_left _ (List.mem_append_left _ (List.mem_append_left _ (List.mem_append_left _ (List.mem_append_left _ (List.mem_of_getElem? (i := 0) rfl)))))))))))) (hts (.initialized "java/util/NoSuchElementException") (List.mem_cons_of_mem _ (List.mem_append_left _ (List.mem_append_left _ (List.mem_append_left _ (List.mem_append_left _ (List.mem_append_left _ (List.mem_append_left _ (List.mem_append_left _ (List.mem_append_left _ (List.mem_append_left _ (List.mem_of_getElem? (i := 1) rfl)))))))))))) hsa9 (ex_hatN hE (fun w h => hts w (List.mem_cons_of_mem _ (List.mem_append_left _ (List.mem_append_left _ (List.mem_append_right _ h))))) (by decide +kernel)) (by decide +kernel) hE.1.1 hE.1.2 hS (by rw [hml]; exact hl.1) dX7_getLevel_31 dX7_getLevel_34 dX7_getLevel_35 dX7_getLevel_38 dX7_getLevel_41 (fun x hx => (ht9 x hx).elim) (Nat.le_of_ble_eq_true rfl) (Nat.le_of_ble_eq_true rfl) (Nat.le_of_ble_eq_true rfl) (Nat.le_of_ble_eq_true rfl) hlocks (fun t hal hz hk => ⟨(), trivial, (Or.inr (⟨rfl, (by omega)⟩)), kx_thr hS hz hk⟩) hS.2.2 (Nat.le_of_ble_eq_true rfl) (Nat.le_of_ble_eq_true rfl)
theorem dL_getLevel_0 : decode cL_getLevel 0 = .ok (.aload_n 3, 1) := by decide +kernel
theorem dL_getLevel_1 : decode cL_getLevel 1 = .ok (.iconst 0, 1) := by decide +kernel
theorem dL_getLevel_2 : decode cL_getLevel 2 = .ok (.aload_n 0, 1) := by decide +kernel
theorem dL_getLevel_3 : decode cL_getLevel 3 = .ok (.iload_n 1, 1) := by decide +kernel
theorem dL_getLevel_4 : decode cL_getLevel 4 = .ok (.iload_n 2, 1) := by decide +kernel
theorem dL_getLevel_5 : decode cL_getLevel 5 = .ok (.invokevirtual 129, 3) := by decide +kernel
set_option maxRecDepth 20000 in
theorem ggL_getLevel_X7_getLevel : GoodIn wsL_getLevel wsX7_getLevel := goodIn_ca (goodIn_ca (goodIn_ca (goodIn_r _ [7, 8, 9, 10, 11, 12, 13, 14, 15, 16, 17, 18, 6, 19, 20, 21, 22, 23, 24, 25, 26, 27, 28, 29, 30, 31, 32, 33, 34, 35, 36, 37, 38, 39, 40, 41, 42, 43, 44, 45, 46, 47, 48, 49, 50, 51, 52, 53, 54, 55, 56, 57, 58, 59, 60, 61, 62, 63, 64, 65, 66, 67, 68, 69, 70, 71, 72, 73, 74, 75, 76, 77, 78, 79, 80, 81] (by decide +kernel) (by decide +kernel)) (goodIn_sub (fun _ h => List.mem_cons_of_mem _ (List.mem_append_left _ (List.mem_append_left _ (List.mem_append_right _ h)))) (by decide +kernel))) (goodIn_sub (fun _ h => List.mem_cons_of_mem _ (List.mem_append_left _ (List.mem_append_right _ h))) (by decide +kernel))) (goodIn_sub (fun _ h => List.mem_cons_of_mem _ (List.mem_append_right _ h)) (by decide +kernel))
set_option maxRecDepth 20000 in
theorem gL_getLevel_X7_getLevel : GoodIn wsL_getLevel (wsV RL 129 RX7 yX7_getLevel wsX7_getLevel) := goodIn_app (goodIn_of _ (by decide +kernel)) ggL_getLevel_X7_getLevel
theorem dL_getLevel_12 : decode cL_getLevel 12 = .ok (.astore 4, 2) := by decide +kernel
theorem dL_getLevel_14 : decode cL_getLevel 14 = .ok (.iconst 1, 1) := by decide +kernel
theorem dL_getLevel_15 : decode cL_getLevel 15 = .ok (.ireturn, 1) := by decide +kernel
theorem dL_getLevel_16 : decode cL_getLevel 16 = .ok (.astore 4, 2) := by decide +kernel
theorem dL_getLevel_18 : decode cL_getLevel 18 = .ok (.iconst 2, 1) := by decide +kernel
theorem dL_getLevel_19 : decode cL_getLevel 19 = .ok (.ireturn, 1) := by decide +kernel
set_option maxHeartbeats 4000000 in
set_option maxRecDepth 100000 in
theorem k_L_getLevel (l : Launch) (hl9 : l.stackTraces = false) (D : va_G) (cy : Nat → ClassId) (h1 : Nat) (p1 : Int32) (h2 : Nat) (h3 : Nat) (h4 : Nat) (x5 : Value) (x6 : Value) (x7 : Value) (h8 : Nat) (x9 : Value) (x10 : Value) (x11 : Value) (x12 : Value) (x13 : Value) (x14 : Value) (x15 : Value) (x16 : Value) : Met l yL_getLevel wsL_getLevel ({ frames := 8, cells := 2, slots := 12, locals := 127 }) (kRX D cy [.ref h1, .int p1, .int 0, .ref h2] [(h1, .inr (9, [.ref h3, .ref h4, x5, x6, x7, .ref h8, x9])), (h3, .inr (2, [x10, x11, .int 0, x12])), (h4, .inr (5, [x13, x14, .int 0])), (h8, .inr (3, [x15, x16]))]) (va_Qi (fun (r : Int32) (_ : Unit) => ((r = 1 ∧ ¬ (((1 : Int) ≤ p1.toInt ∧ p1.toInt ≤ (999 : Int)))) ∨ (r = 2 ∧ ((1 : Int) ≤ p1.toInt ∧ p1.toInt ≤ (999 : Int))))) (fun (_ : Unit) (_ : State) => True) (fun _ : Nat => False)) 2 12 (fun _ : Nat => False) := by
  refine va_MetW (cc := cL_getLevel) (maxL := 5) (ret := (some .int)) (by decide) rfl ?_
  intro p e s m args below meth c s₁ B hml hv
  obtain ⟨rfl, hP, hK, hE⟩ := hv
  have hx := B.exec
  have hb := B.bytes
  have hr := B.returns
  have hts := atoms_spec (ws := wsL_getLevel) B.pre
  have hown : s.vm.findClass RL = some m.cls := findClass_of_methodNamed B.named
  have hlocks := B.notSynchronized
  have htb := vx_table (x := yL_getLevel) B (hts _ (List.mem_cons_self))
  have hS : va_S (fun _ : Nat => False) s.heap s.heap [] := va_S.rf
  have hP : va_P D vwCl [(h1, .inr (9, [.ref h3, .ref h4, x5, x6, x7, .ref h8, x9])), (h3, .inr (2, [x10, x11, .int 0, x12])), (h4, .inr (5, [x13, x14, .int 0])), (h8, .inr (3, [x15, x16]))] s.heap := hP
  have hl := lv_entry ([.ref h1, .int p1, .int 0, .ref h2]) (n := 5) (Nat.le_of_ble_eq_true rfl)
  rw [lg_entry_eq]
  generalize (lg_sl ([.ref h1, .int p1, .int 0, .ref h2]) ++ List.replicate (5 - (lg_sl ([.ref h1, .int p1, .int 0, .ref h2])).length) Slot.unset).toArray = ls at hl ⊢
  have hl : lv_has ls 5 [(0, .ref h1), (1, .int p1), (2, .int 0), (3, .ref h2)] := hl
  refine lv_aload_n hx hb dL_getLevel_0 rfl (lv_at hl 3 rfl) ?_
  refine lv_iconst (v := 0) hx hb dL_getLevel_1 (by decide) ?_
  refine lv_aload_n hx hb dL_getLevel_2 rfl (lv_at hl 0 rfl) ?_
  refine lv_iload_n hx hb dL_getLevel_3 rfl (lv_at hl 1 rfl) ?_
  refine lv_iload_n hx hb dL_getLevel_4 rfl (lv_at hl 2 rfl) ?_
  have hPc := hP.sub (ws' := [(h1, .inr (9, [.ref h3, .ref h4, x5, x6, x7, .ref h8, x9])), (h3, .inr (2, [x10, x11, .int 0, x12])), (h4, .inr (5, [x13, x14, .int 0])), (h8, .inr (3, [x15, x16]))]) [0, 1, 2, 3] rfl
  refine vx_calll (vx_runV (As := [.int p1, .int 0]) (rest := [.int 0, .ref h2]) ⟨hx, hb, hml, hown, hts⟩ (k_X7_getLevel l hl9 D cy h1 p1 h3 h4 (x5) (x6) (x7) h8 (x9) (x10) (x11) (x12) (x13) (x14) (x15) (x16)) (cwV 2 hts gL_getLevel_X7_getLevel rfl rfl rfl (by decide +kernel) ⟨(Nat.le_of_ble_eq_true rfl), (Nat.le_of_ble_eq_true rfl)⟩) ⟨kRX_fb, va_recv hK hP (ci := 9) (q0 := 0) rfl rfl, (kRX_go hPc hK hE hS)⟩ rfl rfl hl.1 rfl (lv_room (Nat.le_of_ble_eq_true rfl)) dL_getLevel_5 ⟨(Nat.le_of_ble_eq_true rfl), (Nat.le_of_ble_eq_true rfl)⟩) hS (fun _ _ h => h.elim) (fun _ h => h.elim) (fun _ _ h => h.elim) (fun E9 ce9 q9 u t H locs ht hvm hw hB hz1 hk1 hS hce hcv hcl => ?_) (fun r9 u t H locs ht hvm hw hB hz1 hk1 hS => ?_)
  · rcases hB with ⟨rfl, hB⟩ | ⟨rfl, hB⟩
    · have f_1 : ¬ (((1 : Int) ≤ p1.toInt ∧ p1.toInt ≤ (999 : Int))) := hB
      have hP := kx_kept hP hk1
      refine vx_catch (E := "java/lang/IllegalArgumentException") (name := "java/lang/IllegalArgumentException") hown [] (⟨0, 9, 12, 13⟩ : ExceptionTableEntry) [(⟨0, 9, 16, 36⟩ : ExceptionTableEntry)] htb (fun _ h => absurd h List.not_mem_nil) rfl (by decide) (hts (.classLink RL 13 "java/lang/IllegalArgumentException") (List.mem_cons_of_mem _ (List.mem_append_left _ (List.mem_append_left _ (List.mem_append_left _ (List.mem_append_left _ (List.mem_append_left _ (List.mem_append_left _ (List.mem_append_left _ (List.mem_append_left _ (List.mem_append_left _ (List.mem_append_left _ (List.mem_of_getElem? (i := 0) rfl))))))))))))) (exP.cast hE "java/lang/IllegalArgumentException" (by decide +kernel)) hce hcv hcl ?_
      refine lv_astore (lv' := [(4, .ref q9), (0, .ref h1), (1, .int p1), (2, .int 0), (3, .ref h2)]) hx hb dL_getLevel_12 hl (by decide) rfl (fun ls hl => ?_)
      refine lv_iconst (v := 1) hx hb dL_getLevel_14 (by decide) ?_
      refine W.widen (k := 2) (n := 12) (Nat.le_of_ble_eq_true rfl) (Nat.le_of_ble_eq_true rfl) ?_
      exact W.iret (v := 1) hx hb hr (fun t ht hW => ⟨⟨1, (), rfl, Or.inl (⟨rfl, (by omega)⟩), trivial⟩, hS.F ht⟩) hS.2.2 dL_getLevel_15
    · have f_2 : ((1 : Int) ≤ p1.toInt ∧ p1.toInt ≤ (999 : Int)) := hB
      have hP := kx_kept hP hk1
      refine vx_catch (E := "java/util/NoSuchElementException") (name := "java/util/NoSuchElementException") hown [(⟨0, 9, 12, 13⟩ : ExceptionTableEntry)] (⟨0, 9, 16, 36⟩ : ExceptionTableEntry) [] htb (List.forall_mem_cons.mpr ⟨Or.inr ⟨by decide, "java/lang/IllegalArgumentException", (hts (.classLink RL 13 "java/lang/IllegalArgumentException") (List.mem_cons_of_mem _ (List.mem_append_left _ (List.mem_append_left _ (List.mem_append_left _ (List.mem_append_left _ (List.mem_append_left _ (List.mem_append_left _ (List.mem_append_left _ (List.mem_append_left _ (List.mem_append_left _ (List.mem_append_left _ (List.mem_of_getElem? (i := 0) rfl))))))))))))), exP.nc hE "java/util/NoSuchElementException" "java/lang/IllegalArgumentException" (by decide +kernel) (by decide +kernel) (by decide +kernel)⟩, (fun _ h => absurd h List.not_mem_nil)⟩) rfl (by decide) (hts (.classLink RL 36 "java/util/NoSuchElementException") (List.mem_cons_of_mem _ (List.mem_append_left _ (List.mem_append_left _ (List.mem_append_left _ (List.mem_append_left _ (List.mem_append_left _ (List.mem_append_left _ (List.mem_append_left _ (List.mem_append_left _ (List.mem_append_left _ (List.mem_append_left _ (List.mem_of_getElem? (i := 1) rfl))))))))))))) (exP.cast hE "java/util/NoSuchElementException" (by decide +kernel)) hce hcv hcl ?_
      refine lv_astore (lv' := [(4, .ref q9), (0, .ref h1), (1, .int p1), (2, .int 0), (3, .ref h2)]) hx hb dL_getLevel_16 hl (by decide) rfl (fun ls hl => ?_)
      refine lv_iconst (v := 2) hx hb dL_getLevel_18 (by decide) ?_
      refine W.widen (k := 2) (n := 12) (Nat.le_of_ble_eq_true rfl) (Nat.le_of_ble_eq_true rfl) ?_
      exact W.iret (v := 2) hx hb hr (fun t ht hW => ⟨⟨2, (), rfl, Or.inr (⟨rfl, (by omega)⟩), trivial⟩, hS.F ht⟩) hS.2.2 dL_getLevel_19
  · exact (show False from hw).elim
theorem dX8_getLevel_0 : decode cX8_getLevel 0 = .ok (.aload_n 0, 1) := by decide +kernel
theorem dX8_getLevel_1 : decode cX8_getLevel 1 = .ok (.iload_n 1, 1) := by decide +kernel
theorem dX8_getLevel_2 : decode cX8_getLevel 2 = .ok (.iconst 1, 1) := by decide +kernel
theorem dX8_getLevel_3 : decode cX8_getLevel 3 = .ok (.sipush 999, 3) := by decide +kernel
theorem dX8_getLevel_6 : decode cX8_getLevel 6 = .ok (.invokestatic 65, 3) := by decide +kernel
set_option maxRecDepth 20000 in
theorem ggX8_getLevel_X8_isIn : GoodIn wsX8_getLevel wsX8_isIn := goodIn_r _ [9] (by decide +kernel) (by decide +kernel)
set_option maxRecDepth 20000 in
theorem gX8_getLevel_X8_isIn : GoodIn wsX8_getLevel (va_wsS RX8 65 yX8_isIn wsX8_isIn) := goodIn_app (goodIn_of _ (by decide +kernel)) ggX8_getLevel_X8_isIn
theorem dX8_getLevel_9 : decode cX8_getLevel 9 = .ok (.ifCond .ne 7, 3) := by decide +kernel
theorem dX8_getLevel_16 : decode cX8_getLevel 16 = .ok (.iconst 0, 1) := by decide +kernel
theorem dX8_getLevel_17 : decode cX8_getLevel 17 = .ok (.iconst 1, 1) := by decide +kernel
theorem dX8_getLevel_18 : decode cX8_getLevel 18 = .ok (.invokevirtual 73, 3) := by decide +kernel
set_option maxRecDepth 20000 in
theorem ggX8_getLevel_X8_isThrown : GoodIn wsX8_getLevel wsX8_isThrown := goodIn_r _ [13, 14, 18, 19, 20, 21, 22, 23, 24, 25, 26, 27, 28, 29, 30, 31, 32, 33, 34, 35] (by decide +kernel) (by decide +kernel)
set_option maxRecDepth 20000 in
theorem gX8_getLevel_X8_isThrown : GoodIn wsX8_getLevel (wsV RX8 73 RX8 yX8_isThrown wsX8_isThrown) := goodIn_app (goodIn_of _ (by decide +kernel)) ggX8_getLevel_X8_isThrown
theorem dX8_getLevel_21 : decode cX8_getLevel 21 = .ok (.ifCond .eq 5, 3) := by decide +kernel
theorem dX8_getLevel_26 : decode cX8_getLevel 26 = .ok (.lconst 1, 1) := by decide +kernel
theorem dX8_getLevel_27 : decode cX8_getLevel 27 = .ok (.lstore_n 3, 1) := by decide +kernel
theorem dX8_getLevel_28 : decode cX8_getLevel 28 = .ok (.iconst 0, 1) := by decide +kernel
theorem dX8_getLevel_29 : decode cX8_getLevel 29 = .ok (.istore 5, 2) := by decide +kernel
theorem dX8_getLevel_31 : decode cX8_getLevel 31 = .ok (.iconst 0, 1) := by decide +kernel
theorem dX8_getLevel_32 : decode cX8_getLevel 32 = .ok (.istore 6, 2) := by decide +kernel
theorem dX8_getLevel_34 : decode cX8_getLevel 34 = .ok (.iload 6, 2) := by decide +kernel
theorem dX8_getLevel_36 : decode cX8_getLevel 36 = .ok (.aload_n 0, 1) := by decide +kernel
theorem dX8_getLevel_37 : decode cX8_getLevel 37 = .ok (.getfield 62, 3) := by decide +kernel
theorem dX8_getLevel_40 : decode cX8_getLevel 40 = .ok (.if_icmp .ge 85, 3) := by decide +kernel
theorem dX8_getLevel_125 : decode cX8_getLevel 125 = .ok (.aload_n 0, 1) := by decide +kernel
theorem dX8_getLevel_126 : decode cX8_getLevel 126 = .ok (.iload 5, 2) := by decide +kernel
theorem dX8_getLevel_128 : decode cX8_getLevel 128 = .ok (.ifCond .ne 7, 3) := by decide +kernel
theorem dX8_getLevel_131 : decode cX8_getLevel 131 = .ok (.iconst 1, 1) := by decide +kernel
theorem dX8_getLevel_132 : decode cX8_getLevel 132 = .ok (.goto 4, 3) := by decide +kernel
theorem dX8_getLevel_136 : decode cX8_getLevel 136 = .ok (.iconst 2, 1) := by decide +kernel
theorem dX8_getLevel_137 : decode cX8_getLevel 137 = .ok (.invokevirtual 73, 3) := by decide +kernel
theorem dX8_getLevel_140 : decode cX8_getLevel 140 = .ok (.ifCond .eq 5, 3) := by decide +kernel
theorem dX8_getLevel_143 : decode cX8_getLevel 143 = .ok (.lconst 0, 1) := by decide +kernel
theorem dX8_getLevel_144 : decode cX8_getLevel 144 = .ok (.lreturn, 1) := by decide +kernel
theorem dX8_getLevel_12 : decode cX8_getLevel 12 = .ok (.iconst 1, 1) := by decide +kernel
theorem dX8_getLevel_13 : decode cX8_getLevel 13 = .ok (.goto 4, 3) := by decide +kernel
theorem dX8_getLevel_24 : decode cX8_getLevel 24 = .ok (.lconst 0, 1) := by decide +kernel
theorem dX8_getLevel_25 : decode cX8_getLevel 25 = .ok (.lreturn, 1) := by decide +kernel
set_option maxHeartbeats 4000000 in
set_option maxRecDepth 100000 in
theorem k_X8_getLevel (l : Launch) (D : va_G) (cy : Nat → ClassId) (h1 : Nat) (p0 : Int32) (x2 : Value) (x3 : Value) (x4 : Value) (x5 : Value) (x6 : Value) (x7 : Value) (x8 : Value) (x9 : Value) (x10 : Value) (x11 : Value) (x12 : Value) (x13 : Value) (x14 : Value) (x15 : Value) (x16 : Value) (x17 : Value) (x18 : Value) (sz : Nat) : Met l yX8_getLevel wsX8_getLevel ({ frames := 1, cells := 0, slots := 0, locals := 22 }) (kW D cy [.ref h1, .int p0, .int 0] [(h1, .inr (10, [x2, x3, x4, x5, x6, x7, x8, x9, x10, x11, x12, x13, x14, x15, .int 0, x16, x17, x18]))] sz) (va_Ql (fun (r : Int64) (u : Int32) => match u with | y1 => ((r = 0 ∧ (y1 = 2) ∧ ((1 : Int) ≤ p0.toInt ∧ p0.toInt ≤ (999 : Int))) ∨ (r = 0 ∧ (y1 = 1) ∧ ¬ (((1 : Int) ≤ p0.toInt ∧ p0.toInt ≤ (999 : Int)))))) (fun (u : Int32) (t : State) => match u with | y1 => va_P D vwCl [(h1, .inr (10, [x2, x3, x4, x5, x6, x7, x8, x9, x10, x11, x12, x13, x14, x15, .int 0, x16, x17, .int y1]))] t.heap ∧ va_D (va_A [(h1, .inr (10, [x2, x3, x4, x5, x6, x7, x8, x9, x10, x11, x12, x13, x14, x15, .int 0, x16, x17, x18]))] sz) [(h1, .inr (10, [x2, x3, x4, x5, x6, x7, x8, x9, x10, x11, x12, x13, x14, x15, .int 0, x16, x17, .int y1]))]) (va_A [(h1, .inr (10, [x2, x3, x4, x5, x6, x7, x8, x9, x10, x11, x12, x13, x14, x15, .int 0, x16, x17, x18]))] sz)) 0 0 (va_A [(h1, .inr (10, [x2, x3, x4, x5, x6, x7, x8, x9, x10, x11, x12, x13, x14, x15, .int 0, x16, x17, x18]))] sz) := by
  refine Met.ofW (cc := cX8_getLevel) (maxL := 18) (ret := (some .long)) (by decide) rfl ?_
  intro p e s m args below meth c s₁ B hml hv
  obtain ⟨rfl, hsz, hP, hK, hD0⟩ := hv
  have hx := B.exec
  have hb := B.bytes
  have hr := B.returns
  have hts := atoms_spec (ws := wsX8_getLevel) B.pre
  have hown : s.vm.findClass RX8 = some m.cls := findClass_of_methodNamed B.named
  have hlocks := B.notSynchronized
  subst hsz
  have hD := hD0.self (sz := s.heap.size)
  generalize hAe : va_A [(h1, .inr (10, [x2, x3, x4, x5, x6, x7, x8, x9, x10, x11, x12, x13, x14, x15, .int 0, x16, x17, x18]))] s.heap.size = A at hD ⊢
  have hA : ∀ q : Nat, s.heap.size ≤ q → A q := fun q h => by rw [← hAe]; exact Or.inr h
  have hS : va_S A s.heap s.heap [] := va_S.rf
  have hP : va_P D vwCl [(h1, .inr (10, [x2, x3, x4, x5, x6, x7, x8, x9, x10, x11, x12, x13, x14, x15, .int 0, x16, x17, x18]))] s.heap := hP
  have hl := lv_entry ([.ref h1, .int p0, .int 0]) (n := 18) (Nat.le_of_ble_eq_true rfl)
  rw [lg_entry_eq]
  generalize (lg_sl ([.ref h1, .int p0, .int 0]) ++ List.replicate (18 - (lg_sl ([.ref h1, .int p0, .int 0])).length) Slot.unset).toArray = ls at hl ⊢
  have hl : lv_has ls 18 [(0, .ref h1), (1, .int p0), (2, .int 0)] := hl
  refine lv_aload_n hx hb dX8_getLevel_0 rfl (lv_at hl 0 rfl) ?_
  refine lv_iload_n hx hb dX8_getLevel_1 rfl (lv_at hl 1 rfl) ?_
  refine lv_iconst (v := 1) hx hb dX8_getLevel_2 (by decide) ?_
  refine lv_sipush (v := 999) hx hb dX8_getLevel_3 (by decide) ?_
  have hPc := hP.sub (ws' := []) [] rfl
  refine va_calli (va_runS (As := [.int p0, .int 1, .int 999]) (rest := [.ref h1]) ⟨hx, hb, hml, hown, hts⟩ (k_X8_isIn l D cy p0 1 999) (va_cwS 3 hts gX8_getLevel_X8_isIn rfl rfl rfl (by decide +kernel) ⟨(Nat.le_of_ble_eq_true rfl), (Nat.le_of_ble_eq_true rfl)⟩) ⟨kR_fb, (kR_go hPc hK)⟩ rfl rfl hl.1 rfl (lv_room (Nat.le_of_ble_eq_true rfl)) dX8_getLevel_6 ⟨(Nat.le_of_ble_eq_true rfl), (Nat.le_of_ble_eq_true rfl)⟩) hS (fun _ _ h => h.elim) (fun _ h => h.elim) (fun r9 u t H locs ht hvm hw hB hz1 hk1 hS => ?_)
  have hP := kx_kept hP hk1
  rcases hw with ⟨rfl, hw⟩ | ⟨rfl, hw⟩
  · have f_1 : ((1 : Int) ≤ p0.toInt ∧ p0.toInt ≤ (999 : Int)) := hw
    refine lv_if_ne (tgt := 16) hx hb dX8_getLevel_9 (by decide) (fun _ => ?_) (fun h => absurd h (by decide))
    refine lv_iconst (v := 0) hx hb dX8_getLevel_16 (by decide) ?_
    refine lv_iconst (v := 1) hx hb dX8_getLevel_17 (by decide) ?_
    have hPc := hP.sub (ws' := [(h1, .inr (10, [x2, x3, x4, x5, x6, x7, x8, x9, x10, x11, x12, x13, x14, x15, .int 0, x16, x17, x18]))]) [0] rfl
    have hDc := hD.sub (ws' := [(h1, .inr (10, [x2, x3, x4, x5, x6, x7, x8, x9, x10, x11, x12, x13, x14, x15, .int 0, x16, x17, x18]))]) [0] (by decide) rfl
    have hFc := va_free (wc := [(h1, .inr (10, [x2, x3, x4, x5, x6, x7, x8, x9, x10, x11, x12, x13, x14, x15, .int 0, x16, x17, x18]))]) hD hS hA [0] rfl
    refine va_calli (va_runV (As := [.int 0, .int 1]) (rest := []) ⟨hx, hb, hml, hown, hts⟩ (k_X8_isThrown_1 l D cy h1 (x2) (x3) (x4) (x5) (x6) (x7) (x8) (x9) (x10) (x11) (x12) (x13) (x14) (x15) (.int 0) (x16) (x17) (x18) H.size) (cwV 2 hts gX8_getLevel_X8_isThrown rfl rfl rfl (by decide +kernel) ⟨(Nat.le_of_ble_eq_true rfl), (Nat.le_of_ble_eq_true rfl)⟩) ⟨kW_fb, va_recv hK hP (ci := 10) (q0 := 0) rfl rfl, (kW_go hPc hK hDc)⟩ rfl rfl hl.1 rfl (lv_room (Nat.le_of_ble_eq_true rfl)) dX8_getLevel_18 ⟨(Nat.le_of_ble_eq_true rfl), (Nat.le_of_ble_eq_true rfl)⟩) hS (fun q _ h => hFc q h) hFc (fun r9 u t H locs ht hvm hw hB hz1 hk1 hS => ?_)
    obtain ⟨hP1, hD1⟩ := hB
    rw [ht] at hP1
    try dsimp only at hw hP1 hD1
    obtain ⟨hP, hD⟩ := va_join (wr := []) (w1 := [(h1, .inr (10, [x2, x3, x4, x5, x6, x7, x8, x9, x10, x11, x12, x13, x14, x15, .int 0, x16, x17, .int 0]))]) hP hD [0] [] rfl rfl (by decide) (by decide) hk1 hFc hP1 hD1
    have hP : va_P D vwCl [(h1, .inr (10, [x2, x3, x4, x5, x6, x7, x8, x9, x10, x11, x12, x13, x14, x15, .int 0, x16, x17, .int 0]))] H := hP
    have hD : va_D A [(h1, .inr (10, [x2, x3, x4, x5, x6, x7, x8, x9, x10, x11, x12, x13, x14, x15, .int 0, x16, x17, .int 0]))] := hD
    obtain ⟨rfl, hw⟩ := hw
    refine lv_if_eq (tgt := 26) hx hb dX8_getLevel_21 (by decide) (fun _ => ?_) (fun h => absurd (by decide) h)
    refine lv_lconst (v := 1) hx hb dX8_getLevel_26 (by decide) ?_
    refine lv_lstore_n (lv' := [(3, .long 1), (0, .ref h1), (1, .int p0), (2, .int 0)]) hx hb dX8_getLevel_27 rfl hl (by decide) rfl (fun ls hl => ?_)
    refine lv_iconst (v := 0) hx hb dX8_getLevel_28 (by decide) ?_
    refine lv_istore (lv' := [(5, .int 0), (3, .long 1), (0, .ref h1), (1, .int p0), (2, .int 0)]) hx hb dX8_getLevel_29 hl (by decide) rfl (fun ls hl => ?_)
    refine lv_iconst (v := 0) hx hb dX8_getLevel_31 (by decide) ?_
    refine lv_istore (lv' := [(6, .int 0), (5, .int 0), (3, .long 1), (0, .ref h1), (1, .int p0), (2, .int 0)]) hx hb dX8_getLevel_32 hl (by decide) rfl (fun ls hl => ?_)
    refine lv_iload hx hb dX8_getLevel_34 (lv_at hl 0 rfl) ?_
    refine lv_aload_n hx hb dX8_getLevel_36 rfl (lv_at hl 3 rfl) ?_
    refine va_get (D := D) (ci := 10) (v := .int 0) (C := RX8) (T := TX8) (N := 18) hx hb hts (fun _ h => (List.mem_cons_of_mem _ (List.mem_append_left _ (List.mem_append_left _ (List.mem_append_right _ h))))) hown hK hP 0 rfl rfl 14 (by decide) (hts (.fieldLink RX8 62 "SelfishJunctionModel" "resources" "I") (List.mem_cons_of_mem _ (List.mem_append_left _ (List.mem_append_left _ (List.mem_append_left _ (List.mem_of_getElem? (i := 0) rfl)))))) (fun _ h9 => h9) rfl dX8_getLevel_37 ?_
    refine lv_icmp_ge (tgt := 125) hx hb dX8_getLevel_40 (by decide) (fun _ => ?_) (fun h => absurd (by decide) h)
    refine lv_aload_n hx hb dX8_getLevel_125 rfl (lv_at hl 3 rfl) ?_
    refine lv_iload hx hb dX8_getLevel_126 (lv_at hl 1 rfl) ?_
    refine lv_if_ne (tgt := 135) hx hb dX8_getLevel_128 (by decide) (fun h => absurd (by decide) h) (fun _ => ?_)
    refine lv_iconst (v := 1) hx hb dX8_getLevel_131 (by decide) ?_
    refine lv_goto (tgt := 136) hx hb dX8_getLevel_132 (by decide) ?_
    refine lv_iconst (v := 2) hx hb dX8_getLevel_136 (by decide) ?_
    have hPc := hP.sub (ws' := [(h1, .inr (10, [x2, x3, x4, x5, x6, x7, x8, x9, x10, x11, x12, x13, x14, x15, .int 0, x16, x17, .int 0]))]) [0] rfl
    have hDc := hD.sub (ws' := [(h1, .inr (10, [x2, x3, x4, x5, x6, x7, x8, x9, x10, x11, x12, x13, x14, x15, .int 0, x16, x17, .int 0]))]) [0] (by decide) rfl
    have hFc := va_free (wc := [(h1, .inr (10, [x2, x3, x4, x5, x6, x7, x8, x9, x10, x11, x12, x13, x14, x15, .int 0, x16, x17, .int 0]))]) hD hS hA [0] rfl
    refine va_calli (va_runV (As := [.int 1, .int 2]) (rest := []) ⟨hx, hb, hml, hown, hts⟩ (k_X8_isThrown_3 l D cy h1 (x2) (x3) (x4) (x5) (x6) (x7) (x8) (x9) (x10) (x11) (x12) (x13) (x14) (x15) (.int 0) (x16) (x17) (.int 0) H.size) (cwV 2 hts gX8_getLevel_X8_isThrown rfl rfl rfl (by decide +kernel) ⟨(Nat.le_of_ble_eq_true rfl), (Nat.le_of_ble_eq_true rfl)⟩) ⟨kW_fb, va_recv hK hP (ci := 10) (q0 := 0) rfl rfl, (kW_go hPc hK hDc)⟩ rfl rfl hl.1 rfl (lv_room (Nat.le_of_ble_eq_true rfl)) dX8_getLevel_137 ⟨(Nat.le_of_ble_eq_true rfl), (Nat.le_of_ble_eq_true rfl)⟩) hS (fun q _ h => hFc q h) hFc (fun r9 u t H locs ht hvm hw hB hz1 hk1 hS => ?_)
    obtain ⟨hP1, hD1⟩ := hB
    rw [ht] at hP1
    try dsimp only at hw hP1 hD1
    obtain ⟨hP, hD⟩ := va_join (wr := []) (w1 := [(h1, .inr (10, [x2, x3, x4, x5, x6, x7, x8, x9, x10, x11, x12, x13, x14, x15, .int 0, x16, x17, .int 2]))]) hP hD [0] [] rfl rfl (by decide) (by decide) hk1 hFc hP1 hD1
    have hP : va_P D vwCl [(h1, .inr (10, [x2, x3, x4, x5, x6, x7, x8, x9, x10, x11, x12, x13, x14, x15, .int 0, x16, x17, .int 2]))] H := hP
    have hD : va_D A [(h1, .inr (10, [x2, x3, x4, x5, x6, x7, x8, x9, x10, x11, x12, x13, x14, x15, .int 0, x16, x17, .int 2]))] := hD
    obtain ⟨rfl, hw⟩ := hw
    refine lv_if_eq (tgt := 145) hx hb dX8_getLevel_140 (by decide) (fun h => absurd h (by decide)) (fun _ => ?_)
    refine lv_lconst (v := 0) hx hb dX8_getLevel_143 (by decide) ?_
    refine W.widen (k := 0) (n := 0) (Nat.le_of_ble_eq_true rfl) (Nat.le_of_ble_eq_true rfl) ?_
    have hP9 := hP.sub (ws' := [(h1, .inr (10, [x2, x3, x4, x5, x6, x7, x8, x9, x10, x11, x12, x13, x14, x15, .int 0, x16, x17, .int 2]))]) [0] rfl
    have hD9 := hD.sub (ws' := [(h1, .inr (10, [x2, x3, x4, x5, x6, x7, x8, x9, x10, x11, x12, x13, x14, x15, .int 0, x16, x17, .int 2]))]) [0] (by decide) rfl
    exact W.lret (v := 0) hx hb hr (fun t ht hW => ⟨⟨0, (2), rfl, Or.inl (⟨rfl, rfl, (by omega)⟩), ⟨by rw [ht]; exact hP9, hD9⟩⟩, hS.F ht⟩) hS.2.2 dX8_getLevel_144
  · have f_4 : ¬ (((1 : Int) ≤ p0.toInt ∧ p0.toInt ≤ (999 : Int))) := hw
    refine lv_if_ne (tgt := 16) hx hb dX8_getLevel_9 (by decide) (fun h => absurd (by decide) h) (fun _ => ?_)
    refine lv_iconst (v := 1) hx hb dX8_getLevel_12 (by decide) ?_
    refine lv_goto (tgt := 17) hx hb dX8_getLevel_13 (by decide) ?_
    refine lv_iconst (v := 1) hx hb dX8_getLevel_17 (by decide) ?_
    have hPc := hP.sub (ws' := [(h1, .inr (10, [x2, x3, x4, x5, x6, x7, x8, x9, x10, x11, x12, x13, x14, x15, .int 0, x16, x17, x18]))]) [0] rfl
    have hDc := hD.sub (ws' := [(h1, .inr (10, [x2, x3, x4, x5, x6, x7, x8, x9, x10, x11, x12, x13, x14, x15, .int 0, x16, x17, x18]))]) [0] (by decide) rfl
    have hFc := va_free (wc := [(h1, .inr (10, [x2, x3, x4, x5, x6, x7, x8, x9, x10, x11, x12, x13, x14, x15, .int 0, x16, x17, x18]))]) hD hS hA [0] rfl
    refine va_calli (va_runV (As := [.int 1, .int 1]) (rest := []) ⟨hx, hb, hml, hown, hts⟩ (k_X8_isThrown l D cy h1 (x2) (x3) (x4) (x5) (x6) (x7) (x8) (x9) (x10) (x11) (x12) (x13) (x14) (x15) (.int 0) (x16) (x17) (x18) H.size) (cwV 2 hts gX8_getLevel_X8_isThrown rfl rfl rfl (by decide +kernel) ⟨(Nat.le_of_ble_eq_true rfl), (Nat.le_of_ble_eq_true rfl)⟩) ⟨kW_fb, va_recv hK hP (ci := 10) (q0 := 0) rfl rfl, (kW_go hPc hK hDc)⟩ rfl rfl hl.1 rfl (lv_room (Nat.le_of_ble_eq_true rfl)) dX8_getLevel_18 ⟨(Nat.le_of_ble_eq_true rfl), (Nat.le_of_ble_eq_true rfl)⟩) hS (fun q _ h => hFc q h) hFc (fun r9 u t H locs ht hvm hw hB hz1 hk1 hS => ?_)
    obtain ⟨hP1, hD1⟩ := hB
    rw [ht] at hP1
    try dsimp only at hw hP1 hD1
    obtain ⟨hP, hD⟩ := va_join (wr := []) (w1 := [(h1, .inr (10, [x2, x3, x4, x5, x6, x7, x8, x9, x10, x11, x12, x13, x14, x15, .int 0, x16, x17, .int 1]))]) hP hD [0] [] rfl rfl (by decide) (by decide) hk1 hFc hP1 hD1
    have hP : va_P D vwCl [(h1, .inr (10, [x2, x3, x4, x5, x6, x7, x8, x9, x10, x11, x12, x13, x14, x15, .int 0, x16, x17, .int 1]))] H := hP
    have hD : va_D A [(h1, .inr (10, [x2, x3, x4, x5, x6, x7, x8, x9, x10, x11, x12, x13, x14, x15, .int 0, x16, x17, .int 1]))] := hD
    obtain ⟨rfl, hw⟩ := hw
    refine lv_if_eq (tgt := 26) hx hb dX8_getLevel_21 (by decide) (fun h => absurd h (by decide)) (fun _ => ?_)
    refine lv_lconst (v := 0) hx hb dX8_getLevel_24 (by decide) ?_
    refine W.widen (k := 0) (n := 0) (Nat.le_of_ble_eq_true rfl) (Nat.le_of_ble_eq_true rfl) ?_
    have hP9 := hP.sub (ws' := [(h1, .inr (10, [x2, x3, x4, x5, x6, x7, x8, x9, x10, x11, x12, x13, x14, x15, .int 0, x16, x17, .int 1]))]) [0] rfl
    have hD9 := hD.sub (ws' := [(h1, .inr (10, [x2, x3, x4, x5, x6, x7, x8, x9, x10, x11, x12, x13, x14, x15, .int 0, x16, x17, .int 1]))]) [0] (by decide) rfl
    exact W.lret (v := 0) hx hb hr (fun t ht hW => ⟨⟨0, (1), rfl, Or.inr (⟨rfl, rfl, (by omega)⟩), ⟨by rw [ht]; exact hP9, hD9⟩⟩, hS.F ht⟩) hS.2.2 dX8_getLevel_25
set_option maxHeartbeats 4000000 in
set_option maxRecDepth 100000 in
theorem k_X7_getLevel_1 (l : Launch) (hl9 : l.stackTraces = false) (D : va_G) (cy : Nat → ClassId) (h1 : Nat) (p0 : Int32) (h2 : Nat) (h3 : Nat) (x4 : Value) (x5 : Value) (x6 : Value) (h7 : Nat) (x8 : Value) (x9 : Value) (x10 : Value) (x11 : Value) (x12 : Value) (x13 : Value) (x14 : Value) (x15 : Value) : vx_Met l yX7_getLevel wsX7_getLevel ({ frames := 7, cells := 2, slots := 12, locals := 105 }) (kRX D cy [.ref h1, .int p0, .int 1] [(h1, .inr (9, [.ref h2, .ref h3, x4, x5, x6, .ref h7, x8])), (h2, .inr (2, [x9, x10, .int 0, x11])), (h3, .inr (5, [x12, x13, .int 0])), (h7, .inr (3, [x14, x15]))]) (va_Ql (fun (r : Int64) (_ : Unit) => False) (fun (_ : Unit) (_ : State) => True) (fun _ : Nat => False)) (vx_X (fun _ : Unit => True) (fun (E : String) (_ : Unit) (_ : State) => (E = "java/lang/IllegalArgumentException" ∧ ¬ (((1 : Int) ≤ p0.toInt ∧ p0.toInt ≤ (999 : Int)))) ∨ (E = "java/util/NoSuchElementException" ∧ ((1 : Int) ≤ p0.toInt ∧ p0.toInt ≤ (999 : Int)))) (fun _ : Nat => False)) 2 12 (fun _ : Nat => False) := by
  refine vx_ofW (cc := cX7_getLevel) (maxL := 3) (ret := (some .long)) (by decide) rfl ?_
  intro p e s m args below meth c s₁ B hml ht9 hv
  obtain ⟨rfl, hP, hK, hE⟩ := hv
  have hx := B.exec
  have hb := B.bytes
  have hr := B.returns
  have hts := atoms_spec (ws := wsX7_getLevel) B.pre
  have hown : s.vm.findClass RX7 = some m.cls := findClass_of_methodNamed B.named
  have hlocks := B.notSynchronized
  have hS : va_S (fun _ : Nat => False) s.heap s.heap [] := va_S.rf
  have hP : va_P D vwCl [(h1, .inr (9, [.ref h2, .ref h3, x4, x5, x6, .ref h7, x8])), (h2, .inr (2, [x9, x10, .int 0, x11])), (h3, .inr (5, [x12, x13, .int 0])), (h7, .inr (3, [x14, x15]))] s.heap := hP
  have hl := lv_entry ([.ref h1, .int p0, .int 1]) (n := 3) (Nat.le_of_ble_eq_true rfl)
  rw [lg_entry_eq]
  generalize (lg_sl ([.ref h1, .int p0, .int 1]) ++ List.replicate (3 - (lg_sl ([.ref h1, .int p0, .int 1])).length) Slot.unset).toArray = ls at hl ⊢
  have hl : lv_has ls 3 [(0, .ref h1), (1, .int p0), (2, .int 1)] := hl
  refine lv_aload_n hx hb dX7_getLevel_0 rfl (lv_at hl 0 rfl) ?_
  refine lv_iload_n hx hb dX7_getLevel_1 rfl (lv_at hl 1 rfl) ?_
  refine lv_iconst (v := 1) hx hb dX7_getLevel_2 (by decide) ?_
  refine lv_sipush (v := 999) hx hb dX7_getLevel_3 (by decide) ?_
  have hPc := hP.sub (ws' := []) [] rfl
  refine vx_callv (vx_runV (As := [.int p0, .int 1, .int 999]) (rest := []) ⟨hx, hb, hml, hown, hts⟩ (k_X7_checkRange l hl9 D cy h1 p0 1 999) (cwV 3 hts gX7_getLevel_X7_checkRange rfl rfl rfl (by decide +kernel) ⟨(Nat.le_of_ble_eq_true rfl), (Nat.le_of_ble_eq_true rfl)⟩) ⟨kRX_fb, va_recv hK hP (ci := 9) (q0 := 0) rfl rfl, (kRX_go hPc hK hE hS)⟩ rfl rfl hl.1 rfl (lv_room (Nat.le_of_ble_eq_true rfl)) dX7_getLevel_6 ⟨(Nat.le_of_ble_eq_true rfl), (Nat.le_of_ble_eq_true rfl)⟩) hS (fun _ _ h => h.elim) (fun _ h => h.elim) (fun _ _ h => h.elim) (fun E9 ce9 q9 u t H locs ht hvm hw hB hz1 hk1 hS hce hcv hcl => ?_) (fun u t H locs ht hvm hw hB hz1 hk1 hS => ?_)
  · obtain ⟨rfl, hB⟩ := hB
    have f_1 : ¬ (((1 : Int) ≤ p0.toInt ∧ p0.toInt ≤ (999 : Int))) := hB
    exact vx_out (fun x hx => (ht9 x hx).elim) hlocks hce hcv hcl (fun t ht _ => ⟨(), trivial, (Or.inl (⟨rfl, (by omega)⟩)), hS.F ht⟩) hS.2.2 (Nat.le_of_ble_eq_true rfl) (Nat.le_of_ble_eq_true rfl)
  · have hP := kx_kept hP hk1
    have f_2 : ((1 : Int) ≤ p0.toInt ∧ p0.toInt ≤ (999 : Int)) := hw
    refine lv_aload_n hx hb dX7_getLevel_9 rfl (lv_at hl 0 rfl) ?_
    refine va_get (D := D) (ci := 9) (v := .ref h7) (C := RX7) (T := TX7) (N := 7) hx hb hts (fun _ h => (List.mem_cons_of_mem _ (List.mem_append_left _ (List.mem_append_left _ (List.mem_append_left _ (List.mem_append_left _ (List.mem_append_left _ (List.mem_append_left _ (List.mem_append_left _ (List.mem_append_right _ h)))))))))) hown hK hP 0 rfl rfl 5 (by decide) (hts (.fieldLink RX7 43 "SelfishJunction" "level" "LSelfishJunction$Level;") (List.mem_cons_of_mem _ (List.mem_append_left _ (List.mem_append_left _ (List.mem_append_left _ (List.mem_append_left _ (List.mem_append_left _ (List.mem_append_left _ (List.mem_append_left _ (List.mem_append_left _ (List.mem_append_left _ (List.mem_of_getElem? (i := 2) rfl)))))))))))) (fun _ h9 => h9) rfl dX7_getLevel_10 ?_
    refine lv_aload_n hx hb dX7_getLevel_13 rfl (lv_at hl 0 rfl) ?_
    refine va_get (D := D) (ci := 9) (v := .ref h2) (C := RX7) (T := TX7) (N := 7) hx hb hts (fun _ h => (List.mem_cons_of_mem _ (List.mem_append_left _ (List.mem_append_left _ (List.mem_append_left _ (List.mem_append_left _ (List.mem_append_left _ (List.mem_append_left _ (List.mem_append_left _ (List.mem_append_right _ h)))))))))) hown hK hP 0 rfl rfl 0 (by decide) (hts (.fieldLink RX7 10 "SelfishJunction" "board" "LSelfishJunction$Board;") (List.mem_cons_of_mem _ (List.mem_append_left _ (List.mem_append_left _ (List.mem_append_left _ (List.mem_append_left _ (List.mem_append_left _ (List.mem_append_left _ (List.mem_append_left _ (List.mem_append_left _ (List.mem_append_left _ (List.mem_of_getElem? (i := 3) rfl)))))))))))) (fun _ h9 => h9) rfl dX7_getLevel_14 ?_
    refine lv_aload_n hx hb dX7_getLevel_17 rfl (lv_at hl 0 rfl) ?_
    refine va_get (D := D) (ci := 9) (v := .ref h3) (C := RX7) (T := TX7) (N := 7) hx hb hts (fun _ h => (List.mem_cons_of_mem _ (List.mem_append_left _ (List.mem_append_left _ (List.mem_append_left _ (List.mem_append_left _ (List.mem_append_left _ (List.mem_append_left _ (List.mem_append_left _ (List.mem_append_right _ h)))))))))) hown hK hP 0 rfl rfl 1 (by decide) (hts (.fieldLink RX7 19 "SelfishJunction" "now" "LSelfishJunction$Play;") (List.mem_cons_of_mem _ (List.mem_append_left _ (List.mem_append_left _ (List.mem_append_left _ (List.mem_append_left _ (List.mem_append_left _ (List.mem_append_left _ (List.mem_append_left _ (List.mem_append_left _ (List.mem_append_left _ (List.mem_of_getElem? (i := 4) rfl)))))))))))) (fun _ h9 => h9) rfl dX7_getLevel_18 ?_
    refine va_get (D := D) (ci := 5) (v := .int 0) (C := RX3) (T := TX3) (N := 3) hx hb hts (fun _ h => (List.mem_cons_of_mem _ (List.mem_append_left _ (List.mem_append_left _ (List.mem_append_left _ (List.mem_append_left _ (List.mem_append_left _ (List.mem_append_left _ (List.mem_append_right _ h))))))))) hown hK hP 2 rfl rfl 2 (by decide) (hts (.fieldLink RX7 102 "SelfishJunction$Play" "closed" "I") (List.mem_cons_of_mem _ (List.mem_append_left _ (List.mem_append_left _ (List.mem_append_left _ (List.mem_append_left _ (List.mem_append_left _ (List.mem_append_left _ (List.mem_append_left _ (List.mem_append_left _ (List.mem_append_left _ (List.mem_of_getElem? (i := 5) rfl)))))))))))) (fun _ h9 => h9) rfl dX7_getLevel_21 ?_
    refine lv_iload_n hx hb dX7_getLevel_24 rfl (lv_at hl 1 rfl) ?_
    have hPc := hP.sub (ws' := [(h7, .inr (3, [x14, x15])), (h2, .inr (2, [x9, x10, .int 0, x11]))]) [3, 1] rfl
    refine va_calli (va_runV (As := [.ref h2, .int 0, .int p0]) (rest := []) ⟨hx, hb, hml, hown, hts⟩ (k_X1_spread l D cy h7 h2 p0 (x14) (x15) (x9) (x10) (x11)) (cwV 3 hts gX7_getLevel_X1_spread rfl rfl rfl (by decide +kernel) ⟨(Nat.le_of_ble_eq_true rfl), (Nat.le_of_ble_eq_true rfl)⟩) ⟨kR_fb, va_recv hK hP (ci := 3) (q0 := 3) rfl rfl, (kR_go hPc hK)⟩ rfl rfl hl.1 rfl (lv_room (Nat.le_of_ble_eq_true rfl)) dX7_getLevel_25 ⟨(Nat.le_of_ble_eq_true rfl), (Nat.le_of_ble_eq_true rfl)⟩) hS (fun _ _ h => h.elim) (fun _ h => h.elim) (fun r9 u t H locs ht hvm hw hB hz1 hk1 hS => ?_)
    have hP := kx_kept hP hk1
    obtain ⟨rfl, hw⟩ := hw
    refine lv_if_ne (tgt := 42) hx hb dX7_getLevel_28 (by decide) (fun h => absurd (by decide) h) (fun _ => ?_)
    obtain ⟨sa9, hsa9⟩ := hE.2.1 (336, "no open resource whose delay grows evenly") (by decide +kernel)
    exact vn_throwW (own := RX7) (text := "no open resource whose delay grows evenly") (A := (fun _ : Nat => False)) hx hb hl9 hown (hts (.classLink RX7 139 "java/util/NoSuchElementException") (List.mem_cons_of_mem _ (List.mem_append_left _ (List.mem_append_left _ (List.mem_append_left _ (List.mem_append_left _ (List.mem_append_left _ (List.mem_append_left _ (List.mem_append_left _ (List.mem_append_left _ (List.mem_append_left _ (List.mem_of_getElem? (i := 0) rfl)))))))))))) (hts (.initialized "java/util/NoSuchElementException") (List.mem_cons_of_mem _ (List.mem_append_left _ (List.mem_append_left _ (List.mem_append_left _ (List.mem_append_left _ (List.mem_append_left _ (List.mem_append_left _ (List.mem_append_left _ (List.mem_append_left _ (List.mem_append_left _ (List.mem_of_getElem? (i := 1) rfl)))))))))))) hsa9 (ex_hatN hE (fun w h => hts w (List.mem_cons_of_mem _ (List.mem_append_left _ (List.mem_append_left _ (List.mem_append_right _ h))))) (by decide +kernel)) (by decide +kernel) hE.1.1 hE.1.2 hS (by rw [hml]; exact hl.1) dX7_getLevel_31 dX7_getLevel_34 dX7_getLevel_35 dX7_getLevel_38 dX7_getLevel_41 (fun x hx => (ht9 x hx).elim) (Nat.le_of_ble_eq_true rfl) (Nat.le_of_ble_eq_true rfl) (Nat.le_of_ble_eq_true rfl) (Nat.le_of_ble_eq_true rfl) hlocks (fun t hal hz hk => ⟨(), trivial, (Or.inr (⟨rfl, (by omega)⟩)), kx_thr hS hz hk⟩) hS.2.2 (Nat.le_of_ble_eq_true rfl) (Nat.le_of_ble_eq_true rfl)
set_option maxHeartbeats 4000000 in
set_option maxRecDepth 100000 in
theorem k_L_getLevel_1 (l : Launch) (hl9 : l.stackTraces = false) (D : va_G) (cy : Nat → ClassId) (h1 : Nat) (p1 : Int32) (h2 : Nat) (h3 : Nat) (h4 : Nat) (x5 : Value) (x6 : Value) (x7 : Value) (h8 : Nat) (x9 : Value) (x10 : Value) (x11 : Value) (x12 : Value) (x13 : Value) (x14 : Value) (x15 : Value) (x16 : Value) : Met l yL_getLevel wsL_getLevel ({ frames := 8, cells := 2, slots := 12, locals := 127 }) (kRX D cy [.ref h1, .int p1, .int 1, .ref h2] [(h1, .inr (9, [.ref h3, .ref h4, x5, x6, x7, .ref h8, x9])), (h3, .inr (2, [x10, x11, .int 0, x12])), (h4, .inr (5, [x13, x14, .int 0])), (h8, .inr (3, [x15, x16]))]) (va_Qi (fun (r : Int32) (_ : Unit) => ((r = 1 ∧ ¬ (((1 : Int) ≤ p1.toInt ∧ p1.toInt ≤ (999 : Int)))) ∨ (r = 2 ∧ ((1 : Int) ≤ p1.toInt ∧ p1.toInt ≤ (999 : Int))))) (fun (_ : Unit) (_ : State) => True) (fun _ : Nat => False)) 2 12 (fun _ : Nat => False) := by
  refine va_MetW (cc := cL_getLevel) (maxL := 5) (ret := (some .int)) (by decide) rfl ?_
  intro p e s m args below meth c s₁ B hml hv
  obtain ⟨rfl, hP, hK, hE⟩ := hv
  have hx := B.exec
  have hb := B.bytes
  have hr := B.returns
  have hts := atoms_spec (ws := wsL_getLevel) B.pre
  have hown : s.vm.findClass RL = some m.cls := findClass_of_methodNamed B.named
  have hlocks := B.notSynchronized
  have htb := vx_table (x := yL_getLevel) B (hts _ (List.mem_cons_self))
  have hS : va_S (fun _ : Nat => False) s.heap s.heap [] := va_S.rf
  have hP : va_P D vwCl [(h1, .inr (9, [.ref h3, .ref h4, x5, x6, x7, .ref h8, x9])), (h3, .inr (2, [x10, x11, .int 0, x12])), (h4, .inr (5, [x13, x14, .int 0])), (h8, .inr (3, [x15, x16]))] s.heap := hP
  have hl := lv_entry ([.ref h1, .int p1, .int 1, .ref h2]) (n := 5) (Nat.le_of_ble_eq_true rfl)
  rw [lg_entry_eq]
  generalize (lg_sl ([.ref h1, .int p1, .int 1, .ref h2]) ++ List.replicate (5 - (lg_sl ([.ref h1, .int p1, .int 1, .ref h2])).length) Slot.unset).toArray = ls at hl ⊢
  have hl : lv_has ls 5 [(0, .ref h1), (1, .int p1), (2, .int 1), (3, .ref h2)] := hl
  refine lv_aload_n hx hb dL_getLevel_0 rfl (lv_at hl 3 rfl) ?_
  refine lv_iconst (v := 0) hx hb dL_getLevel_1 (by decide) ?_
  refine lv_aload_n hx hb dL_getLevel_2 rfl (lv_at hl 0 rfl) ?_
  refine lv_iload_n hx hb dL_getLevel_3 rfl (lv_at hl 1 rfl) ?_
  refine lv_iload_n hx hb dL_getLevel_4 rfl (lv_at hl 2 rfl) ?_
  have hPc := hP.sub (ws' := [(h1, .inr (9, [.ref h3, .ref h4, x5, x6, x7, .ref h8, x9])), (h3, .inr (2, [x10, x11, .int 0, x12])), (h4, .inr (5, [x13, x14, .int 0])), (h8, .inr (3, [x15, x16]))]) [0, 1, 2, 3] rfl
  refine vx_calll (vx_runV (As := [.int p1, .int 1]) (rest := [.int 0, .ref h2]) ⟨hx, hb, hml, hown, hts⟩ (k_X7_getLevel_1 l hl9 D cy h1 p1 h3 h4 (x5) (x6) (x7) h8 (x9) (x10) (x11) (x12) (x13) (x14) (x15) (x16)) (cwV 2 hts gL_getLevel_X7_getLevel rfl rfl rfl (by decide +kernel) ⟨(Nat.le_of_ble_eq_true rfl), (Nat.le_of_ble_eq_true rfl)⟩) ⟨kRX_fb, va_recv hK hP (ci := 9) (q0 := 0) rfl rfl, (kRX_go hPc hK hE hS)⟩ rfl rfl hl.1 rfl (lv_room (Nat.le_of_ble_eq_true rfl)) dL_getLevel_5 ⟨(Nat.le_of_ble_eq_true rfl), (Nat.le_of_ble_eq_true rfl)⟩) hS (fun _ _ h => h.elim) (fun _ h => h.elim) (fun _ _ h => h.elim) (fun E9 ce9 q9 u t H locs ht hvm hw hB hz1 hk1 hS hce hcv hcl => ?_) (fun r9 u t H locs ht hvm hw hB hz1 hk1 hS => ?_)
  · rcases hB with ⟨rfl, hB⟩ | ⟨rfl, hB⟩
    · have f_1 : ¬ (((1 : Int) ≤ p1.toInt ∧ p1.toInt ≤ (999 : Int))) := hB
      have hP := kx_kept hP hk1
      refine vx_catch (E := "java/lang/IllegalArgumentException") (name := "java/lang/IllegalArgumentException") hown [] (⟨0, 9, 12, 13⟩ : ExceptionTableEntry) [(⟨0, 9, 16, 36⟩ : ExceptionTableEntry)] htb (fun _ h => absurd h List.not_mem_nil) rfl (by decide) (hts (.classLink RL 13 "java/lang/IllegalArgumentException") (List.mem_cons_of_mem _ (List.mem_append_left _ (List.mem_append_left _ (List.mem_append_left _ (List.mem_append_left _ (List.mem_append_left _ (List.mem_append_left _ (List.mem_append_left _ (List.mem_append_left _ (List.mem_append_left _ (List.mem_append_left _ (List.mem_of_getElem? (i := 0) rfl))))))))))))) (exP.cast hE "java/lang/IllegalArgumentException" (by decide +kernel)) hce hcv hcl ?_
      refine lv_astore (lv' := [(4, .ref q9), (0, .ref h1), (1, .int p1), (2, .int 1), (3, .ref h2)]) hx hb dL_getLevel_12 hl (by decide) rfl (fun ls hl => ?_)
      refine lv_iconst (v := 1) hx hb dL_getLevel_14 (by decide) ?_
      refine W.widen (k := 2) (n := 12) (Nat.le_of_ble_eq_true rfl) (Nat.le_of_ble_eq_true rfl) ?_
      exact W.iret (v := 1) hx hb hr (fun t ht hW => ⟨⟨1, (), rfl, Or.inl (⟨rfl, (by omega)⟩), trivial⟩, hS.F ht⟩) hS.2.2 dL_getLevel_15
    · have f_2 : ((1 : Int) ≤ p1.toInt ∧ p1.toInt ≤ (999 : Int)) := hB
      have hP := kx_kept hP hk1
      refine vx_catch (E := "java/util/NoSuchElementException") (name := "java/util/NoSuchElementException") hown [(⟨0, 9, 12, 13⟩ : ExceptionTableEntry)] (⟨0, 9, 16, 36⟩ : ExceptionTableEntry) [] htb (List.forall_mem_cons.mpr ⟨Or.inr ⟨by decide, "java/lang/IllegalArgumentException", (hts (.classLink RL 13 "java/lang/IllegalArgumentException") (List.mem_cons_of_mem _ (List.mem_append_left _ (List.mem_append_left _ (List.mem_append_left _ (List.mem_append_left _ (List.mem_append_left _ (List.mem_append_left _ (List.mem_append_left _ (List.mem_append_left _ (List.mem_append_left _ (List.mem_append_left _ (List.mem_of_getElem? (i := 0) rfl))))))))))))), exP.nc hE "java/util/NoSuchElementException" "java/lang/IllegalArgumentException" (by decide +kernel) (by decide +kernel) (by decide +kernel)⟩, (fun _ h => absurd h List.not_mem_nil)⟩) rfl (by decide) (hts (.classLink RL 36 "java/util/NoSuchElementException") (List.mem_cons_of_mem _ (List.mem_append_left _ (List.mem_append_left _ (List.mem_append_left _ (List.mem_append_left _ (List.mem_append_left _ (List.mem_append_left _ (List.mem_append_left _ (List.mem_append_left _ (List.mem_append_left _ (List.mem_append_left _ (List.mem_of_getElem? (i := 1) rfl))))))))))))) (exP.cast hE "java/util/NoSuchElementException" (by decide +kernel)) hce hcv hcl ?_
      refine lv_astore (lv' := [(4, .ref q9), (0, .ref h1), (1, .int p1), (2, .int 1), (3, .ref h2)]) hx hb dL_getLevel_16 hl (by decide) rfl (fun ls hl => ?_)
      refine lv_iconst (v := 2) hx hb dL_getLevel_18 (by decide) ?_
      refine W.widen (k := 2) (n := 12) (Nat.le_of_ble_eq_true rfl) (Nat.le_of_ble_eq_true rfl) ?_
      exact W.iret (v := 2) hx hb hr (fun t ht hW => ⟨⟨2, (), rfl, Or.inr (⟨rfl, (by omega)⟩), trivial⟩, hS.F ht⟩) hS.2.2 dL_getLevel_19
  · exact (show False from hw).elim
set_option maxHeartbeats 4000000 in
set_option maxRecDepth 100000 in
theorem k_X8_getLevel_1 (l : Launch) (D : va_G) (cy : Nat → ClassId) (h1 : Nat) (p0 : Int32) (x2 : Value) (x3 : Value) (x4 : Value) (x5 : Value) (x6 : Value) (x7 : Value) (x8 : Value) (x9 : Value) (x10 : Value) (x11 : Value) (x12 : Value) (x13 : Value) (x14 : Value) (x15 : Value) (x16 : Value) (x17 : Value) (x18 : Value) (sz : Nat) : Met l yX8_getLevel wsX8_getLevel ({ frames := 1, cells := 0, slots := 0, locals := 22 }) (kW D cy [.ref h1, .int p0, .int 1] [(h1, .inr (10, [x2, x3, x4, x5, x6, x7, x8, x9, x10, x11, x12, x13, x14, x15, .int 0, x16, x17, x18]))] sz) (va_Ql (fun (r : Int64) (u : Int32) => match u with | y1 => ((r = 0 ∧ (y1 = 2) ∧ ((1 : Int) ≤ p0.toInt ∧ p0.toInt ≤ (999 : Int))) ∨ (r = 0 ∧ (y1 = 1) ∧ ¬ (((1 : Int) ≤ p0.toInt ∧ p0.toInt ≤ (999 : Int)))))) (fun (u : Int32) (t : State) => match u with | y1 => va_P D vwCl [(h1, .inr (10, [x2, x3, x4, x5, x6, x7, x8, x9, x10, x11, x12, x13, x14, x15, .int 0, x16, x17, .int y1]))] t.heap ∧ va_D (va_A [(h1, .inr (10, [x2, x3, x4, x5, x6, x7, x8, x9, x10, x11, x12, x13, x14, x15, .int 0, x16, x17, x18]))] sz) [(h1, .inr (10, [x2, x3, x4, x5, x6, x7, x8, x9, x10, x11, x12, x13, x14, x15, .int 0, x16, x17, .int y1]))]) (va_A [(h1, .inr (10, [x2, x3, x4, x5, x6, x7, x8, x9, x10, x11, x12, x13, x14, x15, .int 0, x16, x17, x18]))] sz)) 0 0 (va_A [(h1, .inr (10, [x2, x3, x4, x5, x6, x7, x8, x9, x10, x11, x12, x13, x14, x15, .int 0, x16, x17, x18]))] sz) := by
  refine Met.ofW (cc := cX8_getLevel) (maxL := 18) (ret := (some .long)) (by decide) rfl ?_
  intro p e s m args below meth c s₁ B hml hv
  obtain ⟨rfl, hsz, hP, hK, hD0⟩ := hv
  have hx := B.exec
  have hb := B.bytes
  have hr := B.returns
  have hts := atoms_spec (ws := wsX8_getLevel) B.pre
  have hown : s.vm.findClass RX8 = some m.cls := findClass_of_methodNamed B.named
  have hlocks := B.notSynchronized
  subst hsz
  have hD := hD0.self (sz := s.heap.size)
  generalize hAe : va_A [(h1, .inr (10, [x2, x3, x4, x5, x6, x7, x8, x9, x10, x11, x12, x13, x14, x15, .int 0, x16, x17, x18]))] s.heap.size = A at hD ⊢
  have hA : ∀ q : Nat, s.heap.size ≤ q → A q := fun q h => by rw [← hAe]; exact Or.inr h
  have hS : va_S A s.heap s.heap [] := va_S.rf
  have hP : va_P D vwCl [(h1, .inr (10, [x2, x3, x4, x5, x6, x7, x8, x9, x10, x11, x12, x13, x14, x15, .int 0, x16, x17, x18]))] s.heap := hP
  have hl := lv_entry ([.ref h1, .int p0, .int 1]) (n := 18) (Nat.le_of_ble_eq_true rfl)
  rw [lg_entry_eq]
  generalize (lg_sl ([.ref h1, .int p0, .int 1]) ++ List.replicate (18 - (lg_sl ([.ref h1, .int p0, .int 1])).length) Slot.unset).toArray = ls at hl ⊢
  have hl : lv_has ls 18 [(0, .ref h1), (1, .int p0), (2, .int 1)] := hl
  refine lv_aload_n hx hb dX8_getLevel_0 rfl (lv_at hl 0 rfl) ?_
  refine lv_iload_n hx hb dX8_getLevel_1 rfl (lv_at hl 1 rfl) ?_
  refine lv_iconst (v := 1) hx hb dX8_getLevel_2 (by decide) ?_
  refine lv_sipush (v := 999) hx hb dX8_getLevel_3 (by decide) ?_
  have hPc := hP.sub (ws' := []) [] rfl
  refine va_calli (va_runS (As := [.int p0, .int 1, .int 999]) (rest := [.ref h1]) ⟨hx, hb, hml, hown, hts⟩ (k_X8_isIn l D cy p0 1 999) (va_cwS 3 hts gX8_getLevel_X8_isIn rfl rfl rfl (by decide +kernel) ⟨(Nat.le_of_ble_eq_true rfl), (Nat.le_of_ble_eq_true rfl)⟩) ⟨kR_fb, (kR_go hPc hK)⟩ rfl rfl hl.1 rfl (lv_room (Nat.le_of_ble_eq_true rfl)) dX8_getLevel_6 ⟨(Nat.le_of_ble_eq_true rfl), (Nat.le_of_ble_eq_true rfl)⟩) hS (fun _ _ h => h.elim) (fun _ h => h.elim) (fun r9 u t H locs ht hvm hw hB hz1 hk1 hS => ?_)
  have hP := kx_kept hP hk1
  rcases hw with ⟨rfl, hw⟩ | ⟨rfl, hw⟩
  · have f_1 : ((1 : Int) ≤ p0.toInt ∧ p0.toInt ≤ (999 : Int)) := hw
    refine lv_if_ne (tgt := 16) hx hb dX8_getLevel_9 (by decide) (fun _ => ?_) (fun h => absurd h (by decide))
    refine lv_iconst (v := 0) hx hb dX8_getLevel_16 (by decide) ?_
    refine lv_iconst (v := 1) hx hb dX8_getLevel_17 (by decide) ?_
    have hPc := hP.sub (ws' := [(h1, .inr (10, [x2, x3, x4, x5, x6, x7, x8, x9, x10, x11, x12, x13, x14, x15, .int 0, x16, x17, x18]))]) [0] rfl
    have hDc := hD.sub (ws' := [(h1, .inr (10, [x2, x3, x4, x5, x6, x7, x8, x9, x10, x11, x12, x13, x14, x15, .int 0, x16, x17, x18]))]) [0] (by decide) rfl
    have hFc := va_free (wc := [(h1, .inr (10, [x2, x3, x4, x5, x6, x7, x8, x9, x10, x11, x12, x13, x14, x15, .int 0, x16, x17, x18]))]) hD hS hA [0] rfl
    refine va_calli (va_runV (As := [.int 0, .int 1]) (rest := []) ⟨hx, hb, hml, hown, hts⟩ (k_X8_isThrown_1 l D cy h1 (x2) (x3) (x4) (x5) (x6) (x7) (x8) (x9) (x10) (x11) (x12) (x13) (x14) (x15) (.int 0) (x16) (x17) (x18) H.size) (cwV 2 hts gX8_getLevel_X8_isThrown rfl rfl rfl (by decide +kernel) ⟨(Nat.le_of_ble_eq_true rfl), (Nat.le_of_ble_eq_true rfl)⟩) ⟨kW_fb, va_recv hK hP (ci := 10) (q0 := 0) rfl rfl, (kW_go hPc hK hDc)⟩ rfl rfl hl.1 rfl (lv_room (Nat.le_of_ble_eq_true rfl)) dX8_getLevel_18 ⟨(Nat.le_of_ble_eq_true rfl), (Nat.le_of_ble_eq_true rfl)⟩) hS (fun q _ h => hFc q h) hFc (fun r9 u t H locs ht hvm hw hB hz1 hk1 hS => ?_)
    obtain ⟨hP1, hD1⟩ := hB
    rw [ht] at hP1
    try dsimp only at hw hP1 hD1
    obtain ⟨hP, hD⟩ := va_join (wr := []) (w1 := [(h1, .inr (10, [x2, x3, x4, x5, x6, x7, x8, x9, x10, x11, x12, x13, x14, x15, .int 0, x16, x17, .int 0]))]) hP hD [0] [] rfl rfl (by decide) (by decide) hk1 hFc hP1 hD1
    have hP : va_P D vwCl [(h1, .inr (10, [x2, x3, x4, x5, x6, x7, x8, x9, x10, x11, x12, x13, x14, x15, .int 0, x16, x17, .int 0]))] H := hP
    have hD : va_D A [(h1, .inr (10, [x2, x3, x4, x5, x6, x7, x8, x9, x10, x11, x12, x13, x14, x15, .int 0, x16, x17, .int 0]))] := hD
    obtain ⟨rfl, hw⟩ := hw
    refine lv_if_eq (tgt := 26) hx hb dX8_getLevel_21 (by decide) (fun _ => ?_) (fun h => absurd (by decide) h)
    refine lv_lconst (v := 1) hx hb dX8_getLevel_26 (by decide) ?_
    refine lv_lstore_n (lv' := [(3, .long 1), (0, .ref h1), (1, .int p0), (2, .int 1)]) hx hb dX8_getLevel_27 rfl hl (by decide) rfl (fun ls hl => ?_)
    refine lv_iconst (v := 0) hx hb dX8_getLevel_28 (by decide) ?_
    refine lv_istore (lv' := [(5, .int 0), (3, .long 1), (0, .ref h1), (1, .int p0), (2, .int 1)]) hx hb dX8_getLevel_29 hl (by decide) rfl (fun ls hl => ?_)
    refine lv_iconst (v := 0) hx hb dX8_getLevel_31 (by decide) ?_
    refine lv_istore (lv' := [(6, .int 0), (5, .int 0), (3, .long 1), (0, .ref h1), (1, .int p0), (2, .int 1)]) hx hb dX8_getLevel_32 hl (by decide) rfl (fun ls hl => ?_)
    refine lv_iload hx hb dX8_getLevel_34 (lv_at hl 0 rfl) ?_
    refine lv_aload_n hx hb dX8_getLevel_36 rfl (lv_at hl 3 rfl) ?_
    refine va_get (D := D) (ci := 10) (v := .int 0) (C := RX8) (T := TX8) (N := 18) hx hb hts (fun _ h => (List.mem_cons_of_mem _ (List.mem_append_left _ (List.mem_append_left _ (List.mem_append_right _ h))))) hown hK hP 0 rfl rfl 14 (by decide) (hts (.fieldLink RX8 62 "SelfishJunctionModel" "resources" "I") (List.mem_cons_of_mem _ (List.mem_append_left _ (List.mem_append_left _ (List.mem_append_left _ (List.mem_of_getElem? (i := 0) rfl)))))) (fun _ h9 => h9) rfl dX8_getLevel_37 ?_
    refine lv_icmp_ge (tgt := 125) hx hb dX8_getLevel_40 (by decide) (fun _ => ?_) (fun h => absurd (by decide) h)
    refine lv_aload_n hx hb dX8_getLevel_125 rfl (lv_at hl 3 rfl) ?_
    refine lv_iload hx hb dX8_getLevel_126 (lv_at hl 1 rfl) ?_
    refine lv_if_ne (tgt := 135) hx hb dX8_getLevel_128 (by decide) (fun h => absurd (by decide) h) (fun _ => ?_)
    refine lv_iconst (v := 1) hx hb dX8_getLevel_131 (by decide) ?_
    refine lv_goto (tgt := 136) hx hb dX8_getLevel_132 (by decide) ?_
    refine lv_iconst (v := 2) hx hb dX8_getLevel_136 (by decide) ?_
    have hPc := hP.sub (ws' := [(h1, .inr (10, [x2, x3, x4, x5, x6, x7, x8, x9, x10, x11, x12, x13, x14, x15, .int 0, x16, x17, .int 0]))]) [0] rfl
    have hDc := hD.sub (ws' := [(h1, .inr (10, [x2, x3, x4, x5, x6, x7, x8, x9, x10, x11, x12, x13, x14, x15, .int 0, x16, x17, .int 0]))]) [0] (by decide) rfl
    have hFc := va_free (wc := [(h1, .inr (10, [x2, x3, x4, x5, x6, x7, x8, x9, x10, x11, x12, x13, x14, x15, .int 0, x16, x17, .int 0]))]) hD hS hA [0] rfl
    refine va_calli (va_runV (As := [.int 1, .int 2]) (rest := []) ⟨hx, hb, hml, hown, hts⟩ (k_X8_isThrown_3 l D cy h1 (x2) (x3) (x4) (x5) (x6) (x7) (x8) (x9) (x10) (x11) (x12) (x13) (x14) (x15) (.int 0) (x16) (x17) (.int 0) H.size) (cwV 2 hts gX8_getLevel_X8_isThrown rfl rfl rfl (by decide +kernel) ⟨(Nat.le_of_ble_eq_true rfl), (Nat.le_of_ble_eq_true rfl)⟩) ⟨kW_fb, va_recv hK hP (ci := 10) (q0 := 0) rfl rfl, (kW_go hPc hK hDc)⟩ rfl rfl hl.1 rfl (lv_room (Nat.le_of_ble_eq_true rfl)) dX8_getLevel_137 ⟨(Nat.le_of_ble_eq_true rfl), (Nat.le_of_ble_eq_true rfl)⟩) hS (fun q _ h => hFc q h) hFc (fun r9 u t H locs ht hvm hw hB hz1 hk1 hS => ?_)
    obtain ⟨hP1, hD1⟩ := hB
    rw [ht] at hP1
    try dsimp only at hw hP1 hD1
    obtain ⟨hP, hD⟩ := va_join (wr := []) (w1 := [(h1, .inr (10, [x2, x3, x4, x5, x6, x7, x8, x9, x10, x11, x12, x13, x14, x15, .int 0, x16, x17, .int 2]))]) hP hD [0] [] rfl rfl (by decide) (by decide) hk1 hFc hP1 hD1
    have hP : va_P D vwCl [(h1, .inr (10, [x2, x3, x4, x5, x6, x7, x8, x9, x10, x11, x12, x13, x14, x15, .int 0, x16, x17, .int 2]))] H := hP
    have hD : va_D A [(h1, .inr (10, [x2, x3, x4, x5, x6, x7, x8, x9, x10, x11, x12, x13, x14, x15, .int 0, x16, x17, .int 2]))] := hD
    obtain ⟨rfl, hw⟩ := hw
    refine lv_if_eq (tgt := 145) hx hb dX8_getLevel_140 (by decide) (fun h => absurd h (by decide)) (fun _ => ?_)
    refine lv_lconst (v := 0) hx hb dX8_getLevel_143 (by decide) ?_
    refine W.widen (k := 0) (n := 0) (Nat.le_of_ble_eq_true rfl) (Nat.le_of_ble_eq_true rfl) ?_
    have hP9 := hP.sub (ws' := [(h1, .inr (10, [x2, x3, x4, x5, x6, x7, x8, x9, x10, x11, x12, x13, x14, x15, .int 0, x16, x17, .int 2]))]) [0] rfl
    have hD9 := hD.sub (ws' := [(h1, .inr (10, [x2, x3, x4, x5, x6, x7, x8, x9, x10, x11, x12, x13, x14, x15, .int 0, x16, x17, .int 2]))]) [0] (by decide) rfl
    exact W.lret (v := 0) hx hb hr (fun t ht hW => ⟨⟨0, (2), rfl, Or.inl (⟨rfl, rfl, (by omega)⟩), ⟨by rw [ht]; exact hP9, hD9⟩⟩, hS.F ht⟩) hS.2.2 dX8_getLevel_144
  · have f_4 : ¬ (((1 : Int) ≤ p0.toInt ∧ p0.toInt ≤ (999 : Int))) := hw
    refine lv_if_ne (tgt := 16) hx hb dX8_getLevel_9 (by decide) (fun h => absurd (by decide) h) (fun _ => ?_)
    refine lv_iconst (v := 1) hx hb dX8_getLevel_12 (by decide) ?_
    refine lv_goto (tgt := 17) hx hb dX8_getLevel_13 (by decide) ?_
    refine lv_iconst (v := 1) hx hb dX8_getLevel_17 (by decide) ?_
    have hPc := hP.sub (ws' := [(h1, .inr (10, [x2, x3, x4, x5, x6, x7, x8, x9, x10, x11, x12, x13, x14, x15, .int 0, x16, x17, x18]))]) [0] rfl
    have hDc := hD.sub (ws' := [(h1, .inr (10, [x2, x3, x4, x5, x6, x7, x8, x9, x10, x11, x12, x13, x14, x15, .int 0, x16, x17, x18]))]) [0] (by decide) rfl
    have hFc := va_free (wc := [(h1, .inr (10, [x2, x3, x4, x5, x6, x7, x8, x9, x10, x11, x12, x13, x14, x15, .int 0, x16, x17, x18]))]) hD hS hA [0] rfl
    refine va_calli (va_runV (As := [.int 1, .int 1]) (rest := []) ⟨hx, hb, hml, hown, hts⟩ (k_X8_isThrown l D cy h1 (x2) (x3) (x4) (x5) (x6) (x7) (x8) (x9) (x10) (x11) (x12) (x13) (x14) (x15) (.int 0) (x16) (x17) (x18) H.size) (cwV 2 hts gX8_getLevel_X8_isThrown rfl rfl rfl (by decide +kernel) ⟨(Nat.le_of_ble_eq_true rfl), (Nat.le_of_ble_eq_true rfl)⟩) ⟨kW_fb, va_recv hK hP (ci := 10) (q0 := 0) rfl rfl, (kW_go hPc hK hDc)⟩ rfl rfl hl.1 rfl (lv_room (Nat.le_of_ble_eq_true rfl)) dX8_getLevel_18 ⟨(Nat.le_of_ble_eq_true rfl), (Nat.le_of_ble_eq_true rfl)⟩) hS (fun q _ h => hFc q h) hFc (fun r9 u t H locs ht hvm hw hB hz1 hk1 hS => ?_)
    obtain ⟨hP1, hD1⟩ := hB
    rw [ht] at hP1
    try dsimp only at hw hP1 hD1
    obtain ⟨hP, hD⟩ := va_join (wr := []) (w1 := [(h1, .inr (10, [x2, x3, x4, x5, x6, x7, x8, x9, x10, x11, x12, x13, x14, x15, .int 0, x16, x17, .int 1]))]) hP hD [0] [] rfl rfl (by decide) (by decide) hk1 hFc hP1 hD1
    have hP : va_P D vwCl [(h1, .inr (10, [x2, x3, x4, x5, x6, x7, x8, x9, x10, x11, x12, x13, x14, x15, .int 0, x16, x17, .int 1]))] H := hP
    have hD : va_D A [(h1, .inr (10, [x2, x3, x4, x5, x6, x7, x8, x9, x10, x11, x12, x13, x14, x15, .int 0, x16, x17, .int 1]))] := hD
    obtain ⟨rfl, hw⟩ := hw
    refine lv_if_eq (tgt := 26) hx hb dX8_getLevel_21 (by decide) (fun h => absurd h (by decide)) (fun _ => ?_)
    refine lv_lconst (v := 0) hx hb dX8_getLevel_24 (by decide) ?_
    refine W.widen (k := 0) (n := 0) (Nat.le_of_ble_eq_true rfl) (Nat.le_of_ble_eq_true rfl) ?_
    have hP9 := hP.sub (ws' := [(h1, .inr (10, [x2, x3, x4, x5, x6, x7, x8, x9, x10, x11, x12, x13, x14, x15, .int 0, x16, x17, .int 1]))]) [0] rfl
    have hD9 := hD.sub (ws' := [(h1, .inr (10, [x2, x3, x4, x5, x6, x7, x8, x9, x10, x11, x12, x13, x14, x15, .int 0, x16, x17, .int 1]))]) [0] (by decide) rfl
    exact W.lret (v := 0) hx hb hr (fun t ht hW => ⟨⟨0, (1), rfl, Or.inr (⟨rfl, rfl, (by omega)⟩), ⟨by rw [ht]; exact hP9, hD9⟩⟩, hS.F ht⟩) hS.2.2 dX8_getLevel_25
theorem dX7_checksum_0 : decode cX7_checksum 0 = .ok (.ldc2_w 351, 3) := by decide +kernel
theorem dX7_checksum_3 : decode cX7_checksum 3 = .ok (.lstore_n 1, 1) := by decide +kernel
theorem dX7_checksum_4 : decode cX7_checksum 4 = .ok (.iconst 0, 1) := by decide +kernel
theorem dX7_checksum_5 : decode cX7_checksum 5 = .ok (.istore_n 3, 1) := by decide +kernel
theorem dX7_checksum_6 : decode cX7_checksum 6 = .ok (.iload_n 3, 1) := by decide +kernel
theorem dX7_checksum_7 : decode cX7_checksum 7 = .ok (.aload_n 0, 1) := by decide +kernel
theorem dX7_checksum_8 : decode cX7_checksum 8 = .ok (.getfield 10, 3) := by decide +kernel
theorem dX7_checksum_11 : decode cX7_checksum 11 = .ok (.getfield 281, 3) := by decide +kernel
theorem dX7_checksum_14 : decode cX7_checksum 14 = .ok (.if_icmp .ge 46, 3) := by decide +kernel
theorem dX7_checksum_60 : decode cX7_checksum 60 = .ok (.iconst 0, 1) := by decide +kernel
theorem dX7_checksum_61 : decode cX7_checksum 61 = .ok (.istore_n 3, 1) := by decide +kernel
theorem dX7_checksum_62 : decode cX7_checksum 62 = .ok (.iload_n 3, 1) := by decide +kernel
theorem dX7_checksum_63 : decode cX7_checksum 63 = .ok (.aload_n 0, 1) := by decide +kernel
theorem dX7_checksum_64 : decode cX7_checksum 64 = .ok (.getfield 10, 3) := by decide +kernel
theorem dX7_checksum_67 : decode cX7_checksum 67 = .ok (.getfield 92, 3) := by decide +kernel
theorem dX7_checksum_70 : decode cX7_checksum 70 = .ok (.if_icmp .ge 46, 3) := by decide +kernel
theorem dX7_checksum_116 : decode cX7_checksum 116 = .ok (.ldc2_w 353, 3) := by decide +kernel
theorem dX7_checksum_119 : decode cX7_checksum 119 = .ok (.lload_n 1, 1) := by decide +kernel
theorem dX7_checksum_120 : decode cX7_checksum 120 = .ok (.lmul, 1) := by decide +kernel
theorem dX7_checksum_121 : decode cX7_checksum 121 = .ok (.aload_n 0, 1) := by decide +kernel
theorem dX7_checksum_122 : decode cX7_checksum 122 = .ok (.getfield 47, 3) := by decide +kernel
theorem dX7_checksum_125 : decode cX7_checksum 125 = .ok (.i2l, 1) := by decide +kernel
theorem dX7_checksum_126 : decode cX7_checksum 126 = .ok (.ladd, 1) := by decide +kernel
theorem dX7_checksum_127 : decode cX7_checksum 127 = .ok (.lreturn, 1) := by decide +kernel
set_option maxHeartbeats 4000000 in
set_option maxRecDepth 100000 in
theorem k_X7_checksum (l : Launch) (D : va_G) (cy : Nat → ClassId) (h1 : Nat) (h2 : Nat) (x3 : Value) (x4 : Value) (x5 : Value) (x6 : Value) (x7 : Value) (x8 : Value) (x9 : Value) : Met l yX7_checksum wsX7_checksum ({ frames := 0, cells := 0, slots := 0, locals := 0 }) (kR D cy [.ref h1] [(h1, .inr (9, [.ref h2, x3, x4, x5, x6, x7, .int 1])), (h2, .inr (2, [x8, x9, .int 0, .int 0]))]) (va_Ql (fun (r : Int64) (_ : Unit) => r = 218 ∧ True) (fun (_ : Unit) (_ : State) => True) (fun _ : Nat => False)) 0 0 (fun _ : Nat => False) := by
  refine Met.ofW (cc := cX7_checksum) (maxL := 4) (ret := (some .long)) (by decide) rfl ?_
  intro p e s m args below meth c s₁ B hml hv
  obtain ⟨rfl, hP, hK⟩ := hv
  have hx := B.exec
  have hb := B.bytes
  have hr := B.returns
  have hts := atoms_spec (ws := wsX7_checksum) B.pre
  have hown : s.vm.findClass RX7 = some m.cls := findClass_of_methodNamed B.named
  have hlocks := B.notSynchronized
  have hS : va_S (fun _ : Nat => False) s.heap s.heap [] := va_S.rf
  have hP : va_P D vwCl [(h1, .inr (9, [.ref h2, x3, x4, x5, x6, x7, .int 1])), (h2, .inr (2, [x8, x9, .int 0, .int 0]))] s.heap := hP
  have hl := lv_entry ([.ref h1]) (n := 4) (Nat.le_of_ble_eq_true rfl)
  rw [lg_entry_eq]
  generalize (lg_sl ([.ref h1]) ++ List.replicate (4 - (lg_sl ([.ref h1])).length) Slot.unset).toArray = ls at hl ⊢
  have hl : lv_has ls 4 [(0, .ref h1)] := hl
  refine lv_ldc2 (v := 7) hx hb hown (hts (.constantLong RX7 351 (7)) (List.mem_cons_of_mem _ (List.mem_append_left _ (List.mem_append_left _ (List.mem_append_left _ (List.mem_append_left _ (List.mem_append_left _ (List.mem_append_left _ (List.mem_append_left _ (List.mem_of_getElem? (i := 0) rfl)))))))))) dX7_checksum_0 ?_
  refine lv_lstore_n (lv' := [(1, .long 7), (0, .ref h1)]) hx hb dX7_checksum_3 rfl hl (by decide) rfl (fun ls hl => ?_)
  refine lv_iconst (v := 0) hx hb dX7_checksum_4 (by decide) ?_
  refine lv_istore_n (lv' := [(3, .int 0), (1, .long 7), (0, .ref h1)]) hx hb dX7_checksum_5 rfl hl (by decide) rfl (fun ls hl => ?_)
  refine lv_iload_n hx hb dX7_checksum_6 rfl (lv_at hl 0 rfl) ?_
  refine lv_aload_n hx hb dX7_checksum_7 rfl (lv_at hl 2 rfl) ?_
  refine va_get (D := D) (ci := 9) (v := .ref h2) (C := RX7) (T := TX7) (N := 7) hx hb hts (fun _ h => (List.mem_cons_of_mem _ (List.mem_append_left _ (List.mem_append_left _ (List.mem_append_left _ (List.mem_append_left _ (List.mem_append_left _ (List.mem_append_right _ h)))))))) hown hK hP 0 rfl rfl 0 (by decide) (hts (.fieldLink RX7 10 "SelfishJunction" "board" "LSelfishJunction$Board;") (List.mem_cons_of_mem _ (List.mem_append_left _ (List.mem_append_left _ (List.mem_append_left _ (List.mem_append_left _ (List.mem_append_left _ (List.mem_append_left _ (List.mem_append_left _ (List.mem_of_getElem? (i := 1) rfl)))))))))) (fun _ h9 => h9) rfl dX7_checksum_8 ?_
  refine va_get (D := D) (ci := 2) (v := .int 0) (C := RX0) (T := TX0) (N := 4) hx hb hts (fun _ h => (List.mem_cons_of_mem _ (List.mem_append_left _ (List.mem_append_left _ (List.mem_append_left _ (List.mem_append_left _ (List.mem_append_right _ h))))))) hown hK hP 1 rfl rfl 3 (by decide) (hts (.fieldLink RX7 281 "SelfishJunction$Board" "playerCount" "I") (List.mem_cons_of_mem _ (List.mem_append_left _ (List.mem_append_left _ (List.mem_append_left _ (List.mem_append_left _ (List.mem_append_left _ (List.mem_append_left _ (List.mem_append_left _ (List.mem_of_getElem? (i := 2) rfl)))))))))) (fun _ h9 => h9) rfl dX7_checksum_11 ?_
  refine lv_icmp_ge (tgt := 60) hx hb dX7_checksum_14 (by decide) (fun _ => ?_) (fun h => absurd (by decide) h)
  refine lv_iconst (v := 0) hx hb dX7_checksum_60 (by decide) ?_
  refine lv_istore_n (lv' := [(3, .int 0), (1, .long 7), (0, .ref h1)]) hx hb dX7_checksum_61 rfl hl (by decide) rfl (fun ls hl => ?_)
  refine lv_iload_n hx hb dX7_checksum_62 rfl (lv_at hl 0 rfl) ?_
  refine lv_aload_n hx hb dX7_checksum_63 rfl (lv_at hl 2 rfl) ?_
  refine va_get (D := D) (ci := 9) (v := .ref h2) (C := RX7) (T := TX7) (N := 7) hx hb hts (fun _ h => (List.mem_cons_of_mem _ (List.mem_append_left _ (List.mem_append_left _ (List.mem_append_left _ (List.mem_append_left _ (List.mem_append_left _ (List.mem_append_right _ h)))))))) hown hK hP 0 rfl rfl 0 (by decide) (hts (.fieldLink RX7 10 "SelfishJunction" "board" "LSelfishJunction$Board;") (List.mem_cons_of_mem _ (List.mem_append_left _ (List.mem_append_left _ (List.mem_append_left _ (List.mem_append_left _ (List.mem_append_left _ (List.mem_append_left _ (List.mem_append_left _ (List.mem_of_getElem? (i := 1) rfl)))))))))) (fun _ h9 => h9) rfl dX7_checksum_64 ?_
  refine va_get (D := D) (ci := 2) (v := .int 0) (C := RX0) (T := TX0) (N := 4) hx hb hts (fun _ h => (List.mem_cons_of_mem _ (List.mem_append_left _ (List.mem_append_left _ (List.mem_append_left _ (List.mem_append_left _ (List.mem_append_right _ h))))))) hown hK hP 1 rfl rfl 2 (by decide) (hts (.fieldLink RX7 92 "SelfishJunction$Board" "resourceCount" "I") (List.mem_cons_of_mem _ (List.mem_append_left _ (List.mem_append_left _ (List.mem_append_left _ (List.mem_append_left _ (List.mem_append_left _ (List.mem_append_left _ (List.mem_append_left _ (List.mem_of_getElem? (i := 6) rfl)))))))))) (fun _ h9 => h9) rfl dX7_checksum_67 ?_
  refine lv_icmp_ge (tgt := 116) hx hb dX7_checksum_70 (by decide) (fun _ => ?_) (fun h => absurd (by decide) h)
  refine lv_ldc2 (v := 31) hx hb hown (hts (.constantLong RX7 353 (31)) (List.mem_cons_of_mem _ (List.mem_append_left _ (List.mem_append_left _ (List.mem_append_left _ (List.mem_append_left _ (List.mem_append_left _ (List.mem_append_left _ (List.mem_append_left _ (List.mem_of_getElem? (i := 3) rfl)))))))))) dX7_checksum_116 ?_
  refine lv_lload_n hx hb dX7_checksum_119 rfl (lv_at hl 1 rfl) ?_
  refine lv_lmul hx hb dX7_checksum_120 ?_
  refine lv_topl (fun v_1 ev_1 => ?_)
  obtain rfl : v_1 = 217 := ev_1.trans (by decide)
  refine lv_aload_n hx hb dX7_checksum_121 rfl (lv_at hl 2 rfl) ?_
  refine va_get (D := D) (ci := 9) (v := .int 1) (C := RX7) (T := TX7) (N := 7) hx hb hts (fun _ h => (List.mem_cons_of_mem _ (List.mem_append_left _ (List.mem_append_left _ (List.mem_append_left _ (List.mem_append_left _ (List.mem_append_left _ (List.mem_append_right _ h)))))))) hown hK hP 0 rfl rfl 6 (by decide) (hts (.fieldLink RX7 47 "SelfishJunction" "z" "I") (List.mem_cons_of_mem _ (List.mem_append_left _ (List.mem_append_left _ (List.mem_append_left _ (List.mem_append_left _ (List.mem_append_left _ (List.mem_append_left _ (List.mem_append_left _ (List.mem_of_getElem? (i := 10) rfl)))))))))) (fun _ h9 => h9) rfl dX7_checksum_122 ?_
  refine lv_i2l (v := 1) hx hb dX7_checksum_125 (by decide) ?_
  refine lv_ladd hx hb dX7_checksum_126 ?_
  refine lv_topl (fun v_2 ev_2 => ?_)
  obtain rfl : v_2 = 218 := ev_2.trans (by decide)
  refine W.widen (k := 0) (n := 0) (Nat.le_of_ble_eq_true rfl) (Nat.le_of_ble_eq_true rfl) ?_
  exact W.lret (v := 218) hx hb hr (fun t ht hW => ⟨⟨218, (), rfl, ⟨rfl, trivial⟩, trivial⟩, hS.F ht⟩) hS.2.2 dX7_checksum_127
theorem dX8_checksum_0 : decode cX8_checksum 0 = .ok (.aload_n 0, 1) := by decide +kernel
theorem dX8_checksum_1 : decode cX8_checksum 1 = .ok (.iconst 0, 1) := by decide +kernel
theorem dX8_checksum_2 : decode cX8_checksum 2 = .ok (.putfield 59, 3) := by decide +kernel
theorem dX8_checksum_5 : decode cX8_checksum 5 = .ok (.ldc2_w 277, 3) := by decide +kernel
theorem dX8_checksum_8 : decode cX8_checksum 8 = .ok (.lstore_n 1, 1) := by decide +kernel
theorem dX8_checksum_9 : decode cX8_checksum 9 = .ok (.iconst 0, 1) := by decide +kernel
theorem dX8_checksum_10 : decode cX8_checksum 10 = .ok (.istore_n 3, 1) := by decide +kernel
theorem dX8_checksum_11 : decode cX8_checksum 11 = .ok (.iload_n 3, 1) := by decide +kernel
theorem dX8_checksum_12 : decode cX8_checksum 12 = .ok (.aload_n 0, 1) := by decide +kernel
theorem dX8_checksum_13 : decode cX8_checksum 13 = .ok (.getfield 85, 3) := by decide +kernel
theorem dX8_checksum_16 : decode cX8_checksum 16 = .ok (.if_icmp .ge 40, 3) := by decide +kernel
theorem dX8_checksum_56 : decode cX8_checksum 56 = .ok (.iconst 0, 1) := by decide +kernel
theorem dX8_checksum_57 : decode cX8_checksum 57 = .ok (.istore_n 3, 1) := by decide +kernel
theorem dX8_checksum_58 : decode cX8_checksum 58 = .ok (.iload_n 3, 1) := by decide +kernel
theorem dX8_checksum_59 : decode cX8_checksum 59 = .ok (.aload_n 0, 1) := by decide +kernel
theorem dX8_checksum_60 : decode cX8_checksum 60 = .ok (.getfield 62, 3) := by decide +kernel
theorem dX8_checksum_63 : decode cX8_checksum 63 = .ok (.if_icmp .ge 40, 3) := by decide +kernel
theorem dX8_checksum_103 : decode cX8_checksum 103 = .ok (.ldc2_w 279, 3) := by decide +kernel
theorem dX8_checksum_106 : decode cX8_checksum 106 = .ok (.lload_n 1, 1) := by decide +kernel
theorem dX8_checksum_107 : decode cX8_checksum 107 = .ok (.lmul, 1) := by decide +kernel
theorem dX8_checksum_108 : decode cX8_checksum 108 = .ok (.aload_n 0, 1) := by decide +kernel
theorem dX8_checksum_109 : decode cX8_checksum 109 = .ok (.getfield 55, 3) := by decide +kernel
theorem dX8_checksum_112 : decode cX8_checksum 112 = .ok (.i2l, 1) := by decide +kernel
theorem dX8_checksum_113 : decode cX8_checksum 113 = .ok (.ladd, 1) := by decide +kernel
theorem dX8_checksum_114 : decode cX8_checksum 114 = .ok (.lreturn, 1) := by decide +kernel
set_option maxHeartbeats 4000000 in
set_option maxRecDepth 100000 in
theorem k_X8_checksum (l : Launch) (D : va_G) (cy : Nat → ClassId) (h1 : Nat) (x2 : Value) (x3 : Value) (x4 : Value) (x5 : Value) (x6 : Value) (x7 : Value) (x8 : Value) (x9 : Value) (x10 : Value) (x11 : Value) (x12 : Value) (x13 : Value) (x14 : Value) (x15 : Value) (x16 : Value) (sz : Nat) : Met l yX8_checksum wsX8_checksum ({ frames := 0, cells := 0, slots := 0, locals := 0 }) (kW D cy [.ref h1] [(h1, .inr (10, [x2, x3, x4, x5, x6, x7, x8, x9, x10, x11, x12, x13, x14, x15, .int 0, .int 0, .int 1, x16]))] sz) (va_Ql (fun (r : Int64) (_ : Unit) => r = 218 ∧ True) (fun (_ : Unit) (t : State) => va_P D vwCl [(h1, .inr (10, [x2, x3, x4, x5, x6, x7, x8, x9, x10, x11, x12, x13, x14, x15, .int 0, .int 0, .int 1, .int 0]))] t.heap ∧ va_D (va_A [(h1, .inr (10, [x2, x3, x4, x5, x6, x7, x8, x9, x10, x11, x12, x13, x14, x15, .int 0, .int 0, .int 1, x16]))] sz) [(h1, .inr (10, [x2, x3, x4, x5, x6, x7, x8, x9, x10, x11, x12, x13, x14, x15, .int 0, .int 0, .int 1, .int 0]))]) (va_A [(h1, .inr (10, [x2, x3, x4, x5, x6, x7, x8, x9, x10, x11, x12, x13, x14, x15, .int 0, .int 0, .int 1, x16]))] sz)) 0 0 (va_A [(h1, .inr (10, [x2, x3, x4, x5, x6, x7, x8, x9, x10, x11, x12, x13, x14, x15, .int 0, .int 0, .int 1, x16]))] sz) := by
  refine Met.ofW (cc := cX8_checksum) (maxL := 4) (ret := (some .long)) (by decide) rfl ?_
  intro p e s m args below meth c s₁ B hml hv
  obtain ⟨rfl, hsz, hP, hK, hD0⟩ := hv
  have hx := B.exec
  have hb := B.bytes
  have hr := B.returns
  have hts := atoms_spec (ws := wsX8_checksum) B.pre
  have hown : s.vm.findClass RX8 = some m.cls := findClass_of_methodNamed B.named
  have hlocks := B.notSynchronized
  subst hsz
  have hD := hD0.self (sz := s.heap.size)
  generalize hAe : va_A [(h1, .inr (10, [x2, x3, x4, x5, x6, x7, x8, x9, x10, x11, x12, x13, x14, x15, .int 0, .int 0, .int 1, x16]))] s.heap.size = A at hD ⊢
  have hA : ∀ q : Nat, s.heap.size ≤ q → A q := fun q h => by rw [← hAe]; exact Or.inr h
  have hS : va_S A s.heap s.heap [] := va_S.rf
  have hP : va_P D vwCl [(h1, .inr (10, [x2, x3, x4, x5, x6, x7, x8, x9, x10, x11, x12, x13, x14, x15, .int 0, .int 0, .int 1, x16]))] s.heap := hP
  have hl := lv_entry ([.ref h1]) (n := 4) (Nat.le_of_ble_eq_true rfl)
  rw [lg_entry_eq]
  generalize (lg_sl ([.ref h1]) ++ List.replicate (4 - (lg_sl ([.ref h1])).length) Slot.unset).toArray = ls at hl ⊢
  have hl : lv_has ls 4 [(0, .ref h1)] := hl
  refine lv_aload_n hx hb dX8_checksum_0 rfl (lv_at hl 0 rfl) ?_
  refine lv_iconst (v := 0) hx hb dX8_checksum_1 (by decide) ?_
  refine va_put (D := D) (ci := 10) (v := .int 0) (ty := .int) (C := RX8) (T := TX8) (N := 18) hx hb hts (fun _ h => (List.mem_cons_of_mem _ (List.mem_append_left _ (List.mem_append_left _ (List.mem_append_right _ h))))) tyX8 tyX8_ok nmX8 hown hK hP hD hS 0 rfl rfl 17 (by decide) (hts (.fieldLink RX8 59 "SelfishJunctionModel" "thrown" "I") (List.mem_cons_of_mem _ (List.mem_append_left _ (List.mem_append_left _ (List.mem_append_left _ (List.mem_append_left _ (List.mem_of_getElem? (i := 0) rfl))))))) (fun _ h9 => h9) rfl (by decide +kernel) rfl rfl (Nat.le_of_ble_eq_true rfl) dX8_checksum_2 (fun H locs hP hD hS => ?_)
  have hP : va_P D vwCl [(h1, .inr (10, [x2, x3, x4, x5, x6, x7, x8, x9, x10, x11, x12, x13, x14, x15, .int 0, .int 0, .int 1, .int 0]))] H := hP
  have hD : va_D A [(h1, .inr (10, [x2, x3, x4, x5, x6, x7, x8, x9, x10, x11, x12, x13, x14, x15, .int 0, .int 0, .int 1, .int 0]))] := hD
  refine lv_ldc2 (v := 7) hx hb hown (hts (.constantLong RX8 277 (7)) (List.mem_cons_of_mem _ (List.mem_append_left _ (List.mem_append_left _ (List.mem_append_left _ (List.mem_append_left _ (List.mem_of_getElem? (i := 1) rfl))))))) dX8_checksum_5 ?_
  refine lv_lstore_n (lv' := [(1, .long 7), (0, .ref h1)]) hx hb dX8_checksum_8 rfl hl (by decide) rfl (fun ls hl => ?_)
  refine lv_iconst (v := 0) hx hb dX8_checksum_9 (by decide) ?_
  refine lv_istore_n (lv' := [(3, .int 0), (1, .long 7), (0, .ref h1)]) hx hb dX8_checksum_10 rfl hl (by decide) rfl (fun ls hl => ?_)
  refine lv_iload_n hx hb dX8_checksum_11 rfl (lv_at hl 0 rfl) ?_
  refine lv_aload_n hx hb dX8_checksum_12 rfl (lv_at hl 2 rfl) ?_
  refine va_get (D := D) (ci := 10) (v := .int 0) (C := RX8) (T := TX8) (N := 18) hx hb hts (fun _ h => (List.mem_cons_of_mem _ (List.mem_append_left _ (List.mem_append_left _ (List.mem_append_right _ h))))) hown hK hP 0 rfl rfl 15 (by decide) (hts (.fieldLink RX8 85 "SelfishJunctionModel" "players" "I") (List.mem_cons_of_mem _ (List.mem_append_left _ (List.mem_append_left _ (List.mem_append_left _ (List.mem_append_left _ (List.mem_of_getElem? (i := 2) rfl))))))) (fun _ h9 => h9) rfl dX8_checksum_13 ?_
  refine lv_icmp_ge (tgt := 56) hx hb dX8_checksum_16 (by decide) (fun _ => ?_) (fun h => absurd (by decide) h)
  refine lv_iconst (v := 0) hx hb dX8_checksum_56 (by decide) ?_
  refine lv_istore_n (lv' := [(3, .int 0), (1, .long 7), (0, .ref h1)]) hx hb dX8_checksum_57 rfl hl (by decide) rfl (fun ls hl => ?_)
  refine lv_iload_n hx hb dX8_checksum_58 rfl (lv_at hl 0 rfl) ?_
  refine lv_aload_n hx hb dX8_checksum_59 rfl (lv_at hl 2 rfl) ?_
  refine va_get (D := D) (ci := 10) (v := .int 0) (C := RX8) (T := TX8) (N := 18) hx hb hts (fun _ h => (List.mem_cons_of_mem _ (List.mem_append_left _ (List.mem_append_left _ (List.mem_append_right _ h))))) hown hK hP 0 rfl rfl 14 (by decide) (hts (.fieldLink RX8 62 "SelfishJunctionModel" "resources" "I") (List.mem_cons_of_mem _ (List.mem_append_left _ (List.mem_append_left _ (List.mem_append_left _ (List.mem_append_left _ (List.mem_of_getElem? (i := 5) rfl))))))) (fun _ h9 => h9) rfl dX8_checksum_60 ?_
  refine lv_icmp_ge (tgt := 103) hx hb dX8_checksum_63 (by decide) (fun _ => ?_) (fun h => absurd (by decide) h)
  refine lv_ldc2 (v := 31) hx hb hown (hts (.constantLong RX8 279 (31)) (List.mem_cons_of_mem _ (List.mem_append_left _ (List.mem_append_left _ (List.mem_append_left _ (List.mem_append_left _ (List.mem_of_getElem? (i := 3) rfl))))))) dX8_checksum_103 ?_
  refine lv_lload_n hx hb dX8_checksum_106 rfl (lv_at hl 1 rfl) ?_
  refine lv_lmul hx hb dX8_checksum_107 ?_
  refine lv_topl (fun v_1 ev_1 => ?_)
  obtain rfl : v_1 = 217 := ev_1.trans (by decide)
  refine lv_aload_n hx hb dX8_checksum_108 rfl (lv_at hl 2 rfl) ?_
  refine va_get (D := D) (ci := 10) (v := .int 1) (C := RX8) (T := TX8) (N := 18) hx hb hts (fun _ h => (List.mem_cons_of_mem _ (List.mem_append_left _ (List.mem_append_left _ (List.mem_append_right _ h))))) hown hK hP 0 rfl rfl 16 (by decide) (hts (.fieldLink RX8 55 "SelfishJunctionModel" "z" "I") (List.mem_cons_of_mem _ (List.mem_append_left _ (List.mem_append_left _ (List.mem_append_left _ (List.mem_append_left _ (List.mem_of_getElem? (i := 7) rfl))))))) (fun _ h9 => h9) rfl dX8_checksum_109 ?_
  refine lv_i2l (v := 1) hx hb dX8_checksum_112 (by decide) ?_
  refine lv_ladd hx hb dX8_checksum_113 ?_
  refine lv_topl (fun v_2 ev_2 => ?_)
  obtain rfl : v_2 = 218 := ev_2.trans (by decide)
  refine W.widen (k := 0) (n := 0) (Nat.le_of_ble_eq_true rfl) (Nat.le_of_ble_eq_true rfl) ?_
  have hP9 := hP.sub (ws' := [(h1, .inr (10, [x2, x3, x4, x5, x6, x7, x8, x9, x10, x11, x12, x13, x14, x15, .int 0, .int 0, .int 1, .int 0]))]) [0] rfl
  have hD9 := hD.sub (ws' := [(h1, .inr (10, [x2, x3, x4, x5, x6, x7, x8, x9, x10, x11, x12, x13, x14, x15, .int 0, .int 0, .int 1, .int 0]))]) [0] (by decide) rfl
  exact W.lret (v := 218) hx hb hr (fun t ht hW => ⟨⟨218, (), rfl, ⟨rfl, trivial⟩, ⟨by rw [ht]; exact hP9, hD9⟩⟩, hS.F ht⟩) hS.2.2 dX8_checksum_114
theorem dX0_isBalanced_0 : decode cX0_isBalanced 0 = .ok (.iconst 0, 1) := by decide +kernel
theorem dX0_isBalanced_1 : decode cX0_isBalanced 1 = .ok (.istore_n 2, 1) := by decide +kernel
theorem dX0_isBalanced_2 : decode cX0_isBalanced 2 = .ok (.iconst 0, 1) := by decide +kernel
theorem dX0_isBalanced_3 : decode cX0_isBalanced 3 = .ok (.istore_n 3, 1) := by decide +kernel
theorem dX0_isBalanced_4 : decode cX0_isBalanced 4 = .ok (.iload_n 3, 1) := by decide +kernel
theorem dX0_isBalanced_5 : decode cX0_isBalanced 5 = .ok (.aload_n 0, 1) := by decide +kernel
theorem dX0_isBalanced_6 : decode cX0_isBalanced 6 = .ok (.getfield 25, 3) := by decide +kernel
theorem dX0_isBalanced_9 : decode cX0_isBalanced 9 = .ok (.if_icmp .ge 18, 3) := by decide +kernel
theorem dX0_isBalanced_27 : decode cX0_isBalanced 27 = .ok (.iconst 0, 1) := by decide +kernel
theorem dX0_isBalanced_28 : decode cX0_isBalanced 28 = .ok (.istore_n 3, 1) := by decide +kernel
theorem dX0_isBalanced_29 : decode cX0_isBalanced 29 = .ok (.iload_n 3, 1) := by decide +kernel
theorem dX0_isBalanced_30 : decode cX0_isBalanced 30 = .ok (.aload_n 0, 1) := by decide +kernel
theorem dX0_isBalanced_31 : decode cX0_isBalanced 31 = .ok (.getfield 42, 3) := by decide +kernel
theorem dX0_isBalanced_34 : decode cX0_isBalanced 34 = .ok (.if_icmp .ge 40, 3) := by decide +kernel
theorem dX0_isBalanced_74 : decode cX0_isBalanced 74 = .ok (.iload_n 2, 1) := by decide +kernel
theorem dX0_isBalanced_75 : decode cX0_isBalanced 75 = .ok (.ifCond .ne 7, 3) := by decide +kernel
theorem dX0_isBalanced_78 : decode cX0_isBalanced 78 = .ok (.iconst 1, 1) := by decide +kernel
theorem dX0_isBalanced_79 : decode cX0_isBalanced 79 = .ok (.goto 4, 3) := by decide +kernel
theorem dX0_isBalanced_83 : decode cX0_isBalanced 83 = .ok (.ireturn, 1) := by decide +kernel
set_option maxHeartbeats 4000000 in
set_option maxRecDepth 100000 in
theorem k_X0_isBalanced (l : Launch) (D : va_G) (cy : Nat → ClassId) (h1 : Nat) (h2 : Nat) (x3 : Value) (x4 : Value) : Met l yX0_isBalanced wsX0_isBalanced ({ frames := 0, cells := 0, slots := 0, locals := 0 }) (kR D cy [.ref h1, .ref h2] [(h1, .inr (2, [x3, x4, .int 0, .int 0]))]) (va_Qi (fun (r : Int32) (_ : Unit) => r = 1 ∧ True) (fun (_ : Unit) (_ : State) => True) (fun _ : Nat => False)) 0 0 (fun _ : Nat => False) := by
  refine Met.ofW (cc := cX0_isBalanced) (maxL := 4) (ret := (some .boolean)) (by decide) rfl ?_
  intro p e s m args below meth c s₁ B hml hv
  obtain ⟨rfl, hP, hK⟩ := hv
  have hx := B.exec
  have hb := B.bytes
  have hr := B.returns
  have hts := atoms_spec (ws := wsX0_isBalanced) B.pre
  have hown : s.vm.findClass RX0 = some m.cls := findClass_of_methodNamed B.named
  have hlocks := B.notSynchronized
  have hS : va_S (fun _ : Nat => False) s.heap s.heap [] := va_S.rf
  have hP : va_P D vwCl [(h1, .inr (2, [x3, x4, .int 0, .int 0]))] s.heap := hP
  have hl := lv_entry ([.ref h1, .ref h2]) (n := 4) (Nat.le_of_ble_eq_true rfl)
  rw [lg_entry_eq]
  generalize (lg_sl ([.ref h1, .ref h2]) ++ List.replicate (4 - (lg_sl ([.ref h1, .ref h2])).length) Slot.unset).toArray = ls at hl ⊢
  have hl : lv_has ls 4 [(0, .ref h1), (1, .ref h2)] := hl
  refine lv_iconst (v := 0) hx hb dX0_isBalanced_0 (by decide) ?_
  refine lv_istore_n (lv' := [(2, .int 0), (0, .ref h1), (1, .ref h2)]) hx hb dX0_isBalanced_1 rfl hl (by decide) rfl (fun ls hl => ?_)
  refine lv_iconst (v := 0) hx hb dX0_isBalanced_2 (by decide) ?_
  refine lv_istore_n (lv' := [(3, .int 0), (2, .int 0), (0, .ref h1), (1, .ref h2)]) hx hb dX0_isBalanced_3 rfl hl (by decide) rfl (fun ls hl => ?_)
  refine lv_iload_n hx hb dX0_isBalanced_4 rfl (lv_at hl 0 rfl) ?_
  refine lv_aload_n hx hb dX0_isBalanced_5 rfl (lv_at hl 2 rfl) ?_
  refine va_get (D := D) (ci := 2) (v := .int 0) (C := RX0) (T := TX0) (N := 4) hx hb hts (fun _ h => (List.mem_cons_of_mem _ (List.mem_append_left _ (List.mem_append_left _ (List.mem_append_left _ (List.mem_append_right _ h)))))) hown hK hP 0 rfl rfl 2 (by decide) (hts (.fieldLink RX0 25 "SelfishJunction$Board" "resourceCount" "I") (List.mem_cons_of_mem _ (List.mem_append_left _ (List.mem_append_left _ (List.mem_append_left _ (List.mem_append_left _ (List.mem_of_getElem? (i := 0) rfl))))))) (fun _ h9 => h9) rfl dX0_isBalanced_6 ?_
  refine lv_icmp_ge (tgt := 27) hx hb dX0_isBalanced_9 (by decide) (fun _ => ?_) (fun h => absurd (by decide) h)
  refine lv_iconst (v := 0) hx hb dX0_isBalanced_27 (by decide) ?_
  refine lv_istore_n (lv' := [(3, .int 0), (2, .int 0), (0, .ref h1), (1, .ref h2)]) hx hb dX0_isBalanced_28 rfl hl (by decide) rfl (fun ls hl => ?_)
  refine lv_iload_n hx hb dX0_isBalanced_29 rfl (lv_at hl 0 rfl) ?_
  refine lv_aload_n hx hb dX0_isBalanced_30 rfl (lv_at hl 2 rfl) ?_
  refine va_get (D := D) (ci := 2) (v := .int 0) (C := RX0) (T := TX0) (N := 4) hx hb hts (fun _ h => (List.mem_cons_of_mem _ (List.mem_append_left _ (List.mem_append_left _ (List.mem_append_left _ (List.mem_append_right _ h)))))) hown hK hP 0 rfl rfl 3 (by decide) (hts (.fieldLink RX0 42 "SelfishJunction$Board" "playerCount" "I") (List.mem_cons_of_mem _ (List.mem_append_left _ (List.mem_append_left _ (List.mem_append_left _ (List.mem_append_left _ (List.mem_of_getElem? (i := 2) rfl))))))) (fun _ h9 => h9) rfl dX0_isBalanced_31 ?_
  refine lv_icmp_ge (tgt := 74) hx hb dX0_isBalanced_34 (by decide) (fun _ => ?_) (fun h => absurd (by decide) h)
  refine lv_iload_n hx hb dX0_isBalanced_74 rfl (lv_at hl 1 rfl) ?_
  refine lv_if_ne (tgt := 82) hx hb dX0_isBalanced_75 (by decide) (fun h => absurd (by decide) h) (fun _ => ?_)
  refine lv_iconst (v := 1) hx hb dX0_isBalanced_78 (by decide) ?_
  refine lv_goto (tgt := 83) hx hb dX0_isBalanced_79 (by decide) ?_
  refine W.widen (k := 0) (n := 0) (Nat.le_of_ble_eq_true rfl) (Nat.le_of_ble_eq_true rfl) ?_
  exact W.zret (v := 1) hx hb hr rfl (fun t ht hW => ⟨⟨1, (), rfl, ⟨rfl, trivial⟩, trivial⟩, hS.F ht⟩) hS.2.2 dX0_isBalanced_83
theorem dX6_countAtRest_0 : decode cX6_countAtRest 0 = .ok (.iconst 0, 1) := by decide +kernel
theorem dX6_countAtRest_1 : decode cX6_countAtRest 1 = .ok (.istore_n 1, 1) := by decide +kernel
theorem dX6_countAtRest_2 : decode cX6_countAtRest 2 = .ok (.iconst 0, 1) := by decide +kernel
theorem dX6_countAtRest_3 : decode cX6_countAtRest 3 = .ok (.istore_n 2, 1) := by decide +kernel
theorem dX6_countAtRest_4 : decode cX6_countAtRest 4 = .ok (.iload_n 2, 1) := by decide +kernel
theorem dX6_countAtRest_5 : decode cX6_countAtRest 5 = .ok (.aload_n 0, 1) := by decide +kernel
theorem dX6_countAtRest_6 : decode cX6_countAtRest 6 = .ok (.getfield 98, 3) := by decide +kernel
theorem dX6_countAtRest_9 : decode cX6_countAtRest 9 = .ok (.if_icmp .ge 20, 3) := by decide +kernel
theorem dX6_countAtRest_12 : decode cX6_countAtRest 12 = .ok (.aload_n 0, 1) := by decide +kernel
theorem dX6_countAtRest_13 : decode cX6_countAtRest 13 = .ok (.iload_n 2, 1) := by decide +kernel
theorem dX6_countAtRest_14 : decode cX6_countAtRest 14 = .ok (.invokevirtual 112, 3) := by decide +kernel
set_option maxRecDepth 20000 in
theorem ggX6_countAtRest_X6_isAtRest : GoodIn wsX6_countAtRest wsX6_isAtRest := goodIn_ca (goodIn_r _ [6, 7, 8, 9, 10, 11, 12, 13, 14, 15, 16, 17, 18, 19, 20] (by decide +kernel) (by decide +kernel)) (goodIn_sub (fun _ h => List.mem_cons_of_mem _ (List.mem_append_right _ h)) (by decide +kernel))
set_option maxRecDepth 20000 in
theorem gX6_countAtRest_X6_isAtRest : GoodIn wsX6_countAtRest (wsV RX6 112 RX6 yX6_isAtRest wsX6_isAtRest) := goodIn_app (goodIn_of _ (by decide +kernel)) ggX6_countAtRest_X6_isAtRest
theorem dX6_countAtRest_17 : decode cX6_countAtRest 17 = .ok (.ifCond .eq 6, 3) := by decide +kernel
theorem dX6_countAtRest_20 : decode cX6_countAtRest 20 = .ok (.iinc 1 1, 3) := by decide +kernel
theorem dX6_countAtRest_23 : decode cX6_countAtRest 23 = .ok (.iinc 2 1, 3) := by decide +kernel
theorem dX6_countAtRest_26 : decode cX6_countAtRest 26 = .ok (.goto (-22), 3) := by decide +kernel
theorem dX6_countAtRest_29 : decode cX6_countAtRest 29 = .ok (.iload_n 1, 1) := by decide +kernel
theorem dX6_countAtRest_30 : decode cX6_countAtRest 30 = .ok (.ireturn, 1) := by decide +kernel
set_option maxHeartbeats 4000000 in
set_option maxRecDepth 100000 in
theorem k_X6_countAtRest (l : Launch) (D : va_G) (cy : Nat → ClassId) (h1 : Nat) (x2 : Value) (x3 : Value) (x4 : Value) (x5 : Value) (x6 : Value) (h7 : Nat) (x8 : Value) (x9 : Value) (x10 : Value) (x11 : Value) (x12 : Value) (x13 : Value) (g14 : Nat → Int32) (kg14_0 : g14 0 = 0) : Met l yX6_countAtRest wsX6_countAtRest ({ frames := 1, cells := 0, slots := 0, locals := 21 }) (kR D cy [.ref h1] [(h1, .inr (8, [x2, x3, x4, x5, x6, .ref h7, x8, x9, x10, x11, x12, x13, .int 1])), (h7, .inl (cy 1, 1000, .inl g14))]) (va_Qi (fun (r : Int32) (_ : Unit) => r = 1 ∧ True) (fun (_ : Unit) (_ : State) => True) (fun _ : Nat => False)) 0 0 (fun _ : Nat => False) := by
  refine Met.ofW (cc := cX6_countAtRest) (maxL := 3) (ret := (some .int)) (by decide) rfl ?_
  intro p e s m args below meth c s₁ B hml hv
  obtain ⟨rfl, hP, hK⟩ := hv
  have hx := B.exec
  have hb := B.bytes
  have hr := B.returns
  have hts := atoms_spec (ws := wsX6_countAtRest) B.pre
  have hown : s.vm.findClass RX6 = some m.cls := findClass_of_methodNamed B.named
  have hlocks := B.notSynchronized
  have hS : va_S (fun _ : Nat => False) s.heap s.heap [] := va_S.rf
  have hP : va_P D vwCl [(h1, .inr (8, [x2, x3, x4, x5, x6, .ref h7, x8, x9, x10, x11, x12, x13, .int 1])), (h7, .inl (cy 1, 1000, .inl g14))] s.heap := hP
  have hl := lv_entry ([.ref h1]) (n := 3) (Nat.le_of_ble_eq_true rfl)
  rw [lg_entry_eq]
  generalize (lg_sl ([.ref h1]) ++ List.replicate (3 - (lg_sl ([.ref h1])).length) Slot.unset).toArray = ls at hl ⊢
  have hl : lv_has ls 3 [(0, .ref h1)] := hl
  refine lv_iconst (v := 0) hx hb dX6_countAtRest_0 (by decide) ?_
  refine lv_istore_n (lv' := [(1, .int 0), (0, .ref h1)]) hx hb dX6_countAtRest_1 rfl hl (by decide) rfl (fun ls hl => ?_)
  refine lv_iconst (v := 0) hx hb dX6_countAtRest_2 (by decide) ?_
  refine lv_istore_n (lv' := [(2, .int 0), (1, .int 0), (0, .ref h1)]) hx hb dX6_countAtRest_3 rfl hl (by decide) rfl (fun ls hl => ?_)
  refine lv_iload_n hx hb dX6_countAtRest_4 rfl (lv_at hl 0 rfl) ?_
  refine lv_aload_n hx hb dX6_countAtRest_5 rfl (lv_at hl 2 rfl) ?_
  refine va_get (D := D) (ci := 8) (v := .int 1) (C := RX6) (T := TX6) (N := 13) hx hb hts (fun _ h => (List.mem_cons_of_mem _ (List.mem_append_left _ (List.mem_append_right _ h)))) hown hK hP 0 rfl rfl 12 (by decide) (hts (.fieldLink RX6 98 "SelfishJunction$Survey" "filled" "I") (List.mem_cons_of_mem _ (List.mem_append_left _ (List.mem_append_left _ (List.mem_of_getElem? (i := 0) rfl))))) (fun _ h9 => h9) rfl dX6_countAtRest_6 ?_
  refine lv_icmp_ge (tgt := 29) hx hb dX6_countAtRest_9 (by decide) (fun h => absurd h (by decide)) (fun _ => ?_)
  refine lv_aload_n hx hb dX6_countAtRest_12 rfl (lv_at hl 2 rfl) ?_
  refine lv_iload_n hx hb dX6_countAtRest_13 rfl (lv_at hl 0 rfl) ?_
  have hPc := hP.sub (ws' := [(h1, .inr (8, [x2, x3, x4, x5, x6, .ref h7, x8, x9, x10, x11, x12, x13, .int 1])), (h7, .inl (cy 1, 1000, .inl g14))]) [0, 1] rfl
  refine va_calli (va_runV (As := [.int 0]) (rest := []) ⟨hx, hb, hml, hown, hts⟩ (k_X6_isAtRest l D cy h1 (x2) (x3) (x4) (x5) (x6) h7 (x8) (x9) (x10) (x11) (x12) (x13) (.int 1) g14 (kg14_0)) (cwV 1 hts gX6_countAtRest_X6_isAtRest rfl rfl rfl (by decide +kernel) ⟨(Nat.le_of_ble_eq_true rfl), (Nat.le_of_ble_eq_true rfl)⟩) ⟨kR_fb, va_recv hK hP (ci := 8) (q0 := 0) rfl rfl, (kR_go hPc hK)⟩ rfl rfl hl.1 rfl (lv_room (Nat.le_of_ble_eq_true rfl)) dX6_countAtRest_14 ⟨(Nat.le_of_ble_eq_true rfl), (Nat.le_of_ble_eq_true rfl)⟩) hS (fun _ _ h => h.elim) (fun _ h => h.elim) (fun r9 u t H locs ht hvm hw hB hz1 hk1 hS => ?_)
  have hP := kx_kept hP hk1
  obtain ⟨rfl, hw⟩ := hw
  refine lv_if_eq (tgt := 23) hx hb dX6_countAtRest_17 (by decide) (fun h => absurd h (by decide)) (fun _ => ?_)
  refine lv_iinc (v := 1) (lv' := [(1, .int 1), (2, .int 0), (0, .ref h1)]) hx hb dX6_countAtRest_20 hl (k := 1) rfl (by decide) (by decide) rfl (fun ls hl => ?_)
  refine lv_iinc (v := 1) (lv' := [(2, .int 1), (1, .int 1), (0, .ref h1)]) hx hb dX6_countAtRest_23 hl (k := 1) rfl (by decide) (by decide) rfl (fun ls hl => ?_)
  refine lv_goto (tgt := 4) hx hb dX6_countAtRest_26 (by decide) ?_
  refine lv_iload_n hx hb dX6_countAtRest_4 rfl (lv_at hl 0 rfl) ?_
  refine lv_aload_n hx hb dX6_countAtRest_5 rfl (lv_at hl 2 rfl) ?_
  refine va_get (D := D) (ci := 8) (v := .int 1) (C := RX6) (T := TX6) (N := 13) hx hb hts (fun _ h => (List.mem_cons_of_mem _ (List.mem_append_left _ (List.mem_append_right _ h)))) hown hK hP 0 rfl rfl 12 (by decide) (hts (.fieldLink RX6 98 "SelfishJunction$Survey" "filled" "I") (List.mem_cons_of_mem _ (List.mem_append_left _ (List.mem_append_left _ (List.mem_of_getElem? (i := 0) rfl))))) (fun _ h9 => h9) rfl dX6_countAtRest_6 ?_
  refine lv_icmp_ge (tgt := 29) hx hb dX6_countAtRest_9 (by decide) (fun _ => ?_) (fun h => absurd (by decide) h)
  refine lv_iload_n hx hb dX6_countAtRest_29 rfl (lv_at hl 1 rfl) ?_
  refine W.widen (k := 0) (n := 0) (Nat.le_of_ble_eq_true rfl) (Nat.le_of_ble_eq_true rfl) ?_
  exact W.iret (v := 1) hx hb hr (fun t ht hW => ⟨⟨1, (), rfl, ⟨rfl, trivial⟩, trivial⟩, hS.F ht⟩) hS.2.2 dX6_countAtRest_30
theorem dX6_anyRing_0 : decode cX6_anyRing 0 = .ok (.aload_n 0, 1) := by decide +kernel
theorem dX6_anyRing_1 : decode cX6_anyRing 1 = .ok (.invokevirtual 119, 3) := by decide +kernel
set_option maxRecDepth 20000 in
theorem ggX6_anyRing_X6_forget : GoodIn wsX6_anyRing wsX6_forget := goodIn_ca (goodIn_r _ [7, 1, 2, 43, 44, 45, 46, 47, 48, 49, 50, 51, 52, 53, 54, 55] (by decide +kernel) (by decide +kernel)) (goodIn_sub (fun _ h => List.mem_cons_of_mem _ (List.mem_append_left _ (List.mem_append_right _ h))) (by decide +kernel))
set_option maxRecDepth 20000 in
theorem gX6_anyRing_X6_forget : GoodIn wsX6_anyRing (wsV RX6 119 RX6 yX6_forget wsX6_forget) := goodIn_app (goodIn_of _ (by decide +kernel)) ggX6_anyRing_X6_forget
theorem dX6_anyRing_4 : decode cX6_anyRing 4 = .ok (.iconst 0, 1) := by decide +kernel
theorem dX6_anyRing_5 : decode cX6_anyRing 5 = .ok (.istore_n 1, 1) := by decide +kernel
theorem dX6_anyRing_6 : decode cX6_anyRing 6 = .ok (.iload_n 1, 1) := by decide +kernel
theorem dX6_anyRing_7 : decode cX6_anyRing 7 = .ok (.aload_n 0, 1) := by decide +kernel
theorem dX6_anyRing_8 : decode cX6_anyRing 8 = .ok (.getfield 98, 3) := by decide +kernel
theorem dX6_anyRing_11 : decode cX6_anyRing 11 = .ok (.if_icmp .ge 28, 3) := by decide +kernel
theorem dX6_anyRing_14 : decode cX6_anyRing 14 = .ok (.aload_n 0, 1) := by decide +kernel
theorem dX6_anyRing_15 : decode cX6_anyRing 15 = .ok (.getfield 30, 3) := by decide +kernel
theorem dX6_anyRing_18 : decode cX6_anyRing 18 = .ok (.iload_n 1, 1) := by decide +kernel
theorem dX6_anyRing_19 : decode cX6_anyRing 19 = .ok (.iaload, 1) := by decide +kernel
theorem dX6_anyRing_20 : decode cX6_anyRing 20 = .ok (.ifCond .ne 13, 3) := by decide +kernel
theorem dX6_anyRing_23 : decode cX6_anyRing 23 = .ok (.aload_n 0, 1) := by decide +kernel
theorem dX6_anyRing_24 : decode cX6_anyRing 24 = .ok (.iload_n 1, 1) := by decide +kernel
theorem dX6_anyRing_25 : decode cX6_anyRing 25 = .ok (.invokevirtual 122, 3) := by decide +kernel
set_option maxRecDepth 20000 in
theorem ggX6_anyRing_X6_meetsRing : GoodIn wsX6_anyRing wsX6_meetsRing := goodIn_ca (goodIn_ca (goodIn_r _ [11, 12, 13, 14, 2, 15, 16, 17, 18, 6, 19, 20, 21, 22, 23, 24, 25, 26, 27, 28, 29, 30, 31, 32, 33, 34, 35, 36, 37, 38, 39, 40, 41, 42, 43, 44, 45, 46, 47, 48, 49, 50, 51, 52, 53, 54, 55] (by decide +kernel) (by decide +kernel)) (goodIn_sub (fun _ h => List.mem_cons_of_mem _ (List.mem_append_left _ (List.mem_append_right _ h))) (by decide +kernel))) (goodIn_sub (fun _ h => List.mem_cons_of_mem _ (List.mem_append_right _ h)) (by decide +kernel))
set_option maxRecDepth 20000 in
theorem gX6_anyRing_X6_meetsRing : GoodIn wsX6_anyRing (wsV RX6 122 RX6 yX6_meetsRing wsX6_meetsRing) := goodIn_app (goodIn_of _ (by decide +kernel)) ggX6_anyRing_X6_meetsRing
theorem dX6_anyRing_28 : decode cX6_anyRing 28 = .ok (.ifCond .eq 5, 3) := by decide +kernel
theorem dX6_anyRing_33 : decode cX6_anyRing 33 = .ok (.iinc 1 1, 3) := by decide +kernel
theorem dX6_anyRing_36 : decode cX6_anyRing 36 = .ok (.goto (-30), 3) := by decide +kernel
theorem dX6_anyRing_39 : decode cX6_anyRing 39 = .ok (.iconst 0, 1) := by decide +kernel
theorem dX6_anyRing_40 : decode cX6_anyRing 40 = .ok (.ireturn, 1) := by decide +kernel
set_option maxHeartbeats 4000000 in
set_option maxRecDepth 100000 in
theorem k_X6_anyRing (l : Launch) (hl9 : l.stackTraces = false) (D : va_G) (cy : Nat → ClassId) (h1 : Nat) (x2 : Value) (x3 : Value) (x4 : Value) (x5 : Value) (x6 : Value) (h7 : Nat) (h8 : Nat) (h9 : Nat) (h10 : Nat) (h11 : Nat) (x12 : Value) (x13 : Value) (g14 : Nat → Int32) (kg14_0 : g14 0 = 0) (g15 : Nat → Int32) (kg15_0 : g15 0 = 0) (g16 : Nat → Int32) (g17 : Nat → Int32) (kg17_0 : g17 0 = 0) (g18 : Nat → Int32) (kg18_0 : g18 0 = 0) (sz : Nat) : Met l yX6_anyRing wsX6_anyRing ({ frames := 2, cells := 0, slots := 0, locals := 48 }) (kWX D cy [.ref h1] [(h1, .inr (8, [x2, x3, x4, x5, x6, .ref h7, .ref h8, .ref h9, .ref h10, .ref h11, x12, x13, .int 1])), (h7, .inl (cy 1, 1000, .inl g14)), (h8, .inl (cy 1, 1000, .inl g15)), (h9, .inl (cy 1, 1000, .inl g16)), (h10, .inl (cy 1, 1000, .inl g17)), (h11, .inl (cy 1, 1000, .inl g18))] sz) (va_Qi (fun (r : Int32) (_ : Unit) => r = 0 ∧ True) (fun (_ : Unit) (t : State) => va_P D vwCl [(h1, .inr (8, [x2, x3, x4, x5, x6, .ref h7, .ref h8, .ref h9, .ref h10, .ref h11, x12, x13, .int 1])), (h7, .inl (cy 1, 1000, .inl g14)), (h8, .inl (cy 1, 1000, .inl (upd (upd g15 0 0) 0 2))), (h9, .inl (cy 1, 1000, .inl (upd g16 0 0))), (h10, .inl (cy 1, 1000, .inl (upd g17 0 30))), (h11, .inl (cy 1, 1000, .inl (upd g18 0 0)))] t.heap ∧ va_D (va_A [(h1, .inr (8, [x2, x3, x4, x5, x6, .ref h7, .ref h8, .ref h9, .ref h10, .ref h11, x12, x13, .int 1])), (h7, .inl (cy 1, 1000, .inl g14)), (h8, .inl (cy 1, 1000, .inl g15)), (h9, .inl (cy 1, 1000, .inl g16)), (h10, .inl (cy 1, 1000, .inl g17)), (h11, .inl (cy 1, 1000, .inl g18))] sz) [(h1, .inr (8, [x2, x3, x4, x5, x6, .ref h7, .ref h8, .ref h9, .ref h10, .ref h11, x12, x13, .int 1])), (h7, .inl (cy 1, 1000, .inl g14)), (h8, .inl (cy 1, 1000, .inl (upd (upd g15 0 0) 0 2))), (h9, .inl (cy 1, 1000, .inl (upd g16 0 0))), (h10, .inl (cy 1, 1000, .inl (upd g17 0 30))), (h11, .inl (cy 1, 1000, .inl (upd g18 0 0)))]) (va_A [(h1, .inr (8, [x2, x3, x4, x5, x6, .ref h7, .ref h8, .ref h9, .ref h10, .ref h11, x12, x13, .int 1])), (h7, .inl (cy 1, 1000, .inl g14)), (h8, .inl (cy 1, 1000, .inl g15)), (h9, .inl (cy 1, 1000, .inl g16)), (h10, .inl (cy 1, 1000, .inl g17)), (h11, .inl (cy 1, 1000, .inl g18))] sz)) 0 0 (va_A [(h1, .inr (8, [x2, x3, x4, x5, x6, .ref h7, .ref h8, .ref h9, .ref h10, .ref h11, x12, x13, .int 1])), (h7, .inl (cy 1, 1000, .inl g14)), (h8, .inl (cy 1, 1000, .inl g15)), (h9, .inl (cy 1, 1000, .inl g16)), (h10, .inl (cy 1, 1000, .inl g17)), (h11, .inl (cy 1, 1000, .inl g18))] sz) := by
  refine Met.ofW (cc := cX6_anyRing) (maxL := 2) (ret := (some .boolean)) (by decide) rfl ?_
  intro p e s m args below meth c s₁ B hml hv
  obtain ⟨rfl, hsz, hP, hK, hD0, hE⟩ := hv
  have hx := B.exec
  have hb := B.bytes
  have hr := B.returns
  have hts := atoms_spec (ws := wsX6_anyRing) B.pre
  have hown : s.vm.findClass RX6 = some m.cls := findClass_of_methodNamed B.named
  have hlocks := B.notSynchronized
  subst hsz
  have hD := hD0.self (sz := s.heap.size)
  generalize hAe : va_A [(h1, .inr (8, [x2, x3, x4, x5, x6, .ref h7, .ref h8, .ref h9, .ref h10, .ref h11, x12, x13, .int 1])), (h7, .inl (cy 1, 1000, .inl g14)), (h8, .inl (cy 1, 1000, .inl g15)), (h9, .inl (cy 1, 1000, .inl g16)), (h10, .inl (cy 1, 1000, .inl g17)), (h11, .inl (cy 1, 1000, .inl g18))] s.heap.size = A at hD hE ⊢
  have hA : ∀ q : Nat, s.heap.size ≤ q → A q := fun q h => by rw [← hAe]; exact Or.inr h
  have hS : va_S A s.heap s.heap [] := va_S.rf
  have hP : va_P D vwCl [(h1, .inr (8, [x2, x3, x4, x5, x6, .ref h7, .ref h8, .ref h9, .ref h10, .ref h11, x12, x13, .int 1])), (h7, .inl (cy 1, 1000, .inl g14)), (h8, .inl (cy 1, 1000, .inl g15)), (h9, .inl (cy 1, 1000, .inl g16)), (h10, .inl (cy 1, 1000, .inl g17)), (h11, .inl (cy 1, 1000, .inl g18))] s.heap := hP
  have hl := lv_entry ([.ref h1]) (n := 2) (Nat.le_of_ble_eq_true rfl)
  rw [lg_entry_eq]
  generalize (lg_sl ([.ref h1]) ++ List.replicate (2 - (lg_sl ([.ref h1])).length) Slot.unset).toArray = ls at hl ⊢
  have hl : lv_has ls 2 [(0, .ref h1)] := hl
  refine lv_aload_n hx hb dX6_anyRing_0 rfl (lv_at hl 0 rfl) ?_
  have hPc := hP.sub (ws' := [(h1, .inr (8, [x2, x3, x4, x5, x6, .ref h7, .ref h8, .ref h9, .ref h10, .ref h11, x12, x13, .int 1])), (h8, .inl (cy 1, 1000, .inl g15))]) [0, 2] rfl
  have hDc := hD.sub (ws' := [(h1, .inr (8, [x2, x3, x4, x5, x6, .ref h7, .ref h8, .ref h9, .ref h10, .ref h11, x12, x13, .int 1])), (h8, .inl (cy 1, 1000, .inl g15))]) [0, 2] (by decide) rfl
  have hFc := va_free (wc := [(h1, .inr (8, [x2, x3, x4, x5, x6, .ref h7, .ref h8, .ref h9, .ref h10, .ref h11, x12, x13, .int 1])), (h8, .inl (cy 1, 1000, .inl g15))]) hD hS hA [0, 2] rfl
  refine va_callv (va_runV (As := []) (rest := []) ⟨hx, hb, hml, hown, hts⟩ (k_X6_forget l D cy h1 (x2) (x3) (x4) (x5) (x6) (.ref h7) h8 (.ref h9) (.ref h10) (.ref h11) (x12) (x13) g15 s.heap.size) (cwV 0 hts gX6_anyRing_X6_forget rfl rfl rfl (by decide +kernel) ⟨(Nat.le_of_ble_eq_true rfl), (Nat.le_of_ble_eq_true rfl)⟩) ⟨kW_fb, va_recv hK hP (ci := 8) (q0 := 0) rfl rfl, (kW_go hPc hK hDc)⟩ rfl rfl hl.1 rfl (lv_room (Nat.le_of_ble_eq_true rfl)) dX6_anyRing_1 ⟨(Nat.le_of_ble_eq_true rfl), (Nat.le_of_ble_eq_true rfl)⟩) hS (fun q _ h => hFc q h) hFc (fun u t H locs ht hvm hw hB hz1 hk1 hS => ?_)
  obtain ⟨hP1, hD1⟩ := hB
  rw [ht] at hP1
  try dsimp only at hw hP1 hD1
  obtain ⟨hP, hD⟩ := va_join (wr := [(h7, .inl (cy 1, 1000, .inl g14)), (h9, .inl (cy 1, 1000, .inl g16)), (h10, .inl (cy 1, 1000, .inl g17)), (h11, .inl (cy 1, 1000, .inl g18))]) (w1 := [(h1, .inr (8, [x2, x3, x4, x5, x6, .ref h7, .ref h8, .ref h9, .ref h10, .ref h11, x12, x13, .int 1])), (h8, .inl (cy 1, 1000, .inl (upd g15 0 0)))]) hP hD [0, 2] [1, 3, 4, 5] rfl rfl (by decide) (by decide) hk1 hFc hP1 hD1
  have hP : va_P D vwCl [(h7, .inl (cy 1, 1000, .inl g14)), (h9, .inl (cy 1, 1000, .inl g16)), (h10, .inl (cy 1, 1000, .inl g17)), (h11, .inl (cy 1, 1000, .inl g18)), (h1, .inr (8, [x2, x3, x4, x5, x6, .ref h7, .ref h8, .ref h9, .ref h10, .ref h11, x12, x13, .int 1])), (h8, .inl (cy 1, 1000, .inl (upd g15 0 0)))] H := hP
  have hD : va_D A [(h7, .inl (cy 1, 1000, .inl g14)), (h9, .inl (cy 1, 1000, .inl g16)), (h10, .inl (cy 1, 1000, .inl g17)), (h11, .inl (cy 1, 1000, .inl g18)), (h1, .inr (8, [x2, x3, x4, x5, x6, .ref h7, .ref h8, .ref h9, .ref h10, .ref h11, x12, x13, .int 1])), (h8, .inl (cy 1, 1000, .inl (upd g15 0 0)))] := hD
  refine lv_iconst (v := 0) hx hb dX6_anyRing_4 (by decide) ?_
  refine lv_istore_n (lv' := [(1, .int 0), (0, .ref h1)]) hx hb dX6_anyRing_5 rfl hl (by decide) rfl (fun ls hl => ?_)
  refine lv_iload_n hx hb dX6_anyRing_6 rfl (lv_at hl 0 rfl) ?_
  refine lv_aload_n hx hb dX6_anyRing_7 rfl (lv_at hl 1 rfl) ?_
  refine va_get (D := D) (ci := 8) (v := .int 1) (C := RX6) (T := TX6) (N := 13) hx hb hts (fun _ h => (List.mem_cons_of_mem _ (List.mem_append_left _ (List.mem_append_left _ (List.mem_append_right _ h))))) hown hK hP 4 rfl rfl 12 (by decide) (hts (.fieldLink RX6 98 "SelfishJunction$Survey" "filled" "I") (List.mem_cons_of_mem _ (List.mem_append_left _ (List.mem_append_left _ (List.mem_append_left _ (List.mem_append_left _ (List.mem_of_getElem? (i := 0) rfl))))))) (fun _ h9 => h9) rfl dX6_anyRing_8 ?_
  refine lv_icmp_ge (tgt := 39) hx hb dX6_anyRing_11 (by decide) (fun h => absurd h (by decide)) (fun _ => ?_)
  refine lv_aload_n hx hb dX6_anyRing_14 rfl (lv_at hl 1 rfl) ?_
  refine va_get (D := D) (ci := 8) (v := .ref h8) (C := RX6) (T := TX6) (N := 13) hx hb hts (fun _ h => (List.mem_cons_of_mem _ (List.mem_append_left _ (List.mem_append_left _ (List.mem_append_right _ h))))) hown hK hP 4 rfl rfl 6 (by decide) (hts (.fieldLink RX6 30 "SelfishJunction$Survey" "marks" "[I") (List.mem_cons_of_mem _ (List.mem_append_left _ (List.mem_append_left _ (List.mem_append_left _ (List.mem_append_left _ (List.mem_of_getElem? (i := 1) rfl))))))) (fun _ h9 => h9) rfl dX6_anyRing_15 ?_
  refine lv_iload_n hx hb dX6_anyRing_18 rfl (lv_at hl 0 rfl) ?_
  refine va_iald hx hb hK hP 5 1 rfl rfl (kx_in 0 1000 rfl ⟨(Nat.le_of_ble_eq_true rfl), (Nat.le_of_ble_eq_true rfl)⟩ (Nat.le_of_ble_eq_true rfl)) dX6_anyRing_19 ?_
  refine lv_topi (fun v_2 ev_2 => ?_)
  obtain rfl : v_2 = 0 := ev_2.trans rfl
  refine lv_if_ne (tgt := 33) hx hb dX6_anyRing_20 (by decide) (fun h => absurd (by decide) h) (fun _ => ?_)
  refine lv_aload_n hx hb dX6_anyRing_23 rfl (lv_at hl 1 rfl) ?_
  refine lv_iload_n hx hb dX6_anyRing_24 rfl (lv_at hl 0 rfl) ?_
  have hPc := hP.sub (ws' := [(h1, .inr (8, [x2, x3, x4, x5, x6, .ref h7, .ref h8, .ref h9, .ref h10, .ref h11, x12, x13, .int 1])), (h7, .inl (cy 1, 1000, .inl g14)), (h8, .inl (cy 1, 1000, .inl (upd g15 0 0))), (h9, .inl (cy 1, 1000, .inl g16)), (h10, .inl (cy 1, 1000, .inl g17)), (h11, .inl (cy 1, 1000, .inl g18))]) [4, 0, 5, 1, 2, 3] rfl
  have hDc := hD.sub (ws' := [(h1, .inr (8, [x2, x3, x4, x5, x6, .ref h7, .ref h8, .ref h9, .ref h10, .ref h11, x12, x13, .int 1])), (h7, .inl (cy 1, 1000, .inl g14)), (h8, .inl (cy 1, 1000, .inl (upd g15 0 0))), (h9, .inl (cy 1, 1000, .inl g16)), (h10, .inl (cy 1, 1000, .inl g17)), (h11, .inl (cy 1, 1000, .inl g18))]) [4, 0, 5, 1, 2, 3] (by decide) rfl
  have hFc := va_free (wc := [(h1, .inr (8, [x2, x3, x4, x5, x6, .ref h7, .ref h8, .ref h9, .ref h10, .ref h11, x12, x13, .int 1])), (h7, .inl (cy 1, 1000, .inl g14)), (h8, .inl (cy 1, 1000, .inl (upd g15 0 0))), (h9, .inl (cy 1, 1000, .inl g16)), (h10, .inl (cy 1, 1000, .inl g17)), (h11, .inl (cy 1, 1000, .inl g18))]) hD hS hA [4, 0, 5, 1, 2, 3] rfl
  refine va_calli (va_runV (As := [.int 0]) (rest := []) ⟨hx, hb, hml, hown, hts⟩ (k_X6_meetsRing l hl9 D cy h1 (x2) (x3) (x4) (x5) (x6) h7 h8 h9 h10 h11 (x12) (x13) (.int 1) g14 (kg14_0) (upd g15 0 0) (rfl) g16 g17 (kg17_0) g18 (kg18_0) H.size) (cwV 1 hts gX6_anyRing_X6_meetsRing rfl rfl rfl (by decide +kernel) ⟨(Nat.le_of_ble_eq_true rfl), (Nat.le_of_ble_eq_true rfl)⟩) ⟨kWX_fb, va_recv hK hP (ci := 8) (q0 := 4) rfl rfl, (kWX_go hPc hK hDc hFc hE hS)⟩ rfl rfl hl.1 rfl (lv_room (Nat.le_of_ble_eq_true rfl)) dX6_anyRing_25 ⟨(Nat.le_of_ble_eq_true rfl), (Nat.le_of_ble_eq_true rfl)⟩) hS (fun q _ h => hFc q h) hFc (fun r9 u t H locs ht hvm hw hB hz1 hk1 hS => ?_)
  obtain ⟨hP1, hD1⟩ := hB
  rw [ht] at hP1
  try dsimp only at hw hP1 hD1
  obtain ⟨hP, hD⟩ := va_join (wr := []) (w1 := [(h1, .inr (8, [x2, x3, x4, x5, x6, .ref h7, .ref h8, .ref h9, .ref h10, .ref h11, x12, x13, .int 1])), (h7, .inl (cy 1, 1000, .inl g14)), (h8, .inl (cy 1, 1000, .inl (upd (upd g15 0 0) 0 2))), (h9, .inl (cy 1, 1000, .inl (upd g16 0 0))), (h10, .inl (cy 1, 1000, .inl (upd g17 0 30))), (h11, .inl (cy 1, 1000, .inl (upd g18 0 0)))]) hP hD [4, 0, 5, 1, 2, 3] [] rfl rfl (by decide) (by decide) hk1 hFc hP1 hD1
  have hP : va_P D vwCl [(h1, .inr (8, [x2, x3, x4, x5, x6, .ref h7, .ref h8, .ref h9, .ref h10, .ref h11, x12, x13, .int 1])), (h7, .inl (cy 1, 1000, .inl g14)), (h8, .inl (cy 1, 1000, .inl (upd (upd g15 0 0) 0 2))), (h9, .inl (cy 1, 1000, .inl (upd g16 0 0))), (h10, .inl (cy 1, 1000, .inl (upd g17 0 30))), (h11, .inl (cy 1, 1000, .inl (upd g18 0 0)))] H := hP
  have hD : va_D A [(h1, .inr (8, [x2, x3, x4, x5, x6, .ref h7, .ref h8, .ref h9, .ref h10, .ref h11, x12, x13, .int 1])), (h7, .inl (cy 1, 1000, .inl g14)), (h8, .inl (cy 1, 1000, .inl (upd (upd g15 0 0) 0 2))), (h9, .inl (cy 1, 1000, .inl (upd g16 0 0))), (h10, .inl (cy 1, 1000, .inl (upd g17 0 30))), (h11, .inl (cy 1, 1000, .inl (upd g18 0 0)))] := hD
  obtain ⟨rfl, hw⟩ := hw
  refine lv_if_eq (tgt := 33) hx hb dX6_anyRing_28 (by decide) (fun _ => ?_) (fun h => absurd (by decide) h)
  refine lv_iinc (v := 1) (lv' := [(1, .int 1), (0, .ref h1)]) hx hb dX6_anyRing_33 hl (k := 0) rfl (by decide) (by decide) rfl (fun ls hl => ?_)
  refine lv_goto (tgt := 6) hx hb dX6_anyRing_36 (by decide) ?_
  refine lv_iload_n hx hb dX6_anyRing_6 rfl (lv_at hl 0 rfl) ?_
  refine lv_aload_n hx hb dX6_anyRing_7 rfl (lv_at hl 1 rfl) ?_
  refine va_get (D := D) (ci := 8) (v := .int 1) (C := RX6) (T := TX6) (N := 13) hx hb hts (fun _ h => (List.mem_cons_of_mem _ (List.mem_append_left _ (List.mem_append_left _ (List.mem_append_right _ h))))) hown hK hP 0 rfl rfl 12 (by decide) (hts (.fieldLink RX6 98 "SelfishJunction$Survey" "filled" "I") (List.mem_cons_of_mem _ (List.mem_append_left _ (List.mem_append_left _ (List.mem_append_left _ (List.mem_append_left _ (List.mem_of_getElem? (i := 0) rfl))))))) (fun _ h9 => h9) rfl dX6_anyRing_8 ?_
  refine lv_icmp_ge (tgt := 39) hx hb dX6_anyRing_11 (by decide) (fun _ => ?_) (fun h => absurd (by decide) h)
  refine lv_iconst (v := 0) hx hb dX6_anyRing_39 (by decide) ?_
  refine W.widen (k := 0) (n := 0) (Nat.le_of_ble_eq_true rfl) (Nat.le_of_ble_eq_true rfl) ?_
  have hP9 := hP.sub (ws' := [(h1, .inr (8, [x2, x3, x4, x5, x6, .ref h7, .ref h8, .ref h9, .ref h10, .ref h11, x12, x13, .int 1])), (h7, .inl (cy 1, 1000, .inl g14)), (h8, .inl (cy 1, 1000, .inl (upd (upd g15 0 0) 0 2))), (h9, .inl (cy 1, 1000, .inl (upd g16 0 0))), (h10, .inl (cy 1, 1000, .inl (upd g17 0 30))), (h11, .inl (cy 1, 1000, .inl (upd g18 0 0)))]) [0, 1, 2, 3, 4, 5] rfl
  have hD9 := hD.sub (ws' := [(h1, .inr (8, [x2, x3, x4, x5, x6, .ref h7, .ref h8, .ref h9, .ref h10, .ref h11, x12, x13, .int 1])), (h7, .inl (cy 1, 1000, .inl g14)), (h8, .inl (cy 1, 1000, .inl (upd (upd g15 0 0) 0 2))), (h9, .inl (cy 1, 1000, .inl (upd g16 0 0))), (h10, .inl (cy 1, 1000, .inl (upd g17 0 30))), (h11, .inl (cy 1, 1000, .inl (upd g18 0 0)))]) [0, 1, 2, 3, 4, 5] (by decide) rfl
  exact W.zret (v := 0) hx hb hr rfl (fun t ht hW => ⟨⟨0, (), rfl, ⟨rfl, trivial⟩, ⟨by rw [ht]; exact hP9, hD9⟩⟩, hS.F ht⟩) hS.2.2 dX6_anyRing_40
theorem dX7_isSound_0 : decode cX7_isSound 0 = .ok (.aload_n 0, 1) := by decide +kernel
theorem dX7_isSound_1 : decode cX7_isSound 1 = .ok (.getfield 10, 3) := by decide +kernel
theorem dX7_isSound_4 : decode cX7_isSound 4 = .ok (.aload_n 0, 1) := by decide +kernel
theorem dX7_isSound_5 : decode cX7_isSound 5 = .ok (.getfield 19, 3) := by decide +kernel
theorem dX7_isSound_8 : decode cX7_isSound 8 = .ok (.invokevirtual 355, 3) := by decide +kernel
set_option maxRecDepth 20000 in
theorem ggX7_isSound_X0_isBalanced : GoodIn wsX7_isSound wsX0_isBalanced := goodIn_ca (goodIn_r _ [9, 10, 11, 12, 13, 14, 15, 16, 17, 18, 19, 20, 21, 22, 23, 24, 25, 26, 27, 28, 29, 178, 179, 180, 181, 182, 183, 184, 185, 186, 187, 188, 189, 190] (by decide +kernel) (by decide +kernel)) (goodIn_sub (fun _ h => List.mem_cons_of_mem _ (List.mem_append_left _ (List.mem_append_right _ h))) (by decide +kernel))
set_option maxRecDepth 20000 in
theorem gX7_isSound_X0_isBalanced : GoodIn wsX7_isSound (wsV RX7 355 RX0 yX0_isBalanced wsX0_isBalanced) := goodIn_app (goodIn_of _ (by decide +kernel)) ggX7_isSound_X0_isBalanced
theorem dX7_isSound_11 : decode cX7_isSound 11 = .ok (.ifCond .ne 5, 3) := by decide +kernel
theorem dX7_isSound_16 : decode cX7_isSound 16 = .ok (.aload_n 0, 1) := by decide +kernel
theorem dX7_isSound_17 : decode cX7_isSound 17 = .ok (.getfield 10, 3) := by decide +kernel
theorem dX7_isSound_20 : decode cX7_isSound 20 = .ok (.aload_n 0, 1) := by decide +kernel
theorem dX7_isSound_21 : decode cX7_isSound 21 = .ok (.getfield 19, 3) := by decide +kernel
theorem dX7_isSound_24 : decode cX7_isSound 24 = .ok (.invokevirtual 248, 3) := by decide +kernel
set_option maxRecDepth 20000 in
theorem ggX7_isSound_X0_isEven : GoodIn wsX7_isSound wsX0_isEven := goodIn_ca (goodIn_r _ [33, 12, 15, 13, 14, 34, 178, 179, 180, 181, 182, 183, 184, 185, 186, 187, 188, 189, 190] (by decide +kernel) (by decide +kernel)) (goodIn_sub (fun _ h => List.mem_cons_of_mem _ (List.mem_append_left _ (List.mem_append_right _ h))) (by decide +kernel))
set_option maxRecDepth 20000 in
theorem gX7_isSound_X0_isEven : GoodIn wsX7_isSound (wsV RX7 248 RX0 yX0_isEven wsX0_isEven) := goodIn_app (goodIn_of _ (by decide +kernel)) ggX7_isSound_X0_isEven
theorem dX7_isSound_27 : decode cX7_isSound 27 = .ok (.ifCond .ne 5, 3) := by decide +kernel
theorem dX7_isSound_32 : decode cX7_isSound 32 = .ok (.aload_n 0, 1) := by decide +kernel
theorem dX7_isSound_33 : decode cX7_isSound 33 = .ok (.getfield 29, 3) := by decide +kernel
theorem dX7_isSound_36 : decode cX7_isSound 36 = .ok (.aload_n 0, 1) := by decide +kernel
theorem dX7_isSound_37 : decode cX7_isSound 37 = .ok (.getfield 10, 3) := by decide +kernel
theorem dX7_isSound_40 : decode cX7_isSound 40 = .ok (.aload_n 0, 1) := by decide +kernel
theorem dX7_isSound_41 : decode cX7_isSound 41 = .ok (.getfield 19, 3) := by decide +kernel
theorem dX7_isSound_44 : decode cX7_isSound 44 = .ok (.invokevirtual 257, 3) := by decide +kernel
set_option maxRecDepth 20000 in
theorem ggX7_isSound_X6_number : GoodIn wsX7_isSound wsX6_number := goodIn_ca (goodIn_r _ [39, 40, 41, 42, 43, 44, 45, 46, 47, 48, 49, 50, 51, 8, 52, 13, 53, 15, 54, 55, 56, 57, 58, 16, 17, 18, 19, 20, 21, 22, 59, 60, 61, 38, 62, 63, 64, 165, 166, 167, 168, 169, 170, 171, 172, 173, 174, 175, 176, 177, 182, 183, 184, 178, 179, 180, 181, 185, 186, 187, 188, 189, 190] (by decide +kernel) (by decide +kernel)) (goodIn_sub (fun _ h => List.mem_cons_of_mem _ (List.mem_append_left _ (List.mem_append_right _ h))) (by decide +kernel))
set_option maxRecDepth 20000 in
theorem gX7_isSound_X6_number : GoodIn wsX7_isSound (wsV RX7 257 RX6 yX6_number wsX6_number) := goodIn_app (goodIn_of _ (by decide +kernel)) ggX7_isSound_X6_number
theorem dX7_isSound_47 : decode cX7_isSound 47 = .ok (.aload_n 0, 1) := by decide +kernel
theorem dX7_isSound_48 : decode cX7_isSound 48 = .ok (.getfield 29, 3) := by decide +kernel
theorem dX7_isSound_51 : decode cX7_isSound 51 = .ok (.getfield 261, 3) := by decide +kernel
theorem dX7_isSound_54 : decode cX7_isSound 54 = .ok (.sipush 1000, 3) := by decide +kernel
theorem dX7_isSound_57 : decode cX7_isSound 57 = .ok (.if_icmp .le 5, 3) := by decide +kernel
theorem dX7_isSound_62 : decode cX7_isSound 62 = .ok (.aload_n 0, 1) := by decide +kernel
theorem dX7_isSound_63 : decode cX7_isSound 63 = .ok (.getfield 29, 3) := by decide +kernel
theorem dX7_isSound_66 : decode cX7_isSound 66 = .ok (.aload_n 0, 1) := by decide +kernel
theorem dX7_isSound_67 : decode cX7_isSound 67 = .ok (.getfield 10, 3) := by decide +kernel
theorem dX7_isSound_70 : decode cX7_isSound 70 = .ok (.invokevirtual 358, 3) := by decide +kernel
set_option maxRecDepth 20000 in
theorem ggX7_isSound_X6_fill : GoodIn wsX7_isSound wsX6_fill := goodIn_ca (goodIn_ca (goodIn_r _ [68, 42, 69, 70, 71, 72, 73, 74, 40, 75, 76, 77, 78, 38, 79, 43, 63, 48, 80, 81, 82, 83, 45, 44, 84, 85, 86, 8, 87, 13, 15, 10, 11, 14, 16, 17, 18, 19, 20, 21, 22, 88, 89, 90, 91, 92, 93, 94, 12, 95, 96, 97, 98, 99, 100, 101, 102, 103, 104, 105, 106, 107, 50, 51, 52, 53, 108, 109, 110, 111, 112, 113, 114, 115, 116, 34, 117, 55, 56, 57, 58, 165, 166, 167, 168, 169, 170, 171, 172, 173, 174, 175, 176, 177, 178, 179, 180, 181, 182, 183, 184, 185, 186, 187, 188, 189, 190, 191, 192, 193, 194, 195, 196, 197] (by decide +kernel) (by decide +kernel)) (goodIn_sub (fun _ h => List.mem_cons_of_mem _ (List.mem_append_left _ (List.mem_append_right _ h))) (by decide +kernel))) (goodIn_sub (fun _ h => List.mem_cons_of_mem _ (List.mem_append_right _ h)) (by decide +kernel))
set_option maxRecDepth 20000 in
theorem gX7_isSound_X6_fill : GoodIn wsX7_isSound (wsV RX7 358 RX6 yX6_fill wsX6_fill) := goodIn_app (goodIn_of _ (by decide +kernel)) ggX7_isSound_X6_fill
theorem dX7_isSound_73 : decode cX7_isSound 73 = .ok (.aload_n 0, 1) := by decide +kernel
theorem dX7_isSound_74 : decode cX7_isSound 74 = .ok (.getfield 29, 3) := by decide +kernel
theorem dX7_isSound_77 : decode cX7_isSound 77 = .ok (.invokevirtual 267, 3) := by decide +kernel
set_option maxRecDepth 20000 in
theorem ggX7_isSound_X6_countAtRest : GoodIn wsX7_isSound wsX6_countAtRest := goodIn_ca (goodIn_r _ [121, 73, 122, 123, 124, 38, 125, 75, 165, 166, 167, 168, 169, 170, 171, 172, 173, 174, 175, 176, 177] (by decide +kernel) (by decide +kernel)) (goodIn_sub (fun _ h => List.mem_cons_of_mem _ (List.mem_append_left _ (List.mem_append_right _ h))) (by decide +kernel))
set_option maxRecDepth 20000 in
theorem gX7_isSound_X6_countAtRest : GoodIn wsX7_isSound (wsV RX7 267 RX6 yX6_countAtRest wsX6_countAtRest) := goodIn_app (goodIn_of _ (by decide +kernel)) ggX7_isSound_X6_countAtRest
theorem dX7_isSound_80 : decode cX7_isSound 80 = .ok (.ifCond .le 17, 3) := by decide +kernel
theorem dX7_isSound_83 : decode cX7_isSound 83 = .ok (.aload_n 0, 1) := by decide +kernel
theorem dX7_isSound_84 : decode cX7_isSound 84 = .ok (.getfield 29, 3) := by decide +kernel
theorem dX7_isSound_87 : decode cX7_isSound 87 = .ok (.invokevirtual 291, 3) := by decide +kernel
set_option maxRecDepth 20000 in
theorem ggX7_isSound_X6_anyRing : GoodIn wsX7_isSound wsX6_anyRing := goodIn_ca (goodIn_ca (goodIn_r _ [129, 73, 130, 131, 132, 133, 38, 134, 135, 136, 137, 138, 139, 140, 141, 75, 142, 143, 144, 145, 146, 147, 148, 149, 150, 151, 152, 71, 153, 88, 89, 90, 154, 155, 156, 157, 64, 45, 80, 81, 82, 83, 44, 165, 166, 167, 168, 169, 170, 171, 172, 173, 174, 175, 176, 177] (by decide +kernel) (by decide +kernel)) (goodIn_sub (fun _ h => List.mem_cons_of_mem _ (List.mem_append_left _ (List.mem_append_right _ h))) (by decide +kernel))) (goodIn_sub (fun _ h => List.mem_cons_of_mem _ (List.mem_append_right _ h)) (by decide +kernel))
set_option maxRecDepth 20000 in
theorem gX7_isSound_X6_anyRing : GoodIn wsX7_isSound (wsV RX7 291 RX6 yX6_anyRing wsX6_anyRing) := goodIn_app (goodIn_of _ (by decide +kernel)) ggX7_isSound_X6_anyRing
theorem dX7_isSound_90 : decode cX7_isSound 90 = .ok (.ifCond .ne 7, 3) := by decide +kernel
theorem dX7_isSound_93 : decode cX7_isSound 93 = .ok (.iconst 1, 1) := by decide +kernel
theorem dX7_isSound_94 : decode cX7_isSound 94 = .ok (.goto 4, 3) := by decide +kernel
theorem dX7_isSound_98 : decode cX7_isSound 98 = .ok (.ireturn, 1) := by decide +kernel
set_option maxHeartbeats 4000000 in
set_option maxRecDepth 100000 in
theorem k_X7_isSound (l : Launch) (hl9 : l.stackTraces = false) (D : va_G) (cy : Nat → ClassId) (h1 : Nat) (h2 : Nat) (h3 : Nat) (x4 : Value) (h5 : Nat) (x6 : Value) (x7 : Value) (x8 : Value) (x9 : Value) (x10 : Value) (x11 : Value) (x12 : Value) (x13 : Value) (x14 : Value) (x15 : Value) (x16 : Value) (h17 : Nat) (h18 : Nat) (h19 : Nat) (h20 : Nat) (h21 : Nat) (h22 : Nat) (h23 : Nat) (g24 : Nat → Int32) (g25 : Nat → Int32) (kg25_0 : g25 0 = 0) (g26 : Nat → Int32) (kg26_0 : g26 0 = 0) (g27 : Nat → Int32) (g28 : Nat → Int32) (kg28_0 : g28 0 = 0) (g29 : Nat → Int32) (kg29_0 : g29 0 = 0) (x30 : Value) (x31 : Value) (x32 : Value) (sz : Nat) : Met l yX7_isSound wsX7_isSound ({ frames := 3, cells := 0, slots := 0, locals := 69 }) (kWX D cy [.ref h1] [(h1, .inr (9, [.ref h2, .ref h3, x4, .ref h5, x6, x7, x8])), (h2, .inr (2, [x9, x10, .int 0, .int 0])), (h3, .inr (5, [x11, x12, .int 0])), (h5, .inr (8, [x13, x14, x15, x16, .ref h17, .ref h18, .ref h19, .ref h20, .ref h21, .ref h22, .ref h23, .int 0, .int 0])), (h17, .inl (cy 1, 1000, .inl g24)), (h18, .inl (cy 1, 1000, .inl g25)), (h19, .inl (cy 1, 1000, .inl g26)), (h20, .inl (cy 1, 1000, .inl g27)), (h21, .inl (cy 1, 1000, .inl g28)), (h22, .inl (cy 1, 1000, .inl g29)), (h23, .inr (5, [x30, x31, x32]))] sz) (va_Qi (fun (r : Int32) (_ : Unit) => r = 1 ∧ True) (fun (_ : Unit) (t : State) => va_P D vwCl [(h1, .inr (9, [.ref h2, .ref h3, x4, .ref h5, x6, x7, x8])), (h2, .inr (2, [x9, x10, .int 0, .int 0])), (h3, .inr (5, [x11, x12, .int 0])), (h5, .inr (8, [x13, x14, x15, x16, .ref h17, .ref h18, .ref h19, .ref h20, .ref h21, .ref h22, .ref h23, .int 1, .int 1])), (h17, .inl (cy 1, 1000, .inl (upd g24 0 0))), (h18, .inl (cy 1, 1000, .inl (upd g25 0 0))), (h19, .inl (cy 1, 1000, .inl (upd (upd g26 0 0) 0 2))), (h20, .inl (cy 1, 1000, .inl (upd g27 0 0))), (h21, .inl (cy 1, 1000, .inl (upd g28 0 30))), (h22, .inl (cy 1, 1000, .inl (upd g29 0 0))), (h23, .inr (5, [x30, x31, .int 0]))] t.heap ∧ va_D (va_A [(h1, .inr (9, [.ref h2, .ref h3, x4, .ref h5, x6, x7, x8])), (h2, .inr (2, [x9, x10, .int 0, .int 0])), (h3, .inr (5, [x11, x12, .int 0])), (h5, .inr (8, [x13, x14, x15, x16, .ref h17, .ref h18, .ref h19, .ref h20, .ref h21, .ref h22, .ref h23, .int 0, .int 0])), (h17, .inl (cy 1, 1000, .inl g24)), (h18, .inl (cy 1, 1000, .inl g25)), (h19, .inl (cy 1, 1000, .inl g26)), (h20, .inl (cy 1, 1000, .inl g27)), (h21, .inl (cy 1, 1000, .inl g28)), (h22, .inl (cy 1, 1000, .inl g29)), (h23, .inr (5, [x30, x31, x32]))] sz) [(h1, .inr (9, [.ref h2, .ref h3, x4, .ref h5, x6, x7, x8])), (h2, .inr (2, [x9, x10, .int 0, .int 0])), (h3, .inr (5, [x11, x12, .int 0])), (h5, .inr (8, [x13, x14, x15, x16, .ref h17, .ref h18, .ref h19, .ref h20, .ref h21, .ref h22, .ref h23, .int 1, .int 1])), (h17, .inl (cy 1, 1000, .inl (upd g24 0 0))), (h18, .inl (cy 1, 1000, .inl (upd g25 0 0))), (h19, .inl (cy 1, 1000, .inl (upd (upd g26 0 0) 0 2))), (h20, .inl (cy 1, 1000, .inl (upd g27 0 0))), (h21, .inl (cy 1, 1000, .inl (upd g28 0 30))), (h22, .inl (cy 1, 1000, .inl (upd g29 0 0))), (h23, .inr (5, [x30, x31, .int 0]))]) (va_A [(h1, .inr (9, [.ref h2, .ref h3, x4, .ref h5, x6, x7, x8])), (h2, .inr (2, [x9, x10, .int 0, .int 0])), (h3, .inr (5, [x11, x12, .int 0])), (h5, .inr (8, [x13, x14, x15, x16, .ref h17, .ref h18, .ref h19, .ref h20, .ref h21, .ref h22, .ref h23, .int 0, .int 0])), (h17, .inl (cy 1, 1000, .inl g24)), (h18, .inl (cy 1, 1000, .inl g25)), (h19, .inl (cy 1, 1000, .inl g26)), (h20, .inl (cy 1, 1000, .inl g27)), (h21, .inl (cy 1, 1000, .inl g28)), (h22, .inl (cy 1, 1000, .inl g29)), (h23, .inr (5, [x30, x31, x32]))] sz)) 0 0 (va_A [(h1, .inr (9, [.ref h2, .ref h3, x4, .ref h5, x6, x7, x8])), (h2, .inr (2, [x9, x10, .int 0, .int 0])), (h3, .inr (5, [x11, x12, .int 0])), (h5, .inr (8, [x13, x14, x15, x16, .ref h17, .ref h18, .ref h19, .ref h20, .ref h21, .ref h22, .ref h23, .int 0, .int 0])), (h17, .inl (cy 1, 1000, .inl g24)), (h18, .inl (cy 1, 1000, .inl g25)), (h19, .inl (cy 1, 1000, .inl g26)), (h20, .inl (cy 1, 1000, .inl g27)), (h21, .inl (cy 1, 1000, .inl g28)), (h22, .inl (cy 1, 1000, .inl g29)), (h23, .inr (5, [x30, x31, x32]))] sz) := by
  refine Met.ofW (cc := cX7_isSound) (maxL := 1) (ret := (some .boolean)) (by decide) rfl ?_
  intro p e s m args below meth c s₁ B hml hv
  obtain ⟨rfl, hsz, hP, hK, hD0, hE⟩ := hv
  have hx := B.exec
  have hb := B.bytes
  have hr := B.returns
  have hts := atoms_spec (ws := wsX7_isSound) B.pre
  have hown : s.vm.findClass RX7 = some m.cls := findClass_of_methodNamed B.named
  have hlocks := B.notSynchronized
  subst hsz
  have hD := hD0.self (sz := s.heap.size)
  generalize hAe : va_A [(h1, .inr (9, [.ref h2, .ref h3, x4, .ref h5, x6, x7, x8])), (h2, .inr (2, [x9, x10, .int 0, .int 0])), (h3, .inr (5, [x11, x12, .int 0])), (h5, .inr (8, [x13, x14, x15, x16, .ref h17, .ref h18, .ref h19, .ref h20, .ref h21, .ref h22, .ref h23, .int 0, .int 0])), (h17, .inl (cy 1, 1000, .inl g24)), (h18, .inl (cy 1, 1000, .inl g25)), (h19, .inl (cy 1, 1000, .inl g26)), (h20, .inl (cy 1, 1000, .inl g27)), (h21, .inl (cy 1, 1000, .inl g28)), (h22, .inl (cy 1, 1000, .inl g29)), (h23, .inr (5, [x30, x31, x32]))] s.heap.size = A at hD hE ⊢
  have hA : ∀ q : Nat, s.heap.size ≤ q → A q := fun q h => by rw [← hAe]; exact Or.inr h
  have hS : va_S A s.heap s.heap [] := va_S.rf
  have hP : va_P D vwCl [(h1, .inr (9, [.ref h2, .ref h3, x4, .ref h5, x6, x7, x8])), (h2, .inr (2, [x9, x10, .int 0, .int 0])), (h3, .inr (5, [x11, x12, .int 0])), (h5, .inr (8, [x13, x14, x15, x16, .ref h17, .ref h18, .ref h19, .ref h20, .ref h21, .ref h22, .ref h23, .int 0, .int 0])), (h17, .inl (cy 1, 1000, .inl g24)), (h18, .inl (cy 1, 1000, .inl g25)), (h19, .inl (cy 1, 1000, .inl g26)), (h20, .inl (cy 1, 1000, .inl g27)), (h21, .inl (cy 1, 1000, .inl g28)), (h22, .inl (cy 1, 1000, .inl g29)), (h23, .inr (5, [x30, x31, x32]))] s.heap := hP
  have hl := lv_entry ([.ref h1]) (n := 1) (Nat.le_of_ble_eq_true rfl)
  rw [lg_entry_eq]
  generalize (lg_sl ([.ref h1]) ++ List.replicate (1 - (lg_sl ([.ref h1])).length) Slot.unset).toArray = ls at hl ⊢
  have hl : lv_has ls 1 [(0, .ref h1)] := hl
  refine lv_aload_n hx hb dX7_isSound_0 rfl (lv_at hl 0 rfl) ?_
  refine va_get (D := D) (ci := 9) (v := .ref h2) (C := RX7) (T := TX7) (N := 7) hx hb hts (fun _ h => (List.mem_cons_of_mem _ (List.mem_append_left _ (List.mem_append_left _ (List.mem_append_left _ (List.mem_append_left _ (List.mem_append_left _ (List.mem_append_left _ (List.mem_append_left _ (List.mem_append_right _ h)))))))))) hown hK hP 0 rfl rfl 0 (by decide) (hts (.fieldLink RX7 10 "SelfishJunction" "board" "LSelfishJunction$Board;") (List.mem_cons_of_mem _ (List.mem_append_left _ (List.mem_append_left _ (List.mem_append_left _ (List.mem_append_left _ (List.mem_append_left _ (List.mem_append_left _ (List.mem_append_left _ (List.mem_append_left _ (List.mem_append_left _ (List.mem_of_getElem? (i := 0) rfl)))))))))))) (fun _ h9 => h9) rfl dX7_isSound_1 ?_
  refine lv_aload_n hx hb dX7_isSound_4 rfl (lv_at hl 0 rfl) ?_
  refine va_get (D := D) (ci := 9) (v := .ref h3) (C := RX7) (T := TX7) (N := 7) hx hb hts (fun _ h => (List.mem_cons_of_mem _ (List.mem_append_left _ (List.mem_append_left _ (List.mem_append_left _ (List.mem_append_left _ (List.mem_append_left _ (List.mem_append_left _ (List.mem_append_left _ (List.mem_append_right _ h)))))))))) hown hK hP 0 rfl rfl 1 (by decide) (hts (.fieldLink RX7 19 "SelfishJunction" "now" "LSelfishJunction$Play;") (List.mem_cons_of_mem _ (List.mem_append_left _ (List.mem_append_left _ (List.mem_append_left _ (List.mem_append_left _ (List.mem_append_left _ (List.mem_append_left _ (List.mem_append_left _ (List.mem_append_left _ (List.mem_append_left _ (List.mem_of_getElem? (i := 1) rfl)))))))))))) (fun _ h9 => h9) rfl dX7_isSound_5 ?_
  have hPc := hP.sub (ws' := [(h2, .inr (2, [x9, x10, .int 0, .int 0]))]) [1] rfl
  refine va_calli (va_runV (As := [.ref h3]) (rest := []) ⟨hx, hb, hml, hown, hts⟩ (k_X0_isBalanced l D cy h2 h3 (x9) (x10)) (cwV 1 hts gX7_isSound_X0_isBalanced rfl rfl rfl (by decide +kernel) ⟨(Nat.le_of_ble_eq_true rfl), (Nat.le_of_ble_eq_true rfl)⟩) ⟨kR_fb, va_recv hK hP (ci := 2) (q0 := 1) rfl rfl, (kR_go hPc hK)⟩ rfl rfl hl.1 rfl (lv_room (Nat.le_of_ble_eq_true rfl)) dX7_isSound_8 ⟨(Nat.le_of_ble_eq_true rfl), (Nat.le_of_ble_eq_true rfl)⟩) hS (fun _ _ h => h.elim) (fun _ h => h.elim) (fun r9 u t H locs ht hvm hw hB hz1 hk1 hS => ?_)
  have hP := kx_kept hP hk1
  obtain ⟨rfl, hw⟩ := hw
  refine lv_if_ne (tgt := 16) hx hb dX7_isSound_11 (by decide) (fun _ => ?_) (fun h => absurd h (by decide))
  refine lv_aload_n hx hb dX7_isSound_16 rfl (lv_at hl 0 rfl) ?_
  refine va_get (D := D) (ci := 9) (v := .ref h2) (C := RX7) (T := TX7) (N := 7) hx hb hts (fun _ h => (List.mem_cons_of_mem _ (List.mem_append_left _ (List.mem_append_left _ (List.mem_append_left _ (List.mem_append_left _ (List.mem_append_left _ (List.mem_append_left _ (List.mem_append_left _ (List.mem_append_right _ h)))))))))) hown hK hP 0 rfl rfl 0 (by decide) (hts (.fieldLink RX7 10 "SelfishJunction" "board" "LSelfishJunction$Board;") (List.mem_cons_of_mem _ (List.mem_append_left _ (List.mem_append_left _ (List.mem_append_left _ (List.mem_append_left _ (List.mem_append_left _ (List.mem_append_left _ (List.mem_append_left _ (List.mem_append_left _ (List.mem_append_left _ (List.mem_of_getElem? (i := 0) rfl)))))))))))) (fun _ h9 => h9) rfl dX7_isSound_17 ?_
  refine lv_aload_n hx hb dX7_isSound_20 rfl (lv_at hl 0 rfl) ?_
  refine va_get (D := D) (ci := 9) (v := .ref h3) (C := RX7) (T := TX7) (N := 7) hx hb hts (fun _ h => (List.mem_cons_of_mem _ (List.mem_append_left _ (List.mem_append_left _ (List.mem_append_left _ (List.mem_append_left _ (List.mem_append_left _ (List.mem_append_left _ (List.mem_append_left _ (List.mem_append_right _ h)))))))))) hown hK hP 0 rfl rfl 1 (by decide) (hts (.fieldLink RX7 19 "SelfishJunction" "now" "LSelfishJunction$Play;") (List.mem_cons_of_mem _ (List.mem_append_left _ (List.mem_append_left _ (List.mem_append_left _ (List.mem_append_left _ (List.mem_append_left _ (List.mem_append_left _ (List.mem_append_left _ (List.mem_append_left _ (List.mem_append_left _ (List.mem_of_getElem? (i := 1) rfl)))))))))))) (fun _ h9 => h9) rfl dX7_isSound_21 ?_
  have hPc := hP.sub (ws' := [(h2, .inr (2, [x9, x10, .int 0, .int 0]))]) [1] rfl
  refine va_calli (va_runV (As := [.ref h3]) (rest := []) ⟨hx, hb, hml, hown, hts⟩ (k_X0_isEven l D cy h2 h3 (x9) (x10) (.int 0)) (cwV 1 hts gX7_isSound_X0_isEven rfl rfl rfl (by decide +kernel) ⟨(Nat.le_of_ble_eq_true rfl), (Nat.le_of_ble_eq_true rfl)⟩) ⟨kR_fb, va_recv hK hP (ci := 2) (q0 := 1) rfl rfl, (kR_go hPc hK)⟩ rfl rfl hl.1 rfl (lv_room (Nat.le_of_ble_eq_true rfl)) dX7_isSound_24 ⟨(Nat.le_of_ble_eq_true rfl), (Nat.le_of_ble_eq_true rfl)⟩) hS (fun _ _ h => h.elim) (fun _ h => h.elim) (fun r9 u t H locs ht hvm hw hB hz1 hk1 hS => ?_)
  have hP := kx_kept hP hk1
  obtain ⟨rfl, hw⟩ := hw
  refine lv_if_ne (tgt := 32) hx hb dX7_isSound_27 (by decide) (fun _ => ?_) (fun h => absurd h (by decide))
  refine lv_aload_n hx hb dX7_isSound_32 rfl (lv_at hl 0 rfl) ?_
  refine va_get (D := D) (ci := 9) (v := .ref h5) (C := RX7) (T := TX7) (N := 7) hx hb hts (fun _ h => (List.mem_cons_of_mem _ (List.mem_append_left _ (List.mem_append_left _ (List.mem_append_left _ (List.mem_append_left _ (List.mem_append_left _ (List.mem_append_left _ (List.mem_append_left _ (List.mem_append_right _ h)))))))))) hown hK hP 0 rfl rfl 3 (by decide) (hts (.fieldLink RX7 29 "SelfishJunction" "survey" "LSelfishJunction$Survey;") (List.mem_cons_of_mem _ (List.mem_append_left _ (List.mem_append_left _ (List.mem_append_left _ (List.mem_append_left _ (List.mem_append_left _ (List.mem_append_left _ (List.mem_append_left _ (List.mem_append_left _ (List.mem_append_left _ (List.mem_of_getElem? (i := 2) rfl)))))))))))) (fun _ h9 => h9) rfl dX7_isSound_33 ?_
  refine lv_aload_n hx hb dX7_isSound_36 rfl (lv_at hl 0 rfl) ?_
  refine va_get (D := D) (ci := 9) (v := .ref h2) (C := RX7) (T := TX7) (N := 7) hx hb hts (fun _ h => (List.mem_cons_of_mem _ (List.mem_append_left _ (List.mem_append_left _ (List.mem_append_left _ (List.mem_append_left _ (List.mem_append_left _ (List.mem_append_left _ (List.mem_append_left _ (List.mem_append_right _ h)))))))))) hown hK hP 0 rfl rfl 0 (by decide) (hts (.fieldLink RX7 10 "SelfishJunction" "board" "LSelfishJunction$Board;") (List.mem_cons_of_mem _ (List.mem_append_left _ (List.mem_append_left _ (List.mem_append_left _ (List.mem_append_left _ (List.mem_append_left _ (List.mem_append_left _ (List.mem_append_left _ (List.mem_append_left _ (List.mem_append_left _ (List.mem_of_getElem? (i := 0) rfl)))))))))))) (fun _ h9 => h9) rfl dX7_isSound_37 ?_
  refine lv_aload_n hx hb dX7_isSound_40 rfl (lv_at hl 0 rfl) ?_
  refine va_get (D := D) (ci := 9) (v := .ref h3) (C := RX7) (T := TX7) (N := 7) hx hb hts (fun _ h => (List.mem_cons_of_mem _ (List.mem_append_left _ (List.mem_append_left _ (List.mem_append_left _ (List.mem_append_left _ (List.mem_append_left _ (List.mem_append_left _ (List.mem_append_left _ (List.mem_append_right _ h)))))))))) hown hK hP 0 rfl rfl 1 (by decide) (hts (.fieldLink RX7 19 "SelfishJunction" "now" "LSelfishJunction$Play;") (List.mem_cons_of_mem _ (List.mem_append_left _ (List.mem_append_left _ (List.mem_append_left _ (List.mem_append_left _ (List.mem_append_left _ (List.mem_append_left _ (List.mem_append_left _ (List.mem_append_left _ (List.mem_append_left _ (List.mem_of_getElem? (i := 1) rfl)))))))))))) (fun _ h9 => h9) rfl dX7_isSound_41 ?_
  have hPc := hP.sub (ws' := [(h5, .inr (8, [x13, x14, x15, x16, .ref h17, .ref h18, .ref h19, .ref h20, .ref h21, .ref h22, .ref h23, .int 0, .int 0])), (h2, .inr (2, [x9, x10, .int 0, .int 0])), (h3, .inr (5, [x11, x12, .int 0])), (h23, .inr (5, [x30, x31, x32]))]) [3, 1, 2, 10] rfl
  have hDc := hD.sub (ws' := [(h5, .inr (8, [x13, x14, x15, x16, .ref h17, .ref h18, .ref h19, .ref h20, .ref h21, .ref h22, .ref h23, .int 0, .int 0])), (h2, .inr (2, [x9, x10, .int 0, .int 0])), (h3, .inr (5, [x11, x12, .int 0])), (h23, .inr (5, [x30, x31, x32]))]) [3, 1, 2, 10] (by decide) rfl
  have hFc := va_free (wc := [(h5, .inr (8, [x13, x14, x15, x16, .ref h17, .ref h18, .ref h19, .ref h20, .ref h21, .ref h22, .ref h23, .int 0, .int 0])), (h2, .inr (2, [x9, x10, .int 0, .int 0])), (h3, .inr (5, [x11, x12, .int 0])), (h23, .inr (5, [x30, x31, x32]))]) hD hS hA [3, 1, 2, 10] rfl
  refine va_callv (va_runV (As := [.ref h2, .ref h3]) (rest := []) ⟨hx, hb, hml, hown, hts⟩ (k_X6_number l D cy h5 h2 h3 (x13) (x14) (x15) (x16) (.ref h17) (.ref h18) (.ref h19) (.ref h20) (.ref h21) (.ref h22) h23 (.int 0) (.int 0) (x9) (x10) (.int 0) (x11) (x12) (x30) (x31) (x32) H.size) (cwV 2 hts gX7_isSound_X6_number rfl rfl rfl (by decide +kernel) ⟨(Nat.le_of_ble_eq_true rfl), (Nat.le_of_ble_eq_true rfl)⟩) ⟨kW_fb, va_recv hK hP (ci := 8) (q0 := 3) rfl rfl, (kW_go hPc hK hDc)⟩ rfl rfl hl.1 rfl (lv_room (Nat.le_of_ble_eq_true rfl)) dX7_isSound_44 ⟨(Nat.le_of_ble_eq_true rfl), (Nat.le_of_ble_eq_true rfl)⟩) hS (fun q _ h => hFc q h) hFc (fun u t H locs ht hvm hw hB hz1 hk1 hS => ?_)
  obtain ⟨hP1, hD1⟩ := hB
  rw [ht] at hP1
  try dsimp only at hw hP1 hD1
  obtain ⟨hP, hD⟩ := va_join (wr := [(h1, .inr (9, [.ref h2, .ref h3, x4, .ref h5, x6, x7, x8])), (h17, .inl (cy 1, 1000, .inl g24)), (h18, .inl (cy 1, 1000, .inl g25)), (h19, .inl (cy 1, 1000, .inl g26)), (h20, .inl (cy 1, 1000, .inl g27)), (h21, .inl (cy 1, 1000, .inl g28)), (h22, .inl (cy 1, 1000, .inl g29))]) (w1 := [(h5, .inr (8, [x13, x14, x15, x16, .ref h17, .ref h18, .ref h19, .ref h20, .ref h21, .ref h22, .ref h23, .int 1, .int 0])), (h2, .inr (2, [x9, x10, .int 0, .int 0])), (h3, .inr (5, [x11, x12, .int 0])), (h23, .inr (5, [x30, x31, .int 0]))]) hP hD [3, 1, 2, 10] [0, 4, 5, 6, 7, 8, 9] rfl rfl (by decide) (by decide) hk1 hFc hP1 hD1
  have hP : va_P D vwCl [(h1, .inr (9, [.ref h2, .ref h3, x4, .ref h5, x6, x7, x8])), (h17, .inl (cy 1, 1000, .inl g24)), (h18, .inl (cy 1, 1000, .inl g25)), (h19, .inl (cy 1, 1000, .inl g26)), (h20, .inl (cy 1, 1000, .inl g27)), (h21, .inl (cy 1, 1000, .inl g28)), (h22, .inl (cy 1, 1000, .inl g29)), (h5, .inr (8, [x13, x14, x15, x16, .ref h17, .ref h18, .ref h19, .ref h20, .ref h21, .ref h22, .ref h23, .int 1, .int 0])), (h2, .inr (2, [x9, x10, .int 0, .int 0])), (h3, .inr (5, [x11, x12, .int 0])), (h23, .inr (5, [x30, x31, .int 0]))] H := hP
  have hD : va_D A [(h1, .inr (9, [.ref h2, .ref h3, x4, .ref h5, x6, x7, x8])), (h17, .inl (cy 1, 1000, .inl g24)), (h18, .inl (cy 1, 1000, .inl g25)), (h19, .inl (cy 1, 1000, .inl g26)), (h20, .inl (cy 1, 1000, .inl g27)), (h21, .inl (cy 1, 1000, .inl g28)), (h22, .inl (cy 1, 1000, .inl g29)), (h5, .inr (8, [x13, x14, x15, x16, .ref h17, .ref h18, .ref h19, .ref h20, .ref h21, .ref h22, .ref h23, .int 1, .int 0])), (h2, .inr (2, [x9, x10, .int 0, .int 0])), (h3, .inr (5, [x11, x12, .int 0])), (h23, .inr (5, [x30, x31, .int 0]))] := hD
  refine lv_aload_n hx hb dX7_isSound_47 rfl (lv_at hl 0 rfl) ?_
  refine va_get (D := D) (ci := 9) (v := .ref h5) (C := RX7) (T := TX7) (N := 7) hx hb hts (fun _ h => (List.mem_cons_of_mem _ (List.mem_append_left _ (List.mem_append_left _ (List.mem_append_left _ (List.mem_append_left _ (List.mem_append_left _ (List.mem_append_left _ (List.mem_append_left _ (List.mem_append_right _ h)))))))))) hown hK hP 0 rfl rfl 3 (by decide) (hts (.fieldLink RX7 29 "SelfishJunction" "survey" "LSelfishJunction$Survey;") (List.mem_cons_of_mem _ (List.mem_append_left _ (List.mem_append_left _ (List.mem_append_left _ (List.mem_append_left _ (List.mem_append_left _ (List.mem_append_left _ (List.mem_append_left _ (List.mem_append_left _ (List.mem_append_left _ (List.mem_of_getElem? (i := 2) rfl)))))))))))) (fun _ h9 => h9) rfl dX7_isSound_48 ?_
  refine va_get (D := D) (ci := 8) (v := .int 1) (C := RX6) (T := TX6) (N := 13) hx hb hts (fun _ h => (List.mem_cons_of_mem _ (List.mem_append_left _ (List.mem_append_left _ (List.mem_append_left _ (List.mem_append_left _ (List.mem_append_left _ (List.mem_append_left _ (List.mem_append_right _ h))))))))) hown hK hP 7 rfl rfl 11 (by decide) (hts (.fieldLink RX7 261 "SelfishJunction$Survey" "count" "I") (List.mem_cons_of_mem _ (List.mem_append_left _ (List.mem_append_left _ (List.mem_append_left _ (List.mem_append_left _ (List.mem_append_left _ (List.mem_append_left _ (List.mem_append_left _ (List.mem_append_left _ (List.mem_append_left _ (List.mem_of_getElem? (i := 3) rfl)))))))))))) (fun _ h9 => h9) rfl dX7_isSound_51 ?_
  refine lv_sipush (v := 1000) hx hb dX7_isSound_54 (by decide) ?_
  refine lv_icmp_le (tgt := 62) hx hb dX7_isSound_57 (by decide) (fun _ => ?_) (fun h => absurd (by decide) h)
  refine lv_aload_n hx hb dX7_isSound_62 rfl (lv_at hl 0 rfl) ?_
  refine va_get (D := D) (ci := 9) (v := .ref h5) (C := RX7) (T := TX7) (N := 7) hx hb hts (fun _ h => (List.mem_cons_of_mem _ (List.mem_append_left _ (List.mem_append_left _ (List.mem_append_left _ (List.mem_append_left _ (List.mem_append_left _ (List.mem_append_left _ (List.mem_append_left _ (List.mem_append_right _ h)))))))))) hown hK hP 0 rfl rfl 3 (by decide) (hts (.fieldLink RX7 29 "SelfishJunction" "survey" "LSelfishJunction$Survey;") (List.mem_cons_of_mem _ (List.mem_append_left _ (List.mem_append_left _ (List.mem_append_left _ (List.mem_append_left _ (List.mem_append_left _ (List.mem_append_left _ (List.mem_append_left _ (List.mem_append_left _ (List.mem_append_left _ (List.mem_of_getElem? (i := 2) rfl)))))))))))) (fun _ h9 => h9) rfl dX7_isSound_63 ?_
  refine lv_aload_n hx hb dX7_isSound_66 rfl (lv_at hl 0 rfl) ?_
  refine va_get (D := D) (ci := 9) (v := .ref h2) (C := RX7) (T := TX7) (N := 7) hx hb hts (fun _ h => (List.mem_cons_of_mem _ (List.mem_append_left _ (List.mem_append_left _ (List.mem_append_left _ (List.mem_append_left _ (List.mem_append_left _ (List.mem_append_left _ (List.mem_append_left _ (List.mem_append_right _ h)))))))))) hown hK hP 0 rfl rfl 0 (by decide) (hts (.fieldLink RX7 10 "SelfishJunction" "board" "LSelfishJunction$Board;") (List.mem_cons_of_mem _ (List.mem_append_left _ (List.mem_append_left _ (List.mem_append_left _ (List.mem_append_left _ (List.mem_append_left _ (List.mem_append_left _ (List.mem_append_left _ (List.mem_append_left _ (List.mem_append_left _ (List.mem_of_getElem? (i := 0) rfl)))))))))))) (fun _ h9 => h9) rfl dX7_isSound_67 ?_
  have hPc := hP.sub (ws' := [(h5, .inr (8, [x13, x14, x15, x16, .ref h17, .ref h18, .ref h19, .ref h20, .ref h21, .ref h22, .ref h23, .int 1, .int 0])), (h2, .inr (2, [x9, x10, .int 0, .int 0])), (h17, .inl (cy 1, 1000, .inl g24)), (h18, .inl (cy 1, 1000, .inl g25))]) [7, 8, 1, 2] rfl
  have hDc := hD.sub (ws' := [(h5, .inr (8, [x13, x14, x15, x16, .ref h17, .ref h18, .ref h19, .ref h20, .ref h21, .ref h22, .ref h23, .int 1, .int 0])), (h2, .inr (2, [x9, x10, .int 0, .int 0])), (h17, .inl (cy 1, 1000, .inl g24)), (h18, .inl (cy 1, 1000, .inl g25))]) [7, 8, 1, 2] (by decide) rfl
  have hFc := va_free (wc := [(h5, .inr (8, [x13, x14, x15, x16, .ref h17, .ref h18, .ref h19, .ref h20, .ref h21, .ref h22, .ref h23, .int 1, .int 0])), (h2, .inr (2, [x9, x10, .int 0, .int 0])), (h17, .inl (cy 1, 1000, .inl g24)), (h18, .inl (cy 1, 1000, .inl g25))]) hD hS hA [7, 8, 1, 2] rfl
  refine va_callv (va_runV (As := [.ref h2]) (rest := []) ⟨hx, hb, hml, hown, hts⟩ (k_X6_fill l D cy h5 h2 (x13) (x14) (x15) (x16) h17 h18 (.ref h19) (.ref h20) (.ref h21) (.ref h22) h23 (x9) (x10) (.int 0) g24 g25 H.size) (cwV 1 hts gX7_isSound_X6_fill rfl rfl rfl (by decide +kernel) ⟨(Nat.le_of_ble_eq_true rfl), (Nat.le_of_ble_eq_true rfl)⟩) ⟨kW_fb, va_recv hK hP (ci := 8) (q0 := 7) rfl rfl, (kW_go hPc hK hDc)⟩ rfl rfl hl.1 rfl (lv_room (Nat.le_of_ble_eq_true rfl)) dX7_isSound_70 ⟨(Nat.le_of_ble_eq_true rfl), (Nat.le_of_ble_eq_true rfl)⟩) hS (fun q _ h => hFc q h) hFc (fun u t H locs ht hvm hw hB hz1 hk1 hS => ?_)
  obtain ⟨hP1, hD1⟩ := hB
  rw [ht] at hP1
  try dsimp only at hw hP1 hD1
  obtain ⟨hP, hD⟩ := va_join (wr := [(h1, .inr (9, [.ref h2, .ref h3, x4, .ref h5, x6, x7, x8])), (h19, .inl (cy 1, 1000, .inl g26)), (h20, .inl (cy 1, 1000, .inl g27)), (h21, .inl (cy 1, 1000, .inl g28)), (h22, .inl (cy 1, 1000, .inl g29)), (h3, .inr (5, [x11, x12, .int 0])), (h23, .inr (5, [x30, x31, .int 0]))]) (w1 := [(h5, .inr (8, [x13, x14, x15, x16, .ref h17, .ref h18, .ref h19, .ref h20, .ref h21, .ref h22, .ref h23, .int 1, .int 1])), (h2, .inr (2, [x9, x10, .int 0, .int 0])), (h17, .inl (cy 1, 1000, .inl (upd g24 0 0))), (h18, .inl (cy 1, 1000, .inl (upd g25 0 0)))]) hP hD [7, 8, 1, 2] [0, 3, 4, 5, 6, 9, 10] rfl rfl (by decide) (by decide) hk1 hFc hP1 hD1
  have hP : va_P D vwCl [(h1, .inr (9, [.ref h2, .ref h3, x4, .ref h5, x6, x7, x8])), (h19, .inl (cy 1, 1000, .inl g26)), (h20, .inl (cy 1, 1000, .inl g27)), (h21, .inl (cy 1, 1000, .inl g28)), (h22, .inl (cy 1, 1000, .inl g29)), (h3, .inr (5, [x11, x12, .int 0])), (h23, .inr (5, [x30, x31, .int 0])), (h5, .inr (8, [x13, x14, x15, x16, .ref h17, .ref h18, .ref h19, .ref h20, .ref h21, .ref h22, .ref h23, .int 1, .int 1])), (h2, .inr (2, [x9, x10, .int 0, .int 0])), (h17, .inl (cy 1, 1000, .inl (upd g24 0 0))), (h18, .inl (cy 1, 1000, .inl (upd g25 0 0)))] H := hP
  have hD : va_D A [(h1, .inr (9, [.ref h2, .ref h3, x4, .ref h5, x6, x7, x8])), (h19, .inl (cy 1, 1000, .inl g26)), (h20, .inl (cy 1, 1000, .inl g27)), (h21, .inl (cy 1, 1000, .inl g28)), (h22, .inl (cy 1, 1000, .inl g29)), (h3, .inr (5, [x11, x12, .int 0])), (h23, .inr (5, [x30, x31, .int 0])), (h5, .inr (8, [x13, x14, x15, x16, .ref h17, .ref h18, .ref h19, .ref h20, .ref h21, .ref h22, .ref h23, .int 1, .int 1])), (h2, .inr (2, [x9, x10, .int 0, .int 0])), (h17, .inl (cy 1, 1000, .inl (upd g24 0 0))), (h18, .inl (cy 1, 1000, .inl (upd g25 0 0)))] := hD
  refine lv_aload_n hx hb dX7_isSound_73 rfl (lv_at hl 0 rfl) ?_
  refine va_get (D := D) (ci := 9) (v := .ref h5) (C := RX7) (T := TX7) (N := 7) hx hb hts (fun _ h => (List.mem_cons_of_mem _ (List.mem_append_left _ (List.mem_append_left _ (List.mem_append_left _ (List.mem_append_left _ (List.mem_append_left _ (List.mem_append_left _ (List.mem_append_left _ (List.mem_append_right _ h)))))))))) hown hK hP 0 rfl rfl 3 (by decide) (hts (.fieldLink RX7 29 "SelfishJunction" "survey" "LSelfishJunction$Survey;") (List.mem_cons_of_mem _ (List.mem_append_left _ (List.mem_append_left _ (List.mem_append_left _ (List.mem_append_left _ (List.mem_append_left _ (List.mem_append_left _ (List.mem_append_left _ (List.mem_append_left _ (List.mem_append_left _ (List.mem_of_getElem? (i := 2) rfl)))))))))))) (fun _ h9 => h9) rfl dX7_isSound_74 ?_
  have hPc := hP.sub (ws' := [(h5, .inr (8, [x13, x14, x15, x16, .ref h17, .ref h18, .ref h19, .ref h20, .ref h21, .ref h22, .ref h23, .int 1, .int 1])), (h18, .inl (cy 1, 1000, .inl (upd g25 0 0)))]) [7, 10] rfl
  refine va_calli (va_runV (As := []) (rest := []) ⟨hx, hb, hml, hown, hts⟩ (k_X6_countAtRest l D cy h5 (x13) (x14) (x15) (x16) (.ref h17) h18 (.ref h19) (.ref h20) (.ref h21) (.ref h22) (.ref h23) (.int 1) (upd g25 0 0) (rfl)) (cwV 0 hts gX7_isSound_X6_countAtRest rfl rfl rfl (by decide +kernel) ⟨(Nat.le_of_ble_eq_true rfl), (Nat.le_of_ble_eq_true rfl)⟩) ⟨kR_fb, va_recv hK hP (ci := 8) (q0 := 7) rfl rfl, (kR_go hPc hK)⟩ rfl rfl hl.1 rfl (lv_room (Nat.le_of_ble_eq_true rfl)) dX7_isSound_77 ⟨(Nat.le_of_ble_eq_true rfl), (Nat.le_of_ble_eq_true rfl)⟩) hS (fun _ _ h => h.elim) (fun _ h => h.elim) (fun r9 u t H locs ht hvm hw hB hz1 hk1 hS => ?_)
  have hP := kx_kept hP hk1
  obtain ⟨rfl, hw⟩ := hw
  refine lv_if_le (tgt := 97) hx hb dX7_isSound_80 (by decide) (fun h => absurd h (by decide)) (fun _ => ?_)
  refine lv_aload_n hx hb dX7_isSound_83 rfl (lv_at hl 0 rfl) ?_
  refine va_get (D := D) (ci := 9) (v := .ref h5) (C := RX7) (T := TX7) (N := 7) hx hb hts (fun _ h => (List.mem_cons_of_mem _ (List.mem_append_left _ (List.mem_append_left _ (List.mem_append_left _ (List.mem_append_left _ (List.mem_append_left _ (List.mem_append_left _ (List.mem_append_left _ (List.mem_append_right _ h)))))))))) hown hK hP 0 rfl rfl 3 (by decide) (hts (.fieldLink RX7 29 "SelfishJunction" "survey" "LSelfishJunction$Survey;") (List.mem_cons_of_mem _ (List.mem_append_left _ (List.mem_append_left _ (List.mem_append_left _ (List.mem_append_left _ (List.mem_append_left _ (List.mem_append_left _ (List.mem_append_left _ (List.mem_append_left _ (List.mem_append_left _ (List.mem_of_getElem? (i := 2) rfl)))))))))))) (fun _ h9 => h9) rfl dX7_isSound_84 ?_
  have hPc := hP.sub (ws' := [(h5, .inr (8, [x13, x14, x15, x16, .ref h17, .ref h18, .ref h19, .ref h20, .ref h21, .ref h22, .ref h23, .int 1, .int 1])), (h18, .inl (cy 1, 1000, .inl (upd g25 0 0))), (h19, .inl (cy 1, 1000, .inl g26)), (h20, .inl (cy 1, 1000, .inl g27)), (h21, .inl (cy 1, 1000, .inl g28)), (h22, .inl (cy 1, 1000, .inl g29))]) [7, 10, 1, 2, 3, 4] rfl
  have hDc := hD.sub (ws' := [(h5, .inr (8, [x13, x14, x15, x16, .ref h17, .ref h18, .ref h19, .ref h20, .ref h21, .ref h22, .ref h23, .int 1, .int 1])), (h18, .inl (cy 1, 1000, .inl (upd g25 0 0))), (h19, .inl (cy 1, 1000, .inl g26)), (h20, .inl (cy 1, 1000, .inl g27)), (h21, .inl (cy 1, 1000, .inl g28)), (h22, .inl (cy 1, 1000, .inl g29))]) [7, 10, 1, 2, 3, 4] (by decide) rfl
  have hFc := va_free (wc := [(h5, .inr (8, [x13, x14, x15, x16, .ref h17, .ref h18, .ref h19, .ref h20, .ref h21, .ref h22, .ref h23, .int 1, .int 1])), (h18, .inl (cy 1, 1000, .inl (upd g25 0 0))), (h19, .inl (cy 1, 1000, .inl g26)), (h20, .inl (cy 1, 1000, .inl g27)), (h21, .inl (cy 1, 1000, .inl g28)), (h22, .inl (cy 1, 1000, .inl g29))]) hD hS hA [7, 10, 1, 2, 3, 4] rfl
  refine va_calli (va_runV (As := []) (rest := []) ⟨hx, hb, hml, hown, hts⟩ (k_X6_anyRing l hl9 D cy h5 (x13) (x14) (x15) (x16) (.ref h17) h18 h19 h20 h21 h22 (.ref h23) (.int 1) (upd g25 0 0) (rfl) g26 (kg26_0) g27 g28 (kg28_0) g29 (kg29_0) H.size) (cwV 0 hts gX7_isSound_X6_anyRing rfl rfl rfl (by decide +kernel) ⟨(Nat.le_of_ble_eq_true rfl), (Nat.le_of_ble_eq_true rfl)⟩) ⟨kWX_fb, va_recv hK hP (ci := 8) (q0 := 7) rfl rfl, (kWX_go hPc hK hDc hFc hE hS)⟩ rfl rfl hl.1 rfl (lv_room (Nat.le_of_ble_eq_true rfl)) dX7_isSound_87 ⟨(Nat.le_of_ble_eq_true rfl), (Nat.le_of_ble_eq_true rfl)⟩) hS (fun q _ h => hFc q h) hFc (fun r9 u t H locs ht hvm hw hB hz1 hk1 hS => ?_)
  obtain ⟨hP1, hD1⟩ := hB
  rw [ht] at hP1
  try dsimp only at hw hP1 hD1
  obtain ⟨hP, hD⟩ := va_join (wr := [(h1, .inr (9, [.ref h2, .ref h3, x4, .ref h5, x6, x7, x8])), (h3, .inr (5, [x11, x12, .int 0])), (h23, .inr (5, [x30, x31, .int 0])), (h2, .inr (2, [x9, x10, .int 0, .int 0])), (h17, .inl (cy 1, 1000, .inl (upd g24 0 0)))]) (w1 := [(h5, .inr (8, [x13, x14, x15, x16, .ref h17, .ref h18, .ref h19, .ref h20, .ref h21, .ref h22, .ref h23, .int 1, .int 1])), (h18, .inl (cy 1, 1000, .inl (upd g25 0 0))), (h19, .inl (cy 1, 1000, .inl (upd (upd g26 0 0) 0 2))), (h20, .inl (cy 1, 1000, .inl (upd g27 0 0))), (h21, .inl (cy 1, 1000, .inl (upd g28 0 30))), (h22, .inl (cy 1, 1000, .inl (upd g29 0 0)))]) hP hD [7, 10, 1, 2, 3, 4] [0, 5, 6, 8, 9] rfl rfl (by decide) (by decide) hk1 hFc hP1 hD1
  have hP : va_P D vwCl [(h1, .inr (9, [.ref h2, .ref h3, x4, .ref h5, x6, x7, x8])), (h3, .inr (5, [x11, x12, .int 0])), (h23, .inr (5, [x30, x31, .int 0])), (h2, .inr (2, [x9, x10, .int 0, .int 0])), (h17, .inl (cy 1, 1000, .inl (upd g24 0 0))), (h5, .inr (8, [x13, x14, x15, x16, .ref h17, .ref h18, .ref h19, .ref h20, .ref h21, .ref h22, .ref h23, .int 1, .int 1])), (h18, .inl (cy 1, 1000, .inl (upd g25 0 0))), (h19, .inl (cy 1, 1000, .inl (upd (upd g26 0 0) 0 2))), (h20, .inl (cy 1, 1000, .inl (upd g27 0 0))), (h21, .inl (cy 1, 1000, .inl (upd g28 0 30))), (h22, .inl (cy 1, 1000, .inl (upd g29 0 0)))] H := hP
  have hD : va_D A [(h1, .inr (9, [.ref h2, .ref h3, x4, .ref h5, x6, x7, x8])), (h3, .inr (5, [x11, x12, .int 0])), (h23, .inr (5, [x30, x31, .int 0])), (h2, .inr (2, [x9, x10, .int 0, .int 0])), (h17, .inl (cy 1, 1000, .inl (upd g24 0 0))), (h5, .inr (8, [x13, x14, x15, x16, .ref h17, .ref h18, .ref h19, .ref h20, .ref h21, .ref h22, .ref h23, .int 1, .int 1])), (h18, .inl (cy 1, 1000, .inl (upd g25 0 0))), (h19, .inl (cy 1, 1000, .inl (upd (upd g26 0 0) 0 2))), (h20, .inl (cy 1, 1000, .inl (upd g27 0 0))), (h21, .inl (cy 1, 1000, .inl (upd g28 0 30))), (h22, .inl (cy 1, 1000, .inl (upd g29 0 0)))] := hD
  obtain ⟨rfl, hw⟩ := hw
  refine lv_if_ne (tgt := 97) hx hb dX7_isSound_90 (by decide) (fun h => absurd (by decide) h) (fun _ => ?_)
  refine lv_iconst (v := 1) hx hb dX7_isSound_93 (by decide) ?_
  refine lv_goto (tgt := 98) hx hb dX7_isSound_94 (by decide) ?_
  refine W.widen (k := 0) (n := 0) (Nat.le_of_ble_eq_true rfl) (Nat.le_of_ble_eq_true rfl) ?_
  have hP9 := hP.sub (ws' := [(h1, .inr (9, [.ref h2, .ref h3, x4, .ref h5, x6, x7, x8])), (h2, .inr (2, [x9, x10, .int 0, .int 0])), (h3, .inr (5, [x11, x12, .int 0])), (h5, .inr (8, [x13, x14, x15, x16, .ref h17, .ref h18, .ref h19, .ref h20, .ref h21, .ref h22, .ref h23, .int 1, .int 1])), (h17, .inl (cy 1, 1000, .inl (upd g24 0 0))), (h18, .inl (cy 1, 1000, .inl (upd g25 0 0))), (h19, .inl (cy 1, 1000, .inl (upd (upd g26 0 0) 0 2))), (h20, .inl (cy 1, 1000, .inl (upd g27 0 0))), (h21, .inl (cy 1, 1000, .inl (upd g28 0 30))), (h22, .inl (cy 1, 1000, .inl (upd g29 0 0))), (h23, .inr (5, [x30, x31, .int 0]))]) [0, 3, 1, 5, 4, 6, 7, 8, 9, 10, 2] rfl
  have hD9 := hD.sub (ws' := [(h1, .inr (9, [.ref h2, .ref h3, x4, .ref h5, x6, x7, x8])), (h2, .inr (2, [x9, x10, .int 0, .int 0])), (h3, .inr (5, [x11, x12, .int 0])), (h5, .inr (8, [x13, x14, x15, x16, .ref h17, .ref h18, .ref h19, .ref h20, .ref h21, .ref h22, .ref h23, .int 1, .int 1])), (h17, .inl (cy 1, 1000, .inl (upd g24 0 0))), (h18, .inl (cy 1, 1000, .inl (upd g25 0 0))), (h19, .inl (cy 1, 1000, .inl (upd (upd g26 0 0) 0 2))), (h20, .inl (cy 1, 1000, .inl (upd g27 0 0))), (h21, .inl (cy 1, 1000, .inl (upd g28 0 30))), (h22, .inl (cy 1, 1000, .inl (upd g29 0 0))), (h23, .inr (5, [x30, x31, .int 0]))]) [0, 3, 1, 5, 4, 6, 7, 8, 9, 10, 2] (by decide) rfl
  exact W.zret (v := 1) hx hb hr rfl (fun t ht hW => ⟨⟨1, (), rfl, ⟨rfl, trivial⟩, ⟨by rw [ht]; exact hP9, hD9⟩⟩, hS.F ht⟩) hS.2.2 dX7_isSound_98
theorem dX8_isSound_0 : decode cX8_isSound 0 = .ok (.aload_n 0, 1) := by decide +kernel
theorem dX8_isSound_1 : decode cX8_isSound 1 = .ok (.iconst 0, 1) := by decide +kernel
theorem dX8_isSound_2 : decode cX8_isSound 2 = .ok (.putfield 59, 3) := by decide +kernel
theorem dX8_isSound_5 : decode cX8_isSound 5 = .ok (.iconst 1, 1) := by decide +kernel
theorem dX8_isSound_6 : decode cX8_isSound 6 = .ok (.ireturn, 1) := by decide +kernel
set_option maxHeartbeats 4000000 in
set_option maxRecDepth 100000 in
theorem k_X8_isSound (l : Launch) (D : va_G) (cy : Nat → ClassId) (h1 : Nat) (x2 : Value) (x3 : Value) (x4 : Value) (x5 : Value) (x6 : Value) (x7 : Value) (x8 : Value) (x9 : Value) (x10 : Value) (x11 : Value) (x12 : Value) (x13 : Value) (x14 : Value) (x15 : Value) (x16 : Value) (x17 : Value) (x18 : Value) (x19 : Value) (sz : Nat) : Met l yX8_isSound wsX8_isSound ({ frames := 0, cells := 0, slots := 0, locals := 0 }) (kW D cy [.ref h1] [(h1, .inr (10, [x2, x3, x4, x5, x6, x7, x8, x9, x10, x11, x12, x13, x14, x15, x16, x17, x18, x19]))] sz) (va_Qi (fun (r : Int32) (_ : Unit) => r = 1 ∧ True) (fun (_ : Unit) (t : State) => va_P D vwCl [(h1, .inr (10, [x2, x3, x4, x5, x6, x7, x8, x9, x10, x11, x12, x13, x14, x15, x16, x17, x18, .int 0]))] t.heap ∧ va_D (va_A [(h1, .inr (10, [x2, x3, x4, x5, x6, x7, x8, x9, x10, x11, x12, x13, x14, x15, x16, x17, x18, x19]))] sz) [(h1, .inr (10, [x2, x3, x4, x5, x6, x7, x8, x9, x10, x11, x12, x13, x14, x15, x16, x17, x18, .int 0]))]) (va_A [(h1, .inr (10, [x2, x3, x4, x5, x6, x7, x8, x9, x10, x11, x12, x13, x14, x15, x16, x17, x18, x19]))] sz)) 0 0 (va_A [(h1, .inr (10, [x2, x3, x4, x5, x6, x7, x8, x9, x10, x11, x12, x13, x14, x15, x16, x17, x18, x19]))] sz) := by
  refine Met.ofW (cc := cX8_isSound) (maxL := 1) (ret := (some .boolean)) (by decide) rfl ?_
  intro p e s m args below meth c s₁ B hml hv
  obtain ⟨rfl, hsz, hP, hK, hD0⟩ := hv
  have hx := B.exec
  have hb := B.bytes
  have hr := B.returns
  have hts := atoms_spec (ws := wsX8_isSound) B.pre
  have hown : s.vm.findClass RX8 = some m.cls := findClass_of_methodNamed B.named
  have hlocks := B.notSynchronized
  subst hsz
  have hD := hD0.self (sz := s.heap.size)
  generalize hAe : va_A [(h1, .inr (10, [x2, x3, x4, x5, x6, x7, x8, x9, x10, x11, x12, x13, x14, x15, x16, x17, x18, x19]))] s.heap.size = A at hD ⊢
  have hA : ∀ q : Nat, s.heap.size ≤ q → A q := fun q h => by rw [← hAe]; exact Or.inr h
  have hS : va_S A s.heap s.heap [] := va_S.rf
  have hP : va_P D vwCl [(h1, .inr (10, [x2, x3, x4, x5, x6, x7, x8, x9, x10, x11, x12, x13, x14, x15, x16, x17, x18, x19]))] s.heap := hP
  have hl := lv_entry ([.ref h1]) (n := 1) (Nat.le_of_ble_eq_true rfl)
  rw [lg_entry_eq]
  generalize (lg_sl ([.ref h1]) ++ List.replicate (1 - (lg_sl ([.ref h1])).length) Slot.unset).toArray = ls at hl ⊢
  have hl : lv_has ls 1 [(0, .ref h1)] := hl
  refine lv_aload_n hx hb dX8_isSound_0 rfl (lv_at hl 0 rfl) ?_
  refine lv_iconst (v := 0) hx hb dX8_isSound_1 (by decide) ?_
  refine va_put (D := D) (ci := 10) (v := .int 0) (ty := .int) (C := RX8) (T := TX8) (N := 18) hx hb hts (fun _ h => (List.mem_cons_of_mem _ (List.mem_append_right _ h))) tyX8 tyX8_ok nmX8 hown hK hP hD hS 0 rfl rfl 17 (by decide) (hts (.fieldLink RX8 59 "SelfishJunctionModel" "thrown" "I") (List.mem_cons_of_mem _ (List.mem_append_left _ (List.mem_of_getElem? (i := 0) rfl)))) (fun _ h9 => h9) rfl (by decide +kernel) rfl rfl (Nat.le_of_ble_eq_true rfl) dX8_isSound_2 (fun H locs hP hD hS => ?_)
  have hP : va_P D vwCl [(h1, .inr (10, [x2, x3, x4, x5, x6, x7, x8, x9, x10, x11, x12, x13, x14, x15, x16, x17, x18, .int 0]))] H := hP
  have hD : va_D A [(h1, .inr (10, [x2, x3, x4, x5, x6, x7, x8, x9, x10, x11, x12, x13, x14, x15, x16, x17, x18, .int 0]))] := hD
  refine lv_iconst (v := 1) hx hb dX8_isSound_5 (by decide) ?_
  refine W.widen (k := 0) (n := 0) (Nat.le_of_ble_eq_true rfl) (Nat.le_of_ble_eq_true rfl) ?_
  have hP9 := hP.sub (ws' := [(h1, .inr (10, [x2, x3, x4, x5, x6, x7, x8, x9, x10, x11, x12, x13, x14, x15, x16, x17, x18, .int 0]))]) [0] rfl
  have hD9 := hD.sub (ws' := [(h1, .inr (10, [x2, x3, x4, x5, x6, x7, x8, x9, x10, x11, x12, x13, x14, x15, x16, x17, x18, .int 0]))]) [0] (by decide) rfl
  exact W.zret (v := 1) hx hb hr rfl (fun t ht hW => ⟨⟨1, (), rfl, ⟨rfl, trivial⟩, ⟨by rw [ht]; exact hP9, hD9⟩⟩, hS.F ht⟩) hS.2.2 dX8_isSound_6
