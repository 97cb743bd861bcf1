theorem dX7_addWay_0 : decode cX7_addWay 0 = .ok (.aload_n 0, 1) := by decide +kernel
theorem dX7_addWay_1 : decode cX7_addWay 1 = .ok (.iload_n 1, 1) := by decide +kernel
theorem dX7_addWay_2 : decode cX7_addWay 2 = .ok (.invokevirtual 88, 3) := by decide +kernel
set_option maxRecDepth 20000 in
theorem ggX7_addWay_X7_checkPlayer : GoodIn wsX7_addWay wsX7_checkPlayer := goodIn_ca (goodIn_r _ [17, 18, 19, 7, 20, 50, 51, 52, 53, 54, 55, 56, 57, 58, 59, 60] (by decide +kernel) (by decide +kernel)) (goodIn_sub (fun _ h => List.mem_cons_of_mem _ (List.mem_append_left _ (List.mem_append_right _ h))) (by decide +kernel))
set_option maxRecDepth 20000 in
theorem gX7_addWay_X7_checkPlayer : GoodIn wsX7_addWay (wsV RX7 88 RX7 yX7_checkPlayer wsX7_checkPlayer) := goodIn_app (goodIn_of _ (by decide +kernel)) ggX7_addWay_X7_checkPlayer
set_option maxHeartbeats 4000000 in
set_option maxRecDepth 100000 in
theorem k_X7_addWay (l : Launch) (hl9 : l.stackTraces = false) (D : va_G) (cy : Nat → ClassId) (h1 : Nat) (p0 : Int32) (p1 : Int32) (h2 : Nat) (x3 : Value) (x4 : Value) (x5 : Value) (x6 : Value) (x7 : Value) (x8 : Value) (x9 : Value) (x10 : Value) (x11 : Value) : vx_Met l yX7_addWay wsX7_addWay ({ frames := 7, cells := 1, slots := 6, locals := 103 }) (kRX D cy [.ref h1, .int p0, .int p1] [(h1, .inr (9, [.ref h2, x3, x4, x5, x6, x7, x8])), (h2, .inr (2, [x9, x10, x11, .int 0]))]) (va_Qi (fun (r : Int32) (_ : Unit) => False) (fun (_ : Unit) (_ : State) => True) (fun _ : Nat => False)) (vx_X (fun _ : Unit => True) (fun (E : String) (_ : Unit) (_ : State) => (E = "java/lang/IndexOutOfBoundsException" ∧ True)) (fun _ : Nat => False)) 1 6 (fun _ : Nat => False) := by
  refine vx_ofW (cc := cX7_addWay) (maxL := 3) (ret := (some .int)) (by decide) rfl ?_
  intro p e s m args below meth c s₁ B hml ht9 hv
  obtain ⟨rfl, hP, hK, hE⟩ := hv
  have hx := B.exec
  have hb := B.bytes
  have hr := B.returns
  have hts := atoms_spec (ws := wsX7_addWay) B.pre
  have hown : s.vm.findClass RX7 = some m.cls := findClass_of_methodNamed B.named
  have hlocks := B.notSynchronized
  have hS : va_S (fun _ : Nat => False) s.heap s.heap [] := va_S.rf
  have hP : va_P D vwCl [(h1, .inr (9, [.ref h2, x3, x4, x5, x6, x7, x8])), (h2, .inr (2, [x9, x10, x11, .int 0]))] s.heap := hP
  have hl := lv_entry ([.ref h1, .int p0, .int p1]) (n := 3) (Nat.le_of_ble_eq_true rfl)
  rw [lg_entry_eq]
  generalize (lg_sl ([.ref h1, .int p0, .int p1]) ++ List.replicate (3 - (lg_sl ([.ref h1, .int p0, .int p1])).length) Slot.unset).toArray = ls at hl ⊢
  have hl : lv_has ls 3 [(0, .ref h1), (1, .int p0), (2, .int p1)] := hl
  refine lv_aload_n hx hb dX7_addWay_0 rfl (lv_at hl 0 rfl) ?_
  refine lv_iload_n hx hb dX7_addWay_1 rfl (lv_at hl 1 rfl) ?_
  have hPc := hP.sub (ws' := [(h1, .inr (9, [.ref h2, x3, x4, x5, x6, x7, x8])), (h2, .inr (2, [x9, x10, x11, .int 0]))]) [0, 1] rfl
  refine vx_callv (vx_runV (As := [.int p0]) (rest := []) ⟨hx, hb, hml, hown, hts⟩ (k_X7_checkPlayer l hl9 D cy h1 p0 h2 (x3) (x4) (x5) (x6) (x7) (x8) (x9) (x10) (x11)) (cwV 1 hts gX7_addWay_X7_checkPlayer rfl rfl rfl (by decide +kernel) ⟨(Nat.le_of_ble_eq_true rfl), (Nat.le_of_ble_eq_true rfl)⟩) ⟨kRX_fb, va_recv hK hP (ci := 9) (q0 := 0) rfl rfl, (kRX_go hPc hK hE hS)⟩ rfl rfl hl.1 rfl (lv_room (Nat.le_of_ble_eq_true rfl)) dX7_addWay_2 ⟨(Nat.le_of_ble_eq_true rfl), (Nat.le_of_ble_eq_true rfl)⟩) hS (fun _ _ h => h.elim) (fun _ h => h.elim) (fun _ _ h => h.elim) (fun E9 ce9 q9 u t H locs ht hvm hw hB hz1 hk1 hS hce hcv hcl => ?_) (fun u t H locs ht hvm hw hB hz1 hk1 hS => ?_)
  · obtain ⟨rfl, hB⟩ := hB
    have f_1 : True := hB
    exact vx_out (fun x hx => (ht9 x hx).elim) hlocks hce hcv hcl (fun t ht _ => ⟨(), trivial, (⟨rfl, trivial⟩), hS.F ht⟩) hS.2.2 (Nat.le_of_ble_eq_true rfl) (Nat.le_of_ble_eq_true rfl)
  · exact (show False from hw).elim
theorem dL_addWay_0 : decode cL_addWay 0 = .ok (.aload_n 3, 1) := by decide +kernel
theorem dL_addWay_1 : decode cL_addWay 1 = .ok (.iconst 0, 1) := by decide +kernel
theorem dL_addWay_2 : decode cL_addWay 2 = .ok (.aload_n 0, 1) := by decide +kernel
theorem dL_addWay_3 : decode cL_addWay 3 = .ok (.iload_n 1, 1) := by decide +kernel
theorem dL_addWay_4 : decode cL_addWay 4 = .ok (.iload_n 2, 1) := by decide +kernel
theorem dL_addWay_5 : decode cL_addWay 5 = .ok (.invokevirtual 25, 3) := by decide +kernel
set_option maxRecDepth 20000 in
theorem ggL_addWay_X7_addWay : GoodIn wsL_addWay wsX7_addWay := goodIn_ca (goodIn_ca (goodIn_ca (goodIn_ca (goodIn_ca (goodIn_r _ [9, 10, 11, 12, 13, 14, 15, 16, 17, 18, 19, 20, 21, 22, 23, 24, 8, 25, 26, 27, 28, 29, 30, 31, 32, 33, 34, 35, 36, 37, 38, 39, 40, 41, 42, 43, 44, 45, 46, 47, 48, 49, 50, 51, 52, 53, 54, 55, 56, 57, 58, 59, 60, 61, 62, 63, 64, 65, 66, 67, 68, 69, 70, 71, 72, 73, 74, 75, 76, 77] (by decide +kernel) (by decide +kernel)) (goodIn_sub (fun _ h => List.mem_cons_of_mem _ (List.mem_append_left _ (List.mem_append_left _ (List.mem_append_left _ (List.mem_append_right _ h))))) (by decide +kernel))) (goodIn_sub (fun _ h => List.mem_cons_of_mem _ (List.mem_append_left _ (List.mem_append_left _ (List.mem_append_right _ h)))) (by decide +kernel))) (goodIn_sub (fun _ h => List.mem_cons_of_mem _ (List.mem_append_left _ (List.mem_append_right _ h))) (by decide +kernel))) (goodIn_sub (fun _ h => List.mem_cons_of_mem _ (List.mem_append_right _ h)) (by decide +kernel))) (goodIn_sub (fun _ h => List.mem_cons_of_mem _ (List.mem_append_left _ (List.mem_append_left _ (List.mem_append_left _ (List.mem_append_left _ (List.mem_append_right _ h)))))) (by decide +kernel))
set_option maxRecDepth 20000 in
theorem gL_addWay_X7_addWay : GoodIn wsL_addWay (wsV RL 25 RX7 yX7_addWay wsX7_addWay) := goodIn_app (goodIn_of _ (by decide +kernel)) ggL_addWay_X7_addWay
theorem dL_addWay_13 : decode cL_addWay 13 = .ok (.astore 4, 2) := by decide +kernel
theorem dL_addWay_15 : decode cL_addWay 15 = .ok (.iconst 1, 1) := by decide +kernel
theorem dL_addWay_16 : decode cL_addWay 16 = .ok (.ireturn, 1) := by decide +kernel
set_option maxHeartbeats 4000000 in
set_option maxRecDepth 100000 in
theorem k_L_addWay (l : Launch) (hl9 : l.stackTraces = false) (D : va_G) (cy : Nat → ClassId) (h1 : Nat) (p1 : Int32) (p2 : Int32) (h2 : Nat) (h3 : Nat) (x4 : Value) (x5 : Value) (x6 : Value) (x7 : Value) (x8 : Value) (x9 : Value) (x10 : Value) (x11 : Value) (x12 : Value) : Met l yL_addWay wsL_addWay ({ frames := 8, cells := 1, slots := 6, locals := 125 }) (kRX D cy [.ref h1, .int p1, .int p2, .ref h2] [(h1, .inr (9, [.ref h3, x4, x5, x6, x7, x8, x9])), (h3, .inr (2, [x10, x11, x12, .int 0]))]) (va_Qi (fun (r : Int32) (_ : Unit) => r = 1 ∧ True) (fun (_ : Unit) (_ : State) => True) (fun _ : Nat => False)) 1 6 (fun _ : Nat => False) := by
  refine va_MetW (cc := cL_addWay) (maxL := 5) (ret := (some .int)) (by decide) rfl ?_
  intro p e s m args below meth c s₁ B hml hv
  obtain ⟨rfl, hP, hK, hE⟩ := hv
  have hx := B.exec
  have hb := B.bytes
  have hr := B.returns
  have hts := atoms_spec (ws := wsL_addWay) B.pre
  have hown : s.vm.findClass RL = some m.cls := findClass_of_methodNamed B.named
  have hlocks := B.notSynchronized
  have htb := vx_table (x := yL_addWay) B (hts _ (List.mem_cons_self))
  have hS : va_S (fun _ : Nat => False) s.heap s.heap [] := va_S.rf
  have hP : va_P D vwCl [(h1, .inr (9, [.ref h3, x4, x5, x6, x7, x8, x9])), (h3, .inr (2, [x10, x11, x12, .int 0]))] s.heap := hP
  have hl := lv_entry ([.ref h1, .int p1, .int p2, .ref h2]) (n := 5) (Nat.le_of_ble_eq_true rfl)
  rw [lg_entry_eq]
  generalize (lg_sl ([.ref h1, .int p1, .int p2, .ref h2]) ++ List.replicate (5 - (lg_sl ([.ref h1, .int p1, .int p2, .ref h2])).length) Slot.unset).toArray = ls at hl ⊢
  have hl : lv_has ls 5 [(0, .ref h1), (1, .int p1), (2, .int p2), (3, .ref h2)] := hl
  refine lv_aload_n hx hb dL_addWay_0 rfl (lv_at hl 3 rfl) ?_
  refine lv_iconst (v := 0) hx hb dL_addWay_1 (by decide) ?_
  refine lv_aload_n hx hb dL_addWay_2 rfl (lv_at hl 0 rfl) ?_
  refine lv_iload_n hx hb dL_addWay_3 rfl (lv_at hl 1 rfl) ?_
  refine lv_iload_n hx hb dL_addWay_4 rfl (lv_at hl 2 rfl) ?_
  have hPc := hP.sub (ws' := [(h1, .inr (9, [.ref h3, x4, x5, x6, x7, x8, x9])), (h3, .inr (2, [x10, x11, x12, .int 0]))]) [0, 1] rfl
  refine vx_calli (vx_runV (As := [.int p1, .int p2]) (rest := [.int 0, .ref h2]) ⟨hx, hb, hml, hown, hts⟩ (k_X7_addWay l hl9 D cy h1 p1 p2 h3 (x4) (x5) (x6) (x7) (x8) (x9) (x10) (x11) (x12)) (cwV 2 hts gL_addWay_X7_addWay rfl rfl rfl (by decide +kernel) ⟨(Nat.le_of_ble_eq_true rfl), (Nat.le_of_ble_eq_true rfl)⟩) ⟨kRX_fb, va_recv hK hP (ci := 9) (q0 := 0) rfl rfl, (kRX_go hPc hK hE hS)⟩ rfl rfl hl.1 rfl (lv_room (Nat.le_of_ble_eq_true rfl)) dL_addWay_5 ⟨(Nat.le_of_ble_eq_true rfl), (Nat.le_of_ble_eq_true rfl)⟩) hS (fun _ _ h => h.elim) (fun _ h => h.elim) (fun _ _ h => h.elim) (fun E9 ce9 q9 u t H locs ht hvm hw hB hz1 hk1 hS hce hcv hcl => ?_) (fun r9 u t H locs ht hvm hw hB hz1 hk1 hS => ?_)
  · obtain ⟨rfl, hB⟩ := hB
    have f_1 : True := hB
    have hP := kx_kept hP hk1
    refine vx_catch (E := "java/lang/IndexOutOfBoundsException") (name := "java/lang/IndexOutOfBoundsException") hown [] (⟨0, 10, 13, 28⟩ : ExceptionTableEntry) [(⟨0, 10, 17, 13⟩ : ExceptionTableEntry), (⟨0, 10, 21, 30⟩ : ExceptionTableEntry), (⟨0, 10, 25, 15⟩ : ExceptionTableEntry)] htb (fun _ h => absurd h List.not_mem_nil) rfl (by decide) (hts (.classLink RL 28 "java/lang/IndexOutOfBoundsException") (List.mem_cons_of_mem _ (List.mem_append_left _ (List.mem_append_left _ (List.mem_append_left _ (List.mem_append_left _ (List.mem_append_left _ (List.mem_append_left _ (List.mem_append_left _ (List.mem_append_left _ (List.mem_append_left _ (List.mem_append_left _ (List.mem_of_getElem? (i := 0) rfl))))))))))))) (exP.cast hE "java/lang/IndexOutOfBoundsException" (by decide +kernel)) hce hcv hcl ?_
    refine lv_astore (lv' := [(4, .ref q9), (0, .ref h1), (1, .int p1), (2, .int p2), (3, .ref h2)]) hx hb dL_addWay_13 hl (by decide) rfl (fun ls hl => ?_)
    refine lv_iconst (v := 1) hx hb dL_addWay_15 (by decide) ?_
    refine W.widen (k := 1) (n := 6) (Nat.le_of_ble_eq_true rfl) (Nat.le_of_ble_eq_true rfl) ?_
    exact W.iret (v := 1) hx hb hr (fun t ht hW => ⟨⟨1, (), rfl, ⟨rfl, trivial⟩, trivial⟩, hS.F ht⟩) hS.2.2 dL_addWay_16
  · exact (show False from hw).elim
theorem dX8_isNone_0 : decode cX8_isNone 0 = .ok (.iload_n 1, 1) := by decide +kernel
theorem dX8_isNone_1 : decode cX8_isNone 1 = .ok (.iconst 0, 1) := by decide +kernel
theorem dX8_isNone_2 : decode cX8_isNone 2 = .ok (.aload_n 0, 1) := by decide +kernel
theorem dX8_isNone_3 : decode cX8_isNone 3 = .ok (.getfield 85, 3) := by decide +kernel
theorem dX8_isNone_6 : decode cX8_isNone 6 = .ok (.iconst 1, 1) := by decide +kernel
theorem dX8_isNone_7 : decode cX8_isNone 7 = .ok (.isub, 1) := by decide +kernel
theorem dX8_isNone_8 : decode cX8_isNone 8 = .ok (.invokestatic 65, 3) := by decide +kernel
set_option maxRecDepth 20000 in
theorem ggX8_isNone_X8_isIn : GoodIn wsX8_isNone wsX8_isIn := goodIn_r _ [5] (by decide +kernel) (by decide +kernel)
set_option maxRecDepth 20000 in
theorem gX8_isNone_X8_isIn : GoodIn wsX8_isNone (va_wsS RX8 65 yX8_isIn wsX8_isIn) := goodIn_app (goodIn_of _ (by decide +kernel)) ggX8_isNone_X8_isIn
theorem dX8_isNone_11 : decode cX8_isNone 11 = .ok (.ifCond .ne 7, 3) := by decide +kernel
theorem dX8_isNone_14 : decode cX8_isNone 14 = .ok (.iconst 1, 1) := by decide +kernel
theorem dX8_isNone_15 : decode cX8_isNone 15 = .ok (.goto 4, 3) := by decide +kernel
theorem dX8_isNone_19 : decode cX8_isNone 19 = .ok (.ireturn, 1) := by decide +kernel
set_option maxHeartbeats 4000000 in
set_option maxRecDepth 100000 in
theorem k_X8_isNone (l : Launch) (D : va_G) (cy : Nat → ClassId) (h1 : Nat) (p0 : Int32) (x2 : Value) (x3 : Value) (x4 : Value) (x5 : Value) (x6 : Value) (x7 : Value) (x8 : Value) (x9 : Value) (x10 : Value) (x11 : Value) (x12 : Value) (x13 : Value) (x14 : Value) (x15 : Value) (x16 : Value) (x17 : Value) (x18 : Value) : Met l yX8_isNone wsX8_isNone ({ frames := 1, cells := 0, slots := 0, locals := 22 }) (kR D cy [.ref h1, .int p0] [(h1, .inr (10, [x2, x3, x4, x5, x6, x7, x8, x9, x10, x11, x12, x13, x14, x15, x16, .int 0, x17, x18]))]) (va_Qi (fun (r : Int32) (_ : Unit) => r = 1 ∧ True) (fun (_ : Unit) (_ : State) => True) (fun _ : Nat => False)) 0 0 (fun _ : Nat => False) := by
  refine Met.ofW (cc := cX8_isNone) (maxL := 2) (ret := (some .boolean)) (by decide) rfl ?_
  intro p e s m args below meth c s₁ B hml hv
  obtain ⟨rfl, hP, hK⟩ := hv
  have hx := B.exec
  have hb := B.bytes
  have hr := B.returns
  have hts := atoms_spec (ws := wsX8_isNone) B.pre
  have hown : s.vm.findClass RX8 = some m.cls := findClass_of_methodNamed B.named
  have hlocks := B.notSynchronized
  have hS : va_S (fun _ : Nat => False) s.heap s.heap [] := va_S.rf
  have hP : va_P D vwCl [(h1, .inr (10, [x2, x3, x4, x5, x6, x7, x8, x9, x10, x11, x12, x13, x14, x15, x16, .int 0, x17, x18]))] s.heap := hP
  have hl := lv_entry ([.ref h1, .int p0]) (n := 2) (Nat.le_of_ble_eq_true rfl)
  rw [lg_entry_eq]
  generalize (lg_sl ([.ref h1, .int p0]) ++ List.replicate (2 - (lg_sl ([.ref h1, .int p0])).length) Slot.unset).toArray = ls at hl ⊢
  have hl : lv_has ls 2 [(0, .ref h1), (1, .int p0)] := hl
  refine lv_iload_n hx hb dX8_isNone_0 rfl (lv_at hl 1 rfl) ?_
  refine lv_iconst (v := 0) hx hb dX8_isNone_1 (by decide) ?_
  refine lv_aload_n hx hb dX8_isNone_2 rfl (lv_at hl 0 rfl) ?_
  refine va_get (D := D) (ci := 10) (v := .int 0) (C := RX8) (T := TX8) (N := 18) hx hb hts (fun _ h => (List.mem_cons_of_mem _ (List.mem_append_right _ h))) hown hK hP 0 rfl rfl 15 (by decide) (hts (.fieldLink RX8 85 "SelfishJunctionModel" "players" "I") (List.mem_cons_of_mem _ (List.mem_append_left _ (List.mem_of_getElem? (i := 0) rfl)))) (fun _ h9 => h9) rfl dX8_isNone_3 ?_
  refine lv_iconst (v := 1) hx hb dX8_isNone_6 (by decide) ?_
  refine lv_isub hx hb dX8_isNone_7 ?_
  refine lv_topi (fun v_1 ev_1 => ?_)
  obtain rfl : v_1 = (-1) := ev_1.trans (by decide)
  have hPc := hP.sub (ws' := []) [] rfl
  refine va_calli (va_runS (As := [.int p0, .int 0, .int (-1)]) (rest := []) ⟨hx, hb, hml, hown, hts⟩ (k_X8_isIn l D cy p0 0 (-1)) (va_cwS 3 hts gX8_isNone_X8_isIn rfl rfl rfl (by decide +kernel) ⟨(Nat.le_of_ble_eq_true rfl), (Nat.le_of_ble_eq_true rfl)⟩) ⟨kR_fb, (kR_go hPc hK)⟩ rfl rfl hl.1 rfl (lv_room (Nat.le_of_ble_eq_true rfl)) dX8_isNone_8 ⟨(Nat.le_of_ble_eq_true rfl), (Nat.le_of_ble_eq_true rfl)⟩) hS (fun _ _ h => h.elim) (fun _ h => h.elim) (fun r9 u t H locs ht hvm hw hB hz1 hk1 hS => ?_)
  have hP := kx_kept hP hk1
  rcases hw with ⟨rfl, hw⟩ | ⟨rfl, hw⟩
  · have f_2 : ((0 : Int) ≤ p0.toInt ∧ p0.toInt ≤ (-1 : Int)) := hw
    omega
  · have f_3 : ¬ (((0 : Int) ≤ p0.toInt ∧ p0.toInt ≤ (-1 : Int))) := hw
    refine lv_if_ne (tgt := 18) hx hb dX8_isNone_11 (by decide) (fun h => absurd (by decide) h) (fun _ => ?_)
    refine lv_iconst (v := 1) hx hb dX8_isNone_14 (by decide) ?_
    refine lv_goto (tgt := 19) hx hb dX8_isNone_15 (by decide) ?_
    refine W.widen (k := 0) (n := 0) (Nat.le_of_ble_eq_true rfl) (Nat.le_of_ble_eq_true rfl) ?_
    exact W.zret (v := 1) hx hb hr rfl (fun t ht hW => ⟨⟨1, (), rfl, ⟨rfl, trivial⟩, trivial⟩, hS.F ht⟩) hS.2.2 dX8_isNone_19
theorem dX8_addWay_0 : decode cX8_addWay 0 = .ok (.aload_n 0, 1) := by decide +kernel
theorem dX8_addWay_1 : decode cX8_addWay 1 = .ok (.aload_n 0, 1) := by decide +kernel
theorem dX8_addWay_2 : decode cX8_addWay 2 = .ok (.iload_n 1, 1) := by decide +kernel
theorem dX8_addWay_3 : decode cX8_addWay 3 = .ok (.invokevirtual 100, 3) := by decide +kernel
set_option maxRecDepth 20000 in
theorem ggX8_addWay_X8_isNone : GoodIn wsX8_addWay wsX8_isNone := goodIn_r _ [9, 10, 11, 12, 8, 13, 28, 29, 30, 31, 32, 33, 34, 35, 36, 37, 38, 39, 40, 41, 42, 43, 44, 45] (by decide +kernel) (by decide +kernel)
set_option maxRecDepth 20000 in
theorem gX8_addWay_X8_isNone : GoodIn wsX8_addWay (wsV RX8 100 RX8 yX8_isNone wsX8_isNone) := goodIn_app (goodIn_of _ (by decide +kernel)) ggX8_addWay_X8_isNone
theorem dX8_addWay_6 : decode cX8_addWay 6 = .ok (.iconst 1, 1) := by decide +kernel
theorem dX8_addWay_7 : decode cX8_addWay 7 = .ok (.invokevirtual 73, 3) := by decide +kernel
set_option maxRecDepth 20000 in
theorem ggX8_addWay_X8_isThrown : GoodIn wsX8_addWay wsX8_isThrown := goodIn_r _ [17, 18, 28, 29, 30, 31, 32, 33, 34, 35, 36, 37, 38, 39, 40, 41, 42, 43, 44, 45] (by decide +kernel) (by decide +kernel)
set_option maxRecDepth 20000 in
theorem gX8_addWay_X8_isThrown : GoodIn wsX8_addWay (wsV RX8 73 RX8 yX8_isThrown wsX8_isThrown) := goodIn_app (goodIn_of _ (by decide +kernel)) ggX8_addWay_X8_isThrown
theorem dX8_addWay_10 : decode cX8_addWay 10 = .ok (.ifCond .ne 30, 3) := by decide +kernel
theorem dX8_addWay_40 : decode cX8_addWay 40 = .ok (.iconst 0, 1) := by decide +kernel
theorem dX8_addWay_41 : decode cX8_addWay 41 = .ok (.ireturn, 1) := by decide +kernel
set_option maxHeartbeats 4000000 in
set_option maxRecDepth 100000 in
theorem k_X8_addWay (l : Launch) (D : va_G) (cy : Nat → ClassId) (h1 : Nat) (p0 : Int32) (p1 : Int32) (x2 : Value) (x3 : Value) (x4 : Value) (x5 : Value) (x6 : Value) (x7 : Value) (x8 : Value) (x9 : Value) (x10 : Value) (x11 : Value) (x12 : Value) (x13 : Value) (x14 : Value) (x15 : Value) (x16 : Value) (x17 : Value) (x18 : Value) (sz : Nat) : Met l yX8_addWay wsX8_addWay ({ frames := 2, cells := 0, slots := 0, locals := 43 }) (kW D cy [.ref h1, .int p0, .int p1] [(h1, .inr (10, [x2, x3, x4, x5, x6, x7, x8, x9, x10, x11, x12, x13, x14, x15, x16, .int 0, x17, x18]))] sz) (va_Qi (fun (r : Int32) (_ : Unit) => r = 0 ∧ True) (fun (_ : Unit) (t : State) => va_P D vwCl [(h1, .inr (10, [x2, x3, x4, x5, x6, x7, x8, x9, x10, x11, x12, x13, x14, x15, x16, .int 0, x17, .int 1]))] t.heap ∧ va_D (va_A [(h1, .inr (10, [x2, x3, x4, x5, x6, x7, x8, x9, x10, x11, x12, x13, x14, x15, x16, .int 0, x17, x18]))] sz) [(h1, .inr (10, [x2, x3, x4, x5, x6, x7, x8, x9, x10, x11, x12, x13, x14, x15, x16, .int 0, x17, .int 1]))]) (va_A [(h1, .inr (10, [x2, x3, x4, x5, x6, x7, x8, x9, x10, x11, x12, x13, x14, x15, x16, .int 0, x17, x18]))] sz)) 0 0 (va_A [(h1, .inr (10, [x2, x3, x4, x5, x6, x7, x8, x9, x10, x11, x12, x13, x14, x15, x16, .int 0, x17, x18]))] sz) := by
  refine Met.ofW (cc := cX8_addWay) (maxL := 5) (ret := (some .int)) (by decide) rfl ?_
  intro p e s m args below meth c s₁ B hml hv
  obtain ⟨rfl, hsz, hP, hK, hD0⟩ := hv
  have hx := B.exec
  have hb := B.bytes
  have hr := B.returns
  have hts := atoms_spec (ws := wsX8_addWay) B.pre
  have hown : s.vm.findClass RX8 = some m.cls := findClass_of_methodNamed B.named
  have hlocks := B.notSynchronized
  subst hsz
  have hD := hD0.self (sz := s.heap.size)
  generalize hAe : va_A [(h1, .inr (10, [x2, x3, x4, x5, x6, x7, x8, x9, x10, x11, x12, x13, x14, x15, x16, .int 0, x17, x18]))] s.heap.size = A at hD ⊢
  have hA : ∀ q : Nat, s.heap.size ≤ q → A q := fun q h => by rw [← hAe]; exact Or.inr h
  have hS : va_S A s.heap s.heap [] := va_S.rf
  have hP : va_P D vwCl [(h1, .inr (10, [x2, x3, x4, x5, x6, x7, x8, x9, x10, x11, x12, x13, x14, x15, x16, .int 0, x17, x18]))] s.heap := hP
  have hl := lv_entry ([.ref h1, .int p0, .int p1]) (n := 5) (Nat.le_of_ble_eq_true rfl)
  rw [lg_entry_eq]
  generalize (lg_sl ([.ref h1, .int p0, .int p1]) ++ List.replicate (5 - (lg_sl ([.ref h1, .int p0, .int p1])).length) Slot.unset).toArray = ls at hl ⊢
  have hl : lv_has ls 5 [(0, .ref h1), (1, .int p0), (2, .int p1)] := hl
  refine lv_aload_n hx hb dX8_addWay_0 rfl (lv_at hl 0 rfl) ?_
  refine lv_aload_n hx hb dX8_addWay_1 rfl (lv_at hl 0 rfl) ?_
  refine lv_iload_n hx hb dX8_addWay_2 rfl (lv_at hl 1 rfl) ?_
  have hPc := hP.sub (ws' := [(h1, .inr (10, [x2, x3, x4, x5, x6, x7, x8, x9, x10, x11, x12, x13, x14, x15, x16, .int 0, x17, x18]))]) [0] rfl
  refine va_calli (va_runV (As := [.int p0]) (rest := [.ref h1]) ⟨hx, hb, hml, hown, hts⟩ (k_X8_isNone l D cy h1 p0 (x2) (x3) (x4) (x5) (x6) (x7) (x8) (x9) (x10) (x11) (x12) (x13) (x14) (x15) (x16) (x17) (x18)) (cwV 1 hts gX8_addWay_X8_isNone rfl rfl rfl (by decide +kernel) ⟨(Nat.le_of_ble_eq_true rfl), (Nat.le_of_ble_eq_true rfl)⟩) ⟨kR_fb, va_recv hK hP (ci := 10) (q0 := 0) rfl rfl, (kR_go hPc hK)⟩ rfl rfl hl.1 rfl (lv_room (Nat.le_of_ble_eq_true rfl)) dX8_addWay_3 ⟨(Nat.le_of_ble_eq_true rfl), (Nat.le_of_ble_eq_true rfl)⟩) hS (fun _ _ h => h.elim) (fun _ h => h.elim) (fun r9 u t H locs ht hvm hw hB hz1 hk1 hS => ?_)
  have hP := kx_kept hP hk1
  obtain ⟨rfl, hw⟩ := hw
  refine lv_iconst (v := 1) hx hb dX8_addWay_6 (by decide) ?_
  have hPc := hP.sub (ws' := [(h1, .inr (10, [x2, x3, x4, x5, x6, x7, x8, x9, x10, x11, x12, x13, x14, x15, x16, .int 0, x17, x18]))]) [0] rfl
  have hDc := hD.sub (ws' := [(h1, .inr (10, [x2, x3, x4, x5, x6, x7, x8, x9, x10, x11, x12, x13, x14, x15, x16, .int 0, x17, x18]))]) [0] (by decide) rfl
  have hFc := va_free (wc := [(h1, .inr (10, [x2, x3, x4, x5, x6, x7, x8, x9, x10, x11, x12, x13, x14, x15, x16, .int 0, x17, x18]))]) hD hS hA [0] rfl
  refine va_calli (va_runV (As := [.int 1, .int 1]) (rest := []) ⟨hx, hb, hml, hown, hts⟩ (k_X8_isThrown l D cy h1 (x2) (x3) (x4) (x5) (x6) (x7) (x8) (x9) (x10) (x11) (x12) (x13) (x14) (x15) (x16) (.int 0) (x17) (x18) H.size) (cwV 2 hts gX8_addWay_X8_isThrown rfl rfl rfl (by decide +kernel) ⟨(Nat.le_of_ble_eq_true rfl), (Nat.le_of_ble_eq_true rfl)⟩) ⟨kW_fb, va_recv hK hP (ci := 10) (q0 := 0) rfl rfl, (kW_go hPc hK hDc)⟩ rfl rfl hl.1 rfl (lv_room (Nat.le_of_ble_eq_true rfl)) dX8_addWay_7 ⟨(Nat.le_of_ble_eq_true rfl), (Nat.le_of_ble_eq_true rfl)⟩) hS (fun q _ h => hFc q h) hFc (fun r9 u t H locs ht hvm hw hB hz1 hk1 hS => ?_)
  obtain ⟨hP1, hD1⟩ := hB
  rw [ht] at hP1
  try dsimp only at hw hP1 hD1
  obtain ⟨hP, hD⟩ := va_join (wr := []) (w1 := [(h1, .inr (10, [x2, x3, x4, x5, x6, x7, x8, x9, x10, x11, x12, x13, x14, x15, x16, .int 0, x17, .int 1]))]) hP hD [0] [] rfl rfl (by decide) (by decide) hk1 hFc hP1 hD1
  have hP : va_P D vwCl [(h1, .inr (10, [x2, x3, x4, x5, x6, x7, x8, x9, x10, x11, x12, x13, x14, x15, x16, .int 0, x17, .int 1]))] H := hP
  have hD : va_D A [(h1, .inr (10, [x2, x3, x4, x5, x6, x7, x8, x9, x10, x11, x12, x13, x14, x15, x16, .int 0, x17, .int 1]))] := hD
  obtain ⟨rfl, hw⟩ := hw
  refine lv_if_ne (tgt := 40) hx hb dX8_addWay_10 (by decide) (fun _ => ?_) (fun h => absurd h (by decide))
  refine lv_iconst (v := 0) hx hb dX8_addWay_40 (by decide) ?_
  refine W.widen (k := 0) (n := 0) (Nat.le_of_ble_eq_true rfl) (Nat.le_of_ble_eq_true rfl) ?_
  have hP9 := hP.sub (ws' := [(h1, .inr (10, [x2, x3, x4, x5, x6, x7, x8, x9, x10, x11, x12, x13, x14, x15, x16, .int 0, x17, .int 1]))]) [0] rfl
  have hD9 := hD.sub (ws' := [(h1, .inr (10, [x2, x3, x4, x5, x6, x7, x8, x9, x10, x11, x12, x13, x14, x15, x16, .int 0, x17, .int 1]))]) [0] (by decide) rfl
  exact W.iret (v := 0) hx hb hr (fun t ht hW => ⟨⟨0, (), rfl, ⟨rfl, trivial⟩, ⟨by rw [ht]; exact hP9, hD9⟩⟩, hS.F ht⟩) hS.2.2 dX8_addWay_41
theorem dX7_countWays_0 : decode cX7_countWays 0 = .ok (.aload_n 0, 1) := by decide +kernel
theorem dX7_countWays_1 : decode cX7_countWays 1 = .ok (.iload_n 1, 1) := by decide +kernel
theorem dX7_countWays_2 : decode cX7_countWays 2 = .ok (.invokevirtual 88, 3) := by decide +kernel
set_option maxRecDepth 20000 in
theorem ggX7_countWays_X7_checkPlayer : GoodIn wsX7_countWays wsX7_checkPlayer := goodIn_ca (goodIn_r _ [8, 9, 10, 1, 11, 12, 13, 14, 15, 16, 17, 18, 19, 20, 21, 22] (by decide +kernel) (by decide +kernel)) (goodIn_sub (fun _ h => List.mem_cons_of_mem _ (List.mem_append_right _ h)) (by decide +kernel))
set_option maxRecDepth 20000 in
theorem gX7_countWays_X7_checkPlayer : GoodIn wsX7_countWays (wsV RX7 88 RX7 yX7_checkPlayer wsX7_checkPlayer) := goodIn_app (goodIn_of _ (by decide +kernel)) ggX7_countWays_X7_checkPlayer
set_option maxHeartbeats 4000000 in
set_option maxRecDepth 100000 in
theorem k_X7_countWays (l : Launch) (hl9 : l.stackTraces = false) (D : va_G) (cy : Nat → ClassId) (h1 : Nat) (p0 : Int32) (h2 : Nat) (x3 : Value) (x4 : Value) (x5 : Value) (x6 : Value) (x7 : Value) (x8 : Value) (x9 : Value) (x10 : Value) (x11 : Value) : vx_Met l yX7_countWays wsX7_countWays ({ frames := 7, cells := 1, slots := 6, locals := 103 }) (kRX D cy [.ref h1, .int p0] [(h1, .inr (9, [.ref h2, x3, x4, x5, x6, x7, x8])), (h2, .inr (2, [x9, x10, x11, .int 0]))]) (va_Qi (fun (r : Int32) (_ : Unit) => False) (fun (_ : Unit) (_ : State) => True) (fun _ : Nat => False)) (vx_X (fun _ : Unit => True) (fun (E : String) (_ : Unit) (_ : State) => (E = "java/lang/IndexOutOfBoundsException" ∧ True)) (fun _ : Nat => False)) 1 6 (fun _ : Nat => False) := by
  refine vx_ofW (cc := cX7_countWays) (maxL := 2) (ret := (some .int)) (by decide) rfl ?_
  intro p e s m args below meth c s₁ B hml ht9 hv
  obtain ⟨rfl, hP, hK, hE⟩ := hv
  have hx := B.exec
  have hb := B.bytes
  have hr := B.returns
  have hts := atoms_spec (ws := wsX7_countWays) B.pre
  have hown : s.vm.findClass RX7 = some m.cls := findClass_of_methodNamed B.named
  have hlocks := B.notSynchronized
  have hS : va_S (fun _ : Nat => False) s.heap s.heap [] := va_S.rf
  have hP : va_P D vwCl [(h1, .inr (9, [.ref h2, x3, x4, x5, x6, x7, x8])), (h2, .inr (2, [x9, x10, x11, .int 0]))] s.heap := hP
  have hl := lv_entry ([.ref h1, .int p0]) (n := 2) (Nat.le_of_ble_eq_true rfl)
  rw [lg_entry_eq]
  generalize (lg_sl ([.ref h1, .int p0]) ++ List.replicate (2 - (lg_sl ([.ref h1, .int p0])).length) Slot.unset).toArray = ls at hl ⊢
  have hl : lv_has ls 2 [(0, .ref h1), (1, .int p0)] := hl
  refine lv_aload_n hx hb dX7_countWays_0 rfl (lv_at hl 0 rfl) ?_
  refine lv_iload_n hx hb dX7_countWays_1 rfl (lv_at hl 1 rfl) ?_
  have hPc := hP.sub (ws' := [(h1, .inr (9, [.ref h2, x3, x4, x5, x6, x7, x8])), (h2, .inr (2, [x9, x10, x11, .int 0]))]) [0, 1] rfl
  refine vx_callv (vx_runV (As := [.int p0]) (rest := []) ⟨hx, hb, hml, hown, hts⟩ (k_X7_checkPlayer l hl9 D cy h1 p0 h2 (x3) (x4) (x5) (x6) (x7) (x8) (x9) (x10) (x11)) (cwV 1 hts gX7_countWays_X7_checkPlayer rfl rfl rfl (by decide +kernel) ⟨(Nat.le_of_ble_eq_true rfl), (Nat.le_of_ble_eq_true rfl)⟩) ⟨kRX_fb, va_recv hK hP (ci := 9) (q0 := 0) rfl rfl, (kRX_go hPc hK hE hS)⟩ rfl rfl hl.1 rfl (lv_room (Nat.le_of_ble_eq_true rfl)) dX7_countWays_2 ⟨(Nat.le_of_ble_eq_true rfl), (Nat.le_of_ble_eq_true rfl)⟩) hS (fun _ _ h => h.elim) (fun _ h => h.elim) (fun _ _ h => h.elim) (fun E9 ce9 q9 u t H locs ht hvm hw hB hz1 hk1 hS hce hcv hcl => ?_) (fun u t H locs ht hvm hw hB hz1 hk1 hS => ?_)
  · obtain ⟨rfl, hB⟩ := hB
    have f_1 : True := hB
    exact vx_out (fun x hx => (ht9 x hx).elim) hlocks hce hcv hcl (fun t ht _ => ⟨(), trivial, (⟨rfl, trivial⟩), hS.F ht⟩) hS.2.2 (Nat.le_of_ble_eq_true rfl) (Nat.le_of_ble_eq_true rfl)
  · exact (show False from hw).elim
theorem dL_countWays_0 : decode cL_countWays 0 = .ok (.aload_n 2, 1) := by decide +kernel
theorem dL_countWays_1 : decode cL_countWays 1 = .ok (.iconst 0, 1) := by decide +kernel
theorem dL_countWays_2 : decode cL_countWays 2 = .ok (.aload_n 0, 1) := by decide +kernel
theorem dL_countWays_3 : decode cL_countWays 3 = .ok (.iload_n 1, 1) := by decide +kernel
theorem dL_countWays_4 : decode cL_countWays 4 = .ok (.invokevirtual 38, 3) := by decide +kernel
set_option maxRecDepth 20000 in
theorem ggL_countWays_X7_countWays : GoodIn wsL_countWays wsX7_countWays := goodIn_ca (goodIn_r _ [6, 7, 8, 9, 10, 11, 12, 5, 13, 14, 15, 16, 17, 18, 19, 20, 21, 22, 23, 24, 25, 26, 27, 28, 29, 30, 31, 32, 33] (by decide +kernel) (by decide +kernel)) (goodIn_sub (fun _ h => List.mem_cons_of_mem _ (List.mem_append_right _ h)) (by decide +kernel))
set_option maxRecDepth 20000 in
theorem gL_countWays_X7_countWays : GoodIn wsL_countWays (wsV RL 38 RX7 yX7_countWays wsX7_countWays) := goodIn_app (goodIn_of _ (by decide +kernel)) ggL_countWays_X7_countWays
theorem dL_countWays_12 : decode cL_countWays 12 = .ok (.astore_n 3, 1) := by decide +kernel
theorem dL_countWays_13 : decode cL_countWays 13 = .ok (.iconst 1, 1) := by decide +kernel
theorem dL_countWays_14 : decode cL_countWays 14 = .ok (.ireturn, 1) := by decide +kernel
set_option maxHeartbeats 4000000 in
set_option maxRecDepth 100000 in
theorem k_L_countWays (l : Launch) (hl9 : l.stackTraces = false) (D : va_G) (cy : Nat → ClassId) (h1 : Nat) (p1 : Int32) (h2 : Nat) (h3 : Nat) (x4 : Value) (x5 : Value) (x6 : Value) (x7 : Value) (x8 : Value) (x9 : Value) (x10 : Value) (x11 : Value) (x12 : Value) : Met l yL_countWays wsL_countWays ({ frames := 8, cells := 1, slots := 6, locals := 124 }) (kRX D cy [.ref h1, .int p1, .ref h2] [(h1, .inr (9, [.ref h3, x4, x5, x6, x7, x8, x9])), (h3, .inr (2, [x10, x11, x12, .int 0]))]) (va_Qi (fun (r : Int32) (_ : Unit) => r = 1 ∧ True) (fun (_ : Unit) (_ : State) => True) (fun _ : Nat => False)) 1 6 (fun _ : Nat => False) := by
  refine va_MetW (cc := cL_countWays) (maxL := 4) (ret := (some .int)) (by decide) rfl ?_
  intro p e s m args below meth c s₁ B hml hv
  obtain ⟨rfl, hP, hK, hE⟩ := hv
  have hx := B.exec
  have hb := B.bytes
  have hr := B.returns
  have hts := atoms_spec (ws := wsL_countWays) B.pre
  have hown : s.vm.findClass RL = some m.cls := findClass_of_methodNamed B.named
  have hlocks := B.notSynchronized
  have htb := vx_table (x := yL_countWays) B (hts _ (List.mem_cons_self))
  have hS : va_S (fun _ : Nat => False) s.heap s.heap [] := va_S.rf
  have hP : va_P D vwCl [(h1, .inr (9, [.ref h3, x4, x5, x6, x7, x8, x9])), (h3, .inr (2, [x10, x11, x12, .int 0]))] s.heap := hP
  have hl := lv_entry ([.ref h1, .int p1, .ref h2]) (n := 4) (Nat.le_of_ble_eq_true rfl)
  rw [lg_entry_eq]
  generalize (lg_sl ([.ref h1, .int p1, .ref h2]) ++ List.replicate (4 - (lg_sl ([.ref h1, .int p1, .ref h2])).length) Slot.unset).toArray = ls at hl ⊢
  have hl : lv_has ls 4 [(0, .ref h1), (1, .int p1), (2, .ref h2)] := hl
  refine lv_aload_n hx hb dL_countWays_0 rfl (lv_at hl 2 rfl) ?_
  refine lv_iconst (v := 0) hx hb dL_countWays_1 (by decide) ?_
  refine lv_aload_n hx hb dL_countWays_2 rfl (lv_at hl 0 rfl) ?_
  refine lv_iload_n hx hb dL_countWays_3 rfl (lv_at hl 1 rfl) ?_
  have hPc := hP.sub (ws' := [(h1, .inr (9, [.ref h3, x4, x5, x6, x7, x8, x9])), (h3, .inr (2, [x10, x11, x12, .int 0]))]) [0, 1] rfl
  refine vx_calli (vx_runV (As := [.int p1]) (rest := [.int 0, .ref h2]) ⟨hx, hb, hml, hown, hts⟩ (k_X7_countWays l hl9 D cy h1 p1 h3 (x4) (x5) (x6) (x7) (x8) (x9) (x10) (x11) (x12)) (cwV 1 hts gL_countWays_X7_countWays rfl rfl rfl (by decide +kernel) ⟨(Nat.le_of_ble_eq_true rfl), (Nat.le_of_ble_eq_true rfl)⟩) ⟨kRX_fb, va_recv hK hP (ci := 9) (q0 := 0) rfl rfl, (kRX_go hPc hK hE hS)⟩ rfl rfl hl.1 rfl (lv_room (Nat.le_of_ble_eq_true rfl)) dL_countWays_4 ⟨(Nat.le_of_ble_eq_true rfl), (Nat.le_of_ble_eq_true rfl)⟩) hS (fun _ _ h => h.elim) (fun _ h => h.elim) (fun _ _ h => h.elim) (fun E9 ce9 q9 u t H locs ht hvm hw hB hz1 hk1 hS hce hcv hcl => ?_) (fun r9 u t H locs ht hvm hw hB hz1 hk1 hS => ?_)
  · obtain ⟨rfl, hB⟩ := hB
    have f_1 : True := hB
    have hP := kx_kept hP hk1
    refine vx_catch (E := "java/lang/IndexOutOfBoundsException") (name := "java/lang/IndexOutOfBoundsException") hown [] (⟨0, 9, 12, 28⟩ : ExceptionTableEntry) [] htb (fun _ h => absurd h List.not_mem_nil) rfl (by decide) (hts (.classLink RL 28 "java/lang/IndexOutOfBoundsException") (List.mem_cons_of_mem _ (List.mem_append_left _ (List.mem_append_left _ (List.mem_append_left _ (List.mem_append_left _ (List.mem_append_left _ (List.mem_of_getElem? (i := 0) rfl)))))))) (exP.cast hE "java/lang/IndexOutOfBoundsException" (by decide +kernel)) hce hcv hcl ?_
    refine lv_astore_n (lv' := [(3, .ref q9), (0, .ref h1), (1, .int p1), (2, .ref h2)]) hx hb dL_countWays_12 rfl hl (by decide) rfl (fun ls hl => ?_)
    refine lv_iconst (v := 1) hx hb dL_countWays_13 (by decide) ?_
    refine W.widen (k := 1) (n := 6) (Nat.le_of_ble_eq_true rfl) (Nat.le_of_ble_eq_true rfl) ?_
    exact W.iret (v := 1) hx hb hr (fun t ht hW => ⟨⟨1, (), rfl, ⟨rfl, trivial⟩, trivial⟩, hS.F ht⟩) hS.2.2 dL_countWays_14
  · exact (show False from hw).elim
theorem dX8_countWays_0 : decode cX8_countWays 0 = .ok (.aload_n 0, 1) := by decide +kernel
theorem dX8_countWays_1 : decode cX8_countWays 1 = .ok (.aload_n 0, 1) := by decide +kernel
theorem dX8_countWays_2 : decode cX8_countWays 2 = .ok (.iload_n 1, 1) := by decide +kernel
theorem dX8_countWays_3 : decode cX8_countWays 3 = .ok (.invokevirtual 100, 3) := by decide +kernel
set_option maxRecDepth 20000 in
theorem ggX8_countWays_X8_isNone : GoodIn wsX8_countWays wsX8_isNone := goodIn_r _ [6, 7, 8, 9, 5, 10, 16, 17, 18, 19, 20, 21, 22, 23, 24, 25, 26, 27, 28, 29, 30, 31, 32, 33] (by decide +kernel) (by decide +kernel)
set_option maxRecDepth 20000 in
theorem gX8_countWays_X8_isNone : GoodIn wsX8_countWays (wsV RX8 100 RX8 yX8_isNone wsX8_isNone) := goodIn_app (goodIn_of _ (by decide +kernel)) ggX8_countWays_X8_isNone
theorem dX8_countWays_6 : decode cX8_countWays 6 = .ok (.iconst 1, 1) := by decide +kernel
theorem dX8_countWays_7 : decode cX8_countWays 7 = .ok (.invokevirtual 73, 3) := by decide +kernel
set_option maxRecDepth 20000 in
theorem ggX8_countWays_X8_isThrown : GoodIn wsX8_countWays wsX8_isThrown := goodIn_r _ [14, 15, 16, 17, 18, 19, 20, 21, 22, 23, 24, 25, 26, 27, 28, 29, 30, 31, 32, 33] (by decide +kernel) (by decide +kernel)
set_option maxRecDepth 20000 in
theorem gX8_countWays_X8_isThrown : GoodIn wsX8_countWays (wsV RX8 73 RX8 yX8_isThrown wsX8_isThrown) := goodIn_app (goodIn_of _ (by decide +kernel)) ggX8_countWays_X8_isThrown
theorem dX8_countWays_10 : decode cX8_countWays 10 = .ok (.ifCond .eq 7, 3) := by decide +kernel
theorem dX8_countWays_13 : decode cX8_countWays 13 = .ok (.iconst 0, 1) := by decide +kernel
theorem dX8_countWays_14 : decode cX8_countWays 14 = .ok (.goto 9, 3) := by decide +kernel
theorem dX8_countWays_23 : decode cX8_countWays 23 = .ok (.ireturn, 1) := by decide +kernel
set_option maxHeartbeats 4000000 in
set_option maxRecDepth 100000 in
theorem k_X8_countWays (l : Launch) (D : va_G) (cy : Nat → ClassId) (h1 : Nat) (p0 : Int32) (x2 : Value) (x3 : Value) (x4 : Value) (x5 : Value) (x6 : Value) (x7 : Value) (x8 : Value) (x9 : Value) (x10 : Value) (x11 : Value) (x12 : Value) (x13 : Value) (x14 : Value) (x15 : Value) (x16 : Value) (x17 : Value) (x18 : Value) (sz : Nat) : Met l yX8_countWays wsX8_countWays ({ frames := 2, cells := 0, slots := 0, locals := 43 }) (kW D cy [.ref h1, .int p0] [(h1, .inr (10, [x2, x3, x4, x5, x6, x7, x8, x9, x10, x11, x12, x13, x14, x15, x16, .int 0, x17, x18]))] sz) (va_Qi (fun (r : Int32) (_ : Unit) => r = 0 ∧ True) (fun (_ : Unit) (t : State) => va_P D vwCl [(h1, .inr (10, [x2, x3, x4, x5, x6, x7, x8, x9, x10, x11, x12, x13, x14, x15, x16, .int 0, x17, .int 1]))] t.heap ∧ va_D (va_A [(h1, .inr (10, [x2, x3, x4, x5, x6, x7, x8, x9, x10, x11, x12, x13, x14, x15, x16, .int 0, x17, x18]))] sz) [(h1, .inr (10, [x2, x3, x4, x5, x6, x7, x8, x9, x10, x11, x12, x13, x14, x15, x16, .int 0, x17, .int 1]))]) (va_A [(h1, .inr (10, [x2, x3, x4, x5, x6, x7, x8, x9, x10, x11, x12, x13, x14, x15, x16, .int 0, x17, x18]))] sz)) 0 0 (va_A [(h1, .inr (10, [x2, x3, x4, x5, x6, x7, x8, x9, x10, x11, x12, x13, x14, x15, x16, .int 0, x17, x18]))] sz) := by
  refine Met.ofW (cc := cX8_countWays) (maxL := 2) (ret := (some .int)) (by decide) rfl ?_
  intro p e s m args below meth c s₁ B hml hv
  obtain ⟨rfl, hsz, hP, hK, hD0⟩ := hv
  have hx := B.exec
  have hb := B.bytes
  have hr := B.returns
  have hts := atoms_spec (ws := wsX8_countWays) B.pre
  have hown : s.vm.findClass RX8 = some m.cls := findClass_of_methodNamed B.named
  have hlocks := B.notSynchronized
  subst hsz
  have hD := hD0.self (sz := s.heap.size)
  generalize hAe : va_A [(h1, .inr (10, [x2, x3, x4, x5, x6, x7, x8, x9, x10, x11, x12, x13, x14, x15, x16, .int 0, x17, x18]))] s.heap.size = A at hD ⊢
  have hA : ∀ q : Nat, s.heap.size ≤ q → A q := fun q h => by rw [← hAe]; exact Or.inr h
  have hS : va_S A s.heap s.heap [] := va_S.rf
  have hP : va_P D vwCl [(h1, .inr (10, [x2, x3, x4, x5, x6, x7, x8, x9, x10, x11, x12, x13, x14, x15, x16, .int 0, x17, x18]))] s.heap := hP
  have hl := lv_entry ([.ref h1, .int p0]) (n := 2) (Nat.le_of_ble_eq_true rfl)
  rw [lg_entry_eq]
  generalize (lg_sl ([.ref h1, .int p0]) ++ List.replicate (2 - (lg_sl ([.ref h1, .int p0])).length) Slot.unset).toArray = ls at hl ⊢
  have hl : lv_has ls 2 [(0, .ref h1), (1, .int p0)] := hl
  refine lv_aload_n hx hb dX8_countWays_0 rfl (lv_at hl 0 rfl) ?_
  refine lv_aload_n hx hb dX8_countWays_1 rfl (lv_at hl 0 rfl) ?_
  refine lv_iload_n hx hb dX8_countWays_2 rfl (lv_at hl 1 rfl) ?_
  have hPc := hP.sub (ws' := [(h1, .inr (10, [x2, x3, x4, x5, x6, x7, x8, x9, x10, x11, x12, x13, x14, x15, x16, .int 0, x17, x18]))]) [0] rfl
  refine va_calli (va_runV (As := [.int p0]) (rest := [.ref h1]) ⟨hx, hb, hml, hown, hts⟩ (k_X8_isNone l D cy h1 p0 (x2) (x3) (x4) (x5) (x6) (x7) (x8) (x9) (x10) (x11) (x12) (x13) (x14) (x15) (x16) (x17) (x18)) (cwV 1 hts gX8_countWays_X8_isNone rfl rfl rfl (by decide +kernel) ⟨(Nat.le_of_ble_eq_true rfl), (Nat.le_of_ble_eq_true rfl)⟩) ⟨kR_fb, va_recv hK hP (ci := 10) (q0 := 0) rfl rfl, (kR_go hPc hK)⟩ rfl rfl hl.1 rfl (lv_room (Nat.le_of_ble_eq_true rfl)) dX8_countWays_3 ⟨(Nat.le_of_ble_eq_true rfl), (Nat.le_of_ble_eq_true rfl)⟩) hS (fun _ _ h => h.elim) (fun _ h => h.elim) (fun r9 u t H locs ht hvm hw hB hz1 hk1 hS => ?_)
  have hP := kx_kept hP hk1
  obtain ⟨rfl, hw⟩ := hw
  refine lv_iconst (v := 1) hx hb dX8_countWays_6 (by decide) ?_
  have hPc := hP.sub (ws' := [(h1, .inr (10, [x2, x3, x4, x5, x6, x7, x8, x9, x10, x11, x12, x13, x14, x15, x16, .int 0, x17, x18]))]) [0] rfl
  have hDc := hD.sub (ws' := [(h1, .inr (10, [x2, x3, x4, x5, x6, x7, x8, x9, x10, x11, x12, x13, x14, x15, x16, .int 0, x17, x18]))]) [0] (by decide) rfl
  have hFc := va_free (wc := [(h1, .inr (10, [x2, x3, x4, x5, x6, x7, x8, x9, x10, x11, x12, x13, x14, x15, x16, .int 0, x17, x18]))]) hD hS hA [0] rfl
  refine va_calli (va_runV (As := [.int 1, .int 1]) (rest := []) ⟨hx, hb, hml, hown, hts⟩ (k_X8_isThrown l D cy h1 (x2) (x3) (x4) (x5) (x6) (x7) (x8) (x9) (x10) (x11) (x12) (x13) (x14) (x15) (x16) (.int 0) (x17) (x18) H.size) (cwV 2 hts gX8_countWays_X8_isThrown rfl rfl rfl (by decide +kernel) ⟨(Nat.le_of_ble_eq_true rfl), (Nat.le_of_ble_eq_true rfl)⟩) ⟨kW_fb, va_recv hK hP (ci := 10) (q0 := 0) rfl rfl, (kW_go hPc hK hDc)⟩ rfl rfl hl.1 rfl (lv_room (Nat.le_of_ble_eq_true rfl)) dX8_countWays_7 ⟨(Nat.le_of_ble_eq_true rfl), (Nat.le_of_ble_eq_true rfl)⟩) hS (fun q _ h => hFc q h) hFc (fun r9 u t H locs ht hvm hw hB hz1 hk1 hS => ?_)
  obtain ⟨hP1, hD1⟩ := hB
  rw [ht] at hP1
  try dsimp only at hw hP1 hD1
  obtain ⟨hP, hD⟩ := va_join (wr := []) (w1 := [(h1, .inr (10, [x2, x3, x4, x5, x6, x7, x8, x9, x10, x11, x12, x13, x14, x15, x16, .int 0, x17, .int 1]))]) hP hD [0] [] rfl rfl (by decide) (by decide) hk1 hFc hP1 hD1
  have hP : va_P D vwCl [(h1, .inr (10, [x2, x3, x4, x5, x6, x7, x8, x9, x10, x11, x12, x13, x14, x15, x16, .int 0, x17, .int 1]))] H := hP
  have hD : va_D A [(h1, .inr (10, [x2, x3, x4, x5, x6, x7, x8, x9, x10, x11, x12, x13, x14, x15, x16, .int 0, x17, .int 1]))] := hD
  obtain ⟨rfl, hw⟩ := hw
  refine lv_if_eq (tgt := 17) hx hb dX8_countWays_10 (by decide) (fun h => absurd h (by decide)) (fun _ => ?_)
  refine lv_iconst (v := 0) hx hb dX8_countWays_13 (by decide) ?_
  refine lv_goto (tgt := 23) hx hb dX8_countWays_14 (by decide) ?_
  refine W.widen (k := 0) (n := 0) (Nat.le_of_ble_eq_true rfl) (Nat.le_of_ble_eq_true rfl) ?_
  have hP9 := hP.sub (ws' := [(h1, .inr (10, [x2, x3, x4, x5, x6, x7, x8, x9, x10, x11, x12, x13, x14, x15, x16, .int 0, x17, .int 1]))]) [0] rfl
  have hD9 := hD.sub (ws' := [(h1, .inr (10, [x2, x3, x4, x5, x6, x7, x8, x9, x10, x11, x12, x13, x14, x15, x16, .int 0, x17, .int 1]))]) [0] (by decide) rfl
  exact W.iret (v := 0) hx hb hr (fun t ht hW => ⟨⟨0, (), rfl, ⟨rfl, trivial⟩, ⟨by rw [ht]; exact hP9, hD9⟩⟩, hS.F ht⟩) hS.2.2 dX8_countWays_23
theorem dX7_checkWay_0 : decode cX7_checkWay 0 = .ok (.aload_n 0, 1) := by decide +kernel
theorem dX7_checkWay_1 : decode cX7_checkWay 1 = .ok (.iload_n 1, 1) := by decide +kernel
theorem dX7_checkWay_2 : decode cX7_checkWay 2 = .ok (.invokevirtual 88, 3) := by decide +kernel
set_option maxRecDepth 20000 in
theorem ggX7_checkWay_X7_checkPlayer : GoodIn wsX7_checkWay wsX7_checkPlayer := goodIn_ca (goodIn_r _ [10, 1, 2, 3, 11, 12, 13, 14, 15, 16, 17, 18, 19, 20, 21, 22] (by decide +kernel) (by decide +kernel)) (goodIn_sub (fun _ h => List.mem_cons_of_mem _ (List.mem_append_right _ h)) (by decide +kernel))
set_option maxRecDepth 20000 in
theorem gX7_checkWay_X7_checkPlayer : GoodIn wsX7_checkWay (wsV RX7 88 RX7 yX7_checkPlayer wsX7_checkPlayer) := goodIn_app (goodIn_of _ (by decide +kernel)) ggX7_checkWay_X7_checkPlayer
set_option maxHeartbeats 4000000 in
set_option maxRecDepth 100000 in
theorem k_X7_checkWay (l : Launch) (hl9 : l.stackTraces = false) (D : va_G) (cy : Nat → ClassId) (h1 : Nat) (p0 : Int32) (p1 : Int32) (h2 : Nat) (x3 : Value) (x4 : Value) (x5 : Value) (x6 : Value) (x7 : Value) (x8 : Value) (x9 : Value) (x10 : Value) (x11 : Value) : vx_Met l yX7_checkWay wsX7_checkWay ({ frames := 7, cells := 1, slots := 6, locals := 103 }) (kRX D cy [.ref h1, .int p0, .int p1] [(h1, .inr (9, [.ref h2, x3, x4, x5, x6, x7, x8])), (h2, .inr (2, [x9, x10, x11, .int 0]))]) (va_Qv (fun (_ : Unit) => False) (fun (_ : Unit) (_ : State) => True) (fun _ : Nat => False)) (vx_X (fun _ : Unit => True) (fun (E : String) (_ : Unit) (_ : State) => (E = "java/lang/IndexOutOfBoundsException" ∧ True)) (fun _ : Nat => False)) 1 6 (fun _ : Nat => False) := by
  refine vx_ofW (cc := cX7_checkWay) (maxL := 3) (ret := none) (by decide) rfl ?_
  intro p e s m args below meth c s₁ B hml ht9 hv
  obtain ⟨rfl, hP, hK, hE⟩ := hv
  have hx := B.exec
  have hb := B.bytes
  have hr := B.returns
  have hts := atoms_spec (ws := wsX7_checkWay) B.pre
  have hown : s.vm.findClass RX7 = some m.cls := findClass_of_methodNamed B.named
  have hlocks := B.notSynchronized
  have hS : va_S (fun _ : Nat => False) s.heap s.heap [] := va_S.rf
  have hP : va_P D vwCl [(h1, .inr (9, [.ref h2, x3, x4, x5, x6, x7, x8])), (h2, .inr (2, [x9, x10, x11, .int 0]))] s.heap := hP
  have hl := lv_entry ([.ref h1, .int p0, .int p1]) (n := 3) (Nat.le_of_ble_eq_true rfl)
  rw [lg_entry_eq]
  generalize (lg_sl ([.ref h1, .int p0, .int p1]) ++ List.replicate (3 - (lg_sl ([.ref h1, .int p0, .int p1])).length) Slot.unset).toArray = ls at hl ⊢
  have hl : lv_has ls 3 [(0, .ref h1), (1, .int p0), (2, .int p1)] := hl
  refine lv_aload_n hx hb dX7_checkWay_0 rfl (lv_at hl 0 rfl) ?_
  refine lv_iload_n hx hb dX7_checkWay_1 rfl (lv_at hl 1 rfl) ?_
  have hPc := hP.sub (ws' := [(h1, .inr (9, [.ref h2, x3, x4, x5, x6, x7, x8])), (h2, .inr (2, [x9, x10, x11, .int 0]))]) [0, 1] rfl
  refine vx_callv (vx_runV (As := [.int p0]) (rest := []) ⟨hx, hb, hml, hown, hts⟩ (k_X7_checkPlayer l hl9 D cy h1 p0 h2 (x3) (x4) (x5) (x6) (x7) (x8) (x9) (x10) (x11)) (cwV 1 hts gX7_checkWay_X7_checkPlayer rfl rfl rfl (by decide +kernel) ⟨(Nat.le_of_ble_eq_true rfl), (Nat.le_of_ble_eq_true rfl)⟩) ⟨kRX_fb, va_recv hK hP (ci := 9) (q0 := 0) rfl rfl, (kRX_go hPc hK hE hS)⟩ rfl rfl hl.1 rfl (lv_room (Nat.le_of_ble_eq_true rfl)) dX7_checkWay_2 ⟨(Nat.le_of_ble_eq_true rfl), (Nat.le_of_ble_eq_true rfl)⟩) hS (fun _ _ h => h.elim) (fun _ h => h.elim) (fun _ _ h => h.elim) (fun E9 ce9 q9 u t H locs ht hvm hw hB hz1 hk1 hS hce hcv hcl => ?_) (fun u t H locs ht hvm hw hB hz1 hk1 hS => ?_)
  · obtain ⟨rfl, hB⟩ := hB
    have f_1 : True := hB
    exact vx_out (fun x hx => (ht9 x hx).elim) hlocks hce hcv hcl (fun t ht _ => ⟨(), trivial, (⟨rfl, trivial⟩), hS.F ht⟩) hS.2.2 (Nat.le_of_ble_eq_true rfl) (Nat.le_of_ble_eq_true rfl)
  · exact (show False from hw).elim
theorem dX7_getWay_0 : decode cX7_getWay 0 = .ok (.aload_n 0, 1) := by decide +kernel
theorem dX7_getWay_1 : decode cX7_getWay 1 = .ok (.iload_n 1, 1) := by decide +kernel
theorem dX7_getWay_2 : decode cX7_getWay 2 = .ok (.iload_n 2, 1) := by decide +kernel
theorem dX7_getWay_3 : decode cX7_getWay 3 = .ok (.invokevirtual 148, 3) := by decide +kernel
set_option maxRecDepth 20000 in
theorem ggX7_getWay_X7_checkWay : GoodIn wsX7_getWay wsX7_checkWay := goodIn_ca (goodIn_r _ [7, 8, 9, 1, 2, 10, 11, 12, 13, 6, 14, 15, 23, 24, 25, 26, 27, 28, 29, 30, 31, 32, 33, 34, 35, 36, 37, 38, 39] (by decide +kernel) (by decide +kernel)) (goodIn_sub (fun _ h => List.mem_cons_of_mem _ (List.mem_append_left _ (List.mem_append_right _ h))) (by decide +kernel))
set_option maxRecDepth 20000 in
theorem gX7_getWay_X7_checkWay : GoodIn wsX7_getWay (wsV RX7 148 RX7 yX7_checkWay wsX7_checkWay) := goodIn_app (goodIn_of _ (by decide +kernel)) ggX7_getWay_X7_checkWay
set_option maxHeartbeats 4000000 in
set_option maxRecDepth 100000 in
theorem k_X7_getWay (l : Launch) (hl9 : l.stackTraces = false) (D : va_G) (cy : Nat → ClassId) (h1 : Nat) (p0 : Int32) (p1 : Int32) (h2 : Nat) (x3 : Value) (x4 : Value) (x5 : Value) (x6 : Value) (x7 : Value) (x8 : Value) (x9 : Value) (x10 : Value) (x11 : Value) : vx_Met l yX7_getWay wsX7_getWay ({ frames := 8, cells := 1, slots := 6, locals := 125 }) (kRX D cy [.ref h1, .int p0, .int p1] [(h1, .inr (9, [.ref h2, x3, x4, x5, x6, x7, x8])), (h2, .inr (2, [x9, x10, x11, .int 0]))]) (va_Qi (fun (r : Int32) (_ : Unit) => False) (fun (_ : Unit) (_ : State) => True) (fun _ : Nat => False)) (vx_X (fun _ : Unit => True) (fun (E : String) (_ : Unit) (_ : State) => (E = "java/lang/IndexOutOfBoundsException" ∧ True)) (fun _ : Nat => False)) 1 6 (fun _ : Nat => False) := by
  refine vx_ofW (cc := cX7_getWay) (maxL := 3) (ret := (some .int)) (by decide) rfl ?_
  intro p e s m args below meth c s₁ B hml ht9 hv
  obtain ⟨rfl, hP, hK, hE⟩ := hv
  have hx := B.exec
  have hb := B.bytes
  have hr := B.returns
  have hts := atoms_spec (ws := wsX7_getWay) B.pre
  have hown : s.vm.findClass RX7 = some m.cls := findClass_of_methodNamed B.named
  have hlocks := B.notSynchronized
  have hS : va_S (fun _ : Nat => False) s.heap s.heap [] := va_S.rf
  have hP : va_P D vwCl [(h1, .inr (9, [.ref h2, x3, x4, x5, x6, x7, x8])), (h2, .inr (2, [x9, x10, x11, .int 0]))] s.heap := hP
  have hl := lv_entry ([.ref h1, .int p0, .int p1]) (n := 3) (Nat.le_of_ble_eq_true rfl)
  rw [lg_entry_eq]
  generalize (lg_sl ([.ref h1, .int p0, .int p1]) ++ List.replicate (3 - (lg_sl ([.ref h1, .int p0, .int p1])).length) Slot.unset).toArray = ls at hl ⊢
  have hl : lv_has ls 3 [(0, .ref h1), (1, .int p0), (2, .int p1)] := hl
  refine lv_aload_n hx hb dX7_getWay_0 rfl (lv_at hl 0 rfl) ?_
  refine lv_iload_n hx hb dX7_getWay_1 rfl (lv_at hl 1 rfl) ?_
  refine lv_iload_n hx hb dX7_getWay_2 rfl (lv_at hl 2 rfl) ?_
  have hPc := hP.sub (ws' := [(h1, .inr (9, [.ref h2, x3, x4, x5, x6, x7, x8])), (h2, .inr (2, [x9, x10, x11, .int 0]))]) [0, 1] rfl
  refine vx_callv (vx_runV (As := [.int p0, .int p1]) (rest := []) ⟨hx, hb, hml, hown, hts⟩ (k_X7_checkWay l hl9 D cy h1 p0 p1 h2 (x3) (x4) (x5) (x6) (x7) (x8) (x9) (x10) (x11)) (cwV 2 hts gX7_getWay_X7_checkWay rfl rfl rfl (by decide +kernel) ⟨(Nat.le_of_ble_eq_true rfl), (Nat.le_of_ble_eq_true rfl)⟩) ⟨kRX_fb, va_recv hK hP (ci := 9) (q0 := 0) rfl rfl, (kRX_go hPc hK hE hS)⟩ rfl rfl hl.1 rfl (lv_room (Nat.le_of_ble_eq_true rfl)) dX7_getWay_3 ⟨(Nat.le_of_ble_eq_true rfl), (Nat.le_of_ble_eq_true rfl)⟩) hS (fun _ _ h => h.elim) (fun _ h => h.elim) (fun _ _ h => h.elim) (fun E9 ce9 q9 u t H locs ht hvm hw hB hz1 hk1 hS hce hcv hcl => ?_) (fun u t H locs ht hvm hw hB hz1 hk1 hS => ?_)
  · obtain ⟨rfl, hB⟩ := hB
    have f_1 : True := hB
    exact vx_out (fun x hx => (ht9 x hx).elim) hlocks hce hcv hcl (fun t ht _ => ⟨(), trivial, (⟨rfl, trivial⟩), hS.F ht⟩) hS.2.2 (Nat.le_of_ble_eq_true rfl) (Nat.le_of_ble_eq_true rfl)
  · exact (show False from hw).elim
theorem dL_getWay_0 : decode cL_getWay 0 = .ok (.aload_n 3, 1) := by decide +kernel
theorem dL_getWay_1 : decode cL_getWay 1 = .ok (.iconst 0, 1) := by decide +kernel
theorem dL_getWay_2 : decode cL_getWay 2 = .ok (.aload_n 0, 1) := by decide +kernel
theorem dL_getWay_3 : decode cL_getWay 3 = .ok (.iload_n 1, 1) := by decide +kernel
theorem dL_getWay_4 : decode cL_getWay 4 = .ok (.iload_n 2, 1) := by decide +kernel
theorem dL_getWay_5 : decode cL_getWay 5 = .ok (.invokevirtual 42, 3) := by decide +kernel
set_option maxRecDepth 20000 in
theorem ggL_getWay_X7_getWay : GoodIn wsL_getWay wsX7_getWay := goodIn_ca (goodIn_ca (goodIn_r _ [6, 7, 8, 9, 10, 11, 5, 12, 13, 14, 15, 16, 17, 18, 19, 20, 21, 22, 23, 24, 25, 26, 27, 28, 29, 30, 31, 32, 33, 34, 35, 36, 37, 38, 39, 40, 41, 42, 43, 44] (by decide +kernel) (by decide +kernel)) (goodIn_sub (fun _ h => List.mem_cons_of_mem _ (List.mem_append_right _ h)) (by decide +kernel))) (goodIn_sub (fun _ h => List.mem_cons_of_mem _ (List.mem_append_left _ (List.mem_append_right _ h))) (by decide +kernel))
set_option maxRecDepth 20000 in
theorem gL_getWay_X7_getWay : GoodIn wsL_getWay (wsV RL 42 RX7 yX7_getWay wsX7_getWay) := goodIn_app (goodIn_of _ (by decide +kernel)) ggL_getWay_X7_getWay
theorem dL_getWay_13 : decode cL_getWay 13 = .ok (.astore 4, 2) := by decide +kernel
theorem dL_getWay_15 : decode cL_getWay 15 = .ok (.iconst 1, 1) := by decide +kernel
theorem dL_getWay_16 : decode cL_getWay 16 = .ok (.ireturn, 1) := by decide +kernel
set_option maxHeartbeats 4000000 in
set_option maxRecDepth 100000 in
theorem k_L_getWay (l : Launch) (hl9 : l.stackTraces = false) (D : va_G) (cy : Nat → ClassId) (h1 : Nat) (p1 : Int32) (p2 : Int32) (h2 : Nat) (h3 : Nat) (x4 : Value) (x5 : Value) (x6 : Value) (x7 : Value) (x8 : Value) (x9 : Value) (x10 : Value) (x11 : Value) (x12 : Value) : Met l yL_getWay wsL_getWay ({ frames := 9, cells := 1, slots := 6, locals := 147 }) (kRX D cy [.ref h1, .int p1, .int p2, .ref h2] [(h1, .inr (9, [.ref h3, x4, x5, x6, x7, x8, x9])), (h3, .inr (2, [x10, x11, x12, .int 0]))]) (va_Qi (fun (r : Int32) (_ : Unit) => r = 1 ∧ True) (fun (_ : Unit) (_ : State) => True) (fun _ : Nat => False)) 1 6 (fun _ : Nat => False) := by
  refine va_MetW (cc := cL_getWay) (maxL := 5) (ret := (some .int)) (by decide) rfl ?_
  intro p e s m args below meth c s₁ B hml hv
  obtain ⟨rfl, hP, hK, hE⟩ := hv
  have hx := B.exec
  have hb := B.bytes
  have hr := B.returns
  have hts := atoms_spec (ws := wsL_getWay) B.pre
  have hown : s.vm.findClass RL = some m.cls := findClass_of_methodNamed B.named
  have hlocks := B.notSynchronized
  have htb := vx_table (x := yL_getWay) B (hts _ (List.mem_cons_self))
  have hS : va_S (fun _ : Nat => False) s.heap s.heap [] := va_S.rf
  have hP : va_P D vwCl [(h1, .inr (9, [.ref h3, x4, x5, x6, x7, x8, x9])), (h3, .inr (2, [x10, x11, x12, .int 0]))] s.heap := hP
  have hl := lv_entry ([.ref h1, .int p1, .int p2, .ref h2]) (n := 5) (Nat.le_of_ble_eq_true rfl)
  rw [lg_entry_eq]
  generalize (lg_sl ([.ref h1, .int p1, .int p2, .ref h2]) ++ List.replicate (5 - (lg_sl ([.ref h1, .int p1, .int p2, .ref h2])).length) Slot.unset).toArray = ls at hl ⊢
  have hl : lv_has ls 5 [(0, .ref h1), (1, .int p1), (2, .int p2), (3, .ref h2)] := hl
  refine lv_aload_n hx hb dL_getWay_0 rfl (lv_at hl 3 rfl) ?_
  refine lv_iconst (v := 0) hx hb dL_getWay_1 (by decide) ?_
  refine lv_aload_n hx hb dL_getWay_2 rfl (lv_at hl 0 rfl) ?_
  refine lv_iload_n hx hb dL_getWay_3 rfl (lv_at hl 1 rfl) ?_
  refine lv_iload_n hx hb dL_getWay_4 rfl (lv_at hl 2 rfl) ?_
  have hPc := hP.sub (ws' := [(h1, .inr (9, [.ref h3, x4, x5, x6, x7, x8, x9])), (h3, .inr (2, [x10, x11, x12, .int 0]))]) [0, 1] rfl
  refine vx_calli (vx_runV (As := [.int p1, .int p2]) (rest := [.int 0, .ref h2]) ⟨hx, hb, hml, hown, hts⟩ (k_X7_getWay l hl9 D cy h1 p1 p2 h3 (x4) (x5) (x6) (x7) (x8) (x9) (x10) (x11) (x12)) (cwV 2 hts gL_getWay_X7_getWay rfl rfl rfl (by decide +kernel) ⟨(Nat.le_of_ble_eq_true rfl), (Nat.le_of_ble_eq_true rfl)⟩) ⟨kRX_fb, va_recv hK hP (ci := 9) (q0 := 0) rfl rfl, (kRX_go hPc hK hE hS)⟩ rfl rfl hl.1 rfl (lv_room (Nat.le_of_ble_eq_true rfl)) dL_getWay_5 ⟨(Nat.le_of_ble_eq_true rfl), (Nat.le_of_ble_eq_true rfl)⟩) hS (fun _ _ h => h.elim) (fun _ h => h.elim) (fun _ _ h => h.elim) (fun E9 ce9 q9 u t H locs ht hvm hw hB hz1 hk1 hS hce hcv hcl => ?_) (fun r9 u t H locs ht hvm hw hB hz1 hk1 hS => ?_)
  · obtain ⟨rfl, hB⟩ := hB
    have f_1 : True := hB
    have hP := kx_kept hP hk1
    refine vx_catch (E := "java/lang/IndexOutOfBoundsException") (name := "java/lang/IndexOutOfBoundsException") hown [] (⟨0, 10, 13, 28⟩ : ExceptionTableEntry) [] htb (fun _ h => absurd h List.not_mem_nil) rfl (by decide) (hts (.classLink RL 28 "java/lang/IndexOutOfBoundsException") (List.mem_cons_of_mem _ (List.mem_append_left _ (List.mem_append_left _ (List.mem_append_left _ (List.mem_append_left _ (List.mem_append_left _ (List.mem_append_left _ (List.mem_of_getElem? (i := 0) rfl))))))))) (exP.cast hE "java/lang/IndexOutOfBoundsException" (by decide +kernel)) hce hcv hcl ?_
    refine lv_astore (lv' := [(4, .ref q9), (0, .ref h1), (1, .int p1), (2, .int p2), (3, .ref h2)]) hx hb dL_getWay_13 hl (by decide) rfl (fun ls hl => ?_)
    refine lv_iconst (v := 1) hx hb dL_getWay_15 (by decide) ?_
    refine W.widen (k := 1) (n := 6) (Nat.le_of_ble_eq_true rfl) (Nat.le_of_ble_eq_true rfl) ?_
    exact W.iret (v := 1) hx hb hr (fun t ht hW => ⟨⟨1, (), rfl, ⟨rfl, trivial⟩, trivial⟩, hS.F ht⟩) hS.2.2 dL_getWay_16
  · exact (show False from hw).elim
theorem dX8_isNoWay_0 : decode cX8_isNoWay 0 = .ok (.aload_n 0, 1) := by decide +kernel
theorem dX8_isNoWay_1 : decode cX8_isNoWay 1 = .ok (.iload_n 1, 1) := by decide +kernel
theorem dX8_isNoWay_2 : decode cX8_isNoWay 2 = .ok (.invokevirtual 100, 3) := by decide +kernel
set_option maxRecDepth 20000 in
theorem ggX8_isNoWay_X8_isNone : GoodIn wsX8_isNoWay wsX8_isNone := goodIn_r _ [6, 7, 8, 9, 5, 10, 11, 12, 13, 14, 15, 16, 17, 18, 19, 20, 21, 22, 23, 24, 25, 26, 27, 28] (by decide +kernel) (by decide +kernel)
set_option maxRecDepth 20000 in
theorem gX8_isNoWay_X8_isNone : GoodIn wsX8_isNoWay (wsV RX8 100 RX8 yX8_isNone wsX8_isNone) := goodIn_app (goodIn_of _ (by decide +kernel)) ggX8_isNoWay_X8_isNone
theorem dX8_isNoWay_5 : decode cX8_isNoWay 5 = .ok (.ifCond .ne 19, 3) := by decide +kernel
theorem dX8_isNoWay_24 : decode cX8_isNoWay 24 = .ok (.iconst 1, 1) := by decide +kernel
theorem dX8_isNoWay_25 : decode cX8_isNoWay 25 = .ok (.goto 4, 3) := by decide +kernel
theorem dX8_isNoWay_29 : decode cX8_isNoWay 29 = .ok (.ireturn, 1) := by decide +kernel
set_option maxHeartbeats 4000000 in
set_option maxRecDepth 100000 in
theorem k_X8_isNoWay (l : Launch) (D : va_G) (cy : Nat → ClassId) (h1 : Nat) (p0 : Int32) (p1 : Int32) (x2 : Value) (x3 : Value) (x4 : Value) (x5 : Value) (x6 : Value) (x7 : Value) (x8 : Value) (x9 : Value) (x10 : Value) (x11 : Value) (x12 : Value) (x13 : Value) (x14 : Value) (x15 : Value) (x16 : Value) (x17 : Value) (x18 : Value) : Met l yX8_isNoWay wsX8_isNoWay ({ frames := 2, cells := 0, slots := 0, locals := 43 }) (kR D cy [.ref h1, .int p0, .int p1] [(h1, .inr (10, [x2, x3, x4, x5, x6, x7, x8, x9, x10, x11, x12, x13, x14, x15, x16, .int 0, x17, x18]))]) (va_Qi (fun (r : Int32) (_ : Unit) => r = 1 ∧ True) (fun (_ : Unit) (_ : State) => True) (fun _ : Nat => False)) 0 0 (fun _ : Nat => False) := by
  refine Met.ofW (cc := cX8_isNoWay) (maxL := 3) (ret := (some .boolean)) (by decide) rfl ?_
  intro p e s m args below meth c s₁ B hml hv
  obtain ⟨rfl, hP, hK⟩ := hv
  have hx := B.exec
  have hb := B.bytes
  have hr := B.returns
  have hts := atoms_spec (ws := wsX8_isNoWay) B.pre
  have hown : s.vm.findClass RX8 = some m.cls := findClass_of_methodNamed B.named
  have hlocks := B.notSynchronized
  have hS : va_S (fun _ : Nat => False) s.heap s.heap [] := va_S.rf
  have hP : va_P D vwCl [(h1, .inr (10, [x2, x3, x4, x5, x6, x7, x8, x9, x10, x11, x12, x13, x14, x15, x16, .int 0, x17, x18]))] s.heap := hP
  have hl := lv_entry ([.ref h1, .int p0, .int p1]) (n := 3) (Nat.le_of_ble_eq_true rfl)
  rw [lg_entry_eq]
  generalize (lg_sl ([.ref h1, .int p0, .int p1]) ++ List.replicate (3 - (lg_sl ([.ref h1, .int p0, .int p1])).length) Slot.unset).toArray = ls at hl ⊢
  have hl : lv_has ls 3 [(0, .ref h1), (1, .int p0), (2, .int p1)] := hl
  refine lv_aload_n hx hb dX8_isNoWay_0 rfl (lv_at hl 0 rfl) ?_
  refine lv_iload_n hx hb dX8_isNoWay_1 rfl (lv_at hl 1 rfl) ?_
  have hPc := hP.sub (ws' := [(h1, .inr (10, [x2, x3, x4, x5, x6, x7, x8, x9, x10, x11, x12, x13, x14, x15, x16, .int 0, x17, x18]))]) [0] rfl
  refine va_calli (va_runV (As := [.int p0]) (rest := []) ⟨hx, hb, hml, hown, hts⟩ (k_X8_isNone l D cy h1 p0 (x2) (x3) (x4) (x5) (x6) (x7) (x8) (x9) (x10) (x11) (x12) (x13) (x14) (x15) (x16) (x17) (x18)) (cwV 1 hts gX8_isNoWay_X8_isNone rfl rfl rfl (by decide +kernel) ⟨(Nat.le_of_ble_eq_true rfl), (Nat.le_of_ble_eq_true rfl)⟩) ⟨kR_fb, va_recv hK hP (ci := 10) (q0 := 0) rfl rfl, (kR_go hPc hK)⟩ rfl rfl hl.1 rfl (lv_room (Nat.le_of_ble_eq_true rfl)) dX8_isNoWay_2 ⟨(Nat.le_of_ble_eq_true rfl), (Nat.le_of_ble_eq_true rfl)⟩) hS (fun _ _ h => h.elim) (fun _ h => h.elim) (fun r9 u t H locs ht hvm hw hB hz1 hk1 hS => ?_)
  have hP := kx_kept hP hk1
  obtain ⟨rfl, hw⟩ := hw
  refine lv_if_ne (tgt := 24) hx hb dX8_isNoWay_5 (by decide) (fun _ => ?_) (fun h => absurd h (by decide))
  refine lv_iconst (v := 1) hx hb dX8_isNoWay_24 (by decide) ?_
  refine lv_goto (tgt := 29) hx hb dX8_isNoWay_25 (by decide) ?_
  refine W.widen (k := 0) (n := 0) (Nat.le_of_ble_eq_true rfl) (Nat.le_of_ble_eq_true rfl) ?_
  exact W.zret (v := 1) hx hb hr rfl (fun t ht hW => ⟨⟨1, (), rfl, ⟨rfl, trivial⟩, trivial⟩, hS.F ht⟩) hS.2.2 dX8_isNoWay_29
theorem dX8_getWay_0 : decode cX8_getWay 0 = .ok (.aload_n 0, 1) := by decide +kernel
theorem dX8_getWay_1 : decode cX8_getWay 1 = .ok (.aload_n 0, 1) := by decide +kernel
theorem dX8_getWay_2 : decode cX8_getWay 2 = .ok (.iload_n 1, 1) := by decide +kernel
theorem dX8_getWay_3 : decode cX8_getWay 3 = .ok (.iload_n 2, 1) := by decide +kernel
theorem dX8_getWay_4 : decode cX8_getWay 4 = .ok (.invokevirtual 142, 3) := by decide +kernel
set_option maxRecDepth 20000 in
theorem ggX8_getWay_X8_isNoWay : GoodIn wsX8_getWay wsX8_isNoWay := goodIn_ca (goodIn_r _ [6, 7, 8, 9, 10, 5, 11, 12, 13, 14, 15, 21, 22, 23, 24, 25, 26, 27, 28, 29, 30, 31, 32, 33, 34, 35, 36, 37, 38] (by decide +kernel) (by decide +kernel)) (goodIn_sub (fun _ h => List.mem_cons_of_mem _ (List.mem_append_right _ h)) (by decide +kernel))
set_option maxRecDepth 20000 in
theorem gX8_getWay_X8_isNoWay : GoodIn wsX8_getWay (wsV RX8 142 RX8 yX8_isNoWay wsX8_isNoWay) := goodIn_app (goodIn_of _ (by decide +kernel)) ggX8_getWay_X8_isNoWay
theorem dX8_getWay_7 : decode cX8_getWay 7 = .ok (.iconst 1, 1) := by decide +kernel
theorem dX8_getWay_8 : decode cX8_getWay 8 = .ok (.invokevirtual 73, 3) := by decide +kernel
set_option maxRecDepth 20000 in
theorem ggX8_getWay_X8_isThrown : GoodIn wsX8_getWay wsX8_isThrown := goodIn_r _ [19, 20, 21, 22, 23, 24, 25, 26, 27, 28, 29, 30, 31, 32, 33, 34, 35, 36, 37, 38] (by decide +kernel) (by decide +kernel)
set_option maxRecDepth 20000 in
theorem gX8_getWay_X8_isThrown : GoodIn wsX8_getWay (wsV RX8 73 RX8 yX8_isThrown wsX8_isThrown) := goodIn_app (goodIn_of _ (by decide +kernel)) ggX8_getWay_X8_isThrown
theorem dX8_getWay_11 : decode cX8_getWay 11 = .ok (.ifCond .eq 7, 3) := by decide +kernel
theorem dX8_getWay_14 : decode cX8_getWay 14 = .ok (.iconst 0, 1) := by decide +kernel
theorem dX8_getWay_15 : decode cX8_getWay 15 = .ok (.goto 11, 3) := by decide +kernel
theorem dX8_getWay_26 : decode cX8_getWay 26 = .ok (.ireturn, 1) := by decide +kernel
set_option maxHeartbeats 4000000 in
set_option maxRecDepth 100000 in
theorem k_X8_getWay (l : Launch) (D : va_G) (cy : Nat → ClassId) (h1 : Nat) (p0 : Int32) (p1 : Int32) (x2 : Value) (x3 : Value) (x4 : Value) (x5 : Value) (x6 : Value) (x7 : Value) (x8 : Value) (x9 : Value) (x10 : Value) (x11 : Value) (x12 : Value) (x13 : Value) (x14 : Value) (x15 : Value) (x16 : Value) (x17 : Value) (x18 : Value) (sz : Nat) : Met l yX8_getWay wsX8_getWay ({ frames := 3, cells := 0, slots := 0, locals := 65 }) (kW D cy [.ref h1, .int p0, .int p1] [(h1, .inr (10, [x2, x3, x4, x5, x6, x7, x8, x9, x10, x11, x12, x13, x14, x15, x16, .int 0, x17, x18]))] sz) (va_Qi (fun (r : Int32) (_ : Unit) => r = 0 ∧ True) (fun (_ : Unit) (t : State) => va_P D vwCl [(h1, .inr (10, [x2, x3, x4, x5, x6, x7, x8, x9, x10, x11, x12, x13, x14, x15, x16, .int 0, x17, .int 1]))] t.heap ∧ va_D (va_A [(h1, .inr (10, [x2, x3, x4, x5, x6, x7, x8, x9, x10, x11, x12, x13, x14, x15, x16, .int 0, x17, x18]))] sz) [(h1, .inr (10, [x2, x3, x4, x5, x6, x7, x8, x9, x10, x11, x12, x13, x14, x15, x16, .int 0, x17, .int 1]))]) (va_A [(h1, .inr (10, [x2, x3, x4, x5, x6, x7, x8, x9, x10, x11, x12, x13, x14, x15, x16, .int 0, x17, x18]))] sz)) 0 0 (va_A [(h1, .inr (10, [x2, x3, x4, x5, x6, x7, x8, x9, x10, x11, x12, x13, x14, x15, x16, .int 0, x17, x18]))] sz) := by
  refine Met.ofW (cc := cX8_getWay) (maxL := 3) (ret := (some .int)) (by decide) rfl ?_
  intro p e s m args below meth c s₁ B hml hv
  obtain ⟨rfl, hsz, hP, hK, hD0⟩ := hv
  have hx := B.exec
  have hb := B.bytes
  have hr := B.returns
  have hts := atoms_spec (ws := wsX8_getWay) B.pre
  have hown : s.vm.findClass RX8 = some m.cls := findClass_of_methodNamed B.named
  have hlocks := B.notSynchronized
  subst hsz
  have hD := hD0.self (sz := s.heap.size)
  generalize hAe : va_A [(h1, .inr (10, [x2, x3, x4, x5, x6, x7, x8, x9, x10, x11, x12, x13, x14, x15, x16, .int 0, x17, x18]))] s.heap.size = A at hD ⊢
  have hA : ∀ q : Nat, s.heap.size ≤ q → A q := fun q h => by rw [← hAe]; exact Or.inr h
  have hS : va_S A s.heap s.heap [] := va_S.rf
  have hP : va_P D vwCl [(h1, .inr (10, [x2, x3, x4, x5, x6, x7, x8, x9, x10, x11, x12, x13, x14, x15, x16, .int 0, x17, x18]))] s.heap := hP
  have hl := lv_entry ([.ref h1, .int p0, .int p1]) (n := 3) (Nat.le_of_ble_eq_true rfl)
  rw [lg_entry_eq]
  generalize (lg_sl ([.ref h1, .int p0, .int p1]) ++ List.replicate (3 - (lg_sl ([.ref h1, .int p0, .int p1])).length) Slot.unset).toArray = ls at hl ⊢
  have hl : lv_has ls 3 [(0, .ref h1), (1, .int p0), (2, .int p1)] := hl
  refine lv_aload_n hx hb dX8_getWay_0 rfl (lv_at hl 0 rfl) ?_
  refine lv_aload_n hx hb dX8_getWay_1 rfl (lv_at hl 0 rfl) ?_
  refine lv_iload_n hx hb dX8_getWay_2 rfl (lv_at hl 1 rfl) ?_
  refine lv_iload_n hx hb dX8_getWay_3 rfl (lv_at hl 2 rfl) ?_
  have hPc := hP.sub (ws' := [(h1, .inr (10, [x2, x3, x4, x5, x6, x7, x8, x9, x10, x11, x12, x13, x14, x15, x16, .int 0, x17, x18]))]) [0] rfl
  refine va_calli (va_runV (As := [.int p0, .int p1]) (rest := [.ref h1]) ⟨hx, hb, hml, hown, hts⟩ (k_X8_isNoWay l D cy h1 p0 p1 (x2) (x3) (x4) (x5) (x6) (x7) (x8) (x9) (x10) (x11) (x12) (x13) (x14) (x15) (x16) (x17) (x18)) (cwV 2 hts gX8_getWay_X8_isNoWay rfl rfl rfl (by decide +kernel) ⟨(Nat.le_of_ble_eq_true rfl), (Nat.le_of_ble_eq_true rfl)⟩) ⟨kR_fb, va_recv hK hP (ci := 10) (q0 := 0) rfl rfl, (kR_go hPc hK)⟩ rfl rfl hl.1 rfl (lv_room (Nat.le_of_ble_eq_true rfl)) dX8_getWay_4 ⟨(Nat.le_of_ble_eq_true rfl), (Nat.le_of_ble_eq_true rfl)⟩) hS (fun _ _ h => h.elim) (fun _ h => h.elim) (fun r9 u t H locs ht hvm hw hB hz1 hk1 hS => ?_)
  have hP := kx_kept hP hk1
  obtain ⟨rfl, hw⟩ := hw
  refine lv_iconst (v := 1) hx hb dX8_getWay_7 (by decide) ?_
  have hPc := hP.sub (ws' := [(h1, .inr (10, [x2, x3, x4, x5, x6, x7, x8, x9, x10, x11, x12, x13, x14, x15, x16, .int 0, x17, x18]))]) [0] rfl
  have hDc := hD.sub (ws' := [(h1, .inr (10, [x2, x3, x4, x5, x6, x7, x8, x9, x10, x11, x12, x13, x14, x15, x16, .int 0, x17, x18]))]) [0] (by decide) rfl
  have hFc := va_free (wc := [(h1, .inr (10, [x2, x3, x4, x5, x6, x7, x8, x9, x10, x11, x12, x13, x14, x15, x16, .int 0, x17, x18]))]) hD hS hA [0] rfl
  refine va_calli (va_runV (As := [.int 1, .int 1]) (rest := []) ⟨hx, hb, hml, hown, hts⟩ (k_X8_isThrown l D cy h1 (x2) (x3) (x4) (x5) (x6) (x7) (x8) (x9) (x10) (x11) (x12) (x13) (x14) (x15) (x16) (.int 0) (x17) (x18) H.size) (cwV 2 hts gX8_getWay_X8_isThrown rfl rfl rfl (by decide +kernel) ⟨(Nat.le_of_ble_eq_true rfl), (Nat.le_of_ble_eq_true rfl)⟩) ⟨kW_fb, va_recv hK hP (ci := 10) (q0 := 0) rfl rfl, (kW_go hPc hK hDc)⟩ rfl rfl hl.1 rfl (lv_room (Nat.le_of_ble_eq_true rfl)) dX8_getWay_8 ⟨(Nat.le_of_ble_eq_true rfl), (Nat.le_of_ble_eq_true rfl)⟩) hS (fun q _ h => hFc q h) hFc (fun r9 u t H locs ht hvm hw hB hz1 hk1 hS => ?_)
  obtain ⟨hP1, hD1⟩ := hB
  rw [ht] at hP1
  try dsimp only at hw hP1 hD1
  obtain ⟨hP, hD⟩ := va_join (wr := []) (w1 := [(h1, .inr (10, [x2, x3, x4, x5, x6, x7, x8, x9, x10, x11, x12, x13, x14, x15, x16, .int 0, x17, .int 1]))]) hP hD [0] [] rfl rfl (by decide) (by decide) hk1 hFc hP1 hD1
  have hP : va_P D vwCl [(h1, .inr (10, [x2, x3, x4, x5, x6, x7, x8, x9, x10, x11, x12, x13, x14, x15, x16, .int 0, x17, .int 1]))] H := hP
  have hD : va_D A [(h1, .inr (10, [x2, x3, x4, x5, x6, x7, x8, x9, x10, x11, x12, x13, x14, x15, x16, .int 0, x17, .int 1]))] := hD
  obtain ⟨rfl, hw⟩ := hw
  refine lv_if_eq (tgt := 18) hx hb dX8_getWay_11 (by decide) (fun h => absurd h (by decide)) (fun _ => ?_)
  refine lv_iconst (v := 0) hx hb dX8_getWay_14 (by decide) ?_
  refine lv_goto (tgt := 26) hx hb dX8_getWay_15 (by decide) ?_
  refine W.widen (k := 0) (n := 0) (Nat.le_of_ble_eq_true rfl) (Nat.le_of_ble_eq_true rfl) ?_
  have hP9 := hP.sub (ws' := [(h1, .inr (10, [x2, x3, x4, x5, x6, x7, x8, x9, x10, x11, x12, x13, x14, x15, x16, .int 0, x17, .int 1]))]) [0] rfl
  have hD9 := hD.sub (ws' := [(h1, .inr (10, [x2, x3, x4, x5, x6, x7, x8, x9, x10, x11, x12, x13, x14, x15, x16, .int 0, x17, .int 1]))]) [0] (by decide) rfl
  exact W.iret (v := 0) hx hb hr (fun t ht hW => ⟨⟨0, (), rfl, ⟨rfl, trivial⟩, ⟨by rw [ht]; exact hP9, hD9⟩⟩, hS.F ht⟩) hS.2.2 dX8_getWay_26
theorem dX7_choose_0 : decode cX7_choose 0 = .ok (.aload_n 0, 1) := by decide +kernel
theorem dX7_choose_1 : decode cX7_choose 1 = .ok (.iload_n 1, 1) := by decide +kernel
theorem dX7_choose_2 : decode cX7_choose 2 = .ok (.iload_n 2, 1) := by decide +kernel
theorem dX7_choose_3 : decode cX7_choose 3 = .ok (.invokevirtual 148, 3) := by decide +kernel
set_option maxRecDepth 20000 in
theorem ggX7_choose_X7_checkWay : GoodIn wsX7_choose wsX7_checkWay := goodIn_ca (goodIn_r _ [10, 11, 12, 3, 13, 14, 15, 16, 17, 9, 18, 19, 44, 45, 46, 47, 48, 49, 50, 54, 55, 56, 57, 58, 59, 60, 61, 62, 63] (by decide +kernel) (by decide +kernel)) (goodIn_sub (fun _ h => List.mem_cons_of_mem _ (List.mem_append_right _ h)) (by decide +kernel))
set_option maxRecDepth 20000 in
theorem gX7_choose_X7_checkWay : GoodIn wsX7_choose (wsV RX7 148 RX7 yX7_checkWay wsX7_checkWay) := goodIn_app (goodIn_of _ (by decide +kernel)) ggX7_choose_X7_checkWay
set_option maxHeartbeats 4000000 in
set_option maxRecDepth 100000 in
theorem k_X7_choose (l : Launch) (hl9 : l.stackTraces = false) (D : va_G) (cy : Nat → ClassId) (h1 : Nat) (p0 : Int32) (p1 : Int32) (h2 : Nat) (x3 : Value) (x4 : Value) (x5 : Value) (x6 : Value) (x7 : Value) (x8 : Value) (x9 : Value) (x10 : Value) (x11 : Value) : vx_Met l yX7_choose wsX7_choose ({ frames := 8, cells := 1, slots := 6, locals := 125 }) (kRX D cy [.ref h1, .int p0, .int p1] [(h1, .inr (9, [.ref h2, x3, x4, x5, x6, x7, x8])), (h2, .inr (2, [x9, x10, x11, .int 0]))]) (va_Qi (fun (r : Int32) (_ : Unit) => False) (fun (_ : Unit) (_ : State) => True) (fun _ : Nat => False)) (vx_X (fun _ : Unit => True) (fun (E : String) (_ : Unit) (_ : State) => (E = "java/lang/IndexOutOfBoundsException" ∧ True)) (fun _ : Nat => False)) 1 6 (fun _ : Nat => False) := by
  refine vx_ofW (cc := cX7_choose) (maxL := 4) (ret := (some .int)) (by decide) rfl ?_
  intro p e s m args below meth c s₁ B hml ht9 hv
  obtain ⟨rfl, hP, hK, hE⟩ := hv
  have hx := B.exec
  have hb := B.bytes
  have hr := B.returns
  have hts := atoms_spec (ws := wsX7_choose) B.pre
  have hown : s.vm.findClass RX7 = some m.cls := findClass_of_methodNamed B.named
  have hlocks := B.notSynchronized
  have hS : va_S (fun _ : Nat => False) s.heap s.heap [] := va_S.rf
  have hP : va_P D vwCl [(h1, .inr (9, [.ref h2, x3, x4, x5, x6, x7, x8])), (h2, .inr (2, [x9, x10, x11, .int 0]))] s.heap := hP
  have hl := lv_entry ([.ref h1, .int p0, .int p1]) (n := 4) (Nat.le_of_ble_eq_true rfl)
  rw [lg_entry_eq]
  generalize (lg_sl ([.ref h1, .int p0, .int p1]) ++ List.replicate (4 - (lg_sl ([.ref h1, .int p0, .int p1])).length) Slot.unset).toArray = ls at hl ⊢
  have hl : lv_has ls 4 [(0, .ref h1), (1, .int p0), (2, .int p1)] := hl
  refine lv_aload_n hx hb dX7_choose_0 rfl (lv_at hl 0 rfl) ?_
  refine lv_iload_n hx hb dX7_choose_1 rfl (lv_at hl 1 rfl) ?_
  refine lv_iload_n hx hb dX7_choose_2 rfl (lv_at hl 2 rfl) ?_
  have hPc := hP.sub (ws' := [(h1, .inr (9, [.ref h2, x3, x4, x5, x6, x7, x8])), (h2, .inr (2, [x9, x10, x11, .int 0]))]) [0, 1] rfl
  refine vx_callv (vx_runV (As := [.int p0, .int p1]) (rest := []) ⟨hx, hb, hml, hown, hts⟩ (k_X7_checkWay l hl9 D cy h1 p0 p1 h2 (x3) (x4) (x5) (x6) (x7) (x8) (x9) (x10) (x11)) (cwV 2 hts gX7_choose_X7_checkWay rfl rfl rfl (by decide +kernel) ⟨(Nat.le_of_ble_eq_true rfl), (Nat.le_of_ble_eq_true rfl)⟩) ⟨kRX_fb, va_recv hK hP (ci := 9) (q0 := 0) rfl rfl, (kRX_go hPc hK hE hS)⟩ rfl rfl hl.1 rfl (lv_room (Nat.le_of_ble_eq_true rfl)) dX7_choose_3 ⟨(Nat.le_of_ble_eq_true rfl), (Nat.le_of_ble_eq_true rfl)⟩) hS (fun _ _ h => h.elim) (fun _ h => h.elim) (fun _ _ h => h.elim) (fun E9 ce9 q9 u t H locs ht hvm hw hB hz1 hk1 hS hce hcv hcl => ?_) (fun u t H locs ht hvm hw hB hz1 hk1 hS => ?_)
  · obtain ⟨rfl, hB⟩ := hB
    have f_1 : True := hB
    exact vx_out (fun x hx => (ht9 x hx).elim) hlocks hce hcv hcl (fun t ht _ => ⟨(), trivial, (⟨rfl, trivial⟩), hS.F ht⟩) hS.2.2 (Nat.le_of_ble_eq_true rfl) (Nat.le_of_ble_eq_true rfl)
  · exact (show False from hw).elim
theorem dL_choose_0 : decode cL_choose 0 = .ok (.aload_n 3, 1) := by decide +kernel
theorem dL_choose_1 : decode cL_choose 1 = .ok (.iconst 0, 1) := by decide +kernel
theorem dL_choose_2 : decode cL_choose 2 = .ok (.aload_n 0, 1) := by decide +kernel
theorem dL_choose_3 : decode cL_choose 3 = .ok (.iload_n 1, 1) := by decide +kernel
theorem dL_choose_4 : decode cL_choose 4 = .ok (.iload_n 2, 1) := by decide +kernel
theorem dL_choose_5 : decode cL_choose 5 = .ok (.invokevirtual 45, 3) := by decide +kernel
set_option maxRecDepth 20000 in
theorem ggL_choose_X7_choose : GoodIn wsL_choose wsX7_choose := goodIn_ca (goodIn_ca (goodIn_ca (goodIn_r _ [7, 8, 9, 10, 11, 12, 13, 14, 15, 6, 16, 17, 18, 19, 20, 21, 22, 23, 24, 25, 26, 27, 28, 29, 30, 31, 32, 33, 34, 35, 36, 37, 38, 39, 40, 41, 42, 43, 44, 45, 46, 47, 48, 49, 50, 51, 52, 53, 54, 55, 56, 57, 58, 59, 60, 61, 62, 63, 64, 65, 66, 67, 68, 69] (by decide +kernel) (by decide +kernel)) (goodIn_sub (fun _ h => List.mem_cons_of_mem _ (List.mem_append_left _ (List.mem_append_right _ h))) (by decide +kernel))) (goodIn_sub (fun _ h => List.mem_cons_of_mem _ (List.mem_append_left _ (List.mem_append_left _ (List.mem_append_right _ h)))) (by decide +kernel))) (goodIn_sub (fun _ h => List.mem_cons_of_mem _ (List.mem_append_right _ h)) (by decide +kernel))
set_option maxRecDepth 20000 in
theorem gL_choose_X7_choose : GoodIn wsL_choose (wsV RL 45 RX7 yX7_choose wsX7_choose) := goodIn_app (goodIn_of _ (by decide +kernel)) ggL_choose_X7_choose
theorem dL_choose_13 : decode cL_choose 13 = .ok (.astore 4, 2) := by decide +kernel
theorem dL_choose_15 : decode cL_choose 15 = .ok (.iconst 1, 1) := by decide +kernel
theorem dL_choose_16 : decode cL_choose 16 = .ok (.ireturn, 1) := by decide +kernel
set_option maxHeartbeats 4000000 in
set_option maxRecDepth 100000 in
theorem k_L_choose (l : Launch) (hl9 : l.stackTraces = false) (D : va_G) (cy : Nat → ClassId) (h1 : Nat) (p1 : Int32) (p2 : Int32) (h2 : Nat) (h3 : Nat) (x4 : Value) (x5 : Value) (x6 : Value) (x7 : Value) (x8 : Value) (x9 : Value) (x10 : Value) (x11 : Value) (x12 : Value) : Met l yL_choose wsL_choose ({ frames := 9, cells := 1, slots := 6, locals := 148 }) (kRX D cy [.ref h1, .int p1, .int p2, .ref h2] [(h1, .inr (9, [.ref h3, x4, x5, x6, x7, x8, x9])), (h3, .inr (2, [x10, x11, x12, .int 0]))]) (va_Qi (fun (r : Int32) (_ : Unit) => r = 1 ∧ True) (fun (_ : Unit) (_ : State) => True) (fun _ : Nat => False)) 1 6 (fun _ : Nat => False) := by
  refine va_MetW (cc := cL_choose) (maxL := 5) (ret := (some .int)) (by decide) rfl ?_
  intro p e s m args below meth c s₁ B hml hv
  obtain ⟨rfl, hP, hK, hE⟩ := hv
  have hx := B.exec
  have hb := B.bytes
  have hr := B.returns
  have hts := atoms_spec (ws := wsL_choose) B.pre
  have hown : s.vm.findClass RL = some m.cls := findClass_of_methodNamed B.named
  have hlocks := B.notSynchronized
  have htb := vx_table (x := yL_choose) B (hts _ (List.mem_cons_self))
  have hS : va_S (fun _ : Nat => False) s.heap s.heap [] := va_S.rf
  have hP : va_P D vwCl [(h1, .inr (9, [.ref h3, x4, x5, x6, x7, x8, x9])), (h3, .inr (2, [x10, x11, x12, .int 0]))] s.heap := hP
  have hl := lv_entry ([.ref h1, .int p1, .int p2, .ref h2]) (n := 5) (Nat.le_of_ble_eq_true rfl)
  rw [lg_entry_eq]
  generalize (lg_sl ([.ref h1, .int p1, .int p2, .ref h2]) ++ List.replicate (5 - (lg_sl ([.ref h1, .int p1, .int p2, .ref h2])).length) Slot.unset).toArray = ls at hl ⊢
  have hl : lv_has ls 5 [(0, .ref h1), (1, .int p1), (2, .int p2), (3, .ref h2)] := hl
  refine lv_aload_n hx hb dL_choose_0 rfl (lv_at hl 3 rfl) ?_
  refine lv_iconst (v := 0) hx hb dL_choose_1 (by decide) ?_
  refine lv_aload_n hx hb dL_choose_2 rfl (lv_at hl 0 rfl) ?_
  refine lv_iload_n hx hb dL_choose_3 rfl (lv_at hl 1 rfl) ?_
  refine lv_iload_n hx hb dL_choose_4 rfl (lv_at hl 2 rfl) ?_
  have hPc := hP.sub (ws' := [(h1, .inr (9, [.ref h3, x4, x5, x6, x7, x8, x9])), (h3, .inr (2, [x10, x11, x12, .int 0]))]) [0, 1] rfl
  refine vx_calli (vx_runV (As := [.int p1, .int p2]) (rest := [.int 0, .ref h2]) ⟨hx, hb, hml, hown, hts⟩ (k_X7_choose l hl9 D cy h1 p1 p2 h3 (x4) (x5) (x6) (x7) (x8) (x9) (x10) (x11) (x12)) (cwV 2 hts gL_choose_X7_choose rfl rfl rfl (by decide +kernel) ⟨(Nat.le_of_ble_eq_true rfl), (Nat.le_of_ble_eq_true rfl)⟩) ⟨kRX_fb, va_recv hK hP (ci := 9) (q0 := 0) rfl rfl, (kRX_go hPc hK hE hS)⟩ rfl rfl hl.1 rfl (lv_room (Nat.le_of_ble_eq_true rfl)) dL_choose_5 ⟨(Nat.le_of_ble_eq_true rfl), (Nat.le_of_ble_eq_true rfl)⟩) hS (fun _ _ h => h.elim) (fun _ h => h.elim) (fun _ _ h => h.elim) (fun E9 ce9 q9 u t H locs ht hvm hw hB hz1 hk1 hS hce hcv hcl => ?_) (fun r9 u t H locs ht hvm hw hB hz1 hk1 hS => ?_)
  · obtain ⟨rfl, hB⟩ := hB
    have f_1 : True := hB
    have hP := kx_kept hP hk1
    refine vx_catch (E := "java/lang/IndexOutOfBoundsException") (name := "java/lang/IndexOutOfBoundsException") hown [] (⟨0, 10, 13, 28⟩ : ExceptionTableEntry) [(⟨0, 10, 17, 30⟩ : ExceptionTableEntry)] htb (fun _ h => absurd h List.not_mem_nil) rfl (by decide) (hts (.classLink RL 28 "java/lang/IndexOutOfBoundsException") (List.mem_cons_of_mem _ (List.mem_append_left _ (List.mem_append_left _ (List.mem_append_left _ (List.mem_append_left _ (List.mem_append_left _ (List.mem_append_left _ (List.mem_append_left _ (List.mem_append_left _ (List.mem_of_getElem? (i := 0) rfl))))))))))) (exP.cast hE "java/lang/IndexOutOfBoundsException" (by decide +kernel)) hce hcv hcl ?_
    refine lv_astore (lv' := [(4, .ref q9), (0, .ref h1), (1, .int p1), (2, .int p2), (3, .ref h2)]) hx hb dL_choose_13 hl (by decide) rfl (fun ls hl => ?_)
    refine lv_iconst (v := 1) hx hb dL_choose_15 (by decide) ?_
    refine W.widen (k := 1) (n := 6) (Nat.le_of_ble_eq_true rfl) (Nat.le_of_ble_eq_true rfl) ?_
    exact W.iret (v := 1) hx hb hr (fun t ht hW => ⟨⟨1, (), rfl, ⟨rfl, trivial⟩, trivial⟩, hS.F ht⟩) hS.2.2 dL_choose_16
  · exact (show False from hw).elim
theorem dX8_choose_0 : decode cX8_choose 0 = .ok (.aload_n 0, 1) := by decide +kernel
theorem dX8_choose_1 : decode cX8_choose 1 = .ok (.aload_n 0, 1) := by decide +kernel
theorem dX8_choose_2 : decode cX8_choose 2 = .ok (.iload_n 1, 1) := by decide +kernel
theorem dX8_choose_3 : decode cX8_choose 3 = .ok (.iload_n 2, 1) := by decide +kernel
theorem dX8_choose_4 : decode cX8_choose 4 = .ok (.invokevirtual 142, 3) := by decide +kernel
set_option maxRecDepth 20000 in
theorem ggX8_choose_X8_isNoWay : GoodIn wsX8_choose wsX8_isNoWay := goodIn_ca (goodIn_r _ [6, 7, 8, 9, 10, 5, 11, 12, 13, 14, 15, 27, 28, 29, 30, 31, 32, 33, 34, 35, 36, 37, 38, 39, 40, 41, 42, 43, 44] (by decide +kernel) (by decide +kernel)) (goodIn_sub (fun _ h => List.mem_cons_of_mem _ (List.mem_append_right _ h)) (by decide +kernel))
set_option maxRecDepth 20000 in
theorem gX8_choose_X8_isNoWay : GoodIn wsX8_choose (wsV RX8 142 RX8 yX8_isNoWay wsX8_isNoWay) := goodIn_app (goodIn_of _ (by decide +kernel)) ggX8_choose_X8_isNoWay
theorem dX8_choose_7 : decode cX8_choose 7 = .ok (.iconst 1, 1) := by decide +kernel
theorem dX8_choose_8 : decode cX8_choose 8 = .ok (.invokevirtual 73, 3) := by decide +kernel
set_option maxRecDepth 20000 in
theorem ggX8_choose_X8_isThrown : GoodIn wsX8_choose wsX8_isThrown := goodIn_r _ [19, 20, 27, 28, 29, 30, 31, 32, 33, 34, 35, 36, 37, 38, 39, 40, 41, 42, 43, 44] (by decide +kernel) (by decide +kernel)
set_option maxRecDepth 20000 in
theorem gX8_choose_X8_isThrown : GoodIn wsX8_choose (wsV RX8 73 RX8 yX8_isThrown wsX8_isThrown) := goodIn_app (goodIn_of _ (by decide +kernel)) ggX8_choose_X8_isThrown
theorem dX8_choose_11 : decode cX8_choose 11 = .ok (.ifCond .ne 25, 3) := by decide +kernel
theorem dX8_choose_36 : decode cX8_choose 36 = .ok (.iconst 0, 1) := by decide +kernel
theorem dX8_choose_37 : decode cX8_choose 37 = .ok (.ireturn, 1) := by decide +kernel
set_option maxHeartbeats 4000000 in
set_option maxRecDepth 100000 in
theorem k_X8_choose (l : Launch) (D : va_G) (cy : Nat → ClassId) (h1 : Nat) (p0 : Int32) (p1 : Int32) (x2 : Value) (x3 : Value) (x4 : Value) (x5 : Value) (x6 : Value) (x7 : Value) (x8 : Value) (x9 : Value) (x10 : Value) (x11 : Value) (x12 : Value) (x13 : Value) (x14 : Value) (x15 : Value) (x16 : Value) (x17 : Value) (x18 : Value) (sz : Nat) : Met l yX8_choose wsX8_choose ({ frames := 3, cells := 0, slots := 0, locals := 65 }) (kW D cy [.ref h1, .int p0, .int p1] [(h1, .inr (10, [x2, x3, x4, x5, x6, x7, x8, x9, x10, x11, x12, x13, x14, x15, x16, .int 0, x17, x18]))] sz) (va_Qi (fun (r : Int32) (_ : Unit) => r = 0 ∧ True) (fun (_ : Unit) (t : State) => va_P D vwCl [(h1, .inr (10, [x2, x3, x4, x5, x6, x7, x8, x9, x10, x11, x12, x13, x14, x15, x16, .int 0, x17, .int 1]))] t.heap ∧ va_D (va_A [(h1, .inr (10, [x2, x3, x4, x5, x6, x7, x8, x9, x10, x11, x12, x13, x14, x15, x16, .int 0, x17, x18]))] sz) [(h1, .inr (10, [x2, x3, x4, x5, x6, x7, x8, x9, x10, x11, x12, x13, x14, x15, x16, .int 0, x17, .int 1]))]) (va_A [(h1, .inr (10, [x2, x3, x4, x5, x6, x7, x8, x9, x10, x11, x12, x13, x14, x15, x16, .int 0, x17, x18]))] sz)) 0 0 (va_A [(h1, .inr (10, [x2, x3, x4, x5, x6, x7, x8, x9, x10, x11, x12, x13, x14, x15, x16, .int 0, x17, x18]))] sz) := by
  refine Met.ofW (cc := cX8_choose) (maxL := 4) (ret := (some .int)) (by decide) rfl ?_
  intro p e s m args below meth c s₁ B hml hv
  obtain ⟨rfl, hsz, hP, hK, hD0⟩ := hv
  have hx := B.exec
  have hb := B.bytes
  have hr := B.returns
  have hts := atoms_spec (ws := wsX8_choose) B.pre
  have hown : s.vm.findClass RX8 = some m.cls := findClass_of_methodNamed B.named
  have hlocks := B.notSynchronized
  subst hsz
  have hD := hD0.self (sz := s.heap.size)
  generalize hAe : va_A [(h1, .inr (10, [x2, x3, x4, x5, x6, x7, x8, x9, x10, x11, x12, x13, x14, x15, x16, .int 0, x17, x18]))] s.heap.size = A at hD ⊢
  have hA : ∀ q : Nat, s.heap.size ≤ q → A q := fun q h => by rw [← hAe]; exact Or.inr h
  have hS : va_S A s.heap s.heap [] := va_S.rf
  have hP : va_P D vwCl [(h1, .inr (10, [x2, x3, x4, x5, x6, x7, x8, x9, x10, x11, x12, x13, x14, x15, x16, .int 0, x17, x18]))] s.heap := hP
  have hl := lv_entry ([.ref h1, .int p0, .int p1]) (n := 4) (Nat.le_of_ble_eq_true rfl)
  rw [lg_entry_eq]
  generalize (lg_sl ([.ref h1, .int p0, .int p1]) ++ List.replicate (4 - (lg_sl ([.ref h1, .int p0, .int p1])).length) Slot.unset).toArray = ls at hl ⊢
  have hl : lv_has ls 4 [(0, .ref h1), (1, .int p0), (2, .int p1)] := hl
  refine lv_aload_n hx hb dX8_choose_0 rfl (lv_at hl 0 rfl) ?_
  refine lv_aload_n hx hb dX8_choose_1 rfl (lv_at hl 0 rfl) ?_
  refine lv_iload_n hx hb dX8_choose_2 rfl (lv_at hl 1 rfl) ?_
  refine lv_iload_n hx hb dX8_choose_3 rfl (lv_at hl 2 rfl) ?_
  have hPc := hP.sub (ws' := [(h1, .inr (10, [x2, x3, x4, x5, x6, x7, x8, x9, x10, x11, x12, x13, x14, x15, x16, .int 0, x17, x18]))]) [0] rfl
  refine va_calli (va_runV (As := [.int p0, .int p1]) (rest := [.ref h1]) ⟨hx, hb, hml, hown, hts⟩ (k_X8_isNoWay l D cy h1 p0 p1 (x2) (x3) (x4) (x5) (x6) (x7) (x8) (x9) (x10) (x11) (x12) (x13) (x14) (x15) (x16) (x17) (x18)) (cwV 2 hts gX8_choose_X8_isNoWay rfl rfl rfl (by decide +kernel) ⟨(Nat.le_of_ble_eq_true rfl), (Nat.le_of_ble_eq_true rfl)⟩) ⟨kR_fb, va_recv hK hP (ci := 10) (q0 := 0) rfl rfl, (kR_go hPc hK)⟩ rfl rfl hl.1 rfl (lv_room (Nat.le_of_ble_eq_true rfl)) dX8_choose_4 ⟨(Nat.le_of_ble_eq_true rfl), (Nat.le_of_ble_eq_true rfl)⟩) hS (fun _ _ h => h.elim) (fun _ h => h.elim) (fun r9 u t H locs ht hvm hw hB hz1 hk1 hS => ?_)
  have hP := kx_kept hP hk1
  obtain ⟨rfl, hw⟩ := hw
  refine lv_iconst (v := 1) hx hb dX8_choose_7 (by decide) ?_
  have hPc := hP.sub (ws' := [(h1, .inr (10, [x2, x3, x4, x5, x6, x7, x8, x9, x10, x11, x12, x13, x14, x15, x16, .int 0, x17, x18]))]) [0] rfl
  have hDc := hD.sub (ws' := [(h1, .inr (10, [x2, x3, x4, x5, x6, x7, x8, x9, x10, x11, x12, x13, x14, x15, x16, .int 0, x17, x18]))]) [0] (by decide) rfl
  have hFc := va_free (wc := [(h1, .inr (10, [x2, x3, x4, x5, x6, x7, x8, x9, x10, x11, x12, x13, x14, x15, x16, .int 0, x17, x18]))]) hD hS hA [0] rfl
  refine va_calli (va_runV (As := [.int 1, .int 1]) (rest := []) ⟨hx, hb, hml, hown, hts⟩ (k_X8_isThrown l D cy h1 (x2) (x3) (x4) (x5) (x6) (x7) (x8) (x9) (x10) (x11) (x12) (x13) (x14) (x15) (x16) (.int 0) (x17) (x18) H.size) (cwV 2 hts gX8_choose_X8_isThrown rfl rfl rfl (by decide +kernel) ⟨(Nat.le_of_ble_eq_true rfl), (Nat.le_of_ble_eq_true rfl)⟩) ⟨kW_fb, va_recv hK hP (ci := 10) (q0 := 0) rfl rfl, (kW_go hPc hK hDc)⟩ rfl rfl hl.1 rfl (lv_room (Nat.le_of_ble_eq_true rfl)) dX8_choose_8 ⟨(Nat.le_of_ble_eq_true rfl), (Nat.le_of_ble_eq_true rfl)⟩) hS (fun q _ h => hFc q h) hFc (fun r9 u t H locs ht hvm hw hB hz1 hk1 hS => ?_)
  obtain ⟨hP1, hD1⟩ := hB
  rw [ht] at hP1
  try dsimp only at hw hP1 hD1
  obtain ⟨hP, hD⟩ := va_join (wr := []) (w1 := [(h1, .inr (10, [x2, x3, x4, x5, x6, x7, x8, x9, x10, x11, x12, x13, x14, x15, x16, .int 0, x17, .int 1]))]) hP hD [0] [] rfl rfl (by decide) (by decide) hk1 hFc hP1 hD1
  have hP : va_P D vwCl [(h1, .inr (10, [x2, x3, x4, x5, x6, x7, x8, x9, x10, x11, x12, x13, x14, x15, x16, .int 0, x17, .int 1]))] H := hP
  have hD : va_D A [(h1, .inr (10, [x2, x3, x4, x5, x6, x7, x8, x9, x10, x11, x12, x13, x14, x15, x16, .int 0, x17, .int 1]))] := hD
  obtain ⟨rfl, hw⟩ := hw
  refine lv_if_ne (tgt := 36) hx hb dX8_choose_11 (by decide) (fun _ => ?_) (fun h => absurd h (by decide))
  refine lv_iconst (v := 0) hx hb dX8_choose_36 (by decide) ?_
  refine W.widen (k := 0) (n := 0) (Nat.le_of_ble_eq_true rfl) (Nat.le_of_ble_eq_true rfl) ?_
  have hP9 := hP.sub (ws' := [(h1, .inr (10, [x2, x3, x4, x5, x6, x7, x8, x9, x10, x11, x12, x13, x14, x15, x16, .int 0, x17, .int 1]))]) [0] rfl
  have hD9 := hD.sub (ws' := [(h1, .inr (10, [x2, x3, x4, x5, x6, x7, x8, x9, x10, x11, x12, x13, x14, x15, x16, .int 0, x17, .int 1]))]) [0] (by decide) rfl
  exact W.iret (v := 0) hx hb hr (fun t ht hW => ⟨⟨0, (), rfl, ⟨rfl, trivial⟩, ⟨by rw [ht]; exact hP9, hD9⟩⟩, hS.F ht⟩) hS.2.2 dX8_choose_37
theorem dX7_getChosen_0 : decode cX7_getChosen 0 = .ok (.aload_n 0, 1) := by decide +kernel
theorem dX7_getChosen_1 : decode cX7_getChosen 1 = .ok (.iload_n 1, 1) := by decide +kernel
theorem dX7_getChosen_2 : decode cX7_getChosen 2 = .ok (.invokevirtual 88, 3) := by decide +kernel
set_option maxRecDepth 20000 in
theorem ggX7_getChosen_X7_checkPlayer : GoodIn wsX7_getChosen wsX7_checkPlayer := goodIn_ca (goodIn_r _ [7, 8, 9, 10, 11, 12, 13, 14, 15, 16, 17, 18, 22, 23, 24, 25] (by decide +kernel) (by decide +kernel)) (goodIn_sub (fun _ h => List.mem_cons_of_mem _ (List.mem_append_right _ h)) (by decide +kernel))
set_option maxRecDepth 20000 in
theorem gX7_getChosen_X7_checkPlayer : GoodIn wsX7_getChosen (wsV RX7 88 RX7 yX7_checkPlayer wsX7_checkPlayer) := goodIn_app (goodIn_of _ (by decide +kernel)) ggX7_getChosen_X7_checkPlayer
set_option maxHeartbeats 4000000 in
set_option maxRecDepth 100000 in
theorem k_X7_getChosen (l : Launch) (hl9 : l.stackTraces = false) (D : va_G) (cy : Nat → ClassId) (h1 : Nat) (p0 : Int32) (h2 : Nat) (x3 : Value) (x4 : Value) (x5 : Value) (x6 : Value) (x7 : Value) (x8 : Value) (x9 : Value) (x10 : Value) (x11 : Value) : vx_Met l yX7_getChosen wsX7_getChosen ({ frames := 7, cells := 1, slots := 6, locals := 103 }) (kRX D cy [.ref h1, .int p0] [(h1, .inr (9, [.ref h2, x3, x4, x5, x6, x7, x8])), (h2, .inr (2, [x9, x10, x11, .int 0]))]) (va_Qi (fun (r : Int32) (_ : Unit) => False) (fun (_ : Unit) (_ : State) => True) (fun _ : Nat => False)) (vx_X (fun _ : Unit => True) (fun (E : String) (_ : Unit) (_ : State) => (E = "java/lang/IndexOutOfBoundsException" ∧ True)) (fun _ : Nat => False)) 1 6 (fun _ : Nat => False) := by
  refine vx_ofW (cc := cX7_getChosen) (maxL := 2) (ret := (some .int)) (by decide) rfl ?_
  intro p e s m args below meth c s₁ B hml ht9 hv
  obtain ⟨rfl, hP, hK, hE⟩ := hv
  have hx := B.exec
  have hb := B.bytes
  have hr := B.returns
  have hts := atoms_spec (ws := wsX7_getChosen) B.pre
  have hown : s.vm.findClass RX7 = some m.cls := findClass_of_methodNamed B.named
  have hlocks := B.notSynchronized
  have hS : va_S (fun _ : Nat => False) s.heap s.heap [] := va_S.rf
  have hP : va_P D vwCl [(h1, .inr (9, [.ref h2, x3, x4, x5, x6, x7, x8])), (h2, .inr (2, [x9, x10, x11, .int 0]))] s.heap := hP
  have hl := lv_entry ([.ref h1, .int p0]) (n := 2) (Nat.le_of_ble_eq_true rfl)
  rw [lg_entry_eq]
  generalize (lg_sl ([.ref h1, .int p0]) ++ List.replicate (2 - (lg_sl ([.ref h1, .int p0])).length) Slot.unset).toArray = ls at hl ⊢
  have hl : lv_has ls 2 [(0, .ref h1), (1, .int p0)] := hl
  refine lv_aload_n hx hb dX7_getChosen_0 rfl (lv_at hl 0 rfl) ?_
  refine lv_iload_n hx hb dX7_getChosen_1 rfl (lv_at hl 1 rfl) ?_
  have hPc := hP.sub (ws' := [(h1, .inr (9, [.ref h2, x3, x4, x5, x6, x7, x8])), (h2, .inr (2, [x9, x10, x11, .int 0]))]) [0, 1] rfl
  refine vx_callv (vx_runV (As := [.int p0]) (rest := []) ⟨hx, hb, hml, hown, hts⟩ (k_X7_checkPlayer l hl9 D cy h1 p0 h2 (x3) (x4) (x5) (x6) (x7) (x8) (x9) (x10) (x11)) (cwV 1 hts gX7_getChosen_X7_checkPlayer rfl rfl rfl (by decide +kernel) ⟨(Nat.le_of_ble_eq_true rfl), (Nat.le_of_ble_eq_true rfl)⟩) ⟨kRX_fb, va_recv hK hP (ci := 9) (q0 := 0) rfl rfl, (kRX_go hPc hK hE hS)⟩ rfl rfl hl.1 rfl (lv_room (Nat.le_of_ble_eq_true rfl)) dX7_getChosen_2 ⟨(Nat.le_of_ble_eq_true rfl), (Nat.le_of_ble_eq_true rfl)⟩) hS (fun _ _ h => h.elim) (fun _ h => h.elim) (fun _ _ h => h.elim) (fun E9 ce9 q9 u t H locs ht hvm hw hB hz1 hk1 hS hce hcv hcl => ?_) (fun u t H locs ht hvm hw hB hz1 hk1 hS => ?_)
  · obtain ⟨rfl, hB⟩ := hB
    have f_1 : True := hB
    exact vx_out (fun x hx => (ht9 x hx).elim) hlocks hce hcv hcl (fun t ht _ => ⟨(), trivial, (⟨rfl, trivial⟩), hS.F ht⟩) hS.2.2 (Nat.le_of_ble_eq_true rfl) (Nat.le_of_ble_eq_true rfl)
  · exact (show False from hw).elim
theorem dL_getChosen_0 : decode cL_getChosen 0 = .ok (.aload_n 2, 1) := by decide +kernel
theorem dL_getChosen_1 : decode cL_getChosen 1 = .ok (.iconst 0, 1) := by decide +kernel
theorem dL_getChosen_2 : decode cL_getChosen 2 = .ok (.aload_n 0, 1) := by decide +kernel
theorem dL_getChosen_3 : decode cL_getChosen 3 = .ok (.iload_n 1, 1) := by decide +kernel
theorem dL_getChosen_4 : decode cL_getChosen 4 = .ok (.invokevirtual 48, 3) := by decide +kernel
set_option maxRecDepth 20000 in
theorem ggL_getChosen_X7_getChosen : GoodIn wsL_getChosen wsX7_getChosen := goodIn_ca (goodIn_ca (goodIn_r _ [6, 7, 8, 9, 10, 11, 5, 12, 13, 14, 15, 16, 17, 18, 19, 20, 21, 22, 23, 24, 25, 26, 27, 28, 29, 30] (by decide +kernel) (by decide +kernel)) (goodIn_sub (fun _ h => List.mem_cons_of_mem _ (List.mem_append_left _ (List.mem_append_right _ h))) (by decide +kernel))) (goodIn_sub (fun _ h => List.mem_cons_of_mem _ (List.mem_append_right _ h)) (by decide +kernel))
set_option maxRecDepth 20000 in
theorem gL_getChosen_X7_getChosen : GoodIn wsL_getChosen (wsV RL 48 RX7 yX7_getChosen wsX7_getChosen) := goodIn_app (goodIn_of _ (by decide +kernel)) ggL_getChosen_X7_getChosen
theorem dL_getChosen_12 : decode cL_getChosen 12 = .ok (.astore_n 3, 1) := by decide +kernel
theorem dL_getChosen_13 : decode cL_getChosen 13 = .ok (.iconst 1, 1) := by decide +kernel
theorem dL_getChosen_14 : decode cL_getChosen 14 = .ok (.ireturn, 1) := by decide +kernel
set_option maxHeartbeats 4000000 in
set_option maxRecDepth 100000 in
theorem k_L_getChosen (l : Launch) (hl9 : l.stackTraces = false) (D : va_G) (cy : Nat → ClassId) (h1 : Nat) (p1 : Int32) (h2 : Nat) (h3 : Nat) (x4 : Value) (x5 : Value) (x6 : Value) (x7 : Value) (x8 : Value) (x9 : Value) (x10 : Value) (x11 : Value) (x12 : Value) : Met l yL_getChosen wsL_getChosen ({ frames := 8, cells := 1, slots := 6, locals := 124 }) (kRX D cy [.ref h1, .int p1, .ref h2] [(h1, .inr (9, [.ref h3, x4, x5, x6, x7, x8, x9])), (h3, .inr (2, [x10, x11, x12, .int 0]))]) (va_Qi (fun (r : Int32) (_ : Unit) => r = 1 ∧ True) (fun (_ : Unit) (_ : State) => True) (fun _ : Nat => False)) 1 6 (fun _ : Nat => False) := by
  refine va_MetW (cc := cL_getChosen) (maxL := 4) (ret := (some .int)) (by decide) rfl ?_
  intro p e s m args below meth c s₁ B hml hv
  obtain ⟨rfl, hP, hK, hE⟩ := hv
  have hx := B.exec
  have hb := B.bytes
  have hr := B.returns
  have hts := atoms_spec (ws := wsL_getChosen) B.pre
  have hown : s.vm.findClass RL = some m.cls := findClass_of_methodNamed B.named
  have hlocks := B.notSynchronized
  have htb := vx_table (x := yL_getChosen) B (hts _ (List.mem_cons_self))
  have hS : va_S (fun _ : Nat => False) s.heap s.heap [] := va_S.rf
  have hP : va_P D vwCl [(h1, .inr (9, [.ref h3, x4, x5, x6, x7, x8, x9])), (h3, .inr (2, [x10, x11, x12, .int 0]))] s.heap := hP
  have hl := lv_entry ([.ref h1, .int p1, .ref h2]) (n := 4) (Nat.le_of_ble_eq_true rfl)
  rw [lg_entry_eq]
  generalize (lg_sl ([.ref h1, .int p1, .ref h2]) ++ List.replicate (4 - (lg_sl ([.ref h1, .int p1, .ref h2])).length) Slot.unset).toArray = ls at hl ⊢
  have hl : lv_has ls 4 [(0, .ref h1), (1, .int p1), (2, .ref h2)] := hl
  refine lv_aload_n hx hb dL_getChosen_0 rfl (lv_at hl 2 rfl) ?_
  refine lv_iconst (v := 0) hx hb dL_getChosen_1 (by decide) ?_
  refine lv_aload_n hx hb dL_getChosen_2 rfl (lv_at hl 0 rfl) ?_
  refine lv_iload_n hx hb dL_getChosen_3 rfl (lv_at hl 1 rfl) ?_
  have hPc := hP.sub (ws' := [(h1, .inr (9, [.ref h3, x4, x5, x6, x7, x8, x9])), (h3, .inr (2, [x10, x11, x12, .int 0]))]) [0, 1] rfl
  refine vx_calli (vx_runV (As := [.int p1]) (rest := [.int 0, .ref h2]) ⟨hx, hb, hml, hown, hts⟩ (k_X7_getChosen l hl9 D cy h1 p1 h3 (x4) (x5) (x6) (x7) (x8) (x9) (x10) (x11) (x12)) (cwV 1 hts gL_getChosen_X7_getChosen rfl rfl rfl (by decide +kernel) ⟨(Nat.le_of_ble_eq_true rfl), (Nat.le_of_ble_eq_true rfl)⟩) ⟨kRX_fb, va_recv hK hP (ci := 9) (q0 := 0) rfl rfl, (kRX_go hPc hK hE hS)⟩ rfl rfl hl.1 rfl (lv_room (Nat.le_of_ble_eq_true rfl)) dL_getChosen_4 ⟨(Nat.le_of_ble_eq_true rfl), (Nat.le_of_ble_eq_true rfl)⟩) hS (fun _ _ h => h.elim) (fun _ h => h.elim) (fun _ _ h => h.elim) (fun E9 ce9 q9 u t H locs ht hvm hw hB hz1 hk1 hS hce hcv hcl => ?_) (fun r9 u t H locs ht hvm hw hB hz1 hk1 hS => ?_)
  · obtain ⟨rfl, hB⟩ := hB
    have f_1 : True := hB
    have hP := kx_kept hP hk1
    refine vx_catch (E := "java/lang/IndexOutOfBoundsException") (name := "java/lang/IndexOutOfBoundsException") hown [] (⟨0, 9, 12, 28⟩ : ExceptionTableEntry) [] htb (fun _ h => absurd h List.not_mem_nil) rfl (by decide) (hts (.classLink RL 28 "java/lang/IndexOutOfBoundsException") (List.mem_cons_of_mem _ (List.mem_append_left _ (List.mem_append_left _ (List.mem_append_left _ (List.mem_append_left _ (List.mem_append_left _ (List.mem_of_getElem? (i := 0) rfl)))))))) (exP.cast hE "java/lang/IndexOutOfBoundsException" (by decide +kernel)) hce hcv hcl ?_
    refine lv_astore_n (lv' := [(3, .ref q9), (0, .ref h1), (1, .int p1), (2, .ref h2)]) hx hb dL_getChosen_12 rfl hl (by decide) rfl (fun ls hl => ?_)
    refine lv_iconst (v := 1) hx hb dL_getChosen_13 (by decide) ?_
    refine W.widen (k := 1) (n := 6) (Nat.le_of_ble_eq_true rfl) (Nat.le_of_ble_eq_true rfl) ?_
    exact W.iret (v := 1) hx hb hr (fun t ht hW => ⟨⟨1, (), rfl, ⟨rfl, trivial⟩, trivial⟩, hS.F ht⟩) hS.2.2 dL_getChosen_14
  · exact (show False from hw).elim
theorem dX8_getChosen_0 : decode cX8_getChosen 0 = .ok (.aload_n 0, 1) := by decide +kernel
theorem dX8_getChosen_1 : decode cX8_getChosen 1 = .ok (.aload_n 0, 1) := by decide +kernel
theorem dX8_getChosen_2 : decode cX8_getChosen 2 = .ok (.iload_n 1, 1) := by decide +kernel
theorem dX8_getChosen_3 : decode cX8_getChosen 3 = .ok (.invokevirtual 100, 3) := by decide +kernel
set_option maxRecDepth 20000 in
theorem ggX8_getChosen_X8_isNone : GoodIn wsX8_getChosen wsX8_isNone := goodIn_r _ [6, 7, 8, 9, 5, 10, 16, 17, 18, 19, 20, 21, 22, 23, 24, 25, 26, 27, 28, 29, 30, 31, 32, 33] (by decide +kernel) (by decide +kernel)
set_option maxRecDepth 20000 in
theorem gX8_getChosen_X8_isNone : GoodIn wsX8_getChosen (wsV RX8 100 RX8 yX8_isNone wsX8_isNone) := goodIn_app (goodIn_of _ (by decide +kernel)) ggX8_getChosen_X8_isNone
theorem dX8_getChosen_6 : decode cX8_getChosen 6 = .ok (.iconst 1, 1) := by decide +kernel
theorem dX8_getChosen_7 : decode cX8_getChosen 7 = .ok (.invokevirtual 73, 3) := by decide +kernel
set_option maxRecDepth 20000 in
theorem ggX8_getChosen_X8_isThrown : GoodIn wsX8_getChosen wsX8_isThrown := goodIn_r _ [14, 15, 16, 17, 18, 19, 20, 21, 22, 23, 24, 25, 26, 27, 28, 29, 30, 31, 32, 33] (by decide +kernel) (by decide +kernel)
set_option maxRecDepth 20000 in
theorem gX8_getChosen_X8_isThrown : GoodIn wsX8_getChosen (wsV RX8 73 RX8 yX8_isThrown wsX8_isThrown) := goodIn_app (goodIn_of _ (by decide +kernel)) ggX8_getChosen_X8_isThrown
theorem dX8_getChosen_10 : decode cX8_getChosen 10 = .ok (.ifCond .eq 7, 3) := by decide +kernel
theorem dX8_getChosen_13 : decode cX8_getChosen 13 = .ok (.iconst 0, 1) := by decide +kernel
theorem dX8_getChosen_14 : decode cX8_getChosen 14 = .ok (.goto 9, 3) := by decide +kernel
theorem dX8_getChosen_23 : decode cX8_getChosen 23 = .ok (.ireturn, 1) := by decide +kernel
set_option maxHeartbeats 4000000 in
set_option maxRecDepth 100000 in
theorem k_X8_getChosen (l : Launch) (D : va_G) (cy : Nat → ClassId) (h1 : Nat) (p0 : Int32) (x2 : Value) (x3 : Value) (x4 : Value) (x5 : Value) (x6 : Value) (x7 : Value) (x8 : Value) (x9 : Value) (x10 : Value) (x11 : Value) (x12 : Value) (x13 : Value) (x14 : Value) (x15 : Value) (x16 : Value) (x17 : Value) (x18 : Value) (sz : Nat) : Met l yX8_getChosen wsX8_getChosen ({ frames := 2, cells := 0, slots := 0, locals := 43 }) (kW D cy [.ref h1, .int p0] [(h1, .inr (10, [x2, x3, x4, x5, x6, x7, x8, x9, x10, x11, x12, x13, x14, x15, x16, .int 0, x17, x18]))] sz) (va_Qi (fun (r : Int32) (_ : Unit) => r = 0 ∧ True) (fun (_ : Unit) (t : State) => va_P D vwCl [(h1, .inr (10, [x2, x3, x4, x5, x6, x7, x8, x9, x10, x11, x12, x13, x14, x15, x16, .int 0, x17, .int 1]))] t.heap ∧ va_D (va_A [(h1, .inr (10, [x2, x3, x4, x5, x6, x7, x8, x9, x10, x11, x12, x13, x14, x15, x16, .int 0, x17, x18]))] sz) [(h1, .inr (10, [x2, x3, x4, x5, x6, x7, x8, x9, x10, x11, x12, x13, x14, x15, x16, .int 0, x17, .int 1]))]) (va_A [(h1, .inr (10, [x2, x3, x4, x5, x6, x7, x8, x9, x10, x11, x12, x13, x14, x15, x16, .int 0, x17, x18]))] sz)) 0 0 (va_A [(h1, .inr (10, [x2, x3, x4, x5, x6, x7, x8, x9, x10, x11, x12, x13, x14, x15, x16, .int 0, x17, x18]))] sz) := by
  refine Met.ofW (cc := cX8_getChosen) (maxL := 2) (ret := (some .int)) (by decide) rfl ?_
  intro p e s m args below meth c s₁ B hml hv
  obtain ⟨rfl, hsz, hP, hK, hD0⟩ := hv
  have hx := B.exec
  have hb := B.bytes
  have hr := B.returns
  have hts := atoms_spec (ws := wsX8_getChosen) B.pre
  have hown : s.vm.findClass RX8 = some m.cls := findClass_of_methodNamed B.named
  have hlocks := B.notSynchronized
  subst hsz
  have hD := hD0.self (sz := s.heap.size)
  generalize hAe : va_A [(h1, .inr (10, [x2, x3, x4, x5, x6, x7, x8, x9, x10, x11, x12, x13, x14, x15, x16, .int 0, x17, x18]))] s.heap.size = A at hD ⊢
  have hA : ∀ q : Nat, s.heap.size ≤ q → A q := fun q h => by rw [← hAe]; exact Or.inr h
  have hS : va_S A s.heap s.heap [] := va_S.rf
  have hP : va_P D vwCl [(h1, .inr (10, [x2, x3, x4, x5, x6, x7, x8, x9, x10, x11, x12, x13, x14, x15, x16, .int 0, x17, x18]))] s.heap := hP
  have hl := lv_entry ([.ref h1, .int p0]) (n := 2) (Nat.le_of_ble_eq_true rfl)
  rw [lg_entry_eq]
  generalize (lg_sl ([.ref h1, .int p0]) ++ List.replicate (2 - (lg_sl ([.ref h1, .int p0])).length) Slot.unset).toArray = ls at hl ⊢
  have hl : lv_has ls 2 [(0, .ref h1), (1, .int p0)] := hl
  refine lv_aload_n hx hb dX8_getChosen_0 rfl (lv_at hl 0 rfl) ?_
  refine lv_aload_n hx hb dX8_getChosen_1 rfl (lv_at hl 0 rfl) ?_
  refine lv_iload_n hx hb dX8_getChosen_2 rfl (lv_at hl 1 rfl) ?_
  have hPc := hP.sub (ws' := [(h1, .inr (10, [x2, x3, x4, x5, x6, x7, x8, x9, x10, x11, x12, x13, x14, x15, x16, .int 0, x17, x18]))]) [0] rfl
  refine va_calli (va_runV (As := [.int p0]) (rest := [.ref h1]) ⟨hx, hb, hml, hown, hts⟩ (k_X8_isNone l D cy h1 p0 (x2) (x3) (x4) (x5) (x6) (x7) (x8) (x9) (x10) (x11) (x12) (x13) (x14) (x15) (x16) (x17) (x18)) (cwV 1 hts gX8_getChosen_X8_isNone rfl rfl rfl (by decide +kernel) ⟨(Nat.le_of_ble_eq_true rfl), (Nat.le_of_ble_eq_true rfl)⟩) ⟨kR_fb, va_recv hK hP (ci := 10) (q0 := 0) rfl rfl, (kR_go hPc hK)⟩ rfl rfl hl.1 rfl (lv_room (Nat.le_of_ble_eq_true rfl)) dX8_getChosen_3 ⟨(Nat.le_of_ble_eq_true rfl), (Nat.le_of_ble_eq_true rfl)⟩) hS (fun _ _ h => h.elim) (fun _ h => h.elim) (fun r9 u t H locs ht hvm hw hB hz1 hk1 hS => ?_)
  have hP := kx_kept hP hk1
  obtain ⟨rfl, hw⟩ := hw
  refine lv_iconst (v := 1) hx hb dX8_getChosen_6 (by decide) ?_
  have hPc := hP.sub (ws' := [(h1, .inr (10, [x2, x3, x4, x5, x6, x7, x8, x9, x10, x11, x12, x13, x14, x15, x16, .int 0, x17, x18]))]) [0] rfl
  have hDc := hD.sub (ws' := [(h1, .inr (10, [x2, x3, x4, x5, x6, x7, x8, x9, x10, x11, x12, x13, x14, x15, x16, .int 0, x17, x18]))]) [0] (by decide) rfl
  have hFc := va_free (wc := [(h1, .inr (10, [x2, x3, x4, x5, x6, x7, x8, x9, x10, x11, x12, x13, x14, x15, x16, .int 0, x17, x18]))]) hD hS hA [0] rfl
  refine va_calli (va_runV (As := [.int 1, .int 1]) (rest := []) ⟨hx, hb, hml, hown, hts⟩ (k_X8_isThrown l D cy h1 (x2) (x3) (x4) (x5) (x6) (x7) (x8) (x9) (x10) (x11) (x12) (x13) (x14) (x15) (x16) (.int 0) (x17) (x18) H.size) (cwV 2 hts gX8_getChosen_X8_isThrown rfl rfl rfl (by decide +kernel) ⟨(Nat.le_of_ble_eq_true rfl), (Nat.le_of_ble_eq_true rfl)⟩) ⟨kW_fb, va_recv hK hP (ci := 10) (q0 := 0) rfl rfl, (kW_go hPc hK hDc)⟩ rfl rfl hl.1 rfl (lv_room (Nat.le_of_ble_eq_true rfl)) dX8_getChosen_7 ⟨(Nat.le_of_ble_eq_true rfl), (Nat.le_of_ble_eq_true rfl)⟩) hS (fun q _ h => hFc q h) hFc (fun r9 u t H locs ht hvm hw hB hz1 hk1 hS => ?_)
  obtain ⟨hP1, hD1⟩ := hB
  rw [ht] at hP1
  try dsimp only at hw hP1 hD1
  obtain ⟨hP, hD⟩ := va_join (wr := []) (w1 := [(h1, .inr (10, [x2, x3, x4, x5, x6, x7, x8, x9, x10, x11, x12, x13, x14, x15, x16, .int 0, x17, .int 1]))]) hP hD [0] [] rfl rfl (by decide) (by decide) hk1 hFc hP1 hD1
  have hP : va_P D vwCl [(h1, .inr (10, [x2, x3, x4, x5, x6, x7, x8, x9, x10, x11, x12, x13, x14, x15, x16, .int 0, x17, .int 1]))] H := hP
  have hD : va_D A [(h1, .inr (10, [x2, x3, x4, x5, x6, x7, x8, x9, x10, x11, x12, x13, x14, x15, x16, .int 0, x17, .int 1]))] := hD
  obtain ⟨rfl, hw⟩ := hw
  refine lv_if_eq (tgt := 17) hx hb dX8_getChosen_10 (by decide) (fun h => absurd h (by decide)) (fun _ => ?_)
  refine lv_iconst (v := 0) hx hb dX8_getChosen_13 (by decide) ?_
  refine lv_goto (tgt := 23) hx hb dX8_getChosen_14 (by decide) ?_
  refine W.widen (k := 0) (n := 0) (Nat.le_of_ble_eq_true rfl) (Nat.le_of_ble_eq_true rfl) ?_
  have hP9 := hP.sub (ws' := [(h1, .inr (10, [x2, x3, x4, x5, x6, x7, x8, x9, x10, x11, x12, x13, x14, x15, x16, .int 0, x17, .int 1]))]) [0] rfl
  have hD9 := hD.sub (ws' := [(h1, .inr (10, [x2, x3, x4, x5, x6, x7, x8, x9, x10, x11, x12, x13, x14, x15, x16, .int 0, x17, .int 1]))]) [0] (by decide) rfl
  exact W.iret (v := 0) hx hb hr (fun t ht hW => ⟨⟨0, (), rfl, ⟨rfl, trivial⟩, ⟨by rw [ht]; exact hP9, hD9⟩⟩, hS.F ht⟩) hS.2.2 dX8_getChosen_23
theorem dX7_checkResource_0 : decode cX7_checkResource 0 = .ok (.iload_n 1, 1) := by decide +kernel
theorem dX7_checkResource_1 : decode cX7_checkResource 1 = .ok (.ifCond .lt 14, 3) := by decide +kernel
theorem dX7_checkResource_15 : decode cX7_checkResource 15 = .ok (.new 372, 3) := by decide +kernel
theorem dX7_checkResource_18 : decode cX7_checkResource 18 = .ok (.dup, 1) := by decide +kernel
theorem dX7_checkResource_19 : decode cX7_checkResource 19 = .ok (.ldc_w 374, 3) := by decide +kernel
theorem dX7_checkResource_22 : decode cX7_checkResource 22 = .ok (.invokespecial 376, 3) := by decide +kernel
theorem dX7_checkResource_25 : decode cX7_checkResource 25 = .ok (.athrow, 1) := by decide +kernel
theorem dX7_checkResource_4 : decode cX7_checkResource 4 = .ok (.iload_n 1, 1) := by decide +kernel
theorem dX7_checkResource_5 : decode cX7_checkResource 5 = .ok (.aload_n 0, 1) := by decide +kernel
theorem dX7_checkResource_6 : decode cX7_checkResource 6 = .ok (.getfield 10, 3) := by decide +kernel
theorem dX7_checkResource_9 : decode cX7_checkResource 9 = .ok (.getfield 92, 3) := by decide +kernel
theorem dX7_checkResource_12 : decode cX7_checkResource 12 = .ok (.if_icmp .lt 14, 3) := by decide +kernel
set_option maxHeartbeats 4000000 in
set_option maxRecDepth 100000 in
theorem k_X7_checkResource (l : Launch) (hl9 : l.stackTraces = false) (D : va_G) (cy : Nat → ClassId) (h1 : Nat) (p0 : Int32) (h2 : Nat) (x3 : Value) (x4 : Value) (x5 : Value) (x6 : Value) (x7 : Value) (x8 : Value) (x9 : Value) (x10 : Value) (x11 : Value) : vx_Met l yX7_checkResource wsX7_checkResource ({ frames := 6, cells := 1, slots := 6, locals := 82 }) (kRX D cy [.ref h1, .int p0] [(h1, .inr (9, [.ref h2, x3, x4, x5, x6, x7, x8])), (h2, .inr (2, [x9, x10, .int 0, x11]))]) (va_Qv (fun (_ : Unit) => False) (fun (_ : Unit) (_ : State) => True) (fun _ : Nat => False)) (vx_X (fun _ : Unit => True) (fun (E : String) (_ : Unit) (_ : State) => (E = "java/lang/IndexOutOfBoundsException" ∧ True)) (fun _ : Nat => False)) 1 6 (fun _ : Nat => False) := by
  refine vx_ofW (cc := cX7_checkResource) (maxL := 2) (ret := none) (by decide) rfl ?_
  intro p e s m args below meth c s₁ B hml ht9 hv
  obtain ⟨rfl, hP, hK, hE⟩ := hv
  have hx := B.exec
  have hb := B.bytes
  have hr := B.returns
  have hts := atoms_spec (ws := wsX7_checkResource) B.pre
  have hown : s.vm.findClass RX7 = some m.cls := findClass_of_methodNamed B.named
  have hlocks := B.notSynchronized
  have hS : va_S (fun _ : Nat => False) s.heap s.heap [] := va_S.rf
  have hP : va_P D vwCl [(h1, .inr (9, [.ref h2, x3, x4, x5, x6, x7, x8])), (h2, .inr (2, [x9, x10, .int 0, x11]))] s.heap := hP
  have hl := lv_entry ([.ref h1, .int p0]) (n := 2) (Nat.le_of_ble_eq_true rfl)
  rw [lg_entry_eq]
  generalize (lg_sl ([.ref h1, .int p0]) ++ List.replicate (2 - (lg_sl ([.ref h1, .int p0])).length) Slot.unset).toArray = ls at hl ⊢
  have hl : lv_has ls 2 [(0, .ref h1), (1, .int p0)] := hl
  refine lv_iload_n hx hb dX7_checkResource_0 rfl (lv_at hl 1 rfl) ?_
  refine lv_if_lt (tgt := 15) hx hb dX7_checkResource_1 (by decide) (fun c_1 => ?_) (fun c_1 => ?_)
  · have f_2 : p0.toInt < (0 : Int) := kx_lt c_1
    obtain ⟨sa9, hsa9⟩ := hE.2.1 (374, "no such resource") (by decide +kernel)
    exact vx_throwSW (own := RX7) (cls := "java/lang/IndexOutOfBoundsException") (text := "no such resource") (names := ["java/lang/RuntimeException", "java/lang/Exception"]) (A := (fun _ : Nat => False)) hx hb hl9 hown (by decide +kernel) (by decide +kernel) (hts (.classLink RX7 372 "java/lang/IndexOutOfBoundsException") (List.mem_cons_of_mem _ (List.mem_append_left _ (List.mem_append_left _ (List.mem_append_left _ (List.mem_of_getElem? (i := 0) rfl)))))) (hts (.initialized "java/lang/IndexOutOfBoundsException") (List.mem_cons_of_mem _ (List.mem_append_left _ (List.mem_append_left _ (List.mem_append_left _ (List.mem_of_getElem? (i := 1) rfl)))))) hsa9 (ex_hat hE (fun w h => hts w (List.mem_cons_of_mem _ (List.mem_append_right _ h))) (by decide +kernel) (by decide +kernel)) (by decide +kernel) hE.1.1 hE.1.2 hS (by rw [hml]; exact hl.1) dX7_checkResource_15 dX7_checkResource_18 dX7_checkResource_19 dX7_checkResource_22 dX7_checkResource_25 (fun x hx => (ht9 x hx).elim) (Nat.le_of_ble_eq_true rfl) (Nat.le_of_ble_eq_true rfl) (Nat.le_of_ble_eq_true rfl) (Nat.le_of_ble_eq_true rfl) hlocks (fun t hal hz hk => ⟨(), trivial, (⟨rfl, trivial⟩), kx_thr hS hz hk⟩) hS.2.2 (Nat.le_of_ble_eq_true rfl) (Nat.le_of_ble_eq_true rfl)
  · have f_3 : (0 : Int) ≤ p0.toInt := kx_nlt c_1
    refine lv_iload_n hx hb dX7_checkResource_4 rfl (lv_at hl 1 rfl) ?_
    refine lv_aload_n hx hb dX7_checkResource_5 rfl (lv_at hl 0 rfl) ?_
    refine va_get (D := D) (ci := 9) (v := .ref h2) (C := RX7) (T := TX7) (N := 7) hx hb hts (fun _ h => (List.mem_cons_of_mem _ (List.mem_append_left _ (List.mem_append_left _ (List.mem_append_right _ h))))) hown hK hP 0 rfl rfl 0 (by decide) (hts (.fieldLink RX7 10 "SelfishJunction" "board" "LSelfishJunction$Board;") (List.mem_cons_of_mem _ (List.mem_append_left _ (List.mem_append_left _ (List.mem_append_left _ (List.mem_of_getElem? (i := 2) rfl)))))) (fun _ h9 => h9) rfl dX7_checkResource_6 ?_
    refine va_get (D := D) (ci := 2) (v := .int 0) (C := RX0) (T := TX0) (N := 4) hx hb hts (fun _ h => (List.mem_cons_of_mem _ (List.mem_append_left _ (List.mem_append_right _ h)))) hown hK hP 1 rfl rfl 2 (by decide) (hts (.fieldLink RX7 92 "SelfishJunction$Board" "resourceCount" "I") (List.mem_cons_of_mem _ (List.mem_append_left _ (List.mem_append_left _ (List.mem_append_left _ (List.mem_of_getElem? (i := 3) rfl)))))) (fun _ h9 => h9) rfl dX7_checkResource_9 ?_
    refine lv_icmp_lt (tgt := 26) hx hb dX7_checkResource_12 (by decide) (fun c_4 => ?_) (fun c_4 => ?_)
    · have f_5 : p0.toInt < (0 : Int) := kx_lt c_4
      omega
    · have f_6 : (0 : Int) ≤ p0.toInt := kx_nlt c_4
      obtain ⟨sa9, hsa9⟩ := hE.2.1 (374, "no such resource") (by decide +kernel)
      exact vx_throwSW (own := RX7) (cls := "java/lang/IndexOutOfBoundsException") (text := "no such resource") (names := ["java/lang/RuntimeException", "java/lang/Exception"]) (A := (fun _ : Nat => False)) hx hb hl9 hown (by decide +kernel) (by decide +kernel) (hts (.classLink RX7 372 "java/lang/IndexOutOfBoundsException") (List.mem_cons_of_mem _ (List.mem_append_left _ (List.mem_append_left _ (List.mem_append_left _ (List.mem_of_getElem? (i := 0) rfl)))))) (hts (.initialized "java/lang/IndexOutOfBoundsException") (List.mem_cons_of_mem _ (List.mem_append_left _ (List.mem_append_left _ (List.mem_append_left _ (List.mem_of_getElem? (i := 1) rfl)))))) hsa9 (ex_hat hE (fun w h => hts w (List.mem_cons_of_mem _ (List.mem_append_right _ h))) (by decide +kernel) (by decide +kernel)) (by decide +kernel) hE.1.1 hE.1.2 hS (by rw [hml]; exact hl.1) dX7_checkResource_15 dX7_checkResource_18 dX7_checkResource_19 dX7_checkResource_22 dX7_checkResource_25 (fun x hx => (ht9 x hx).elim) (Nat.le_of_ble_eq_true rfl) (Nat.le_of_ble_eq_true rfl) (Nat.le_of_ble_eq_true rfl) (Nat.le_of_ble_eq_true rfl) hlocks (fun t hal hz hk => ⟨(), trivial, (⟨rfl, trivial⟩), kx_thr hS hz hk⟩) hS.2.2 (Nat.le_of_ble_eq_true rfl) (Nat.le_of_ble_eq_true rfl)
theorem dX7_getLoad_0 : decode cX7_getLoad 0 = .ok (.aload_n 0, 1) := by decide +kernel
theorem dX7_getLoad_1 : decode cX7_getLoad 1 = .ok (.iload_n 1, 1) := by decide +kernel
theorem dX7_getLoad_2 : decode cX7_getLoad 2 = .ok (.invokevirtual 168, 3) := by decide +kernel
set_option maxRecDepth 20000 in
theorem ggX7_getLoad_X7_checkResource : GoodIn wsX7_getLoad wsX7_checkResource := goodIn_ca (goodIn_r _ [7, 8, 9, 10, 11, 12, 13, 14, 15, 16, 17, 18, 22, 23, 24, 25] (by decide +kernel) (by decide +kernel)) (goodIn_sub (fun _ h => List.mem_cons_of_mem _ (List.mem_append_right _ h)) (by decide +kernel))
set_option maxRecDepth 20000 in
theorem gX7_getLoad_X7_checkResource : GoodIn wsX7_getLoad (wsV RX7 168 RX7 yX7_checkResource wsX7_checkResource) := goodIn_app (goodIn_of _ (by decide +kernel)) ggX7_getLoad_X7_checkResource
set_option maxHeartbeats 4000000 in
set_option maxRecDepth 100000 in
theorem k_X7_getLoad (l : Launch) (hl9 : l.stackTraces = false) (D : va_G) (cy : Nat → ClassId) (h1 : Nat) (p0 : Int32) (h2 : Nat) (x3 : Value) (x4 : Value) (x5 : Value) (x6 : Value) (x7 : Value) (x8 : Value) (x9 : Value) (x10 : Value) (x11 : Value) : vx_Met l yX7_getLoad wsX7_getLoad ({ frames := 7, cells := 1, slots := 6, locals := 103 }) (kRX D cy [.ref h1, .int p0] [(h1, .inr (9, [.ref h2, x3, x4, x5, x6, x7, x8])), (h2, .inr (2, [x9, x10, .int 0, x11]))]) (va_Qi (fun (r : Int32) (_ : Unit) => False) (fun (_ : Unit) (_ : State) => True) (fun _ : Nat => False)) (vx_X (fun _ : Unit => True) (fun (E : String) (_ : Unit) (_ : State) => (E = "java/lang/IndexOutOfBoundsException" ∧ True)) (fun _ : Nat => False)) 1 6 (fun _ : Nat => False) := by
  refine vx_ofW (cc := cX7_getLoad) (maxL := 2) (ret := (some .int)) (by decide) rfl ?_
  intro p e s m args below meth c s₁ B hml ht9 hv
  obtain ⟨rfl, hP, hK, hE⟩ := hv
  have hx := B.exec
  have hb := B.bytes
  have hr := B.returns
  have hts := atoms_spec (ws := wsX7_getLoad) B.pre
  have hown : s.vm.findClass RX7 = some m.cls := findClass_of_methodNamed B.named
  have hlocks := B.notSynchronized
  have hS : va_S (fun _ : Nat => False) s.heap s.heap [] := va_S.rf
  have hP : va_P D vwCl [(h1, .inr (9, [.ref h2, x3, x4, x5, x6, x7, x8])), (h2, .inr (2, [x9, x10, .int 0, x11]))] s.heap := hP
  have hl := lv_entry ([.ref h1, .int p0]) (n := 2) (Nat.le_of_ble_eq_true rfl)
  rw [lg_entry_eq]
  generalize (lg_sl ([.ref h1, .int p0]) ++ List.replicate (2 - (lg_sl ([.ref h1, .int p0])).length) Slot.unset).toArray = ls at hl ⊢
  have hl : lv_has ls 2 [(0, .ref h1), (1, .int p0)] := hl
  refine lv_aload_n hx hb dX7_getLoad_0 rfl (lv_at hl 0 rfl) ?_
  refine lv_iload_n hx hb dX7_getLoad_1 rfl (lv_at hl 1 rfl) ?_
  have hPc := hP.sub (ws' := [(h1, .inr (9, [.ref h2, x3, x4, x5, x6, x7, x8])), (h2, .inr (2, [x9, x10, .int 0, x11]))]) [0, 1] rfl
  refine vx_callv (vx_runV (As := [.int p0]) (rest := []) ⟨hx, hb, hml, hown, hts⟩ (k_X7_checkResource l hl9 D cy h1 p0 h2 (x3) (x4) (x5) (x6) (x7) (x8) (x9) (x10) (x11)) (cwV 1 hts gX7_getLoad_X7_checkResource rfl rfl rfl (by decide +kernel) ⟨(Nat.le_of_ble_eq_true rfl), (Nat.le_of_ble_eq_true rfl)⟩) ⟨kRX_fb, va_recv hK hP (ci := 9) (q0 := 0) rfl rfl, (kRX_go hPc hK hE hS)⟩ rfl rfl hl.1 rfl (lv_room (Nat.le_of_ble_eq_true rfl)) dX7_getLoad_2 ⟨(Nat.le_of_ble_eq_true rfl), (Nat.le_of_ble_eq_true rfl)⟩) hS (fun _ _ h => h.elim) (fun _ h => h.elim) (fun _ _ h => h.elim) (fun E9 ce9 q9 u t H locs ht hvm hw hB hz1 hk1 hS hce hcv hcl => ?_) (fun u t H locs ht hvm hw hB hz1 hk1 hS => ?_)
  · obtain ⟨rfl, hB⟩ := hB
    have f_1 : True := hB
    exact vx_out (fun x hx => (ht9 x hx).elim) hlocks hce hcv hcl (fun t ht _ => ⟨(), trivial, (⟨rfl, trivial⟩), hS.F ht⟩) hS.2.2 (Nat.le_of_ble_eq_true rfl) (Nat.le_of_ble_eq_true rfl)
  · exact (show False from hw).elim
theorem dL_getLoad_0 : decode cL_getLoad 0 = .ok (.aload_n 2, 1) := by decide +kernel
theorem dL_getLoad_1 : decode cL_getLoad 1 = .ok (.iconst 0, 1) := by decide +kernel
theorem dL_getLoad_2 : decode cL_getLoad 2 = .ok (.aload_n 0, 1) := by decide +kernel
theorem dL_getLoad_3 : decode cL_getLoad 3 = .ok (.iload_n 1, 1) := by decide +kernel
theorem dL_getLoad_4 : decode cL_getLoad 4 = .ok (.invokevirtual 51, 3) := by decide +kernel
set_option maxRecDepth 20000 in
theorem ggL_getLoad_X7_getLoad : GoodIn wsL_getLoad wsX7_getLoad := goodIn_ca (goodIn_ca (goodIn_r _ [6, 7, 8, 9, 10, 11, 5, 12, 13, 14, 15, 16, 17, 18, 19, 20, 21, 22, 23, 24, 25, 26, 27, 28, 29, 30] (by decide +kernel) (by decide +kernel)) (goodIn_sub (fun _ h => List.mem_cons_of_mem _ (List.mem_append_left _ (List.mem_append_right _ h))) (by decide +kernel))) (goodIn_sub (fun _ h => List.mem_cons_of_mem _ (List.mem_append_right _ h)) (by decide +kernel))
set_option maxRecDepth 20000 in
theorem gL_getLoad_X7_getLoad : GoodIn wsL_getLoad (wsV RL 51 RX7 yX7_getLoad wsX7_getLoad) := goodIn_app (goodIn_of _ (by decide +kernel)) ggL_getLoad_X7_getLoad
theorem dL_getLoad_12 : decode cL_getLoad 12 = .ok (.astore_n 3, 1) := by decide +kernel
theorem dL_getLoad_13 : decode cL_getLoad 13 = .ok (.iconst 1, 1) := by decide +kernel
theorem dL_getLoad_14 : decode cL_getLoad 14 = .ok (.ireturn, 1) := by decide +kernel
set_option maxHeartbeats 4000000 in
set_option maxRecDepth 100000 in
theorem k_L_getLoad (l : Launch) (hl9 : l.stackTraces = false) (D : va_G) (cy : Nat → ClassId) (h1 : Nat) (p1 : Int32) (h2 : Nat) (h3 : Nat) (x4 : Value) (x5 : Value) (x6 : Value) (x7 : Value) (x8 : Value) (x9 : Value) (x10 : Value) (x11 : Value) (x12 : Value) : Met l yL_getLoad wsL_getLoad ({ frames := 8, cells := 1, slots := 6, locals := 124 }) (kRX D cy [.ref h1, .int p1, .ref h2] [(h1, .inr (9, [.ref h3, x4, x5, x6, x7, x8, x9])), (h3, .inr (2, [x10, x11, .int 0, x12]))]) (va_Qi (fun (r : Int32) (_ : Unit) => r = 1 ∧ True) (fun (_ : Unit) (_ : State) => True) (fun _ : Nat => False)) 1 6 (fun _ : Nat => False) := by
  refine va_MetW (cc := cL_getLoad) (maxL := 4) (ret := (some .int)) (by decide) rfl ?_
  intro p e s m args below meth c s₁ B hml hv
  obtain ⟨rfl, hP, hK, hE⟩ := hv
  have hx := B.exec
  have hb := B.bytes
  have hr := B.returns
  have hts := atoms_spec (ws := wsL_getLoad) B.pre
  have hown : s.vm.findClass RL = some m.cls := findClass_of_methodNamed B.named
  have hlocks := B.notSynchronized
  have htb := vx_table (x := yL_getLoad) B (hts _ (List.mem_cons_self))
  have hS : va_S (fun _ : Nat => False) s.heap s.heap [] := va_S.rf
  have hP : va_P D vwCl [(h1, .inr (9, [.ref h3, x4, x5, x6, x7, x8, x9])), (h3, .inr (2, [x10, x11, .int 0, x12]))] s.heap := hP
  have hl := lv_entry ([.ref h1, .int p1, .ref h2]) (n := 4) (Nat.le_of_ble_eq_true rfl)
  rw [lg_entry_eq]
  generalize (lg_sl ([.ref h1, .int p1, .ref h2]) ++ List.replicate (4 - (lg_sl ([.ref h1, .int p1, .ref h2])).length) Slot.unset).toArray = ls at hl ⊢
  have hl : lv_has ls 4 [(0, .ref h1), (1, .int p1), (2, .ref h2)] := hl
  refine lv_aload_n hx hb dL_getLoad_0 rfl (lv_at hl 2 rfl) ?_
  refine lv_iconst (v := 0) hx hb dL_getLoad_1 (by decide) ?_
  refine lv_aload_n hx hb dL_getLoad_2 rfl (lv_at hl 0 rfl) ?_
  refine lv_iload_n hx hb dL_getLoad_3 rfl (lv_at hl 1 rfl) ?_
  have hPc := hP.sub (ws' := [(h1, .inr (9, [.ref h3, x4, x5, x6, x7, x8, x9])), (h3, .inr (2, [x10, x11, .int 0, x12]))]) [0, 1] rfl
  refine vx_calli (vx_runV (As := [.int p1]) (rest := [.int 0, .ref h2]) ⟨hx, hb, hml, hown, hts⟩ (k_X7_getLoad l hl9 D cy h1 p1 h3 (x4) (x5) (x6) (x7) (x8) (x9) (x10) (x11) (x12)) (cwV 1 hts gL_getLoad_X7_getLoad rfl rfl rfl (by decide +kernel) ⟨(Nat.le_of_ble_eq_true rfl), (Nat.le_of_ble_eq_true rfl)⟩) ⟨kRX_fb, va_recv hK hP (ci := 9) (q0 := 0) rfl rfl, (kRX_go hPc hK hE hS)⟩ rfl rfl hl.1 rfl (lv_room (Nat.le_of_ble_eq_true rfl)) dL_getLoad_4 ⟨(Nat.le_of_ble_eq_true rfl), (Nat.le_of_ble_eq_true rfl)⟩) hS (fun _ _ h => h.elim) (fun _ h => h.elim) (fun _ _ h => h.elim) (fun E9 ce9 q9 u t H locs ht hvm hw hB hz1 hk1 hS hce hcv hcl => ?_) (fun r9 u t H locs ht hvm hw hB hz1 hk1 hS => ?_)
  · obtain ⟨rfl, hB⟩ := hB
    have f_1 : True := hB
    have hP := kx_kept hP hk1
    refine vx_catch (E := "java/lang/IndexOutOfBoundsException") (name := "java/lang/IndexOutOfBoundsException") hown [] (⟨0, 9, 12, 28⟩ : ExceptionTableEntry) [] htb (fun _ h => absurd h List.not_mem_nil) rfl (by decide) (hts (.classLink RL 28 "java/lang/IndexOutOfBoundsException") (List.mem_cons_of_mem _ (List.mem_append_left _ (List.mem_append_left _ (List.mem_append_left _ (List.mem_append_left _ (List.mem_append_left _ (List.mem_of_getElem? (i := 0) rfl)))))))) (exP.cast hE "java/lang/IndexOutOfBoundsException" (by decide +kernel)) hce hcv hcl ?_
    refine lv_astore_n (lv' := [(3, .ref q9), (0, .ref h1), (1, .int p1), (2, .ref h2)]) hx hb dL_getLoad_12 rfl hl (by decide) rfl (fun ls hl => ?_)
    refine lv_iconst (v := 1) hx hb dL_getLoad_13 (by decide) ?_
    refine W.widen (k := 1) (n := 6) (Nat.le_of_ble_eq_true rfl) (Nat.le_of_ble_eq_true rfl) ?_
    exact W.iret (v := 1) hx hb hr (fun t ht hW => ⟨⟨1, (), rfl, ⟨rfl, trivial⟩, trivial⟩, hS.F ht⟩) hS.2.2 dL_getLoad_14
  · exact (show False from hw).elim
theorem dX8_isNoLoad_0 : decode cX8_isNoLoad 0 = .ok (.iload_n 1, 1) := by decide +kernel
theorem dX8_isNoLoad_1 : decode cX8_isNoLoad 1 = .ok (.iconst 0, 1) := by decide +kernel
theorem dX8_isNoLoad_2 : decode cX8_isNoLoad 2 = .ok (.aload_n 0, 1) := by decide +kernel
theorem dX8_isNoLoad_3 : decode cX8_isNoLoad 3 = .ok (.getfield 62, 3) := by decide +kernel
theorem dX8_isNoLoad_6 : decode cX8_isNoLoad 6 = .ok (.iconst 1, 1) := by decide +kernel
theorem dX8_isNoLoad_7 : decode cX8_isNoLoad 7 = .ok (.isub, 1) := by decide +kernel
theorem dX8_isNoLoad_8 : decode cX8_isNoLoad 8 = .ok (.invokestatic 65, 3) := by decide +kernel
set_option maxRecDepth 20000 in
theorem ggX8_isNoLoad_X8_isIn : GoodIn wsX8_isNoLoad wsX8_isIn := goodIn_r _ [5] (by decide +kernel) (by decide +kernel)
set_option maxRecDepth 20000 in
theorem gX8_isNoLoad_X8_isIn : GoodIn wsX8_isNoLoad (va_wsS RX8 65 yX8_isIn wsX8_isIn) := goodIn_app (goodIn_of _ (by decide +kernel)) ggX8_isNoLoad_X8_isIn
theorem dX8_isNoLoad_11 : decode cX8_isNoLoad 11 = .ok (.ifCond .ne 7, 3) := by decide +kernel
theorem dX8_isNoLoad_14 : decode cX8_isNoLoad 14 = .ok (.iconst 1, 1) := by decide +kernel
theorem dX8_isNoLoad_15 : decode cX8_isNoLoad 15 = .ok (.goto 4, 3) := by decide +kernel
theorem dX8_isNoLoad_19 : decode cX8_isNoLoad 19 = .ok (.ireturn, 1) := by decide +kernel
set_option maxHeartbeats 4000000 in
set_option maxRecDepth 100000 in
theorem k_X8_isNoLoad (l : Launch) (D : va_G) (cy : Nat → ClassId) (h1 : Nat) (p0 : Int32) (x2 : Value) (x3 : Value) (x4 : Value) (x5 : Value) (x6 : Value) (x7 : Value) (x8 : Value) (x9 : Value) (x10 : Value) (x11 : Value) (x12 : Value) (x13 : Value) (x14 : Value) (x15 : Value) (x16 : Value) (x17 : Value) (x18 : Value) : Met l yX8_isNoLoad wsX8_isNoLoad ({ frames := 1, cells := 0, slots := 0, locals := 22 }) (kR D cy [.ref h1, .int p0] [(h1, .inr (10, [x2, x3, x4, x5, x6, x7, x8, x9, x10, x11, x12, x13, x14, x15, .int 0, x16, x17, x18]))]) (va_Qi (fun (r : Int32) (_ : Unit) => r = 1 ∧ True) (fun (_ : Unit) (_ : State) => True) (fun _ : Nat => False)) 0 0 (fun _ : Nat => False) := by
  refine Met.ofW (cc := cX8_isNoLoad) (maxL := 2) (ret := (some .boolean)) (by decide) rfl ?_
  intro p e s m args below meth c s₁ B hml hv
  obtain ⟨rfl, hP, hK⟩ := hv
  have hx := B.exec
  have hb := B.bytes
  have hr := B.returns
  have hts := atoms_spec (ws := wsX8_isNoLoad) B.pre
  have hown : s.vm.findClass RX8 = some m.cls := findClass_of_methodNamed B.named
  have hlocks := B.notSynchronized
  have hS : va_S (fun _ : Nat => False) s.heap s.heap [] := va_S.rf
  have hP : va_P D vwCl [(h1, .inr (10, [x2, x3, x4, x5, x6, x7, x8, x9, x10, x11, x12, x13, x14, x15, .int 0, x16, x17, x18]))] s.heap := hP
  have hl := lv_entry ([.ref h1, .int p0]) (n := 2) (Nat.le_of_ble_eq_true rfl)
  rw [lg_entry_eq]
  generalize (lg_sl ([.ref h1, .int p0]) ++ List.replicate (2 - (lg_sl ([.ref h1, .int p0])).length) Slot.unset).toArray = ls at hl ⊢
  have hl : lv_has ls 2 [(0, .ref h1), (1, .int p0)] := hl
  refine lv_iload_n hx hb dX8_isNoLoad_0 rfl (lv_at hl 1 rfl) ?_
  refine lv_iconst (v := 0) hx hb dX8_isNoLoad_1 (by decide) ?_
  refine lv_aload_n hx hb dX8_isNoLoad_2 rfl (lv_at hl 0 rfl) ?_
  refine va_get (D := D) (ci := 10) (v := .int 0) (C := RX8) (T := TX8) (N := 18) hx hb hts (fun _ h => (List.mem_cons_of_mem _ (List.mem_append_right _ h))) hown hK hP 0 rfl rfl 14 (by decide) (hts (.fieldLink RX8 62 "SelfishJunctionModel" "resources" "I") (List.mem_cons_of_mem _ (List.mem_append_left _ (List.mem_of_getElem? (i := 0) rfl)))) (fun _ h9 => h9) rfl dX8_isNoLoad_3 ?_
  refine lv_iconst (v := 1) hx hb dX8_isNoLoad_6 (by decide) ?_
  refine lv_isub hx hb dX8_isNoLoad_7 ?_
  refine lv_topi (fun v_1 ev_1 => ?_)
  obtain rfl : v_1 = (-1) := ev_1.trans (by decide)
  have hPc := hP.sub (ws' := []) [] rfl
  refine va_calli (va_runS (As := [.int p0, .int 0, .int (-1)]) (rest := []) ⟨hx, hb, hml, hown, hts⟩ (k_X8_isIn l D cy p0 0 (-1)) (va_cwS 3 hts gX8_isNoLoad_X8_isIn rfl rfl rfl (by decide +kernel) ⟨(Nat.le_of_ble_eq_true rfl), (Nat.le_of_ble_eq_true rfl)⟩) ⟨kR_fb, (kR_go hPc hK)⟩ rfl rfl hl.1 rfl (lv_room (Nat.le_of_ble_eq_true rfl)) dX8_isNoLoad_8 ⟨(Nat.le_of_ble_eq_true rfl), (Nat.le_of_ble_eq_true rfl)⟩) hS (fun _ _ h => h.elim) (fun _ h => h.elim) (fun r9 u t H locs ht hvm hw hB hz1 hk1 hS => ?_)
  have hP := kx_kept hP hk1
  rcases hw with ⟨rfl, hw⟩ | ⟨rfl, hw⟩
  · have f_2 : ((0 : Int) ≤ p0.toInt ∧ p0.toInt ≤ (-1 : Int)) := hw
    omega
  · have f_3 : ¬ (((0 : Int) ≤ p0.toInt ∧ p0.toInt ≤ (-1 : Int))) := hw
    refine lv_if_ne (tgt := 18) hx hb dX8_isNoLoad_11 (by decide) (fun h => absurd (by decide) h) (fun _ => ?_)
    refine lv_iconst (v := 1) hx hb dX8_isNoLoad_14 (by decide) ?_
    refine lv_goto (tgt := 19) hx hb dX8_isNoLoad_15 (by decide) ?_
    refine W.widen (k := 0) (n := 0) (Nat.le_of_ble_eq_true rfl) (Nat.le_of_ble_eq_true rfl) ?_
    exact W.zret (v := 1) hx hb hr rfl (fun t ht hW => ⟨⟨1, (), rfl, ⟨rfl, trivial⟩, trivial⟩, hS.F ht⟩) hS.2.2 dX8_isNoLoad_19
theorem dX8_getLoad_0 : decode cX8_getLoad 0 = .ok (.aload_n 0, 1) := by decide +kernel
theorem dX8_getLoad_1 : decode cX8_getLoad 1 = .ok (.aload_n 0, 1) := by decide +kernel
theorem dX8_getLoad_2 : decode cX8_getLoad 2 = .ok (.iload_n 1, 1) := by decide +kernel
theorem dX8_getLoad_3 : decode cX8_getLoad 3 = .ok (.invokevirtual 167, 3) := by decide +kernel
set_option maxRecDepth 20000 in
theorem ggX8_getLoad_X8_isNoLoad : GoodIn wsX8_getLoad wsX8_isNoLoad := goodIn_r _ [6, 7, 8, 9, 5, 10, 23, 24, 25, 26, 27, 28, 29, 30, 31, 32, 33, 34, 35, 36, 37, 38, 39, 40] (by decide +kernel) (by decide +kernel)
set_option maxRecDepth 20000 in
theorem gX8_getLoad_X8_isNoLoad : GoodIn wsX8_getLoad (wsV RX8 167 RX8 yX8_isNoLoad wsX8_isNoLoad) := goodIn_app (goodIn_of _ (by decide +kernel)) ggX8_getLoad_X8_isNoLoad
theorem dX8_getLoad_6 : decode cX8_getLoad 6 = .ok (.iconst 1, 1) := by decide +kernel
theorem dX8_getLoad_7 : decode cX8_getLoad 7 = .ok (.invokevirtual 73, 3) := by decide +kernel
set_option maxRecDepth 20000 in
theorem ggX8_getLoad_X8_isThrown : GoodIn wsX8_getLoad wsX8_isThrown := goodIn_r _ [14, 15, 23, 24, 25, 26, 27, 28, 29, 30, 31, 32, 33, 34, 35, 36, 37, 38, 39, 40] (by decide +kernel) (by decide +kernel)
set_option maxRecDepth 20000 in
theorem gX8_getLoad_X8_isThrown : GoodIn wsX8_getLoad (wsV RX8 73 RX8 yX8_isThrown wsX8_isThrown) := goodIn_app (goodIn_of _ (by decide +kernel)) ggX8_getLoad_X8_isThrown
theorem dX8_getLoad_10 : decode cX8_getLoad 10 = .ok (.ifCond .eq 7, 3) := by decide +kernel
theorem dX8_getLoad_13 : decode cX8_getLoad 13 = .ok (.iconst 0, 1) := by decide +kernel
theorem dX8_getLoad_14 : decode cX8_getLoad 14 = .ok (.goto 12, 3) := by decide +kernel
theorem dX8_getLoad_26 : decode cX8_getLoad 26 = .ok (.ireturn, 1) := by decide +kernel
set_option maxHeartbeats 4000000 in
set_option maxRecDepth 100000 in
theorem k_X8_getLoad (l : Launch) (D : va_G) (cy : Nat → ClassId) (h1 : Nat) (p0 : Int32) (x2 : Value) (x3 : Value) (x4 : Value) (x5 : Value) (x6 : Value) (x7 : Value) (x8 : Value) (x9 : Value) (x10 : Value) (x11 : Value) (x12 : Value) (x13 : Value) (x14 : Value) (x15 : Value) (x16 : Value) (x17 : Value) (x18 : Value) (sz : Nat) : Met l yX8_getLoad wsX8_getLoad ({ frames := 2, cells := 0, slots := 0, locals := 43 }) (kW D cy [.ref h1, .int p0] [(h1, .inr (10, [x2, x3, x4, x5, x6, x7, x8, x9, x10, x11, x12, x13, x14, x15, .int 0, x16, x17, x18]))] sz) (va_Qi (fun (r : Int32) (_ : Unit) => r = 0 ∧ True) (fun (_ : Unit) (t : State) => va_P D vwCl [(h1, .inr (10, [x2, x3, x4, x5, x6, x7, x8, x9, x10, x11, x12, x13, x14, x15, .int 0, x16, x17, .int 1]))] t.heap ∧ va_D (va_A [(h1, .inr (10, [x2, x3, x4, x5, x6, x7, x8, x9, x10, x11, x12, x13, x14, x15, .int 0, x16, x17, x18]))] sz) [(h1, .inr (10, [x2, x3, x4, x5, x6, x7, x8, x9, x10, x11, x12, x13, x14, x15, .int 0, x16, x17, .int 1]))]) (va_A [(h1, .inr (10, [x2, x3, x4, x5, x6, x7, x8, x9, x10, x11, x12, x13, x14, x15, .int 0, x16, x17, x18]))] sz)) 0 0 (va_A [(h1, .inr (10, [x2, x3, x4, x5, x6, x7, x8, x9, x10, x11, x12, x13, x14, x15, .int 0, x16, x17, x18]))] sz) := by
  refine Met.ofW (cc := cX8_getLoad) (maxL := 2) (ret := (some .int)) (by decide) rfl ?_
  intro p e s m args below meth c s₁ B hml hv
  obtain ⟨rfl, hsz, hP, hK, hD0⟩ := hv
  have hx := B.exec
  have hb := B.bytes
  have hr := B.returns
  have hts := atoms_spec (ws := wsX8_getLoad) B.pre
  have hown : s.vm.findClass RX8 = some m.cls := findClass_of_methodNamed B.named
  have hlocks := B.notSynchronized
  subst hsz
  have hD := hD0.self (sz := s.heap.size)
  generalize hAe : va_A [(h1, .inr (10, [x2, x3, x4, x5, x6, x7, x8, x9, x10, x11, x12, x13, x14, x15, .int 0, x16, x17, x18]))] s.heap.size = A at hD ⊢
  have hA : ∀ q : Nat, s.heap.size ≤ q → A q := fun q h => by rw [← hAe]; exact Or.inr h
  have hS : va_S A s.heap s.heap [] := va_S.rf
  have hP : va_P D vwCl [(h1, .inr (10, [x2, x3, x4, x5, x6, x7, x8, x9, x10, x11, x12, x13, x14, x15, .int 0, x16, x17, x18]))] s.heap := hP
  have hl := lv_entry ([.ref h1, .int p0]) (n := 2) (Nat.le_of_ble_eq_true rfl)
  rw [lg_entry_eq]
  generalize (lg_sl ([.ref h1, .int p0]) ++ List.replicate (2 - (lg_sl ([.ref h1, .int p0])).length) Slot.unset).toArray = ls at hl ⊢
  have hl : lv_has ls 2 [(0, .ref h1), (1, .int p0)] := hl
  refine lv_aload_n hx hb dX8_getLoad_0 rfl (lv_at hl 0 rfl) ?_
  refine lv_aload_n hx hb dX8_getLoad_1 rfl (lv_at hl 0 rfl) ?_
  refine lv_iload_n hx hb dX8_getLoad_2 rfl (lv_at hl 1 rfl) ?_
  have hPc := hP.sub (ws' := [(h1, .inr (10, [x2, x3, x4, x5, x6, x7, x8, x9, x10, x11, x12, x13, x14, x15, .int 0, x16, x17, x18]))]) [0] rfl
  refine va_calli (va_runV (As := [.int p0]) (rest := [.ref h1]) ⟨hx, hb, hml, hown, hts⟩ (k_X8_isNoLoad l D cy h1 p0 (x2) (x3) (x4) (x5) (x6) (x7) (x8) (x9) (x10) (x11) (x12) (x13) (x14) (x15) (x16) (x17) (x18)) (cwV 1 hts gX8_getLoad_X8_isNoLoad rfl rfl rfl (by decide +kernel) ⟨(Nat.le_of_ble_eq_true rfl), (Nat.le_of_ble_eq_true rfl)⟩) ⟨kR_fb, va_recv hK hP (ci := 10) (q0 := 0) rfl rfl, (kR_go hPc hK)⟩ rfl rfl hl.1 rfl (lv_room (Nat.le_of_ble_eq_true rfl)) dX8_getLoad_3 ⟨(Nat.le_of_ble_eq_true rfl), (Nat.le_of_ble_eq_true rfl)⟩) hS (fun _ _ h => h.elim) (fun _ h => h.elim) (fun r9 u t H locs ht hvm hw hB hz1 hk1 hS => ?_)
  have hP := kx_kept hP hk1
  obtain ⟨rfl, hw⟩ := hw
  refine lv_iconst (v := 1) hx hb dX8_getLoad_6 (by decide) ?_
  have hPc := hP.sub (ws' := [(h1, .inr (10, [x2, x3, x4, x5, x6, x7, x8, x9, x10, x11, x12, x13, x14, x15, .int 0, x16, x17, x18]))]) [0] rfl
  have hDc := hD.sub (ws' := [(h1, .inr (10, [x2, x3, x4, x5, x6, x7, x8, x9, x10, x11, x12, x13, x14, x15, .int 0, x16, x17, x18]))]) [0] (by decide) rfl
  have hFc := va_free (wc := [(h1, .inr (10, [x2, x3, x4, x5, x6, x7, x8, x9, x10, x11, x12, x13, x14, x15, .int 0, x16, x17, x18]))]) hD hS hA [0] rfl
  refine va_calli (va_runV (As := [.int 1, .int 1]) (rest := []) ⟨hx, hb, hml, hown, hts⟩ (k_X8_isThrown l D cy h1 (x2) (x3) (x4) (x5) (x6) (x7) (x8) (x9) (x10) (x11) (x12) (x13) (x14) (x15) (.int 0) (x16) (x17) (x18) H.size) (cwV 2 hts gX8_getLoad_X8_isThrown rfl rfl rfl (by decide +kernel) ⟨(Nat.le_of_ble_eq_true rfl), (Nat.le_of_ble_eq_true rfl)⟩) ⟨kW_fb, va_recv hK hP (ci := 10) (q0 := 0) rfl rfl, (kW_go hPc hK hDc)⟩ rfl rfl hl.1 rfl (lv_room (Nat.le_of_ble_eq_true rfl)) dX8_getLoad_7 ⟨(Nat.le_of_ble_eq_true rfl), (Nat.le_of_ble_eq_true rfl)⟩) hS (fun q _ h => hFc q h) hFc (fun r9 u t H locs ht hvm hw hB hz1 hk1 hS => ?_)
  obtain ⟨hP1, hD1⟩ := hB
  rw [ht] at hP1
  try dsimp only at hw hP1 hD1
  obtain ⟨hP, hD⟩ := va_join (wr := []) (w1 := [(h1, .inr (10, [x2, x3, x4, x5, x6, x7, x8, x9, x10, x11, x12, x13, x14, x15, .int 0, x16, x17, .int 1]))]) hP hD [0] [] rfl rfl (by decide) (by decide) hk1 hFc hP1 hD1
  have hP : va_P D vwCl [(h1, .inr (10, [x2, x3, x4, x5, x6, x7, x8, x9, x10, x11, x12, x13, x14, x15, .int 0, x16, x17, .int 1]))] H := hP
  have hD : va_D A [(h1, .inr (10, [x2, x3, x4, x5, x6, x7, x8, x9, x10, x11, x12, x13, x14, x15, .int 0, x16, x17, .int 1]))] := hD
  obtain ⟨rfl, hw⟩ := hw
  refine lv_if_eq (tgt := 17) hx hb dX8_getLoad_10 (by decide) (fun h => absurd h (by decide)) (fun _ => ?_)
  refine lv_iconst (v := 0) hx hb dX8_getLoad_13 (by decide) ?_
  refine lv_goto (tgt := 26) hx hb dX8_getLoad_14 (by decide) ?_
  refine W.widen (k := 0) (n := 0) (Nat.le_of_ble_eq_true rfl) (Nat.le_of_ble_eq_true rfl) ?_
  have hP9 := hP.sub (ws' := [(h1, .inr (10, [x2, x3, x4, x5, x6, x7, x8, x9, x10, x11, x12, x13, x14, x15, .int 0, x16, x17, .int 1]))]) [0] rfl
  have hD9 := hD.sub (ws' := [(h1, .inr (10, [x2, x3, x4, x5, x6, x7, x8, x9, x10, x11, x12, x13, x14, x15, .int 0, x16, x17, .int 1]))]) [0] (by decide) rfl
  exact W.iret (v := 0) hx hb hr (fun t ht hW => ⟨⟨0, (), rfl, ⟨rfl, trivial⟩, ⟨by rw [ht]; exact hP9, hD9⟩⟩, hS.F ht⟩) hS.2.2 dX8_getLoad_26
theorem dX7_getDelay_0 : decode cX7_getDelay 0 = .ok (.aload_n 0, 1) := by decide +kernel
theorem dX7_getDelay_1 : decode cX7_getDelay 1 = .ok (.iload_n 1, 1) := by decide +kernel
theorem dX7_getDelay_2 : decode cX7_getDelay 2 = .ok (.invokevirtual 168, 3) := by decide +kernel
set_option maxRecDepth 20000 in
theorem ggX7_getDelay_X7_checkResource : GoodIn wsX7_getDelay wsX7_checkResource := goodIn_ca (goodIn_r _ [7, 8, 9, 1, 10, 23, 24, 25, 26, 27, 28, 29, 30, 31, 32, 33] (by decide +kernel) (by decide +kernel)) (goodIn_sub (fun _ h => List.mem_cons_of_mem _ (List.mem_append_left _ (List.mem_append_left _ (List.mem_append_right _ h)))) (by decide +kernel))
set_option maxRecDepth 20000 in
theorem gX7_getDelay_X7_checkResource : GoodIn wsX7_getDelay (wsV RX7 168 RX7 yX7_checkResource wsX7_checkResource) := goodIn_app (goodIn_of _ (by decide +kernel)) ggX7_getDelay_X7_checkResource
set_option maxHeartbeats 4000000 in
set_option maxRecDepth 100000 in
theorem k_X7_getDelay (l : Launch) (hl9 : l.stackTraces = false) (D : va_G) (cy : Nat → ClassId) (h1 : Nat) (p0 : Int32) (p1 : Int32) (h2 : Nat) (x3 : Value) (x4 : Value) (x5 : Value) (x6 : Value) (x7 : Value) (x8 : Value) (x9 : Value) (x10 : Value) (x11 : Value) : vx_Met l yX7_getDelay wsX7_getDelay ({ frames := 7, cells := 1, slots := 6, locals := 103 }) (kRX D cy [.ref h1, .int p0, .int p1] [(h1, .inr (9, [.ref h2, x3, x4, x5, x6, x7, x8])), (h2, .inr (2, [x9, x10, .int 0, x11]))]) (va_Qi (fun (r : Int32) (_ : Unit) => False) (fun (_ : Unit) (_ : State) => True) (fun _ : Nat => False)) (vx_X (fun _ : Unit => True) (fun (E : String) (_ : Unit) (_ : State) => (E = "java/lang/IndexOutOfBoundsException" ∧ True)) (fun _ : Nat => False)) 1 6 (fun _ : Nat => False) := by
  refine vx_ofW (cc := cX7_getDelay) (maxL := 3) (ret := (some .int)) (by decide) rfl ?_
  intro p e s m args below meth c s₁ B hml ht9 hv
  obtain ⟨rfl, hP, hK, hE⟩ := hv
  have hx := B.exec
  have hb := B.bytes
  have hr := B.returns
  have hts := atoms_spec (ws := wsX7_getDelay) B.pre
  have hown : s.vm.findClass RX7 = some m.cls := findClass_of_methodNamed B.named
  have hlocks := B.notSynchronized
  have hS : va_S (fun _ : Nat => False) s.heap s.heap [] := va_S.rf
  have hP : va_P D vwCl [(h1, .inr (9, [.ref h2, x3, x4, x5, x6, x7, x8])), (h2, .inr (2, [x9, x10, .int 0, x11]))] s.heap := hP
  have hl := lv_entry ([.ref h1, .int p0, .int p1]) (n := 3) (Nat.le_of_ble_eq_true rfl)
  rw [lg_entry_eq]
  generalize (lg_sl ([.ref h1, .int p0, .int p1]) ++ List.replicate (3 - (lg_sl ([.ref h1, .int p0, .int p1])).length) Slot.unset).toArray = ls at hl ⊢
  have hl : lv_has ls 3 [(0, .ref h1), (1, .int p0), (2, .int p1)] := hl
  refine lv_aload_n hx hb dX7_getDelay_0 rfl (lv_at hl 0 rfl) ?_
  refine lv_iload_n hx hb dX7_getDelay_1 rfl (lv_at hl 1 rfl) ?_
  have hPc := hP.sub (ws' := [(h1, .inr (9, [.ref h2, x3, x4, x5, x6, x7, x8])), (h2, .inr (2, [x9, x10, .int 0, x11]))]) [0, 1] rfl
  refine vx_callv (vx_runV (As := [.int p0]) (rest := []) ⟨hx, hb, hml, hown, hts⟩ (k_X7_checkResource l hl9 D cy h1 p0 h2 (x3) (x4) (x5) (x6) (x7) (x8) (x9) (x10) (x11)) (cwV 1 hts gX7_getDelay_X7_checkResource rfl rfl rfl (by decide +kernel) ⟨(Nat.le_of_ble_eq_true rfl), (Nat.le_of_ble_eq_true rfl)⟩) ⟨kRX_fb, va_recv hK hP (ci := 9) (q0 := 0) rfl rfl, (kRX_go hPc hK hE hS)⟩ rfl rfl hl.1 rfl (lv_room (Nat.le_of_ble_eq_true rfl)) dX7_getDelay_2 ⟨(Nat.le_of_ble_eq_true rfl), (Nat.le_of_ble_eq_true rfl)⟩) hS (fun _ _ h => h.elim) (fun _ h => h.elim) (fun _ _ h => h.elim) (fun E9 ce9 q9 u t H locs ht hvm hw hB hz1 hk1 hS hce hcv hcl => ?_) (fun u t H locs ht hvm hw hB hz1 hk1 hS => ?_)
  · obtain ⟨rfl, hB⟩ := hB
    have f_1 : True := hB
    exact vx_out (fun x hx => (ht9 x hx).elim) hlocks hce hcv hcl (fun t ht _ => ⟨(), trivial, (⟨rfl, trivial⟩), hS.F ht⟩) hS.2.2 (Nat.le_of_ble_eq_true rfl) (Nat.le_of_ble_eq_true rfl)
  · exact (show False from hw).elim
theorem dL_getDelay_0 : decode cL_getDelay 0 = .ok (.aload_n 3, 1) := by decide +kernel
theorem dL_getDelay_1 : decode cL_getDelay 1 = .ok (.iconst 0, 1) := by decide +kernel
theorem dL_getDelay_2 : decode cL_getDelay 2 = .ok (.aload_n 0, 1) := by decide +kernel
theorem dL_getDelay_3 : decode cL_getDelay 3 = .ok (.iload_n 1, 1) := by decide +kernel
theorem dL_getDelay_4 : decode cL_getDelay 4 = .ok (.iload_n 2, 1) := by decide +kernel
theorem dL_getDelay_5 : decode cL_getDelay 5 = .ok (.invokevirtual 54, 3) := by decide +kernel
set_option maxRecDepth 20000 in
theorem ggL_getDelay_X7_getDelay : GoodIn wsL_getDelay wsX7_getDelay := goodIn_ca (goodIn_ca (goodIn_ca (goodIn_r _ [7, 8, 9, 10, 11, 12, 6, 13, 14, 15, 16, 17, 18, 19, 20, 21, 22, 23, 24, 25, 26, 27, 28, 29, 30, 31, 32, 33, 34, 35, 36, 37, 38, 39, 40, 41, 42, 43, 44, 45, 46] (by decide +kernel) (by decide +kernel)) (goodIn_sub (fun _ h => List.mem_cons_of_mem _ (List.mem_append_left _ (List.mem_append_right _ h))) (by decide +kernel))) (goodIn_sub (fun _ h => List.mem_cons_of_mem _ (List.mem_append_right _ h)) (by decide +kernel))) (goodIn_sub (fun _ h => List.mem_cons_of_mem _ (List.mem_append_left _ (List.mem_append_left _ (List.mem_append_right _ h)))) (by decide +kernel))
set_option maxRecDepth 20000 in
theorem gL_getDelay_X7_getDelay : GoodIn wsL_getDelay (wsV RL 54 RX7 yX7_getDelay wsX7_getDelay) := goodIn_app (goodIn_of _ (by decide +kernel)) ggL_getDelay_X7_getDelay
theorem dL_getDelay_13 : decode cL_getDelay 13 = .ok (.astore 4, 2) := by decide +kernel
theorem dL_getDelay_15 : decode cL_getDelay 15 = .ok (.iconst 1, 1) := by decide +kernel
theorem dL_getDelay_16 : decode cL_getDelay 16 = .ok (.ireturn, 1) := by decide +kernel
set_option maxHeartbeats 4000000 in
set_option maxRecDepth 100000 in
theorem k_L_getDelay (l : Launch) (hl9 : l.stackTraces = false) (D : va_G) (cy : Nat → ClassId) (h1 : Nat) (p1 : Int32) (p2 : Int32) (h2 : Nat) (h3 : Nat) (x4 : Value) (x5 : Value) (x6 : Value) (x7 : Value) (x8 : Value) (x9 : Value) (x10 : Value) (x11 : Value) (x12 : Value) : Met l yL_getDelay wsL_getDelay ({ frames := 8, cells := 1, slots := 6, locals := 125 }) (kRX D cy [.ref h1, .int p1, .int p2, .ref h2] [(h1, .inr (9, [.ref h3, x4, x5, x6, x7, x8, x9])), (h3, .inr (2, [x10, x11, .int 0, x12]))]) (va_Qi (fun (r : Int32) (_ : Unit) => r = 1 ∧ True) (fun (_ : Unit) (_ : State) => True) (fun _ : Nat => False)) 1 6 (fun _ : Nat => False) := by
  refine va_MetW (cc := cL_getDelay) (maxL := 5) (ret := (some .int)) (by decide) rfl ?_
  intro p e s m args below meth c s₁ B hml hv
  obtain ⟨rfl, hP, hK, hE⟩ := hv
  have hx := B.exec
  have hb := B.bytes
  have hr := B.returns
  have hts := atoms_spec (ws := wsL_getDelay) B.pre
  have hown : s.vm.findClass RL = some m.cls := findClass_of_methodNamed B.named
  have hlocks := B.notSynchronized
  have htb := vx_table (x := yL_getDelay) B (hts _ (List.mem_cons_self))
  have hS : va_S (fun _ : Nat => False) s.heap s.heap [] := va_S.rf
  have hP : va_P D vwCl [(h1, .inr (9, [.ref h3, x4, x5, x6, x7, x8, x9])), (h3, .inr (2, [x10, x11, .int 0, x12]))] s.heap := hP
  have hl := lv_entry ([.ref h1, .int p1, .int p2, .ref h2]) (n := 5) (Nat.le_of_ble_eq_true rfl)
  rw [lg_entry_eq]
  generalize (lg_sl ([.ref h1, .int p1, .int p2, .ref h2]) ++ List.replicate (5 - (lg_sl ([.ref h1, .int p1, .int p2, .ref h2])).length) Slot.unset).toArray = ls at hl ⊢
  have hl : lv_has ls 5 [(0, .ref h1), (1, .int p1), (2, .int p2), (3, .ref h2)] := hl
  refine lv_aload_n hx hb dL_getDelay_0 rfl (lv_at hl 3 rfl) ?_
  refine lv_iconst (v := 0) hx hb dL_getDelay_1 (by decide) ?_
  refine lv_aload_n hx hb dL_getDelay_2 rfl (lv_at hl 0 rfl) ?_
  refine lv_iload_n hx hb dL_getDelay_3 rfl (lv_at hl 1 rfl) ?_
  refine lv_iload_n hx hb dL_getDelay_4 rfl (lv_at hl 2 rfl) ?_
  have hPc := hP.sub (ws' := [(h1, .inr (9, [.ref h3, x4, x5, x6, x7, x8, x9])), (h3, .inr (2, [x10, x11, .int 0, x12]))]) [0, 1] rfl
  refine vx_calli (vx_runV (As := [.int p1, .int p2]) (rest := [.int 0, .ref h2]) ⟨hx, hb, hml, hown, hts⟩ (k_X7_getDelay l hl9 D cy h1 p1 p2 h3 (x4) (x5) (x6) (x7) (x8) (x9) (x10) (x11) (x12)) (cwV 2 hts gL_getDelay_X7_getDelay rfl rfl rfl (by decide +kernel) ⟨(Nat.le_of_ble_eq_true rfl), (Nat.le_of_ble_eq_true rfl)⟩) ⟨kRX_fb, va_recv hK hP (ci := 9) (q0 := 0) rfl rfl, (kRX_go hPc hK hE hS)⟩ rfl rfl hl.1 rfl (lv_room (Nat.le_of_ble_eq_true rfl)) dL_getDelay_5 ⟨(Nat.le_of_ble_eq_true rfl), (Nat.le_of_ble_eq_true rfl)⟩) hS (fun _ _ h => h.elim) (fun _ h => h.elim) (fun _ _ h => h.elim) (fun E9 ce9 q9 u t H locs ht hvm hw hB hz1 hk1 hS hce hcv hcl => ?_) (fun r9 u t H locs ht hvm hw hB hz1 hk1 hS => ?_)
  · obtain ⟨rfl, hB⟩ := hB
    have f_1 : True := hB
    have hP := kx_kept hP hk1
    refine vx_catch (E := "java/lang/IndexOutOfBoundsException") (name := "java/lang/IndexOutOfBoundsException") hown [] (⟨0, 10, 13, 28⟩ : ExceptionTableEntry) [(⟨0, 10, 17, 13⟩ : ExceptionTableEntry)] htb (fun _ h => absurd h List.not_mem_nil) rfl (by decide) (hts (.classLink RL 28 "java/lang/IndexOutOfBoundsException") (List.mem_cons_of_mem _ (List.mem_append_left _ (List.mem_append_left _ (List.mem_append_left _ (List.mem_append_left _ (List.mem_append_left _ (List.mem_append_left _ (List.mem_append_left _ (List.mem_of_getElem? (i := 0) rfl)))))))))) (exP.cast hE "java/lang/IndexOutOfBoundsException" (by decide +kernel)) hce hcv hcl ?_
    refine lv_astore (lv' := [(4, .ref q9), (0, .ref h1), (1, .int p1), (2, .int p2), (3, .ref h2)]) hx hb dL_getDelay_13 hl (by decide) rfl (fun ls hl => ?_)
    refine lv_iconst (v := 1) hx hb dL_getDelay_15 (by decide) ?_
    refine W.widen (k := 1) (n := 6) (Nat.le_of_ble_eq_true rfl) (Nat.le_of_ble_eq_true rfl) ?_
    exact W.iret (v := 1) hx hb hr (fun t ht hW => ⟨⟨1, (), rfl, ⟨rfl, trivial⟩, trivial⟩, hS.F ht⟩) hS.2.2 dL_getDelay_16
  · exact (show False from hw).elim
theorem dX8_getDelay_0 : decode cX8_getDelay 0 = .ok (.aload_n 0, 1) := by decide +kernel
theorem dX8_getDelay_1 : decode cX8_getDelay 1 = .ok (.aload_n 0, 1) := by decide +kernel
theorem dX8_getDelay_2 : decode cX8_getDelay 2 = .ok (.iload_n 1, 1) := by decide +kernel
theorem dX8_getDelay_3 : decode cX8_getDelay 3 = .ok (.invokevirtual 167, 3) := by decide +kernel
set_option maxRecDepth 20000 in
theorem ggX8_getDelay_X8_isNoLoad : GoodIn wsX8_getDelay wsX8_isNoLoad := goodIn_r _ [5, 6, 7, 8, 4, 9, 22, 23, 24, 25, 26, 27, 28, 29, 30, 31, 32, 33, 34, 35, 36, 37, 38, 39] (by decide +kernel) (by decide +kernel)
set_option maxRecDepth 20000 in
theorem gX8_getDelay_X8_isNoLoad : GoodIn wsX8_getDelay (wsV RX8 167 RX8 yX8_isNoLoad wsX8_isNoLoad) := goodIn_app (goodIn_of _ (by decide +kernel)) ggX8_getDelay_X8_isNoLoad
theorem dX8_getDelay_6 : decode cX8_getDelay 6 = .ok (.iconst 1, 1) := by decide +kernel
theorem dX8_getDelay_7 : decode cX8_getDelay 7 = .ok (.invokevirtual 73, 3) := by decide +kernel
set_option maxRecDepth 20000 in
theorem ggX8_getDelay_X8_isThrown : GoodIn wsX8_getDelay wsX8_isThrown := goodIn_r _ [13, 14, 22, 23, 24, 25, 26, 27, 28, 29, 30, 31, 32, 33, 34, 35, 36, 37, 38, 39] (by decide +kernel) (by decide +kernel)
set_option maxRecDepth 20000 in
theorem gX8_getDelay_X8_isThrown : GoodIn wsX8_getDelay (wsV RX8 73 RX8 yX8_isThrown wsX8_isThrown) := goodIn_app (goodIn_of _ (by decide +kernel)) ggX8_getDelay_X8_isThrown
theorem dX8_getDelay_10 : decode cX8_getDelay 10 = .ok (.ifCond .ne 26, 3) := by decide +kernel
theorem dX8_getDelay_36 : decode cX8_getDelay 36 = .ok (.iconst 0, 1) := by decide +kernel
theorem dX8_getDelay_37 : decode cX8_getDelay 37 = .ok (.goto 9, 3) := by decide +kernel
theorem dX8_getDelay_46 : decode cX8_getDelay 46 = .ok (.ireturn, 1) := by decide +kernel
set_option maxHeartbeats 4000000 in
set_option maxRecDepth 100000 in
theorem k_X8_getDelay (l : Launch) (D : va_G) (cy : Nat → ClassId) (h1 : Nat) (p0 : Int32) (p1 : Int32) (x2 : Value) (x3 : Value) (x4 : Value) (x5 : Value) (x6 : Value) (x7 : Value) (x8 : Value) (x9 : Value) (x10 : Value) (x11 : Value) (x12 : Value) (x13 : Value) (x14 : Value) (x15 : Value) (x16 : Value) (x17 : Value) (x18 : Value) (sz : Nat) : Met l yX8_getDelay wsX8_getDelay ({ frames := 2, cells := 0, slots := 0, locals := 43 }) (kW D cy [.ref h1, .int p0, .int p1] [(h1, .inr (10, [x2, x3, x4, x5, x6, x7, x8, x9, x10, x11, x12, x13, x14, x15, .int 0, x16, x17, x18]))] sz) (va_Qi (fun (r : Int32) (_ : Unit) => r = 0 ∧ True) (fun (_ : Unit) (t : State) => va_P D vwCl [(h1, .inr (10, [x2, x3, x4, x5, x6, x7, x8, x9, x10, x11, x12, x13, x14, x15, .int 0, x16, x17, .int 1]))] t.heap ∧ va_D (va_A [(h1, .inr (10, [x2, x3, x4, x5, x6, x7, x8, x9, x10, x11, x12, x13, x14, x15, .int 0, x16, x17, x18]))] sz) [(h1, .inr (10, [x2, x3, x4, x5, x6, x7, x8, x9, x10, x11, x12, x13, x14, x15, .int 0, x16, x17, .int 1]))]) (va_A [(h1, .inr (10, [x2, x3, x4, x5, x6, x7, x8, x9, x10, x11, x12, x13, x14, x15, .int 0, x16, x17, x18]))] sz)) 0 0 (va_A [(h1, .inr (10, [x2, x3, x4, x5, x6, x7, x8, x9, x10, x11, x12, x13, x14, x15, .int 0, x16, x17, x18]))] sz) := by
  refine Met.ofW (cc := cX8_getDelay) (maxL := 3) (ret := (some .int)) (by decide) rfl ?_
  intro p e s m args below meth c s₁ B hml hv
  obtain ⟨rfl, hsz, hP, hK, hD0⟩ := hv
  have hx := B.exec
  have hb := B.bytes
  have hr := B.returns
  have hts := atoms_spec (ws := wsX8_getDelay) B.pre
  have hown : s.vm.findClass RX8 = some m.cls := findClass_of_methodNamed B.named
  have hlocks := B.notSynchronized
  subst hsz
  have hD := hD0.self (sz := s.heap.size)
  generalize hAe : va_A [(h1, .inr (10, [x2, x3, x4, x5, x6, x7, x8, x9, x10, x11, x12, x13, x14, x15, .int 0, x16, x17, x18]))] s.heap.size = A at hD ⊢
  have hA : ∀ q : Nat, s.heap.size ≤ q → A q := fun q h => by rw [← hAe]; exact Or.inr h
  have hS : va_S A s.heap s.heap [] := va_S.rf
  have hP : va_P D vwCl [(h1, .inr (10, [x2, x3, x4, x5, x6, x7, x8, x9, x10, x11, x12, x13, x14, x15, .int 0, x16, x17, x18]))] s.heap := hP
  have hl := lv_entry ([.ref h1, .int p0, .int p1]) (n := 3) (Nat.le_of_ble_eq_true rfl)
  rw [lg_entry_eq]
  generalize (lg_sl ([.ref h1, .int p0, .int p1]) ++ List.replicate (3 - (lg_sl ([.ref h1, .int p0, .int p1])).length) Slot.unset).toArray = ls at hl ⊢
  have hl : lv_has ls 3 [(0, .ref h1), (1, .int p0), (2, .int p1)] := hl
  refine lv_aload_n hx hb dX8_getDelay_0 rfl (lv_at hl 0 rfl) ?_
  refine lv_aload_n hx hb dX8_getDelay_1 rfl (lv_at hl 0 rfl) ?_
  refine lv_iload_n hx hb dX8_getDelay_2 rfl (lv_at hl 1 rfl) ?_
  have hPc := hP.sub (ws' := [(h1, .inr (10, [x2, x3, x4, x5, x6, x7, x8, x9, x10, x11, x12, x13, x14, x15, .int 0, x16, x17, x18]))]) [0] rfl
  refine va_calli (va_runV (As := [.int p0]) (rest := [.ref h1]) ⟨hx, hb, hml, hown, hts⟩ (k_X8_isNoLoad l D cy h1 p0 (x2) (x3) (x4) (x5) (x6) (x7) (x8) (x9) (x10) (x11) (x12) (x13) (x14) (x15) (x16) (x17) (x18)) (cwV 1 hts gX8_getDelay_X8_isNoLoad rfl rfl rfl (by decide +kernel) ⟨(Nat.le_of_ble_eq_true rfl), (Nat.le_of_ble_eq_true rfl)⟩) ⟨kR_fb, va_recv hK hP (ci := 10) (q0 := 0) rfl rfl, (kR_go hPc hK)⟩ rfl rfl hl.1 rfl (lv_room (Nat.le_of_ble_eq_true rfl)) dX8_getDelay_3 ⟨(Nat.le_of_ble_eq_true rfl), (Nat.le_of_ble_eq_true rfl)⟩) hS (fun _ _ h => h.elim) (fun _ h => h.elim) (fun r9 u t H locs ht hvm hw hB hz1 hk1 hS => ?_)
  have hP := kx_kept hP hk1
  obtain ⟨rfl, hw⟩ := hw
  refine lv_iconst (v := 1) hx hb dX8_getDelay_6 (by decide) ?_
  have hPc := hP.sub (ws' := [(h1, .inr (10, [x2, x3, x4, x5, x6, x7, x8, x9, x10, x11, x12, x13, x14, x15, .int 0, x16, x17, x18]))]) [0] rfl
  have hDc := hD.sub (ws' := [(h1, .inr (10, [x2, x3, x4, x5, x6, x7, x8, x9, x10, x11, x12, x13, x14, x15, .int 0, x16, x17, x18]))]) [0] (by decide) rfl
  have hFc := va_free (wc := [(h1, .inr (10, [x2, x3, x4, x5, x6, x7, x8, x9, x10, x11, x12, x13, x14, x15, .int 0, x16, x17, x18]))]) hD hS hA [0] rfl
  refine va_calli (va_runV (As := [.int 1, .int 1]) (rest := []) ⟨hx, hb, hml, hown, hts⟩ (k_X8_isThrown l D cy h1 (x2) (x3) (x4) (x5) (x6) (x7) (x8) (x9) (x10) (x11) (x12) (x13) (x14) (x15) (.int 0) (x16) (x17) (x18) H.size) (cwV 2 hts gX8_getDelay_X8_isThrown rfl rfl rfl (by decide +kernel) ⟨(Nat.le_of_ble_eq_true rfl), (Nat.le_of_ble_eq_true rfl)⟩) ⟨kW_fb, va_recv hK hP (ci := 10) (q0 := 0) rfl rfl, (kW_go hPc hK hDc)⟩ rfl rfl hl.1 rfl (lv_room (Nat.le_of_ble_eq_true rfl)) dX8_getDelay_7 ⟨(Nat.le_of_ble_eq_true rfl), (Nat.le_of_ble_eq_true rfl)⟩) hS (fun q _ h => hFc q h) hFc (fun r9 u t H locs ht hvm hw hB hz1 hk1 hS => ?_)
  obtain ⟨hP1, hD1⟩ := hB
  rw [ht] at hP1
  try dsimp only at hw hP1 hD1
  obtain ⟨hP, hD⟩ := va_join (wr := []) (w1 := [(h1, .inr (10, [x2, x3, x4, x5, x6, x7, x8, x9, x10, x11, x12, x13, x14, x15, .int 0, x16, x17, .int 1]))]) hP hD [0] [] rfl rfl (by decide) (by decide) hk1 hFc hP1 hD1
  have hP : va_P D vwCl [(h1, .inr (10, [x2, x3, x4, x5, x6, x7, x8, x9, x10, x11, x12, x13, x14, x15, .int 0, x16, x17, .int 1]))] H := hP
  have hD : va_D A [(h1, .inr (10, [x2, x3, x4, x5, x6, x7, x8, x9, x10, x11, x12, x13, x14, x15, .int 0, x16, x17, .int 1]))] := hD
  obtain ⟨rfl, hw⟩ := hw
  refine lv_if_ne (tgt := 36) hx hb dX8_getDelay_10 (by decide) (fun _ => ?_) (fun h => absurd h (by decide))
  refine lv_iconst (v := 0) hx hb dX8_getDelay_36 (by decide) ?_
  refine lv_goto (tgt := 46) hx hb dX8_getDelay_37 (by decide) ?_
  refine W.widen (k := 0) (n := 0) (Nat.le_of_ble_eq_true rfl) (Nat.le_of_ble_eq_true rfl) ?_
  have hP9 := hP.sub (ws' := [(h1, .inr (10, [x2, x3, x4, x5, x6, x7, x8, x9, x10, x11, x12, x13, x14, x15, .int 0, x16, x17, .int 1]))]) [0] rfl
  have hD9 := hD.sub (ws' := [(h1, .inr (10, [x2, x3, x4, x5, x6, x7, x8, x9, x10, x11, x12, x13, x14, x15, .int 0, x16, x17, .int 1]))]) [0] (by decide) rfl
  exact W.iret (v := 0) hx hb hr (fun t ht hW => ⟨⟨0, (), rfl, ⟨rfl, trivial⟩, ⟨by rw [ht]; exact hP9, hD9⟩⟩, hS.F ht⟩) hS.2.2 dX8_getDelay_46
theorem dX7_getCost_0 : decode cX7_getCost 0 = .ok (.aload_n 0, 1) := by decide +kernel
theorem dX7_getCost_1 : decode cX7_getCost 1 = .ok (.iload_n 1, 1) := by decide +kernel
theorem dX7_getCost_2 : decode cX7_getCost 2 = .ok (.invokevirtual 88, 3) := by decide +kernel
set_option maxRecDepth 20000 in
theorem ggX7_getCost_X7_checkPlayer : GoodIn wsX7_getCost wsX7_checkPlayer := goodIn_ca (goodIn_r _ [7, 8, 9, 1, 10, 43, 44, 45, 46, 47, 48, 49, 50, 51, 52, 53] (by decide +kernel) (by decide +kernel)) (goodIn_sub (fun _ h => List.mem_cons_of_mem _ (List.mem_append_left _ (List.mem_append_right _ h))) (by decide +kernel))
set_option maxRecDepth 20000 in
theorem gX7_getCost_X7_checkPlayer : GoodIn wsX7_getCost (wsV RX7 88 RX7 yX7_checkPlayer wsX7_checkPlayer) := goodIn_app (goodIn_of _ (by decide +kernel)) ggX7_getCost_X7_checkPlayer
set_option maxHeartbeats 4000000 in
set_option maxRecDepth 100000 in
theorem k_X7_getCost (l : Launch) (hl9 : l.stackTraces = false) (D : va_G) (cy : Nat → ClassId) (h1 : Nat) (p0 : Int32) (h2 : Nat) (x3 : Value) (x4 : Value) (x5 : Value) (x6 : Value) (x7 : Value) (x8 : Value) (x9 : Value) (x10 : Value) (x11 : Value) : vx_Met l yX7_getCost wsX7_getCost ({ frames := 7, cells := 1, slots := 6, locals := 103 }) (kRX D cy [.ref h1, .int p0] [(h1, .inr (9, [.ref h2, x3, x4, x5, x6, x7, x8])), (h2, .inr (2, [x9, x10, x11, .int 0]))]) (va_Qi (fun (r : Int32) (_ : Unit) => False) (fun (_ : Unit) (_ : State) => True) (fun _ : Nat => False)) (vx_X (fun _ : Unit => True) (fun (E : String) (_ : Unit) (_ : State) => (E = "java/lang/IndexOutOfBoundsException" ∧ True)) (fun _ : Nat => False)) 1 6 (fun _ : Nat => False) := by
  refine vx_ofW (cc := cX7_getCost) (maxL := 2) (ret := (some .int)) (by decide) rfl ?_
  intro p e s m args below meth c s₁ B hml ht9 hv
  obtain ⟨rfl, hP, hK, hE⟩ := hv
  have hx := B.exec
  have hb := B.bytes
  have hr := B.returns
  have hts := atoms_spec (ws := wsX7_getCost) B.pre
  have hown : s.vm.findClass RX7 = some m.cls := findClass_of_methodNamed B.named
  have hlocks := B.notSynchronized
  have hS : va_S (fun _ : Nat => False) s.heap s.heap [] := va_S.rf
  have hP : va_P D vwCl [(h1, .inr (9, [.ref h2, x3, x4, x5, x6, x7, x8])), (h2, .inr (2, [x9, x10, x11, .int 0]))] s.heap := hP
  have hl := lv_entry ([.ref h1, .int p0]) (n := 2) (Nat.le_of_ble_eq_true rfl)
  rw [lg_entry_eq]
  generalize (lg_sl ([.ref h1, .int p0]) ++ List.replicate (2 - (lg_sl ([.ref h1, .int p0])).length) Slot.unset).toArray = ls at hl ⊢
  have hl : lv_has ls 2 [(0, .ref h1), (1, .int p0)] := hl
  refine lv_aload_n hx hb dX7_getCost_0 rfl (lv_at hl 0 rfl) ?_
  refine lv_iload_n hx hb dX7_getCost_1 rfl (lv_at hl 1 rfl) ?_
  have hPc := hP.sub (ws' := [(h1, .inr (9, [.ref h2, x3, x4, x5, x6, x7, x8])), (h2, .inr (2, [x9, x10, x11, .int 0]))]) [0, 1] rfl
  refine vx_callv (vx_runV (As := [.int p0]) (rest := []) ⟨hx, hb, hml, hown, hts⟩ (k_X7_checkPlayer l hl9 D cy h1 p0 h2 (x3) (x4) (x5) (x6) (x7) (x8) (x9) (x10) (x11)) (cwV 1 hts gX7_getCost_X7_checkPlayer rfl rfl rfl (by decide +kernel) ⟨(Nat.le_of_ble_eq_true rfl), (Nat.le_of_ble_eq_true rfl)⟩) ⟨kRX_fb, va_recv hK hP (ci := 9) (q0 := 0) rfl rfl, (kRX_go hPc hK hE hS)⟩ rfl rfl hl.1 rfl (lv_room (Nat.le_of_ble_eq_true rfl)) dX7_getCost_2 ⟨(Nat.le_of_ble_eq_true rfl), (Nat.le_of_ble_eq_true rfl)⟩) hS (fun _ _ h => h.elim) (fun _ h => h.elim) (fun _ _ h => h.elim) (fun E9 ce9 q9 u t H locs ht hvm hw hB hz1 hk1 hS hce hcv hcl => ?_) (fun u t H locs ht hvm hw hB hz1 hk1 hS => ?_)
  · obtain ⟨rfl, hB⟩ := hB
    have f_1 : True := hB
    exact vx_out (fun x hx => (ht9 x hx).elim) hlocks hce hcv hcl (fun t ht _ => ⟨(), trivial, (⟨rfl, trivial⟩), hS.F ht⟩) hS.2.2 (Nat.le_of_ble_eq_true rfl) (Nat.le_of_ble_eq_true rfl)
  · exact (show False from hw).elim
theorem dL_getCost_0 : decode cL_getCost 0 = .ok (.aload_n 2, 1) := by decide +kernel
theorem dL_getCost_1 : decode cL_getCost 1 = .ok (.iconst 0, 1) := by decide +kernel
theorem dL_getCost_2 : decode cL_getCost 2 = .ok (.aload_n 0, 1) := by decide +kernel
theorem dL_getCost_3 : decode cL_getCost 3 = .ok (.iload_n 1, 1) := by decide +kernel
theorem dL_getCost_4 : decode cL_getCost 4 = .ok (.invokevirtual 57, 3) := by decide +kernel
set_option maxRecDepth 20000 in
theorem ggL_getCost_X7_getCost : GoodIn wsL_getCost wsX7_getCost := goodIn_ca (goodIn_ca (goodIn_r _ [6, 7, 8, 9, 10, 11, 5, 12, 13, 14, 15, 16, 17, 18, 19, 20, 21, 22, 23, 24, 25, 26, 27, 28, 29, 30, 31, 32, 33, 34, 35, 36, 37, 38, 39, 40, 41, 42, 43, 44, 45, 46, 47, 48, 49, 50, 51, 52, 53, 54, 55, 56, 57, 58, 59, 60, 61, 62, 63, 64, 65, 66, 67, 68, 69, 70, 71, 72, 73, 74] (by decide +kernel) (by decide +kernel)) (goodIn_sub (fun _ h => List.mem_cons_of_mem _ (List.mem_append_right _ h)) (by decide +kernel))) (goodIn_sub (fun _ h => List.mem_cons_of_mem _ (List.mem_append_left _ (List.mem_append_right _ h))) (by decide +kernel))
set_option maxRecDepth 20000 in
theorem gL_getCost_X7_getCost : GoodIn wsL_getCost (wsV RL 57 RX7 yX7_getCost wsX7_getCost) := goodIn_app (goodIn_of _ (by decide +kernel)) ggL_getCost_X7_getCost
theorem dL_getCost_12 : decode cL_getCost 12 = .ok (.astore_n 3, 1) := by decide +kernel
theorem dL_getCost_13 : decode cL_getCost 13 = .ok (.iconst 1, 1) := by decide +kernel
theorem dL_getCost_14 : decode cL_getCost 14 = .ok (.ireturn, 1) := by decide +kernel
set_option maxHeartbeats 4000000 in
set_option maxRecDepth 100000 in
theorem k_L_getCost (l : Launch) (hl9 : l.stackTraces = false) (D : va_G) (cy : Nat → ClassId) (h1 : Nat) (p1 : Int32) (h2 : Nat) (h3 : Nat) (x4 : Value) (x5 : Value) (x6 : Value) (x7 : Value) (x8 : Value) (x9 : Value) (x10 : Value) (x11 : Value) (x12 : Value) : Met l yL_getCost wsL_getCost ({ frames := 8, cells := 1, slots := 6, locals := 124 }) (kRX D cy [.ref h1, .int p1, .ref h2] [(h1, .inr (9, [.ref h3, x4, x5, x6, x7, x8, x9])), (h3, .inr (2, [x10, x11, x12, .int 0]))]) (va_Qi (fun (r : Int32) (_ : Unit) => r = 1 ∧ True) (fun (_ : Unit) (_ : State) => True) (fun _ : Nat => False)) 1 6 (fun _ : Nat => False) := by
  refine va_MetW (cc := cL_getCost) (maxL := 4) (ret := (some .int)) (by decide) rfl ?_
  intro p e s m args below meth c s₁ B hml hv
  obtain ⟨rfl, hP, hK, hE⟩ := hv
  have hx := B.exec
  have hb := B.bytes
  have hr := B.returns
  have hts := atoms_spec (ws := wsL_getCost) B.pre
  have hown : s.vm.findClass RL = some m.cls := findClass_of_methodNamed B.named
  have hlocks := B.notSynchronized
  have htb := vx_table (x := yL_getCost) B (hts _ (List.mem_cons_self))
  have hS : va_S (fun _ : Nat => False) s.heap s.heap [] := va_S.rf
  have hP : va_P D vwCl [(h1, .inr (9, [.ref h3, x4, x5, x6, x7, x8, x9])), (h3, .inr (2, [x10, x11, x12, .int 0]))] s.heap := hP
  have hl := lv_entry ([.ref h1, .int p1, .ref h2]) (n := 4) (Nat.le_of_ble_eq_true rfl)
  rw [lg_entry_eq]
  generalize (lg_sl ([.ref h1, .int p1, .ref h2]) ++ List.replicate (4 - (lg_sl ([.ref h1, .int p1, .ref h2])).length) Slot.unset).toArray = ls at hl ⊢
  have hl : lv_has ls 4 [(0, .ref h1), (1, .int p1), (2, .ref h2)] := hl
  refine lv_aload_n hx hb dL_getCost_0 rfl (lv_at hl 2 rfl) ?_
  refine lv_iconst (v := 0) hx hb dL_getCost_1 (by decide) ?_
  refine lv_aload_n hx hb dL_getCost_2 rfl (lv_at hl 0 rfl) ?_
  refine lv_iload_n hx hb dL_getCost_3 rfl (lv_at hl 1 rfl) ?_
  have hPc := hP.sub (ws' := [(h1, .inr (9, [.ref h3, x4, x5, x6, x7, x8, x9])), (h3, .inr (2, [x10, x11, x12, .int 0]))]) [0, 1] rfl
  refine vx_calli (vx_runV (As := [.int p1]) (rest := [.int 0, .ref h2]) ⟨hx, hb, hml, hown, hts⟩ (k_X7_getCost l hl9 D cy h1 p1 h3 (x4) (x5) (x6) (x7) (x8) (x9) (x10) (x11) (x12)) (cwV 1 hts gL_getCost_X7_getCost rfl rfl rfl (by decide +kernel) ⟨(Nat.le_of_ble_eq_true rfl), (Nat.le_of_ble_eq_true rfl)⟩) ⟨kRX_fb, va_recv hK hP (ci := 9) (q0 := 0) rfl rfl, (kRX_go hPc hK hE hS)⟩ rfl rfl hl.1 rfl (lv_room (Nat.le_of_ble_eq_true rfl)) dL_getCost_4 ⟨(Nat.le_of_ble_eq_true rfl), (Nat.le_of_ble_eq_true rfl)⟩) hS (fun _ _ h => h.elim) (fun _ h => h.elim) (fun _ _ h => h.elim) (fun E9 ce9 q9 u t H locs ht hvm hw hB hz1 hk1 hS hce hcv hcl => ?_) (fun r9 u t H locs ht hvm hw hB hz1 hk1 hS => ?_)
  · obtain ⟨rfl, hB⟩ := hB
    have f_1 : True := hB
    have hP := kx_kept hP hk1
    refine vx_catch (E := "java/lang/IndexOutOfBoundsException") (name := "java/lang/IndexOutOfBoundsException") hown [] (⟨0, 9, 12, 28⟩ : ExceptionTableEntry) [] htb (fun _ h => absurd h List.not_mem_nil) rfl (by decide) (hts (.classLink RL 28 "java/lang/IndexOutOfBoundsException") (List.mem_cons_of_mem _ (List.mem_append_left _ (List.mem_append_left _ (List.mem_append_left _ (List.mem_append_left _ (List.mem_append_left _ (List.mem_append_left _ (List.mem_append_left _ (List.mem_append_left _ (List.mem_of_getElem? (i := 0) rfl))))))))))) (exP.cast hE "java/lang/IndexOutOfBoundsException" (by decide +kernel)) hce hcv hcl ?_
    refine lv_astore_n (lv' := [(3, .ref q9), (0, .ref h1), (1, .int p1), (2, .ref h2)]) hx hb dL_getCost_12 rfl hl (by decide) rfl (fun ls hl => ?_)
    refine lv_iconst (v := 1) hx hb dL_getCost_13 (by decide) ?_
    refine W.widen (k := 1) (n := 6) (Nat.le_of_ble_eq_true rfl) (Nat.le_of_ble_eq_true rfl) ?_
    exact W.iret (v := 1) hx hb hr (fun t ht hW => ⟨⟨1, (), rfl, ⟨rfl, trivial⟩, trivial⟩, hS.F ht⟩) hS.2.2 dL_getCost_14
  · exact (show False from hw).elim
theorem dX8_getCost_0 : decode cX8_getCost 0 = .ok (.aload_n 0, 1) := by decide +kernel
theorem dX8_getCost_1 : decode cX8_getCost 1 = .ok (.aload_n 0, 1) := by decide +kernel
theorem dX8_getCost_2 : decode cX8_getCost 2 = .ok (.iload_n 1, 1) := by decide +kernel
theorem dX8_getCost_3 : decode cX8_getCost 3 = .ok (.invokevirtual 100, 3) := by decide +kernel
set_option maxRecDepth 20000 in
theorem ggX8_getCost_X8_isNone : GoodIn wsX8_getCost wsX8_isNone := goodIn_r _ [6, 7, 8, 9, 5, 10, 36, 37, 38, 39, 40, 41, 42, 43, 44, 45, 46, 47, 48, 49, 50, 51, 52, 53] (by decide +kernel) (by decide +kernel)
set_option maxRecDepth 20000 in
theorem gX8_getCost_X8_isNone : GoodIn wsX8_getCost (wsV RX8 100 RX8 yX8_isNone wsX8_isNone) := goodIn_app (goodIn_of _ (by decide +kernel)) ggX8_getCost_X8_isNone
theorem dX8_getCost_6 : decode cX8_getCost 6 = .ok (.iconst 1, 1) := by decide +kernel
theorem dX8_getCost_7 : decode cX8_getCost 7 = .ok (.invokevirtual 73, 3) := by decide +kernel
set_option maxRecDepth 20000 in
theorem ggX8_getCost_X8_isThrown : GoodIn wsX8_getCost wsX8_isThrown := goodIn_r _ [14, 15, 36, 37, 38, 39, 40, 41, 42, 43, 44, 45, 46, 47, 48, 49, 50, 51, 52, 53] (by decide +kernel) (by decide +kernel)
set_option maxRecDepth 20000 in
theorem gX8_getCost_X8_isThrown : GoodIn wsX8_getCost (wsV RX8 73 RX8 yX8_isThrown wsX8_isThrown) := goodIn_app (goodIn_of _ (by decide +kernel)) ggX8_getCost_X8_isThrown
theorem dX8_getCost_10 : decode cX8_getCost 10 = .ok (.ifCond .eq 7, 3) := by decide +kernel
theorem dX8_getCost_13 : decode cX8_getCost 13 = .ok (.iconst 0, 1) := by decide +kernel
theorem dX8_getCost_14 : decode cX8_getCost 14 = .ok (.goto 12, 3) := by decide +kernel
theorem dX8_getCost_26 : decode cX8_getCost 26 = .ok (.ireturn, 1) := by decide +kernel
set_option maxHeartbeats 4000000 in
set_option maxRecDepth 100000 in
theorem k_X8_getCost (l : Launch) (D : va_G) (cy : Nat → ClassId) (h1 : Nat) (p0 : Int32) (x2 : Value) (x3 : Value) (x4 : Value) (x5 : Value) (x6 : Value) (x7 : Value) (x8 : Value) (x9 : Value) (x10 : Value) (x11 : Value) (x12 : Value) (x13 : Value) (x14 : Value) (x15 : Value) (x16 : Value) (x17 : Value) (x18 : Value) (sz : Nat) : Met l yX8_getCost wsX8_getCost ({ frames := 2, cells := 0, slots := 0, locals := 43 }) (kW D cy [.ref h1, .int p0] [(h1, .inr (10, [x2, x3, x4, x5, x6, x7, x8, x9, x10, x11, x12, x13, x14, x15, x16, .int 0, x17, x18]))] sz) (va_Qi (fun (r : Int32) (_ : Unit) => r = 0 ∧ True) (fun (_ : Unit) (t : State) => va_P D vwCl [(h1, .inr (10, [x2, x3, x4, x5, x6, x7, x8, x9, x10, x11, x12, x13, x14, x15, x16, .int 0, x17, .int 1]))] t.heap ∧ va_D (va_A [(h1, .inr (10, [x2, x3, x4, x5, x6, x7, x8, x9, x10, x11, x12, x13, x14, x15, x16, .int 0, x17, x18]))] sz) [(h1, .inr (10, [x2, x3, x4, x5, x6, x7, x8, x9, x10, x11, x12, x13, x14, x15, x16, .int 0, x17, .int 1]))]) (va_A [(h1, .inr (10, [x2, x3, x4, x5, x6, x7, x8, x9, x10, x11, x12, x13, x14, x15, x16, .int 0, x17, x18]))] sz)) 0 0 (va_A [(h1, .inr (10, [x2, x3, x4, x5, x6, x7, x8, x9, x10, x11, x12, x13, x14, x15, x16, .int 0, x17, x18]))] sz) := by
  refine Met.ofW (cc := cX8_getCost) (maxL := 2) (ret := (some .int)) (by decide) rfl ?_
  intro p e s m args below meth c s₁ B hml hv
  obtain ⟨rfl, hsz, hP, hK, hD0⟩ := hv
  have hx := B.exec
  have hb := B.bytes
  have hr := B.returns
  have hts := atoms_spec (ws := wsX8_getCost) B.pre
  have hown : s.vm.findClass RX8 = some m.cls := findClass_of_methodNamed B.named
  have hlocks := B.notSynchronized
  subst hsz
  have hD := hD0.self (sz := s.heap.size)
  generalize hAe : va_A [(h1, .inr (10, [x2, x3, x4, x5, x6, x7, x8, x9, x10, x11, x12, x13, x14, x15, x16, .int 0, x17, x18]))] s.heap.size = A at hD ⊢
  have hA : ∀ q : Nat, s.heap.size ≤ q → A q := fun q h => by rw [← hAe]; exact Or.inr h
  have hS : va_S A s.heap s.heap [] := va_S.rf
  have hP : va_P D vwCl [(h1, .inr (10, [x2, x3, x4, x5, x6, x7, x8, x9, x10, x11, x12, x13, x14, x15, x16, .int 0, x17, x18]))] s.heap := hP
  have hl := lv_entry ([.ref h1, .int p0]) (n := 2) (Nat.le_of_ble_eq_true rfl)
  rw [lg_entry_eq]
  generalize (lg_sl ([.ref h1, .int p0]) ++ List.replicate (2 - (lg_sl ([.ref h1, .int p0])).length) Slot.unset).toArray = ls at hl ⊢
  have hl : lv_has ls 2 [(0, .ref h1), (1, .int p0)] := hl
  refine lv_aload_n hx hb dX8_getCost_0 rfl (lv_at hl 0 rfl) ?_
  refine lv_aload_n hx hb dX8_getCost_1 rfl (lv_at hl 0 rfl) ?_
  refine lv_iload_n hx hb dX8_getCost_2 rfl (lv_at hl 1 rfl) ?_
  have hPc := hP.sub (ws' := [(h1, .inr (10, [x2, x3, x4, x5, x6, x7, x8, x9, x10, x11, x12, x13, x14, x15, x16, .int 0, x17, x18]))]) [0] rfl
  refine va_calli (va_runV (As := [.int p0]) (rest := [.ref h1]) ⟨hx, hb, hml, hown, hts⟩ (k_X8_isNone l D cy h1 p0 (x2) (x3) (x4) (x5) (x6) (x7) (x8) (x9) (x10) (x11) (x12) (x13) (x14) (x15) (x16) (x17) (x18)) (cwV 1 hts gX8_getCost_X8_isNone rfl rfl rfl (by decide +kernel) ⟨(Nat.le_of_ble_eq_true rfl), (Nat.le_of_ble_eq_true rfl)⟩) ⟨kR_fb, va_recv hK hP (ci := 10) (q0 := 0) rfl rfl, (kR_go hPc hK)⟩ rfl rfl hl.1 rfl (lv_room (Nat.le_of_ble_eq_true rfl)) dX8_getCost_3 ⟨(Nat.le_of_ble_eq_true rfl), (Nat.le_of_ble_eq_true rfl)⟩) hS (fun _ _ h => h.elim) (fun _ h => h.elim) (fun r9 u t H locs ht hvm hw hB hz1 hk1 hS => ?_)
  have hP := kx_kept hP hk1
  obtain ⟨rfl, hw⟩ := hw
  refine lv_iconst (v := 1) hx hb dX8_getCost_6 (by decide) ?_
  have hPc := hP.sub (ws' := [(h1, .inr (10, [x2, x3, x4, x5, x6, x7, x8, x9, x10, x11, x12, x13, x14, x15, x16, .int 0, x17, x18]))]) [0] rfl
  have hDc := hD.sub (ws' := [(h1, .inr (10, [x2, x3, x4, x5, x6, x7, x8, x9, x10, x11, x12, x13, x14, x15, x16, .int 0, x17, x18]))]) [0] (by decide) rfl
  have hFc := va_free (wc := [(h1, .inr (10, [x2, x3, x4, x5, x6, x7, x8, x9, x10, x11, x12, x13, x14, x15, x16, .int 0, x17, x18]))]) hD hS hA [0] rfl
  refine va_calli (va_runV (As := [.int 1, .int 1]) (rest := []) ⟨hx, hb, hml, hown, hts⟩ (k_X8_isThrown l D cy h1 (x2) (x3) (x4) (x5) (x6) (x7) (x8) (x9) (x10) (x11) (x12) (x13) (x14) (x15) (x16) (.int 0) (x17) (x18) H.size) (cwV 2 hts gX8_getCost_X8_isThrown rfl rfl rfl (by decide +kernel) ⟨(Nat.le_of_ble_eq_true rfl), (Nat.le_of_ble_eq_true rfl)⟩) ⟨kW_fb, va_recv hK hP (ci := 10) (q0 := 0) rfl rfl, (kW_go hPc hK hDc)⟩ rfl rfl hl.1 rfl (lv_room (Nat.le_of_ble_eq_true rfl)) dX8_getCost_7 ⟨(Nat.le_of_ble_eq_true rfl), (Nat.le_of_ble_eq_true rfl)⟩) hS (fun q _ h => hFc q h) hFc (fun r9 u t H locs ht hvm hw hB hz1 hk1 hS => ?_)
  obtain ⟨hP1, hD1⟩ := hB
  rw [ht] at hP1
  try dsimp only at hw hP1 hD1
  obtain ⟨hP, hD⟩ := va_join (wr := []) (w1 := [(h1, .inr (10, [x2, x3, x4, x5, x6, x7, x8, x9, x10, x11, x12, x13, x14, x15, x16, .int 0, x17, .int 1]))]) hP hD [0] [] rfl rfl (by decide) (by decide) hk1 hFc hP1 hD1
  have hP : va_P D vwCl [(h1, .inr (10, [x2, x3, x4, x5, x6, x7, x8, x9, x10, x11, x12, x13, x14, x15, x16, .int 0, x17, .int 1]))] H := hP
  have hD : va_D A [(h1, .inr (10, [x2, x3, x4, x5, x6, x7, x8, x9, x10, x11, x12, x13, x14, x15, x16, .int 0, x17, .int 1]))] := hD
  obtain ⟨rfl, hw⟩ := hw
  refine lv_if_eq (tgt := 17) hx hb dX8_getCost_10 (by decide) (fun h => absurd h (by decide)) (fun _ => ?_)
  refine lv_iconst (v := 0) hx hb dX8_getCost_13 (by decide) ?_
  refine lv_goto (tgt := 26) hx hb dX8_getCost_14 (by decide) ?_
  refine W.widen (k := 0) (n := 0) (Nat.le_of_ble_eq_true rfl) (Nat.le_of_ble_eq_true rfl) ?_
  have hP9 := hP.sub (ws' := [(h1, .inr (10, [x2, x3, x4, x5, x6, x7, x8, x9, x10, x11, x12, x13, x14, x15, x16, .int 0, x17, .int 1]))]) [0] rfl
  have hD9 := hD.sub (ws' := [(h1, .inr (10, [x2, x3, x4, x5, x6, x7, x8, x9, x10, x11, x12, x13, x14, x15, x16, .int 0, x17, .int 1]))]) [0] (by decide) rfl
  exact W.iret (v := 0) hx hb hr (fun t ht hW => ⟨⟨0, (), rfl, ⟨rfl, trivial⟩, ⟨by rw [ht]; exact hP9, hD9⟩⟩, hS.F ht⟩) hS.2.2 dX8_getCost_26
theorem dX7_costOf_0 : decode cX7_costOf 0 = .ok (.aload_n 0, 1) := by decide +kernel
theorem dX7_costOf_1 : decode cX7_costOf 1 = .ok (.iload_n 1, 1) := by decide +kernel
theorem dX7_costOf_2 : decode cX7_costOf 2 = .ok (.iload_n 2, 1) := by decide +kernel
theorem dX7_costOf_3 : decode cX7_costOf 3 = .ok (.invokevirtual 148, 3) := by decide +kernel
set_option maxRecDepth 20000 in
theorem ggX7_costOf_X7_checkWay : GoodIn wsX7_costOf wsX7_checkWay := goodIn_ca (goodIn_r _ [7, 8, 9, 1, 10, 11, 12, 13, 14, 6, 15, 16, 45, 46, 47, 48, 49, 50, 51, 52, 53, 54, 55, 56, 57, 58, 59, 60, 61] (by decide +kernel) (by decide +kernel)) (goodIn_sub (fun _ h => List.mem_cons_of_mem _ (List.mem_append_left _ (List.mem_append_right _ h))) (by decide +kernel))
set_option maxRecDepth 20000 in
theorem gX7_costOf_X7_checkWay : GoodIn wsX7_costOf (wsV RX7 148 RX7 yX7_checkWay wsX7_checkWay) := goodIn_app (goodIn_of _ (by decide +kernel)) ggX7_costOf_X7_checkWay
set_option maxHeartbeats 4000000 in
set_option maxRecDepth 100000 in
theorem k_X7_costOf (l : Launch) (hl9 : l.stackTraces = false) (D : va_G) (cy : Nat → ClassId) (h1 : Nat) (p0 : Int32) (p1 : Int32) (h2 : Nat) (x3 : Value) (x4 : Value) (x5 : Value) (x6 : Value) (x7 : Value) (x8 : Value) (x9 : Value) (x10 : Value) (x11 : Value) : vx_Met l yX7_costOf wsX7_costOf ({ frames := 8, cells := 1, slots := 6, locals := 125 }) (kRX D cy [.ref h1, .int p0, .int p1] [(h1, .inr (9, [.ref h2, x3, x4, x5, x6, x7, x8])), (h2, .inr (2, [x9, x10, x11, .int 0]))]) (va_Qi (fun (r : Int32) (_ : Unit) => False) (fun (_ : Unit) (_ : State) => True) (fun _ : Nat => False)) (vx_X (fun _ : Unit => True) (fun (E : String) (_ : Unit) (_ : State) => (E = "java/lang/IndexOutOfBoundsException" ∧ True)) (fun _ : Nat => False)) 1 6 (fun _ : Nat => False) := by
  refine vx_ofW (cc := cX7_costOf) (maxL := 3) (ret := (some .int)) (by decide) rfl ?_
  intro p e s m args below meth c s₁ B hml ht9 hv
  obtain ⟨rfl, hP, hK, hE⟩ := hv
  have hx := B.exec
  have hb := B.bytes
  have hr := B.returns
  have hts := atoms_spec (ws := wsX7_costOf) B.pre
  have hown : s.vm.findClass RX7 = some m.cls := findClass_of_methodNamed B.named
  have hlocks := B.notSynchronized
  have hS : va_S (fun _ : Nat => False) s.heap s.heap [] := va_S.rf
  have hP : va_P D vwCl [(h1, .inr (9, [.ref h2, x3, x4, x5, x6, x7, x8])), (h2, .inr (2, [x9, x10, x11, .int 0]))] s.heap := hP
  have hl := lv_entry ([.ref h1, .int p0, .int p1]) (n := 3) (Nat.le_of_ble_eq_true rfl)
  rw [lg_entry_eq]
  generalize (lg_sl ([.ref h1, .int p0, .int p1]) ++ List.replicate (3 - (lg_sl ([.ref h1, .int p0, .int p1])).length) Slot.unset).toArray = ls at hl ⊢
  have hl : lv_has ls 3 [(0, .ref h1), (1, .int p0), (2, .int p1)] := hl
  refine lv_aload_n hx hb dX7_costOf_0 rfl (lv_at hl 0 rfl) ?_
  refine lv_iload_n hx hb dX7_costOf_1 rfl (lv_at hl 1 rfl) ?_
  refine lv_iload_n hx hb dX7_costOf_2 rfl (lv_at hl 2 rfl) ?_
  have hPc := hP.sub (ws' := [(h1, .inr (9, [.ref h2, x3, x4, x5, x6, x7, x8])), (h2, .inr (2, [x9, x10, x11, .int 0]))]) [0, 1] rfl
  refine vx_callv (vx_runV (As := [.int p0, .int p1]) (rest := []) ⟨hx, hb, hml, hown, hts⟩ (k_X7_checkWay l hl9 D cy h1 p0 p1 h2 (x3) (x4) (x5) (x6) (x7) (x8) (x9) (x10) (x11)) (cwV 2 hts gX7_costOf_X7_checkWay rfl rfl rfl (by decide +kernel) ⟨(Nat.le_of_ble_eq_true rfl), (Nat.le_of_ble_eq_true rfl)⟩) ⟨kRX_fb, va_recv hK hP (ci := 9) (q0 := 0) rfl rfl, (kRX_go hPc hK hE hS)⟩ rfl rfl hl.1 rfl (lv_room (Nat.le_of_ble_eq_true rfl)) dX7_costOf_3 ⟨(Nat.le_of_ble_eq_true rfl), (Nat.le_of_ble_eq_true rfl)⟩) hS (fun _ _ h => h.elim) (fun _ h => h.elim) (fun _ _ h => h.elim) (fun E9 ce9 q9 u t H locs ht hvm hw hB hz1 hk1 hS hce hcv hcl => ?_) (fun u t H locs ht hvm hw hB hz1 hk1 hS => ?_)
  · obtain ⟨rfl, hB⟩ := hB
    have f_1 : True := hB
    exact vx_out (fun x hx => (ht9 x hx).elim) hlocks hce hcv hcl (fun t ht _ => ⟨(), trivial, (⟨rfl, trivial⟩), hS.F ht⟩) hS.2.2 (Nat.le_of_ble_eq_true rfl) (Nat.le_of_ble_eq_true rfl)
  · exact (show False from hw).elim
theorem dL_costOf_0 : decode cL_costOf 0 = .ok (.aload_n 3, 1) := by decide +kernel
theorem dL_costOf_1 : decode cL_costOf 1 = .ok (.iconst 0, 1) := by decide +kernel
theorem dL_costOf_2 : decode cL_costOf 2 = .ok (.aload_n 0, 1) := by decide +kernel
theorem dL_costOf_3 : decode cL_costOf 3 = .ok (.iload_n 1, 1) := by decide +kernel
theorem dL_costOf_4 : decode cL_costOf 4 = .ok (.iload_n 2, 1) := by decide +kernel
theorem dL_costOf_5 : decode cL_costOf 5 = .ok (.invokevirtual 60, 3) := by decide +kernel
set_option maxRecDepth 20000 in
theorem ggL_costOf_X7_costOf : GoodIn wsL_costOf wsX7_costOf := goodIn_ca (goodIn_ca (goodIn_r _ [6, 7, 8, 9, 10, 11, 5, 12, 13, 14, 15, 16, 17, 18, 19, 20, 21, 22, 23, 24, 25, 26, 27, 28, 29, 30, 31, 32, 33, 34, 35, 36, 37, 38, 39, 40, 41, 42, 43, 44, 45, 46, 47, 48, 49, 50, 51, 52, 53, 54, 55, 56, 57, 58, 59, 60, 61, 62, 63, 64, 65, 66, 67, 68, 69, 70, 71, 72, 73, 74, 75, 76] (by decide +kernel) (by decide +kernel)) (goodIn_sub (fun _ h => List.mem_cons_of_mem _ (List.mem_append_right _ h)) (by decide +kernel))) (goodIn_sub (fun _ h => List.mem_cons_of_mem _ (List.mem_append_left _ (List.mem_append_right _ h))) (by decide +kernel))
set_option maxRecDepth 20000 in
theorem gL_costOf_X7_costOf : GoodIn wsL_costOf (wsV RL 60 RX7 yX7_costOf wsX7_costOf) := goodIn_app (goodIn_of _ (by decide +kernel)) ggL_costOf_X7_costOf
theorem dL_costOf_13 : decode cL_costOf 13 = .ok (.astore 4, 2) := by decide +kernel
theorem dL_costOf_15 : decode cL_costOf 15 = .ok (.iconst 1, 1) := by decide +kernel
theorem dL_costOf_16 : decode cL_costOf 16 = .ok (.ireturn, 1) := by decide +kernel
set_option maxHeartbeats 4000000 in
set_option maxRecDepth 100000 in
theorem k_L_costOf (l : Launch) (hl9 : l.stackTraces = false) (D : va_G) (cy : Nat → ClassId) (h1 : Nat) (p1 : Int32) (p2 : Int32) (h2 : Nat) (h3 : Nat) (x4 : Value) (x5 : Value) (x6 : Value) (x7 : Value) (x8 : Value) (x9 : Value) (x10 : Value) (x11 : Value) (x12 : Value) : Met l yL_costOf wsL_costOf ({ frames := 9, cells := 1, slots := 6, locals := 147 }) (kRX D cy [.ref h1, .int p1, .int p2, .ref h2] [(h1, .inr (9, [.ref h3, x4, x5, x6, x7, x8, x9])), (h3, .inr (2, [x10, x11, x12, .int 0]))]) (va_Qi (fun (r : Int32) (_ : Unit) => r = 1 ∧ True) (fun (_ : Unit) (_ : State) => True) (fun _ : Nat => False)) 1 6 (fun _ : Nat => False) := by
  refine va_MetW (cc := cL_costOf) (maxL := 5) (ret := (some .int)) (by decide) rfl ?_
  intro p e s m args below meth c s₁ B hml hv
  obtain ⟨rfl, hP, hK, hE⟩ := hv
  have hx := B.exec
  have hb := B.bytes
  have hr := B.returns
  have hts := atoms_spec (ws := wsL_costOf) B.pre
  have hown : s.vm.findClass RL = some m.cls := findClass_of_methodNamed B.named
  have hlocks := B.notSynchronized
  have htb := vx_table (x := yL_costOf) B (hts _ (List.mem_cons_self))
  have hS : va_S (fun _ : Nat => False) s.heap s.heap [] := va_S.rf
  have hP : va_P D vwCl [(h1, .inr (9, [.ref h3, x4, x5, x6, x7, x8, x9])), (h3, .inr (2, [x10, x11, x12, .int 0]))] s.heap := hP
  have hl := lv_entry ([.ref h1, .int p1, .int p2, .ref h2]) (n := 5) (Nat.le_of_ble_eq_true rfl)
  rw [lg_entry_eq]
  generalize (lg_sl ([.ref h1, .int p1, .int p2, .ref h2]) ++ List.replicate (5 - (lg_sl ([.ref h1, .int p1, .int p2, .ref h2])).length) Slot.unset).toArray = ls at hl ⊢
  have hl : lv_has ls 5 [(0, .ref h1), (1, .int p1), (2, .int p2), (3, .ref h2)] := hl
  refine lv_aload_n hx hb dL_costOf_0 rfl (lv_at hl 3 rfl) ?_
  refine lv_iconst (v := 0) hx hb dL_costOf_1 (by decide) ?_
  refine lv_aload_n hx hb dL_costOf_2 rfl (lv_at hl 0 rfl) ?_
  refine lv_iload_n hx hb dL_costOf_3 rfl (lv_at hl 1 rfl) ?_
  refine lv_iload_n hx hb dL_costOf_4 rfl (lv_at hl 2 rfl) ?_
  have hPc := hP.sub (ws' := [(h1, .inr (9, [.ref h3, x4, x5, x6, x7, x8, x9])), (h3, .inr (2, [x10, x11, x12, .int 0]))]) [0, 1] rfl
  refine vx_calli (vx_runV (As := [.int p1, .int p2]) (rest := [.int 0, .ref h2]) ⟨hx, hb, hml, hown, hts⟩ (k_X7_costOf l hl9 D cy h1 p1 p2 h3 (x4) (x5) (x6) (x7) (x8) (x9) (x10) (x11) (x12)) (cwV 2 hts gL_costOf_X7_costOf rfl rfl rfl (by decide +kernel) ⟨(Nat.le_of_ble_eq_true rfl), (Nat.le_of_ble_eq_true rfl)⟩) ⟨kRX_fb, va_recv hK hP (ci := 9) (q0 := 0) rfl rfl, (kRX_go hPc hK hE hS)⟩ rfl rfl hl.1 rfl (lv_room (Nat.le_of_ble_eq_true rfl)) dL_costOf_5 ⟨(Nat.le_of_ble_eq_true rfl), (Nat.le_of_ble_eq_true rfl)⟩) hS (fun _ _ h => h.elim) (fun _ h => h.elim) (fun _ _ h => h.elim) (fun E9 ce9 q9 u t H locs ht hvm hw hB hz1 hk1 hS hce hcv hcl => ?_) (fun r9 u t H locs ht hvm hw hB hz1 hk1 hS => ?_)
  · obtain ⟨rfl, hB⟩ := hB
    have f_1 : True := hB
    have hP := kx_kept hP hk1
    refine vx_catch (E := "java/lang/IndexOutOfBoundsException") (name := "java/lang/IndexOutOfBoundsException") hown [] (⟨0, 10, 13, 28⟩ : ExceptionTableEntry) [] htb (fun _ h => absurd h List.not_mem_nil) rfl (by decide) (hts (.classLink RL 28 "java/lang/IndexOutOfBoundsException") (List.mem_cons_of_mem _ (List.mem_append_left _ (List.mem_append_left _ (List.mem_append_left _ (List.mem_append_left _ (List.mem_append_left _ (List.mem_append_left _ (List.mem_append_left _ (List.mem_append_left _ (List.mem_of_getElem? (i := 0) rfl))))))))))) (exP.cast hE "java/lang/IndexOutOfBoundsException" (by decide +kernel)) hce hcv hcl ?_
    refine lv_astore (lv' := [(4, .ref q9), (0, .ref h1), (1, .int p1), (2, .int p2), (3, .ref h2)]) hx hb dL_costOf_13 hl (by decide) rfl (fun ls hl => ?_)
    refine lv_iconst (v := 1) hx hb dL_costOf_15 (by decide) ?_
    refine W.widen (k := 1) (n := 6) (Nat.le_of_ble_eq_true rfl) (Nat.le_of_ble_eq_true rfl) ?_
    exact W.iret (v := 1) hx hb hr (fun t ht hW => ⟨⟨1, (), rfl, ⟨rfl, trivial⟩, trivial⟩, hS.F ht⟩) hS.2.2 dL_costOf_16
  · exact (show False from hw).elim
theorem dX8_costOf_0 : decode cX8_costOf 0 = .ok (.aload_n 0, 1) := by decide +kernel
theorem dX8_costOf_1 : decode cX8_costOf 1 = .ok (.aload_n 0, 1) := by decide +kernel
theorem dX8_costOf_2 : decode cX8_costOf 2 = .ok (.iload_n 1, 1) := by decide +kernel
theorem dX8_costOf_3 : decode cX8_costOf 3 = .ok (.iload_n 2, 1) := by decide +kernel
theorem dX8_costOf_4 : decode cX8_costOf 4 = .ok (.invokevirtual 142, 3) := by decide +kernel
set_option maxRecDepth 20000 in
theorem ggX8_costOf_X8_isNoWay : GoodIn wsX8_costOf wsX8_isNoWay := goodIn_ca (goodIn_r _ [6, 7, 8, 9, 10, 5, 11, 12, 13, 14, 15, 50, 51, 52, 53, 54, 55, 56, 57, 58, 59, 60, 61, 62, 63, 64, 65, 66, 67] (by decide +kernel) (by decide +kernel)) (goodIn_sub (fun _ h => List.mem_cons_of_mem _ (List.mem_append_left _ (List.mem_append_right _ h))) (by decide +kernel))
set_option maxRecDepth 20000 in
theorem gX8_costOf_X8_isNoWay : GoodIn wsX8_costOf (wsV RX8 142 RX8 yX8_isNoWay wsX8_isNoWay) := goodIn_app (goodIn_of _ (by decide +kernel)) ggX8_costOf_X8_isNoWay
theorem dX8_costOf_7 : decode cX8_costOf 7 = .ok (.iconst 1, 1) := by decide +kernel
theorem dX8_costOf_8 : decode cX8_costOf 8 = .ok (.invokevirtual 73, 3) := by decide +kernel
set_option maxRecDepth 20000 in
theorem ggX8_costOf_X8_isThrown : GoodIn wsX8_costOf wsX8_isThrown := goodIn_r _ [19, 20, 50, 51, 52, 53, 54, 55, 56, 57, 58, 59, 60, 61, 62, 63, 64, 65, 66, 67] (by decide +kernel) (by decide +kernel)
set_option maxRecDepth 20000 in
theorem gX8_costOf_X8_isThrown : GoodIn wsX8_costOf (wsV RX8 73 RX8 yX8_isThrown wsX8_isThrown) := goodIn_app (goodIn_of _ (by decide +kernel)) ggX8_costOf_X8_isThrown
theorem dX8_costOf_11 : decode cX8_costOf 11 = .ok (.ifCond .eq 7, 3) := by decide +kernel
theorem dX8_costOf_14 : decode cX8_costOf 14 = .ok (.iconst 0, 1) := by decide +kernel
theorem dX8_costOf_15 : decode cX8_costOf 15 = .ok (.goto 17, 3) := by decide +kernel
theorem dX8_costOf_32 : decode cX8_costOf 32 = .ok (.ireturn, 1) := by decide +kernel
set_option maxHeartbeats 4000000 in
set_option maxRecDepth 100000 in
theorem k_X8_costOf (l : Launch) (D : va_G) (cy : Nat → ClassId) (h1 : Nat) (p0 : Int32) (p1 : Int32) (x2 : Value) (x3 : Value) (x4 : Value) (x5 : Value) (x6 : Value) (x7 : Value) (x8 : Value) (x9 : Value) (x10 : Value) (x11 : Value) (x12 : Value) (x13 : Value) (x14 : Value) (x15 : Value) (x16 : Value) (x17 : Value) (x18 : Value) (sz : Nat) : Met l yX8_costOf wsX8_costOf ({ frames := 3, cells := 0, slots := 0, locals := 65 }) (kW D cy [.ref h1, .int p0, .int p1] [(h1, .inr (10, [x2, x3, x4, x5, x6, x7, x8, x9, x10, x11, x12, x13, x14, x15, x16, .int 0, x17, x18]))] sz) (va_Qi (fun (r : Int32) (_ : Unit) => r = 0 ∧ True) (fun (_ : Unit) (t : State) => va_P D vwCl [(h1, .inr (10, [x2, x3, x4, x5, x6, x7, x8, x9, x10, x11, x12, x13, x14, x15, x16, .int 0, x17, .int 1]))] t.heap ∧ va_D (va_A [(h1, .inr (10, [x2, x3, x4, x5, x6, x7, x8, x9, x10, x11, x12, x13, x14, x15, x16, .int 0, x17, x18]))] sz) [(h1, .inr (10, [x2, x3, x4, x5, x6, x7, x8, x9, x10, x11, x12, x13, x14, x15, x16, .int 0, x17, .int 1]))]) (va_A [(h1, .inr (10, [x2, x3, x4, x5, x6, x7, x8, x9, x10, x11, x12, x13, x14, x15, x16, .int 0, x17, x18]))] sz)) 0 0 (va_A [(h1, .inr (10, [x2, x3, x4, x5, x6, x7, x8, x9, x10, x11, x12, x13, x14, x15, x16, .int 0, x17, x18]))] sz) := by
  refine Met.ofW (cc := cX8_costOf) (maxL := 3) (ret := (some .int)) (by decide) rfl ?_
  intro p e s m args below meth c s₁ B hml hv
  obtain ⟨rfl, hsz, hP, hK, hD0⟩ := hv
  have hx := B.exec
  have hb := B.bytes
  have hr := B.returns
  have hts := atoms_spec (ws := wsX8_costOf) B.pre
  have hown : s.vm.findClass RX8 = some m.cls := findClass_of_methodNamed B.named
  have hlocks := B.notSynchronized
  subst hsz
  have hD := hD0.self (sz := s.heap.size)
  generalize hAe : va_A [(h1, .inr (10, [x2, x3, x4, x5, x6, x7, x8, x9, x10, x11, x12, x13, x14, x15, x16, .int 0, x17, x18]))] s.heap.size = A at hD ⊢
  have hA : ∀ q : Nat, s.heap.size ≤ q → A q := fun q h => by rw [← hAe]; exact Or.inr h
  have hS : va_S A s.heap s.heap [] := va_S.rf
  have hP : va_P D vwCl [(h1, .inr (10, [x2, x3, x4, x5, x6, x7, x8, x9, x10, x11, x12, x13, x14, x15, x16, .int 0, x17, x18]))] s.heap := hP
  have hl := lv_entry ([.ref h1, .int p0, .int p1]) (n := 3) (Nat.le_of_ble_eq_true rfl)
  rw [lg_entry_eq]
  generalize (lg_sl ([.ref h1, .int p0, .int p1]) ++ List.replicate (3 - (lg_sl ([.ref h1, .int p0, .int p1])).length) Slot.unset).toArray = ls at hl ⊢
  have hl : lv_has ls 3 [(0, .ref h1), (1, .int p0), (2, .int p1)] := hl
  refine lv_aload_n hx hb dX8_costOf_0 rfl (lv_at hl 0 rfl) ?_
  refine lv_aload_n hx hb dX8_costOf_1 rfl (lv_at hl 0 rfl) ?_
  refine lv_iload_n hx hb dX8_costOf_2 rfl (lv_at hl 1 rfl) ?_
  refine lv_iload_n hx hb dX8_costOf_3 rfl (lv_at hl 2 rfl) ?_
  have hPc := hP.sub (ws' := [(h1, .inr (10, [x2, x3, x4, x5, x6, x7, x8, x9, x10, x11, x12, x13, x14, x15, x16, .int 0, x17, x18]))]) [0] rfl
  refine va_calli (va_runV (As := [.int p0, .int p1]) (rest := [.ref h1]) ⟨hx, hb, hml, hown, hts⟩ (k_X8_isNoWay l D cy h1 p0 p1 (x2) (x3) (x4) (x5) (x6) (x7) (x8) (x9) (x10) (x11) (x12) (x13) (x14) (x15) (x16) (x17) (x18)) (cwV 2 hts gX8_costOf_X8_isNoWay rfl rfl rfl (by decide +kernel) ⟨(Nat.le_of_ble_eq_true rfl), (Nat.le_of_ble_eq_true rfl)⟩) ⟨kR_fb, va_recv hK hP (ci := 10) (q0 := 0) rfl rfl, (kR_go hPc hK)⟩ rfl rfl hl.1 rfl (lv_room (Nat.le_of_ble_eq_true rfl)) dX8_costOf_4 ⟨(Nat.le_of_ble_eq_true rfl), (Nat.le_of_ble_eq_true rfl)⟩) hS (fun _ _ h => h.elim) (fun _ h => h.elim) (fun r9 u t H locs ht hvm hw hB hz1 hk1 hS => ?_)
  have hP := kx_kept hP hk1
  obtain ⟨rfl, hw⟩ := hw
  refine lv_iconst (v := 1) hx hb dX8_costOf_7 (by decide) ?_
  have hPc := hP.sub (ws' := [(h1, .inr (10, [x2, x3, x4, x5, x6, x7, x8, x9, x10, x11, x12, x13, x14, x15, x16, .int 0, x17, x18]))]) [0] rfl
  have hDc := hD.sub (ws' := [(h1, .inr (10, [x2, x3, x4, x5, x6, x7, x8, x9, x10, x11, x12, x13, x14, x15, x16, .int 0, x17, x18]))]) [0] (by decide) rfl
  have hFc := va_free (wc := [(h1, .inr (10, [x2, x3, x4, x5, x6, x7, x8, x9, x10, x11, x12, x13, x14, x15, x16, .int 0, x17, x18]))]) hD hS hA [0] rfl
  refine va_calli (va_runV (As := [.int 1, .int 1]) (rest := []) ⟨hx, hb, hml, hown, hts⟩ (k_X8_isThrown l D cy h1 (x2) (x3) (x4) (x5) (x6) (x7) (x8) (x9) (x10) (x11) (x12) (x13) (x14) (x15) (x16) (.int 0) (x17) (x18) H.size) (cwV 2 hts gX8_costOf_X8_isThrown rfl rfl rfl (by decide +kernel) ⟨(Nat.le_of_ble_eq_true rfl), (Nat.le_of_ble_eq_true rfl)⟩) ⟨kW_fb, va_recv hK hP (ci := 10) (q0 := 0) rfl rfl, (kW_go hPc hK hDc)⟩ rfl rfl hl.1 rfl (lv_room (Nat.le_of_ble_eq_true rfl)) dX8_costOf_8 ⟨(Nat.le_of_ble_eq_true rfl), (Nat.le_of_ble_eq_true rfl)⟩) hS (fun q _ h => hFc q h) hFc (fun r9 u t H locs ht hvm hw hB hz1 hk1 hS => ?_)
  obtain ⟨hP1, hD1⟩ := hB
  rw [ht] at hP1
  try dsimp only at hw hP1 hD1
  obtain ⟨hP, hD⟩ := va_join (wr := []) (w1 := [(h1, .inr (10, [x2, x3, x4, x5, x6, x7, x8, x9, x10, x11, x12, x13, x14, x15, x16, .int 0, x17, .int 1]))]) hP hD [0] [] rfl rfl (by decide) (by decide) hk1 hFc hP1 hD1
  have hP : va_P D vwCl [(h1, .inr (10, [x2, x3, x4, x5, x6, x7, x8, x9, x10, x11, x12, x13, x14, x15, x16, .int 0, x17, .int 1]))] H := hP
  have hD : va_D A [(h1, .inr (10, [x2, x3, x4, x5, x6, x7, x8, x9, x10, x11, x12, x13, x14, x15, x16, .int 0, x17, .int 1]))] := hD
  obtain ⟨rfl, hw⟩ := hw
  refine lv_if_eq (tgt := 18) hx hb dX8_costOf_11 (by decide) (fun h => absurd h (by decide)) (fun _ => ?_)
  refine lv_iconst (v := 0) hx hb dX8_costOf_14 (by decide) ?_
  refine lv_goto (tgt := 32) hx hb dX8_costOf_15 (by decide) ?_
  refine W.widen (k := 0) (n := 0) (Nat.le_of_ble_eq_true rfl) (Nat.le_of_ble_eq_true rfl) ?_
  have hP9 := hP.sub (ws' := [(h1, .inr (10, [x2, x3, x4, x5, x6, x7, x8, x9, x10, x11, x12, x13, x14, x15, x16, .int 0, x17, .int 1]))]) [0] rfl
  have hD9 := hD.sub (ws' := [(h1, .inr (10, [x2, x3, x4, x5, x6, x7, x8, x9, x10, x11, x12, x13, x14, x15, x16, .int 0, x17, .int 1]))]) [0] (by decide) rfl
  exact W.iret (v := 0) hx hb hr (fun t ht hW => ⟨⟨0, (), rfl, ⟨rfl, trivial⟩, ⟨by rw [ht]; exact hP9, hD9⟩⟩, hS.F ht⟩) hS.2.2 dX8_costOf_32
