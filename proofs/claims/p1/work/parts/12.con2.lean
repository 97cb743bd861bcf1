theorem dX8_addResource_0 : decode cX8_addResource 0 = .ok (.aload_n 0, 1) := by decide +kernel
theorem dX8_addResource_1 : decode cX8_addResource 1 = .ok (.iload_n 1, 1) := by decide +kernel
theorem dX8_addResource_2 : decode cX8_addResource 2 = .ok (.iload_n 2, 1) := by decide +kernel
theorem dX8_addResource_3 : decode cX8_addResource 3 = .ok (.iload_n 3, 1) := by decide +kernel
theorem dX8_addResource_4 : decode cX8_addResource 4 = .ok (.invokestatic 69, 3) := by decide +kernel
set_option maxRecDepth 20000 in
theorem ggX8_addResource_X8_isNoResource : GoodIn wsX8_addResource wsX8_isNoResource := goodIn_r _ [5, 6, 7, 4, 8] (by decide +kernel) (by decide +kernel)
set_option maxRecDepth 20000 in
theorem gX8_addResource_X8_isNoResource : GoodIn wsX8_addResource (va_wsS RX8 69 yX8_isNoResource wsX8_isNoResource) := goodIn_app (goodIn_of _ (by decide +kernel)) ggX8_addResource_X8_isNoResource
theorem dX8_addResource_7 : decode cX8_addResource 7 = .ok (.iconst 1, 1) := by decide +kernel
theorem dX8_addResource_8 : decode cX8_addResource 8 = .ok (.invokevirtual 73, 3) := by decide +kernel
set_option maxRecDepth 20000 in
theorem ggX8_addResource_X8_isThrown : GoodIn wsX8_addResource wsX8_isThrown := goodIn_r _ [12, 13, 23, 24, 25, 26, 27, 28, 29, 30, 31, 32, 33, 34, 35, 36, 37, 38, 39, 40] (by decide +kernel) (by decide +kernel)
set_option maxRecDepth 20000 in
theorem gX8_addResource_X8_isThrown : GoodIn wsX8_addResource (wsV RX8 73 RX8 yX8_isThrown wsX8_isThrown) := goodIn_app (goodIn_of _ (by decide +kernel)) ggX8_addResource_X8_isThrown
theorem dX8_addResource_11 : decode cX8_addResource 11 = .ok (.ifCond .ne 25, 3) := by decide +kernel
theorem dX8_addResource_36 : decode cX8_addResource 36 = .ok (.iconst 0, 1) := by decide +kernel
theorem dX8_addResource_37 : decode cX8_addResource 37 = .ok (.goto 12, 3) := by decide +kernel
theorem dX8_addResource_49 : decode cX8_addResource 49 = .ok (.ireturn, 1) := by decide +kernel
theorem dX8_addResource_14 : decode cX8_addResource 14 = .ok (.aload_n 0, 1) := by decide +kernel
theorem dX8_addResource_15 : decode cX8_addResource 15 = .ok (.aload_n 0, 1) := by decide +kernel
theorem dX8_addResource_16 : decode cX8_addResource 16 = .ok (.getfield 62, 3) := by decide +kernel
theorem dX8_addResource_19 : decode cX8_addResource 19 = .ok (.bipush 8, 2) := by decide +kernel
theorem dX8_addResource_21 : decode cX8_addResource 21 = .ok (.if_icmp .ne 7, 3) := by decide +kernel
theorem dX8_addResource_28 : decode cX8_addResource 28 = .ok (.iconst 0, 1) := by decide +kernel
theorem dX8_addResource_29 : decode cX8_addResource 29 = .ok (.iconst 2, 1) := by decide +kernel
theorem dX8_addResource_30 : decode cX8_addResource 30 = .ok (.invokevirtual 73, 3) := by decide +kernel
theorem dX8_addResource_33 : decode cX8_addResource 33 = .ok (.ifCond .eq 7, 3) := by decide +kernel
theorem dX8_addResource_40 : decode cX8_addResource 40 = .ok (.aload_n 0, 1) := by decide +kernel
theorem dX8_addResource_41 : decode cX8_addResource 41 = .ok (.iload_n 1, 1) := by decide +kernel
theorem dX8_addResource_42 : decode cX8_addResource 42 = .ok (.iload_n 2, 1) := by decide +kernel
theorem dX8_addResource_43 : decode cX8_addResource 43 = .ok (.iload_n 3, 1) := by decide +kernel
theorem dX8_addResource_44 : decode cX8_addResource 44 = .ok (.iconst (-1), 1) := by decide +kernel
theorem dX8_addResource_45 : decode cX8_addResource 45 = .ok (.iconst (-1), 1) := by decide +kernel
theorem dX8_addResource_46 : decode cX8_addResource 46 = .ok (.invokevirtual 77, 3) := by decide +kernel
set_option maxRecDepth 20000 in
theorem ggX8_addResource_X8_adds : GoodIn wsX8_addResource wsX8_adds := goodIn_ca (goodIn_r _ [17, 18, 1, 19, 20, 21, 22, 23, 24, 25, 26, 27, 28, 29, 30, 31, 32, 33, 34, 35, 36, 37, 38, 39, 40] (by decide +kernel) (by decide +kernel)) (goodIn_sub (fun _ h => List.mem_cons_of_mem _ (List.mem_append_right _ h)) (by decide +kernel))
set_option maxRecDepth 20000 in
theorem gX8_addResource_X8_adds : GoodIn wsX8_addResource (wsV RX8 77 RX8 yX8_adds wsX8_adds) := goodIn_app (goodIn_of _ (by decide +kernel)) ggX8_addResource_X8_adds
set_option maxHeartbeats 4000000 in
set_option maxRecDepth 100000 in
theorem k_X8_addResource (l : Launch) (D : va_G) (cy : Nat → ClassId) (h1 : Nat) (p0 : Int32) (p1 : Int32) (p2 : Int32) (h2 : Nat) (h3 : Nat) (h4 : Nat) (h5 : Nat) (h6 : Nat) (x7 : Value) (x8 : Value) (x9 : Value) (x10 : Value) (x11 : Value) (x12 : Value) (x13 : Value) (x14 : Value) (x15 : Value) (x16 : Value) (x17 : Value) (x18 : Value) (g19 : Nat → Int32) (g20 : Nat → Int32) (g21 : Nat → Int32) (g22 : Nat → Int32) (g23 : Nat → Int32) (sz : Nat) : Met l yX8_addResource wsX8_addResource ({ frames := 2, cells := 0, slots := 0, locals := 44 }) (kW D cy [.ref h1, .int p0, .int p1, .int p2] [(h1, .inr (10, [.ref h2, .ref h3, .ref h4, .ref h5, .ref h6, x7, x8, x9, x10, x11, x12, x13, x14, x15, .int 0, x16, x17, x18])), (h2, .inl (cy 0, 8, .inl g19)), (h3, .inl (cy 1, 8, .inl g20)), (h4, .inl (cy 1, 8, .inl g21)), (h5, .inl (cy 1, 8, .inl g22)), (h6, .inl (cy 1, 8, .inl g23))] sz) (va_Qi (fun (r : Int32) (u : Int32 × Int32 × (Nat → Int32) × (Nat → Int32) × (Nat → Int32) × (Nat → Int32) × (Nat → Int32)) => match u with | (y1, y2, u3, u4, u5, u6, u7) => ((r = 0 ∧ (y1 = 0) ∧ (y2 = 1) ∧ ¬ (((p0.toInt = (99 : Int) ∨ p0.toInt = (108 : Int) ∨ p0.toInt = (113 : Int) ∨ p0.toInt = (115 : Int)) ∧ ((0 : Int) ≤ p1.toInt ∧ p1.toInt ≤ (20 : Int)) ∧ ((0 : Int) ≤ p2.toInt ∧ p2.toInt ≤ (999 : Int))))) ∨ (r = 0 ∧ (y1 = 1) ∧ (y2 = 0) ∧ (u6 0 = (-1)) ∧ (u7 0 = (-1)) ∧ ((p0.toInt = (99 : Int) ∨ p0.toInt = (108 : Int) ∨ p0.toInt = (113 : Int) ∨ p0.toInt = (115 : Int)) ∧ ((0 : Int) ≤ p1.toInt ∧ p1.toInt ≤ (20 : Int)) ∧ ((0 : Int) ≤ p2.toInt ∧ p2.toInt ≤ (999 : Int)))))) (fun (u : Int32 × Int32 × (Nat → Int32) × (Nat → Int32) × (Nat → Int32) × (Nat → Int32) × (Nat → Int32)) (t : State) => match u with | (y1, y2, u3, u4, u5, u6, u7) => va_P D vwCl [(h1, .inr (10, [.ref h2, .ref h3, .ref h4, .ref h5, .ref h6, x7, x8, x9, x10, x11, x12, x13, x14, x15, .int y1, x16, x17, .int y2])), (h2, .inl (cy 0, 8, .inl u3)), (h3, .inl (cy 1, 8, .inl u4)), (h4, .inl (cy 1, 8, .inl u5)), (h5, .inl (cy 1, 8, .inl u6)), (h6, .inl (cy 1, 8, .inl u7))] t.heap ∧ va_D (va_A [(h1, .inr (10, [.ref h2, .ref h3, .ref h4, .ref h5, .ref h6, x7, x8, x9, x10, x11, x12, x13, x14, x15, .int 0, x16, x17, x18])), (h2, .inl (cy 0, 8, .inl g19)), (h3, .inl (cy 1, 8, .inl g20)), (h4, .inl (cy 1, 8, .inl g21)), (h5, .inl (cy 1, 8, .inl g22)), (h6, .inl (cy 1, 8, .inl g23))] sz) [(h1, .inr (10, [.ref h2, .ref h3, .ref h4, .ref h5, .ref h6, x7, x8, x9, x10, x11, x12, x13, x14, x15, .int y1, x16, x17, .int y2])), (h2, .inl (cy 0, 8, .inl u3)), (h3, .inl (cy 1, 8, .inl u4)), (h4, .inl (cy 1, 8, .inl u5)), (h5, .inl (cy 1, 8, .inl u6)), (h6, .inl (cy 1, 8, .inl u7))]) (va_A [(h1, .inr (10, [.ref h2, .ref h3, .ref h4, .ref h5, .ref h6, x7, x8, x9, x10, x11, x12, x13, x14, x15, .int 0, x16, x17, x18])), (h2, .inl (cy 0, 8, .inl g19)), (h3, .inl (cy 1, 8, .inl g20)), (h4, .inl (cy 1, 8, .inl g21)), (h5, .inl (cy 1, 8, .inl g22)), (h6, .inl (cy 1, 8, .inl g23))] sz)) 0 0 (va_A [(h1, .inr (10, [.ref h2, .ref h3, .ref h4, .ref h5, .ref h6, x7, x8, x9, x10, x11, x12, x13, x14, x15, .int 0, x16, x17, x18])), (h2, .inl (cy 0, 8, .inl g19)), (h3, .inl (cy 1, 8, .inl g20)), (h4, .inl (cy 1, 8, .inl g21)), (h5, .inl (cy 1, 8, .inl g22)), (h6, .inl (cy 1, 8, .inl g23))] sz) := by
  refine Met.ofW (cc := cX8_addResource) (maxL := 4) (ret := (some .int)) (by decide) rfl ?_
  intro p e s m args below meth c s₁ B hml hv
  obtain ⟨rfl, hsz, hP, hK, hD0⟩ := hv
  have hx := B.exec
  have hb := B.bytes
  have hr := B.returns
  have hts := atoms_spec (ws := wsX8_addResource) B.pre
  have hown : s.vm.findClass RX8 = some m.cls := findClass_of_methodNamed B.named
  have hlocks := B.notSynchronized
  subst hsz
  have hD := hD0.self (sz := s.heap.size)
  generalize hAe : va_A [(h1, .inr (10, [.ref h2, .ref h3, .ref h4, .ref h5, .ref h6, x7, x8, x9, x10, x11, x12, x13, x14, x15, .int 0, x16, x17, x18])), (h2, .inl (cy 0, 8, .inl g19)), (h3, .inl (cy 1, 8, .inl g20)), (h4, .inl (cy 1, 8, .inl g21)), (h5, .inl (cy 1, 8, .inl g22)), (h6, .inl (cy 1, 8, .inl g23))] s.heap.size = A at hD ⊢
  have hA : ∀ q : Nat, s.heap.size ≤ q → A q := fun q h => by rw [← hAe]; exact Or.inr h
  have hS : va_S A s.heap s.heap [] := va_S.rf
  have hP : va_P D vwCl [(h1, .inr (10, [.ref h2, .ref h3, .ref h4, .ref h5, .ref h6, x7, x8, x9, x10, x11, x12, x13, x14, x15, .int 0, x16, x17, x18])), (h2, .inl (cy 0, 8, .inl g19)), (h3, .inl (cy 1, 8, .inl g20)), (h4, .inl (cy 1, 8, .inl g21)), (h5, .inl (cy 1, 8, .inl g22)), (h6, .inl (cy 1, 8, .inl g23))] s.heap := hP
  have hl := lv_entry ([.ref h1, .int p0, .int p1, .int p2]) (n := 4) (Nat.le_of_ble_eq_true rfl)
  rw [lg_entry_eq]
  generalize (lg_sl ([.ref h1, .int p0, .int p1, .int p2]) ++ List.replicate (4 - (lg_sl ([.ref h1, .int p0, .int p1, .int p2])).length) Slot.unset).toArray = ls at hl ⊢
  have hl : lv_has ls 4 [(0, .ref h1), (1, .int p0), (2, .int p1), (3, .int p2)] := hl
  refine lv_aload_n hx hb dX8_addResource_0 rfl (lv_at hl 0 rfl) ?_
  refine lv_iload_n hx hb dX8_addResource_1 rfl (lv_at hl 1 rfl) ?_
  refine lv_iload_n hx hb dX8_addResource_2 rfl (lv_at hl 2 rfl) ?_
  refine lv_iload_n hx hb dX8_addResource_3 rfl (lv_at hl 3 rfl) ?_
  have hPc := hP.sub (ws' := []) [] rfl
  refine va_calli (va_runS (As := [.int p0, .int p1, .int p2]) (rest := [.ref h1]) ⟨hx, hb, hml, hown, hts⟩ (k_X8_isNoResource l D cy p0 p1 p2) (va_cwS 3 hts gX8_addResource_X8_isNoResource rfl rfl rfl (by decide +kernel) ⟨(Nat.le_of_ble_eq_true rfl), (Nat.le_of_ble_eq_true rfl)⟩) ⟨kR_fb, (kR_go hPc hK)⟩ rfl rfl hl.1 rfl (lv_room (Nat.le_of_ble_eq_true rfl)) dX8_addResource_4 ⟨(Nat.le_of_ble_eq_true rfl), (Nat.le_of_ble_eq_true rfl)⟩) hS (fun _ _ h => h.elim) (fun _ h => h.elim) (fun r9 u t H locs ht hvm hw hB hz1 hk1 hS => ?_)
  have hP := kx_kept hP hk1
  rcases hw with ⟨rfl, hw⟩ | ⟨rfl, hw⟩
  · have f_1 : ¬ (((p0.toInt = (99 : Int) ∨ p0.toInt = (108 : Int) ∨ p0.toInt = (113 : Int) ∨ p0.toInt = (115 : Int)) ∧ ((0 : Int) ≤ p1.toInt ∧ p1.toInt ≤ (20 : Int)) ∧ ((0 : Int) ≤ p2.toInt ∧ p2.toInt ≤ (999 : Int)))) := hw
    refine lv_iconst (v := 1) hx hb dX8_addResource_7 (by decide) ?_
    have hPc := hP.sub (ws' := [(h1, .inr (10, [.ref h2, .ref h3, .ref h4, .ref h5, .ref h6, x7, x8, x9, x10, x11, x12, x13, x14, x15, .int 0, x16, x17, x18]))]) [0] rfl
    have hDc := hD.sub (ws' := [(h1, .inr (10, [.ref h2, .ref h3, .ref h4, .ref h5, .ref h6, x7, x8, x9, x10, x11, x12, x13, x14, x15, .int 0, x16, x17, x18]))]) [0] (by decide) rfl
    have hFc := va_free (wc := [(h1, .inr (10, [.ref h2, .ref h3, .ref h4, .ref h5, .ref h6, x7, x8, x9, x10, x11, x12, x13, x14, x15, .int 0, x16, x17, x18]))]) hD hS hA [0] rfl
    refine va_calli (va_runV (As := [.int 1, .int 1]) (rest := []) ⟨hx, hb, hml, hown, hts⟩ (k_X8_isThrown l D cy h1 (.ref h2) (.ref h3) (.ref h4) (.ref h5) (.ref h6) (x7) (x8) (x9) (x10) (x11) (x12) (x13) (x14) (x15) (.int 0) (x16) (x17) (x18) H.size) (cwV 2 hts gX8_addResource_X8_isThrown rfl rfl rfl (by decide +kernel) ⟨(Nat.le_of_ble_eq_true rfl), (Nat.le_of_ble_eq_true rfl)⟩) ⟨kW_fb, va_recv hK hP (ci := 10) (q0 := 0) rfl rfl, (kW_go hPc hK hDc)⟩ rfl rfl hl.1 rfl (lv_room (Nat.le_of_ble_eq_true rfl)) dX8_addResource_8 ⟨(Nat.le_of_ble_eq_true rfl), (Nat.le_of_ble_eq_true rfl)⟩) hS (fun q _ h => hFc q h) hFc (fun r9 u t H locs ht hvm hw hB hz1 hk1 hS => ?_)
    obtain ⟨hP1, hD1⟩ := hB
    rw [ht] at hP1
    try dsimp only at hw hP1 hD1
    obtain ⟨hP, hD⟩ := va_join (wr := [(h2, .inl (cy 0, 8, .inl g19)), (h3, .inl (cy 1, 8, .inl g20)), (h4, .inl (cy 1, 8, .inl g21)), (h5, .inl (cy 1, 8, .inl g22)), (h6, .inl (cy 1, 8, .inl g23))]) (w1 := [(h1, .inr (10, [.ref h2, .ref h3, .ref h4, .ref h5, .ref h6, x7, x8, x9, x10, x11, x12, x13, x14, x15, .int 0, x16, x17, .int 1]))]) hP hD [0] [1, 2, 3, 4, 5] rfl rfl (by decide) (by decide) hk1 hFc hP1 hD1
    have hP : va_P D vwCl [(h2, .inl (cy 0, 8, .inl g19)), (h3, .inl (cy 1, 8, .inl g20)), (h4, .inl (cy 1, 8, .inl g21)), (h5, .inl (cy 1, 8, .inl g22)), (h6, .inl (cy 1, 8, .inl g23)), (h1, .inr (10, [.ref h2, .ref h3, .ref h4, .ref h5, .ref h6, x7, x8, x9, x10, x11, x12, x13, x14, x15, .int 0, x16, x17, .int 1]))] H := hP
    have hD : va_D A [(h2, .inl (cy 0, 8, .inl g19)), (h3, .inl (cy 1, 8, .inl g20)), (h4, .inl (cy 1, 8, .inl g21)), (h5, .inl (cy 1, 8, .inl g22)), (h6, .inl (cy 1, 8, .inl g23)), (h1, .inr (10, [.ref h2, .ref h3, .ref h4, .ref h5, .ref h6, x7, x8, x9, x10, x11, x12, x13, x14, x15, .int 0, x16, x17, .int 1]))] := hD
    obtain ⟨rfl, hw⟩ := hw
    refine lv_if_ne (tgt := 36) hx hb dX8_addResource_11 (by decide) (fun _ => ?_) (fun h => absurd h (by decide))
    refine lv_iconst (v := 0) hx hb dX8_addResource_36 (by decide) ?_
    refine lv_goto (tgt := 49) hx hb dX8_addResource_37 (by decide) ?_
    refine W.widen (k := 0) (n := 0) (Nat.le_of_ble_eq_true rfl) (Nat.le_of_ble_eq_true rfl) ?_
    have hP9 := hP.sub (ws' := [(h1, .inr (10, [.ref h2, .ref h3, .ref h4, .ref h5, .ref h6, x7, x8, x9, x10, x11, x12, x13, x14, x15, .int 0, x16, x17, .int 1])), (h2, .inl (cy 0, 8, .inl g19)), (h3, .inl (cy 1, 8, .inl g20)), (h4, .inl (cy 1, 8, .inl g21)), (h5, .inl (cy 1, 8, .inl g22)), (h6, .inl (cy 1, 8, .inl g23))]) [5, 0, 1, 2, 3, 4] rfl
    have hD9 := hD.sub (ws' := [(h1, .inr (10, [.ref h2, .ref h3, .ref h4, .ref h5, .ref h6, x7, x8, x9, x10, x11, x12, x13, x14, x15, .int 0, x16, x17, .int 1])), (h2, .inl (cy 0, 8, .inl g19)), (h3, .inl (cy 1, 8, .inl g20)), (h4, .inl (cy 1, 8, .inl g21)), (h5, .inl (cy 1, 8, .inl g22)), (h6, .inl (cy 1, 8, .inl g23))]) [5, 0, 1, 2, 3, 4] (by decide) rfl
    exact W.iret (v := 0) hx hb hr (fun t ht hW => ⟨⟨0, (0, 1, g19, g20, g21, g22, g23), rfl, Or.inl (⟨rfl, rfl, rfl, (by omega)⟩), ⟨by rw [ht]; exact hP9, hD9⟩⟩, hS.F ht⟩) hS.2.2 dX8_addResource_49
  · have f_3 : ((p0.toInt = (99 : Int) ∨ p0.toInt = (108 : Int) ∨ p0.toInt = (113 : Int) ∨ p0.toInt = (115 : Int)) ∧ ((0 : Int) ≤ p1.toInt ∧ p1.toInt ≤ (20 : Int)) ∧ ((0 : Int) ≤ p2.toInt ∧ p2.toInt ≤ (999 : Int))) := hw
    refine lv_iconst (v := 1) hx hb dX8_addResource_7 (by decide) ?_
    have hPc := hP.sub (ws' := [(h1, .inr (10, [.ref h2, .ref h3, .ref h4, .ref h5, .ref h6, x7, x8, x9, x10, x11, x12, x13, x14, x15, .int 0, x16, x17, x18]))]) [0] rfl
    have hDc := hD.sub (ws' := [(h1, .inr (10, [.ref h2, .ref h3, .ref h4, .ref h5, .ref h6, x7, x8, x9, x10, x11, x12, x13, x14, x15, .int 0, x16, x17, x18]))]) [0] (by decide) rfl
    have hFc := va_free (wc := [(h1, .inr (10, [.ref h2, .ref h3, .ref h4, .ref h5, .ref h6, x7, x8, x9, x10, x11, x12, x13, x14, x15, .int 0, x16, x17, x18]))]) hD hS hA [0] rfl
    refine va_calli (va_runV (As := [.int 0, .int 1]) (rest := []) ⟨hx, hb, hml, hown, hts⟩ (k_X8_isThrown_1 l D cy h1 (.ref h2) (.ref h3) (.ref h4) (.ref h5) (.ref h6) (x7) (x8) (x9) (x10) (x11) (x12) (x13) (x14) (x15) (.int 0) (x16) (x17) (x18) H.size) (cwV 2 hts gX8_addResource_X8_isThrown rfl rfl rfl (by decide +kernel) ⟨(Nat.le_of_ble_eq_true rfl), (Nat.le_of_ble_eq_true rfl)⟩) ⟨kW_fb, va_recv hK hP (ci := 10) (q0 := 0) rfl rfl, (kW_go hPc hK hDc)⟩ rfl rfl hl.1 rfl (lv_room (Nat.le_of_ble_eq_true rfl)) dX8_addResource_8 ⟨(Nat.le_of_ble_eq_true rfl), (Nat.le_of_ble_eq_true rfl)⟩) hS (fun q _ h => hFc q h) hFc (fun r9 u t H locs ht hvm hw hB hz1 hk1 hS => ?_)
    obtain ⟨hP1, hD1⟩ := hB
    rw [ht] at hP1
    try dsimp only at hw hP1 hD1
    obtain ⟨hP, hD⟩ := va_join (wr := [(h2, .inl (cy 0, 8, .inl g19)), (h3, .inl (cy 1, 8, .inl g20)), (h4, .inl (cy 1, 8, .inl g21)), (h5, .inl (cy 1, 8, .inl g22)), (h6, .inl (cy 1, 8, .inl g23))]) (w1 := [(h1, .inr (10, [.ref h2, .ref h3, .ref h4, .ref h5, .ref h6, x7, x8, x9, x10, x11, x12, x13, x14, x15, .int 0, x16, x17, .int 0]))]) hP hD [0] [1, 2, 3, 4, 5] rfl rfl (by decide) (by decide) hk1 hFc hP1 hD1
    have hP : va_P D vwCl [(h2, .inl (cy 0, 8, .inl g19)), (h3, .inl (cy 1, 8, .inl g20)), (h4, .inl (cy 1, 8, .inl g21)), (h5, .inl (cy 1, 8, .inl g22)), (h6, .inl (cy 1, 8, .inl g23)), (h1, .inr (10, [.ref h2, .ref h3, .ref h4, .ref h5, .ref h6, x7, x8, x9, x10, x11, x12, x13, x14, x15, .int 0, x16, x17, .int 0]))] H := hP
    have hD : va_D A [(h2, .inl (cy 0, 8, .inl g19)), (h3, .inl (cy 1, 8, .inl g20)), (h4, .inl (cy 1, 8, .inl g21)), (h5, .inl (cy 1, 8, .inl g22)), (h6, .inl (cy 1, 8, .inl g23)), (h1, .inr (10, [.ref h2, .ref h3, .ref h4, .ref h5, .ref h6, x7, x8, x9, x10, x11, x12, x13, x14, x15, .int 0, x16, x17, .int 0]))] := hD
    obtain ⟨rfl, hw⟩ := hw
    refine lv_if_ne (tgt := 36) hx hb dX8_addResource_11 (by decide) (fun h => absurd (by decide) h) (fun _ => ?_)
    refine lv_aload_n hx hb dX8_addResource_14 rfl (lv_at hl 0 rfl) ?_
    refine lv_aload_n hx hb dX8_addResource_15 rfl (lv_at hl 0 rfl) ?_
    refine va_get (D := D) (ci := 10) (v := .int 0) (C := RX8) (T := TX8) (N := 18) hx hb hts (fun _ h => (List.mem_cons_of_mem _ (List.mem_append_left _ (List.mem_append_right _ h)))) hown hK hP 5 rfl rfl 14 (by decide) (hts (.fieldLink RX8 62 "SelfishJunctionModel" "resources" "I") (List.mem_cons_of_mem _ (List.mem_append_left _ (List.mem_append_left _ (List.mem_of_getElem? (i := 0) rfl))))) (fun _ h9 => h9) rfl dX8_addResource_16 ?_
    refine lv_bipush (v := 8) hx hb dX8_addResource_19 (by decide) ?_
    refine lv_icmp_ne (tgt := 28) hx hb dX8_addResource_21 (by decide) (fun _ => ?_) (fun h => absurd h (by decide))
    refine lv_iconst (v := 0) hx hb dX8_addResource_28 (by decide) ?_
    refine lv_iconst (v := 2) hx hb dX8_addResource_29 (by decide) ?_
    have hPc := hP.sub (ws' := [(h1, .inr (10, [.ref h2, .ref h3, .ref h4, .ref h5, .ref h6, x7, x8, x9, x10, x11, x12, x13, x14, x15, .int 0, x16, x17, .int 0]))]) [5] rfl
    have hDc := hD.sub (ws' := [(h1, .inr (10, [.ref h2, .ref h3, .ref h4, .ref h5, .ref h6, x7, x8, x9, x10, x11, x12, x13, x14, x15, .int 0, x16, x17, .int 0]))]) [5] (by decide) rfl
    have hFc := va_free (wc := [(h1, .inr (10, [.ref h2, .ref h3, .ref h4, .ref h5, .ref h6, x7, x8, x9, x10, x11, x12, x13, x14, x15, .int 0, x16, x17, .int 0]))]) hD hS hA [5] rfl
    refine va_calli (va_runV (As := [.int 0, .int 2]) (rest := []) ⟨hx, hb, hml, hown, hts⟩ (k_X8_isThrown_2 l D cy h1 (.ref h2) (.ref h3) (.ref h4) (.ref h5) (.ref h6) (x7) (x8) (x9) (x10) (x11) (x12) (x13) (x14) (x15) (.int 0) (x16) (x17) (.int 0) H.size) (cwV 2 hts gX8_addResource_X8_isThrown rfl rfl rfl (by decide +kernel) ⟨(Nat.le_of_ble_eq_true rfl), (Nat.le_of_ble_eq_true rfl)⟩) ⟨kW_fb, va_recv hK hP (ci := 10) (q0 := 5) rfl rfl, (kW_go hPc hK hDc)⟩ rfl rfl hl.1 rfl (lv_room (Nat.le_of_ble_eq_true rfl)) dX8_addResource_30 ⟨(Nat.le_of_ble_eq_true rfl), (Nat.le_of_ble_eq_true rfl)⟩) hS (fun q _ h => hFc q h) hFc (fun r9 u t H locs ht hvm hw hB hz1 hk1 hS => ?_)
    obtain ⟨hP1, hD1⟩ := hB
    rw [ht] at hP1
    try dsimp only at hw hP1 hD1
    obtain ⟨hP, hD⟩ := va_join (wr := [(h2, .inl (cy 0, 8, .inl g19)), (h3, .inl (cy 1, 8, .inl g20)), (h4, .inl (cy 1, 8, .inl g21)), (h5, .inl (cy 1, 8, .inl g22)), (h6, .inl (cy 1, 8, .inl g23))]) (w1 := [(h1, .inr (10, [.ref h2, .ref h3, .ref h4, .ref h5, .ref h6, x7, x8, x9, x10, x11, x12, x13, x14, x15, .int 0, x16, x17, .int 0]))]) hP hD [5] [0, 1, 2, 3, 4] rfl rfl (by decide) (by decide) hk1 hFc hP1 hD1
    have hP : va_P D vwCl [(h2, .inl (cy 0, 8, .inl g19)), (h3, .inl (cy 1, 8, .inl g20)), (h4, .inl (cy 1, 8, .inl g21)), (h5, .inl (cy 1, 8, .inl g22)), (h6, .inl (cy 1, 8, .inl g23)), (h1, .inr (10, [.ref h2, .ref h3, .ref h4, .ref h5, .ref h6, x7, x8, x9, x10, x11, x12, x13, x14, x15, .int 0, x16, x17, .int 0]))] H := hP
    have hD : va_D A [(h2, .inl (cy 0, 8, .inl g19)), (h3, .inl (cy 1, 8, .inl g20)), (h4, .inl (cy 1, 8, .inl g21)), (h5, .inl (cy 1, 8, .inl g22)), (h6, .inl (cy 1, 8, .inl g23)), (h1, .inr (10, [.ref h2, .ref h3, .ref h4, .ref h5, .ref h6, x7, x8, x9, x10, x11, x12, x13, x14, x15, .int 0, x16, x17, .int 0]))] := hD
    obtain ⟨rfl, hw⟩ := hw
    refine lv_if_eq (tgt := 40) hx hb dX8_addResource_33 (by decide) (fun _ => ?_) (fun h => absurd (by decide) h)
    refine lv_aload_n hx hb dX8_addResource_40 rfl (lv_at hl 0 rfl) ?_
    refine lv_iload_n hx hb dX8_addResource_41 rfl (lv_at hl 1 rfl) ?_
    refine lv_iload_n hx hb dX8_addResource_42 rfl (lv_at hl 2 rfl) ?_
    refine lv_iload_n hx hb dX8_addResource_43 rfl (lv_at hl 3 rfl) ?_
    refine lv_iconst (v := (-1)) hx hb dX8_addResource_44 (by decide) ?_
    refine lv_iconst (v := (-1)) hx hb dX8_addResource_45 (by decide) ?_
    have hPc := hP.sub (ws' := [(h1, .inr (10, [.ref h2, .ref h3, .ref h4, .ref h5, .ref h6, x7, x8, x9, x10, x11, x12, x13, x14, x15, .int 0, x16, x17, .int 0])), (h2, .inl (cy 0, 8, .inl g19)), (h3, .inl (cy 1, 8, .inl g20)), (h4, .inl (cy 1, 8, .inl g21)), (h5, .inl (cy 1, 8, .inl g22)), (h6, .inl (cy 1, 8, .inl g23))]) [5, 0, 1, 2, 3, 4] rfl
    have hDc := hD.sub (ws' := [(h1, .inr (10, [.ref h2, .ref h3, .ref h4, .ref h5, .ref h6, x7, x8, x9, x10, x11, x12, x13, x14, x15, .int 0, x16, x17, .int 0])), (h2, .inl (cy 0, 8, .inl g19)), (h3, .inl (cy 1, 8, .inl g20)), (h4, .inl (cy 1, 8, .inl g21)), (h5, .inl (cy 1, 8, .inl g22)), (h6, .inl (cy 1, 8, .inl g23))]) [5, 0, 1, 2, 3, 4] (by decide) rfl
    have hFc := va_free (wc := [(h1, .inr (10, [.ref h2, .ref h3, .ref h4, .ref h5, .ref h6, x7, x8, x9, x10, x11, x12, x13, x14, x15, .int 0, x16, x17, .int 0])), (h2, .inl (cy 0, 8, .inl g19)), (h3, .inl (cy 1, 8, .inl g20)), (h4, .inl (cy 1, 8, .inl g21)), (h5, .inl (cy 1, 8, .inl g22)), (h6, .inl (cy 1, 8, .inl g23))]) hD hS hA [5, 0, 1, 2, 3, 4] rfl
    refine va_calli (va_runV (As := [.int p0, .int p1, .int p2, .int (-1), .int (-1)]) (rest := []) ⟨hx, hb, hml, hown, hts⟩ (k_X8_adds l D cy h1 p0 p1 p2 h2 h3 h4 h5 h6 (x7) (x8) (x9) (x10) (x11) (x12) (x13) (x14) (x15) (x16) (x17) (.int 0) g19 g20 g21 g22 g23 (by omega) H.size) (cwV 5 hts gX8_addResource_X8_adds rfl rfl rfl (by decide +kernel) ⟨(Nat.le_of_ble_eq_true rfl), (Nat.le_of_ble_eq_true rfl)⟩) ⟨kW_fb, va_recv hK hP (ci := 10) (q0 := 5) rfl rfl, (kW_go hPc hK hDc)⟩ rfl rfl hl.1 rfl (lv_room (Nat.le_of_ble_eq_true rfl)) dX8_addResource_46 ⟨(Nat.le_of_ble_eq_true rfl), (Nat.le_of_ble_eq_true rfl)⟩) hS (fun q _ h => hFc q h) hFc (fun r9 u t H locs ht hvm hw hB hz1 hk1 hS => ?_)
    obtain ⟨hP1, hD1⟩ := hB
    rw [ht] at hP1
    try dsimp only at hw hP1 hD1
    obtain ⟨hP, hD⟩ := va_join (wr := []) (w1 := [(h1, .inr (10, [.ref h2, .ref h3, .ref h4, .ref h5, .ref h6, x7, x8, x9, x10, x11, x12, x13, x14, x15, .int 1, x16, x17, .int 0])), (h2, .inl (cy 0, 8, .inl (upd g19 0 p0))), (h3, .inl (cy 1, 8, .inl (upd g20 0 p1))), (h4, .inl (cy 1, 8, .inl (upd g21 0 p2))), (h5, .inl (cy 1, 8, .inl (upd g22 0 (-1)))), (h6, .inl (cy 1, 8, .inl (upd g23 0 (-1))))]) hP hD [5, 0, 1, 2, 3, 4] [] rfl rfl (by decide) (by decide) hk1 hFc hP1 hD1
    have hP : va_P D vwCl [(h1, .inr (10, [.ref h2, .ref h3, .ref h4, .ref h5, .ref h6, x7, x8, x9, x10, x11, x12, x13, x14, x15, .int 1, x16, x17, .int 0])), (h2, .inl (cy 0, 8, .inl (upd g19 0 p0))), (h3, .inl (cy 1, 8, .inl (upd g20 0 p1))), (h4, .inl (cy 1, 8, .inl (upd g21 0 p2))), (h5, .inl (cy 1, 8, .inl (upd g22 0 (-1)))), (h6, .inl (cy 1, 8, .inl (upd g23 0 (-1))))] H := hP
    have hD : va_D A [(h1, .inr (10, [.ref h2, .ref h3, .ref h4, .ref h5, .ref h6, x7, x8, x9, x10, x11, x12, x13, x14, x15, .int 1, x16, x17, .int 0])), (h2, .inl (cy 0, 8, .inl (upd g19 0 p0))), (h3, .inl (cy 1, 8, .inl (upd g20 0 p1))), (h4, .inl (cy 1, 8, .inl (upd g21 0 p2))), (h5, .inl (cy 1, 8, .inl (upd g22 0 (-1)))), (h6, .inl (cy 1, 8, .inl (upd g23 0 (-1))))] := hD
    obtain ⟨rfl, hw⟩ := hw
    refine W.widen (k := 0) (n := 0) (Nat.le_of_ble_eq_true rfl) (Nat.le_of_ble_eq_true rfl) ?_
    have hP9 := hP.sub (ws' := [(h1, .inr (10, [.ref h2, .ref h3, .ref h4, .ref h5, .ref h6, x7, x8, x9, x10, x11, x12, x13, x14, x15, .int 1, x16, x17, .int 0])), (h2, .inl (cy 0, 8, .inl (upd g19 0 p0))), (h3, .inl (cy 1, 8, .inl (upd g20 0 p1))), (h4, .inl (cy 1, 8, .inl (upd g21 0 p2))), (h5, .inl (cy 1, 8, .inl (upd g22 0 (-1)))), (h6, .inl (cy 1, 8, .inl (upd g23 0 (-1))))]) [0, 1, 2, 3, 4, 5] rfl
    have hD9 := hD.sub (ws' := [(h1, .inr (10, [.ref h2, .ref h3, .ref h4, .ref h5, .ref h6, x7, x8, x9, x10, x11, x12, x13, x14, x15, .int 1, x16, x17, .int 0])), (h2, .inl (cy 0, 8, .inl (upd g19 0 p0))), (h3, .inl (cy 1, 8, .inl (upd g20 0 p1))), (h4, .inl (cy 1, 8, .inl (upd g21 0 p2))), (h5, .inl (cy 1, 8, .inl (upd g22 0 (-1)))), (h6, .inl (cy 1, 8, .inl (upd g23 0 (-1))))]) [0, 1, 2, 3, 4, 5] (by decide) rfl
    exact W.iret (v := 0) hx hb hr (fun t ht hW => ⟨⟨0, (1, 0, (upd g19 0 p0), (upd g20 0 p1), (upd g21 0 p2), (upd g22 0 (-1)), (upd g23 0 (-1))), rfl, Or.inr (⟨rfl, rfl, rfl, (rfl), (rfl), (by omega)⟩), ⟨by rw [ht]; exact hP9, hD9⟩⟩, hS.F ht⟩) hS.2.2 dX8_addResource_49
theorem dX8_thrown_0 : decode cX8_thrown 0 = .ok (.aload_n 0, 1) := by decide +kernel
theorem dX8_thrown_1 : decode cX8_thrown 1 = .ok (.getfield 59, 3) := by decide +kernel
theorem dX8_thrown_4 : decode cX8_thrown 4 = .ok (.ireturn, 1) := by decide +kernel
set_option maxHeartbeats 4000000 in
set_option maxRecDepth 100000 in
theorem k_X8_thrown (l : Launch) (D : va_G) (cy : Nat → ClassId) (h1 : Nat) (x2 : Value) (x3 : Value) (x4 : Value) (x5 : Value) (x6 : Value) (x7 : Value) (x8 : Value) (x9 : Value) (x10 : Value) (x11 : Value) (x12 : Value) (x13 : Value) (x14 : Value) (x15 : Value) (x16 : Value) (x17 : Value) (x18 : Value) : Met l yX8_thrown wsX8_thrown ({ frames := 0, cells := 0, slots := 0, locals := 0 }) (kR D cy [.ref h1] [(h1, .inr (10, [x2, x3, x4, x5, x6, x7, x8, x9, x10, x11, x12, x13, x14, x15, x16, x17, x18, .int 1]))]) (va_Qi (fun (r : Int32) (_ : Unit) => r = 1 ∧ True) (fun (_ : Unit) (_ : State) => True) (fun _ : Nat => False)) 0 0 (fun _ : Nat => False) := by
  refine Met.ofW (cc := cX8_thrown) (maxL := 1) (ret := (some .int)) (by decide) rfl ?_
  intro p e s m args below meth c s₁ B hml hv
  obtain ⟨rfl, hP, hK⟩ := hv
  have hx := B.exec
  have hb := B.bytes
  have hr := B.returns
  have hts := atoms_spec (ws := wsX8_thrown) B.pre
  have hown : s.vm.findClass RX8 = some m.cls := findClass_of_methodNamed B.named
  have hlocks := B.notSynchronized
  have hS : va_S (fun _ : Nat => False) s.heap s.heap [] := va_S.rf
  have hP : va_P D vwCl [(h1, .inr (10, [x2, x3, x4, x5, x6, x7, x8, x9, x10, x11, x12, x13, x14, x15, x16, x17, x18, .int 1]))] s.heap := hP
  have hl := lv_entry ([.ref h1]) (n := 1) (Nat.le_of_ble_eq_true rfl)
  rw [lg_entry_eq]
  generalize (lg_sl ([.ref h1]) ++ List.replicate (1 - (lg_sl ([.ref h1])).length) Slot.unset).toArray = ls at hl ⊢
  have hl : lv_has ls 1 [(0, .ref h1)] := hl
  refine lv_aload_n hx hb dX8_thrown_0 rfl (lv_at hl 0 rfl) ?_
  refine va_get (D := D) (ci := 10) (v := .int 1) (C := RX8) (T := TX8) (N := 18) hx hb hts (fun _ h => (List.mem_cons_of_mem _ (List.mem_append_right _ h))) hown hK hP 0 rfl rfl 17 (by decide) (hts (.fieldLink RX8 59 "SelfishJunctionModel" "thrown" "I") (List.mem_cons_of_mem _ (List.mem_append_left _ (List.mem_of_getElem? (i := 0) rfl)))) (fun _ h9 => h9) rfl dX8_thrown_1 ?_
  refine W.widen (k := 0) (n := 0) (Nat.le_of_ble_eq_true rfl) (Nat.le_of_ble_eq_true rfl) ?_
  exact W.iret (v := 1) hx hb hr (fun t ht hW => ⟨⟨1, (), rfl, ⟨rfl, trivial⟩, trivial⟩, hS.F ht⟩) hS.2.2 dX8_thrown_4
set_option maxHeartbeats 4000000 in
set_option maxRecDepth 100000 in
theorem k_X8_thrown_1 (l : Launch) (D : va_G) (cy : Nat → ClassId) (h1 : Nat) (x2 : Value) (x3 : Value) (x4 : Value) (x5 : Value) (x6 : Value) (x7 : Value) (x8 : Value) (x9 : Value) (x10 : Value) (x11 : Value) (x12 : Value) (x13 : Value) (x14 : Value) (x15 : Value) (x16 : Value) (x17 : Value) (x18 : Value) : Met l yX8_thrown wsX8_thrown ({ frames := 0, cells := 0, slots := 0, locals := 0 }) (kR D cy [.ref h1] [(h1, .inr (10, [x2, x3, x4, x5, x6, x7, x8, x9, x10, x11, x12, x13, x14, x15, x16, x17, x18, .int 0]))]) (va_Qi (fun (r : Int32) (_ : Unit) => r = 0 ∧ True) (fun (_ : Unit) (_ : State) => True) (fun _ : Nat => False)) 0 0 (fun _ : Nat => False) := by
  refine Met.ofW (cc := cX8_thrown) (maxL := 1) (ret := (some .int)) (by decide) rfl ?_
  intro p e s m args below meth c s₁ B hml hv
  obtain ⟨rfl, hP, hK⟩ := hv
  have hx := B.exec
  have hb := B.bytes
  have hr := B.returns
  have hts := atoms_spec (ws := wsX8_thrown) B.pre
  have hown : s.vm.findClass RX8 = some m.cls := findClass_of_methodNamed B.named
  have hlocks := B.notSynchronized
  have hS : va_S (fun _ : Nat => False) s.heap s.heap [] := va_S.rf
  have hP : va_P D vwCl [(h1, .inr (10, [x2, x3, x4, x5, x6, x7, x8, x9, x10, x11, x12, x13, x14, x15, x16, x17, x18, .int 0]))] s.heap := hP
  have hl := lv_entry ([.ref h1]) (n := 1) (Nat.le_of_ble_eq_true rfl)
  rw [lg_entry_eq]
  generalize (lg_sl ([.ref h1]) ++ List.replicate (1 - (lg_sl ([.ref h1])).length) Slot.unset).toArray = ls at hl ⊢
  have hl : lv_has ls 1 [(0, .ref h1)] := hl
  refine lv_aload_n hx hb dX8_thrown_0 rfl (lv_at hl 0 rfl) ?_
  refine va_get (D := D) (ci := 10) (v := .int 0) (C := RX8) (T := TX8) (N := 18) hx hb hts (fun _ h => (List.mem_cons_of_mem _ (List.mem_append_right _ h))) hown hK hP 0 rfl rfl 17 (by decide) (hts (.fieldLink RX8 59 "SelfishJunctionModel" "thrown" "I") (List.mem_cons_of_mem _ (List.mem_append_left _ (List.mem_of_getElem? (i := 0) rfl)))) (fun _ h9 => h9) rfl dX8_thrown_1 ?_
  refine W.widen (k := 0) (n := 0) (Nat.le_of_ble_eq_true rfl) (Nat.le_of_ble_eq_true rfl) ?_
  exact W.iret (v := 0) hx hb hr (fun t ht hW => ⟨⟨0, (), rfl, ⟨rfl, trivial⟩, trivial⟩, hS.F ht⟩) hS.2.2 dX8_thrown_4
theorem dX7_checkNodes_0 : decode cX7_checkNodes 0 = .ok (.aload_n 0, 1) := by decide +kernel
theorem dX7_checkNodes_1 : decode cX7_checkNodes 1 = .ok (.iload_n 1, 1) := by decide +kernel
theorem dX7_checkNodes_2 : decode cX7_checkNodes 2 = .ok (.iconst 0, 1) := by decide +kernel
theorem dX7_checkNodes_3 : decode cX7_checkNodes 3 = .ok (.iconst 5, 1) := by decide +kernel
theorem dX7_checkNodes_4 : decode cX7_checkNodes 4 = .ok (.invokevirtual 174, 3) := by decide +kernel
set_option maxRecDepth 20000 in
theorem ggX7_checkNodes_X7_checkRange : GoodIn wsX7_checkNodes wsX7_checkRange := goodIn_ca (goodIn_r _ [7, 1, 2] (by decide +kernel) (by decide +kernel)) (goodIn_sub (fun _ h => List.mem_cons_of_mem _ (List.mem_append_right _ h)) (by decide +kernel))
set_option maxRecDepth 20000 in
theorem gX7_checkNodes_X7_checkRange : GoodIn wsX7_checkNodes (wsV RX7 174 RX7 yX7_checkRange wsX7_checkRange) := goodIn_app (goodIn_of _ (by decide +kernel)) ggX7_checkNodes_X7_checkRange
theorem dX7_checkNodes_7 : decode cX7_checkNodes 7 = .ok (.aload_n 0, 1) := by decide +kernel
theorem dX7_checkNodes_8 : decode cX7_checkNodes 8 = .ok (.iload_n 2, 1) := by decide +kernel
theorem dX7_checkNodes_9 : decode cX7_checkNodes 9 = .ok (.iconst 0, 1) := by decide +kernel
theorem dX7_checkNodes_10 : decode cX7_checkNodes 10 = .ok (.iconst 5, 1) := by decide +kernel
theorem dX7_checkNodes_11 : decode cX7_checkNodes 11 = .ok (.invokevirtual 174, 3) := by decide +kernel
theorem dX7_checkNodes_14 : decode cX7_checkNodes 14 = .ok (.iload_n 1, 1) := by decide +kernel
theorem dX7_checkNodes_15 : decode cX7_checkNodes 15 = .ok (.iload_n 2, 1) := by decide +kernel
theorem dX7_checkNodes_16 : decode cX7_checkNodes 16 = .ok (.if_icmp .ne 14, 3) := by decide +kernel
theorem dX7_checkNodes_30 : decode cX7_checkNodes 30 = .ok (.return_, 1) := by decide +kernel
theorem dX7_checkNodes_19 : decode cX7_checkNodes 19 = .ok (.new 95, 3) := by decide +kernel
theorem dX7_checkNodes_22 : decode cX7_checkNodes 22 = .ok (.dup, 1) := by decide +kernel
theorem dX7_checkNodes_23 : decode cX7_checkNodes 23 = .ok (.ldc_w 366, 3) := by decide +kernel
theorem dX7_checkNodes_26 : decode cX7_checkNodes 26 = .ok (.invokespecial 99, 3) := by decide +kernel
theorem dX7_checkNodes_29 : decode cX7_checkNodes 29 = .ok (.athrow, 1) := by decide +kernel
set_option maxHeartbeats 4000000 in
set_option maxRecDepth 100000 in
theorem k_X7_checkNodes (l : Launch) (hl9 : l.stackTraces = false) (D : va_G) (cy : Nat → ClassId) (h1 : Nat) (p0 : Int32) (p1 : Int32) (x2 : Value) (x3 : Value) (x4 : Value) (x5 : Value) (x6 : Value) (x7 : Value) (x8 : Value) : vx_Met l yX7_checkNodes wsX7_checkNodes ({ frames := 7, cells := 3, slots := 18, locals := 105 }) (kRX D cy [.ref h1, .int p0, .int p1] [(h1, .inr (9, [x2, x3, x4, x5, x6, x7, x8]))]) (va_Qv (fun (_ : Unit) => (((0 : Int) ≤ p0.toInt ∧ p0.toInt ≤ (5 : Int)) ∧ ((0 : Int) ≤ p1.toInt ∧ p1.toInt ≤ (5 : Int)) ∧ p0.toInt ≠ p1.toInt)) (fun (_ : Unit) (_ : State) => True) (fun _ : Nat => False)) (vx_X (fun _ : Unit => True) (fun (E : String) (_ : Unit) (_ : State) => (E = "java/lang/IllegalArgumentException" ∧ ¬ ((((0 : Int) ≤ p0.toInt ∧ p0.toInt ≤ (5 : Int)) ∧ ((0 : Int) ≤ p1.toInt ∧ p1.toInt ≤ (5 : Int)) ∧ p0.toInt ≠ p1.toInt)))) (fun _ : Nat => False)) 3 18 (fun _ : Nat => False) := by
  refine vx_ofW (cc := cX7_checkNodes) (maxL := 3) (ret := none) (by decide) rfl ?_
  intro p e s m args below meth c s₁ B hml ht9 hv
  obtain ⟨rfl, hP, hK, hE⟩ := hv
  have hx := B.exec
  have hb := B.bytes
  have hr := B.returns
  have hts := atoms_spec (ws := wsX7_checkNodes) B.pre
  have hown : s.vm.findClass RX7 = some m.cls := findClass_of_methodNamed B.named
  have hlocks := B.notSynchronized
  have hS : va_S (fun _ : Nat => False) s.heap s.heap [] := va_S.rf
  have hP : va_P D vwCl [(h1, .inr (9, [x2, x3, x4, x5, x6, x7, x8]))] s.heap := hP
  have hl := lv_entry ([.ref h1, .int p0, .int p1]) (n := 3) (Nat.le_of_ble_eq_true rfl)
  rw [lg_entry_eq]
  generalize (lg_sl ([.ref h1, .int p0, .int p1]) ++ List.replicate (3 - (lg_sl ([.ref h1, .int p0, .int p1])).length) Slot.unset).toArray = ls at hl ⊢
  have hl : lv_has ls 3 [(0, .ref h1), (1, .int p0), (2, .int p1)] := hl
  refine lv_aload_n hx hb dX7_checkNodes_0 rfl (lv_at hl 0 rfl) ?_
  refine lv_iload_n hx hb dX7_checkNodes_1 rfl (lv_at hl 1 rfl) ?_
  refine lv_iconst (v := 0) hx hb dX7_checkNodes_2 (by decide) ?_
  refine lv_iconst (v := 5) hx hb dX7_checkNodes_3 (by decide) ?_
  have hPc := hP.sub (ws' := []) [] rfl
  refine vx_callv (vx_runV (As := [.int p0, .int 0, .int 5]) (rest := []) ⟨hx, hb, hml, hown, hts⟩ (k_X7_checkRange l hl9 D cy h1 p0 0 5) (cwV 3 hts gX7_checkNodes_X7_checkRange rfl rfl rfl (by decide +kernel) ⟨(Nat.le_of_ble_eq_true rfl), (Nat.le_of_ble_eq_true rfl)⟩) ⟨kRX_fb, va_recv hK hP (ci := 9) (q0 := 0) rfl rfl, (kRX_go hPc hK hE hS)⟩ rfl rfl hl.1 rfl (lv_room (Nat.le_of_ble_eq_true rfl)) dX7_checkNodes_4 ⟨(Nat.le_of_ble_eq_true rfl), (Nat.le_of_ble_eq_true rfl)⟩) hS (fun _ _ h => h.elim) (fun _ h => h.elim) (fun _ _ h => h.elim) (fun E9 ce9 q9 u t H locs ht hvm hw hB hz1 hk1 hS hce hcv hcl => ?_) (fun u t H locs ht hvm hw hB hz1 hk1 hS => ?_)
  · obtain ⟨rfl, hB⟩ := hB
    have f_1 : ¬ (((0 : Int) ≤ p0.toInt ∧ p0.toInt ≤ (5 : Int))) := hB
    exact vx_out (fun x hx => (ht9 x hx).elim) hlocks hce hcv hcl (fun t ht _ => ⟨(), trivial, (⟨rfl, (by omega)⟩), hS.F ht⟩) hS.2.2 (Nat.le_of_ble_eq_true rfl) (Nat.le_of_ble_eq_true rfl)
  · have hP := kx_kept hP hk1
    have f_2 : ((0 : Int) ≤ p0.toInt ∧ p0.toInt ≤ (5 : Int)) := hw
    refine lv_aload_n hx hb dX7_checkNodes_7 rfl (lv_at hl 0 rfl) ?_
    refine lv_iload_n hx hb dX7_checkNodes_8 rfl (lv_at hl 2 rfl) ?_
    refine lv_iconst (v := 0) hx hb dX7_checkNodes_9 (by decide) ?_
    refine lv_iconst (v := 5) hx hb dX7_checkNodes_10 (by decide) ?_
    have hPc := hP.sub (ws' := []) [] rfl
    refine vx_callv (vx_runV (As := [.int p1, .int 0, .int 5]) (rest := []) ⟨hx, hb, hml, hown, hts⟩ (k_X7_checkRange l hl9 D cy h1 p1 0 5) (cwV 3 hts gX7_checkNodes_X7_checkRange rfl rfl rfl (by decide +kernel) ⟨(Nat.le_of_ble_eq_true rfl), (Nat.le_of_ble_eq_true rfl)⟩) ⟨kRX_fb, va_recv hK hP (ci := 9) (q0 := 0) rfl rfl, (kRX_go hPc hK hE hS)⟩ rfl rfl hl.1 rfl (lv_room (Nat.le_of_ble_eq_true rfl)) dX7_checkNodes_11 ⟨(Nat.le_of_ble_eq_true rfl), (Nat.le_of_ble_eq_true rfl)⟩) hS (fun _ _ h => h.elim) (fun _ h => h.elim) (fun _ _ h => h.elim) (fun E9 ce9 q9 u t H locs ht hvm hw hB hz1 hk1 hS hce hcv hcl => ?_) (fun u t H locs ht hvm hw hB hz1 hk1 hS => ?_)
    · obtain ⟨rfl, hB⟩ := hB
      have f_3 : ¬ (((0 : Int) ≤ p1.toInt ∧ p1.toInt ≤ (5 : Int))) := hB
      exact vx_out (fun x hx => (ht9 x hx).elim) hlocks hce hcv hcl (fun t ht _ => ⟨(), trivial, (⟨rfl, (by omega)⟩), hS.F ht⟩) hS.2.2 (Nat.le_of_ble_eq_true rfl) (Nat.le_of_ble_eq_true rfl)
    · have hP := kx_kept hP hk1
      have f_4 : ((0 : Int) ≤ p1.toInt ∧ p1.toInt ≤ (5 : Int)) := hw
      refine lv_iload_n hx hb dX7_checkNodes_14 rfl (lv_at hl 1 rfl) ?_
      refine lv_iload_n hx hb dX7_checkNodes_15 rfl (lv_at hl 2 rfl) ?_
      refine lv_icmp_ne (tgt := 30) hx hb dX7_checkNodes_16 (by decide) (fun c_5 => ?_) (fun c_5 => ?_)
      · have f_6 : p0.toInt ≠ p1.toInt := kx_ne c_5
        refine vx_ret ?_
        refine W.widen (k := 3) (n := 18) (Nat.le_of_ble_eq_true rfl) (Nat.le_of_ble_eq_true rfl) ?_
        exact W.vret hx hb hr (fun t ht hW => ⟨⟨(), rfl, (by omega), trivial⟩, hS.F ht⟩) hS.2.2 dX7_checkNodes_30
      · have f_7 : p0.toInt = p1.toInt := kx_eq c_5
        obtain ⟨sa9, hsa9⟩ := hE.2.1 (366, "both nodes are the same") (by decide +kernel)
        exact vx_throwSW (own := RX7) (cls := "java/lang/IllegalArgumentException") (text := "both nodes are the same") (names := ["java/lang/RuntimeException", "java/lang/Exception"]) (A := (fun _ : Nat => False)) hx hb hl9 hown (by decide +kernel) (by decide +kernel) (hts (.classLink RX7 95 "java/lang/IllegalArgumentException") (List.mem_cons_of_mem _ (List.mem_append_left _ (List.mem_of_getElem? (i := 0) rfl)))) (hts (.initialized "java/lang/IllegalArgumentException") (List.mem_cons_of_mem _ (List.mem_append_left _ (List.mem_of_getElem? (i := 1) rfl)))) hsa9 (ex_hat hE (fun w h => hts w (List.mem_cons_of_mem _ (List.mem_append_right _ h))) (by decide +kernel) (by decide +kernel)) (by decide +kernel) hE.1.1 hE.1.2 hS (by rw [hml]; exact hl.1) dX7_checkNodes_19 dX7_checkNodes_22 dX7_checkNodes_23 dX7_checkNodes_26 dX7_checkNodes_29 (fun x hx => (ht9 x hx).elim) (Nat.le_of_ble_eq_true rfl) (Nat.le_of_ble_eq_true rfl) (Nat.le_of_ble_eq_true rfl) (Nat.le_of_ble_eq_true rfl) hlocks (fun t hal hz hk => ⟨(), trivial, (⟨rfl, (by omega)⟩), kx_thr hS hz hk⟩) hS.2.2 (Nat.le_of_ble_eq_true rfl) (Nat.le_of_ble_eq_true rfl)
theorem dX7_addRoad_0 : decode cX7_addRoad 0 = .ok (.aload_n 0, 1) := by decide +kernel
theorem dX7_addRoad_1 : decode cX7_addRoad 1 = .ok (.iload_n 1, 1) := by decide +kernel
theorem dX7_addRoad_2 : decode cX7_addRoad 2 = .ok (.iload_n 2, 1) := by decide +kernel
theorem dX7_addRoad_3 : decode cX7_addRoad 3 = .ok (.invokevirtual 62, 3) := by decide +kernel
set_option maxRecDepth 20000 in
theorem ggX7_addRoad_X7_checkNodes : GoodIn wsX7_addRoad wsX7_checkNodes := goodIn_ca (goodIn_r _ [9, 10, 11, 12, 13, 14, 8, 15] (by decide +kernel) (by decide +kernel)) (goodIn_sub (fun _ h => List.mem_cons_of_mem _ (List.mem_append_left _ (List.mem_append_left _ (List.mem_append_left _ (List.mem_append_right _ h))))) (by decide +kernel))
set_option maxRecDepth 20000 in
theorem gX7_addRoad_X7_checkNodes : GoodIn wsX7_addRoad (wsV RX7 62 RX7 yX7_checkNodes wsX7_checkNodes) := goodIn_app (goodIn_of _ (by decide +kernel)) ggX7_addRoad_X7_checkNodes
theorem dX7_addRoad_6 : decode cX7_addRoad 6 = .ok (.aload_n 0, 1) := by decide +kernel
theorem dX7_addRoad_7 : decode cX7_addRoad 7 = .ok (.iload_n 3, 1) := by decide +kernel
theorem dX7_addRoad_8 : decode cX7_addRoad 8 = .ok (.iload 4, 2) := by decide +kernel
theorem dX7_addRoad_10 : decode cX7_addRoad 10 = .ok (.iload 5, 2) := by decide +kernel
theorem dX7_addRoad_12 : decode cX7_addRoad 12 = .ok (.invokevirtual 51, 3) := by decide +kernel
set_option maxRecDepth 20000 in
theorem ggX7_addRoad_X7_checkNumbers : GoodIn wsX7_addRoad wsX7_checkNumbers := goodIn_ca (goodIn_r _ [19, 10, 11, 12, 13, 14, 8, 15] (by decide +kernel) (by decide +kernel)) (goodIn_sub (fun _ h => List.mem_cons_of_mem _ (List.mem_append_left _ (List.mem_append_left _ (List.mem_append_left _ (List.mem_append_right _ h))))) (by decide +kernel))
set_option maxRecDepth 20000 in
theorem gX7_addRoad_X7_checkNumbers : GoodIn wsX7_addRoad (wsV RX7 51 RX7 yX7_checkNumbers wsX7_checkNumbers) := goodIn_app (goodIn_of _ (by decide +kernel)) ggX7_addRoad_X7_checkNumbers
theorem dX7_addRoad_15 : decode cX7_addRoad 15 = .ok (.aload_n 0, 1) := by decide +kernel
theorem dX7_addRoad_16 : decode cX7_addRoad 16 = .ok (.invokevirtual 55, 3) := by decide +kernel
set_option maxRecDepth 20000 in
theorem ggX7_addRoad_X7_checkRoomForResource : GoodIn wsX7_addRoad wsX7_checkRoomForResource := goodIn_ca (goodIn_r _ [23, 24, 25, 1, 26, 50, 51, 52, 53, 54, 55, 56, 57, 58, 59, 60] (by decide +kernel) (by decide +kernel)) (goodIn_sub (fun _ h => List.mem_cons_of_mem _ (List.mem_append_left _ (List.mem_append_left _ (List.mem_append_right _ h)))) (by decide +kernel))
set_option maxRecDepth 20000 in
theorem gX7_addRoad_X7_checkRoomForResource : GoodIn wsX7_addRoad (wsV RX7 55 RX7 yX7_checkRoomForResource wsX7_checkRoomForResource) := goodIn_app (goodIn_of _ (by decide +kernel)) ggX7_addRoad_X7_checkRoomForResource
theorem dX7_addRoad_19 : decode cX7_addRoad 19 = .ok (.aload_n 0, 1) := by decide +kernel
theorem dX7_addRoad_20 : decode cX7_addRoad 20 = .ok (.getfield 10, 3) := by decide +kernel
theorem dX7_addRoad_23 : decode cX7_addRoad 23 = .ok (.iload_n 3, 1) := by decide +kernel
theorem dX7_addRoad_24 : decode cX7_addRoad 24 = .ok (.iload 4, 2) := by decide +kernel
theorem dX7_addRoad_26 : decode cX7_addRoad 26 = .ok (.iload 5, 2) := by decide +kernel
theorem dX7_addRoad_28 : decode cX7_addRoad 28 = .ok (.invokevirtual 58, 3) := by decide +kernel
set_option maxRecDepth 20000 in
theorem ggX7_addRoad_X0_putResource : GoodIn wsX7_addRoad wsX0_putResource := goodIn_ca (goodIn_ca (goodIn_r _ [31, 32, 33, 34, 35, 36, 37, 38, 39, 40, 41, 42, 43, 44, 45, 46, 47, 48, 49, 57, 58, 59, 60, 61, 62, 63, 64, 65, 66, 67] (by decide +kernel) (by decide +kernel)) (goodIn_sub (fun _ h => List.mem_cons_of_mem _ (List.mem_append_left _ (List.mem_append_right _ h))) (by decide +kernel))) (goodIn_sub (fun _ h => List.mem_cons_of_mem _ (List.mem_append_right _ h)) (by decide +kernel))
set_option maxRecDepth 20000 in
theorem gX7_addRoad_X0_putResource : GoodIn wsX7_addRoad (wsV RX7 58 RX0 yX0_putResource wsX0_putResource) := goodIn_app (goodIn_of _ (by decide +kernel)) ggX7_addRoad_X0_putResource
theorem dX7_addRoad_31 : decode cX7_addRoad 31 = .ok (.istore 6, 2) := by decide +kernel
theorem dX7_addRoad_33 : decode cX7_addRoad 33 = .ok (.aload_n 0, 1) := by decide +kernel
theorem dX7_addRoad_34 : decode cX7_addRoad 34 = .ok (.getfield 10, 3) := by decide +kernel
theorem dX7_addRoad_37 : decode cX7_addRoad 37 = .ok (.getfield 66, 3) := by decide +kernel
theorem dX7_addRoad_40 : decode cX7_addRoad 40 = .ok (.iload 6, 2) := by decide +kernel
theorem dX7_addRoad_42 : decode cX7_addRoad 42 = .ok (.aaload, 1) := by decide +kernel
theorem dX7_addRoad_43 : decode cX7_addRoad 43 = .ok (.iload_n 1, 1) := by decide +kernel
theorem dX7_addRoad_44 : decode cX7_addRoad 44 = .ok (.putfield 70, 3) := by decide +kernel
theorem dX7_addRoad_47 : decode cX7_addRoad 47 = .ok (.aload_n 0, 1) := by decide +kernel
theorem dX7_addRoad_48 : decode cX7_addRoad 48 = .ok (.getfield 10, 3) := by decide +kernel
theorem dX7_addRoad_51 : decode cX7_addRoad 51 = .ok (.getfield 66, 3) := by decide +kernel
theorem dX7_addRoad_54 : decode cX7_addRoad 54 = .ok (.iload 6, 2) := by decide +kernel
theorem dX7_addRoad_56 : decode cX7_addRoad 56 = .ok (.aaload, 1) := by decide +kernel
theorem dX7_addRoad_57 : decode cX7_addRoad 57 = .ok (.iload_n 2, 1) := by decide +kernel
theorem dX7_addRoad_58 : decode cX7_addRoad 58 = .ok (.putfield 75, 3) := by decide +kernel
theorem dX7_addRoad_61 : decode cX7_addRoad 61 = .ok (.iload 6, 2) := by decide +kernel
theorem dX7_addRoad_63 : decode cX7_addRoad 63 = .ok (.ireturn, 1) := by decide +kernel
set_option maxHeartbeats 4000000 in
set_option maxRecDepth 100000 in
theorem k_X7_addRoad (l : Launch) (hl9 : l.stackTraces = false) (D : va_G) (cy : Nat → ClassId) (h1 : Nat) (p0 : Int32) (p1 : Int32) (p2 : Int32) (p3 : Int32) (p4 : Int32) (h2 : Nat) (x3 : Value) (x4 : Value) (x5 : Value) (x6 : Value) (x7 : Value) (x8 : Value) (h9 : Nat) (x10 : Value) (x11 : Value) (g12 : Nat → Option Nat) (h13 : Nat) (kg12_0 : g12 0 = some h13) (x14 : Value) (x15 : Value) (x16 : Value) (h17 : Nat) (g18 : Nat → Int32) (sz : Nat) : vx_Met l yX7_addRoad wsX7_addRoad ({ frames := 8, cells := 5, slots := 30, locals := 128 }) (kWX D cy [.ref h1, .int p0, .int p1, .int p2, .int p3, .int p4] [(h1, .inr (9, [.ref h2, x3, x4, x5, x6, x7, x8])), (h2, .inr (2, [.ref h9, x10, .int 0, x11])), (h9, .inl (cy 5, 8, .inr (.inr (.inr (.inr g12))))), (h13, .inr (7, [.int 0, .int 0, .int 99, x14, x15, x16, .ref h17])), (h17, .inl (cy 1, 19, .inl g18))] sz) (va_Qi (fun (r : Int32) (u : (Nat → Int32)) => match u with | u1 => r = 0 ∧ ((((0 : Int) ≤ p0.toInt ∧ p0.toInt ≤ (5 : Int)) ∧ ((0 : Int) ≤ p1.toInt ∧ p1.toInt ≤ (5 : Int)) ∧ p0.toInt ≠ p1.toInt) ∧ ((p2.toInt = (99 : Int) ∨ p2.toInt = (108 : Int) ∨ p2.toInt = (113 : Int) ∨ p2.toInt = (115 : Int)) ∧ ((0 : Int) ≤ p3.toInt ∧ p3.toInt ≤ (20 : Int)) ∧ ((0 : Int) ≤ p4.toInt ∧ p4.toInt ≤ (999 : Int))))) (fun (u : (Nat → Int32)) (t : State) => match u with | u1 => va_P D vwCl [(h1, .inr (9, [.ref h2, x3, x4, x5, x6, x7, x8])), (h2, .inr (2, [.ref h9, x10, .int 1, x11])), (h9, .inl (cy 5, 8, .inr (.inr (.inr (.inr g12))))), (h13, .inr (7, [.int p3, .int p4, .int p2, .int p0, .int p1, x16, .ref h17])), (h17, .inl (cy 1, 19, .inl u1))] t.heap ∧ va_D (va_A [(h1, .inr (9, [.ref h2, x3, x4, x5, x6, x7, x8])), (h2, .inr (2, [.ref h9, x10, .int 0, x11])), (h9, .inl (cy 5, 8, .inr (.inr (.inr (.inr g12))))), (h13, .inr (7, [.int 0, .int 0, .int 99, x14, x15, x16, .ref h17])), (h17, .inl (cy 1, 19, .inl g18))] sz) [(h1, .inr (9, [.ref h2, x3, x4, x5, x6, x7, x8])), (h2, .inr (2, [.ref h9, x10, .int 1, x11])), (h9, .inl (cy 5, 8, .inr (.inr (.inr (.inr g12))))), (h13, .inr (7, [.int p3, .int p4, .int p2, .int p0, .int p1, x16, .ref h17])), (h17, .inl (cy 1, 19, .inl u1))]) (va_A [(h1, .inr (9, [.ref h2, x3, x4, x5, x6, x7, x8])), (h2, .inr (2, [.ref h9, x10, .int 0, x11])), (h9, .inl (cy 5, 8, .inr (.inr (.inr (.inr g12))))), (h13, .inr (7, [.int 0, .int 0, .int 99, x14, x15, x16, .ref h17])), (h17, .inl (cy 1, 19, .inl g18))] sz)) (vx_X (fun _ : Unit => True) (fun (E : String) (_ : Unit) (_ : State) => (E = "java/lang/IllegalArgumentException" ∧ (¬ ((((0 : Int) ≤ p0.toInt ∧ p0.toInt ≤ (5 : Int)) ∧ ((0 : Int) ≤ p1.toInt ∧ p1.toInt ≤ (5 : Int)) ∧ p0.toInt ≠ p1.toInt)) ∨ ((((0 : Int) ≤ p0.toInt ∧ p0.toInt ≤ (5 : Int)) ∧ ((0 : Int) ≤ p1.toInt ∧ p1.toInt ≤ (5 : Int)) ∧ p0.toInt ≠ p1.toInt) ∧ ¬ (((p2.toInt = (99 : Int) ∨ p2.toInt = (108 : Int) ∨ p2.toInt = (113 : Int) ∨ p2.toInt = (115 : Int)) ∧ ((0 : Int) ≤ p3.toInt ∧ p3.toInt ≤ (20 : Int)) ∧ ((0 : Int) ≤ p4.toInt ∧ p4.toInt ≤ (999 : Int)))))))) (va_A [(h1, .inr (9, [.ref h2, x3, x4, x5, x6, x7, x8])), (h2, .inr (2, [.ref h9, x10, .int 0, x11])), (h9, .inl (cy 5, 8, .inr (.inr (.inr (.inr g12))))), (h13, .inr (7, [.int 0, .int 0, .int 99, x14, x15, x16, .ref h17])), (h17, .inl (cy 1, 19, .inl g18))] sz)) 5 30 (va_A [(h1, .inr (9, [.ref h2, x3, x4, x5, x6, x7, x8])), (h2, .inr (2, [.ref h9, x10, .int 0, x11])), (h9, .inl (cy 5, 8, .inr (.inr (.inr (.inr g12))))), (h13, .inr (7, [.int 0, .int 0, .int 99, x14, x15, x16, .ref h17])), (h17, .inl (cy 1, 19, .inl g18))] sz) := by
  refine vx_ofW (cc := cX7_addRoad) (maxL := 7) (ret := (some .int)) (by decide) rfl ?_
  intro p e s m args below meth c s₁ B hml ht9 hv
  obtain ⟨rfl, hsz, hP, hK, hD0, hE⟩ := hv
  have hx := B.exec
  have hb := B.bytes
  have hr := B.returns
  have hts := atoms_spec (ws := wsX7_addRoad) B.pre
  have hown : s.vm.findClass RX7 = some m.cls := findClass_of_methodNamed B.named
  have hlocks := B.notSynchronized
  subst hsz
  have hD := hD0.self (sz := s.heap.size)
  generalize hAe : va_A [(h1, .inr (9, [.ref h2, x3, x4, x5, x6, x7, x8])), (h2, .inr (2, [.ref h9, x10, .int 0, x11])), (h9, .inl (cy 5, 8, .inr (.inr (.inr (.inr g12))))), (h13, .inr (7, [.int 0, .int 0, .int 99, x14, x15, x16, .ref h17])), (h17, .inl (cy 1, 19, .inl g18))] s.heap.size = A at hD hE ⊢
  have hA : ∀ q : Nat, s.heap.size ≤ q → A q := fun q h => by rw [← hAe]; exact Or.inr h
  have hS : va_S A s.heap s.heap [] := va_S.rf
  have hP : va_P D vwCl [(h1, .inr (9, [.ref h2, x3, x4, x5, x6, x7, x8])), (h2, .inr (2, [.ref h9, x10, .int 0, x11])), (h9, .inl (cy 5, 8, .inr (.inr (.inr (.inr g12))))), (h13, .inr (7, [.int 0, .int 0, .int 99, x14, x15, x16, .ref h17])), (h17, .inl (cy 1, 19, .inl g18))] s.heap := hP
  have hl := lv_entry ([.ref h1, .int p0, .int p1, .int p2, .int p3, .int p4]) (n := 7) (Nat.le_of_ble_eq_true rfl)
  rw [lg_entry_eq]
  generalize (lg_sl ([.ref h1, .int p0, .int p1, .int p2, .int p3, .int p4]) ++ List.replicate (7 - (lg_sl ([.ref h1, .int p0, .int p1, .int p2, .int p3, .int p4])).length) Slot.unset).toArray = ls at hl ⊢
  have hl : lv_has ls 7 [(0, .ref h1), (1, .int p0), (2, .int p1), (3, .int p2), (4, .int p3), (5, .int p4)] := hl
  refine lv_aload_n hx hb dX7_addRoad_0 rfl (lv_at hl 0 rfl) ?_
  refine lv_iload_n hx hb dX7_addRoad_1 rfl (lv_at hl 1 rfl) ?_
  refine lv_iload_n hx hb dX7_addRoad_2 rfl (lv_at hl 2 rfl) ?_
  have hPc := hP.sub (ws' := [(h1, .inr (9, [.ref h2, x3, x4, x5, x6, x7, x8]))]) [0] rfl
  refine vx_callv (vx_runV (As := [.int p0, .int p1]) (rest := []) ⟨hx, hb, hml, hown, hts⟩ (k_X7_checkNodes l hl9 D cy h1 p0 p1 (.ref h2) (x3) (x4) (x5) (x6) (x7) (x8)) (cwV 2 hts gX7_addRoad_X7_checkNodes rfl rfl rfl (by decide +kernel) ⟨(Nat.le_of_ble_eq_true rfl), (Nat.le_of_ble_eq_true rfl)⟩) ⟨kRX_fb, va_recv hK hP (ci := 9) (q0 := 0) rfl rfl, (kRX_go hPc hK hE hS)⟩ rfl rfl hl.1 rfl (lv_room (Nat.le_of_ble_eq_true rfl)) dX7_addRoad_3 ⟨(Nat.le_of_ble_eq_true rfl), (Nat.le_of_ble_eq_true rfl)⟩) hS (fun _ _ h => h.elim) (fun _ h => h.elim) (fun _ _ h => h.elim) (fun E9 ce9 q9 u t H locs ht hvm hw hB hz1 hk1 hS hce hcv hcl => ?_) (fun u t H locs ht hvm hw hB hz1 hk1 hS => ?_)
  · obtain ⟨rfl, hB⟩ := hB
    have f_1 : ¬ ((((0 : Int) ≤ p0.toInt ∧ p0.toInt ≤ (5 : Int)) ∧ ((0 : Int) ≤ p1.toInt ∧ p1.toInt ≤ (5 : Int)) ∧ p0.toInt ≠ p1.toInt)) := hB
    exact vx_out (fun x hx => (ht9 x hx).elim) hlocks hce hcv hcl (fun t ht _ => ⟨(), trivial, (⟨rfl, (by omega)⟩), hS.F ht⟩) hS.2.2 (Nat.le_of_ble_eq_true rfl) (Nat.le_of_ble_eq_true rfl)
  · have hP := kx_kept hP hk1
    have f_2 : (((0 : Int) ≤ p0.toInt ∧ p0.toInt ≤ (5 : Int)) ∧ ((0 : Int) ≤ p1.toInt ∧ p1.toInt ≤ (5 : Int)) ∧ p0.toInt ≠ p1.toInt) := hw
    refine lv_aload_n hx hb dX7_addRoad_6 rfl (lv_at hl 0 rfl) ?_
    refine lv_iload_n hx hb dX7_addRoad_7 rfl (lv_at hl 3 rfl) ?_
    refine lv_iload hx hb dX7_addRoad_8 (lv_at hl 4 rfl) ?_
    refine lv_iload hx hb dX7_addRoad_10 (lv_at hl 5 rfl) ?_
    have hPc := hP.sub (ws' := [(h1, .inr (9, [.ref h2, x3, x4, x5, x6, x7, x8]))]) [0] rfl
    refine vx_callv (vx_runV (As := [.int p2, .int p3, .int p4]) (rest := []) ⟨hx, hb, hml, hown, hts⟩ (k_X7_checkNumbers l hl9 D cy h1 p2 p3 p4 (.ref h2) (x3) (x4) (x5) (x6) (x7) (x8)) (cwV 3 hts gX7_addRoad_X7_checkNumbers rfl rfl rfl (by decide +kernel) ⟨(Nat.le_of_ble_eq_true rfl), (Nat.le_of_ble_eq_true rfl)⟩) ⟨kRX_fb, va_recv hK hP (ci := 9) (q0 := 0) rfl rfl, (kRX_go hPc hK hE hS)⟩ rfl rfl hl.1 rfl (lv_room (Nat.le_of_ble_eq_true rfl)) dX7_addRoad_12 ⟨(Nat.le_of_ble_eq_true rfl), (Nat.le_of_ble_eq_true rfl)⟩) hS (fun _ _ h => h.elim) (fun _ h => h.elim) (fun _ _ h => h.elim) (fun E9 ce9 q9 u t H locs ht hvm hw hB hz1 hk1 hS hce hcv hcl => ?_) (fun u t H locs ht hvm hw hB hz1 hk1 hS => ?_)
    · obtain ⟨rfl, hB⟩ := hB
      have f_3 : ¬ (((p2.toInt = (99 : Int) ∨ p2.toInt = (108 : Int) ∨ p2.toInt = (113 : Int) ∨ p2.toInt = (115 : Int)) ∧ ((0 : Int) ≤ p3.toInt ∧ p3.toInt ≤ (20 : Int)) ∧ ((0 : Int) ≤ p4.toInt ∧ p4.toInt ≤ (999 : Int)))) := hB
      exact vx_out (fun x hx => (ht9 x hx).elim) hlocks hce hcv hcl (fun t ht _ => ⟨(), trivial, (⟨rfl, (by omega)⟩), hS.F ht⟩) hS.2.2 (Nat.le_of_ble_eq_true rfl) (Nat.le_of_ble_eq_true rfl)
    · have hP := kx_kept hP hk1
      have f_4 : ((p2.toInt = (99 : Int) ∨ p2.toInt = (108 : Int) ∨ p2.toInt = (113 : Int) ∨ p2.toInt = (115 : Int)) ∧ ((0 : Int) ≤ p3.toInt ∧ p3.toInt ≤ (20 : Int)) ∧ ((0 : Int) ≤ p4.toInt ∧ p4.toInt ≤ (999 : Int))) := hw
      refine lv_aload_n hx hb dX7_addRoad_15 rfl (lv_at hl 0 rfl) ?_
      have hPc := hP.sub (ws' := [(h1, .inr (9, [.ref h2, x3, x4, x5, x6, x7, x8])), (h2, .inr (2, [.ref h9, x10, .int 0, x11]))]) [0, 1] rfl
      refine va_callv (va_runV (As := []) (rest := []) ⟨hx, hb, hml, hown, hts⟩ (k_X7_checkRoomForResource l D cy h1 h2 (x3) (x4) (x5) (x6) (x7) (x8) (.ref h9) (x10) (x11)) (cwV 0 hts gX7_addRoad_X7_checkRoomForResource rfl rfl rfl (by decide +kernel) ⟨(Nat.le_of_ble_eq_true rfl), (Nat.le_of_ble_eq_true rfl)⟩) ⟨kR_fb, va_recv hK hP (ci := 9) (q0 := 0) rfl rfl, (kR_go hPc hK)⟩ rfl rfl hl.1 rfl (lv_room (Nat.le_of_ble_eq_true rfl)) dX7_addRoad_16 ⟨(Nat.le_of_ble_eq_true rfl), (Nat.le_of_ble_eq_true rfl)⟩) hS (fun _ _ h => h.elim) (fun _ h => h.elim) (fun u t H locs ht hvm hw hB hz1 hk1 hS => ?_)
      have hP := kx_kept hP hk1
      refine lv_aload_n hx hb dX7_addRoad_19 rfl (lv_at hl 0 rfl) ?_
      refine va_get (D := D) (ci := 9) (v := .ref h2) (C := RX7) (T := TX7) (N := 7) hx hb hts (fun _ h => (List.mem_cons_of_mem _ (List.mem_append_left _ (List.mem_append_left _ (List.mem_append_left _ (List.mem_append_left _ (List.mem_append_left _ (List.mem_append_left _ (List.mem_append_right _ h))))))))) hown hK hP 0 rfl rfl 0 (by decide) (hts (.fieldLink RX7 10 "SelfishJunction" "board" "LSelfishJunction$Board;") (List.mem_cons_of_mem _ (List.mem_append_left _ (List.mem_append_left _ (List.mem_append_left _ (List.mem_append_left _ (List.mem_append_left _ (List.mem_append_left _ (List.mem_append_left _ (List.mem_append_left _ (List.mem_of_getElem? (i := 0) rfl))))))))))) (fun _ h9 => h9) rfl dX7_addRoad_20 ?_
      refine lv_iload_n hx hb dX7_addRoad_23 rfl (lv_at hl 3 rfl) ?_
      refine lv_iload hx hb dX7_addRoad_24 (lv_at hl 4 rfl) ?_
      refine lv_iload hx hb dX7_addRoad_26 (lv_at hl 5 rfl) ?_
      have hPc := hP.sub (ws' := [(h2, .inr (2, [.ref h9, x10, .int 0, x11])), (h9, .inl (cy 5, 8, .inr (.inr (.inr (.inr g12))))), (h13, .inr (7, [.int 0, .int 0, .int 99, x14, x15, x16, .ref h17])), (h17, .inl (cy 1, 19, .inl g18))]) [1, 2, 3, 4] rfl
      have hDc := hD.sub (ws' := [(h2, .inr (2, [.ref h9, x10, .int 0, x11])), (h9, .inl (cy 5, 8, .inr (.inr (.inr (.inr g12))))), (h13, .inr (7, [.int 0, .int 0, .int 99, x14, x15, x16, .ref h17])), (h17, .inl (cy 1, 19, .inl g18))]) [1, 2, 3, 4] (by decide) rfl
      have hFc := va_free (wc := [(h2, .inr (2, [.ref h9, x10, .int 0, x11])), (h9, .inl (cy 5, 8, .inr (.inr (.inr (.inr g12))))), (h13, .inr (7, [.int 0, .int 0, .int 99, x14, x15, x16, .ref h17])), (h17, .inl (cy 1, 19, .inl g18))]) hD hS hA [1, 2, 3, 4] rfl
      refine va_calli (va_runV (As := [.int p2, .int p3, .int p4]) (rest := []) ⟨hx, hb, hml, hown, hts⟩ (k_X0_putResource l D cy h2 p2 p3 p4 h9 (x10) (x11) g12 h13 (kg12_0) (x14) (x15) (x16) h17 g18 (by omega) H.size) (cwV 3 hts gX7_addRoad_X0_putResource rfl rfl rfl (by decide +kernel) ⟨(Nat.le_of_ble_eq_true rfl), (Nat.le_of_ble_eq_true rfl)⟩) ⟨kW_fb, va_recv hK hP (ci := 2) (q0 := 1) rfl rfl, (kW_go hPc hK hDc)⟩ rfl rfl hl.1 rfl (lv_room (Nat.le_of_ble_eq_true rfl)) dX7_addRoad_28 ⟨(Nat.le_of_ble_eq_true rfl), (Nat.le_of_ble_eq_true rfl)⟩) hS (fun q _ h => hFc q h) hFc (fun r9 u t H locs ht hvm hw hB hz1 hk1 hS => ?_)
      obtain ⟨u_6, rfl⟩ : ∃ z, z = u := ⟨_, rfl⟩
      obtain ⟨hP1, hD1⟩ := hB
      rw [ht] at hP1
      try dsimp only at hw hP1 hD1
      obtain ⟨hP, hD⟩ := va_join (wr := [(h1, .inr (9, [.ref h2, x3, x4, x5, x6, x7, x8]))]) (w1 := [(h2, .inr (2, [.ref h9, x10, .int 1, x11])), (h9, .inl (cy 5, 8, .inr (.inr (.inr (.inr g12))))), (h13, .inr (7, [.int p3, .int p4, .int p2, x14, x15, x16, .ref h17])), (h17, .inl (cy 1, 19, .inl u_6))]) hP hD [1, 2, 3, 4] [0] rfl rfl (by decide) (by decide) hk1 hFc hP1 hD1
      have hP : va_P D vwCl [(h1, .inr (9, [.ref h2, x3, x4, x5, x6, x7, x8])), (h2, .inr (2, [.ref h9, x10, .int 1, x11])), (h9, .inl (cy 5, 8, .inr (.inr (.inr (.inr g12))))), (h13, .inr (7, [.int p3, .int p4, .int p2, x14, x15, x16, .ref h17])), (h17, .inl (cy 1, 19, .inl u_6))] H := hP
      have hD : va_D A [(h1, .inr (9, [.ref h2, x3, x4, x5, x6, x7, x8])), (h2, .inr (2, [.ref h9, x10, .int 1, x11])), (h9, .inl (cy 5, 8, .inr (.inr (.inr (.inr g12))))), (h13, .inr (7, [.int p3, .int p4, .int p2, x14, x15, x16, .ref h17])), (h17, .inl (cy 1, 19, .inl u_6))] := hD
      obtain ⟨rfl, hw⟩ := hw
      refine lv_istore (lv' := [(6, .int 0), (0, .ref h1), (1, .int p0), (2, .int p1), (3, .int p2), (4, .int p3), (5, .int p4)]) hx hb dX7_addRoad_31 hl (by decide) rfl (fun ls hl => ?_)
      refine lv_aload_n hx hb dX7_addRoad_33 rfl (lv_at hl 1 rfl) ?_
      refine va_get (D := D) (ci := 9) (v := .ref h2) (C := RX7) (T := TX7) (N := 7) hx hb hts (fun _ h => (List.mem_cons_of_mem _ (List.mem_append_left _ (List.mem_append_left _ (List.mem_append_left _ (List.mem_append_left _ (List.mem_append_left _ (List.mem_append_left _ (List.mem_append_right _ h))))))))) hown hK hP 0 rfl rfl 0 (by decide) (hts (.fieldLink RX7 10 "SelfishJunction" "board" "LSelfishJunction$Board;") (List.mem_cons_of_mem _ (List.mem_append_left _ (List.mem_append_left _ (List.mem_append_left _ (List.mem_append_left _ (List.mem_append_left _ (List.mem_append_left _ (List.mem_append_left _ (List.mem_append_left _ (List.mem_of_getElem? (i := 0) rfl))))))))))) (fun _ h9 => h9) rfl dX7_addRoad_34 ?_
      refine va_get (D := D) (ci := 2) (v := .ref h9) (C := RX0) (T := TX0) (N := 4) hx hb hts (fun _ h => (List.mem_cons_of_mem _ (List.mem_append_left _ (List.mem_append_left _ (List.mem_append_left _ (List.mem_append_left _ (List.mem_append_left _ (List.mem_append_right _ h)))))))) hown hK hP 1 rfl rfl 0 (by decide) (hts (.fieldLink RX7 66 "SelfishJunction$Board" "resources" "[LSelfishJunction$Resource;") (List.mem_cons_of_mem _ (List.mem_append_left _ (List.mem_append_left _ (List.mem_append_left _ (List.mem_append_left _ (List.mem_append_left _ (List.mem_append_left _ (List.mem_append_left _ (List.mem_append_left _ (List.mem_of_getElem? (i := 1) rfl))))))))))) (fun _ h9 => h9) rfl dX7_addRoad_37 ?_
      refine lv_iload hx hb dX7_addRoad_40 (lv_at hl 0 rfl) ?_
      refine va_aldq hx hb hK hP 2 5 rfl rfl (kx_in 0 8 rfl ⟨(Nat.le_of_ble_eq_true rfl), (Nat.le_of_ble_eq_true rfl)⟩ (Nat.le_of_ble_eq_true rfl)) dX7_addRoad_42 ?_
      refine kx_rf (a := h13) ((kg12_0)) ?_
      refine lv_iload_n hx hb dX7_addRoad_43 rfl (lv_at hl 2 rfl) ?_
      refine va_put (D := D) (ci := 7) (v := .int p0) (ty := .int) (C := RX5) (T := TX5) (N := 7) hx hb hts (fun _ h => (List.mem_cons_of_mem _ (List.mem_append_left _ (List.mem_append_left _ (List.mem_append_left _ (List.mem_append_left _ (List.mem_append_right _ h))))))) tyX5 tyX5_ok nmX5 hown hK hP hD hS 3 rfl rfl 3 (by decide) (hts (.fieldLink RX7 70 "SelfishJunction$Resource" "from" "I") (List.mem_cons_of_mem _ (List.mem_append_left _ (List.mem_append_left _ (List.mem_append_left _ (List.mem_append_left _ (List.mem_append_left _ (List.mem_append_left _ (List.mem_append_left _ (List.mem_append_left _ (List.mem_of_getElem? (i := 2) rfl))))))))))) (fun _ h9 => h9) rfl (by decide +kernel) rfl rfl (Nat.le_of_ble_eq_true rfl) dX7_addRoad_44 (fun H locs hP hD hS => ?_)
      have hP : va_P D vwCl [(h1, .inr (9, [.ref h2, x3, x4, x5, x6, x7, x8])), (h2, .inr (2, [.ref h9, x10, .int 1, x11])), (h9, .inl (cy 5, 8, .inr (.inr (.inr (.inr g12))))), (h13, .inr (7, [.int p3, .int p4, .int p2, .int p0, x15, x16, .ref h17])), (h17, .inl (cy 1, 19, .inl u_6))] H := hP
      have hD : va_D A [(h1, .inr (9, [.ref h2, x3, x4, x5, x6, x7, x8])), (h2, .inr (2, [.ref h9, x10, .int 1, x11])), (h9, .inl (cy 5, 8, .inr (.inr (.inr (.inr g12))))), (h13, .inr (7, [.int p3, .int p4, .int p2, .int p0, x15, x16, .ref h17])), (h17, .inl (cy 1, 19, .inl u_6))] := hD
      refine lv_aload_n hx hb dX7_addRoad_47 rfl (lv_at hl 1 rfl) ?_
      refine va_get (D := D) (ci := 9) (v := .ref h2) (C := RX7) (T := TX7) (N := 7) hx hb hts (fun _ h => (List.mem_cons_of_mem _ (List.mem_append_left _ (List.mem_append_left _ (List.mem_append_left _ (List.mem_append_left _ (List.mem_append_left _ (List.mem_append_left _ (List.mem_append_right _ h))))))))) hown hK hP 0 rfl rfl 0 (by decide) (hts (.fieldLink RX7 10 "SelfishJunction" "board" "LSelfishJunction$Board;") (List.mem_cons_of_mem _ (List.mem_append_left _ (List.mem_append_left _ (List.mem_append_left _ (List.mem_append_left _ (List.mem_append_left _ (List.mem_append_left _ (List.mem_append_left _ (List.mem_append_left _ (List.mem_of_getElem? (i := 0) rfl))))))))))) (fun _ h9 => h9) rfl dX7_addRoad_48 ?_
      refine va_get (D := D) (ci := 2) (v := .ref h9) (C := RX0) (T := TX0) (N := 4) hx hb hts (fun _ h => (List.mem_cons_of_mem _ (List.mem_append_left _ (List.mem_append_left _ (List.mem_append_left _ (List.mem_append_left _ (List.mem_append_left _ (List.mem_append_right _ h)))))))) hown hK hP 1 rfl rfl 0 (by decide) (hts (.fieldLink RX7 66 "SelfishJunction$Board" "resources" "[LSelfishJunction$Resource;") (List.mem_cons_of_mem _ (List.mem_append_left _ (List.mem_append_left _ (List.mem_append_left _ (List.mem_append_left _ (List.mem_append_left _ (List.mem_append_left _ (List.mem_append_left _ (List.mem_append_left _ (List.mem_of_getElem? (i := 1) rfl))))))))))) (fun _ h9 => h9) rfl dX7_addRoad_51 ?_
      refine lv_iload hx hb dX7_addRoad_54 (lv_at hl 0 rfl) ?_
      refine va_aldq hx hb hK hP 2 5 rfl rfl (kx_in 0 8 rfl ⟨(Nat.le_of_ble_eq_true rfl), (Nat.le_of_ble_eq_true rfl)⟩ (Nat.le_of_ble_eq_true rfl)) dX7_addRoad_56 ?_
      refine kx_rf (a := h13) ((kg12_0)) ?_
      refine lv_iload_n hx hb dX7_addRoad_57 rfl (lv_at hl 3 rfl) ?_
      refine va_put (D := D) (ci := 7) (v := .int p1) (ty := .int) (C := RX5) (T := TX5) (N := 7) hx hb hts (fun _ h => (List.mem_cons_of_mem _ (List.mem_append_left _ (List.mem_append_left _ (List.mem_append_left _ (List.mem_append_left _ (List.mem_append_right _ h))))))) tyX5 tyX5_ok nmX5 hown hK hP hD hS 3 rfl rfl 4 (by decide) (hts (.fieldLink RX7 75 "SelfishJunction$Resource" "to" "I") (List.mem_cons_of_mem _ (List.mem_append_left _ (List.mem_append_left _ (List.mem_append_left _ (List.mem_append_left _ (List.mem_append_left _ (List.mem_append_left _ (List.mem_append_left _ (List.mem_append_left _ (List.mem_of_getElem? (i := 3) rfl))))))))))) (fun _ h9 => h9) rfl (by decide +kernel) rfl rfl (Nat.le_of_ble_eq_true rfl) dX7_addRoad_58 (fun H locs hP hD hS => ?_)
      have hP : va_P D vwCl [(h1, .inr (9, [.ref h2, x3, x4, x5, x6, x7, x8])), (h2, .inr (2, [.ref h9, x10, .int 1, x11])), (h9, .inl (cy 5, 8, .inr (.inr (.inr (.inr g12))))), (h13, .inr (7, [.int p3, .int p4, .int p2, .int p0, .int p1, x16, .ref h17])), (h17, .inl (cy 1, 19, .inl u_6))] H := hP
      have hD : va_D A [(h1, .inr (9, [.ref h2, x3, x4, x5, x6, x7, x8])), (h2, .inr (2, [.ref h9, x10, .int 1, x11])), (h9, .inl (cy 5, 8, .inr (.inr (.inr (.inr g12))))), (h13, .inr (7, [.int p3, .int p4, .int p2, .int p0, .int p1, x16, .ref h17])), (h17, .inl (cy 1, 19, .inl u_6))] := hD
      refine lv_iload hx hb dX7_addRoad_61 (lv_at hl 0 rfl) ?_
      refine vx_ret ?_
      refine W.widen (k := 5) (n := 30) (Nat.le_of_ble_eq_true rfl) (Nat.le_of_ble_eq_true rfl) ?_
      have hP9 := hP.sub (ws' := [(h1, .inr (9, [.ref h2, x3, x4, x5, x6, x7, x8])), (h2, .inr (2, [.ref h9, x10, .int 1, x11])), (h9, .inl (cy 5, 8, .inr (.inr (.inr (.inr g12))))), (h13, .inr (7, [.int p3, .int p4, .int p2, .int p0, .int p1, x16, .ref h17])), (h17, .inl (cy 1, 19, .inl u_6))]) [0, 1, 2, 3, 4] rfl
      have hD9 := hD.sub (ws' := [(h1, .inr (9, [.ref h2, x3, x4, x5, x6, x7, x8])), (h2, .inr (2, [.ref h9, x10, .int 1, x11])), (h9, .inl (cy 5, 8, .inr (.inr (.inr (.inr g12))))), (h13, .inr (7, [.int p3, .int p4, .int p2, .int p0, .int p1, x16, .ref h17])), (h17, .inl (cy 1, 19, .inl u_6))]) [0, 1, 2, 3, 4] (by decide) rfl
      exact W.iret (v := 0) hx hb hr (fun t ht hW => ⟨⟨0, (u_6), rfl, ⟨rfl, (by omega)⟩, ⟨by rw [ht]; exact hP9, hD9⟩⟩, hS.F ht⟩) hS.2.2 dX7_addRoad_63
theorem dL_addRoad_0 : decode cL_addRoad 0 = .ok (.aload 6, 2) := by decide +kernel
theorem dL_addRoad_2 : decode cL_addRoad 2 = .ok (.iconst 0, 1) := by decide +kernel
theorem dL_addRoad_3 : decode cL_addRoad 3 = .ok (.aload_n 0, 1) := by decide +kernel
theorem dL_addRoad_4 : decode cL_addRoad 4 = .ok (.iload_n 1, 1) := by decide +kernel
theorem dL_addRoad_5 : decode cL_addRoad 5 = .ok (.iload_n 2, 1) := by decide +kernel
theorem dL_addRoad_6 : decode cL_addRoad 6 = .ok (.iload_n 3, 1) := by decide +kernel
theorem dL_addRoad_7 : decode cL_addRoad 7 = .ok (.iload 4, 2) := by decide +kernel
theorem dL_addRoad_9 : decode cL_addRoad 9 = .ok (.iload 5, 2) := by decide +kernel
theorem dL_addRoad_11 : decode cL_addRoad 11 = .ok (.invokevirtual 17, 3) := by decide +kernel
set_option maxRecDepth 20000 in
theorem ggL_addRoad_X7_addRoad : GoodIn wsL_addRoad wsX7_addRoad := goodIn_ca (goodIn_ca (goodIn_ca (goodIn_ca (goodIn_r _ [7, 8, 9, 10, 11, 12, 13, 14, 6, 15, 16, 17, 18, 19, 20, 21, 22, 23, 24, 25, 26, 27, 28, 29, 30, 31, 32, 33, 34, 35, 36, 37, 38, 39, 40, 41, 42, 43, 44, 45, 46, 47, 48, 49, 50, 51, 52, 53, 54, 55, 56, 57, 58, 59, 60, 61, 62, 63, 64, 65, 66, 67, 68, 69, 70, 71, 72, 73] (by decide +kernel) (by decide +kernel)) (goodIn_sub (fun _ h => List.mem_cons_of_mem _ (List.mem_append_left _ (List.mem_append_left _ (List.mem_append_right _ h)))) (by decide +kernel))) (goodIn_sub (fun _ h => List.mem_cons_of_mem _ (List.mem_append_left _ (List.mem_append_right _ h))) (by decide +kernel))) (goodIn_sub (fun _ h => List.mem_cons_of_mem _ (List.mem_append_left _ (List.mem_append_left _ (List.mem_append_left _ (List.mem_append_right _ h))))) (by decide +kernel))) (goodIn_sub (fun _ h => List.mem_cons_of_mem _ (List.mem_append_right _ h)) (by decide +kernel))
set_option maxRecDepth 20000 in
theorem gL_addRoad_X7_addRoad : GoodIn wsL_addRoad (wsV RL 17 RX7 yX7_addRoad wsX7_addRoad) := goodIn_app (goodIn_of _ (by decide +kernel)) ggL_addRoad_X7_addRoad
theorem dL_addRoad_19 : decode cL_addRoad 19 = .ok (.astore 7, 2) := by decide +kernel
theorem dL_addRoad_21 : decode cL_addRoad 21 = .ok (.iconst 1, 1) := by decide +kernel
theorem dL_addRoad_22 : decode cL_addRoad 22 = .ok (.ireturn, 1) := by decide +kernel
theorem dL_addRoad_14 : decode cL_addRoad 14 = .ok (.i2l, 1) := by decide +kernel
theorem dL_addRoad_15 : decode cL_addRoad 15 = .ok (.lastore, 1) := by decide +kernel
theorem dL_addRoad_16 : decode cL_addRoad 16 = .ok (.goto 11, 3) := by decide +kernel
theorem dL_addRoad_27 : decode cL_addRoad 27 = .ok (.iconst 0, 1) := by decide +kernel
theorem dL_addRoad_28 : decode cL_addRoad 28 = .ok (.ireturn, 1) := by decide +kernel
set_option maxHeartbeats 4000000 in
set_option maxRecDepth 100000 in
theorem k_L_addRoad (l : Launch) (hl9 : l.stackTraces = false) (D : va_G) (cy : Nat → ClassId) (h1 : Nat) (p1 : Int32) (p2 : Int32) (p3 : Int32) (p4 : Int32) (p5 : Int32) (h2 : Nat) (h3 : Nat) (x4 : Value) (x5 : Value) (x6 : Value) (x7 : Value) (x8 : Value) (x9 : Value) (g10 : Nat → Int64) (h11 : Nat) (x12 : Value) (x13 : Value) (g14 : Nat → Option Nat) (h15 : Nat) (kg14_0 : g14 0 = some h15) (x16 : Value) (x17 : Value) (x18 : Value) (h19 : Nat) (g20 : Nat → Int32) (sz : Nat) : Met l yL_addRoad wsL_addRoad ({ frames := 9, cells := 5, slots := 30, locals := 154 }) (kWX D cy [.ref h1, .int p1, .int p2, .int p3, .int p4, .int p5, .ref h2] [(h1, .inr (9, [.ref h3, x4, x5, x6, x7, x8, x9])), (h2, .inl (cy 2, 1, .inr (.inl g10))), (h3, .inr (2, [.ref h11, x12, .int 0, x13])), (h11, .inl (cy 5, 8, .inr (.inr (.inr (.inr g14))))), (h15, .inr (7, [.int 0, .int 0, .int 99, x16, x17, x18, .ref h19])), (h19, .inl (cy 1, 19, .inl g20))] sz) (va_Qi (fun (r : Int32) (u : (Nat → Int64)) => match u with | u1 => ((r = 1 ∧ (¬ ((((0 : Int) ≤ p1.toInt ∧ p1.toInt ≤ (5 : Int)) ∧ ((0 : Int) ≤ p2.toInt ∧ p2.toInt ≤ (5 : Int)) ∧ p1.toInt ≠ p2.toInt)) ∨ ((((0 : Int) ≤ p1.toInt ∧ p1.toInt ≤ (5 : Int)) ∧ ((0 : Int) ≤ p2.toInt ∧ p2.toInt ≤ (5 : Int)) ∧ p1.toInt ≠ p2.toInt) ∧ ¬ (((p3.toInt = (99 : Int) ∨ p3.toInt = (108 : Int) ∨ p3.toInt = (113 : Int) ∨ p3.toInt = (115 : Int)) ∧ ((0 : Int) ≤ p4.toInt ∧ p4.toInt ≤ (20 : Int)) ∧ ((0 : Int) ≤ p5.toInt ∧ p5.toInt ≤ (999 : Int))))))) ∨ (r = 0 ∧ (u1 0 = 0) ∧ ((((0 : Int) ≤ p1.toInt ∧ p1.toInt ≤ (5 : Int)) ∧ ((0 : Int) ≤ p2.toInt ∧ p2.toInt ≤ (5 : Int)) ∧ p1.toInt ≠ p2.toInt) ∧ ((p3.toInt = (99 : Int) ∨ p3.toInt = (108 : Int) ∨ p3.toInt = (113 : Int) ∨ p3.toInt = (115 : Int)) ∧ ((0 : Int) ≤ p4.toInt ∧ p4.toInt ≤ (20 : Int)) ∧ ((0 : Int) ≤ p5.toInt ∧ p5.toInt ≤ (999 : Int))))))) (fun (u : (Nat → Int64)) (t : State) => match u with | u1 => va_P D vwCl [(h2, .inl (cy 2, 1, .inr (.inl u1)))] t.heap ∧ va_D (va_A [(h1, .inr (9, [.ref h3, x4, x5, x6, x7, x8, x9])), (h2, .inl (cy 2, 1, .inr (.inl g10))), (h3, .inr (2, [.ref h11, x12, .int 0, x13])), (h11, .inl (cy 5, 8, .inr (.inr (.inr (.inr g14))))), (h15, .inr (7, [.int 0, .int 0, .int 99, x16, x17, x18, .ref h19])), (h19, .inl (cy 1, 19, .inl g20))] sz) [(h2, .inl (cy 2, 1, .inr (.inl u1)))]) (va_A [(h1, .inr (9, [.ref h3, x4, x5, x6, x7, x8, x9])), (h2, .inl (cy 2, 1, .inr (.inl g10))), (h3, .inr (2, [.ref h11, x12, .int 0, x13])), (h11, .inl (cy 5, 8, .inr (.inr (.inr (.inr g14))))), (h15, .inr (7, [.int 0, .int 0, .int 99, x16, x17, x18, .ref h19])), (h19, .inl (cy 1, 19, .inl g20))] sz)) 5 30 (va_A [(h1, .inr (9, [.ref h3, x4, x5, x6, x7, x8, x9])), (h2, .inl (cy 2, 1, .inr (.inl g10))), (h3, .inr (2, [.ref h11, x12, .int 0, x13])), (h11, .inl (cy 5, 8, .inr (.inr (.inr (.inr g14))))), (h15, .inr (7, [.int 0, .int 0, .int 99, x16, x17, x18, .ref h19])), (h19, .inl (cy 1, 19, .inl g20))] sz) := by
  refine va_MetW (cc := cL_addRoad) (maxL := 8) (ret := (some .int)) (by decide) rfl ?_
  intro p e s m args below meth c s₁ B hml hv
  obtain ⟨rfl, hsz, hP, hK, hD0, hE⟩ := hv
  have hx := B.exec
  have hb := B.bytes
  have hr := B.returns
  have hts := atoms_spec (ws := wsL_addRoad) B.pre
  have hown : s.vm.findClass RL = some m.cls := findClass_of_methodNamed B.named
  have hlocks := B.notSynchronized
  have htb := vx_table (x := yL_addRoad) B (hts _ (List.mem_cons_self))
  subst hsz
  have hD := hD0.self (sz := s.heap.size)
  generalize hAe : va_A [(h1, .inr (9, [.ref h3, x4, x5, x6, x7, x8, x9])), (h2, .inl (cy 2, 1, .inr (.inl g10))), (h3, .inr (2, [.ref h11, x12, .int 0, x13])), (h11, .inl (cy 5, 8, .inr (.inr (.inr (.inr g14))))), (h15, .inr (7, [.int 0, .int 0, .int 99, x16, x17, x18, .ref h19])), (h19, .inl (cy 1, 19, .inl g20))] s.heap.size = A at hD hE ⊢
  have hA : ∀ q : Nat, s.heap.size ≤ q → A q := fun q h => by rw [← hAe]; exact Or.inr h
  have hS : va_S A s.heap s.heap [] := va_S.rf
  have hP : va_P D vwCl [(h1, .inr (9, [.ref h3, x4, x5, x6, x7, x8, x9])), (h2, .inl (cy 2, 1, .inr (.inl g10))), (h3, .inr (2, [.ref h11, x12, .int 0, x13])), (h11, .inl (cy 5, 8, .inr (.inr (.inr (.inr g14))))), (h15, .inr (7, [.int 0, .int 0, .int 99, x16, x17, x18, .ref h19])), (h19, .inl (cy 1, 19, .inl g20))] s.heap := hP
  have hl := lv_entry ([.ref h1, .int p1, .int p2, .int p3, .int p4, .int p5, .ref h2]) (n := 8) (Nat.le_of_ble_eq_true rfl)
  rw [lg_entry_eq]
  generalize (lg_sl ([.ref h1, .int p1, .int p2, .int p3, .int p4, .int p5, .ref h2]) ++ List.replicate (8 - (lg_sl ([.ref h1, .int p1, .int p2, .int p3, .int p4, .int p5, .ref h2])).length) Slot.unset).toArray = ls at hl ⊢
  have hl : lv_has ls 8 [(0, .ref h1), (1, .int p1), (2, .int p2), (3, .int p3), (4, .int p4), (5, .int p5), (6, .ref h2)] := hl
  refine lv_aload hx hb dL_addRoad_0 (lv_at hl 6 rfl) ?_
  refine lv_iconst (v := 0) hx hb dL_addRoad_2 (by decide) ?_
  refine lv_aload_n hx hb dL_addRoad_3 rfl (lv_at hl 0 rfl) ?_
  refine lv_iload_n hx hb dL_addRoad_4 rfl (lv_at hl 1 rfl) ?_
  refine lv_iload_n hx hb dL_addRoad_5 rfl (lv_at hl 2 rfl) ?_
  refine lv_iload_n hx hb dL_addRoad_6 rfl (lv_at hl 3 rfl) ?_
  refine lv_iload hx hb dL_addRoad_7 (lv_at hl 4 rfl) ?_
  refine lv_iload hx hb dL_addRoad_9 (lv_at hl 5 rfl) ?_
  have hPc := hP.sub (ws' := [(h1, .inr (9, [.ref h3, x4, x5, x6, x7, x8, x9])), (h3, .inr (2, [.ref h11, x12, .int 0, x13])), (h11, .inl (cy 5, 8, .inr (.inr (.inr (.inr g14))))), (h15, .inr (7, [.int 0, .int 0, .int 99, x16, x17, x18, .ref h19])), (h19, .inl (cy 1, 19, .inl g20))]) [0, 2, 3, 4, 5] rfl
  have hDc := hD.sub (ws' := [(h1, .inr (9, [.ref h3, x4, x5, x6, x7, x8, x9])), (h3, .inr (2, [.ref h11, x12, .int 0, x13])), (h11, .inl (cy 5, 8, .inr (.inr (.inr (.inr g14))))), (h15, .inr (7, [.int 0, .int 0, .int 99, x16, x17, x18, .ref h19])), (h19, .inl (cy 1, 19, .inl g20))]) [0, 2, 3, 4, 5] (by decide) rfl
  have hFc := va_free (wc := [(h1, .inr (9, [.ref h3, x4, x5, x6, x7, x8, x9])), (h3, .inr (2, [.ref h11, x12, .int 0, x13])), (h11, .inl (cy 5, 8, .inr (.inr (.inr (.inr g14))))), (h15, .inr (7, [.int 0, .int 0, .int 99, x16, x17, x18, .ref h19])), (h19, .inl (cy 1, 19, .inl g20))]) hD hS hA [0, 2, 3, 4, 5] rfl
  refine vx_calli (vx_runV (As := [.int p1, .int p2, .int p3, .int p4, .int p5]) (rest := [.int 0, .ref h2]) ⟨hx, hb, hml, hown, hts⟩ (k_X7_addRoad l hl9 D cy h1 p1 p2 p3 p4 p5 h3 (x4) (x5) (x6) (x7) (x8) (x9) h11 (x12) (x13) g14 h15 (kg14_0) (x16) (x17) (x18) h19 g20 s.heap.size) (cwV 5 hts gL_addRoad_X7_addRoad rfl rfl rfl (by decide +kernel) ⟨(Nat.le_of_ble_eq_true rfl), (Nat.le_of_ble_eq_true rfl)⟩) ⟨kWX_fb, va_recv hK hP (ci := 9) (q0 := 0) rfl rfl, (kWX_go hPc hK hDc hFc hE hS)⟩ rfl rfl hl.1 rfl (lv_room (Nat.le_of_ble_eq_true rfl)) dL_addRoad_11 ⟨(Nat.le_of_ble_eq_true rfl), (Nat.le_of_ble_eq_true rfl)⟩) hS (fun q _ h => hFc q h) hFc (fun q _ h => hFc q h) (fun E9 ce9 q9 u t H locs ht hvm hw hB hz1 hk1 hS hce hcv hcl => ?_) (fun r9 u t H locs ht hvm hw hB hz1 hk1 hS => ?_)
  · obtain ⟨rfl, hB⟩ := hB
    have f_1 : (¬ ((((0 : Int) ≤ p1.toInt ∧ p1.toInt ≤ (5 : Int)) ∧ ((0 : Int) ≤ p2.toInt ∧ p2.toInt ≤ (5 : Int)) ∧ p1.toInt ≠ p2.toInt)) ∨ ((((0 : Int) ≤ p1.toInt ∧ p1.toInt ≤ (5 : Int)) ∧ ((0 : Int) ≤ p2.toInt ∧ p2.toInt ≤ (5 : Int)) ∧ p1.toInt ≠ p2.toInt) ∧ ¬ (((p3.toInt = (99 : Int) ∨ p3.toInt = (108 : Int) ∨ p3.toInt = (113 : Int) ∨ p3.toInt = (115 : Int)) ∧ ((0 : Int) ≤ p4.toInt ∧ p4.toInt ≤ (20 : Int)) ∧ ((0 : Int) ≤ p5.toInt ∧ p5.toInt ≤ (999 : Int)))))) := hB
    obtain ⟨hP, hD⟩ := va_join (wr := [(h2, .inl (cy 2, 1, .inr (.inl g10)))]) (w1 := []) hP hD [0, 2, 3, 4, 5] [1] rfl rfl (by decide) (by decide) hk1 hFc (fun k q h => by simp at h) ⟨fun i j p q h => by simp at h, fun k q h => by simp at h⟩
    have hP : va_P D vwCl [(h2, .inl (cy 2, 1, .inr (.inl g10)))] H := hP
    have hD : va_D A [(h2, .inl (cy 2, 1, .inr (.inl g10)))] := hD
    refine vx_catch (E := "java/lang/IllegalArgumentException") (name := "java/lang/IllegalArgumentException") hown [] (⟨0, 16, 19, 13⟩ : ExceptionTableEntry) [(⟨0, 16, 23, 15⟩ : ExceptionTableEntry)] htb (fun _ h => absurd h List.not_mem_nil) rfl (by decide) (hts (.classLink RL 13 "java/lang/IllegalArgumentException") (List.mem_cons_of_mem _ (List.mem_append_left _ (List.mem_append_left _ (List.mem_append_left _ (List.mem_append_left _ (List.mem_append_left _ (List.mem_append_left _ (List.mem_append_left _ (List.mem_append_left _ (List.mem_of_getElem? (i := 0) rfl))))))))))) (exP.cast hE "java/lang/IllegalArgumentException" (by decide +kernel)) hce hcv hcl ?_
    refine lv_astore (lv' := [(7, .ref q9), (0, .ref h1), (1, .int p1), (2, .int p2), (3, .int p3), (4, .int p4), (5, .int p5), (6, .ref h2)]) hx hb dL_addRoad_19 hl (by decide) rfl (fun ls hl => ?_)
    refine lv_iconst (v := 1) hx hb dL_addRoad_21 (by decide) ?_
    refine W.widen (k := 5) (n := 30) (Nat.le_of_ble_eq_true rfl) (Nat.le_of_ble_eq_true rfl) ?_
    have hP9 := hP.sub (ws' := [(h2, .inl (cy 2, 1, .inr (.inl g10)))]) [0] rfl
    have hD9 := hD.sub (ws' := [(h2, .inl (cy 2, 1, .inr (.inl g10)))]) [0] (by decide) rfl
    exact W.iret (v := 1) hx hb hr (fun t ht hW => ⟨⟨1, (g10), rfl, Or.inl (⟨rfl, (by omega)⟩), ⟨by rw [ht]; exact hP9, hD9⟩⟩, hS.F ht⟩) hS.2.2 dL_addRoad_22
  · obtain ⟨u_2, rfl⟩ : ∃ z, z = u := ⟨_, rfl⟩
    obtain ⟨hP1, hD1⟩ := hB
    rw [ht] at hP1
    try dsimp only at hw hP1 hD1
    obtain ⟨hP, hD⟩ := va_join (wr := [(h2, .inl (cy 2, 1, .inr (.inl g10)))]) (w1 := [(h1, .inr (9, [.ref h3, x4, x5, x6, x7, x8, x9])), (h3, .inr (2, [.ref h11, x12, .int 1, x13])), (h11, .inl (cy 5, 8, .inr (.inr (.inr (.inr g14))))), (h15, .inr (7, [.int p4, .int p5, .int p3, .int p1, .int p2, x18, .ref h19])), (h19, .inl (cy 1, 19, .inl u_2))]) hP hD [0, 2, 3, 4, 5] [1] rfl rfl (by decide) (by decide) hk1 hFc hP1 hD1
    have hP : va_P D vwCl [(h2, .inl (cy 2, 1, .inr (.inl g10))), (h1, .inr (9, [.ref h3, x4, x5, x6, x7, x8, x9])), (h3, .inr (2, [.ref h11, x12, .int 1, x13])), (h11, .inl (cy 5, 8, .inr (.inr (.inr (.inr g14))))), (h15, .inr (7, [.int p4, .int p5, .int p3, .int p1, .int p2, x18, .ref h19])), (h19, .inl (cy 1, 19, .inl u_2))] H := hP
    have hD : va_D A [(h2, .inl (cy 2, 1, .inr (.inl g10))), (h1, .inr (9, [.ref h3, x4, x5, x6, x7, x8, x9])), (h3, .inr (2, [.ref h11, x12, .int 1, x13])), (h11, .inl (cy 5, 8, .inr (.inr (.inr (.inr g14))))), (h15, .inr (7, [.int p4, .int p5, .int p3, .int p1, .int p2, x18, .ref h19])), (h19, .inl (cy 1, 19, .inl u_2))] := hD
    refine W.widen (k := 5) (n := 30) (Nat.le_of_ble_eq_true rfl) (Nat.le_of_ble_eq_true rfl) ?_
    obtain ⟨rfl, hw⟩ := hw
    have f_3 : ((((0 : Int) ≤ p1.toInt ∧ p1.toInt ≤ (5 : Int)) ∧ ((0 : Int) ≤ p2.toInt ∧ p2.toInt ≤ (5 : Int)) ∧ p1.toInt ≠ p2.toInt) ∧ ((p3.toInt = (99 : Int) ∨ p3.toInt = (108 : Int) ∨ p3.toInt = (113 : Int) ∨ p3.toInt = (115 : Int)) ∧ ((0 : Int) ≤ p4.toInt ∧ p4.toInt ≤ (20 : Int)) ∧ ((0 : Int) ≤ p5.toInt ∧ p5.toInt ≤ (999 : Int)))) := hw
    refine lv_i2l (v := 0) hx hb dL_addRoad_14 (by decide) ?_
    refine va_last hx hb hK hP hD hS 0 2 rfl rfl (kx_in 0 1 rfl ⟨(Nat.le_of_ble_eq_true rfl), (Nat.le_of_ble_eq_true rfl)⟩ (Nat.le_of_ble_eq_true rfl)) dL_addRoad_15 (fun H locs hP hD hS => ?_)
    have hP : va_P D vwCl [(h2, .inl (cy 2, 1, .inr (.inl (vp_updL g10 0 0)))), (h1, .inr (9, [.ref h3, x4, x5, x6, x7, x8, x9])), (h3, .inr (2, [.ref h11, x12, .int 1, x13])), (h11, .inl (cy 5, 8, .inr (.inr (.inr (.inr g14))))), (h15, .inr (7, [.int p4, .int p5, .int p3, .int p1, .int p2, x18, .ref h19])), (h19, .inl (cy 1, 19, .inl u_2))] H := hP
    have hD : va_D A [(h2, .inl (cy 2, 1, .inr (.inl (vp_updL g10 0 0)))), (h1, .inr (9, [.ref h3, x4, x5, x6, x7, x8, x9])), (h3, .inr (2, [.ref h11, x12, .int 1, x13])), (h11, .inl (cy 5, 8, .inr (.inr (.inr (.inr g14))))), (h15, .inr (7, [.int p4, .int p5, .int p3, .int p1, .int p2, x18, .ref h19])), (h19, .inl (cy 1, 19, .inl u_2))] := hD
    refine lv_goto (tgt := 27) hx hb dL_addRoad_16 (by decide) ?_
    refine lv_iconst (v := 0) hx hb dL_addRoad_27 (by decide) ?_
    refine W.widen (k := 5) (n := 30) (Nat.le_of_ble_eq_true rfl) (Nat.le_of_ble_eq_true rfl) ?_
    have hP9 := hP.sub (ws' := [(h2, .inl (cy 2, 1, .inr (.inl (vp_updL g10 0 0))))]) [0] rfl
    have hD9 := hD.sub (ws' := [(h2, .inl (cy 2, 1, .inr (.inl (vp_updL g10 0 0))))]) [0] (by decide) rfl
    exact W.iret (v := 0) hx hb hr (fun t ht hW => ⟨⟨0, ((vp_updL g10 0 0)), rfl, Or.inr (⟨rfl, (rfl), (by omega)⟩), ⟨by rw [ht]; exact hP9, hD9⟩⟩, hS.F ht⟩) hS.2.2 dL_addRoad_28
theorem dX8_areNoNodes_0 : decode cX8_areNoNodes 0 = .ok (.iload_n 0, 1) := by decide +kernel
theorem dX8_areNoNodes_1 : decode cX8_areNoNodes 1 = .ok (.iconst 0, 1) := by decide +kernel
theorem dX8_areNoNodes_2 : decode cX8_areNoNodes 2 = .ok (.iconst 5, 1) := by decide +kernel
theorem dX8_areNoNodes_3 : decode cX8_areNoNodes 3 = .ok (.invokestatic 65, 3) := by decide +kernel
set_option maxRecDepth 20000 in
theorem ggX8_areNoNodes_X8_isIn : GoodIn wsX8_areNoNodes wsX8_isIn := goodIn_r _ [4] (by decide +kernel) (by decide +kernel)
set_option maxRecDepth 20000 in
theorem gX8_areNoNodes_X8_isIn : GoodIn wsX8_areNoNodes (va_wsS RX8 65 yX8_isIn wsX8_isIn) := goodIn_app (goodIn_of _ (by decide +kernel)) ggX8_areNoNodes_X8_isIn
theorem dX8_areNoNodes_6 : decode cX8_areNoNodes 6 = .ok (.ifCond .eq 17, 3) := by decide +kernel
theorem dX8_areNoNodes_9 : decode cX8_areNoNodes 9 = .ok (.iload_n 1, 1) := by decide +kernel
theorem dX8_areNoNodes_10 : decode cX8_areNoNodes 10 = .ok (.iconst 0, 1) := by decide +kernel
theorem dX8_areNoNodes_11 : decode cX8_areNoNodes 11 = .ok (.iconst 5, 1) := by decide +kernel
theorem dX8_areNoNodes_12 : decode cX8_areNoNodes 12 = .ok (.invokestatic 65, 3) := by decide +kernel
theorem dX8_areNoNodes_15 : decode cX8_areNoNodes 15 = .ok (.ifCond .eq 8, 3) := by decide +kernel
theorem dX8_areNoNodes_18 : decode cX8_areNoNodes 18 = .ok (.iload_n 0, 1) := by decide +kernel
theorem dX8_areNoNodes_19 : decode cX8_areNoNodes 19 = .ok (.iload_n 1, 1) := by decide +kernel
theorem dX8_areNoNodes_20 : decode cX8_areNoNodes 20 = .ok (.if_icmp .ne 7, 3) := by decide +kernel
theorem dX8_areNoNodes_27 : decode cX8_areNoNodes 27 = .ok (.iconst 0, 1) := by decide +kernel
theorem dX8_areNoNodes_28 : decode cX8_areNoNodes 28 = .ok (.ireturn, 1) := by decide +kernel
theorem dX8_areNoNodes_23 : decode cX8_areNoNodes 23 = .ok (.iconst 1, 1) := by decide +kernel
theorem dX8_areNoNodes_24 : decode cX8_areNoNodes 24 = .ok (.goto 4, 3) := by decide +kernel
set_option maxHeartbeats 4000000 in
set_option maxRecDepth 100000 in
theorem k_X8_areNoNodes (l : Launch) (D : va_G) (cy : Nat → ClassId) (p0 : Int32) (p1 : Int32) : Met l yX8_areNoNodes wsX8_areNoNodes ({ frames := 1, cells := 0, slots := 0, locals := 22 }) (kR D cy [.int p0, .int p1] []) (va_Qi (fun (r : Int32) (_ : Unit) => ((r = 1 ∧ ¬ ((((0 : Int) ≤ p0.toInt ∧ p0.toInt ≤ (5 : Int)) ∧ ((0 : Int) ≤ p1.toInt ∧ p1.toInt ≤ (5 : Int)) ∧ p0.toInt ≠ p1.toInt))) ∨ (r = 0 ∧ (((0 : Int) ≤ p0.toInt ∧ p0.toInt ≤ (5 : Int)) ∧ ((0 : Int) ≤ p1.toInt ∧ p1.toInt ≤ (5 : Int)) ∧ p0.toInt ≠ p1.toInt)))) (fun (_ : Unit) (_ : State) => True) (fun _ : Nat => False)) 0 0 (fun _ : Nat => False) := by
  refine Met.ofW (cc := cX8_areNoNodes) (maxL := 2) (ret := (some .boolean)) (by decide) rfl ?_
  intro p e s m args below meth c s₁ B hml hv
  obtain ⟨rfl, hP, hK⟩ := hv
  have hx := B.exec
  have hb := B.bytes
  have hr := B.returns
  have hts := atoms_spec (ws := wsX8_areNoNodes) B.pre
  have hown : s.vm.findClass RX8 = some m.cls := findClass_of_methodNamed B.named
  have hlocks := B.notSynchronized
  have hS : va_S (fun _ : Nat => False) s.heap s.heap [] := va_S.rf
  have hP : va_P D vwCl [] s.heap := hP
  have hl := lv_entry ([.int p0, .int p1]) (n := 2) (Nat.le_of_ble_eq_true rfl)
  rw [lg_entry_eq]
  generalize (lg_sl ([.int p0, .int p1]) ++ List.replicate (2 - (lg_sl ([.int p0, .int p1])).length) Slot.unset).toArray = ls at hl ⊢
  have hl : lv_has ls 2 [(0, .int p0), (1, .int p1)] := hl
  refine lv_iload_n hx hb dX8_areNoNodes_0 rfl (lv_at hl 0 rfl) ?_
  refine lv_iconst (v := 0) hx hb dX8_areNoNodes_1 (by decide) ?_
  refine lv_iconst (v := 5) hx hb dX8_areNoNodes_2 (by decide) ?_
  have hPc := hP.sub (ws' := []) [] rfl
  refine va_calli (va_runS (As := [.int p0, .int 0, .int 5]) (rest := []) ⟨hx, hb, hml, hown, hts⟩ (k_X8_isIn l D cy p0 0 5) (va_cwS 3 hts gX8_areNoNodes_X8_isIn rfl rfl rfl (by decide +kernel) ⟨(Nat.le_of_ble_eq_true rfl), (Nat.le_of_ble_eq_true rfl)⟩) ⟨kR_fb, (kR_go hPc hK)⟩ rfl rfl hl.1 rfl (lv_room (Nat.le_of_ble_eq_true rfl)) dX8_areNoNodes_3 ⟨(Nat.le_of_ble_eq_true rfl), (Nat.le_of_ble_eq_true rfl)⟩) hS (fun _ _ h => h.elim) (fun _ h => h.elim) (fun r9 u t H locs ht hvm hw hB hz1 hk1 hS => ?_)
  have hP := kx_kept hP hk1
  rcases hw with ⟨rfl, hw⟩ | ⟨rfl, hw⟩
  · have f_1 : ((0 : Int) ≤ p0.toInt ∧ p0.toInt ≤ (5 : Int)) := hw
    refine lv_if_eq (tgt := 23) hx hb dX8_areNoNodes_6 (by decide) (fun h => absurd h (by decide)) (fun _ => ?_)
    refine lv_iload_n hx hb dX8_areNoNodes_9 rfl (lv_at hl 1 rfl) ?_
    refine lv_iconst (v := 0) hx hb dX8_areNoNodes_10 (by decide) ?_
    refine lv_iconst (v := 5) hx hb dX8_areNoNodes_11 (by decide) ?_
    have hPc := hP.sub (ws' := []) [] rfl
    refine va_calli (va_runS (As := [.int p1, .int 0, .int 5]) (rest := []) ⟨hx, hb, hml, hown, hts⟩ (k_X8_isIn l D cy p1 0 5) (va_cwS 3 hts gX8_areNoNodes_X8_isIn rfl rfl rfl (by decide +kernel) ⟨(Nat.le_of_ble_eq_true rfl), (Nat.le_of_ble_eq_true rfl)⟩) ⟨kR_fb, (kR_go hPc hK)⟩ rfl rfl hl.1 rfl (lv_room (Nat.le_of_ble_eq_true rfl)) dX8_areNoNodes_12 ⟨(Nat.le_of_ble_eq_true rfl), (Nat.le_of_ble_eq_true rfl)⟩) hS (fun _ _ h => h.elim) (fun _ h => h.elim) (fun r9 u t H locs ht hvm hw hB hz1 hk1 hS => ?_)
    have hP := kx_kept hP hk1
    rcases hw with ⟨rfl, hw⟩ | ⟨rfl, hw⟩
    · have f_2 : ((0 : Int) ≤ p1.toInt ∧ p1.toInt ≤ (5 : Int)) := hw
      refine lv_if_eq (tgt := 23) hx hb dX8_areNoNodes_15 (by decide) (fun h => absurd h (by decide)) (fun _ => ?_)
      refine lv_iload_n hx hb dX8_areNoNodes_18 rfl (lv_at hl 0 rfl) ?_
      refine lv_iload_n hx hb dX8_areNoNodes_19 rfl (lv_at hl 1 rfl) ?_
      refine lv_icmp_ne (tgt := 27) hx hb dX8_areNoNodes_20 (by decide) (fun c_3 => ?_) (fun c_3 => ?_)
      · have f_4 : p0.toInt ≠ p1.toInt := kx_ne c_3
        refine lv_iconst (v := 0) hx hb dX8_areNoNodes_27 (by decide) ?_
        refine W.widen (k := 0) (n := 0) (Nat.le_of_ble_eq_true rfl) (Nat.le_of_ble_eq_true rfl) ?_
        exact W.zret (v := 0) hx hb hr rfl (fun t ht hW => ⟨⟨0, (), rfl, Or.inr (⟨rfl, (by omega)⟩), trivial⟩, hS.F ht⟩) hS.2.2 dX8_areNoNodes_28
      · have f_5 : p0.toInt = p1.toInt := kx_eq c_3
        refine lv_iconst (v := 1) hx hb dX8_areNoNodes_23 (by decide) ?_
        refine lv_goto (tgt := 28) hx hb dX8_areNoNodes_24 (by decide) ?_
        refine W.widen (k := 0) (n := 0) (Nat.le_of_ble_eq_true rfl) (Nat.le_of_ble_eq_true rfl) ?_
        exact W.zret (v := 1) hx hb hr rfl (fun t ht hW => ⟨⟨1, (), rfl, Or.inl (⟨rfl, (by omega)⟩), trivial⟩, hS.F ht⟩) hS.2.2 dX8_areNoNodes_28
    · have f_6 : ¬ (((0 : Int) ≤ p1.toInt ∧ p1.toInt ≤ (5 : Int))) := hw
      refine lv_if_eq (tgt := 23) hx hb dX8_areNoNodes_15 (by decide) (fun _ => ?_) (fun h => absurd (by decide) h)
      refine lv_iconst (v := 1) hx hb dX8_areNoNodes_23 (by decide) ?_
      refine lv_goto (tgt := 28) hx hb dX8_areNoNodes_24 (by decide) ?_
      refine W.widen (k := 0) (n := 0) (Nat.le_of_ble_eq_true rfl) (Nat.le_of_ble_eq_true rfl) ?_
      exact W.zret (v := 1) hx hb hr rfl (fun t ht hW => ⟨⟨1, (), rfl, Or.inl (⟨rfl, (by omega)⟩), trivial⟩, hS.F ht⟩) hS.2.2 dX8_areNoNodes_28
  · have f_7 : ¬ (((0 : Int) ≤ p0.toInt ∧ p0.toInt ≤ (5 : Int))) := hw
    refine lv_if_eq (tgt := 23) hx hb dX8_areNoNodes_6 (by decide) (fun _ => ?_) (fun h => absurd (by decide) h)
    refine lv_iconst (v := 1) hx hb dX8_areNoNodes_23 (by decide) ?_
    refine lv_goto (tgt := 28) hx hb dX8_areNoNodes_24 (by decide) ?_
    refine W.widen (k := 0) (n := 0) (Nat.le_of_ble_eq_true rfl) (Nat.le_of_ble_eq_true rfl) ?_
    exact W.zret (v := 1) hx hb hr rfl (fun t ht hW => ⟨⟨1, (), rfl, Or.inl (⟨rfl, (by omega)⟩), trivial⟩, hS.F ht⟩) hS.2.2 dX8_areNoNodes_28
set_option maxHeartbeats 4000000 in
set_option maxRecDepth 100000 in
theorem k_X8_adds_1 (l : Launch) (D : va_G) (cy : Nat → ClassId) (h1 : Nat) (p0 : Int32) (p1 : Int32) (p2 : Int32) (p3 : Int32) (p4 : Int32) (h2 : Nat) (h3 : Nat) (h4 : Nat) (h5 : Nat) (h6 : Nat) (x7 : Value) (x8 : Value) (x9 : Value) (x10 : Value) (x11 : Value) (x12 : Value) (x13 : Value) (x14 : Value) (x15 : Value) (x16 : Value) (x17 : Value) (x18 : Value) (g19 : Nat → Int32) (g20 : Nat → Int32) (g21 : Nat → Int32) (g22 : Nat → Int32) (g23 : Nat → Int32) (hpre : ((0 : Int) ≤ p0.toInt ∧ p0.toInt ≤ (65535 : Int))) (sz : Nat) : Met l yX8_adds wsX8_adds ({ frames := 0, cells := 0, slots := 0, locals := 0 }) (kW D cy [.ref h1, .int p0, .int p1, .int p2, .int p3, .int p4] [(h1, .inr (10, [.ref h2, .ref h3, .ref h4, .ref h5, .ref h6, x7, x8, x9, x10, x11, x12, x13, x14, x15, .int 0, x16, x17, x18])), (h2, .inl (cy 0, 8, .inl g19)), (h3, .inl (cy 1, 8, .inl g20)), (h4, .inl (cy 1, 8, .inl g21)), (h5, .inl (cy 1, 8, .inl g22)), (h6, .inl (cy 1, 8, .inl g23))] sz) (va_Qi (fun (r : Int32) (_ : Unit) => r = 0 ∧ True) (fun (_ : Unit) (t : State) => va_P D vwCl [(h1, .inr (10, [.ref h2, .ref h3, .ref h4, .ref h5, .ref h6, x7, x8, x9, x10, x11, x12, x13, x14, x15, .int 1, x16, x17, x18])), (h2, .inl (cy 0, 8, .inl (upd g19 0 p0))), (h3, .inl (cy 1, 8, .inl (upd g20 0 p1))), (h4, .inl (cy 1, 8, .inl (upd g21 0 p2))), (h5, .inl (cy 1, 8, .inl (upd g22 0 p3))), (h6, .inl (cy 1, 8, .inl (upd g23 0 p4)))] t.heap ∧ va_D (va_A [(h1, .inr (10, [.ref h2, .ref h3, .ref h4, .ref h5, .ref h6, x7, x8, x9, x10, x11, x12, x13, x14, x15, .int 0, x16, x17, x18])), (h2, .inl (cy 0, 8, .inl g19)), (h3, .inl (cy 1, 8, .inl g20)), (h4, .inl (cy 1, 8, .inl g21)), (h5, .inl (cy 1, 8, .inl g22)), (h6, .inl (cy 1, 8, .inl g23))] sz) [(h1, .inr (10, [.ref h2, .ref h3, .ref h4, .ref h5, .ref h6, x7, x8, x9, x10, x11, x12, x13, x14, x15, .int 1, x16, x17, x18])), (h2, .inl (cy 0, 8, .inl (upd g19 0 p0))), (h3, .inl (cy 1, 8, .inl (upd g20 0 p1))), (h4, .inl (cy 1, 8, .inl (upd g21 0 p2))), (h5, .inl (cy 1, 8, .inl (upd g22 0 p3))), (h6, .inl (cy 1, 8, .inl (upd g23 0 p4)))]) (va_A [(h1, .inr (10, [.ref h2, .ref h3, .ref h4, .ref h5, .ref h6, x7, x8, x9, x10, x11, x12, x13, x14, x15, .int 0, x16, x17, x18])), (h2, .inl (cy 0, 8, .inl g19)), (h3, .inl (cy 1, 8, .inl g20)), (h4, .inl (cy 1, 8, .inl g21)), (h5, .inl (cy 1, 8, .inl g22)), (h6, .inl (cy 1, 8, .inl g23))] sz)) 0 0 (va_A [(h1, .inr (10, [.ref h2, .ref h3, .ref h4, .ref h5, .ref h6, x7, x8, x9, x10, x11, x12, x13, x14, x15, .int 0, x16, x17, x18])), (h2, .inl (cy 0, 8, .inl g19)), (h3, .inl (cy 1, 8, .inl g20)), (h4, .inl (cy 1, 8, .inl g21)), (h5, .inl (cy 1, 8, .inl g22)), (h6, .inl (cy 1, 8, .inl g23))] sz) := by
  refine Met.ofW (cc := cX8_adds) (maxL := 6) (ret := (some .int)) (by decide) rfl ?_
  intro p e s m args below meth c s₁ B hml hv
  obtain ⟨rfl, hsz, hP, hK, hD0⟩ := hv
  have hx := B.exec
  have hb := B.bytes
  have hr := B.returns
  have hts := atoms_spec (ws := wsX8_adds) B.pre
  have hown : s.vm.findClass RX8 = some m.cls := findClass_of_methodNamed B.named
  have hlocks := B.notSynchronized
  subst hsz
  have hD := hD0.self (sz := s.heap.size)
  generalize hAe : va_A [(h1, .inr (10, [.ref h2, .ref h3, .ref h4, .ref h5, .ref h6, x7, x8, x9, x10, x11, x12, x13, x14, x15, .int 0, x16, x17, x18])), (h2, .inl (cy 0, 8, .inl g19)), (h3, .inl (cy 1, 8, .inl g20)), (h4, .inl (cy 1, 8, .inl g21)), (h5, .inl (cy 1, 8, .inl g22)), (h6, .inl (cy 1, 8, .inl g23))] s.heap.size = A at hD ⊢
  have hA : ∀ q : Nat, s.heap.size ≤ q → A q := fun q h => by rw [← hAe]; exact Or.inr h
  have hS : va_S A s.heap s.heap [] := va_S.rf
  have hP : va_P D vwCl [(h1, .inr (10, [.ref h2, .ref h3, .ref h4, .ref h5, .ref h6, x7, x8, x9, x10, x11, x12, x13, x14, x15, .int 0, x16, x17, x18])), (h2, .inl (cy 0, 8, .inl g19)), (h3, .inl (cy 1, 8, .inl g20)), (h4, .inl (cy 1, 8, .inl g21)), (h5, .inl (cy 1, 8, .inl g22)), (h6, .inl (cy 1, 8, .inl g23))] s.heap := hP
  have hl := lv_entry ([.ref h1, .int p0, .int p1, .int p2, .int p3, .int p4]) (n := 6) (Nat.le_of_ble_eq_true rfl)
  rw [lg_entry_eq]
  generalize (lg_sl ([.ref h1, .int p0, .int p1, .int p2, .int p3, .int p4]) ++ List.replicate (6 - (lg_sl ([.ref h1, .int p0, .int p1, .int p2, .int p3, .int p4])).length) Slot.unset).toArray = ls at hl ⊢
  have hl : lv_has ls 6 [(0, .ref h1), (1, .int p0), (2, .int p1), (3, .int p2), (4, .int p3), (5, .int p4)] := hl
  refine lv_aload_n hx hb dX8_adds_0 rfl (lv_at hl 0 rfl) ?_
  refine va_get (D := D) (ci := 10) (v := .ref h2) (C := RX8) (T := TX8) (N := 18) hx hb hts (fun _ h => (List.mem_cons_of_mem _ (List.mem_append_left _ (List.mem_append_right _ h)))) hown hK hP 0 rfl rfl 0 (by decide) (hts (.fieldLink RX8 9 "SelfishJunctionModel" "kinds" "[C") (List.mem_cons_of_mem _ (List.mem_append_left _ (List.mem_append_left _ (List.mem_of_getElem? (i := 0) rfl))))) (fun _ h9 => h9) rfl dX8_adds_1 ?_
  refine lv_aload_n hx hb dX8_adds_4 rfl (lv_at hl 0 rfl) ?_
  refine va_get (D := D) (ci := 10) (v := .int 0) (C := RX8) (T := TX8) (N := 18) hx hb hts (fun _ h => (List.mem_cons_of_mem _ (List.mem_append_left _ (List.mem_append_right _ h)))) hown hK hP 0 rfl rfl 14 (by decide) (hts (.fieldLink RX8 62 "SelfishJunctionModel" "resources" "I") (List.mem_cons_of_mem _ (List.mem_append_left _ (List.mem_append_left _ (List.mem_of_getElem? (i := 1) rfl))))) (fun _ h9 => h9) rfl dX8_adds_5 ?_
  refine lv_iload_n hx hb dX8_adds_8 rfl (lv_at hl 1 rfl) ?_
  refine va_cast hx hb hK hP hD hS 1 0 rfl rfl (kx_in 0 8 rfl ⟨(Nat.le_of_ble_eq_true rfl), (Nat.le_of_ble_eq_true rfl)⟩ (Nat.le_of_ble_eq_true rfl)) dX8_adds_9 (fun H locs hP hD hS => ?_)
  rw [kx_nar p0 (by omega) (by omega)] at hP hD
  have hP : va_P D vwCl [(h1, .inr (10, [.ref h2, .ref h3, .ref h4, .ref h5, .ref h6, x7, x8, x9, x10, x11, x12, x13, x14, x15, .int 0, x16, x17, x18])), (h2, .inl (cy 0, 8, .inl (upd g19 0 p0))), (h3, .inl (cy 1, 8, .inl g20)), (h4, .inl (cy 1, 8, .inl g21)), (h5, .inl (cy 1, 8, .inl g22)), (h6, .inl (cy 1, 8, .inl g23))] H := hP
  have hD : va_D A [(h1, .inr (10, [.ref h2, .ref h3, .ref h4, .ref h5, .ref h6, x7, x8, x9, x10, x11, x12, x13, x14, x15, .int 0, x16, x17, x18])), (h2, .inl (cy 0, 8, .inl (upd g19 0 p0))), (h3, .inl (cy 1, 8, .inl g20)), (h4, .inl (cy 1, 8, .inl g21)), (h5, .inl (cy 1, 8, .inl g22)), (h6, .inl (cy 1, 8, .inl g23))] := hD
  refine lv_aload_n hx hb dX8_adds_10 rfl (lv_at hl 0 rfl) ?_
  refine va_get (D := D) (ci := 10) (v := .ref h3) (C := RX8) (T := TX8) (N := 18) hx hb hts (fun _ h => (List.mem_cons_of_mem _ (List.mem_append_left _ (List.mem_append_right _ h)))) hown hK hP 0 rfl rfl 1 (by decide) (hts (.fieldLink RX8 13 "SelfishJunctionModel" "as" "[I") (List.mem_cons_of_mem _ (List.mem_append_left _ (List.mem_append_left _ (List.mem_of_getElem? (i := 2) rfl))))) (fun _ h9 => h9) rfl dX8_adds_11 ?_
  refine lv_aload_n hx hb dX8_adds_14 rfl (lv_at hl 0 rfl) ?_
  refine va_get (D := D) (ci := 10) (v := .int 0) (C := RX8) (T := TX8) (N := 18) hx hb hts (fun _ h => (List.mem_cons_of_mem _ (List.mem_append_left _ (List.mem_append_right _ h)))) hown hK hP 0 rfl rfl 14 (by decide) (hts (.fieldLink RX8 62 "SelfishJunctionModel" "resources" "I") (List.mem_cons_of_mem _ (List.mem_append_left _ (List.mem_append_left _ (List.mem_of_getElem? (i := 1) rfl))))) (fun _ h9 => h9) rfl dX8_adds_15 ?_
  refine lv_iload_n hx hb dX8_adds_18 rfl (lv_at hl 2 rfl) ?_
  refine va_iast hx hb hK hP hD hS 2 1 rfl rfl (kx_in 0 8 rfl ⟨(Nat.le_of_ble_eq_true rfl), (Nat.le_of_ble_eq_true rfl)⟩ (Nat.le_of_ble_eq_true rfl)) dX8_adds_19 (fun H locs hP hD hS => ?_)
  have hP : va_P D vwCl [(h1, .inr (10, [.ref h2, .ref h3, .ref h4, .ref h5, .ref h6, x7, x8, x9, x10, x11, x12, x13, x14, x15, .int 0, x16, x17, x18])), (h2, .inl (cy 0, 8, .inl (upd g19 0 p0))), (h3, .inl (cy 1, 8, .inl (upd g20 0 p1))), (h4, .inl (cy 1, 8, .inl g21)), (h5, .inl (cy 1, 8, .inl g22)), (h6, .inl (cy 1, 8, .inl g23))] H := hP
  have hD : va_D A [(h1, .inr (10, [.ref h2, .ref h3, .ref h4, .ref h5, .ref h6, x7, x8, x9, x10, x11, x12, x13, x14, x15, .int 0, x16, x17, x18])), (h2, .inl (cy 0, 8, .inl (upd g19 0 p0))), (h3, .inl (cy 1, 8, .inl (upd g20 0 p1))), (h4, .inl (cy 1, 8, .inl g21)), (h5, .inl (cy 1, 8, .inl g22)), (h6, .inl (cy 1, 8, .inl g23))] := hD
  refine lv_aload_n hx hb dX8_adds_20 rfl (lv_at hl 0 rfl) ?_
  refine va_get (D := D) (ci := 10) (v := .ref h4) (C := RX8) (T := TX8) (N := 18) hx hb hts (fun _ h => (List.mem_cons_of_mem _ (List.mem_append_left _ (List.mem_append_right _ h)))) hown hK hP 0 rfl rfl 2 (by decide) (hts (.fieldLink RX8 17 "SelfishJunctionModel" "bs" "[I") (List.mem_cons_of_mem _ (List.mem_append_left _ (List.mem_append_left _ (List.mem_of_getElem? (i := 3) rfl))))) (fun _ h9 => h9) rfl dX8_adds_21 ?_
  refine lv_aload_n hx hb dX8_adds_24 rfl (lv_at hl 0 rfl) ?_
  refine va_get (D := D) (ci := 10) (v := .int 0) (C := RX8) (T := TX8) (N := 18) hx hb hts (fun _ h => (List.mem_cons_of_mem _ (List.mem_append_left _ (List.mem_append_right _ h)))) hown hK hP 0 rfl rfl 14 (by decide) (hts (.fieldLink RX8 62 "SelfishJunctionModel" "resources" "I") (List.mem_cons_of_mem _ (List.mem_append_left _ (List.mem_append_left _ (List.mem_of_getElem? (i := 1) rfl))))) (fun _ h9 => h9) rfl dX8_adds_25 ?_
  refine lv_iload_n hx hb dX8_adds_28 rfl (lv_at hl 3 rfl) ?_
  refine va_iast hx hb hK hP hD hS 3 1 rfl rfl (kx_in 0 8 rfl ⟨(Nat.le_of_ble_eq_true rfl), (Nat.le_of_ble_eq_true rfl)⟩ (Nat.le_of_ble_eq_true rfl)) dX8_adds_29 (fun H locs hP hD hS => ?_)
  have hP : va_P D vwCl [(h1, .inr (10, [.ref h2, .ref h3, .ref h4, .ref h5, .ref h6, x7, x8, x9, x10, x11, x12, x13, x14, x15, .int 0, x16, x17, x18])), (h2, .inl (cy 0, 8, .inl (upd g19 0 p0))), (h3, .inl (cy 1, 8, .inl (upd g20 0 p1))), (h4, .inl (cy 1, 8, .inl (upd g21 0 p2))), (h5, .inl (cy 1, 8, .inl g22)), (h6, .inl (cy 1, 8, .inl g23))] H := hP
  have hD : va_D A [(h1, .inr (10, [.ref h2, .ref h3, .ref h4, .ref h5, .ref h6, x7, x8, x9, x10, x11, x12, x13, x14, x15, .int 0, x16, x17, x18])), (h2, .inl (cy 0, 8, .inl (upd g19 0 p0))), (h3, .inl (cy 1, 8, .inl (upd g20 0 p1))), (h4, .inl (cy 1, 8, .inl (upd g21 0 p2))), (h5, .inl (cy 1, 8, .inl g22)), (h6, .inl (cy 1, 8, .inl g23))] := hD
  refine lv_aload_n hx hb dX8_adds_30 rfl (lv_at hl 0 rfl) ?_
  refine va_get (D := D) (ci := 10) (v := .ref h5) (C := RX8) (T := TX8) (N := 18) hx hb hts (fun _ h => (List.mem_cons_of_mem _ (List.mem_append_left _ (List.mem_append_right _ h)))) hown hK hP 0 rfl rfl 3 (by decide) (hts (.fieldLink RX8 20 "SelfishJunctionModel" "froms" "[I") (List.mem_cons_of_mem _ (List.mem_append_left _ (List.mem_append_left _ (List.mem_of_getElem? (i := 4) rfl))))) (fun _ h9 => h9) rfl dX8_adds_31 ?_
  refine lv_aload_n hx hb dX8_adds_34 rfl (lv_at hl 0 rfl) ?_
  refine va_get (D := D) (ci := 10) (v := .int 0) (C := RX8) (T := TX8) (N := 18) hx hb hts (fun _ h => (List.mem_cons_of_mem _ (List.mem_append_left _ (List.mem_append_right _ h)))) hown hK hP 0 rfl rfl 14 (by decide) (hts (.fieldLink RX8 62 "SelfishJunctionModel" "resources" "I") (List.mem_cons_of_mem _ (List.mem_append_left _ (List.mem_append_left _ (List.mem_of_getElem? (i := 1) rfl))))) (fun _ h9 => h9) rfl dX8_adds_35 ?_
  refine lv_iload hx hb dX8_adds_38 (lv_at hl 4 rfl) ?_
  refine va_iast hx hb hK hP hD hS 4 1 rfl rfl (kx_in 0 8 rfl ⟨(Nat.le_of_ble_eq_true rfl), (Nat.le_of_ble_eq_true rfl)⟩ (Nat.le_of_ble_eq_true rfl)) dX8_adds_40 (fun H locs hP hD hS => ?_)
  have hP : va_P D vwCl [(h1, .inr (10, [.ref h2, .ref h3, .ref h4, .ref h5, .ref h6, x7, x8, x9, x10, x11, x12, x13, x14, x15, .int 0, x16, x17, x18])), (h2, .inl (cy 0, 8, .inl (upd g19 0 p0))), (h3, .inl (cy 1, 8, .inl (upd g20 0 p1))), (h4, .inl (cy 1, 8, .inl (upd g21 0 p2))), (h5, .inl (cy 1, 8, .inl (upd g22 0 p3))), (h6, .inl (cy 1, 8, .inl g23))] H := hP
  have hD : va_D A [(h1, .inr (10, [.ref h2, .ref h3, .ref h4, .ref h5, .ref h6, x7, x8, x9, x10, x11, x12, x13, x14, x15, .int 0, x16, x17, x18])), (h2, .inl (cy 0, 8, .inl (upd g19 0 p0))), (h3, .inl (cy 1, 8, .inl (upd g20 0 p1))), (h4, .inl (cy 1, 8, .inl (upd g21 0 p2))), (h5, .inl (cy 1, 8, .inl (upd g22 0 p3))), (h6, .inl (cy 1, 8, .inl g23))] := hD
  refine lv_aload_n hx hb dX8_adds_41 rfl (lv_at hl 0 rfl) ?_
  refine va_get (D := D) (ci := 10) (v := .ref h6) (C := RX8) (T := TX8) (N := 18) hx hb hts (fun _ h => (List.mem_cons_of_mem _ (List.mem_append_left _ (List.mem_append_right _ h)))) hown hK hP 0 rfl rfl 4 (by decide) (hts (.fieldLink RX8 23 "SelfishJunctionModel" "tos" "[I") (List.mem_cons_of_mem _ (List.mem_append_left _ (List.mem_append_left _ (List.mem_of_getElem? (i := 5) rfl))))) (fun _ h9 => h9) rfl dX8_adds_42 ?_
  refine lv_aload_n hx hb dX8_adds_45 rfl (lv_at hl 0 rfl) ?_
  refine va_get (D := D) (ci := 10) (v := .int 0) (C := RX8) (T := TX8) (N := 18) hx hb hts (fun _ h => (List.mem_cons_of_mem _ (List.mem_append_left _ (List.mem_append_right _ h)))) hown hK hP 0 rfl rfl 14 (by decide) (hts (.fieldLink RX8 62 "SelfishJunctionModel" "resources" "I") (List.mem_cons_of_mem _ (List.mem_append_left _ (List.mem_append_left _ (List.mem_of_getElem? (i := 1) rfl))))) (fun _ h9 => h9) rfl dX8_adds_46 ?_
  refine lv_iload hx hb dX8_adds_49 (lv_at hl 5 rfl) ?_
  refine va_iast hx hb hK hP hD hS 5 1 rfl rfl (kx_in 0 8 rfl ⟨(Nat.le_of_ble_eq_true rfl), (Nat.le_of_ble_eq_true rfl)⟩ (Nat.le_of_ble_eq_true rfl)) dX8_adds_51 (fun H locs hP hD hS => ?_)
  have hP : va_P D vwCl [(h1, .inr (10, [.ref h2, .ref h3, .ref h4, .ref h5, .ref h6, x7, x8, x9, x10, x11, x12, x13, x14, x15, .int 0, x16, x17, x18])), (h2, .inl (cy 0, 8, .inl (upd g19 0 p0))), (h3, .inl (cy 1, 8, .inl (upd g20 0 p1))), (h4, .inl (cy 1, 8, .inl (upd g21 0 p2))), (h5, .inl (cy 1, 8, .inl (upd g22 0 p3))), (h6, .inl (cy 1, 8, .inl (upd g23 0 p4)))] H := hP
  have hD : va_D A [(h1, .inr (10, [.ref h2, .ref h3, .ref h4, .ref h5, .ref h6, x7, x8, x9, x10, x11, x12, x13, x14, x15, .int 0, x16, x17, x18])), (h2, .inl (cy 0, 8, .inl (upd g19 0 p0))), (h3, .inl (cy 1, 8, .inl (upd g20 0 p1))), (h4, .inl (cy 1, 8, .inl (upd g21 0 p2))), (h5, .inl (cy 1, 8, .inl (upd g22 0 p3))), (h6, .inl (cy 1, 8, .inl (upd g23 0 p4)))] := hD
  refine lv_aload_n hx hb dX8_adds_52 rfl (lv_at hl 0 rfl) ?_
  refine lv_dup hx hb dX8_adds_53 rfl ?_
  refine va_get (D := D) (ci := 10) (v := .int 0) (C := RX8) (T := TX8) (N := 18) hx hb hts (fun _ h => (List.mem_cons_of_mem _ (List.mem_append_left _ (List.mem_append_right _ h)))) hown hK hP 0 rfl rfl 14 (by decide) (hts (.fieldLink RX8 62 "SelfishJunctionModel" "resources" "I") (List.mem_cons_of_mem _ (List.mem_append_left _ (List.mem_append_left _ (List.mem_of_getElem? (i := 1) rfl))))) (fun _ h9 => h9) rfl dX8_adds_54 ?_
  refine lv_iconst (v := 1) hx hb dX8_adds_57 (by decide) ?_
  refine lv_iadd hx hb dX8_adds_58 ?_
  refine lv_topi (fun v_1 ev_1 => ?_)
  obtain rfl : v_1 = 1 := ev_1.trans (by decide)
  refine va_put (D := D) (ci := 10) (v := .int 1) (ty := .int) (C := RX8) (T := TX8) (N := 18) hx hb hts (fun _ h => (List.mem_cons_of_mem _ (List.mem_append_left _ (List.mem_append_right _ h)))) tyX8 tyX8_ok nmX8 hown hK hP hD hS 0 rfl rfl 14 (by decide) (hts (.fieldLink RX8 62 "SelfishJunctionModel" "resources" "I") (List.mem_cons_of_mem _ (List.mem_append_left _ (List.mem_append_left _ (List.mem_of_getElem? (i := 1) rfl))))) (fun _ h9 => h9) rfl (by decide +kernel) rfl rfl (Nat.le_of_ble_eq_true rfl) dX8_adds_59 (fun H locs hP hD hS => ?_)
  have hP : va_P D vwCl [(h1, .inr (10, [.ref h2, .ref h3, .ref h4, .ref h5, .ref h6, x7, x8, x9, x10, x11, x12, x13, x14, x15, .int 1, x16, x17, x18])), (h2, .inl (cy 0, 8, .inl (upd g19 0 p0))), (h3, .inl (cy 1, 8, .inl (upd g20 0 p1))), (h4, .inl (cy 1, 8, .inl (upd g21 0 p2))), (h5, .inl (cy 1, 8, .inl (upd g22 0 p3))), (h6, .inl (cy 1, 8, .inl (upd g23 0 p4)))] H := hP
  have hD : va_D A [(h1, .inr (10, [.ref h2, .ref h3, .ref h4, .ref h5, .ref h6, x7, x8, x9, x10, x11, x12, x13, x14, x15, .int 1, x16, x17, x18])), (h2, .inl (cy 0, 8, .inl (upd g19 0 p0))), (h3, .inl (cy 1, 8, .inl (upd g20 0 p1))), (h4, .inl (cy 1, 8, .inl (upd g21 0 p2))), (h5, .inl (cy 1, 8, .inl (upd g22 0 p3))), (h6, .inl (cy 1, 8, .inl (upd g23 0 p4)))] := hD
  refine lv_aload_n hx hb dX8_adds_62 rfl (lv_at hl 0 rfl) ?_
  refine va_get (D := D) (ci := 10) (v := .int 1) (C := RX8) (T := TX8) (N := 18) hx hb hts (fun _ h => (List.mem_cons_of_mem _ (List.mem_append_left _ (List.mem_append_right _ h)))) hown hK hP 0 rfl rfl 14 (by decide) (hts (.fieldLink RX8 62 "SelfishJunctionModel" "resources" "I") (List.mem_cons_of_mem _ (List.mem_append_left _ (List.mem_append_left _ (List.mem_of_getElem? (i := 1) rfl))))) (fun _ h9 => h9) rfl dX8_adds_63 ?_
  refine lv_iconst (v := 1) hx hb dX8_adds_66 (by decide) ?_
  refine lv_isub hx hb dX8_adds_67 ?_
  refine lv_topi (fun v_2 ev_2 => ?_)
  obtain rfl : v_2 = 0 := ev_2.trans (by decide)
  refine W.widen (k := 0) (n := 0) (Nat.le_of_ble_eq_true rfl) (Nat.le_of_ble_eq_true rfl) ?_
  have hP9 := hP.sub (ws' := [(h1, .inr (10, [.ref h2, .ref h3, .ref h4, .ref h5, .ref h6, x7, x8, x9, x10, x11, x12, x13, x14, x15, .int 1, x16, x17, x18])), (h2, .inl (cy 0, 8, .inl (upd g19 0 p0))), (h3, .inl (cy 1, 8, .inl (upd g20 0 p1))), (h4, .inl (cy 1, 8, .inl (upd g21 0 p2))), (h5, .inl (cy 1, 8, .inl (upd g22 0 p3))), (h6, .inl (cy 1, 8, .inl (upd g23 0 p4)))]) [0, 1, 2, 3, 4, 5] rfl
  have hD9 := hD.sub (ws' := [(h1, .inr (10, [.ref h2, .ref h3, .ref h4, .ref h5, .ref h6, x7, x8, x9, x10, x11, x12, x13, x14, x15, .int 1, x16, x17, x18])), (h2, .inl (cy 0, 8, .inl (upd g19 0 p0))), (h3, .inl (cy 1, 8, .inl (upd g20 0 p1))), (h4, .inl (cy 1, 8, .inl (upd g21 0 p2))), (h5, .inl (cy 1, 8, .inl (upd g22 0 p3))), (h6, .inl (cy 1, 8, .inl (upd g23 0 p4)))]) [0, 1, 2, 3, 4, 5] (by decide) rfl
  exact W.iret (v := 0) hx hb hr (fun t ht hW => ⟨⟨0, (), rfl, ⟨rfl, trivial⟩, ⟨by rw [ht]; exact hP9, hD9⟩⟩, hS.F ht⟩) hS.2.2 dX8_adds_68
theorem dX8_addRoad_0 : decode cX8_addRoad 0 = .ok (.aload_n 0, 1) := by decide +kernel
theorem dX8_addRoad_1 : decode cX8_addRoad 1 = .ok (.iload_n 1, 1) := by decide +kernel
theorem dX8_addRoad_2 : decode cX8_addRoad 2 = .ok (.iload_n 2, 1) := by decide +kernel
theorem dX8_addRoad_3 : decode cX8_addRoad 3 = .ok (.invokestatic 81, 3) := by decide +kernel
set_option maxRecDepth 20000 in
theorem ggX8_addRoad_X8_areNoNodes : GoodIn wsX8_addRoad wsX8_areNoNodes := goodIn_r _ [5, 6, 7, 4, 8] (by decide +kernel) (by decide +kernel)
set_option maxRecDepth 20000 in
theorem gX8_addRoad_X8_areNoNodes : GoodIn wsX8_addRoad (va_wsS RX8 81 yX8_areNoNodes wsX8_areNoNodes) := goodIn_app (goodIn_of _ (by decide +kernel)) ggX8_addRoad_X8_areNoNodes
theorem dX8_addRoad_6 : decode cX8_addRoad 6 = .ok (.ifCond .ne 14, 3) := by decide +kernel
theorem dX8_addRoad_20 : decode cX8_addRoad 20 = .ok (.iconst 1, 1) := by decide +kernel
theorem dX8_addRoad_21 : decode cX8_addRoad 21 = .ok (.goto 4, 3) := by decide +kernel
theorem dX8_addRoad_25 : decode cX8_addRoad 25 = .ok (.iconst 1, 1) := by decide +kernel
theorem dX8_addRoad_26 : decode cX8_addRoad 26 = .ok (.invokevirtual 73, 3) := by decide +kernel
set_option maxRecDepth 20000 in
theorem ggX8_addRoad_X8_isThrown : GoodIn wsX8_addRoad wsX8_isThrown := goodIn_r _ [15, 16, 26, 27, 28, 29, 30, 31, 32, 33, 34, 35, 36, 37, 38, 39, 40, 41, 42, 43] (by decide +kernel) (by decide +kernel)
set_option maxRecDepth 20000 in
theorem gX8_addRoad_X8_isThrown : GoodIn wsX8_addRoad (wsV RX8 73 RX8 yX8_isThrown wsX8_isThrown) := goodIn_app (goodIn_of _ (by decide +kernel)) ggX8_addRoad_X8_isThrown
theorem dX8_addRoad_29 : decode cX8_addRoad 29 = .ok (.ifCond .ne 25, 3) := by decide +kernel
theorem dX8_addRoad_54 : decode cX8_addRoad 54 = .ok (.iconst 0, 1) := by decide +kernel
theorem dX8_addRoad_55 : decode cX8_addRoad 55 = .ok (.goto 14, 3) := by decide +kernel
theorem dX8_addRoad_69 : decode cX8_addRoad 69 = .ok (.ireturn, 1) := by decide +kernel
theorem dX8_addRoad_9 : decode cX8_addRoad 9 = .ok (.iload_n 3, 1) := by decide +kernel
theorem dX8_addRoad_10 : decode cX8_addRoad 10 = .ok (.iload 4, 2) := by decide +kernel
theorem dX8_addRoad_12 : decode cX8_addRoad 12 = .ok (.iload 5, 2) := by decide +kernel
theorem dX8_addRoad_14 : decode cX8_addRoad 14 = .ok (.invokestatic 69, 3) := by decide +kernel
set_option maxRecDepth 20000 in
theorem ggX8_addRoad_X8_isNoResource : GoodIn wsX8_addRoad wsX8_isNoResource := goodIn_r _ [11, 6, 7, 4, 8] (by decide +kernel) (by decide +kernel)
set_option maxRecDepth 20000 in
theorem gX8_addRoad_X8_isNoResource : GoodIn wsX8_addRoad (va_wsS RX8 69 yX8_isNoResource wsX8_isNoResource) := goodIn_app (goodIn_of _ (by decide +kernel)) ggX8_addRoad_X8_isNoResource
theorem dX8_addRoad_17 : decode cX8_addRoad 17 = .ok (.ifCond .eq 7, 3) := by decide +kernel
theorem dX8_addRoad_24 : decode cX8_addRoad 24 = .ok (.iconst 0, 1) := by decide +kernel
theorem dX8_addRoad_32 : decode cX8_addRoad 32 = .ok (.aload_n 0, 1) := by decide +kernel
theorem dX8_addRoad_33 : decode cX8_addRoad 33 = .ok (.aload_n 0, 1) := by decide +kernel
theorem dX8_addRoad_34 : decode cX8_addRoad 34 = .ok (.getfield 62, 3) := by decide +kernel
theorem dX8_addRoad_37 : decode cX8_addRoad 37 = .ok (.bipush 8, 2) := by decide +kernel
theorem dX8_addRoad_39 : decode cX8_addRoad 39 = .ok (.if_icmp .ne 7, 3) := by decide +kernel
theorem dX8_addRoad_46 : decode cX8_addRoad 46 = .ok (.iconst 0, 1) := by decide +kernel
theorem dX8_addRoad_47 : decode cX8_addRoad 47 = .ok (.iconst 2, 1) := by decide +kernel
theorem dX8_addRoad_48 : decode cX8_addRoad 48 = .ok (.invokevirtual 73, 3) := by decide +kernel
theorem dX8_addRoad_51 : decode cX8_addRoad 51 = .ok (.ifCond .eq 7, 3) := by decide +kernel
theorem dX8_addRoad_58 : decode cX8_addRoad 58 = .ok (.aload_n 0, 1) := by decide +kernel
theorem dX8_addRoad_59 : decode cX8_addRoad 59 = .ok (.iload_n 3, 1) := by decide +kernel
theorem dX8_addRoad_60 : decode cX8_addRoad 60 = .ok (.iload 4, 2) := by decide +kernel
theorem dX8_addRoad_62 : decode cX8_addRoad 62 = .ok (.iload 5, 2) := by decide +kernel
theorem dX8_addRoad_64 : decode cX8_addRoad 64 = .ok (.iload_n 1, 1) := by decide +kernel
theorem dX8_addRoad_65 : decode cX8_addRoad 65 = .ok (.iload_n 2, 1) := by decide +kernel
theorem dX8_addRoad_66 : decode cX8_addRoad 66 = .ok (.invokevirtual 77, 3) := by decide +kernel
set_option maxRecDepth 20000 in
theorem ggX8_addRoad_X8_adds : GoodIn wsX8_addRoad wsX8_adds := goodIn_ca (goodIn_r _ [20, 21, 1, 22, 23, 24, 25, 26, 27, 28, 29, 30, 31, 32, 33, 34, 35, 36, 37, 38, 39, 40, 41, 42, 43] (by decide +kernel) (by decide +kernel)) (goodIn_sub (fun _ h => List.mem_cons_of_mem _ (List.mem_append_right _ h)) (by decide +kernel))
set_option maxRecDepth 20000 in
theorem gX8_addRoad_X8_adds : GoodIn wsX8_addRoad (wsV RX8 77 RX8 yX8_adds wsX8_adds) := goodIn_app (goodIn_of _ (by decide +kernel)) ggX8_addRoad_X8_adds
set_option maxHeartbeats 4000000 in
set_option maxRecDepth 100000 in
theorem k_X8_addRoad (l : Launch) (D : va_G) (cy : Nat → ClassId) (h1 : Nat) (p0 : Int32) (p1 : Int32) (p2 : Int32) (p3 : Int32) (p4 : Int32) (h2 : Nat) (h3 : Nat) (h4 : Nat) (h5 : Nat) (h6 : Nat) (x7 : Value) (x8 : Value) (x9 : Value) (x10 : Value) (x11 : Value) (x12 : Value) (x13 : Value) (x14 : Value) (x15 : Value) (x16 : Value) (x17 : Value) (x18 : Value) (g19 : Nat → Int32) (g20 : Nat → Int32) (g21 : Nat → Int32) (g22 : Nat → Int32) (g23 : Nat → Int32) (sz : Nat) : Met l yX8_addRoad wsX8_addRoad ({ frames := 2, cells := 0, slots := 0, locals := 44 }) (kW D cy [.ref h1, .int p0, .int p1, .int p2, .int p3, .int p4] [(h1, .inr (10, [.ref h2, .ref h3, .ref h4, .ref h5, .ref h6, x7, x8, x9, x10, x11, x12, x13, x14, x15, .int 0, x16, x17, x18])), (h2, .inl (cy 0, 8, .inl g19)), (h3, .inl (cy 1, 8, .inl g20)), (h4, .inl (cy 1, 8, .inl g21)), (h5, .inl (cy 1, 8, .inl g22)), (h6, .inl (cy 1, 8, .inl g23))] sz) (va_Qi (fun (r : Int32) (u : Int32 × Int32 × (Nat → Int32) × (Nat → Int32) × (Nat → Int32) × (Nat → Int32) × (Nat → Int32)) => match u with | (y1, y2, u3, u4, u5, u6, u7) => ((r = 0 ∧ (y1 = 0) ∧ (y2 = 1) ∧ (¬ ((((0 : Int) ≤ p0.toInt ∧ p0.toInt ≤ (5 : Int)) ∧ ((0 : Int) ≤ p1.toInt ∧ p1.toInt ≤ (5 : Int)) ∧ p0.toInt ≠ p1.toInt)) ∨ ((((0 : Int) ≤ p0.toInt ∧ p0.toInt ≤ (5 : Int)) ∧ ((0 : Int) ≤ p1.toInt ∧ p1.toInt ≤ (5 : Int)) ∧ p0.toInt ≠ p1.toInt) ∧ ¬ (((p2.toInt = (99 : Int) ∨ p2.toInt = (108 : Int) ∨ p2.toInt = (113 : Int) ∨ p2.toInt = (115 : Int)) ∧ ((0 : Int) ≤ p3.toInt ∧ p3.toInt ≤ (20 : Int)) ∧ ((0 : Int) ≤ p4.toInt ∧ p4.toInt ≤ (999 : Int))))))) ∨ (r = 0 ∧ (y1 = 1) ∧ (y2 = 0) ∧ ((((0 : Int) ≤ p0.toInt ∧ p0.toInt ≤ (5 : Int)) ∧ ((0 : Int) ≤ p1.toInt ∧ p1.toInt ≤ (5 : Int)) ∧ p0.toInt ≠ p1.toInt) ∧ ((p2.toInt = (99 : Int) ∨ p2.toInt = (108 : Int) ∨ p2.toInt = (113 : Int) ∨ p2.toInt = (115 : Int)) ∧ ((0 : Int) ≤ p3.toInt ∧ p3.toInt ≤ (20 : Int)) ∧ ((0 : Int) ≤ p4.toInt ∧ p4.toInt ≤ (999 : Int))))))) (fun (u : Int32 × Int32 × (Nat → Int32) × (Nat → Int32) × (Nat → Int32) × (Nat → Int32) × (Nat → Int32)) (t : State) => match u with | (y1, y2, u3, u4, u5, u6, u7) => va_P D vwCl [(h1, .inr (10, [.ref h2, .ref h3, .ref h4, .ref h5, .ref h6, x7, x8, x9, x10, x11, x12, x13, x14, x15, .int y1, x16, x17, .int y2])), (h2, .inl (cy 0, 8, .inl u3)), (h3, .inl (cy 1, 8, .inl u4)), (h4, .inl (cy 1, 8, .inl u5)), (h5, .inl (cy 1, 8, .inl u6)), (h6, .inl (cy 1, 8, .inl u7))] t.heap ∧ va_D (va_A [(h1, .inr (10, [.ref h2, .ref h3, .ref h4, .ref h5, .ref h6, x7, x8, x9, x10, x11, x12, x13, x14, x15, .int 0, x16, x17, x18])), (h2, .inl (cy 0, 8, .inl g19)), (h3, .inl (cy 1, 8, .inl g20)), (h4, .inl (cy 1, 8, .inl g21)), (h5, .inl (cy 1, 8, .inl g22)), (h6, .inl (cy 1, 8, .inl g23))] sz) [(h1, .inr (10, [.ref h2, .ref h3, .ref h4, .ref h5, .ref h6, x7, x8, x9, x10, x11, x12, x13, x14, x15, .int y1, x16, x17, .int y2])), (h2, .inl (cy 0, 8, .inl u3)), (h3, .inl (cy 1, 8, .inl u4)), (h4, .inl (cy 1, 8, .inl u5)), (h5, .inl (cy 1, 8, .inl u6)), (h6, .inl (cy 1, 8, .inl u7))]) (va_A [(h1, .inr (10, [.ref h2, .ref h3, .ref h4, .ref h5, .ref h6, x7, x8, x9, x10, x11, x12, x13, x14, x15, .int 0, x16, x17, x18])), (h2, .inl (cy 0, 8, .inl g19)), (h3, .inl (cy 1, 8, .inl g20)), (h4, .inl (cy 1, 8, .inl g21)), (h5, .inl (cy 1, 8, .inl g22)), (h6, .inl (cy 1, 8, .inl g23))] sz)) 0 0 (va_A [(h1, .inr (10, [.ref h2, .ref h3, .ref h4, .ref h5, .ref h6, x7, x8, x9, x10, x11, x12, x13, x14, x15, .int 0, x16, x17, x18])), (h2, .inl (cy 0, 8, .inl g19)), (h3, .inl (cy 1, 8, .inl g20)), (h4, .inl (cy 1, 8, .inl g21)), (h5, .inl (cy 1, 8, .inl g22)), (h6, .inl (cy 1, 8, .inl g23))] sz) := by
  refine Met.ofW (cc := cX8_addRoad) (maxL := 6) (ret := (some .int)) (by decide) rfl ?_
  intro p e s m args below meth c s₁ B hml hv
  obtain ⟨rfl, hsz, hP, hK, hD0⟩ := hv
  have hx := B.exec
  have hb := B.bytes
  have hr := B.returns
  have hts := atoms_spec (ws := wsX8_addRoad) B.pre
  have hown : s.vm.findClass RX8 = some m.cls := findClass_of_methodNamed B.named
  have hlocks := B.notSynchronized
  subst hsz
  have hD := hD0.self (sz := s.heap.size)
  generalize hAe : va_A [(h1, .inr (10, [.ref h2, .ref h3, .ref h4, .ref h5, .ref h6, x7, x8, x9, x10, x11, x12, x13, x14, x15, .int 0, x16, x17, x18])), (h2, .inl (cy 0, 8, .inl g19)), (h3, .inl (cy 1, 8, .inl g20)), (h4, .inl (cy 1, 8, .inl g21)), (h5, .inl (cy 1, 8, .inl g22)), (h6, .inl (cy 1, 8, .inl g23))] s.heap.size = A at hD ⊢
  have hA : ∀ q : Nat, s.heap.size ≤ q → A q := fun q h => by rw [← hAe]; exact Or.inr h
  have hS : va_S A s.heap s.heap [] := va_S.rf
  have hP : va_P D vwCl [(h1, .inr (10, [.ref h2, .ref h3, .ref h4, .ref h5, .ref h6, x7, x8, x9, x10, x11, x12, x13, x14, x15, .int 0, x16, x17, x18])), (h2, .inl (cy 0, 8, .inl g19)), (h3, .inl (cy 1, 8, .inl g20)), (h4, .inl (cy 1, 8, .inl g21)), (h5, .inl (cy 1, 8, .inl g22)), (h6, .inl (cy 1, 8, .inl g23))] s.heap := hP
  have hl := lv_entry ([.ref h1, .int p0, .int p1, .int p2, .int p3, .int p4]) (n := 6) (Nat.le_of_ble_eq_true rfl)
  rw [lg_entry_eq]
  generalize (lg_sl ([.ref h1, .int p0, .int p1, .int p2, .int p3, .int p4]) ++ List.replicate (6 - (lg_sl ([.ref h1, .int p0, .int p1, .int p2, .int p3, .int p4])).length) Slot.unset).toArray = ls at hl ⊢
  have hl : lv_has ls 6 [(0, .ref h1), (1, .int p0), (2, .int p1), (3, .int p2), (4, .int p3), (5, .int p4)] := hl
  refine lv_aload_n hx hb dX8_addRoad_0 rfl (lv_at hl 0 rfl) ?_
  refine lv_iload_n hx hb dX8_addRoad_1 rfl (lv_at hl 1 rfl) ?_
  refine lv_iload_n hx hb dX8_addRoad_2 rfl (lv_at hl 2 rfl) ?_
  have hPc := hP.sub (ws' := []) [] rfl
  refine va_calli (va_runS (As := [.int p0, .int p1]) (rest := [.ref h1]) ⟨hx, hb, hml, hown, hts⟩ (k_X8_areNoNodes l D cy p0 p1) (va_cwS 2 hts gX8_addRoad_X8_areNoNodes rfl rfl rfl (by decide +kernel) ⟨(Nat.le_of_ble_eq_true rfl), (Nat.le_of_ble_eq_true rfl)⟩) ⟨kR_fb, (kR_go hPc hK)⟩ rfl rfl hl.1 rfl (lv_room (Nat.le_of_ble_eq_true rfl)) dX8_addRoad_3 ⟨(Nat.le_of_ble_eq_true rfl), (Nat.le_of_ble_eq_true rfl)⟩) hS (fun _ _ h => h.elim) (fun _ h => h.elim) (fun r9 u t H locs ht hvm hw hB hz1 hk1 hS => ?_)
  have hP := kx_kept hP hk1
  rcases hw with ⟨rfl, hw⟩ | ⟨rfl, hw⟩
  · have f_1 : ¬ ((((0 : Int) ≤ p0.toInt ∧ p0.toInt ≤ (5 : Int)) ∧ ((0 : Int) ≤ p1.toInt ∧ p1.toInt ≤ (5 : Int)) ∧ p0.toInt ≠ p1.toInt)) := hw
    refine lv_if_ne (tgt := 20) hx hb dX8_addRoad_6 (by decide) (fun _ => ?_) (fun h => absurd h (by decide))
    refine lv_iconst (v := 1) hx hb dX8_addRoad_20 (by decide) ?_
    refine lv_goto (tgt := 25) hx hb dX8_addRoad_21 (by decide) ?_
    refine lv_iconst (v := 1) hx hb dX8_addRoad_25 (by decide) ?_
    have hPc := hP.sub (ws' := [(h1, .inr (10, [.ref h2, .ref h3, .ref h4, .ref h5, .ref h6, x7, x8, x9, x10, x11, x12, x13, x14, x15, .int 0, x16, x17, x18]))]) [0] rfl
    have hDc := hD.sub (ws' := [(h1, .inr (10, [.ref h2, .ref h3, .ref h4, .ref h5, .ref h6, x7, x8, x9, x10, x11, x12, x13, x14, x15, .int 0, x16, x17, x18]))]) [0] (by decide) rfl
    have hFc := va_free (wc := [(h1, .inr (10, [.ref h2, .ref h3, .ref h4, .ref h5, .ref h6, x7, x8, x9, x10, x11, x12, x13, x14, x15, .int 0, x16, x17, x18]))]) hD hS hA [0] rfl
    refine va_calli (va_runV (As := [.int 1, .int 1]) (rest := []) ⟨hx, hb, hml, hown, hts⟩ (k_X8_isThrown l D cy h1 (.ref h2) (.ref h3) (.ref h4) (.ref h5) (.ref h6) (x7) (x8) (x9) (x10) (x11) (x12) (x13) (x14) (x15) (.int 0) (x16) (x17) (x18) H.size) (cwV 2 hts gX8_addRoad_X8_isThrown rfl rfl rfl (by decide +kernel) ⟨(Nat.le_of_ble_eq_true rfl), (Nat.le_of_ble_eq_true rfl)⟩) ⟨kW_fb, va_recv hK hP (ci := 10) (q0 := 0) rfl rfl, (kW_go hPc hK hDc)⟩ rfl rfl hl.1 rfl (lv_room (Nat.le_of_ble_eq_true rfl)) dX8_addRoad_26 ⟨(Nat.le_of_ble_eq_true rfl), (Nat.le_of_ble_eq_true rfl)⟩) hS (fun q _ h => hFc q h) hFc (fun r9 u t H locs ht hvm hw hB hz1 hk1 hS => ?_)
    obtain ⟨hP1, hD1⟩ := hB
    rw [ht] at hP1
    try dsimp only at hw hP1 hD1
    obtain ⟨hP, hD⟩ := va_join (wr := [(h2, .inl (cy 0, 8, .inl g19)), (h3, .inl (cy 1, 8, .inl g20)), (h4, .inl (cy 1, 8, .inl g21)), (h5, .inl (cy 1, 8, .inl g22)), (h6, .inl (cy 1, 8, .inl g23))]) (w1 := [(h1, .inr (10, [.ref h2, .ref h3, .ref h4, .ref h5, .ref h6, x7, x8, x9, x10, x11, x12, x13, x14, x15, .int 0, x16, x17, .int 1]))]) hP hD [0] [1, 2, 3, 4, 5] rfl rfl (by decide) (by decide) hk1 hFc hP1 hD1
    have hP : va_P D vwCl [(h2, .inl (cy 0, 8, .inl g19)), (h3, .inl (cy 1, 8, .inl g20)), (h4, .inl (cy 1, 8, .inl g21)), (h5, .inl (cy 1, 8, .inl g22)), (h6, .inl (cy 1, 8, .inl g23)), (h1, .inr (10, [.ref h2, .ref h3, .ref h4, .ref h5, .ref h6, x7, x8, x9, x10, x11, x12, x13, x14, x15, .int 0, x16, x17, .int 1]))] H := hP
    have hD : va_D A [(h2, .inl (cy 0, 8, .inl g19)), (h3, .inl (cy 1, 8, .inl g20)), (h4, .inl (cy 1, 8, .inl g21)), (h5, .inl (cy 1, 8, .inl g22)), (h6, .inl (cy 1, 8, .inl g23)), (h1, .inr (10, [.ref h2, .ref h3, .ref h4, .ref h5, .ref h6, x7, x8, x9, x10, x11, x12, x13, x14, x15, .int 0, x16, x17, .int 1]))] := hD
    obtain ⟨rfl, hw⟩ := hw
    refine lv_if_ne (tgt := 54) hx hb dX8_addRoad_29 (by decide) (fun _ => ?_) (fun h => absurd h (by decide))
    refine lv_iconst (v := 0) hx hb dX8_addRoad_54 (by decide) ?_
    refine lv_goto (tgt := 69) hx hb dX8_addRoad_55 (by decide) ?_
    refine W.widen (k := 0) (n := 0) (Nat.le_of_ble_eq_true rfl) (Nat.le_of_ble_eq_true rfl) ?_
    have hP9 := hP.sub (ws' := [(h1, .inr (10, [.ref h2, .ref h3, .ref h4, .ref h5, .ref h6, x7, x8, x9, x10, x11, x12, x13, x14, x15, .int 0, x16, x17, .int 1])), (h2, .inl (cy 0, 8, .inl g19)), (h3, .inl (cy 1, 8, .inl g20)), (h4, .inl (cy 1, 8, .inl g21)), (h5, .inl (cy 1, 8, .inl g22)), (h6, .inl (cy 1, 8, .inl g23))]) [5, 0, 1, 2, 3, 4] rfl
    have hD9 := hD.sub (ws' := [(h1, .inr (10, [.ref h2, .ref h3, .ref h4, .ref h5, .ref h6, x7, x8, x9, x10, x11, x12, x13, x14, x15, .int 0, x16, x17, .int 1])), (h2, .inl (cy 0, 8, .inl g19)), (h3, .inl (cy 1, 8, .inl g20)), (h4, .inl (cy 1, 8, .inl g21)), (h5, .inl (cy 1, 8, .inl g22)), (h6, .inl (cy 1, 8, .inl g23))]) [5, 0, 1, 2, 3, 4] (by decide) rfl
    exact W.iret (v := 0) hx hb hr (fun t ht hW => ⟨⟨0, (0, 1, g19, g20, g21, g22, g23), rfl, Or.inl (⟨rfl, rfl, rfl, (by omega)⟩), ⟨by rw [ht]; exact hP9, hD9⟩⟩, hS.F ht⟩) hS.2.2 dX8_addRoad_69
  · have f_3 : (((0 : Int) ≤ p0.toInt ∧ p0.toInt ≤ (5 : Int)) ∧ ((0 : Int) ≤ p1.toInt ∧ p1.toInt ≤ (5 : Int)) ∧ p0.toInt ≠ p1.toInt) := hw
    refine lv_if_ne (tgt := 20) hx hb dX8_addRoad_6 (by decide) (fun h => absurd (by decide) h) (fun _ => ?_)
    refine lv_iload_n hx hb dX8_addRoad_9 rfl (lv_at hl 3 rfl) ?_
    refine lv_iload hx hb dX8_addRoad_10 (lv_at hl 4 rfl) ?_
    refine lv_iload hx hb dX8_addRoad_12 (lv_at hl 5 rfl) ?_
    have hPc := hP.sub (ws' := []) [] rfl
    refine va_calli (va_runS (As := [.int p2, .int p3, .int p4]) (rest := [.ref h1]) ⟨hx, hb, hml, hown, hts⟩ (k_X8_isNoResource l D cy p2 p3 p4) (va_cwS 3 hts gX8_addRoad_X8_isNoResource rfl rfl rfl (by decide +kernel) ⟨(Nat.le_of_ble_eq_true rfl), (Nat.le_of_ble_eq_true rfl)⟩) ⟨kR_fb, (kR_go hPc hK)⟩ rfl rfl hl.1 rfl (lv_room (Nat.le_of_ble_eq_true rfl)) dX8_addRoad_14 ⟨(Nat.le_of_ble_eq_true rfl), (Nat.le_of_ble_eq_true rfl)⟩) hS (fun _ _ h => h.elim) (fun _ h => h.elim) (fun r9 u t H locs ht hvm hw hB hz1 hk1 hS => ?_)
    have hP := kx_kept hP hk1
    rcases hw with ⟨rfl, hw⟩ | ⟨rfl, hw⟩
    · have f_4 : ¬ (((p2.toInt = (99 : Int) ∨ p2.toInt = (108 : Int) ∨ p2.toInt = (113 : Int) ∨ p2.toInt = (115 : Int)) ∧ ((0 : Int) ≤ p3.toInt ∧ p3.toInt ≤ (20 : Int)) ∧ ((0 : Int) ≤ p4.toInt ∧ p4.toInt ≤ (999 : Int)))) := hw
      refine lv_if_eq (tgt := 24) hx hb dX8_addRoad_17 (by decide) (fun h => absurd h (by decide)) (fun _ => ?_)
      refine lv_iconst (v := 1) hx hb dX8_addRoad_20 (by decide) ?_
      refine lv_goto (tgt := 25) hx hb dX8_addRoad_21 (by decide) ?_
      refine lv_iconst (v := 1) hx hb dX8_addRoad_25 (by decide) ?_
      have hPc := hP.sub (ws' := [(h1, .inr (10, [.ref h2, .ref h3, .ref h4, .ref h5, .ref h6, x7, x8, x9, x10, x11, x12, x13, x14, x15, .int 0, x16, x17, x18]))]) [0] rfl
      have hDc := hD.sub (ws' := [(h1, .inr (10, [.ref h2, .ref h3, .ref h4, .ref h5, .ref h6, x7, x8, x9, x10, x11, x12, x13, x14, x15, .int 0, x16, x17, x18]))]) [0] (by decide) rfl
      have hFc := va_free (wc := [(h1, .inr (10, [.ref h2, .ref h3, .ref h4, .ref h5, .ref h6, x7, x8, x9, x10, x11, x12, x13, x14, x15, .int 0, x16, x17, x18]))]) hD hS hA [0] rfl
      refine va_calli (va_runV (As := [.int 1, .int 1]) (rest := []) ⟨hx, hb, hml, hown, hts⟩ (k_X8_isThrown l D cy h1 (.ref h2) (.ref h3) (.ref h4) (.ref h5) (.ref h6) (x7) (x8) (x9) (x10) (x11) (x12) (x13) (x14) (x15) (.int 0) (x16) (x17) (x18) H.size) (cwV 2 hts gX8_addRoad_X8_isThrown rfl rfl rfl (by decide +kernel) ⟨(Nat.le_of_ble_eq_true rfl), (Nat.le_of_ble_eq_true rfl)⟩) ⟨kW_fb, va_recv hK hP (ci := 10) (q0 := 0) rfl rfl, (kW_go hPc hK hDc)⟩ rfl rfl hl.1 rfl (lv_room (Nat.le_of_ble_eq_true rfl)) dX8_addRoad_26 ⟨(Nat.le_of_ble_eq_true rfl), (Nat.le_of_ble_eq_true rfl)⟩) hS (fun q _ h => hFc q h) hFc (fun r9 u t H locs ht hvm hw hB hz1 hk1 hS => ?_)
      obtain ⟨hP1, hD1⟩ := hB
      rw [ht] at hP1
      try dsimp only at hw hP1 hD1
      obtain ⟨hP, hD⟩ := va_join (wr := [(h2, .inl (cy 0, 8, .inl g19)), (h3, .inl (cy 1, 8, .inl g20)), (h4, .inl (cy 1, 8, .inl g21)), (h5, .inl (cy 1, 8, .inl g22)), (h6, .inl (cy 1, 8, .inl g23))]) (w1 := [(h1, .inr (10, [.ref h2, .ref h3, .ref h4, .ref h5, .ref h6, x7, x8, x9, x10, x11, x12, x13, x14, x15, .int 0, x16, x17, .int 1]))]) hP hD [0] [1, 2, 3, 4, 5] rfl rfl (by decide) (by decide) hk1 hFc hP1 hD1
      have hP : va_P D vwCl [(h2, .inl (cy 0, 8, .inl g19)), (h3, .inl (cy 1, 8, .inl g20)), (h4, .inl (cy 1, 8, .inl g21)), (h5, .inl (cy 1, 8, .inl g22)), (h6, .inl (cy 1, 8, .inl g23)), (h1, .inr (10, [.ref h2, .ref h3, .ref h4, .ref h5, .ref h6, x7, x8, x9, x10, x11, x12, x13, x14, x15, .int 0, x16, x17, .int 1]))] H := hP
      have hD : va_D A [(h2, .inl (cy 0, 8, .inl g19)), (h3, .inl (cy 1, 8, .inl g20)), (h4, .inl (cy 1, 8, .inl g21)), (h5, .inl (cy 1, 8, .inl g22)), (h6, .inl (cy 1, 8, .inl g23)), (h1, .inr (10, [.ref h2, .ref h3, .ref h4, .ref h5, .ref h6, x7, x8, x9, x10, x11, x12, x13, x14, x15, .int 0, x16, x17, .int 1]))] := hD
      obtain ⟨rfl, hw⟩ := hw
      refine lv_if_ne (tgt := 54) hx hb dX8_addRoad_29 (by decide) (fun _ => ?_) (fun h => absurd h (by decide))
      refine lv_iconst (v := 0) hx hb dX8_addRoad_54 (by decide) ?_
      refine lv_goto (tgt := 69) hx hb dX8_addRoad_55 (by decide) ?_
      refine W.widen (k := 0) (n := 0) (Nat.le_of_ble_eq_true rfl) (Nat.le_of_ble_eq_true rfl) ?_
      have hP9 := hP.sub (ws' := [(h1, .inr (10, [.ref h2, .ref h3, .ref h4, .ref h5, .ref h6, x7, x8, x9, x10, x11, x12, x13, x14, x15, .int 0, x16, x17, .int 1])), (h2, .inl (cy 0, 8, .inl g19)), (h3, .inl (cy 1, 8, .inl g20)), (h4, .inl (cy 1, 8, .inl g21)), (h5, .inl (cy 1, 8, .inl g22)), (h6, .inl (cy 1, 8, .inl g23))]) [5, 0, 1, 2, 3, 4] rfl
      have hD9 := hD.sub (ws' := [(h1, .inr (10, [.ref h2, .ref h3, .ref h4, .ref h5, .ref h6, x7, x8, x9, x10, x11, x12, x13, x14, x15, .int 0, x16, x17, .int 1])), (h2, .inl (cy 0, 8, .inl g19)), (h3, .inl (cy 1, 8, .inl g20)), (h4, .inl (cy 1, 8, .inl g21)), (h5, .inl (cy 1, 8, .inl g22)), (h6, .inl (cy 1, 8, .inl g23))]) [5, 0, 1, 2, 3, 4] (by decide) rfl
      exact W.iret (v := 0) hx hb hr (fun t ht hW => ⟨⟨0, (0, 1, g19, g20, g21, g22, g23), rfl, Or.inl (⟨rfl, rfl, rfl, (by omega)⟩), ⟨by rw [ht]; exact hP9, hD9⟩⟩, hS.F ht⟩) hS.2.2 dX8_addRoad_69
    · have f_6 : ((p2.toInt = (99 : Int) ∨ p2.toInt = (108 : Int) ∨ p2.toInt = (113 : Int) ∨ p2.toInt = (115 : Int)) ∧ ((0 : Int) ≤ p3.toInt ∧ p3.toInt ≤ (20 : Int)) ∧ ((0 : Int) ≤ p4.toInt ∧ p4.toInt ≤ (999 : Int))) := hw
      refine lv_if_eq (tgt := 24) hx hb dX8_addRoad_17 (by decide) (fun _ => ?_) (fun h => absurd (by decide) h)
      refine lv_iconst (v := 0) hx hb dX8_addRoad_24 (by decide) ?_
      refine lv_iconst (v := 1) hx hb dX8_addRoad_25 (by decide) ?_
      have hPc := hP.sub (ws' := [(h1, .inr (10, [.ref h2, .ref h3, .ref h4, .ref h5, .ref h6, x7, x8, x9, x10, x11, x12, x13, x14, x15, .int 0, x16, x17, x18]))]) [0] rfl
      have hDc := hD.sub (ws' := [(h1, .inr (10, [.ref h2, .ref h3, .ref h4, .ref h5, .ref h6, x7, x8, x9, x10, x11, x12, x13, x14, x15, .int 0, x16, x17, x18]))]) [0] (by decide) rfl
      have hFc := va_free (wc := [(h1, .inr (10, [.ref h2, .ref h3, .ref h4, .ref h5, .ref h6, x7, x8, x9, x10, x11, x12, x13, x14, x15, .int 0, x16, x17, x18]))]) hD hS hA [0] rfl
      refine va_calli (va_runV (As := [.int 0, .int 1]) (rest := []) ⟨hx, hb, hml, hown, hts⟩ (k_X8_isThrown_1 l D cy h1 (.ref h2) (.ref h3) (.ref h4) (.ref h5) (.ref h6) (x7) (x8) (x9) (x10) (x11) (x12) (x13) (x14) (x15) (.int 0) (x16) (x17) (x18) H.size) (cwV 2 hts gX8_addRoad_X8_isThrown rfl rfl rfl (by decide +kernel) ⟨(Nat.le_of_ble_eq_true rfl), (Nat.le_of_ble_eq_true rfl)⟩) ⟨kW_fb, va_recv hK hP (ci := 10) (q0 := 0) rfl rfl, (kW_go hPc hK hDc)⟩ rfl rfl hl.1 rfl (lv_room (Nat.le_of_ble_eq_true rfl)) dX8_addRoad_26 ⟨(Nat.le_of_ble_eq_true rfl), (Nat.le_of_ble_eq_true rfl)⟩) hS (fun q _ h => hFc q h) hFc (fun r9 u t H locs ht hvm hw hB hz1 hk1 hS => ?_)
      obtain ⟨hP1, hD1⟩ := hB
      rw [ht] at hP1
      try dsimp only at hw hP1 hD1
      obtain ⟨hP, hD⟩ := va_join (wr := [(h2, .inl (cy 0, 8, .inl g19)), (h3, .inl (cy 1, 8, .inl g20)), (h4, .inl (cy 1, 8, .inl g21)), (h5, .inl (cy 1, 8, .inl g22)), (h6, .inl (cy 1, 8, .inl g23))]) (w1 := [(h1, .inr (10, [.ref h2, .ref h3, .ref h4, .ref h5, .ref h6, x7, x8, x9, x10, x11, x12, x13, x14, x15, .int 0, x16, x17, .int 0]))]) hP hD [0] [1, 2, 3, 4, 5] rfl rfl (by decide) (by decide) hk1 hFc hP1 hD1
      have hP : va_P D vwCl [(h2, .inl (cy 0, 8, .inl g19)), (h3, .inl (cy 1, 8, .inl g20)), (h4, .inl (cy 1, 8, .inl g21)), (h5, .inl (cy 1, 8, .inl g22)), (h6, .inl (cy 1, 8, .inl g23)), (h1, .inr (10, [.ref h2, .ref h3, .ref h4, .ref h5, .ref h6, x7, x8, x9, x10, x11, x12, x13, x14, x15, .int 0, x16, x17, .int 0]))] H := hP
      have hD : va_D A [(h2, .inl (cy 0, 8, .inl g19)), (h3, .inl (cy 1, 8, .inl g20)), (h4, .inl (cy 1, 8, .inl g21)), (h5, .inl (cy 1, 8, .inl g22)), (h6, .inl (cy 1, 8, .inl g23)), (h1, .inr (10, [.ref h2, .ref h3, .ref h4, .ref h5, .ref h6, x7, x8, x9, x10, x11, x12, x13, x14, x15, .int 0, x16, x17, .int 0]))] := hD
      obtain ⟨rfl, hw⟩ := hw
      refine lv_if_ne (tgt := 54) hx hb dX8_addRoad_29 (by decide) (fun h => absurd (by decide) h) (fun _ => ?_)
      refine lv_aload_n hx hb dX8_addRoad_32 rfl (lv_at hl 0 rfl) ?_
      refine lv_aload_n hx hb dX8_addRoad_33 rfl (lv_at hl 0 rfl) ?_
      refine va_get (D := D) (ci := 10) (v := .int 0) (C := RX8) (T := TX8) (N := 18) hx hb hts (fun _ h => (List.mem_cons_of_mem _ (List.mem_append_left _ (List.mem_append_right _ h)))) hown hK hP 5 rfl rfl 14 (by decide) (hts (.fieldLink RX8 62 "SelfishJunctionModel" "resources" "I") (List.mem_cons_of_mem _ (List.mem_append_left _ (List.mem_append_left _ (List.mem_append_left _ (List.mem_of_getElem? (i := 0) rfl)))))) (fun _ h9 => h9) rfl dX8_addRoad_34 ?_
      refine lv_bipush (v := 8) hx hb dX8_addRoad_37 (by decide) ?_
      refine lv_icmp_ne (tgt := 46) hx hb dX8_addRoad_39 (by decide) (fun _ => ?_) (fun h => absurd h (by decide))
      refine lv_iconst (v := 0) hx hb dX8_addRoad_46 (by decide) ?_
      refine lv_iconst (v := 2) hx hb dX8_addRoad_47 (by decide) ?_
      have hPc := hP.sub (ws' := [(h1, .inr (10, [.ref h2, .ref h3, .ref h4, .ref h5, .ref h6, x7, x8, x9, x10, x11, x12, x13, x14, x15, .int 0, x16, x17, .int 0]))]) [5] rfl
      have hDc := hD.sub (ws' := [(h1, .inr (10, [.ref h2, .ref h3, .ref h4, .ref h5, .ref h6, x7, x8, x9, x10, x11, x12, x13, x14, x15, .int 0, x16, x17, .int 0]))]) [5] (by decide) rfl
      have hFc := va_free (wc := [(h1, .inr (10, [.ref h2, .ref h3, .ref h4, .ref h5, .ref h6, x7, x8, x9, x10, x11, x12, x13, x14, x15, .int 0, x16, x17, .int 0]))]) hD hS hA [5] rfl
      refine va_calli (va_runV (As := [.int 0, .int 2]) (rest := []) ⟨hx, hb, hml, hown, hts⟩ (k_X8_isThrown_2 l D cy h1 (.ref h2) (.ref h3) (.ref h4) (.ref h5) (.ref h6) (x7) (x8) (x9) (x10) (x11) (x12) (x13) (x14) (x15) (.int 0) (x16) (x17) (.int 0) H.size) (cwV 2 hts gX8_addRoad_X8_isThrown rfl rfl rfl (by decide +kernel) ⟨(Nat.le_of_ble_eq_true rfl), (Nat.le_of_ble_eq_true rfl)⟩) ⟨kW_fb, va_recv hK hP (ci := 10) (q0 := 5) rfl rfl, (kW_go hPc hK hDc)⟩ rfl rfl hl.1 rfl (lv_room (Nat.le_of_ble_eq_true rfl)) dX8_addRoad_48 ⟨(Nat.le_of_ble_eq_true rfl), (Nat.le_of_ble_eq_true rfl)⟩) hS (fun q _ h => hFc q h) hFc (fun r9 u t H locs ht hvm hw hB hz1 hk1 hS => ?_)
      obtain ⟨hP1, hD1⟩ := hB
      rw [ht] at hP1
      try dsimp only at hw hP1 hD1
      obtain ⟨hP, hD⟩ := va_join (wr := [(h2, .inl (cy 0, 8, .inl g19)), (h3, .inl (cy 1, 8, .inl g20)), (h4, .inl (cy 1, 8, .inl g21)), (h5, .inl (cy 1, 8, .inl g22)), (h6, .inl (cy 1, 8, .inl g23))]) (w1 := [(h1, .inr (10, [.ref h2, .ref h3, .ref h4, .ref h5, .ref h6, x7, x8, x9, x10, x11, x12, x13, x14, x15, .int 0, x16, x17, .int 0]))]) hP hD [5] [0, 1, 2, 3, 4] rfl rfl (by decide) (by decide) hk1 hFc hP1 hD1
      have hP : va_P D vwCl [(h2, .inl (cy 0, 8, .inl g19)), (h3, .inl (cy 1, 8, .inl g20)), (h4, .inl (cy 1, 8, .inl g21)), (h5, .inl (cy 1, 8, .inl g22)), (h6, .inl (cy 1, 8, .inl g23)), (h1, .inr (10, [.ref h2, .ref h3, .ref h4, .ref h5, .ref h6, x7, x8, x9, x10, x11, x12, x13, x14, x15, .int 0, x16, x17, .int 0]))] H := hP
      have hD : va_D A [(h2, .inl (cy 0, 8, .inl g19)), (h3, .inl (cy 1, 8, .inl g20)), (h4, .inl (cy 1, 8, .inl g21)), (h5, .inl (cy 1, 8, .inl g22)), (h6, .inl (cy 1, 8, .inl g23)), (h1, .inr (10, [.ref h2, .ref h3, .ref h4, .ref h5, .ref h6, x7, x8, x9, x10, x11, x12, x13, x14, x15, .int 0, x16, x17, .int 0]))] := hD
      obtain ⟨rfl, hw⟩ := hw
      refine lv_if_eq (tgt := 58) hx hb dX8_addRoad_51 (by decide) (fun _ => ?_) (fun h => absurd (by decide) h)
      refine lv_aload_n hx hb dX8_addRoad_58 rfl (lv_at hl 0 rfl) ?_
      refine lv_iload_n hx hb dX8_addRoad_59 rfl (lv_at hl 3 rfl) ?_
      refine lv_iload hx hb dX8_addRoad_60 (lv_at hl 4 rfl) ?_
      refine lv_iload hx hb dX8_addRoad_62 (lv_at hl 5 rfl) ?_
      refine lv_iload_n hx hb dX8_addRoad_64 rfl (lv_at hl 1 rfl) ?_
      refine lv_iload_n hx hb dX8_addRoad_65 rfl (lv_at hl 2 rfl) ?_
      have hPc := hP.sub (ws' := [(h1, .inr (10, [.ref h2, .ref h3, .ref h4, .ref h5, .ref h6, x7, x8, x9, x10, x11, x12, x13, x14, x15, .int 0, x16, x17, .int 0])), (h2, .inl (cy 0, 8, .inl g19)), (h3, .inl (cy 1, 8, .inl g20)), (h4, .inl (cy 1, 8, .inl g21)), (h5, .inl (cy 1, 8, .inl g22)), (h6, .inl (cy 1, 8, .inl g23))]) [5, 0, 1, 2, 3, 4] rfl
      have hDc := hD.sub (ws' := [(h1, .inr (10, [.ref h2, .ref h3, .ref h4, .ref h5, .ref h6, x7, x8, x9, x10, x11, x12, x13, x14, x15, .int 0, x16, x17, .int 0])), (h2, .inl (cy 0, 8, .inl g19)), (h3, .inl (cy 1, 8, .inl g20)), (h4, .inl (cy 1, 8, .inl g21)), (h5, .inl (cy 1, 8, .inl g22)), (h6, .inl (cy 1, 8, .inl g23))]) [5, 0, 1, 2, 3, 4] (by decide) rfl
      have hFc := va_free (wc := [(h1, .inr (10, [.ref h2, .ref h3, .ref h4, .ref h5, .ref h6, x7, x8, x9, x10, x11, x12, x13, x14, x15, .int 0, x16, x17, .int 0])), (h2, .inl (cy 0, 8, .inl g19)), (h3, .inl (cy 1, 8, .inl g20)), (h4, .inl (cy 1, 8, .inl g21)), (h5, .inl (cy 1, 8, .inl g22)), (h6, .inl (cy 1, 8, .inl g23))]) hD hS hA [5, 0, 1, 2, 3, 4] rfl
      refine va_calli (va_runV (As := [.int p2, .int p3, .int p4, .int p0, .int p1]) (rest := []) ⟨hx, hb, hml, hown, hts⟩ (k_X8_adds_1 l D cy h1 p2 p3 p4 p0 p1 h2 h3 h4 h5 h6 (x7) (x8) (x9) (x10) (x11) (x12) (x13) (x14) (x15) (x16) (x17) (.int 0) g19 g20 g21 g22 g23 (by omega) H.size) (cwV 5 hts gX8_addRoad_X8_adds rfl rfl rfl (by decide +kernel) ⟨(Nat.le_of_ble_eq_true rfl), (Nat.le_of_ble_eq_true rfl)⟩) ⟨kW_fb, va_recv hK hP (ci := 10) (q0 := 5) rfl rfl, (kW_go hPc hK hDc)⟩ rfl rfl hl.1 rfl (lv_room (Nat.le_of_ble_eq_true rfl)) dX8_addRoad_66 ⟨(Nat.le_of_ble_eq_true rfl), (Nat.le_of_ble_eq_true rfl)⟩) hS (fun q _ h => hFc q h) hFc (fun r9 u t H locs ht hvm hw hB hz1 hk1 hS => ?_)
      obtain ⟨hP1, hD1⟩ := hB
      rw [ht] at hP1
      try dsimp only at hw hP1 hD1
      obtain ⟨hP, hD⟩ := va_join (wr := []) (w1 := [(h1, .inr (10, [.ref h2, .ref h3, .ref h4, .ref h5, .ref h6, x7, x8, x9, x10, x11, x12, x13, x14, x15, .int 1, x16, x17, .int 0])), (h2, .inl (cy 0, 8, .inl (upd g19 0 p2))), (h3, .inl (cy 1, 8, .inl (upd g20 0 p3))), (h4, .inl (cy 1, 8, .inl (upd g21 0 p4))), (h5, .inl (cy 1, 8, .inl (upd g22 0 p0))), (h6, .inl (cy 1, 8, .inl (upd g23 0 p1)))]) hP hD [5, 0, 1, 2, 3, 4] [] rfl rfl (by decide) (by decide) hk1 hFc hP1 hD1
      have hP : va_P D vwCl [(h1, .inr (10, [.ref h2, .ref h3, .ref h4, .ref h5, .ref h6, x7, x8, x9, x10, x11, x12, x13, x14, x15, .int 1, x16, x17, .int 0])), (h2, .inl (cy 0, 8, .inl (upd g19 0 p2))), (h3, .inl (cy 1, 8, .inl (upd g20 0 p3))), (h4, .inl (cy 1, 8, .inl (upd g21 0 p4))), (h5, .inl (cy 1, 8, .inl (upd g22 0 p0))), (h6, .inl (cy 1, 8, .inl (upd g23 0 p1)))] H := hP
      have hD : va_D A [(h1, .inr (10, [.ref h2, .ref h3, .ref h4, .ref h5, .ref h6, x7, x8, x9, x10, x11, x12, x13, x14, x15, .int 1, x16, x17, .int 0])), (h2, .inl (cy 0, 8, .inl (upd g19 0 p2))), (h3, .inl (cy 1, 8, .inl (upd g20 0 p3))), (h4, .inl (cy 1, 8, .inl (upd g21 0 p4))), (h5, .inl (cy 1, 8, .inl (upd g22 0 p0))), (h6, .inl (cy 1, 8, .inl (upd g23 0 p1)))] := hD
      obtain ⟨rfl, hw⟩ := hw
      refine W.widen (k := 0) (n := 0) (Nat.le_of_ble_eq_true rfl) (Nat.le_of_ble_eq_true rfl) ?_
      have hP9 := hP.sub (ws' := [(h1, .inr (10, [.ref h2, .ref h3, .ref h4, .ref h5, .ref h6, x7, x8, x9, x10, x11, x12, x13, x14, x15, .int 1, x16, x17, .int 0])), (h2, .inl (cy 0, 8, .inl (upd g19 0 p2))), (h3, .inl (cy 1, 8, .inl (upd g20 0 p3))), (h4, .inl (cy 1, 8, .inl (upd g21 0 p4))), (h5, .inl (cy 1, 8, .inl (upd g22 0 p0))), (h6, .inl (cy 1, 8, .inl (upd g23 0 p1)))]) [0, 1, 2, 3, 4, 5] rfl
      have hD9 := hD.sub (ws' := [(h1, .inr (10, [.ref h2, .ref h3, .ref h4, .ref h5, .ref h6, x7, x8, x9, x10, x11, x12, x13, x14, x15, .int 1, x16, x17, .int 0])), (h2, .inl (cy 0, 8, .inl (upd g19 0 p2))), (h3, .inl (cy 1, 8, .inl (upd g20 0 p3))), (h4, .inl (cy 1, 8, .inl (upd g21 0 p4))), (h5, .inl (cy 1, 8, .inl (upd g22 0 p0))), (h6, .inl (cy 1, 8, .inl (upd g23 0 p1)))]) [0, 1, 2, 3, 4, 5] (by decide) rfl
      exact W.iret (v := 0) hx hb hr (fun t ht hW => ⟨⟨0, (1, 0, (upd g19 0 p2), (upd g20 0 p3), (upd g21 0 p4), (upd g22 0 p0), (upd g23 0 p1)), rfl, Or.inr (⟨rfl, rfl, rfl, (by omega)⟩), ⟨by rw [ht]; exact hP9, hD9⟩⟩, hS.F ht⟩) hS.2.2 dX8_addRoad_69
theorem dX7_checkBody_0 : decode cX7_checkBody 0 = .ok (.aload_n 0, 1) := by decide +kernel
theorem dX7_checkBody_1 : decode cX7_checkBody 1 = .ok (.iload_n 1, 1) := by decide +kernel
theorem dX7_checkBody_2 : decode cX7_checkBody 2 = .ok (.iconst 1, 1) := by decide +kernel
theorem dX7_checkBody_3 : decode cX7_checkBody 3 = .ok (.iconst 3, 1) := by decide +kernel
theorem dX7_checkBody_4 : decode cX7_checkBody 4 = .ok (.invokevirtual 174, 3) := by decide +kernel
set_option maxRecDepth 20000 in
theorem ggX7_checkBody_X7_checkRange : GoodIn wsX7_checkBody wsX7_checkRange := goodIn_ca (goodIn_r _ [5, 6, 7] (by decide +kernel) (by decide +kernel)) (goodIn_sub (fun _ h => List.mem_cons_of_mem _ (List.mem_append_right _ h)) (by decide +kernel))
set_option maxRecDepth 20000 in
theorem gX7_checkBody_X7_checkRange : GoodIn wsX7_checkBody (wsV RX7 174 RX7 yX7_checkRange wsX7_checkRange) := goodIn_app (goodIn_of _ (by decide +kernel)) ggX7_checkBody_X7_checkRange
theorem dX7_checkBody_7 : decode cX7_checkBody 7 = .ok (.aload_n 0, 1) := by decide +kernel
theorem dX7_checkBody_8 : decode cX7_checkBody 8 = .ok (.iload_n 2, 1) := by decide +kernel
theorem dX7_checkBody_9 : decode cX7_checkBody 9 = .ok (.iconst 0, 1) := by decide +kernel
theorem dX7_checkBody_10 : decode cX7_checkBody 10 = .ok (.bipush 9, 2) := by decide +kernel
theorem dX7_checkBody_12 : decode cX7_checkBody 12 = .ok (.invokevirtual 174, 3) := by decide +kernel
theorem dX7_checkBody_15 : decode cX7_checkBody 15 = .ok (.return_, 1) := by decide +kernel
set_option maxHeartbeats 4000000 in
set_option maxRecDepth 100000 in
theorem k_X7_checkBody (l : Launch) (hl9 : l.stackTraces = false) (D : va_G) (cy : Nat → ClassId) (h1 : Nat) (p0 : Int32) (p1 : Int32) (x2 : Value) (x3 : Value) (x4 : Value) (x5 : Value) (x6 : Value) (x7 : Value) (x8 : Value) : vx_Met l yX7_checkBody wsX7_checkBody ({ frames := 7, cells := 2, slots := 12, locals := 105 }) (kRX D cy [.ref h1, .int p0, .int p1] [(h1, .inr (9, [x2, x3, x4, x5, x6, x7, x8]))]) (va_Qv (fun (_ : Unit) => (((1 : Int) ≤ p0.toInt ∧ p0.toInt ≤ (3 : Int)) ∧ ((0 : Int) ≤ p1.toInt ∧ p1.toInt ≤ (9 : Int)))) (fun (_ : Unit) (_ : State) => True) (fun _ : Nat => False)) (vx_X (fun _ : Unit => True) (fun (E : String) (_ : Unit) (_ : State) => (E = "java/lang/IllegalArgumentException" ∧ ¬ ((((1 : Int) ≤ p0.toInt ∧ p0.toInt ≤ (3 : Int)) ∧ ((0 : Int) ≤ p1.toInt ∧ p1.toInt ≤ (9 : Int)))))) (fun _ : Nat => False)) 2 12 (fun _ : Nat => False) := by
  refine vx_ofW (cc := cX7_checkBody) (maxL := 3) (ret := none) (by decide) rfl ?_
  intro p e s m args below meth c s₁ B hml ht9 hv
  obtain ⟨rfl, hP, hK, hE⟩ := hv
  have hx := B.exec
  have hb := B.bytes
  have hr := B.returns
  have hts := atoms_spec (ws := wsX7_checkBody) B.pre
  have hown : s.vm.findClass RX7 = some m.cls := findClass_of_methodNamed B.named
  have hlocks := B.notSynchronized
  have hS : va_S (fun _ : Nat => False) s.heap s.heap [] := va_S.rf
  have hP : va_P D vwCl [(h1, .inr (9, [x2, x3, x4, x5, x6, x7, x8]))] s.heap := hP
  have hl := lv_entry ([.ref h1, .int p0, .int p1]) (n := 3) (Nat.le_of_ble_eq_true rfl)
  rw [lg_entry_eq]
  generalize (lg_sl ([.ref h1, .int p0, .int p1]) ++ List.replicate (3 - (lg_sl ([.ref h1, .int p0, .int p1])).length) Slot.unset).toArray = ls at hl ⊢
  have hl : lv_has ls 3 [(0, .ref h1), (1, .int p0), (2, .int p1)] := hl
  refine lv_aload_n hx hb dX7_checkBody_0 rfl (lv_at hl 0 rfl) ?_
  refine lv_iload_n hx hb dX7_checkBody_1 rfl (lv_at hl 1 rfl) ?_
  refine lv_iconst (v := 1) hx hb dX7_checkBody_2 (by decide) ?_
  refine lv_iconst (v := 3) hx hb dX7_checkBody_3 (by decide) ?_
  have hPc := hP.sub (ws' := []) [] rfl
  refine vx_callv (vx_runV (As := [.int p0, .int 1, .int 3]) (rest := []) ⟨hx, hb, hml, hown, hts⟩ (k_X7_checkRange l hl9 D cy h1 p0 1 3) (cwV 3 hts gX7_checkBody_X7_checkRange rfl rfl rfl (by decide +kernel) ⟨(Nat.le_of_ble_eq_true rfl), (Nat.le_of_ble_eq_true rfl)⟩) ⟨kRX_fb, va_recv hK hP (ci := 9) (q0 := 0) rfl rfl, (kRX_go hPc hK hE hS)⟩ rfl rfl hl.1 rfl (lv_room (Nat.le_of_ble_eq_true rfl)) dX7_checkBody_4 ⟨(Nat.le_of_ble_eq_true rfl), (Nat.le_of_ble_eq_true rfl)⟩) hS (fun _ _ h => h.elim) (fun _ h => h.elim) (fun _ _ h => h.elim) (fun E9 ce9 q9 u t H locs ht hvm hw hB hz1 hk1 hS hce hcv hcl => ?_) (fun u t H locs ht hvm hw hB hz1 hk1 hS => ?_)
  · obtain ⟨rfl, hB⟩ := hB
    have f_1 : ¬ (((1 : Int) ≤ p0.toInt ∧ p0.toInt ≤ (3 : Int))) := hB
    exact vx_out (fun x hx => (ht9 x hx).elim) hlocks hce hcv hcl (fun t ht _ => ⟨(), trivial, (⟨rfl, (by omega)⟩), hS.F ht⟩) hS.2.2 (Nat.le_of_ble_eq_true rfl) (Nat.le_of_ble_eq_true rfl)
  · have hP := kx_kept hP hk1
    have f_2 : ((1 : Int) ≤ p0.toInt ∧ p0.toInt ≤ (3 : Int)) := hw
    refine lv_aload_n hx hb dX7_checkBody_7 rfl (lv_at hl 0 rfl) ?_
    refine lv_iload_n hx hb dX7_checkBody_8 rfl (lv_at hl 2 rfl) ?_
    refine lv_iconst (v := 0) hx hb dX7_checkBody_9 (by decide) ?_
    refine lv_bipush (v := 9) hx hb dX7_checkBody_10 (by decide) ?_
    have hPc := hP.sub (ws' := []) [] rfl
    refine vx_callv (vx_runV (As := [.int p1, .int 0, .int 9]) (rest := []) ⟨hx, hb, hml, hown, hts⟩ (k_X7_checkRange l hl9 D cy h1 p1 0 9) (cwV 3 hts gX7_checkBody_X7_checkRange rfl rfl rfl (by decide +kernel) ⟨(Nat.le_of_ble_eq_true rfl), (Nat.le_of_ble_eq_true rfl)⟩) ⟨kRX_fb, va_recv hK hP (ci := 9) (q0 := 0) rfl rfl, (kRX_go hPc hK hE hS)⟩ rfl rfl hl.1 rfl (lv_room (Nat.le_of_ble_eq_true rfl)) dX7_checkBody_12 ⟨(Nat.le_of_ble_eq_true rfl), (Nat.le_of_ble_eq_true rfl)⟩) hS (fun _ _ h => h.elim) (fun _ h => h.elim) (fun _ _ h => h.elim) (fun E9 ce9 q9 u t H locs ht hvm hw hB hz1 hk1 hS hce hcv hcl => ?_) (fun u t H locs ht hvm hw hB hz1 hk1 hS => ?_)
    · obtain ⟨rfl, hB⟩ := hB
      have f_3 : ¬ (((0 : Int) ≤ p1.toInt ∧ p1.toInt ≤ (9 : Int))) := hB
      exact vx_out (fun x hx => (ht9 x hx).elim) hlocks hce hcv hcl (fun t ht _ => ⟨(), trivial, (⟨rfl, (by omega)⟩), hS.F ht⟩) hS.2.2 (Nat.le_of_ble_eq_true rfl) (Nat.le_of_ble_eq_true rfl)
    · have hP := kx_kept hP hk1
      have f_4 : ((0 : Int) ≤ p1.toInt ∧ p1.toInt ≤ (9 : Int)) := hw
      refine vx_ret ?_
      refine W.widen (k := 2) (n := 12) (Nat.le_of_ble_eq_true rfl) (Nat.le_of_ble_eq_true rfl) ?_
      exact W.vret hx hb hr (fun t ht hW => ⟨⟨(), rfl, (by omega), trivial⟩, hS.F ht⟩) hS.2.2 dX7_checkBody_15
theorem dX7_checkRoomForPlayer_0 : decode cX7_checkRoomForPlayer 0 = .ok (.aload_n 0, 1) := by decide +kernel
theorem dX7_checkRoomForPlayer_1 : decode cX7_checkRoomForPlayer 1 = .ok (.getfield 10, 3) := by decide +kernel
theorem dX7_checkRoomForPlayer_4 : decode cX7_checkRoomForPlayer 4 = .ok (.getfield 281, 3) := by decide +kernel
theorem dX7_checkRoomForPlayer_7 : decode cX7_checkRoomForPlayer 7 = .ok (.bipush 6, 2) := by decide +kernel
theorem dX7_checkRoomForPlayer_9 : decode cX7_checkRoomForPlayer 9 = .ok (.if_icmp .lt 14, 3) := by decide +kernel
theorem dX7_checkRoomForPlayer_23 : decode cX7_checkRoomForPlayer 23 = .ok (.return_, 1) := by decide +kernel
set_option maxHeartbeats 4000000 in
set_option maxRecDepth 100000 in
theorem k_X7_checkRoomForPlayer (l : Launch) (D : va_G) (cy : Nat → ClassId) (h1 : Nat) (h2 : Nat) (x3 : Value) (x4 : Value) (x5 : Value) (x6 : Value) (x7 : Value) (x8 : Value) (x9 : Value) (x10 : Value) (x11 : Value) : Met l yX7_checkRoomForPlayer wsX7_checkRoomForPlayer ({ frames := 0, cells := 0, slots := 0, locals := 0 }) (kR D cy [.ref h1] [(h1, .inr (9, [.ref h2, x3, x4, x5, x6, x7, x8])), (h2, .inr (2, [x9, x10, x11, .int 0]))]) (va_Qv (fun (_ : Unit) => True) (fun (_ : Unit) (_ : State) => True) (fun _ : Nat => False)) 0 0 (fun _ : Nat => False) := by
  refine Met.ofW (cc := cX7_checkRoomForPlayer) (maxL := 1) (ret := none) (by decide) rfl ?_
  intro p e s m args below meth c s₁ B hml hv
  obtain ⟨rfl, hP, hK⟩ := hv
  have hx := B.exec
  have hb := B.bytes
  have hr := B.returns
  have hts := atoms_spec (ws := wsX7_checkRoomForPlayer) B.pre
  have hown : s.vm.findClass RX7 = some m.cls := findClass_of_methodNamed B.named
  have hlocks := B.notSynchronized
  have hS : va_S (fun _ : Nat => False) s.heap s.heap [] := va_S.rf
  have hP : va_P D vwCl [(h1, .inr (9, [.ref h2, x3, x4, x5, x6, x7, x8])), (h2, .inr (2, [x9, x10, x11, .int 0]))] s.heap := hP
  have hl := lv_entry ([.ref h1]) (n := 1) (Nat.le_of_ble_eq_true rfl)
  rw [lg_entry_eq]
  generalize (lg_sl ([.ref h1]) ++ List.replicate (1 - (lg_sl ([.ref h1])).length) Slot.unset).toArray = ls at hl ⊢
  have hl : lv_has ls 1 [(0, .ref h1)] := hl
  refine lv_aload_n hx hb dX7_checkRoomForPlayer_0 rfl (lv_at hl 0 rfl) ?_
  refine va_get (D := D) (ci := 9) (v := .ref h2) (C := RX7) (T := TX7) (N := 7) hx hb hts (fun _ h => (List.mem_cons_of_mem _ (List.mem_append_left _ (List.mem_append_left _ (List.mem_append_right _ h))))) hown hK hP 0 rfl rfl 0 (by decide) (hts (.fieldLink RX7 10 "SelfishJunction" "board" "LSelfishJunction$Board;") (List.mem_cons_of_mem _ (List.mem_append_left _ (List.mem_append_left _ (List.mem_append_left _ (List.mem_of_getElem? (i := 2) rfl)))))) (fun _ h9 => h9) rfl dX7_checkRoomForPlayer_1 ?_
  refine va_get (D := D) (ci := 2) (v := .int 0) (C := RX0) (T := TX0) (N := 4) hx hb hts (fun _ h => (List.mem_cons_of_mem _ (List.mem_append_left _ (List.mem_append_right _ h)))) hown hK hP 1 rfl rfl 3 (by decide) (hts (.fieldLink RX7 281 "SelfishJunction$Board" "playerCount" "I") (List.mem_cons_of_mem _ (List.mem_append_left _ (List.mem_append_left _ (List.mem_append_left _ (List.mem_of_getElem? (i := 3) rfl)))))) (fun _ h9 => h9) rfl dX7_checkRoomForPlayer_4 ?_
  refine lv_bipush (v := 6) hx hb dX7_checkRoomForPlayer_7 (by decide) ?_
  refine lv_icmp_lt (tgt := 23) hx hb dX7_checkRoomForPlayer_9 (by decide) (fun _ => ?_) (fun h => absurd (by decide) h)
  refine W.widen (k := 0) (n := 0) (Nat.le_of_ble_eq_true rfl) (Nat.le_of_ble_eq_true rfl) ?_
  exact W.vret hx hb hr (fun t ht hW => ⟨⟨(), rfl, trivial, trivial⟩, hS.F ht⟩) hS.2.2 dX7_checkRoomForPlayer_23
theorem dX0_putPlayer_0 : decode cX0_putPlayer 0 = .ok (.aload_n 0, 1) := by decide +kernel
theorem dX0_putPlayer_1 : decode cX0_putPlayer 1 = .ok (.getfield 42, 3) := by decide +kernel
theorem dX0_putPlayer_4 : decode cX0_putPlayer 4 = .ok (.istore_n 3, 1) := by decide +kernel
theorem dX0_putPlayer_5 : decode cX0_putPlayer 5 = .ok (.aload_n 0, 1) := by decide +kernel
theorem dX0_putPlayer_6 : decode cX0_putPlayer 6 = .ok (.getfield 20, 3) := by decide +kernel
theorem dX0_putPlayer_9 : decode cX0_putPlayer 9 = .ok (.iload_n 3, 1) := by decide +kernel
theorem dX0_putPlayer_10 : decode cX0_putPlayer 10 = .ok (.aaload, 1) := by decide +kernel
theorem dX0_putPlayer_11 : decode cX0_putPlayer 11 = .ok (.iload_n 1, 1) := by decide +kernel
theorem dX0_putPlayer_12 : decode cX0_putPlayer 12 = .ok (.putfield 45, 3) := by decide +kernel
theorem dX0_putPlayer_15 : decode cX0_putPlayer 15 = .ok (.aload_n 0, 1) := by decide +kernel
theorem dX0_putPlayer_16 : decode cX0_putPlayer 16 = .ok (.getfield 20, 3) := by decide +kernel
theorem dX0_putPlayer_19 : decode cX0_putPlayer 19 = .ok (.iload_n 3, 1) := by decide +kernel
theorem dX0_putPlayer_20 : decode cX0_putPlayer 20 = .ok (.aaload, 1) := by decide +kernel
theorem dX0_putPlayer_21 : decode cX0_putPlayer 21 = .ok (.iload_n 2, 1) := by decide +kernel
theorem dX0_putPlayer_22 : decode cX0_putPlayer 22 = .ok (.putfield 48, 3) := by decide +kernel
theorem dX0_putPlayer_25 : decode cX0_putPlayer 25 = .ok (.aload_n 0, 1) := by decide +kernel
theorem dX0_putPlayer_26 : decode cX0_putPlayer 26 = .ok (.dup, 1) := by decide +kernel
theorem dX0_putPlayer_27 : decode cX0_putPlayer 27 = .ok (.getfield 42, 3) := by decide +kernel
theorem dX0_putPlayer_30 : decode cX0_putPlayer 30 = .ok (.iconst 1, 1) := by decide +kernel
theorem dX0_putPlayer_31 : decode cX0_putPlayer 31 = .ok (.iadd, 1) := by decide +kernel
theorem dX0_putPlayer_32 : decode cX0_putPlayer 32 = .ok (.putfield 42, 3) := by decide +kernel
theorem dX0_putPlayer_35 : decode cX0_putPlayer 35 = .ok (.iload_n 3, 1) := by decide +kernel
theorem dX0_putPlayer_36 : decode cX0_putPlayer 36 = .ok (.ireturn, 1) := by decide +kernel
set_option maxHeartbeats 4000000 in
set_option maxRecDepth 100000 in
theorem k_X0_putPlayer (l : Launch) (D : va_G) (cy : Nat → ClassId) (h1 : Nat) (p0 : Int32) (p1 : Int32) (x2 : Value) (h3 : Nat) (x4 : Value) (g5 : Nat → Option Nat) (h6 : Nat) (kg5_0 : g5 0 = some h6) (x7 : Value) (x8 : Value) (x9 : Value) (x10 : Value) (x11 : Value) (x12 : Value) (sz : Nat) : Met l yX0_putPlayer wsX0_putPlayer ({ frames := 0, cells := 0, slots := 0, locals := 0 }) (kW D cy [.ref h1, .int p0, .int p1] [(h1, .inr (2, [x2, .ref h3, x4, .int 0])), (h3, .inl (cy 6, 6, .inr (.inr (.inr (.inr g5))))), (h6, .inr (6, [x7, x8, x9, x10, x11, x12]))] sz) (va_Qi (fun (r : Int32) (_ : Unit) => r = 0 ∧ True) (fun (_ : Unit) (t : State) => va_P D vwCl [(h1, .inr (2, [x2, .ref h3, x4, .int 1])), (h3, .inl (cy 6, 6, .inr (.inr (.inr (.inr g5))))), (h6, .inr (6, [.int p0, .int p1, x9, x10, x11, x12]))] t.heap ∧ va_D (va_A [(h1, .inr (2, [x2, .ref h3, x4, .int 0])), (h3, .inl (cy 6, 6, .inr (.inr (.inr (.inr g5))))), (h6, .inr (6, [x7, x8, x9, x10, x11, x12]))] sz) [(h1, .inr (2, [x2, .ref h3, x4, .int 1])), (h3, .inl (cy 6, 6, .inr (.inr (.inr (.inr g5))))), (h6, .inr (6, [.int p0, .int p1, x9, x10, x11, x12]))]) (va_A [(h1, .inr (2, [x2, .ref h3, x4, .int 0])), (h3, .inl (cy 6, 6, .inr (.inr (.inr (.inr g5))))), (h6, .inr (6, [x7, x8, x9, x10, x11, x12]))] sz)) 0 0 (va_A [(h1, .inr (2, [x2, .ref h3, x4, .int 0])), (h3, .inl (cy 6, 6, .inr (.inr (.inr (.inr g5))))), (h6, .inr (6, [x7, x8, x9, x10, x11, x12]))] sz) := by
  refine Met.ofW (cc := cX0_putPlayer) (maxL := 4) (ret := (some .int)) (by decide) rfl ?_
  intro p e s m args below meth c s₁ B hml hv
  obtain ⟨rfl, hsz, hP, hK, hD0⟩ := hv
  have hx := B.exec
  have hb := B.bytes
  have hr := B.returns
  have hts := atoms_spec (ws := wsX0_putPlayer) B.pre
  have hown : s.vm.findClass RX0 = some m.cls := findClass_of_methodNamed B.named
  have hlocks := B.notSynchronized
  subst hsz
  have hD := hD0.self (sz := s.heap.size)
  generalize hAe : va_A [(h1, .inr (2, [x2, .ref h3, x4, .int 0])), (h3, .inl (cy 6, 6, .inr (.inr (.inr (.inr g5))))), (h6, .inr (6, [x7, x8, x9, x10, x11, x12]))] s.heap.size = A at hD ⊢
  have hA : ∀ q : Nat, s.heap.size ≤ q → A q := fun q h => by rw [← hAe]; exact Or.inr h
  have hS : va_S A s.heap s.heap [] := va_S.rf
  have hP : va_P D vwCl [(h1, .inr (2, [x2, .ref h3, x4, .int 0])), (h3, .inl (cy 6, 6, .inr (.inr (.inr (.inr g5))))), (h6, .inr (6, [x7, x8, x9, x10, x11, x12]))] s.heap := hP
  have hl := lv_entry ([.ref h1, .int p0, .int p1]) (n := 4) (Nat.le_of_ble_eq_true rfl)
  rw [lg_entry_eq]
  generalize (lg_sl ([.ref h1, .int p0, .int p1]) ++ List.replicate (4 - (lg_sl ([.ref h1, .int p0, .int p1])).length) Slot.unset).toArray = ls at hl ⊢
  have hl : lv_has ls 4 [(0, .ref h1), (1, .int p0), (2, .int p1)] := hl
  refine lv_aload_n hx hb dX0_putPlayer_0 rfl (lv_at hl 0 rfl) ?_
  refine va_get (D := D) (ci := 2) (v := .int 0) (C := RX0) (T := TX0) (N := 4) hx hb hts (fun _ h => (List.mem_cons_of_mem _ (List.mem_append_left _ (List.mem_append_right _ h)))) hown hK hP 0 rfl rfl 3 (by decide) (hts (.fieldLink RX0 42 "SelfishJunction$Board" "playerCount" "I") (List.mem_cons_of_mem _ (List.mem_append_left _ (List.mem_append_left _ (List.mem_of_getElem? (i := 0) rfl))))) (fun _ h9 => h9) rfl dX0_putPlayer_1 ?_
  refine lv_istore_n (lv' := [(3, .int 0), (0, .ref h1), (1, .int p0), (2, .int p1)]) hx hb dX0_putPlayer_4 rfl hl (by decide) rfl (fun ls hl => ?_)
  refine lv_aload_n hx hb dX0_putPlayer_5 rfl (lv_at hl 1 rfl) ?_
  refine va_get (D := D) (ci := 2) (v := .ref h3) (C := RX0) (T := TX0) (N := 4) hx hb hts (fun _ h => (List.mem_cons_of_mem _ (List.mem_append_left _ (List.mem_append_right _ h)))) hown hK hP 0 rfl rfl 1 (by decide) (hts (.fieldLink RX0 20 "SelfishJunction$Board" "players" "[LSelfishJunction$Player;") (List.mem_cons_of_mem _ (List.mem_append_left _ (List.mem_append_left _ (List.mem_of_getElem? (i := 1) rfl))))) (fun _ h9 => h9) rfl dX0_putPlayer_6 ?_
  refine lv_iload_n hx hb dX0_putPlayer_9 rfl (lv_at hl 0 rfl) ?_
  refine va_aldq hx hb hK hP 1 6 rfl rfl (kx_in 0 6 rfl ⟨(Nat.le_of_ble_eq_true rfl), (Nat.le_of_ble_eq_true rfl)⟩ (Nat.le_of_ble_eq_true rfl)) dX0_putPlayer_10 ?_
  refine kx_rf (a := h6) (kg5_0) ?_
  refine lv_iload_n hx hb dX0_putPlayer_11 rfl (lv_at hl 2 rfl) ?_
  refine va_put (D := D) (ci := 6) (v := .int p0) (ty := .int) (C := RX4) (T := TX4) (N := 6) hx hb hts (fun _ h => (List.mem_cons_of_mem _ (List.mem_append_right _ h))) tyX4 tyX4_ok nmX4 hown hK hP hD hS 2 rfl rfl 0 (by decide) (hts (.fieldLink RX0 45 "SelfishJunction$Player" "weight" "I") (List.mem_cons_of_mem _ (List.mem_append_left _ (List.mem_append_left _ (List.mem_of_getElem? (i := 2) rfl))))) (fun _ h9 => h9) rfl (by decide +kernel) rfl rfl (Nat.le_of_ble_eq_true rfl) dX0_putPlayer_12 (fun H locs hP hD hS => ?_)
  have hP : va_P D vwCl [(h1, .inr (2, [x2, .ref h3, x4, .int 0])), (h3, .inl (cy 6, 6, .inr (.inr (.inr (.inr g5))))), (h6, .inr (6, [.int p0, x8, x9, x10, x11, x12]))] H := hP
  have hD : va_D A [(h1, .inr (2, [x2, .ref h3, x4, .int 0])), (h3, .inl (cy 6, 6, .inr (.inr (.inr (.inr g5))))), (h6, .inr (6, [.int p0, x8, x9, x10, x11, x12]))] := hD
  refine lv_aload_n hx hb dX0_putPlayer_15 rfl (lv_at hl 1 rfl) ?_
  refine va_get (D := D) (ci := 2) (v := .ref h3) (C := RX0) (T := TX0) (N := 4) hx hb hts (fun _ h => (List.mem_cons_of_mem _ (List.mem_append_left _ (List.mem_append_right _ h)))) hown hK hP 0 rfl rfl 1 (by decide) (hts (.fieldLink RX0 20 "SelfishJunction$Board" "players" "[LSelfishJunction$Player;") (List.mem_cons_of_mem _ (List.mem_append_left _ (List.mem_append_left _ (List.mem_of_getElem? (i := 1) rfl))))) (fun _ h9 => h9) rfl dX0_putPlayer_16 ?_
  refine lv_iload_n hx hb dX0_putPlayer_19 rfl (lv_at hl 0 rfl) ?_
  refine va_aldq hx hb hK hP 1 6 rfl rfl (kx_in 0 6 rfl ⟨(Nat.le_of_ble_eq_true rfl), (Nat.le_of_ble_eq_true rfl)⟩ (Nat.le_of_ble_eq_true rfl)) dX0_putPlayer_20 ?_
  refine kx_rf (a := h6) (kg5_0) ?_
  refine lv_iload_n hx hb dX0_putPlayer_21 rfl (lv_at hl 3 rfl) ?_
  refine va_put (D := D) (ci := 6) (v := .int p1) (ty := .int) (C := RX4) (T := TX4) (N := 6) hx hb hts (fun _ h => (List.mem_cons_of_mem _ (List.mem_append_right _ h))) tyX4 tyX4_ok nmX4 hown hK hP hD hS 2 rfl rfl 1 (by decide) (hts (.fieldLink RX0 48 "SelfishJunction$Player" "mind" "I") (List.mem_cons_of_mem _ (List.mem_append_left _ (List.mem_append_left _ (List.mem_of_getElem? (i := 3) rfl))))) (fun _ h9 => h9) rfl (by decide +kernel) rfl rfl (Nat.le_of_ble_eq_true rfl) dX0_putPlayer_22 (fun H locs hP hD hS => ?_)
  have hP : va_P D vwCl [(h1, .inr (2, [x2, .ref h3, x4, .int 0])), (h3, .inl (cy 6, 6, .inr (.inr (.inr (.inr g5))))), (h6, .inr (6, [.int p0, .int p1, x9, x10, x11, x12]))] H := hP
  have hD : va_D A [(h1, .inr (2, [x2, .ref h3, x4, .int 0])), (h3, .inl (cy 6, 6, .inr (.inr (.inr (.inr g5))))), (h6, .inr (6, [.int p0, .int p1, x9, x10, x11, x12]))] := hD
  refine lv_aload_n hx hb dX0_putPlayer_25 rfl (lv_at hl 1 rfl) ?_
  refine lv_dup hx hb dX0_putPlayer_26 rfl ?_
  refine va_get (D := D) (ci := 2) (v := .int 0) (C := RX0) (T := TX0) (N := 4) hx hb hts (fun _ h => (List.mem_cons_of_mem _ (List.mem_append_left _ (List.mem_append_right _ h)))) hown hK hP 0 rfl rfl 3 (by decide) (hts (.fieldLink RX0 42 "SelfishJunction$Board" "playerCount" "I") (List.mem_cons_of_mem _ (List.mem_append_left _ (List.mem_append_left _ (List.mem_of_getElem? (i := 0) rfl))))) (fun _ h9 => h9) rfl dX0_putPlayer_27 ?_
  refine lv_iconst (v := 1) hx hb dX0_putPlayer_30 (by decide) ?_
  refine lv_iadd hx hb dX0_putPlayer_31 ?_
  refine lv_topi (fun v_1 ev_1 => ?_)
  obtain rfl : v_1 = 1 := ev_1.trans (by decide)
  refine va_put (D := D) (ci := 2) (v := .int 1) (ty := .int) (C := RX0) (T := TX0) (N := 4) hx hb hts (fun _ h => (List.mem_cons_of_mem _ (List.mem_append_left _ (List.mem_append_right _ h)))) tyX0 tyX0_ok nmX0 hown hK hP hD hS 0 rfl rfl 3 (by decide) (hts (.fieldLink RX0 42 "SelfishJunction$Board" "playerCount" "I") (List.mem_cons_of_mem _ (List.mem_append_left _ (List.mem_append_left _ (List.mem_of_getElem? (i := 0) rfl))))) (fun _ h9 => h9) rfl (by decide +kernel) rfl rfl (Nat.le_of_ble_eq_true rfl) dX0_putPlayer_32 (fun H locs hP hD hS => ?_)
  have hP : va_P D vwCl [(h1, .inr (2, [x2, .ref h3, x4, .int 1])), (h3, .inl (cy 6, 6, .inr (.inr (.inr (.inr g5))))), (h6, .inr (6, [.int p0, .int p1, x9, x10, x11, x12]))] H := hP
  have hD : va_D A [(h1, .inr (2, [x2, .ref h3, x4, .int 1])), (h3, .inl (cy 6, 6, .inr (.inr (.inr (.inr g5))))), (h6, .inr (6, [.int p0, .int p1, x9, x10, x11, x12]))] := hD
  refine lv_iload_n hx hb dX0_putPlayer_35 rfl (lv_at hl 0 rfl) ?_
  refine W.widen (k := 0) (n := 0) (Nat.le_of_ble_eq_true rfl) (Nat.le_of_ble_eq_true rfl) ?_
  have hP9 := hP.sub (ws' := [(h1, .inr (2, [x2, .ref h3, x4, .int 1])), (h3, .inl (cy 6, 6, .inr (.inr (.inr (.inr g5))))), (h6, .inr (6, [.int p0, .int p1, x9, x10, x11, x12]))]) [0, 1, 2] rfl
  have hD9 := hD.sub (ws' := [(h1, .inr (2, [x2, .ref h3, x4, .int 1])), (h3, .inl (cy 6, 6, .inr (.inr (.inr (.inr g5))))), (h6, .inr (6, [.int p0, .int p1, x9, x10, x11, x12]))]) [0, 1, 2] (by decide) rfl
  exact W.iret (v := 0) hx hb hr (fun t ht hW => ⟨⟨0, (), rfl, ⟨rfl, trivial⟩, ⟨by rw [ht]; exact hP9, hD9⟩⟩, hS.F ht⟩) hS.2.2 dX0_putPlayer_36
theorem dX7_addPlayer_0 : decode cX7_addPlayer 0 = .ok (.aload_n 0, 1) := by decide +kernel
theorem dX7_addPlayer_1 : decode cX7_addPlayer 1 = .ok (.iload_n 1, 1) := by decide +kernel
theorem dX7_addPlayer_2 : decode cX7_addPlayer 2 = .ok (.iload_n 2, 1) := by decide +kernel
theorem dX7_addPlayer_3 : decode cX7_addPlayer 3 = .ok (.invokevirtual 78, 3) := by decide +kernel
set_option maxRecDepth 20000 in
theorem ggX7_addPlayer_X7_checkBody : GoodIn wsX7_addPlayer wsX7_checkBody := goodIn_ca (goodIn_r _ [6, 7, 8, 9, 5, 10, 11, 12] (by decide +kernel) (by decide +kernel)) (goodIn_sub (fun _ h => List.mem_cons_of_mem _ (List.mem_append_left _ (List.mem_append_right _ h))) (by decide +kernel))
set_option maxRecDepth 20000 in
theorem gX7_addPlayer_X7_checkBody : GoodIn wsX7_addPlayer (wsV RX7 78 RX7 yX7_checkBody wsX7_checkBody) := goodIn_app (goodIn_of _ (by decide +kernel)) ggX7_addPlayer_X7_checkBody
theorem dX7_addPlayer_6 : decode cX7_addPlayer 6 = .ok (.aload_n 0, 1) := by decide +kernel
theorem dX7_addPlayer_7 : decode cX7_addPlayer 7 = .ok (.invokevirtual 81, 3) := by decide +kernel
set_option maxRecDepth 20000 in
theorem ggX7_addPlayer_X7_checkRoomForPlayer : GoodIn wsX7_addPlayer wsX7_checkRoomForPlayer := goodIn_ca (goodIn_r _ [16, 17, 18, 1, 19, 29, 30, 31, 32, 33, 34, 35, 36, 37, 38, 39] (by decide +kernel) (by decide +kernel)) (goodIn_sub (fun _ h => List.mem_cons_of_mem _ (List.mem_append_right _ h)) (by decide +kernel))
set_option maxRecDepth 20000 in
theorem gX7_addPlayer_X7_checkRoomForPlayer : GoodIn wsX7_addPlayer (wsV RX7 81 RX7 yX7_checkRoomForPlayer wsX7_checkRoomForPlayer) := goodIn_app (goodIn_of _ (by decide +kernel)) ggX7_addPlayer_X7_checkRoomForPlayer
theorem dX7_addPlayer_10 : decode cX7_addPlayer 10 = .ok (.aload_n 0, 1) := by decide +kernel
theorem dX7_addPlayer_11 : decode cX7_addPlayer 11 = .ok (.getfield 10, 3) := by decide +kernel
theorem dX7_addPlayer_14 : decode cX7_addPlayer 14 = .ok (.iload_n 1, 1) := by decide +kernel
theorem dX7_addPlayer_15 : decode cX7_addPlayer 15 = .ok (.iload_n 2, 1) := by decide +kernel
theorem dX7_addPlayer_16 : decode cX7_addPlayer 16 = .ok (.invokevirtual 84, 3) := by decide +kernel
set_option maxRecDepth 20000 in
theorem ggX7_addPlayer_X0_putPlayer : GoodIn wsX7_addPlayer wsX0_putPlayer := goodIn_r _ [24, 25, 26, 27, 28, 36, 37, 38, 39, 40, 41, 42, 43, 44, 45] (by decide +kernel) (by decide +kernel)
set_option maxRecDepth 20000 in
theorem gX7_addPlayer_X0_putPlayer : GoodIn wsX7_addPlayer (wsV RX7 84 RX0 yX0_putPlayer wsX0_putPlayer) := goodIn_app (goodIn_of _ (by decide +kernel)) ggX7_addPlayer_X0_putPlayer
theorem dX7_addPlayer_19 : decode cX7_addPlayer 19 = .ok (.ireturn, 1) := by decide +kernel
set_option maxHeartbeats 4000000 in
set_option maxRecDepth 100000 in
theorem k_X7_addPlayer (l : Launch) (hl9 : l.stackTraces = false) (D : va_G) (cy : Nat → ClassId) (h1 : Nat) (p0 : Int32) (p1 : Int32) (h2 : Nat) (x3 : Value) (x4 : Value) (x5 : Value) (x6 : Value) (x7 : Value) (x8 : Value) (x9 : Value) (h10 : Nat) (x11 : Value) (g12 : Nat → Option Nat) (h13 : Nat) (kg12_0 : g12 0 = some h13) (x14 : Value) (x15 : Value) (x16 : Value) (x17 : Value) (x18 : Value) (x19 : Value) (sz : Nat) : vx_Met l yX7_addPlayer wsX7_addPlayer ({ frames := 8, cells := 2, slots := 12, locals := 127 }) (kWX D cy [.ref h1, .int p0, .int p1] [(h1, .inr (9, [.ref h2, x3, x4, x5, x6, x7, x8])), (h2, .inr (2, [x9, .ref h10, x11, .int 0])), (h10, .inl (cy 6, 6, .inr (.inr (.inr (.inr g12))))), (h13, .inr (6, [x14, x15, x16, x17, x18, x19]))] sz) (va_Qi (fun (r : Int32) (_ : Unit) => r = 0 ∧ (((1 : Int) ≤ p0.toInt ∧ p0.toInt ≤ (3 : Int)) ∧ ((0 : Int) ≤ p1.toInt ∧ p1.toInt ≤ (9 : Int)))) (fun (_ : Unit) (t : State) => va_P D vwCl [(h1, .inr (9, [.ref h2, x3, x4, x5, x6, x7, x8])), (h2, .inr (2, [x9, .ref h10, x11, .int 1])), (h10, .inl (cy 6, 6, .inr (.inr (.inr (.inr g12))))), (h13, .inr (6, [.int p0, .int p1, x16, x17, x18, x19]))] t.heap ∧ va_D (va_A [(h1, .inr (9, [.ref h2, x3, x4, x5, x6, x7, x8])), (h2, .inr (2, [x9, .ref h10, x11, .int 0])), (h10, .inl (cy 6, 6, .inr (.inr (.inr (.inr g12))))), (h13, .inr (6, [x14, x15, x16, x17, x18, x19]))] sz) [(h1, .inr (9, [.ref h2, x3, x4, x5, x6, x7, x8])), (h2, .inr (2, [x9, .ref h10, x11, .int 1])), (h10, .inl (cy 6, 6, .inr (.inr (.inr (.inr g12))))), (h13, .inr (6, [.int p0, .int p1, x16, x17, x18, x19]))]) (va_A [(h1, .inr (9, [.ref h2, x3, x4, x5, x6, x7, x8])), (h2, .inr (2, [x9, .ref h10, x11, .int 0])), (h10, .inl (cy 6, 6, .inr (.inr (.inr (.inr g12))))), (h13, .inr (6, [x14, x15, x16, x17, x18, x19]))] sz)) (vx_X (fun _ : Unit => True) (fun (E : String) (_ : Unit) (_ : State) => (E = "java/lang/IllegalArgumentException" ∧ ¬ ((((1 : Int) ≤ p0.toInt ∧ p0.toInt ≤ (3 : Int)) ∧ ((0 : Int) ≤ p1.toInt ∧ p1.toInt ≤ (9 : Int)))))) (va_A [(h1, .inr (9, [.ref h2, x3, x4, x5, x6, x7, x8])), (h2, .inr (2, [x9, .ref h10, x11, .int 0])), (h10, .inl (cy 6, 6, .inr (.inr (.inr (.inr g12))))), (h13, .inr (6, [x14, x15, x16, x17, x18, x19]))] sz)) 2 12 (va_A [(h1, .inr (9, [.ref h2, x3, x4, x5, x6, x7, x8])), (h2, .inr (2, [x9, .ref h10, x11, .int 0])), (h10, .inl (cy 6, 6, .inr (.inr (.inr (.inr g12))))), (h13, .inr (6, [x14, x15, x16, x17, x18, x19]))] sz) := by
  refine vx_ofW (cc := cX7_addPlayer) (maxL := 3) (ret := (some .int)) (by decide) rfl ?_
  intro p e s m args below meth c s₁ B hml ht9 hv
  obtain ⟨rfl, hsz, hP, hK, hD0, hE⟩ := hv
  have hx := B.exec
  have hb := B.bytes
  have hr := B.returns
  have hts := atoms_spec (ws := wsX7_addPlayer) B.pre
  have hown : s.vm.findClass RX7 = some m.cls := findClass_of_methodNamed B.named
  have hlocks := B.notSynchronized
  subst hsz
  have hD := hD0.self (sz := s.heap.size)
  generalize hAe : va_A [(h1, .inr (9, [.ref h2, x3, x4, x5, x6, x7, x8])), (h2, .inr (2, [x9, .ref h10, x11, .int 0])), (h10, .inl (cy 6, 6, .inr (.inr (.inr (.inr g12))))), (h13, .inr (6, [x14, x15, x16, x17, x18, x19]))] s.heap.size = A at hD hE ⊢
  have hA : ∀ q : Nat, s.heap.size ≤ q → A q := fun q h => by rw [← hAe]; exact Or.inr h
  have hS : va_S A s.heap s.heap [] := va_S.rf
  have hP : va_P D vwCl [(h1, .inr (9, [.ref h2, x3, x4, x5, x6, x7, x8])), (h2, .inr (2, [x9, .ref h10, x11, .int 0])), (h10, .inl (cy 6, 6, .inr (.inr (.inr (.inr g12))))), (h13, .inr (6, [x14, x15, x16, x17, x18, x19]))] s.heap := hP
  have hl := lv_entry ([.ref h1, .int p0, .int p1]) (n := 3) (Nat.le_of_ble_eq_true rfl)
  rw [lg_entry_eq]
  generalize (lg_sl ([.ref h1, .int p0, .int p1]) ++ List.replicate (3 - (lg_sl ([.ref h1, .int p0, .int p1])).length) Slot.unset).toArray = ls at hl ⊢
  have hl : lv_has ls 3 [(0, .ref h1), (1, .int p0), (2, .int p1)] := hl
  refine lv_aload_n hx hb dX7_addPlayer_0 rfl (lv_at hl 0 rfl) ?_
  refine lv_iload_n hx hb dX7_addPlayer_1 rfl (lv_at hl 1 rfl) ?_
  refine lv_iload_n hx hb dX7_addPlayer_2 rfl (lv_at hl 2 rfl) ?_
  have hPc := hP.sub (ws' := [(h1, .inr (9, [.ref h2, x3, x4, x5, x6, x7, x8]))]) [0] rfl
  refine vx_callv (vx_runV (As := [.int p0, .int p1]) (rest := []) ⟨hx, hb, hml, hown, hts⟩ (k_X7_checkBody l hl9 D cy h1 p0 p1 (.ref h2) (x3) (x4) (x5) (x6) (x7) (x8)) (cwV 2 hts gX7_addPlayer_X7_checkBody rfl rfl rfl (by decide +kernel) ⟨(Nat.le_of_ble_eq_true rfl), (Nat.le_of_ble_eq_true rfl)⟩) ⟨kRX_fb, va_recv hK hP (ci := 9) (q0 := 0) rfl rfl, (kRX_go hPc hK hE hS)⟩ rfl rfl hl.1 rfl (lv_room (Nat.le_of_ble_eq_true rfl)) dX7_addPlayer_3 ⟨(Nat.le_of_ble_eq_true rfl), (Nat.le_of_ble_eq_true rfl)⟩) hS (fun _ _ h => h.elim) (fun _ h => h.elim) (fun _ _ h => h.elim) (fun E9 ce9 q9 u t H locs ht hvm hw hB hz1 hk1 hS hce hcv hcl => ?_) (fun u t H locs ht hvm hw hB hz1 hk1 hS => ?_)
  · obtain ⟨rfl, hB⟩ := hB
    have f_1 : ¬ ((((1 : Int) ≤ p0.toInt ∧ p0.toInt ≤ (3 : Int)) ∧ ((0 : Int) ≤ p1.toInt ∧ p1.toInt ≤ (9 : Int)))) := hB
    exact vx_out (fun x hx => (ht9 x hx).elim) hlocks hce hcv hcl (fun t ht _ => ⟨(), trivial, (⟨rfl, (by omega)⟩), hS.F ht⟩) hS.2.2 (Nat.le_of_ble_eq_true rfl) (Nat.le_of_ble_eq_true rfl)
  · have hP := kx_kept hP hk1
    have f_2 : (((1 : Int) ≤ p0.toInt ∧ p0.toInt ≤ (3 : Int)) ∧ ((0 : Int) ≤ p1.toInt ∧ p1.toInt ≤ (9 : Int))) := hw
    refine lv_aload_n hx hb dX7_addPlayer_6 rfl (lv_at hl 0 rfl) ?_
    have hPc := hP.sub (ws' := [(h1, .inr (9, [.ref h2, x3, x4, x5, x6, x7, x8])), (h2, .inr (2, [x9, .ref h10, x11, .int 0]))]) [0, 1] rfl
    refine va_callv (va_runV (As := []) (rest := []) ⟨hx, hb, hml, hown, hts⟩ (k_X7_checkRoomForPlayer l D cy h1 h2 (x3) (x4) (x5) (x6) (x7) (x8) (x9) (.ref h10) (x11)) (cwV 0 hts gX7_addPlayer_X7_checkRoomForPlayer rfl rfl rfl (by decide +kernel) ⟨(Nat.le_of_ble_eq_true rfl), (Nat.le_of_ble_eq_true rfl)⟩) ⟨kR_fb, va_recv hK hP (ci := 9) (q0 := 0) rfl rfl, (kR_go hPc hK)⟩ rfl rfl hl.1 rfl (lv_room (Nat.le_of_ble_eq_true rfl)) dX7_addPlayer_7 ⟨(Nat.le_of_ble_eq_true rfl), (Nat.le_of_ble_eq_true rfl)⟩) hS (fun _ _ h => h.elim) (fun _ h => h.elim) (fun u t H locs ht hvm hw hB hz1 hk1 hS => ?_)
    have hP := kx_kept hP hk1
    refine lv_aload_n hx hb dX7_addPlayer_10 rfl (lv_at hl 0 rfl) ?_
    refine va_get (D := D) (ci := 9) (v := .ref h2) (C := RX7) (T := TX7) (N := 7) hx hb hts (fun _ h => (List.mem_cons_of_mem _ (List.mem_append_left _ (List.mem_append_left _ (List.mem_append_left _ (List.mem_append_left _ (List.mem_append_right _ h))))))) hown hK hP 0 rfl rfl 0 (by decide) (hts (.fieldLink RX7 10 "SelfishJunction" "board" "LSelfishJunction$Board;") (List.mem_cons_of_mem _ (List.mem_append_left _ (List.mem_append_left _ (List.mem_append_left _ (List.mem_append_left _ (List.mem_append_left _ (List.mem_append_left _ (List.mem_of_getElem? (i := 0) rfl))))))))) (fun _ h9 => h9) rfl dX7_addPlayer_11 ?_
    refine lv_iload_n hx hb dX7_addPlayer_14 rfl (lv_at hl 1 rfl) ?_
    refine lv_iload_n hx hb dX7_addPlayer_15 rfl (lv_at hl 2 rfl) ?_
    have hPc := hP.sub (ws' := [(h2, .inr (2, [x9, .ref h10, x11, .int 0])), (h10, .inl (cy 6, 6, .inr (.inr (.inr (.inr g12))))), (h13, .inr (6, [x14, x15, x16, x17, x18, x19]))]) [1, 2, 3] rfl
    have hDc := hD.sub (ws' := [(h2, .inr (2, [x9, .ref h10, x11, .int 0])), (h10, .inl (cy 6, 6, .inr (.inr (.inr (.inr g12))))), (h13, .inr (6, [x14, x15, x16, x17, x18, x19]))]) [1, 2, 3] (by decide) rfl
    have hFc := va_free (wc := [(h2, .inr (2, [x9, .ref h10, x11, .int 0])), (h10, .inl (cy 6, 6, .inr (.inr (.inr (.inr g12))))), (h13, .inr (6, [x14, x15, x16, x17, x18, x19]))]) hD hS hA [1, 2, 3] rfl
    refine va_calli (va_runV (As := [.int p0, .int p1]) (rest := []) ⟨hx, hb, hml, hown, hts⟩ (k_X0_putPlayer l D cy h2 p0 p1 (x9) h10 (x11) g12 h13 (kg12_0) (x14) (x15) (x16) (x17) (x18) (x19) H.size) (cwV 2 hts gX7_addPlayer_X0_putPlayer rfl rfl rfl (by decide +kernel) ⟨(Nat.le_of_ble_eq_true rfl), (Nat.le_of_ble_eq_true rfl)⟩) ⟨kW_fb, va_recv hK hP (ci := 2) (q0 := 1) rfl rfl, (kW_go hPc hK hDc)⟩ rfl rfl hl.1 rfl (lv_room (Nat.le_of_ble_eq_true rfl)) dX7_addPlayer_16 ⟨(Nat.le_of_ble_eq_true rfl), (Nat.le_of_ble_eq_true rfl)⟩) hS (fun q _ h => hFc q h) hFc (fun r9 u t H locs ht hvm hw hB hz1 hk1 hS => ?_)
    obtain ⟨hP1, hD1⟩ := hB
    rw [ht] at hP1
    try dsimp only at hw hP1 hD1
    obtain ⟨hP, hD⟩ := va_join (wr := [(h1, .inr (9, [.ref h2, x3, x4, x5, x6, x7, x8]))]) (w1 := [(h2, .inr (2, [x9, .ref h10, x11, .int 1])), (h10, .inl (cy 6, 6, .inr (.inr (.inr (.inr g12))))), (h13, .inr (6, [.int p0, .int p1, x16, x17, x18, x19]))]) hP hD [1, 2, 3] [0] rfl rfl (by decide) (by decide) hk1 hFc hP1 hD1
    have hP : va_P D vwCl [(h1, .inr (9, [.ref h2, x3, x4, x5, x6, x7, x8])), (h2, .inr (2, [x9, .ref h10, x11, .int 1])), (h10, .inl (cy 6, 6, .inr (.inr (.inr (.inr g12))))), (h13, .inr (6, [.int p0, .int p1, x16, x17, x18, x19]))] H := hP
    have hD : va_D A [(h1, .inr (9, [.ref h2, x3, x4, x5, x6, x7, x8])), (h2, .inr (2, [x9, .ref h10, x11, .int 1])), (h10, .inl (cy 6, 6, .inr (.inr (.inr (.inr g12))))), (h13, .inr (6, [.int p0, .int p1, x16, x17, x18, x19]))] := hD
    obtain ⟨rfl, hw⟩ := hw
    refine vx_ret ?_
    refine W.widen (k := 2) (n := 12) (Nat.le_of_ble_eq_true rfl) (Nat.le_of_ble_eq_true rfl) ?_
    have hP9 := hP.sub (ws' := [(h1, .inr (9, [.ref h2, x3, x4, x5, x6, x7, x8])), (h2, .inr (2, [x9, .ref h10, x11, .int 1])), (h10, .inl (cy 6, 6, .inr (.inr (.inr (.inr g12))))), (h13, .inr (6, [.int p0, .int p1, x16, x17, x18, x19]))]) [0, 1, 2, 3] rfl
    have hD9 := hD.sub (ws' := [(h1, .inr (9, [.ref h2, x3, x4, x5, x6, x7, x8])), (h2, .inr (2, [x9, .ref h10, x11, .int 1])), (h10, .inl (cy 6, 6, .inr (.inr (.inr (.inr g12))))), (h13, .inr (6, [.int p0, .int p1, x16, x17, x18, x19]))]) [0, 1, 2, 3] (by decide) rfl
    exact W.iret (v := 0) hx hb hr (fun t ht hW => ⟨⟨0, (), rfl, ⟨rfl, (by omega)⟩, ⟨by rw [ht]; exact hP9, hD9⟩⟩, hS.F ht⟩) hS.2.2 dX7_addPlayer_19
theorem dL_addPlayer_0 : decode cL_addPlayer 0 = .ok (.aload_n 3, 1) := by decide +kernel
theorem dL_addPlayer_1 : decode cL_addPlayer 1 = .ok (.iconst 0, 1) := by decide +kernel
theorem dL_addPlayer_2 : decode cL_addPlayer 2 = .ok (.aload_n 0, 1) := by decide +kernel
theorem dL_addPlayer_3 : decode cL_addPlayer 3 = .ok (.iload_n 1, 1) := by decide +kernel
theorem dL_addPlayer_4 : decode cL_addPlayer 4 = .ok (.iload_n 2, 1) := by decide +kernel
theorem dL_addPlayer_5 : decode cL_addPlayer 5 = .ok (.invokevirtual 21, 3) := by decide +kernel
set_option maxRecDepth 20000 in
theorem ggL_addPlayer_X7_addPlayer : GoodIn wsL_addPlayer wsX7_addPlayer := goodIn_ca (goodIn_ca (goodIn_r _ [7, 8, 9, 10, 11, 6, 12, 13, 14, 15, 16, 17, 18, 19, 20, 21, 22, 23, 24, 25, 26, 27, 28, 29, 30, 31, 32, 33, 34, 35, 36, 37, 38, 39, 40, 41, 42, 43, 44, 45, 46, 47, 48, 49, 50, 51] (by decide +kernel) (by decide +kernel)) (goodIn_sub (fun _ h => List.mem_cons_of_mem _ (List.mem_append_left _ (List.mem_append_right _ h))) (by decide +kernel))) (goodIn_sub (fun _ h => List.mem_cons_of_mem _ (List.mem_append_right _ h)) (by decide +kernel))
set_option maxRecDepth 20000 in
theorem gL_addPlayer_X7_addPlayer : GoodIn wsL_addPlayer (wsV RL 21 RX7 yX7_addPlayer wsX7_addPlayer) := goodIn_app (goodIn_of _ (by decide +kernel)) ggL_addPlayer_X7_addPlayer
theorem dL_addPlayer_13 : decode cL_addPlayer 13 = .ok (.astore 4, 2) := by decide +kernel
theorem dL_addPlayer_15 : decode cL_addPlayer 15 = .ok (.iconst 1, 1) := by decide +kernel
theorem dL_addPlayer_16 : decode cL_addPlayer 16 = .ok (.ireturn, 1) := by decide +kernel
theorem dL_addPlayer_8 : decode cL_addPlayer 8 = .ok (.i2l, 1) := by decide +kernel
theorem dL_addPlayer_9 : decode cL_addPlayer 9 = .ok (.lastore, 1) := by decide +kernel
theorem dL_addPlayer_10 : decode cL_addPlayer 10 = .ok (.goto 11, 3) := by decide +kernel
theorem dL_addPlayer_21 : decode cL_addPlayer 21 = .ok (.iconst 0, 1) := by decide +kernel
theorem dL_addPlayer_22 : decode cL_addPlayer 22 = .ok (.ireturn, 1) := by decide +kernel
set_option maxHeartbeats 4000000 in
set_option maxRecDepth 100000 in
theorem k_L_addPlayer (l : Launch) (hl9 : l.stackTraces = false) (D : va_G) (cy : Nat → ClassId) (h1 : Nat) (p1 : Int32) (p2 : Int32) (h2 : Nat) (h3 : Nat) (x4 : Value) (x5 : Value) (x6 : Value) (x7 : Value) (x8 : Value) (x9 : Value) (g10 : Nat → Int64) (x11 : Value) (h12 : Nat) (x13 : Value) (g14 : Nat → Option Nat) (h15 : Nat) (kg14_0 : g14 0 = some h15) (x16 : Value) (x17 : Value) (x18 : Value) (x19 : Value) (x20 : Value) (x21 : Value) (sz : Nat) : Met l yL_addPlayer wsL_addPlayer ({ frames := 9, cells := 2, slots := 12, locals := 149 }) (kWX D cy [.ref h1, .int p1, .int p2, .ref h2] [(h1, .inr (9, [.ref h3, x4, x5, x6, x7, x8, x9])), (h2, .inl (cy 2, 1, .inr (.inl g10))), (h3, .inr (2, [x11, .ref h12, x13, .int 0])), (h12, .inl (cy 6, 6, .inr (.inr (.inr (.inr g14))))), (h15, .inr (6, [x16, x17, x18, x19, x20, x21]))] sz) (va_Qi (fun (r : Int32) (u : (Nat → Int64)) => match u with | u1 => ((r = 1 ∧ ¬ ((((1 : Int) ≤ p1.toInt ∧ p1.toInt ≤ (3 : Int)) ∧ ((0 : Int) ≤ p2.toInt ∧ p2.toInt ≤ (9 : Int))))) ∨ (r = 0 ∧ (u1 0 = 0) ∧ (((1 : Int) ≤ p1.toInt ∧ p1.toInt ≤ (3 : Int)) ∧ ((0 : Int) ≤ p2.toInt ∧ p2.toInt ≤ (9 : Int)))))) (fun (u : (Nat → Int64)) (t : State) => match u with | u1 => va_P D vwCl [(h2, .inl (cy 2, 1, .inr (.inl u1)))] t.heap ∧ va_D (va_A [(h1, .inr (9, [.ref h3, x4, x5, x6, x7, x8, x9])), (h2, .inl (cy 2, 1, .inr (.inl g10))), (h3, .inr (2, [x11, .ref h12, x13, .int 0])), (h12, .inl (cy 6, 6, .inr (.inr (.inr (.inr g14))))), (h15, .inr (6, [x16, x17, x18, x19, x20, x21]))] sz) [(h2, .inl (cy 2, 1, .inr (.inl u1)))]) (va_A [(h1, .inr (9, [.ref h3, x4, x5, x6, x7, x8, x9])), (h2, .inl (cy 2, 1, .inr (.inl g10))), (h3, .inr (2, [x11, .ref h12, x13, .int 0])), (h12, .inl (cy 6, 6, .inr (.inr (.inr (.inr g14))))), (h15, .inr (6, [x16, x17, x18, x19, x20, x21]))] sz)) 2 12 (va_A [(h1, .inr (9, [.ref h3, x4, x5, x6, x7, x8, x9])), (h2, .inl (cy 2, 1, .inr (.inl g10))), (h3, .inr (2, [x11, .ref h12, x13, .int 0])), (h12, .inl (cy 6, 6, .inr (.inr (.inr (.inr g14))))), (h15, .inr (6, [x16, x17, x18, x19, x20, x21]))] sz) := by
  refine va_MetW (cc := cL_addPlayer) (maxL := 5) (ret := (some .int)) (by decide) rfl ?_
  intro p e s m args below meth c s₁ B hml hv
  obtain ⟨rfl, hsz, hP, hK, hD0, hE⟩ := hv
  have hx := B.exec
  have hb := B.bytes
  have hr := B.returns
  have hts := atoms_spec (ws := wsL_addPlayer) B.pre
  have hown : s.vm.findClass RL = some m.cls := findClass_of_methodNamed B.named
  have hlocks := B.notSynchronized
  have htb := vx_table (x := yL_addPlayer) B (hts _ (List.mem_cons_self))
  subst hsz
  have hD := hD0.self (sz := s.heap.size)
  generalize hAe : va_A [(h1, .inr (9, [.ref h3, x4, x5, x6, x7, x8, x9])), (h2, .inl (cy 2, 1, .inr (.inl g10))), (h3, .inr (2, [x11, .ref h12, x13, .int 0])), (h12, .inl (cy 6, 6, .inr (.inr (.inr (.inr g14))))), (h15, .inr (6, [x16, x17, x18, x19, x20, x21]))] s.heap.size = A at hD hE ⊢
  have hA : ∀ q : Nat, s.heap.size ≤ q → A q := fun q h => by rw [← hAe]; exact Or.inr h
  have hS : va_S A s.heap s.heap [] := va_S.rf
  have hP : va_P D vwCl [(h1, .inr (9, [.ref h3, x4, x5, x6, x7, x8, x9])), (h2, .inl (cy 2, 1, .inr (.inl g10))), (h3, .inr (2, [x11, .ref h12, x13, .int 0])), (h12, .inl (cy 6, 6, .inr (.inr (.inr (.inr g14))))), (h15, .inr (6, [x16, x17, x18, x19, x20, x21]))] s.heap := hP
  have hl := lv_entry ([.ref h1, .int p1, .int p2, .ref h2]) (n := 5) (Nat.le_of_ble_eq_true rfl)
  rw [lg_entry_eq]
  generalize (lg_sl ([.ref h1, .int p1, .int p2, .ref h2]) ++ List.replicate (5 - (lg_sl ([.ref h1, .int p1, .int p2, .ref h2])).length) Slot.unset).toArray = ls at hl ⊢
  have hl : lv_has ls 5 [(0, .ref h1), (1, .int p1), (2, .int p2), (3, .ref h2)] := hl
  refine lv_aload_n hx hb dL_addPlayer_0 rfl (lv_at hl 3 rfl) ?_
  refine lv_iconst (v := 0) hx hb dL_addPlayer_1 (by decide) ?_
  refine lv_aload_n hx hb dL_addPlayer_2 rfl (lv_at hl 0 rfl) ?_
  refine lv_iload_n hx hb dL_addPlayer_3 rfl (lv_at hl 1 rfl) ?_
  refine lv_iload_n hx hb dL_addPlayer_4 rfl (lv_at hl 2 rfl) ?_
  have hPc := hP.sub (ws' := [(h1, .inr (9, [.ref h3, x4, x5, x6, x7, x8, x9])), (h3, .inr (2, [x11, .ref h12, x13, .int 0])), (h12, .inl (cy 6, 6, .inr (.inr (.inr (.inr g14))))), (h15, .inr (6, [x16, x17, x18, x19, x20, x21]))]) [0, 2, 3, 4] rfl
  have hDc := hD.sub (ws' := [(h1, .inr (9, [.ref h3, x4, x5, x6, x7, x8, x9])), (h3, .inr (2, [x11, .ref h12, x13, .int 0])), (h12, .inl (cy 6, 6, .inr (.inr (.inr (.inr g14))))), (h15, .inr (6, [x16, x17, x18, x19, x20, x21]))]) [0, 2, 3, 4] (by decide) rfl
  have hFc := va_free (wc := [(h1, .inr (9, [.ref h3, x4, x5, x6, x7, x8, x9])), (h3, .inr (2, [x11, .ref h12, x13, .int 0])), (h12, .inl (cy 6, 6, .inr (.inr (.inr (.inr g14))))), (h15, .inr (6, [x16, x17, x18, x19, x20, x21]))]) hD hS hA [0, 2, 3, 4] rfl
  refine vx_calli (vx_runV (As := [.int p1, .int p2]) (rest := [.int 0, .ref h2]) ⟨hx, hb, hml, hown, hts⟩ (k_X7_addPlayer l hl9 D cy h1 p1 p2 h3 (x4) (x5) (x6) (x7) (x8) (x9) (x11) h12 (x13) g14 h15 (kg14_0) (x16) (x17) (x18) (x19) (x20) (x21) s.heap.size) (cwV 2 hts gL_addPlayer_X7_addPlayer rfl rfl rfl (by decide +kernel) ⟨(Nat.le_of_ble_eq_true rfl), (Nat.le_of_ble_eq_true rfl)⟩) ⟨kWX_fb, va_recv hK hP (ci := 9) (q0 := 0) rfl rfl, (kWX_go hPc hK hDc hFc hE hS)⟩ rfl rfl hl.1 rfl (lv_room (Nat.le_of_ble_eq_true rfl)) dL_addPlayer_5 ⟨(Nat.le_of_ble_eq_true rfl), (Nat.le_of_ble_eq_true rfl)⟩) hS (fun q _ h => hFc q h) hFc (fun q _ h => hFc q h) (fun E9 ce9 q9 u t H locs ht hvm hw hB hz1 hk1 hS hce hcv hcl => ?_) (fun r9 u t H locs ht hvm hw hB hz1 hk1 hS => ?_)
  · obtain ⟨rfl, hB⟩ := hB
    have f_1 : ¬ ((((1 : Int) ≤ p1.toInt ∧ p1.toInt ≤ (3 : Int)) ∧ ((0 : Int) ≤ p2.toInt ∧ p2.toInt ≤ (9 : Int)))) := hB
    obtain ⟨hP, hD⟩ := va_join (wr := [(h2, .inl (cy 2, 1, .inr (.inl g10)))]) (w1 := []) hP hD [0, 2, 3, 4] [1] rfl rfl (by decide) (by decide) hk1 hFc (fun k q h => by simp at h) ⟨fun i j p q h => by simp at h, fun k q h => by simp at h⟩
    have hP : va_P D vwCl [(h2, .inl (cy 2, 1, .inr (.inl g10)))] H := hP
    have hD : va_D A [(h2, .inl (cy 2, 1, .inr (.inl g10)))] := hD
    refine vx_catch (E := "java/lang/IllegalArgumentException") (name := "java/lang/IllegalArgumentException") hown [] (⟨0, 10, 13, 13⟩ : ExceptionTableEntry) [(⟨0, 10, 17, 15⟩ : ExceptionTableEntry)] htb (fun _ h => absurd h List.not_mem_nil) rfl (by decide) (hts (.classLink RL 13 "java/lang/IllegalArgumentException") (List.mem_cons_of_mem _ (List.mem_append_left _ (List.mem_append_left _ (List.mem_append_left _ (List.mem_append_left _ (List.mem_append_left _ (List.mem_append_left _ (List.mem_append_left _ (List.mem_of_getElem? (i := 0) rfl)))))))))) (exP.cast hE "java/lang/IllegalArgumentException" (by decide +kernel)) hce hcv hcl ?_
    refine lv_astore (lv' := [(4, .ref q9), (0, .ref h1), (1, .int p1), (2, .int p2), (3, .ref h2)]) hx hb dL_addPlayer_13 hl (by decide) rfl (fun ls hl => ?_)
    refine lv_iconst (v := 1) hx hb dL_addPlayer_15 (by decide) ?_
    refine W.widen (k := 2) (n := 12) (Nat.le_of_ble_eq_true rfl) (Nat.le_of_ble_eq_true rfl) ?_
    have hP9 := hP.sub (ws' := [(h2, .inl (cy 2, 1, .inr (.inl g10)))]) [0] rfl
    have hD9 := hD.sub (ws' := [(h2, .inl (cy 2, 1, .inr (.inl g10)))]) [0] (by decide) rfl
    exact W.iret (v := 1) hx hb hr (fun t ht hW => ⟨⟨1, (g10), rfl, Or.inl (⟨rfl, (by omega)⟩), ⟨by rw [ht]; exact hP9, hD9⟩⟩, hS.F ht⟩) hS.2.2 dL_addPlayer_16
  · obtain ⟨hP1, hD1⟩ := hB
    rw [ht] at hP1
    try dsimp only at hw hP1 hD1
    obtain ⟨hP, hD⟩ := va_join (wr := [(h2, .inl (cy 2, 1, .inr (.inl g10)))]) (w1 := [(h1, .inr (9, [.ref h3, x4, x5, x6, x7, x8, x9])), (h3, .inr (2, [x11, .ref h12, x13, .int 1])), (h12, .inl (cy 6, 6, .inr (.inr (.inr (.inr g14))))), (h15, .inr (6, [.int p1, .int p2, x18, x19, x20, x21]))]) hP hD [0, 2, 3, 4] [1] rfl rfl (by decide) (by decide) hk1 hFc hP1 hD1
    have hP : va_P D vwCl [(h2, .inl (cy 2, 1, .inr (.inl g10))), (h1, .inr (9, [.ref h3, x4, x5, x6, x7, x8, x9])), (h3, .inr (2, [x11, .ref h12, x13, .int 1])), (h12, .inl (cy 6, 6, .inr (.inr (.inr (.inr g14))))), (h15, .inr (6, [.int p1, .int p2, x18, x19, x20, x21]))] H := hP
    have hD : va_D A [(h2, .inl (cy 2, 1, .inr (.inl g10))), (h1, .inr (9, [.ref h3, x4, x5, x6, x7, x8, x9])), (h3, .inr (2, [x11, .ref h12, x13, .int 1])), (h12, .inl (cy 6, 6, .inr (.inr (.inr (.inr g14))))), (h15, .inr (6, [.int p1, .int p2, x18, x19, x20, x21]))] := hD
    refine W.widen (k := 2) (n := 12) (Nat.le_of_ble_eq_true rfl) (Nat.le_of_ble_eq_true rfl) ?_
    obtain ⟨rfl, hw⟩ := hw
    have f_2 : (((1 : Int) ≤ p1.toInt ∧ p1.toInt ≤ (3 : Int)) ∧ ((0 : Int) ≤ p2.toInt ∧ p2.toInt ≤ (9 : Int))) := hw
    refine lv_i2l (v := 0) hx hb dL_addPlayer_8 (by decide) ?_
    refine va_last hx hb hK hP hD hS 0 2 rfl rfl (kx_in 0 1 rfl ⟨(Nat.le_of_ble_eq_true rfl), (Nat.le_of_ble_eq_true rfl)⟩ (Nat.le_of_ble_eq_true rfl)) dL_addPlayer_9 (fun H locs hP hD hS => ?_)
    have hP : va_P D vwCl [(h2, .inl (cy 2, 1, .inr (.inl (vp_updL g10 0 0)))), (h1, .inr (9, [.ref h3, x4, x5, x6, x7, x8, x9])), (h3, .inr (2, [x11, .ref h12, x13, .int 1])), (h12, .inl (cy 6, 6, .inr (.inr (.inr (.inr g14))))), (h15, .inr (6, [.int p1, .int p2, x18, x19, x20, x21]))] H := hP
    have hD : va_D A [(h2, .inl (cy 2, 1, .inr (.inl (vp_updL g10 0 0)))), (h1, .inr (9, [.ref h3, x4, x5, x6, x7, x8, x9])), (h3, .inr (2, [x11, .ref h12, x13, .int 1])), (h12, .inl (cy 6, 6, .inr (.inr (.inr (.inr g14))))), (h15, .inr (6, [.int p1, .int p2, x18, x19, x20, x21]))] := hD
    refine lv_goto (tgt := 21) hx hb dL_addPlayer_10 (by decide) ?_
    refine lv_iconst (v := 0) hx hb dL_addPlayer_21 (by decide) ?_
    refine W.widen (k := 2) (n := 12) (Nat.le_of_ble_eq_true rfl) (Nat.le_of_ble_eq_true rfl) ?_
    have hP9 := hP.sub (ws' := [(h2, .inl (cy 2, 1, .inr (.inl (vp_updL g10 0 0))))]) [0] rfl
    have hD9 := hD.sub (ws' := [(h2, .inl (cy 2, 1, .inr (.inl (vp_updL g10 0 0))))]) [0] (by decide) rfl
    exact W.iret (v := 0) hx hb hr (fun t ht hW => ⟨⟨0, ((vp_updL g10 0 0)), rfl, Or.inr (⟨rfl, (rfl), (by omega)⟩), ⟨by rw [ht]; exact hP9, hD9⟩⟩, hS.F ht⟩) hS.2.2 dL_addPlayer_22
theorem dX8_isNoPlayer_0 : decode cX8_isNoPlayer 0 = .ok (.iload_n 0, 1) := by decide +kernel
theorem dX8_isNoPlayer_1 : decode cX8_isNoPlayer 1 = .ok (.iconst 1, 1) := by decide +kernel
theorem dX8_isNoPlayer_2 : decode cX8_isNoPlayer 2 = .ok (.iconst 3, 1) := by decide +kernel
theorem dX8_isNoPlayer_3 : decode cX8_isNoPlayer 3 = .ok (.invokestatic 65, 3) := by decide +kernel
set_option maxRecDepth 20000 in
theorem ggX8_isNoPlayer_X8_isIn : GoodIn wsX8_isNoPlayer wsX8_isIn := goodIn_r _ [4] (by decide +kernel) (by decide +kernel)
set_option maxRecDepth 20000 in
theorem gX8_isNoPlayer_X8_isIn : GoodIn wsX8_isNoPlayer (va_wsS RX8 65 yX8_isIn wsX8_isIn) := goodIn_app (goodIn_of _ (by decide +kernel)) ggX8_isNoPlayer_X8_isIn
theorem dX8_isNoPlayer_6 : decode cX8_isNoPlayer 6 = .ok (.ifCond .eq 13, 3) := by decide +kernel
theorem dX8_isNoPlayer_9 : decode cX8_isNoPlayer 9 = .ok (.iload_n 1, 1) := by decide +kernel
theorem dX8_isNoPlayer_10 : decode cX8_isNoPlayer 10 = .ok (.iconst 0, 1) := by decide +kernel
theorem dX8_isNoPlayer_11 : decode cX8_isNoPlayer 11 = .ok (.bipush 9, 2) := by decide +kernel
theorem dX8_isNoPlayer_13 : decode cX8_isNoPlayer 13 = .ok (.invokestatic 65, 3) := by decide +kernel
theorem dX8_isNoPlayer_16 : decode cX8_isNoPlayer 16 = .ok (.ifCond .ne 7, 3) := by decide +kernel
theorem dX8_isNoPlayer_23 : decode cX8_isNoPlayer 23 = .ok (.iconst 0, 1) := by decide +kernel
theorem dX8_isNoPlayer_24 : decode cX8_isNoPlayer 24 = .ok (.ireturn, 1) := by decide +kernel
theorem dX8_isNoPlayer_19 : decode cX8_isNoPlayer 19 = .ok (.iconst 1, 1) := by decide +kernel
theorem dX8_isNoPlayer_20 : decode cX8_isNoPlayer 20 = .ok (.goto 4, 3) := by decide +kernel
set_option maxHeartbeats 4000000 in
set_option maxRecDepth 100000 in
theorem k_X8_isNoPlayer (l : Launch) (D : va_G) (cy : Nat → ClassId) (p0 : Int32) (p1 : Int32) : Met l yX8_isNoPlayer wsX8_isNoPlayer ({ frames := 1, cells := 0, slots := 0, locals := 22 }) (kR D cy [.int p0, .int p1] []) (va_Qi (fun (r : Int32) (_ : Unit) => ((r = 1 ∧ ¬ ((((1 : Int) ≤ p0.toInt ∧ p0.toInt ≤ (3 : Int)) ∧ ((0 : Int) ≤ p1.toInt ∧ p1.toInt ≤ (9 : Int))))) ∨ (r = 0 ∧ (((1 : Int) ≤ p0.toInt ∧ p0.toInt ≤ (3 : Int)) ∧ ((0 : Int) ≤ p1.toInt ∧ p1.toInt ≤ (9 : Int)))))) (fun (_ : Unit) (_ : State) => True) (fun _ : Nat => False)) 0 0 (fun _ : Nat => False) := by
  refine Met.ofW (cc := cX8_isNoPlayer) (maxL := 2) (ret := (some .boolean)) (by decide) rfl ?_
  intro p e s m args below meth c s₁ B hml hv
  obtain ⟨rfl, hP, hK⟩ := hv
  have hx := B.exec
  have hb := B.bytes
  have hr := B.returns
  have hts := atoms_spec (ws := wsX8_isNoPlayer) B.pre
  have hown : s.vm.findClass RX8 = some m.cls := findClass_of_methodNamed B.named
  have hlocks := B.notSynchronized
  have hS : va_S (fun _ : Nat => False) s.heap s.heap [] := va_S.rf
  have hP : va_P D vwCl [] s.heap := hP
  have hl := lv_entry ([.int p0, .int p1]) (n := 2) (Nat.le_of_ble_eq_true rfl)
  rw [lg_entry_eq]
  generalize (lg_sl ([.int p0, .int p1]) ++ List.replicate (2 - (lg_sl ([.int p0, .int p1])).length) Slot.unset).toArray = ls at hl ⊢
  have hl : lv_has ls 2 [(0, .int p0), (1, .int p1)] := hl
  refine lv_iload_n hx hb dX8_isNoPlayer_0 rfl (lv_at hl 0 rfl) ?_
  refine lv_iconst (v := 1) hx hb dX8_isNoPlayer_1 (by decide) ?_
  refine lv_iconst (v := 3) hx hb dX8_isNoPlayer_2 (by decide) ?_
  have hPc := hP.sub (ws' := []) [] rfl
  refine va_calli (va_runS (As := [.int p0, .int 1, .int 3]) (rest := []) ⟨hx, hb, hml, hown, hts⟩ (k_X8_isIn l D cy p0 1 3) (va_cwS 3 hts gX8_isNoPlayer_X8_isIn rfl rfl rfl (by decide +kernel) ⟨(Nat.le_of_ble_eq_true rfl), (Nat.le_of_ble_eq_true rfl)⟩) ⟨kR_fb, (kR_go hPc hK)⟩ rfl rfl hl.1 rfl (lv_room (Nat.le_of_ble_eq_true rfl)) dX8_isNoPlayer_3 ⟨(Nat.le_of_ble_eq_true rfl), (Nat.le_of_ble_eq_true rfl)⟩) hS (fun _ _ h => h.elim) (fun _ h => h.elim) (fun r9 u t H locs ht hvm hw hB hz1 hk1 hS => ?_)
  have hP := kx_kept hP hk1
  rcases hw with ⟨rfl, hw⟩ | ⟨rfl, hw⟩
  · have f_1 : ((1 : Int) ≤ p0.toInt ∧ p0.toInt ≤ (3 : Int)) := hw
    refine lv_if_eq (tgt := 19) hx hb dX8_isNoPlayer_6 (by decide) (fun h => absurd h (by decide)) (fun _ => ?_)
    refine lv_iload_n hx hb dX8_isNoPlayer_9 rfl (lv_at hl 1 rfl) ?_
    refine lv_iconst (v := 0) hx hb dX8_isNoPlayer_10 (by decide) ?_
    refine lv_bipush (v := 9) hx hb dX8_isNoPlayer_11 (by decide) ?_
    have hPc := hP.sub (ws' := []) [] rfl
    refine va_calli (va_runS (As := [.int p1, .int 0, .int 9]) (rest := []) ⟨hx, hb, hml, hown, hts⟩ (k_X8_isIn l D cy p1 0 9) (va_cwS 3 hts gX8_isNoPlayer_X8_isIn rfl rfl rfl (by decide +kernel) ⟨(Nat.le_of_ble_eq_true rfl), (Nat.le_of_ble_eq_true rfl)⟩) ⟨kR_fb, (kR_go hPc hK)⟩ rfl rfl hl.1 rfl (lv_room (Nat.le_of_ble_eq_true rfl)) dX8_isNoPlayer_13 ⟨(Nat.le_of_ble_eq_true rfl), (Nat.le_of_ble_eq_true rfl)⟩) hS (fun _ _ h => h.elim) (fun _ h => h.elim) (fun r9 u t H locs ht hvm hw hB hz1 hk1 hS => ?_)
    have hP := kx_kept hP hk1
    rcases hw with ⟨rfl, hw⟩ | ⟨rfl, hw⟩
    · have f_2 : ((0 : Int) ≤ p1.toInt ∧ p1.toInt ≤ (9 : Int)) := hw
      refine lv_if_ne (tgt := 23) hx hb dX8_isNoPlayer_16 (by decide) (fun _ => ?_) (fun h => absurd h (by decide))
      refine lv_iconst (v := 0) hx hb dX8_isNoPlayer_23 (by decide) ?_
      refine W.widen (k := 0) (n := 0) (Nat.le_of_ble_eq_true rfl) (Nat.le_of_ble_eq_true rfl) ?_
      exact W.zret (v := 0) hx hb hr rfl (fun t ht hW => ⟨⟨0, (), rfl, Or.inr (⟨rfl, (by omega)⟩), trivial⟩, hS.F ht⟩) hS.2.2 dX8_isNoPlayer_24
    · have f_3 : ¬ (((0 : Int) ≤ p1.toInt ∧ p1.toInt ≤ (9 : Int))) := hw
      refine lv_if_ne (tgt := 23) hx hb dX8_isNoPlayer_16 (by decide) (fun h => absurd (by decide) h) (fun _ => ?_)
      refine lv_iconst (v := 1) hx hb dX8_isNoPlayer_19 (by decide) ?_
      refine lv_goto (tgt := 24) hx hb dX8_isNoPlayer_20 (by decide) ?_
      refine W.widen (k := 0) (n := 0) (Nat.le_of_ble_eq_true rfl) (Nat.le_of_ble_eq_true rfl) ?_
      exact W.zret (v := 1) hx hb hr rfl (fun t ht hW => ⟨⟨1, (), rfl, Or.inl (⟨rfl, (by omega)⟩), trivial⟩, hS.F ht⟩) hS.2.2 dX8_isNoPlayer_24
  · have f_4 : ¬ (((1 : Int) ≤ p0.toInt ∧ p0.toInt ≤ (3 : Int))) := hw
    refine lv_if_eq (tgt := 19) hx hb dX8_isNoPlayer_6 (by decide) (fun _ => ?_) (fun h => absurd (by decide) h)
    refine lv_iconst (v := 1) hx hb dX8_isNoPlayer_19 (by decide) ?_
    refine lv_goto (tgt := 24) hx hb dX8_isNoPlayer_20 (by decide) ?_
    refine W.widen (k := 0) (n := 0) (Nat.le_of_ble_eq_true rfl) (Nat.le_of_ble_eq_true rfl) ?_
    exact W.zret (v := 1) hx hb hr rfl (fun t ht hW => ⟨⟨1, (), rfl, Or.inl (⟨rfl, (by omega)⟩), trivial⟩, hS.F ht⟩) hS.2.2 dX8_isNoPlayer_24
theorem dX8_comes_0 : decode cX8_comes 0 = .ok (.aload_n 0, 1) := by decide +kernel
theorem dX8_comes_1 : decode cX8_comes 1 = .ok (.getfield 29, 3) := by decide +kernel
theorem dX8_comes_4 : decode cX8_comes 4 = .ok (.aload_n 0, 1) := by decide +kernel
theorem dX8_comes_5 : decode cX8_comes 5 = .ok (.getfield 85, 3) := by decide +kernel
theorem dX8_comes_8 : decode cX8_comes 8 = .ok (.iload_n 1, 1) := by decide +kernel
theorem dX8_comes_9 : decode cX8_comes 9 = .ok (.iastore, 1) := by decide +kernel
theorem dX8_comes_10 : decode cX8_comes 10 = .ok (.aload_n 0, 1) := by decide +kernel
theorem dX8_comes_11 : decode cX8_comes 11 = .ok (.getfield 32, 3) := by decide +kernel
theorem dX8_comes_14 : decode cX8_comes 14 = .ok (.aload_n 0, 1) := by decide +kernel
theorem dX8_comes_15 : decode cX8_comes 15 = .ok (.getfield 85, 3) := by decide +kernel
theorem dX8_comes_18 : decode cX8_comes 18 = .ok (.iload_n 2, 1) := by decide +kernel
theorem dX8_comes_19 : decode cX8_comes 19 = .ok (.iastore, 1) := by decide +kernel
theorem dX8_comes_20 : decode cX8_comes 20 = .ok (.aload_n 0, 1) := by decide +kernel
theorem dX8_comes_21 : decode cX8_comes 21 = .ok (.dup, 1) := by decide +kernel
theorem dX8_comes_22 : decode cX8_comes 22 = .ok (.getfield 85, 3) := by decide +kernel
theorem dX8_comes_25 : decode cX8_comes 25 = .ok (.iconst 1, 1) := by decide +kernel
theorem dX8_comes_26 : decode cX8_comes 26 = .ok (.iadd, 1) := by decide +kernel
theorem dX8_comes_27 : decode cX8_comes 27 = .ok (.putfield 85, 3) := by decide +kernel
theorem dX8_comes_30 : decode cX8_comes 30 = .ok (.aload_n 0, 1) := by decide +kernel
theorem dX8_comes_31 : decode cX8_comes 31 = .ok (.getfield 85, 3) := by decide +kernel
theorem dX8_comes_34 : decode cX8_comes 34 = .ok (.iconst 1, 1) := by decide +kernel
theorem dX8_comes_35 : decode cX8_comes 35 = .ok (.isub, 1) := by decide +kernel
theorem dX8_comes_36 : decode cX8_comes 36 = .ok (.ireturn, 1) := by decide +kernel
set_option maxHeartbeats 4000000 in
set_option maxRecDepth 100000 in
theorem k_X8_comes (l : Launch) (D : va_G) (cy : Nat → ClassId) (h1 : Nat) (p0 : Int32) (p1 : Int32) (x2 : Value) (x3 : Value) (x4 : Value) (x5 : Value) (x6 : Value) (x7 : Value) (h8 : Nat) (h9 : Nat) (x10 : Value) (x11 : Value) (x12 : Value) (x13 : Value) (x14 : Value) (x15 : Value) (x16 : Value) (x17 : Value) (x18 : Value) (g19 : Nat → Int32) (g20 : Nat → Int32) (sz : Nat) : Met l yX8_comes wsX8_comes ({ frames := 0, cells := 0, slots := 0, locals := 0 }) (kW D cy [.ref h1, .int p0, .int p1] [(h1, .inr (10, [x2, x3, x4, x5, x6, x7, .ref h8, .ref h9, x10, x11, x12, x13, x14, x15, x16, .int 0, x17, x18])), (h8, .inl (cy 1, 6, .inl g19)), (h9, .inl (cy 1, 6, .inl g20))] sz) (va_Qi (fun (r : Int32) (_ : Unit) => r = 0 ∧ True) (fun (_ : Unit) (t : State) => va_P D vwCl [(h1, .inr (10, [x2, x3, x4, x5, x6, x7, .ref h8, .ref h9, x10, x11, x12, x13, x14, x15, x16, .int 1, x17, x18])), (h8, .inl (cy 1, 6, .inl (upd g19 0 p0))), (h9, .inl (cy 1, 6, .inl (upd g20 0 p1)))] t.heap ∧ va_D (va_A [(h1, .inr (10, [x2, x3, x4, x5, x6, x7, .ref h8, .ref h9, x10, x11, x12, x13, x14, x15, x16, .int 0, x17, x18])), (h8, .inl (cy 1, 6, .inl g19)), (h9, .inl (cy 1, 6, .inl g20))] sz) [(h1, .inr (10, [x2, x3, x4, x5, x6, x7, .ref h8, .ref h9, x10, x11, x12, x13, x14, x15, x16, .int 1, x17, x18])), (h8, .inl (cy 1, 6, .inl (upd g19 0 p0))), (h9, .inl (cy 1, 6, .inl (upd g20 0 p1)))]) (va_A [(h1, .inr (10, [x2, x3, x4, x5, x6, x7, .ref h8, .ref h9, x10, x11, x12, x13, x14, x15, x16, .int 0, x17, x18])), (h8, .inl (cy 1, 6, .inl g19)), (h9, .inl (cy 1, 6, .inl g20))] sz)) 0 0 (va_A [(h1, .inr (10, [x2, x3, x4, x5, x6, x7, .ref h8, .ref h9, x10, x11, x12, x13, x14, x15, x16, .int 0, x17, x18])), (h8, .inl (cy 1, 6, .inl g19)), (h9, .inl (cy 1, 6, .inl g20))] sz) := by
  refine Met.ofW (cc := cX8_comes) (maxL := 3) (ret := (some .int)) (by decide) rfl ?_
  intro p e s m args below meth c s₁ B hml hv
  obtain ⟨rfl, hsz, hP, hK, hD0⟩ := hv
  have hx := B.exec
  have hb := B.bytes
  have hr := B.returns
  have hts := atoms_spec (ws := wsX8_comes) B.pre
  have hown : s.vm.findClass RX8 = some m.cls := findClass_of_methodNamed B.named
  have hlocks := B.notSynchronized
  subst hsz
  have hD := hD0.self (sz := s.heap.size)
  generalize hAe : va_A [(h1, .inr (10, [x2, x3, x4, x5, x6, x7, .ref h8, .ref h9, x10, x11, x12, x13, x14, x15, x16, .int 0, x17, x18])), (h8, .inl (cy 1, 6, .inl g19)), (h9, .inl (cy 1, 6, .inl g20))] s.heap.size = A at hD ⊢
  have hA : ∀ q : Nat, s.heap.size ≤ q → A q := fun q h => by rw [← hAe]; exact Or.inr h
  have hS : va_S A s.heap s.heap [] := va_S.rf
  have hP : va_P D vwCl [(h1, .inr (10, [x2, x3, x4, x5, x6, x7, .ref h8, .ref h9, x10, x11, x12, x13, x14, x15, x16, .int 0, x17, x18])), (h8, .inl (cy 1, 6, .inl g19)), (h9, .inl (cy 1, 6, .inl g20))] s.heap := hP
  have hl := lv_entry ([.ref h1, .int p0, .int p1]) (n := 3) (Nat.le_of_ble_eq_true rfl)
  rw [lg_entry_eq]
  generalize (lg_sl ([.ref h1, .int p0, .int p1]) ++ List.replicate (3 - (lg_sl ([.ref h1, .int p0, .int p1])).length) Slot.unset).toArray = ls at hl ⊢
  have hl : lv_has ls 3 [(0, .ref h1), (1, .int p0), (2, .int p1)] := hl
  refine lv_aload_n hx hb dX8_comes_0 rfl (lv_at hl 0 rfl) ?_
  refine va_get (D := D) (ci := 10) (v := .ref h8) (C := RX8) (T := TX8) (N := 18) hx hb hts (fun _ h => (List.mem_cons_of_mem _ (List.mem_append_left _ (List.mem_append_right _ h)))) hown hK hP 0 rfl rfl 6 (by decide) (hts (.fieldLink RX8 29 "SelfishJunctionModel" "weights" "[I") (List.mem_cons_of_mem _ (List.mem_append_left _ (List.mem_append_left _ (List.mem_of_getElem? (i := 0) rfl))))) (fun _ h9 => h9) rfl dX8_comes_1 ?_
  refine lv_aload_n hx hb dX8_comes_4 rfl (lv_at hl 0 rfl) ?_
  refine va_get (D := D) (ci := 10) (v := .int 0) (C := RX8) (T := TX8) (N := 18) hx hb hts (fun _ h => (List.mem_cons_of_mem _ (List.mem_append_left _ (List.mem_append_right _ h)))) hown hK hP 0 rfl rfl 15 (by decide) (hts (.fieldLink RX8 85 "SelfishJunctionModel" "players" "I") (List.mem_cons_of_mem _ (List.mem_append_left _ (List.mem_append_left _ (List.mem_of_getElem? (i := 1) rfl))))) (fun _ h9 => h9) rfl dX8_comes_5 ?_
  refine lv_iload_n hx hb dX8_comes_8 rfl (lv_at hl 1 rfl) ?_
  refine va_iast hx hb hK hP hD hS 1 1 rfl rfl (kx_in 0 6 rfl ⟨(Nat.le_of_ble_eq_true rfl), (Nat.le_of_ble_eq_true rfl)⟩ (Nat.le_of_ble_eq_true rfl)) dX8_comes_9 (fun H locs hP hD hS => ?_)
  have hP : va_P D vwCl [(h1, .inr (10, [x2, x3, x4, x5, x6, x7, .ref h8, .ref h9, x10, x11, x12, x13, x14, x15, x16, .int 0, x17, x18])), (h8, .inl (cy 1, 6, .inl (upd g19 0 p0))), (h9, .inl (cy 1, 6, .inl g20))] H := hP
  have hD : va_D A [(h1, .inr (10, [x2, x3, x4, x5, x6, x7, .ref h8, .ref h9, x10, x11, x12, x13, x14, x15, x16, .int 0, x17, x18])), (h8, .inl (cy 1, 6, .inl (upd g19 0 p0))), (h9, .inl (cy 1, 6, .inl g20))] := hD
  refine lv_aload_n hx hb dX8_comes_10 rfl (lv_at hl 0 rfl) ?_
  refine va_get (D := D) (ci := 10) (v := .ref h9) (C := RX8) (T := TX8) (N := 18) hx hb hts (fun _ h => (List.mem_cons_of_mem _ (List.mem_append_left _ (List.mem_append_right _ h)))) hown hK hP 0 rfl rfl 7 (by decide) (hts (.fieldLink RX8 32 "SelfishJunctionModel" "minds" "[I") (List.mem_cons_of_mem _ (List.mem_append_left _ (List.mem_append_left _ (List.mem_of_getElem? (i := 2) rfl))))) (fun _ h9 => h9) rfl dX8_comes_11 ?_
  refine lv_aload_n hx hb dX8_comes_14 rfl (lv_at hl 0 rfl) ?_
  refine va_get (D := D) (ci := 10) (v := .int 0) (C := RX8) (T := TX8) (N := 18) hx hb hts (fun _ h => (List.mem_cons_of_mem _ (List.mem_append_left _ (List.mem_append_right _ h)))) hown hK hP 0 rfl rfl 15 (by decide) (hts (.fieldLink RX8 85 "SelfishJunctionModel" "players" "I") (List.mem_cons_of_mem _ (List.mem_append_left _ (List.mem_append_left _ (List.mem_of_getElem? (i := 1) rfl))))) (fun _ h9 => h9) rfl dX8_comes_15 ?_
  refine lv_iload_n hx hb dX8_comes_18 rfl (lv_at hl 2 rfl) ?_
  refine va_iast hx hb hK hP hD hS 2 1 rfl rfl (kx_in 0 6 rfl ⟨(Nat.le_of_ble_eq_true rfl), (Nat.le_of_ble_eq_true rfl)⟩ (Nat.le_of_ble_eq_true rfl)) dX8_comes_19 (fun H locs hP hD hS => ?_)
  have hP : va_P D vwCl [(h1, .inr (10, [x2, x3, x4, x5, x6, x7, .ref h8, .ref h9, x10, x11, x12, x13, x14, x15, x16, .int 0, x17, x18])), (h8, .inl (cy 1, 6, .inl (upd g19 0 p0))), (h9, .inl (cy 1, 6, .inl (upd g20 0 p1)))] H := hP
  have hD : va_D A [(h1, .inr (10, [x2, x3, x4, x5, x6, x7, .ref h8, .ref h9, x10, x11, x12, x13, x14, x15, x16, .int 0, x17, x18])), (h8, .inl (cy 1, 6, .inl (upd g19 0 p0))), (h9, .inl (cy 1, 6, .inl (upd g20 0 p1)))] := hD
  refine lv_aload_n hx hb dX8_comes_20 rfl (lv_at hl 0 rfl) ?_
  refine lv_dup hx hb dX8_comes_21 rfl ?_
  refine va_get (D := D) (ci := 10) (v := .int 0) (C := RX8) (T := TX8) (N := 18) hx hb hts (fun _ h => (List.mem_cons_of_mem _ (List.mem_append_left _ (List.mem_append_right _ h)))) hown hK hP 0 rfl rfl 15 (by decide) (hts (.fieldLink RX8 85 "SelfishJunctionModel" "players" "I") (List.mem_cons_of_mem _ (List.mem_append_left _ (List.mem_append_left _ (List.mem_of_getElem? (i := 1) rfl))))) (fun _ h9 => h9) rfl dX8_comes_22 ?_
  refine lv_iconst (v := 1) hx hb dX8_comes_25 (by decide) ?_
  refine lv_iadd hx hb dX8_comes_26 ?_
  refine lv_topi (fun v_1 ev_1 => ?_)
  obtain rfl : v_1 = 1 := ev_1.trans (by decide)
  refine va_put (D := D) (ci := 10) (v := .int 1) (ty := .int) (C := RX8) (T := TX8) (N := 18) hx hb hts (fun _ h => (List.mem_cons_of_mem _ (List.mem_append_left _ (List.mem_append_right _ h)))) tyX8 tyX8_ok nmX8 hown hK hP hD hS 0 rfl rfl 15 (by decide) (hts (.fieldLink RX8 85 "SelfishJunctionModel" "players" "I") (List.mem_cons_of_mem _ (List.mem_append_left _ (List.mem_append_left _ (List.mem_of_getElem? (i := 1) rfl))))) (fun _ h9 => h9) rfl (by decide +kernel) rfl rfl (Nat.le_of_ble_eq_true rfl) dX8_comes_27 (fun H locs hP hD hS => ?_)
  have hP : va_P D vwCl [(h1, .inr (10, [x2, x3, x4, x5, x6, x7, .ref h8, .ref h9, x10, x11, x12, x13, x14, x15, x16, .int 1, x17, x18])), (h8, .inl (cy 1, 6, .inl (upd g19 0 p0))), (h9, .inl (cy 1, 6, .inl (upd g20 0 p1)))] H := hP
  have hD : va_D A [(h1, .inr (10, [x2, x3, x4, x5, x6, x7, .ref h8, .ref h9, x10, x11, x12, x13, x14, x15, x16, .int 1, x17, x18])), (h8, .inl (cy 1, 6, .inl (upd g19 0 p0))), (h9, .inl (cy 1, 6, .inl (upd g20 0 p1)))] := hD
  refine lv_aload_n hx hb dX8_comes_30 rfl (lv_at hl 0 rfl) ?_
  refine va_get (D := D) (ci := 10) (v := .int 1) (C := RX8) (T := TX8) (N := 18) hx hb hts (fun _ h => (List.mem_cons_of_mem _ (List.mem_append_left _ (List.mem_append_right _ h)))) hown hK hP 0 rfl rfl 15 (by decide) (hts (.fieldLink RX8 85 "SelfishJunctionModel" "players" "I") (List.mem_cons_of_mem _ (List.mem_append_left _ (List.mem_append_left _ (List.mem_of_getElem? (i := 1) rfl))))) (fun _ h9 => h9) rfl dX8_comes_31 ?_
  refine lv_iconst (v := 1) hx hb dX8_comes_34 (by decide) ?_
  refine lv_isub hx hb dX8_comes_35 ?_
  refine lv_topi (fun v_2 ev_2 => ?_)
  obtain rfl : v_2 = 0 := ev_2.trans (by decide)
  refine W.widen (k := 0) (n := 0) (Nat.le_of_ble_eq_true rfl) (Nat.le_of_ble_eq_true rfl) ?_
  have hP9 := hP.sub (ws' := [(h1, .inr (10, [x2, x3, x4, x5, x6, x7, .ref h8, .ref h9, x10, x11, x12, x13, x14, x15, x16, .int 1, x17, x18])), (h8, .inl (cy 1, 6, .inl (upd g19 0 p0))), (h9, .inl (cy 1, 6, .inl (upd g20 0 p1)))]) [0, 1, 2] rfl
  have hD9 := hD.sub (ws' := [(h1, .inr (10, [x2, x3, x4, x5, x6, x7, .ref h8, .ref h9, x10, x11, x12, x13, x14, x15, x16, .int 1, x17, x18])), (h8, .inl (cy 1, 6, .inl (upd g19 0 p0))), (h9, .inl (cy 1, 6, .inl (upd g20 0 p1)))]) [0, 1, 2] (by decide) rfl
  exact W.iret (v := 0) hx hb hr (fun t ht hW => ⟨⟨0, (), rfl, ⟨rfl, trivial⟩, ⟨by rw [ht]; exact hP9, hD9⟩⟩, hS.F ht⟩) hS.2.2 dX8_comes_36
theorem dX8_addPlayer_0 : decode cX8_addPlayer 0 = .ok (.aload_n 0, 1) := by decide +kernel
theorem dX8_addPlayer_1 : decode cX8_addPlayer 1 = .ok (.iload_n 1, 1) := by decide +kernel
theorem dX8_addPlayer_2 : decode cX8_addPlayer 2 = .ok (.iload_n 2, 1) := by decide +kernel
theorem dX8_addPlayer_3 : decode cX8_addPlayer 3 = .ok (.invokestatic 88, 3) := by decide +kernel
set_option maxRecDepth 20000 in
theorem ggX8_addPlayer_X8_isNoPlayer : GoodIn wsX8_addPlayer wsX8_isNoPlayer := goodIn_r _ [5, 6, 7, 4, 8] (by decide +kernel) (by decide +kernel)
set_option maxRecDepth 20000 in
theorem gX8_addPlayer_X8_isNoPlayer : GoodIn wsX8_addPlayer (va_wsS RX8 88 yX8_isNoPlayer wsX8_isNoPlayer) := goodIn_app (goodIn_of _ (by decide +kernel)) ggX8_addPlayer_X8_isNoPlayer
theorem dX8_addPlayer_6 : decode cX8_addPlayer 6 = .ok (.iconst 1, 1) := by decide +kernel
theorem dX8_addPlayer_7 : decode cX8_addPlayer 7 = .ok (.invokevirtual 73, 3) := by decide +kernel
set_option maxRecDepth 20000 in
theorem ggX8_addPlayer_X8_isThrown : GoodIn wsX8_addPlayer wsX8_isThrown := goodIn_r _ [12, 13, 20, 21, 22, 23, 24, 25, 26, 27, 28, 29, 30, 31, 32, 33, 34, 35, 36, 37] (by decide +kernel) (by decide +kernel)
set_option maxRecDepth 20000 in
theorem gX8_addPlayer_X8_isThrown : GoodIn wsX8_addPlayer (wsV RX8 73 RX8 yX8_isThrown wsX8_isThrown) := goodIn_app (goodIn_of _ (by decide +kernel)) ggX8_addPlayer_X8_isThrown
theorem dX8_addPlayer_10 : decode cX8_addPlayer 10 = .ok (.ifCond .ne 25, 3) := by decide +kernel
theorem dX8_addPlayer_35 : decode cX8_addPlayer 35 = .ok (.iconst 0, 1) := by decide +kernel
theorem dX8_addPlayer_36 : decode cX8_addPlayer 36 = .ok (.goto 9, 3) := by decide +kernel
theorem dX8_addPlayer_45 : decode cX8_addPlayer 45 = .ok (.ireturn, 1) := by decide +kernel
theorem dX8_addPlayer_13 : decode cX8_addPlayer 13 = .ok (.aload_n 0, 1) := by decide +kernel
theorem dX8_addPlayer_14 : decode cX8_addPlayer 14 = .ok (.aload_n 0, 1) := by decide +kernel
theorem dX8_addPlayer_15 : decode cX8_addPlayer 15 = .ok (.getfield 85, 3) := by decide +kernel
theorem dX8_addPlayer_18 : decode cX8_addPlayer 18 = .ok (.bipush 6, 2) := by decide +kernel
theorem dX8_addPlayer_20 : decode cX8_addPlayer 20 = .ok (.if_icmp .ne 7, 3) := by decide +kernel
theorem dX8_addPlayer_27 : decode cX8_addPlayer 27 = .ok (.iconst 0, 1) := by decide +kernel
theorem dX8_addPlayer_28 : decode cX8_addPlayer 28 = .ok (.iconst 2, 1) := by decide +kernel
theorem dX8_addPlayer_29 : decode cX8_addPlayer 29 = .ok (.invokevirtual 73, 3) := by decide +kernel
theorem dX8_addPlayer_32 : decode cX8_addPlayer 32 = .ok (.ifCond .eq 7, 3) := by decide +kernel
theorem dX8_addPlayer_39 : decode cX8_addPlayer 39 = .ok (.aload_n 0, 1) := by decide +kernel
theorem dX8_addPlayer_40 : decode cX8_addPlayer 40 = .ok (.iload_n 1, 1) := by decide +kernel
theorem dX8_addPlayer_41 : decode cX8_addPlayer 41 = .ok (.iload_n 2, 1) := by decide +kernel
theorem dX8_addPlayer_42 : decode cX8_addPlayer 42 = .ok (.invokevirtual 91, 3) := by decide +kernel
set_option maxRecDepth 20000 in
theorem ggX8_addPlayer_X8_comes : GoodIn wsX8_addPlayer wsX8_comes := goodIn_ca (goodIn_r _ [17, 18, 1, 19, 20, 21, 22, 23, 24, 25, 26, 27, 28, 29, 30, 31, 32, 33, 34, 35, 36, 37] (by decide +kernel) (by decide +kernel)) (goodIn_sub (fun _ h => List.mem_cons_of_mem _ (List.mem_append_right _ h)) (by decide +kernel))
set_option maxRecDepth 20000 in
theorem gX8_addPlayer_X8_comes : GoodIn wsX8_addPlayer (wsV RX8 91 RX8 yX8_comes wsX8_comes) := goodIn_app (goodIn_of _ (by decide +kernel)) ggX8_addPlayer_X8_comes
set_option maxHeartbeats 4000000 in
set_option maxRecDepth 100000 in
theorem k_X8_addPlayer (l : Launch) (D : va_G) (cy : Nat → ClassId) (h1 : Nat) (p0 : Int32) (p1 : Int32) (x2 : Value) (x3 : Value) (x4 : Value) (x5 : Value) (x6 : Value) (x7 : Value) (h8 : Nat) (h9 : Nat) (x10 : Value) (x11 : Value) (x12 : Value) (x13 : Value) (x14 : Value) (x15 : Value) (x16 : Value) (x17 : Value) (x18 : Value) (g19 : Nat → Int32) (g20 : Nat → Int32) (sz : Nat) : Met l yX8_addPlayer wsX8_addPlayer ({ frames := 2, cells := 0, slots := 0, locals := 43 }) (kW D cy [.ref h1, .int p0, .int p1] [(h1, .inr (10, [x2, x3, x4, x5, x6, x7, .ref h8, .ref h9, x10, x11, x12, x13, x14, x15, x16, .int 0, x17, x18])), (h8, .inl (cy 1, 6, .inl g19)), (h9, .inl (cy 1, 6, .inl g20))] sz) (va_Qi (fun (r : Int32) (u : Int32 × Int32 × (Nat → Int32) × (Nat → Int32)) => match u with | (y1, y2, u3, u4) => ((r = 0 ∧ (y1 = 0) ∧ (y2 = 1) ∧ ¬ ((((1 : Int) ≤ p0.toInt ∧ p0.toInt ≤ (3 : Int)) ∧ ((0 : Int) ≤ p1.toInt ∧ p1.toInt ≤ (9 : Int))))) ∨ (r = 0 ∧ (y1 = 1) ∧ (y2 = 0) ∧ (((1 : Int) ≤ p0.toInt ∧ p0.toInt ≤ (3 : Int)) ∧ ((0 : Int) ≤ p1.toInt ∧ p1.toInt ≤ (9 : Int)))))) (fun (u : Int32 × Int32 × (Nat → Int32) × (Nat → Int32)) (t : State) => match u with | (y1, y2, u3, u4) => va_P D vwCl [(h1, .inr (10, [x2, x3, x4, x5, x6, x7, .ref h8, .ref h9, x10, x11, x12, x13, x14, x15, x16, .int y1, x17, .int y2])), (h8, .inl (cy 1, 6, .inl u3)), (h9, .inl (cy 1, 6, .inl u4))] t.heap ∧ va_D (va_A [(h1, .inr (10, [x2, x3, x4, x5, x6, x7, .ref h8, .ref h9, x10, x11, x12, x13, x14, x15, x16, .int 0, x17, x18])), (h8, .inl (cy 1, 6, .inl g19)), (h9, .inl (cy 1, 6, .inl g20))] sz) [(h1, .inr (10, [x2, x3, x4, x5, x6, x7, .ref h8, .ref h9, x10, x11, x12, x13, x14, x15, x16, .int y1, x17, .int y2])), (h8, .inl (cy 1, 6, .inl u3)), (h9, .inl (cy 1, 6, .inl u4))]) (va_A [(h1, .inr (10, [x2, x3, x4, x5, x6, x7, .ref h8, .ref h9, x10, x11, x12, x13, x14, x15, x16, .int 0, x17, x18])), (h8, .inl (cy 1, 6, .inl g19)), (h9, .inl (cy 1, 6, .inl g20))] sz)) 0 0 (va_A [(h1, .inr (10, [x2, x3, x4, x5, x6, x7, .ref h8, .ref h9, x10, x11, x12, x13, x14, x15, x16, .int 0, x17, x18])), (h8, .inl (cy 1, 6, .inl g19)), (h9, .inl (cy 1, 6, .inl g20))] sz) := by
  refine Met.ofW (cc := cX8_addPlayer) (maxL := 3) (ret := (some .int)) (by decide) rfl ?_
  intro p e s m args below meth c s₁ B hml hv
  obtain ⟨rfl, hsz, hP, hK, hD0⟩ := hv
  have hx := B.exec
  have hb := B.bytes
  have hr := B.returns
  have hts := atoms_spec (ws := wsX8_addPlayer) B.pre
  have hown : s.vm.findClass RX8 = some m.cls := findClass_of_methodNamed B.named
  have hlocks := B.notSynchronized
  subst hsz
  have hD := hD0.self (sz := s.heap.size)
  generalize hAe : va_A [(h1, .inr (10, [x2, x3, x4, x5, x6, x7, .ref h8, .ref h9, x10, x11, x12, x13, x14, x15, x16, .int 0, x17, x18])), (h8, .inl (cy 1, 6, .inl g19)), (h9, .inl (cy 1, 6, .inl g20))] s.heap.size = A at hD ⊢
  have hA : ∀ q : Nat, s.heap.size ≤ q → A q := fun q h => by rw [← hAe]; exact Or.inr h
  have hS : va_S A s.heap s.heap [] := va_S.rf
  have hP : va_P D vwCl [(h1, .inr (10, [x2, x3, x4, x5, x6, x7, .ref h8, .ref h9, x10, x11, x12, x13, x14, x15, x16, .int 0, x17, x18])), (h8, .inl (cy 1, 6, .inl g19)), (h9, .inl (cy 1, 6, .inl g20))] s.heap := hP
  have hl := lv_entry ([.ref h1, .int p0, .int p1]) (n := 3) (Nat.le_of_ble_eq_true rfl)
  rw [lg_entry_eq]
  generalize (lg_sl ([.ref h1, .int p0, .int p1]) ++ List.replicate (3 - (lg_sl ([.ref h1, .int p0, .int p1])).length) Slot.unset).toArray = ls at hl ⊢
  have hl : lv_has ls 3 [(0, .ref h1), (1, .int p0), (2, .int p1)] := hl
  refine lv_aload_n hx hb dX8_addPlayer_0 rfl (lv_at hl 0 rfl) ?_
  refine lv_iload_n hx hb dX8_addPlayer_1 rfl (lv_at hl 1 rfl) ?_
  refine lv_iload_n hx hb dX8_addPlayer_2 rfl (lv_at hl 2 rfl) ?_
  have hPc := hP.sub (ws' := []) [] rfl
  refine va_calli (va_runS (As := [.int p0, .int p1]) (rest := [.ref h1]) ⟨hx, hb, hml, hown, hts⟩ (k_X8_isNoPlayer l D cy p0 p1) (va_cwS 2 hts gX8_addPlayer_X8_isNoPlayer rfl rfl rfl (by decide +kernel) ⟨(Nat.le_of_ble_eq_true rfl), (Nat.le_of_ble_eq_true rfl)⟩) ⟨kR_fb, (kR_go hPc hK)⟩ rfl rfl hl.1 rfl (lv_room (Nat.le_of_ble_eq_true rfl)) dX8_addPlayer_3 ⟨(Nat.le_of_ble_eq_true rfl), (Nat.le_of_ble_eq_true rfl)⟩) hS (fun _ _ h => h.elim) (fun _ h => h.elim) (fun r9 u t H locs ht hvm hw hB hz1 hk1 hS => ?_)
  have hP := kx_kept hP hk1
  rcases hw with ⟨rfl, hw⟩ | ⟨rfl, hw⟩
  · have f_1 : ¬ ((((1 : Int) ≤ p0.toInt ∧ p0.toInt ≤ (3 : Int)) ∧ ((0 : Int) ≤ p1.toInt ∧ p1.toInt ≤ (9 : Int)))) := hw
    refine lv_iconst (v := 1) hx hb dX8_addPlayer_6 (by decide) ?_
    have hPc := hP.sub (ws' := [(h1, .inr (10, [x2, x3, x4, x5, x6, x7, .ref h8, .ref h9, x10, x11, x12, x13, x14, x15, x16, .int 0, x17, x18]))]) [0] rfl
    have hDc := hD.sub (ws' := [(h1, .inr (10, [x2, x3, x4, x5, x6, x7, .ref h8, .ref h9, x10, x11, x12, x13, x14, x15, x16, .int 0, x17, x18]))]) [0] (by decide) rfl
    have hFc := va_free (wc := [(h1, .inr (10, [x2, x3, x4, x5, x6, x7, .ref h8, .ref h9, x10, x11, x12, x13, x14, x15, x16, .int 0, x17, x18]))]) hD hS hA [0] rfl
    refine va_calli (va_runV (As := [.int 1, .int 1]) (rest := []) ⟨hx, hb, hml, hown, hts⟩ (k_X8_isThrown l D cy h1 (x2) (x3) (x4) (x5) (x6) (x7) (.ref h8) (.ref h9) (x10) (x11) (x12) (x13) (x14) (x15) (x16) (.int 0) (x17) (x18) H.size) (cwV 2 hts gX8_addPlayer_X8_isThrown rfl rfl rfl (by decide +kernel) ⟨(Nat.le_of_ble_eq_true rfl), (Nat.le_of_ble_eq_true rfl)⟩) ⟨kW_fb, va_recv hK hP (ci := 10) (q0 := 0) rfl rfl, (kW_go hPc hK hDc)⟩ rfl rfl hl.1 rfl (lv_room (Nat.le_of_ble_eq_true rfl)) dX8_addPlayer_7 ⟨(Nat.le_of_ble_eq_true rfl), (Nat.le_of_ble_eq_true rfl)⟩) hS (fun q _ h => hFc q h) hFc (fun r9 u t H locs ht hvm hw hB hz1 hk1 hS => ?_)
    obtain ⟨hP1, hD1⟩ := hB
    rw [ht] at hP1
    try dsimp only at hw hP1 hD1
    obtain ⟨hP, hD⟩ := va_join (wr := [(h8, .inl (cy 1, 6, .inl g19)), (h9, .inl (cy 1, 6, .inl g20))]) (w1 := [(h1, .inr (10, [x2, x3, x4, x5, x6, x7, .ref h8, .ref h9, x10, x11, x12, x13, x14, x15, x16, .int 0, x17, .int 1]))]) hP hD [0] [1, 2] rfl rfl (by decide) (by decide) hk1 hFc hP1 hD1
    have hP : va_P D vwCl [(h8, .inl (cy 1, 6, .inl g19)), (h9, .inl (cy 1, 6, .inl g20)), (h1, .inr (10, [x2, x3, x4, x5, x6, x7, .ref h8, .ref h9, x10, x11, x12, x13, x14, x15, x16, .int 0, x17, .int 1]))] H := hP
    have hD : va_D A [(h8, .inl (cy 1, 6, .inl g19)), (h9, .inl (cy 1, 6, .inl g20)), (h1, .inr (10, [x2, x3, x4, x5, x6, x7, .ref h8, .ref h9, x10, x11, x12, x13, x14, x15, x16, .int 0, x17, .int 1]))] := hD
    obtain ⟨rfl, hw⟩ := hw
    refine lv_if_ne (tgt := 35) hx hb dX8_addPlayer_10 (by decide) (fun _ => ?_) (fun h => absurd h (by decide))
    refine lv_iconst (v := 0) hx hb dX8_addPlayer_35 (by decide) ?_
    refine lv_goto (tgt := 45) hx hb dX8_addPlayer_36 (by decide) ?_
    refine W.widen (k := 0) (n := 0) (Nat.le_of_ble_eq_true rfl) (Nat.le_of_ble_eq_true rfl) ?_
    have hP9 := hP.sub (ws' := [(h1, .inr (10, [x2, x3, x4, x5, x6, x7, .ref h8, .ref h9, x10, x11, x12, x13, x14, x15, x16, .int 0, x17, .int 1])), (h8, .inl (cy 1, 6, .inl g19)), (h9, .inl (cy 1, 6, .inl g20))]) [2, 0, 1] rfl
    have hD9 := hD.sub (ws' := [(h1, .inr (10, [x2, x3, x4, x5, x6, x7, .ref h8, .ref h9, x10, x11, x12, x13, x14, x15, x16, .int 0, x17, .int 1])), (h8, .inl (cy 1, 6, .inl g19)), (h9, .inl (cy 1, 6, .inl g20))]) [2, 0, 1] (by decide) rfl
    exact W.iret (v := 0) hx hb hr (fun t ht hW => ⟨⟨0, (0, 1, g19, g20), rfl, Or.inl (⟨rfl, rfl, rfl, (by omega)⟩), ⟨by rw [ht]; exact hP9, hD9⟩⟩, hS.F ht⟩) hS.2.2 dX8_addPlayer_45
  · have f_3 : (((1 : Int) ≤ p0.toInt ∧ p0.toInt ≤ (3 : Int)) ∧ ((0 : Int) ≤ p1.toInt ∧ p1.toInt ≤ (9 : Int))) := hw
    refine lv_iconst (v := 1) hx hb dX8_addPlayer_6 (by decide) ?_
    have hPc := hP.sub (ws' := [(h1, .inr (10, [x2, x3, x4, x5, x6, x7, .ref h8, .ref h9, x10, x11, x12, x13, x14, x15, x16, .int 0, x17, x18]))]) [0] rfl
    have hDc := hD.sub (ws' := [(h1, .inr (10, [x2, x3, x4, x5, x6, x7, .ref h8, .ref h9, x10, x11, x12, x13, x14, x15, x16, .int 0, x17, x18]))]) [0] (by decide) rfl
    have hFc := va_free (wc := [(h1, .inr (10, [x2, x3, x4, x5, x6, x7, .ref h8, .ref h9, x10, x11, x12, x13, x14, x15, x16, .int 0, x17, x18]))]) hD hS hA [0] rfl
    refine va_calli (va_runV (As := [.int 0, .int 1]) (rest := []) ⟨hx, hb, hml, hown, hts⟩ (k_X8_isThrown_1 l D cy h1 (x2) (x3) (x4) (x5) (x6) (x7) (.ref h8) (.ref h9) (x10) (x11) (x12) (x13) (x14) (x15) (x16) (.int 0) (x17) (x18) H.size) (cwV 2 hts gX8_addPlayer_X8_isThrown rfl rfl rfl (by decide +kernel) ⟨(Nat.le_of_ble_eq_true rfl), (Nat.le_of_ble_eq_true rfl)⟩) ⟨kW_fb, va_recv hK hP (ci := 10) (q0 := 0) rfl rfl, (kW_go hPc hK hDc)⟩ rfl rfl hl.1 rfl (lv_room (Nat.le_of_ble_eq_true rfl)) dX8_addPlayer_7 ⟨(Nat.le_of_ble_eq_true rfl), (Nat.le_of_ble_eq_true rfl)⟩) hS (fun q _ h => hFc q h) hFc (fun r9 u t H locs ht hvm hw hB hz1 hk1 hS => ?_)
    obtain ⟨hP1, hD1⟩ := hB
    rw [ht] at hP1
    try dsimp only at hw hP1 hD1
    obtain ⟨hP, hD⟩ := va_join (wr := [(h8, .inl (cy 1, 6, .inl g19)), (h9, .inl (cy 1, 6, .inl g20))]) (w1 := [(h1, .inr (10, [x2, x3, x4, x5, x6, x7, .ref h8, .ref h9, x10, x11, x12, x13, x14, x15, x16, .int 0, x17, .int 0]))]) hP hD [0] [1, 2] rfl rfl (by decide) (by decide) hk1 hFc hP1 hD1
    have hP : va_P D vwCl [(h8, .inl (cy 1, 6, .inl g19)), (h9, .inl (cy 1, 6, .inl g20)), (h1, .inr (10, [x2, x3, x4, x5, x6, x7, .ref h8, .ref h9, x10, x11, x12, x13, x14, x15, x16, .int 0, x17, .int 0]))] H := hP
    have hD : va_D A [(h8, .inl (cy 1, 6, .inl g19)), (h9, .inl (cy 1, 6, .inl g20)), (h1, .inr (10, [x2, x3, x4, x5, x6, x7, .ref h8, .ref h9, x10, x11, x12, x13, x14, x15, x16, .int 0, x17, .int 0]))] := hD
    obtain ⟨rfl, hw⟩ := hw
    refine lv_if_ne (tgt := 35) hx hb dX8_addPlayer_10 (by decide) (fun h => absurd (by decide) h) (fun _ => ?_)
    refine lv_aload_n hx hb dX8_addPlayer_13 rfl (lv_at hl 0 rfl) ?_
    refine lv_aload_n hx hb dX8_addPlayer_14 rfl (lv_at hl 0 rfl) ?_
    refine va_get (D := D) (ci := 10) (v := .int 0) (C := RX8) (T := TX8) (N := 18) hx hb hts (fun _ h => (List.mem_cons_of_mem _ (List.mem_append_left _ (List.mem_append_right _ h)))) hown hK hP 2 rfl rfl 15 (by decide) (hts (.fieldLink RX8 85 "SelfishJunctionModel" "players" "I") (List.mem_cons_of_mem _ (List.mem_append_left _ (List.mem_append_left _ (List.mem_of_getElem? (i := 0) rfl))))) (fun _ h9 => h9) rfl dX8_addPlayer_15 ?_
    refine lv_bipush (v := 6) hx hb dX8_addPlayer_18 (by decide) ?_
    refine lv_icmp_ne (tgt := 27) hx hb dX8_addPlayer_20 (by decide) (fun _ => ?_) (fun h => absurd h (by decide))
    refine lv_iconst (v := 0) hx hb dX8_addPlayer_27 (by decide) ?_
    refine lv_iconst (v := 2) hx hb dX8_addPlayer_28 (by decide) ?_
    have hPc := hP.sub (ws' := [(h1, .inr (10, [x2, x3, x4, x5, x6, x7, .ref h8, .ref h9, x10, x11, x12, x13, x14, x15, x16, .int 0, x17, .int 0]))]) [2] rfl
    have hDc := hD.sub (ws' := [(h1, .inr (10, [x2, x3, x4, x5, x6, x7, .ref h8, .ref h9, x10, x11, x12, x13, x14, x15, x16, .int 0, x17, .int 0]))]) [2] (by decide) rfl
    have hFc := va_free (wc := [(h1, .inr (10, [x2, x3, x4, x5, x6, x7, .ref h8, .ref h9, x10, x11, x12, x13, x14, x15, x16, .int 0, x17, .int 0]))]) hD hS hA [2] rfl
    refine va_calli (va_runV (As := [.int 0, .int 2]) (rest := []) ⟨hx, hb, hml, hown, hts⟩ (k_X8_isThrown_2 l D cy h1 (x2) (x3) (x4) (x5) (x6) (x7) (.ref h8) (.ref h9) (x10) (x11) (x12) (x13) (x14) (x15) (x16) (.int 0) (x17) (.int 0) H.size) (cwV 2 hts gX8_addPlayer_X8_isThrown rfl rfl rfl (by decide +kernel) ⟨(Nat.le_of_ble_eq_true rfl), (Nat.le_of_ble_eq_true rfl)⟩) ⟨kW_fb, va_recv hK hP (ci := 10) (q0 := 2) rfl rfl, (kW_go hPc hK hDc)⟩ rfl rfl hl.1 rfl (lv_room (Nat.le_of_ble_eq_true rfl)) dX8_addPlayer_29 ⟨(Nat.le_of_ble_eq_true rfl), (Nat.le_of_ble_eq_true rfl)⟩) hS (fun q _ h => hFc q h) hFc (fun r9 u t H locs ht hvm hw hB hz1 hk1 hS => ?_)
    obtain ⟨hP1, hD1⟩ := hB
    rw [ht] at hP1
    try dsimp only at hw hP1 hD1
    obtain ⟨hP, hD⟩ := va_join (wr := [(h8, .inl (cy 1, 6, .inl g19)), (h9, .inl (cy 1, 6, .inl g20))]) (w1 := [(h1, .inr (10, [x2, x3, x4, x5, x6, x7, .ref h8, .ref h9, x10, x11, x12, x13, x14, x15, x16, .int 0, x17, .int 0]))]) hP hD [2] [0, 1] rfl rfl (by decide) (by decide) hk1 hFc hP1 hD1
    have hP : va_P D vwCl [(h8, .inl (cy 1, 6, .inl g19)), (h9, .inl (cy 1, 6, .inl g20)), (h1, .inr (10, [x2, x3, x4, x5, x6, x7, .ref h8, .ref h9, x10, x11, x12, x13, x14, x15, x16, .int 0, x17, .int 0]))] H := hP
    have hD : va_D A [(h8, .inl (cy 1, 6, .inl g19)), (h9, .inl (cy 1, 6, .inl g20)), (h1, .inr (10, [x2, x3, x4, x5, x6, x7, .ref h8, .ref h9, x10, x11, x12, x13, x14, x15, x16, .int 0, x17, .int 0]))] := hD
    obtain ⟨rfl, hw⟩ := hw
    refine lv_if_eq (tgt := 39) hx hb dX8_addPlayer_32 (by decide) (fun _ => ?_) (fun h => absurd (by decide) h)
    refine lv_aload_n hx hb dX8_addPlayer_39 rfl (lv_at hl 0 rfl) ?_
    refine lv_iload_n hx hb dX8_addPlayer_40 rfl (lv_at hl 1 rfl) ?_
    refine lv_iload_n hx hb dX8_addPlayer_41 rfl (lv_at hl 2 rfl) ?_
    have hPc := hP.sub (ws' := [(h1, .inr (10, [x2, x3, x4, x5, x6, x7, .ref h8, .ref h9, x10, x11, x12, x13, x14, x15, x16, .int 0, x17, .int 0])), (h8, .inl (cy 1, 6, .inl g19)), (h9, .inl (cy 1, 6, .inl g20))]) [2, 0, 1] rfl
    have hDc := hD.sub (ws' := [(h1, .inr (10, [x2, x3, x4, x5, x6, x7, .ref h8, .ref h9, x10, x11, x12, x13, x14, x15, x16, .int 0, x17, .int 0])), (h8, .inl (cy 1, 6, .inl g19)), (h9, .inl (cy 1, 6, .inl g20))]) [2, 0, 1] (by decide) rfl
    have hFc := va_free (wc := [(h1, .inr (10, [x2, x3, x4, x5, x6, x7, .ref h8, .ref h9, x10, x11, x12, x13, x14, x15, x16, .int 0, x17, .int 0])), (h8, .inl (cy 1, 6, .inl g19)), (h9, .inl (cy 1, 6, .inl g20))]) hD hS hA [2, 0, 1] rfl
    refine va_calli (va_runV (As := [.int p0, .int p1]) (rest := []) ⟨hx, hb, hml, hown, hts⟩ (k_X8_comes l D cy h1 p0 p1 (x2) (x3) (x4) (x5) (x6) (x7) h8 h9 (x10) (x11) (x12) (x13) (x14) (x15) (x16) (x17) (.int 0) g19 g20 H.size) (cwV 2 hts gX8_addPlayer_X8_comes rfl rfl rfl (by decide +kernel) ⟨(Nat.le_of_ble_eq_true rfl), (Nat.le_of_ble_eq_true rfl)⟩) ⟨kW_fb, va_recv hK hP (ci := 10) (q0 := 2) rfl rfl, (kW_go hPc hK hDc)⟩ rfl rfl hl.1 rfl (lv_room (Nat.le_of_ble_eq_true rfl)) dX8_addPlayer_42 ⟨(Nat.le_of_ble_eq_true rfl), (Nat.le_of_ble_eq_true rfl)⟩) hS (fun q _ h => hFc q h) hFc (fun r9 u t H locs ht hvm hw hB hz1 hk1 hS => ?_)
    obtain ⟨hP1, hD1⟩ := hB
    rw [ht] at hP1
    try dsimp only at hw hP1 hD1
    obtain ⟨hP, hD⟩ := va_join (wr := []) (w1 := [(h1, .inr (10, [x2, x3, x4, x5, x6, x7, .ref h8, .ref h9, x10, x11, x12, x13, x14, x15, x16, .int 1, x17, .int 0])), (h8, .inl (cy 1, 6, .inl (upd g19 0 p0))), (h9, .inl (cy 1, 6, .inl (upd g20 0 p1)))]) hP hD [2, 0, 1] [] rfl rfl (by decide) (by decide) hk1 hFc hP1 hD1
    have hP : va_P D vwCl [(h1, .inr (10, [x2, x3, x4, x5, x6, x7, .ref h8, .ref h9, x10, x11, x12, x13, x14, x15, x16, .int 1, x17, .int 0])), (h8, .inl (cy 1, 6, .inl (upd g19 0 p0))), (h9, .inl (cy 1, 6, .inl (upd g20 0 p1)))] H := hP
    have hD : va_D A [(h1, .inr (10, [x2, x3, x4, x5, x6, x7, .ref h8, .ref h9, x10, x11, x12, x13, x14, x15, x16, .int 1, x17, .int 0])), (h8, .inl (cy 1, 6, .inl (upd g19 0 p0))), (h9, .inl (cy 1, 6, .inl (upd g20 0 p1)))] := hD
    obtain ⟨rfl, hw⟩ := hw
    refine W.widen (k := 0) (n := 0) (Nat.le_of_ble_eq_true rfl) (Nat.le_of_ble_eq_true rfl) ?_
    have hP9 := hP.sub (ws' := [(h1, .inr (10, [x2, x3, x4, x5, x6, x7, .ref h8, .ref h9, x10, x11, x12, x13, x14, x15, x16, .int 1, x17, .int 0])), (h8, .inl (cy 1, 6, .inl (upd g19 0 p0))), (h9, .inl (cy 1, 6, .inl (upd g20 0 p1)))]) [0, 1, 2] rfl
    have hD9 := hD.sub (ws' := [(h1, .inr (10, [x2, x3, x4, x5, x6, x7, .ref h8, .ref h9, x10, x11, x12, x13, x14, x15, x16, .int 1, x17, .int 0])), (h8, .inl (cy 1, 6, .inl (upd g19 0 p0))), (h9, .inl (cy 1, 6, .inl (upd g20 0 p1)))]) [0, 1, 2] (by decide) rfl
    exact W.iret (v := 0) hx hb hr (fun t ht hW => ⟨⟨0, (1, 0, (upd g19 0 p0), (upd g20 0 p1)), rfl, Or.inr (⟨rfl, rfl, rfl, (by omega)⟩), ⟨by rw [ht]; exact hP9, hD9⟩⟩, hS.F ht⟩) hS.2.2 dX8_addPlayer_45
theorem dX7_checkPlayer_0 : decode cX7_checkPlayer 0 = .ok (.iload_n 1, 1) := by decide +kernel
theorem dX7_checkPlayer_1 : decode cX7_checkPlayer 1 = .ok (.ifCond .lt 14, 3) := by decide +kernel
theorem dX7_checkPlayer_15 : decode cX7_checkPlayer 15 = .ok (.new 372, 3) := by decide +kernel
theorem dX7_checkPlayer_18 : decode cX7_checkPlayer 18 = .ok (.dup, 1) := by decide +kernel
theorem dX7_checkPlayer_19 : decode cX7_checkPlayer 19 = .ok (.ldc_w 377, 3) := by decide +kernel
theorem dX7_checkPlayer_22 : decode cX7_checkPlayer 22 = .ok (.invokespecial 376, 3) := by decide +kernel
theorem dX7_checkPlayer_25 : decode cX7_checkPlayer 25 = .ok (.athrow, 1) := by decide +kernel
theorem dX7_checkPlayer_4 : decode cX7_checkPlayer 4 = .ok (.iload_n 1, 1) := by decide +kernel
theorem dX7_checkPlayer_5 : decode cX7_checkPlayer 5 = .ok (.aload_n 0, 1) := by decide +kernel
theorem dX7_checkPlayer_6 : decode cX7_checkPlayer 6 = .ok (.getfield 10, 3) := by decide +kernel
theorem dX7_checkPlayer_9 : decode cX7_checkPlayer 9 = .ok (.getfield 281, 3) := by decide +kernel
theorem dX7_checkPlayer_12 : decode cX7_checkPlayer 12 = .ok (.if_icmp .lt 14, 3) := by decide +kernel
set_option maxHeartbeats 4000000 in
set_option maxRecDepth 100000 in
theorem k_X7_checkPlayer (l : Launch) (hl9 : l.stackTraces = false) (D : va_G) (cy : Nat → ClassId) (h1 : Nat) (p0 : Int32) (h2 : Nat) (x3 : Value) (x4 : Value) (x5 : Value) (x6 : Value) (x7 : Value) (x8 : Value) (x9 : Value) (x10 : Value) (x11 : Value) : vx_Met l yX7_checkPlayer wsX7_checkPlayer ({ frames := 6, cells := 1, slots := 6, locals := 82 }) (kRX D cy [.ref h1, .int p0] [(h1, .inr (9, [.ref h2, x3, x4, x5, x6, x7, x8])), (h2, .inr (2, [x9, x10, x11, .int 0]))]) (va_Qv (fun (_ : Unit) => False) (fun (_ : Unit) (_ : State) => True) (fun _ : Nat => False)) (vx_X (fun _ : Unit => True) (fun (E : String) (_ : Unit) (_ : State) => (E = "java/lang/IndexOutOfBoundsException" ∧ True)) (fun _ : Nat => False)) 1 6 (fun _ : Nat => False) := by
  refine vx_ofW (cc := cX7_checkPlayer) (maxL := 2) (ret := none) (by decide) rfl ?_
  intro p e s m args below meth c s₁ B hml ht9 hv
  obtain ⟨rfl, hP, hK, hE⟩ := hv
  have hx := B.exec
  have hb := B.bytes
  have hr := B.returns
  have hts := atoms_spec (ws := wsX7_checkPlayer) B.pre
  have hown : s.vm.findClass RX7 = some m.cls := findClass_of_methodNamed B.named
  have hlocks := B.notSynchronized
  have hS : va_S (fun _ : Nat => False) s.heap s.heap [] := va_S.rf
  have hP : va_P D vwCl [(h1, .inr (9, [.ref h2, x3, x4, x5, x6, x7, x8])), (h2, .inr (2, [x9, x10, x11, .int 0]))] s.heap := hP
  have hl := lv_entry ([.ref h1, .int p0]) (n := 2) (Nat.le_of_ble_eq_true rfl)
  rw [lg_entry_eq]
  generalize (lg_sl ([.ref h1, .int p0]) ++ List.replicate (2 - (lg_sl ([.ref h1, .int p0])).length) Slot.unset).toArray = ls at hl ⊢
  have hl : lv_has ls 2 [(0, .ref h1), (1, .int p0)] := hl
  refine lv_iload_n hx hb dX7_checkPlayer_0 rfl (lv_at hl 1 rfl) ?_
  refine lv_if_lt (tgt := 15) hx hb dX7_checkPlayer_1 (by decide) (fun c_1 => ?_) (fun c_1 => ?_)
  · have f_2 : p0.toInt < (0 : Int) := kx_lt c_1
    obtain ⟨sa9, hsa9⟩ := hE.2.1 (377, "no such player") (by decide +kernel)
    exact vx_throwSW (own := RX7) (cls := "java/lang/IndexOutOfBoundsException") (text := "no such player") (names := ["java/lang/RuntimeException", "java/lang/Exception"]) (A := (fun _ : Nat => False)) hx hb hl9 hown (by decide +kernel) (by decide +kernel) (hts (.classLink RX7 372 "java/lang/IndexOutOfBoundsException") (List.mem_cons_of_mem _ (List.mem_append_left _ (List.mem_append_left _ (List.mem_append_left _ (List.mem_of_getElem? (i := 0) rfl)))))) (hts (.initialized "java/lang/IndexOutOfBoundsException") (List.mem_cons_of_mem _ (List.mem_append_left _ (List.mem_append_left _ (List.mem_append_left _ (List.mem_of_getElem? (i := 1) rfl)))))) hsa9 (ex_hat hE (fun w h => hts w (List.mem_cons_of_mem _ (List.mem_append_right _ h))) (by decide +kernel) (by decide +kernel)) (by decide +kernel) hE.1.1 hE.1.2 hS (by rw [hml]; exact hl.1) dX7_checkPlayer_15 dX7_checkPlayer_18 dX7_checkPlayer_19 dX7_checkPlayer_22 dX7_checkPlayer_25 (fun x hx => (ht9 x hx).elim) (Nat.le_of_ble_eq_true rfl) (Nat.le_of_ble_eq_true rfl) (Nat.le_of_ble_eq_true rfl) (Nat.le_of_ble_eq_true rfl) hlocks (fun t hal hz hk => ⟨(), trivial, (⟨rfl, trivial⟩), kx_thr hS hz hk⟩) hS.2.2 (Nat.le_of_ble_eq_true rfl) (Nat.le_of_ble_eq_true rfl)
  · have f_3 : (0 : Int) ≤ p0.toInt := kx_nlt c_1
    refine lv_iload_n hx hb dX7_checkPlayer_4 rfl (lv_at hl 1 rfl) ?_
    refine lv_aload_n hx hb dX7_checkPlayer_5 rfl (lv_at hl 0 rfl) ?_
    refine va_get (D := D) (ci := 9) (v := .ref h2) (C := RX7) (T := TX7) (N := 7) hx hb hts (fun _ h => (List.mem_cons_of_mem _ (List.mem_append_left _ (List.mem_append_left _ (List.mem_append_right _ h))))) hown hK hP 0 rfl rfl 0 (by decide) (hts (.fieldLink RX7 10 "SelfishJunction" "board" "LSelfishJunction$Board;") (List.mem_cons_of_mem _ (List.mem_append_left _ (List.mem_append_left _ (List.mem_append_left _ (List.mem_of_getElem? (i := 2) rfl)))))) (fun _ h9 => h9) rfl dX7_checkPlayer_6 ?_
    refine va_get (D := D) (ci := 2) (v := .int 0) (C := RX0) (T := TX0) (N := 4) hx hb hts (fun _ h => (List.mem_cons_of_mem _ (List.mem_append_left _ (List.mem_append_right _ h)))) hown hK hP 1 rfl rfl 3 (by decide) (hts (.fieldLink RX7 281 "SelfishJunction$Board" "playerCount" "I") (List.mem_cons_of_mem _ (List.mem_append_left _ (List.mem_append_left _ (List.mem_append_left _ (List.mem_of_getElem? (i := 3) rfl)))))) (fun _ h9 => h9) rfl dX7_checkPlayer_9 ?_
    refine lv_icmp_lt (tgt := 26) hx hb dX7_checkPlayer_12 (by decide) (fun c_4 => ?_) (fun c_4 => ?_)
    · have f_5 : p0.toInt < (0 : Int) := kx_lt c_4
      omega
    · have f_6 : (0 : Int) ≤ p0.toInt := kx_nlt c_4
      obtain ⟨sa9, hsa9⟩ := hE.2.1 (377, "no such player") (by decide +kernel)
      exact vx_throwSW (own := RX7) (cls := "java/lang/IndexOutOfBoundsException") (text := "no such player") (names := ["java/lang/RuntimeException", "java/lang/Exception"]) (A := (fun _ : Nat => False)) hx hb hl9 hown (by decide +kernel) (by decide +kernel) (hts (.classLink RX7 372 "java/lang/IndexOutOfBoundsException") (List.mem_cons_of_mem _ (List.mem_append_left _ (List.mem_append_left _ (List.mem_append_left _ (List.mem_of_getElem? (i := 0) rfl)))))) (hts (.initialized "java/lang/IndexOutOfBoundsException") (List.mem_cons_of_mem _ (List.mem_append_left _ (List.mem_append_left _ (List.mem_append_left _ (List.mem_of_getElem? (i := 1) rfl)))))) hsa9 (ex_hat hE (fun w h => hts w (List.mem_cons_of_mem _ (List.mem_append_right _ h))) (by decide +kernel) (by decide +kernel)) (by decide +kernel) hE.1.1 hE.1.2 hS (by rw [hml]; exact hl.1) dX7_checkPlayer_15 dX7_checkPlayer_18 dX7_checkPlayer_19 dX7_checkPlayer_22 dX7_checkPlayer_25 (fun x hx => (ht9 x hx).elim) (Nat.le_of_ble_eq_true rfl) (Nat.le_of_ble_eq_true rfl) (Nat.le_of_ble_eq_true rfl) (Nat.le_of_ble_eq_true rfl) hlocks (fun t hal hz hk => ⟨(), trivial, (⟨rfl, trivial⟩), kx_thr hS hz hk⟩) hS.2.2 (Nat.le_of_ble_eq_true rfl) (Nat.le_of_ble_eq_true rfl)
