theorem dX6_longestFrom_0 : decode cX6_longestFrom 0 = .ok (.aload_n 0, 1) := by decide +kernel
theorem dX6_longestFrom_1 : decode cX6_longestFrom 1 = .ok (.invokevirtual 119, 3) := by decide +kernel
set_option maxRecDepth 20000 in
theorem ggX6_longestFrom_X6_forget : GoodIn wsX6_longestFrom wsX6_forget := goodIn_ca (goodIn_r _ [6, 7, 8, 43, 44, 45, 46, 47, 48, 49, 50, 51, 52, 53, 54, 55] (by decide +kernel) (by decide +kernel)) (goodIn_sub (fun _ h => List.mem_cons_of_mem _ (List.mem_append_left _ (List.mem_append_right _ h))) (by decide +kernel))
set_option maxRecDepth 20000 in
theorem gX6_longestFrom_X6_forget : GoodIn wsX6_longestFrom (wsV RX6 119 RX6 yX6_forget wsX6_forget) := goodIn_app (goodIn_of _ (by decide +kernel)) ggX6_longestFrom_X6_forget
theorem dX6_longestFrom_4 : decode cX6_longestFrom 4 = .ok (.aload_n 0, 1) := by decide +kernel
theorem dX6_longestFrom_5 : decode cX6_longestFrom 5 = .ok (.iload_n 1, 1) := by decide +kernel
theorem dX6_longestFrom_6 : decode cX6_longestFrom 6 = .ok (.invokevirtual 122, 3) := by decide +kernel
set_option maxRecDepth 20000 in
theorem ggX6_longestFrom_X6_meetsRing : GoodIn wsX6_longestFrom wsX6_meetsRing := goodIn_ca (goodIn_ca (goodIn_r _ [12, 13, 14, 15, 8, 16, 17, 18, 19, 5, 20, 1, 21, 22, 23, 24, 25, 26, 27, 28, 29, 30, 31, 32, 33, 34, 35, 36, 37, 38, 39, 40, 41, 42, 43, 44, 45, 46, 47, 48, 49, 50, 51, 52, 53, 54, 55] (by decide +kernel) (by decide +kernel)) (goodIn_sub (fun _ h => List.mem_cons_of_mem _ (List.mem_append_left _ (List.mem_append_right _ h))) (by decide +kernel))) (goodIn_sub (fun _ h => List.mem_cons_of_mem _ (List.mem_append_right _ h)) (by decide +kernel))
set_option maxRecDepth 20000 in
theorem gX6_longestFrom_X6_meetsRing : GoodIn wsX6_longestFrom (wsV RX6 122 RX6 yX6_meetsRing wsX6_meetsRing) := goodIn_app (goodIn_of _ (by decide +kernel)) ggX6_longestFrom_X6_meetsRing
theorem dX6_longestFrom_9 : decode cX6_longestFrom 9 = .ok (.ifCond .eq 7, 3) := by decide +kernel
theorem dX6_longestFrom_16 : decode cX6_longestFrom 16 = .ok (.aload_n 0, 1) := by decide +kernel
theorem dX6_longestFrom_17 : decode cX6_longestFrom 17 = .ok (.getfield 33, 3) := by decide +kernel
theorem dX6_longestFrom_20 : decode cX6_longestFrom 20 = .ok (.iload_n 1, 1) := by decide +kernel
theorem dX6_longestFrom_21 : decode cX6_longestFrom 21 = .ok (.iaload, 1) := by decide +kernel
theorem dX6_longestFrom_22 : decode cX6_longestFrom 22 = .ok (.ireturn, 1) := by decide +kernel
set_option maxHeartbeats 4000000 in
set_option maxRecDepth 100000 in
theorem k_X6_longestFrom (l : Launch) (hl9 : l.stackTraces = false) (D : va_G) (cy : Nat → ClassId) (h1 : Nat) (x2 : Value) (x3 : Value) (x4 : Value) (x5 : Value) (x6 : Value) (h7 : Nat) (h8 : Nat) (h9 : Nat) (h10 : Nat) (h11 : Nat) (x12 : Value) (x13 : Value) (g14 : Nat → Int32) (kg14_0 : g14 0 = 0) (g15 : Nat → Int32) (kg15_0 : g15 0 = 0) (g16 : Nat → Int32) (kg16_0 : g16 0 = 0) (g17 : Nat → Int32) (kg17_0 : g17 0 = 0) (g18 : Nat → Int32) (kg18_0 : g18 0 = 0) (sz : Nat) : Met l yX6_longestFrom wsX6_longestFrom ({ frames := 2, cells := 0, slots := 0, locals := 48 }) (kWX D cy [.ref h1, .int 0] [(h1, .inr (8, [x2, x3, x4, x5, x6, .ref h7, .ref h8, .ref h9, .ref h10, .ref h11, x12, x13, .int 1])), (h7, .inl (cy 1, 1000, .inl g14)), (h8, .inl (cy 1, 1000, .inl g15)), (h9, .inl (cy 1, 1000, .inl g16)), (h10, .inl (cy 1, 1000, .inl g17)), (h11, .inl (cy 1, 1000, .inl g18))] sz) (va_Qi (fun (r : Int32) (_ : Unit) => r = 0 ∧ True) (fun (_ : Unit) (t : State) => va_P D vwCl [(h1, .inr (8, [x2, x3, x4, x5, x6, .ref h7, .ref h8, .ref h9, .ref h10, .ref h11, x12, x13, .int 1])), (h7, .inl (cy 1, 1000, .inl g14)), (h8, .inl (cy 1, 1000, .inl (upd (upd g15 0 0) 0 2))), (h9, .inl (cy 1, 1000, .inl (upd g16 0 0))), (h10, .inl (cy 1, 1000, .inl (upd g17 0 30))), (h11, .inl (cy 1, 1000, .inl (upd g18 0 0)))] t.heap ∧ va_D (va_A [(h1, .inr (8, [x2, x3, x4, x5, x6, .ref h7, .ref h8, .ref h9, .ref h10, .ref h11, x12, x13, .int 1])), (h7, .inl (cy 1, 1000, .inl g14)), (h8, .inl (cy 1, 1000, .inl g15)), (h9, .inl (cy 1, 1000, .inl g16)), (h10, .inl (cy 1, 1000, .inl g17)), (h11, .inl (cy 1, 1000, .inl g18))] sz) [(h1, .inr (8, [x2, x3, x4, x5, x6, .ref h7, .ref h8, .ref h9, .ref h10, .ref h11, x12, x13, .int 1])), (h7, .inl (cy 1, 1000, .inl g14)), (h8, .inl (cy 1, 1000, .inl (upd (upd g15 0 0) 0 2))), (h9, .inl (cy 1, 1000, .inl (upd g16 0 0))), (h10, .inl (cy 1, 1000, .inl (upd g17 0 30))), (h11, .inl (cy 1, 1000, .inl (upd g18 0 0)))]) (va_A [(h1, .inr (8, [x2, x3, x4, x5, x6, .ref h7, .ref h8, .ref h9, .ref h10, .ref h11, x12, x13, .int 1])), (h7, .inl (cy 1, 1000, .inl g14)), (h8, .inl (cy 1, 1000, .inl g15)), (h9, .inl (cy 1, 1000, .inl g16)), (h10, .inl (cy 1, 1000, .inl g17)), (h11, .inl (cy 1, 1000, .inl g18))] sz)) 0 0 (va_A [(h1, .inr (8, [x2, x3, x4, x5, x6, .ref h7, .ref h8, .ref h9, .ref h10, .ref h11, x12, x13, .int 1])), (h7, .inl (cy 1, 1000, .inl g14)), (h8, .inl (cy 1, 1000, .inl g15)), (h9, .inl (cy 1, 1000, .inl g16)), (h10, .inl (cy 1, 1000, .inl g17)), (h11, .inl (cy 1, 1000, .inl g18))] sz) := by
  refine Met.ofW (cc := cX6_longestFrom) (maxL := 2) (ret := (some .int)) (by decide) rfl ?_
  intro p e s m args below meth c s₁ B hml hv
  obtain ⟨rfl, hsz, hP, hK, hD0, hE⟩ := hv
  have hx := B.exec
  have hb := B.bytes
  have hr := B.returns
  have hts := atoms_spec (ws := wsX6_longestFrom) B.pre
  have hown : s.vm.findClass RX6 = some m.cls := findClass_of_methodNamed B.named
  have hlocks := B.notSynchronized
  subst hsz
  have hD := hD0.self (sz := s.heap.size)
  generalize hAe : va_A [(h1, .inr (8, [x2, x3, x4, x5, x6, .ref h7, .ref h8, .ref h9, .ref h10, .ref h11, x12, x13, .int 1])), (h7, .inl (cy 1, 1000, .inl g14)), (h8, .inl (cy 1, 1000, .inl g15)), (h9, .inl (cy 1, 1000, .inl g16)), (h10, .inl (cy 1, 1000, .inl g17)), (h11, .inl (cy 1, 1000, .inl g18))] s.heap.size = A at hD hE ⊢
  have hA : ∀ q : Nat, s.heap.size ≤ q → A q := fun q h => by rw [← hAe]; exact Or.inr h
  have hS : va_S A s.heap s.heap [] := va_S.rf
  have hP : va_P D vwCl [(h1, .inr (8, [x2, x3, x4, x5, x6, .ref h7, .ref h8, .ref h9, .ref h10, .ref h11, x12, x13, .int 1])), (h7, .inl (cy 1, 1000, .inl g14)), (h8, .inl (cy 1, 1000, .inl g15)), (h9, .inl (cy 1, 1000, .inl g16)), (h10, .inl (cy 1, 1000, .inl g17)), (h11, .inl (cy 1, 1000, .inl g18))] s.heap := hP
  have hl := lv_entry ([.ref h1, .int 0]) (n := 2) (Nat.le_of_ble_eq_true rfl)
  rw [lg_entry_eq]
  generalize (lg_sl ([.ref h1, .int 0]) ++ List.replicate (2 - (lg_sl ([.ref h1, .int 0])).length) Slot.unset).toArray = ls at hl ⊢
  have hl : lv_has ls 2 [(0, .ref h1), (1, .int 0)] := hl
  refine lv_aload_n hx hb dX6_longestFrom_0 rfl (lv_at hl 0 rfl) ?_
  have hPc := hP.sub (ws' := [(h1, .inr (8, [x2, x3, x4, x5, x6, .ref h7, .ref h8, .ref h9, .ref h10, .ref h11, x12, x13, .int 1])), (h8, .inl (cy 1, 1000, .inl g15))]) [0, 2] rfl
  have hDc := hD.sub (ws' := [(h1, .inr (8, [x2, x3, x4, x5, x6, .ref h7, .ref h8, .ref h9, .ref h10, .ref h11, x12, x13, .int 1])), (h8, .inl (cy 1, 1000, .inl g15))]) [0, 2] (by decide) rfl
  have hFc := va_free (wc := [(h1, .inr (8, [x2, x3, x4, x5, x6, .ref h7, .ref h8, .ref h9, .ref h10, .ref h11, x12, x13, .int 1])), (h8, .inl (cy 1, 1000, .inl g15))]) hD hS hA [0, 2] rfl
  refine va_callv (va_runV (As := []) (rest := []) ⟨hx, hb, hml, hown, hts⟩ (k_X6_forget l D cy h1 (x2) (x3) (x4) (x5) (x6) (.ref h7) h8 (.ref h9) (.ref h10) (.ref h11) (x12) (x13) g15 s.heap.size) (cwV 0 hts gX6_longestFrom_X6_forget rfl rfl rfl (by decide +kernel) ⟨(Nat.le_of_ble_eq_true rfl), (Nat.le_of_ble_eq_true rfl)⟩) ⟨kW_fb, va_recv hK hP (ci := 8) (q0 := 0) rfl rfl, (kW_go hPc hK hDc)⟩ rfl rfl hl.1 rfl (lv_room (Nat.le_of_ble_eq_true rfl)) dX6_longestFrom_1 ⟨(Nat.le_of_ble_eq_true rfl), (Nat.le_of_ble_eq_true rfl)⟩) hS (fun q _ h => hFc q h) hFc (fun u t H locs ht hvm hw hB hz1 hk1 hS => ?_)
  obtain ⟨hP1, hD1⟩ := hB
  rw [ht] at hP1
  try dsimp only at hw hP1 hD1
  obtain ⟨hP, hD⟩ := va_join (wr := [(h7, .inl (cy 1, 1000, .inl g14)), (h9, .inl (cy 1, 1000, .inl g16)), (h10, .inl (cy 1, 1000, .inl g17)), (h11, .inl (cy 1, 1000, .inl g18))]) (w1 := [(h1, .inr (8, [x2, x3, x4, x5, x6, .ref h7, .ref h8, .ref h9, .ref h10, .ref h11, x12, x13, .int 1])), (h8, .inl (cy 1, 1000, .inl (upd g15 0 0)))]) hP hD [0, 2] [1, 3, 4, 5] rfl rfl (by decide) (by decide) hk1 hFc hP1 hD1
  have hP : va_P D vwCl [(h7, .inl (cy 1, 1000, .inl g14)), (h9, .inl (cy 1, 1000, .inl g16)), (h10, .inl (cy 1, 1000, .inl g17)), (h11, .inl (cy 1, 1000, .inl g18)), (h1, .inr (8, [x2, x3, x4, x5, x6, .ref h7, .ref h8, .ref h9, .ref h10, .ref h11, x12, x13, .int 1])), (h8, .inl (cy 1, 1000, .inl (upd g15 0 0)))] H := hP
  have hD : va_D A [(h7, .inl (cy 1, 1000, .inl g14)), (h9, .inl (cy 1, 1000, .inl g16)), (h10, .inl (cy 1, 1000, .inl g17)), (h11, .inl (cy 1, 1000, .inl g18)), (h1, .inr (8, [x2, x3, x4, x5, x6, .ref h7, .ref h8, .ref h9, .ref h10, .ref h11, x12, x13, .int 1])), (h8, .inl (cy 1, 1000, .inl (upd g15 0 0)))] := hD
  refine lv_aload_n hx hb dX6_longestFrom_4 rfl (lv_at hl 0 rfl) ?_
  refine lv_iload_n hx hb dX6_longestFrom_5 rfl (lv_at hl 1 rfl) ?_
  have hPc := hP.sub (ws' := [(h1, .inr (8, [x2, x3, x4, x5, x6, .ref h7, .ref h8, .ref h9, .ref h10, .ref h11, x12, x13, .int 1])), (h7, .inl (cy 1, 1000, .inl g14)), (h8, .inl (cy 1, 1000, .inl (upd g15 0 0))), (h9, .inl (cy 1, 1000, .inl g16)), (h10, .inl (cy 1, 1000, .inl g17)), (h11, .inl (cy 1, 1000, .inl g18))]) [4, 0, 5, 1, 2, 3] rfl
  have hDc := hD.sub (ws' := [(h1, .inr (8, [x2, x3, x4, x5, x6, .ref h7, .ref h8, .ref h9, .ref h10, .ref h11, x12, x13, .int 1])), (h7, .inl (cy 1, 1000, .inl g14)), (h8, .inl (cy 1, 1000, .inl (upd g15 0 0))), (h9, .inl (cy 1, 1000, .inl g16)), (h10, .inl (cy 1, 1000, .inl g17)), (h11, .inl (cy 1, 1000, .inl g18))]) [4, 0, 5, 1, 2, 3] (by decide) rfl
  have hFc := va_free (wc := [(h1, .inr (8, [x2, x3, x4, x5, x6, .ref h7, .ref h8, .ref h9, .ref h10, .ref h11, x12, x13, .int 1])), (h7, .inl (cy 1, 1000, .inl g14)), (h8, .inl (cy 1, 1000, .inl (upd g15 0 0))), (h9, .inl (cy 1, 1000, .inl g16)), (h10, .inl (cy 1, 1000, .inl g17)), (h11, .inl (cy 1, 1000, .inl g18))]) hD hS hA [4, 0, 5, 1, 2, 3] rfl
  refine va_calli (va_runV (As := [.int 0]) (rest := []) ⟨hx, hb, hml, hown, hts⟩ (k_X6_meetsRing l hl9 D cy h1 (x2) (x3) (x4) (x5) (x6) h7 h8 h9 h10 h11 (x12) (x13) (.int 1) g14 (kg14_0) (upd g15 0 0) (rfl) g16 g17 (kg17_0) g18 (kg18_0) H.size) (cwV 1 hts gX6_longestFrom_X6_meetsRing rfl rfl rfl (by decide +kernel) ⟨(Nat.le_of_ble_eq_true rfl), (Nat.le_of_ble_eq_true rfl)⟩) ⟨kWX_fb, va_recv hK hP (ci := 8) (q0 := 4) rfl rfl, (kWX_go hPc hK hDc hFc hE hS)⟩ rfl rfl hl.1 rfl (lv_room (Nat.le_of_ble_eq_true rfl)) dX6_longestFrom_6 ⟨(Nat.le_of_ble_eq_true rfl), (Nat.le_of_ble_eq_true rfl)⟩) hS (fun q _ h => hFc q h) hFc (fun r9 u t H locs ht hvm hw hB hz1 hk1 hS => ?_)
  obtain ⟨hP1, hD1⟩ := hB
  rw [ht] at hP1
  try dsimp only at hw hP1 hD1
  obtain ⟨hP, hD⟩ := va_join (wr := []) (w1 := [(h1, .inr (8, [x2, x3, x4, x5, x6, .ref h7, .ref h8, .ref h9, .ref h10, .ref h11, x12, x13, .int 1])), (h7, .inl (cy 1, 1000, .inl g14)), (h8, .inl (cy 1, 1000, .inl (upd (upd g15 0 0) 0 2))), (h9, .inl (cy 1, 1000, .inl (upd g16 0 0))), (h10, .inl (cy 1, 1000, .inl (upd g17 0 30))), (h11, .inl (cy 1, 1000, .inl (upd g18 0 0)))]) hP hD [4, 0, 5, 1, 2, 3] [] rfl rfl (by decide) (by decide) hk1 hFc hP1 hD1
  have hP : va_P D vwCl [(h1, .inr (8, [x2, x3, x4, x5, x6, .ref h7, .ref h8, .ref h9, .ref h10, .ref h11, x12, x13, .int 1])), (h7, .inl (cy 1, 1000, .inl g14)), (h8, .inl (cy 1, 1000, .inl (upd (upd g15 0 0) 0 2))), (h9, .inl (cy 1, 1000, .inl (upd g16 0 0))), (h10, .inl (cy 1, 1000, .inl (upd g17 0 30))), (h11, .inl (cy 1, 1000, .inl (upd g18 0 0)))] H := hP
  have hD : va_D A [(h1, .inr (8, [x2, x3, x4, x5, x6, .ref h7, .ref h8, .ref h9, .ref h10, .ref h11, x12, x13, .int 1])), (h7, .inl (cy 1, 1000, .inl g14)), (h8, .inl (cy 1, 1000, .inl (upd (upd g15 0 0) 0 2))), (h9, .inl (cy 1, 1000, .inl (upd g16 0 0))), (h10, .inl (cy 1, 1000, .inl (upd g17 0 30))), (h11, .inl (cy 1, 1000, .inl (upd g18 0 0)))] := hD
  obtain ⟨rfl, hw⟩ := hw
  refine lv_if_eq (tgt := 16) hx hb dX6_longestFrom_9 (by decide) (fun _ => ?_) (fun h => absurd (by decide) h)
  refine lv_aload_n hx hb dX6_longestFrom_16 rfl (lv_at hl 0 rfl) ?_
  refine va_get (D := D) (ci := 8) (v := .ref h9) (C := RX6) (T := TX6) (N := 13) hx hb hts (fun _ h => (List.mem_cons_of_mem _ (List.mem_append_left _ (List.mem_append_left _ (List.mem_append_right _ h))))) hown hK hP 0 rfl rfl 7 (by decide) (hts (.fieldLink RX6 33 "SelfishJunction$Survey" "lengths" "[I") (List.mem_cons_of_mem _ (List.mem_append_left _ (List.mem_append_left _ (List.mem_append_left _ (List.mem_append_left _ (List.mem_of_getElem? (i := 0) rfl))))))) (fun _ h9 => h9) rfl dX6_longestFrom_17 ?_
  refine lv_iload_n hx hb dX6_longestFrom_20 rfl (lv_at hl 1 rfl) ?_
  refine va_iald hx hb hK hP 3 1 rfl rfl (kx_in 0 1000 rfl ⟨(Nat.le_of_ble_eq_true rfl), (Nat.le_of_ble_eq_true rfl)⟩ (Nat.le_of_ble_eq_true rfl)) dX6_longestFrom_21 ?_
  refine lv_topi (fun v_3 ev_3 => ?_)
  obtain rfl : v_3 = 0 := ev_3.trans rfl
  refine W.widen (k := 0) (n := 0) (Nat.le_of_ble_eq_true rfl) (Nat.le_of_ble_eq_true rfl) ?_
  have hP9 := hP.sub (ws' := [(h1, .inr (8, [x2, x3, x4, x5, x6, .ref h7, .ref h8, .ref h9, .ref h10, .ref h11, x12, x13, .int 1])), (h7, .inl (cy 1, 1000, .inl g14)), (h8, .inl (cy 1, 1000, .inl (upd (upd g15 0 0) 0 2))), (h9, .inl (cy 1, 1000, .inl (upd g16 0 0))), (h10, .inl (cy 1, 1000, .inl (upd g17 0 30))), (h11, .inl (cy 1, 1000, .inl (upd g18 0 0)))]) [0, 1, 2, 3, 4, 5] rfl
  have hD9 := hD.sub (ws' := [(h1, .inr (8, [x2, x3, x4, x5, x6, .ref h7, .ref h8, .ref h9, .ref h10, .ref h11, x12, x13, .int 1])), (h7, .inl (cy 1, 1000, .inl g14)), (h8, .inl (cy 1, 1000, .inl (upd (upd g15 0 0) 0 2))), (h9, .inl (cy 1, 1000, .inl (upd g16 0 0))), (h10, .inl (cy 1, 1000, .inl (upd g17 0 30))), (h11, .inl (cy 1, 1000, .inl (upd g18 0 0)))]) [0, 1, 2, 3, 4, 5] (by decide) rfl
  exact W.iret (v := 0) hx hb hr (fun t ht hW => ⟨⟨0, (), rfl, ⟨rfl, trivial⟩, ⟨by rw [ht]; exact hP9, hD9⟩⟩, hS.F ht⟩) hS.2.2 dX6_longestFrom_22
theorem dX7_longestRun_0 : decode cX7_longestRun 0 = .ok (.aload_n 0, 1) := by decide +kernel
theorem dX7_longestRun_1 : decode cX7_longestRun 1 = .ok (.invokevirtual 264, 3) := by decide +kernel
set_option maxRecDepth 20000 in
theorem ggX7_longestRun_X7_lookAtPlays : GoodIn wsX7_longestRun wsX7_lookAtPlays := goodIn_ca (goodIn_ca (goodIn_ca (goodIn_r _ [10, 3, 4, 11, 12, 13, 9, 14, 15, 16, 5, 17, 18, 19, 20, 21, 22, 23, 24, 25, 26, 27, 28, 29, 30, 31, 32, 33, 34, 35, 36, 37, 38, 39, 40, 41, 42, 43, 44, 45, 46, 47, 48, 49, 50, 51, 52, 53, 54, 55, 56, 57, 58, 59, 60, 61, 62, 63, 64, 65, 66, 67, 68, 69, 70, 71, 72, 73, 74, 75, 76, 77, 78, 79, 80, 81, 82, 83, 84, 85, 86, 87, 88, 89, 90, 91, 92, 93, 94, 95, 96, 97, 98, 99, 100, 101, 102, 103, 104, 105, 106, 107, 108, 109, 110, 111, 112, 113, 114, 151, 152, 153, 154, 155, 156, 157, 158, 159, 160, 161, 162, 163, 164, 165, 166, 167, 168, 169, 170, 171, 172, 173, 174, 175, 176, 177, 178, 179, 180, 181, 182, 183, 184, 185, 186, 187, 188, 189, 190] (by decide +kernel) (by decide +kernel)) (goodIn_sub (fun _ h => List.mem_cons_of_mem _ (List.mem_append_left _ (List.mem_append_left _ (List.mem_append_right _ h)))) (by decide +kernel))) (goodIn_sub (fun _ h => List.mem_cons_of_mem _ (List.mem_append_left _ (List.mem_append_right _ h))) (by decide +kernel))) (goodIn_sub (fun _ h => List.mem_cons_of_mem _ (List.mem_append_right _ h)) (by decide +kernel))
set_option maxRecDepth 20000 in
theorem gX7_longestRun_X7_lookAtPlays : GoodIn wsX7_longestRun (wsV RX7 264 RX7 yX7_lookAtPlays wsX7_lookAtPlays) := goodIn_app (goodIn_of _ (by decide +kernel)) ggX7_longestRun_X7_lookAtPlays
theorem dX7_longestRun_4 : decode cX7_longestRun 4 = .ok (.aload_n 0, 1) := by decide +kernel
theorem dX7_longestRun_5 : decode cX7_longestRun 5 = .ok (.getfield 29, 3) := by decide +kernel
theorem dX7_longestRun_8 : decode cX7_longestRun 8 = .ok (.aload_n 0, 1) := by decide +kernel
theorem dX7_longestRun_9 : decode cX7_longestRun 9 = .ok (.getfield 29, 3) := by decide +kernel
theorem dX7_longestRun_12 : decode cX7_longestRun 12 = .ok (.aload_n 0, 1) := by decide +kernel
theorem dX7_longestRun_13 : decode cX7_longestRun 13 = .ok (.getfield 10, 3) := by decide +kernel
theorem dX7_longestRun_16 : decode cX7_longestRun 16 = .ok (.aload_n 0, 1) := by decide +kernel
theorem dX7_longestRun_17 : decode cX7_longestRun 17 = .ok (.getfield 19, 3) := by decide +kernel
theorem dX7_longestRun_20 : decode cX7_longestRun 20 = .ok (.invokevirtual 295, 3) := by decide +kernel
set_option maxRecDepth 20000 in
theorem ggX7_longestRun_X6_indexOf : GoodIn wsX7_longestRun wsX6_indexOf := goodIn_ca (goodIn_r _ [118, 26, 31, 57, 28, 174, 175, 176, 177, 171, 172, 173, 158, 159, 160, 161, 162, 163, 164, 165, 166, 167, 168, 169, 170] (by decide +kernel) (by decide +kernel)) (goodIn_sub (fun _ h => List.mem_cons_of_mem _ (List.mem_append_left _ (List.mem_append_right _ h))) (by decide +kernel))
set_option maxRecDepth 20000 in
theorem gX7_longestRun_X6_indexOf : GoodIn wsX7_longestRun (wsV RX7 295 RX6 yX6_indexOf wsX6_indexOf) := goodIn_app (goodIn_of _ (by decide +kernel)) ggX7_longestRun_X6_indexOf
theorem dX7_longestRun_23 : decode cX7_longestRun 23 = .ok (.invokevirtual 299, 3) := by decide +kernel
set_option maxRecDepth 20000 in
theorem ggX7_longestRun_X6_longestFrom : GoodIn wsX7_longestRun wsX6_longestFrom := goodIn_ca (goodIn_ca (goodIn_r _ [122, 123, 124, 125, 126, 21, 127, 66, 128, 129, 130, 131, 132, 133, 134, 135, 68, 136, 137, 138, 139, 140, 141, 142, 143, 144, 145, 64, 146, 84, 9, 85, 147, 148, 149, 150, 57, 28, 73, 74, 75, 76, 27, 158, 159, 160, 161, 162, 163, 164, 165, 166, 167, 168, 169, 170] (by decide +kernel) (by decide +kernel)) (goodIn_sub (fun _ h => List.mem_cons_of_mem _ (List.mem_append_left _ (List.mem_append_right _ h))) (by decide +kernel))) (goodIn_sub (fun _ h => List.mem_cons_of_mem _ (List.mem_append_right _ h)) (by decide +kernel))
set_option maxRecDepth 20000 in
theorem gX7_longestRun_X6_longestFrom : GoodIn wsX7_longestRun (wsV RX7 299 RX6 yX6_longestFrom wsX6_longestFrom) := goodIn_app (goodIn_of _ (by decide +kernel)) ggX7_longestRun_X6_longestFrom
theorem dX7_longestRun_26 : decode cX7_longestRun 26 = .ok (.istore_n 1, 1) := by decide +kernel
theorem dX7_longestRun_27 : decode cX7_longestRun 27 = .ok (.iload_n 1, 1) := by decide +kernel
theorem dX7_longestRun_28 : decode cX7_longestRun 28 = .ok (.ifCond .ge 14, 3) := by decide +kernel
theorem dX7_longestRun_42 : decode cX7_longestRun 42 = .ok (.iload_n 1, 1) := by decide +kernel
theorem dX7_longestRun_43 : decode cX7_longestRun 43 = .ok (.ireturn, 1) := by decide +kernel
set_option maxHeartbeats 4000000 in
set_option maxRecDepth 100000 in
theorem k_X7_longestRun (l : Launch) (hl9 : l.stackTraces = false) (D : va_G) (cy : Nat → ClassId) (h1 : Nat) (h2 : Nat) (h3 : Nat) (x4 : Value) (h5 : Nat) (x6 : Value) (x7 : Value) (x8 : Value) (x9 : Value) (x10 : Value) (x11 : Value) (x12 : Value) (x13 : Value) (x14 : Value) (x15 : Value) (x16 : Value) (x17 : Value) (h18 : Nat) (h19 : Nat) (h20 : Nat) (h21 : Nat) (h22 : Nat) (h23 : Nat) (h24 : Nat) (g25 : Nat → Int32) (g26 : Nat → Int32) (kg26_0 : g26 0 = 0) (g27 : Nat → Int32) (kg27_0 : g27 0 = 0) (g28 : Nat → Int32) (kg28_0 : g28 0 = 0) (g29 : Nat → Int32) (kg29_0 : g29 0 = 0) (g30 : Nat → Int32) (kg30_0 : g30 0 = 0) (x31 : Value) (x32 : Value) (x33 : Value) (sz : Nat) : Met l yX7_longestRun wsX7_longestRun ({ frames := 3, cells := 0, slots := 0, locals := 69 }) (kWX D cy [.ref h1] [(h1, .inr (9, [.ref h2, .ref h3, x4, .ref h5, x6, x7, x8])), (h2, .inr (2, [x9, x10, x11, .int 0])), (h3, .inr (5, [x12, x13, .int 0])), (h5, .inr (8, [x14, x15, x16, x17, .ref h18, .ref h19, .ref h20, .ref h21, .ref h22, .ref h23, .ref h24, .int 0, .int 0])), (h18, .inl (cy 1, 1000, .inl g25)), (h19, .inl (cy 1, 1000, .inl g26)), (h20, .inl (cy 1, 1000, .inl g27)), (h21, .inl (cy 1, 1000, .inl g28)), (h22, .inl (cy 1, 1000, .inl g29)), (h23, .inl (cy 1, 1000, .inl g30)), (h24, .inr (5, [x31, x32, x33]))] sz) (va_Qi (fun (r : Int32) (_ : Unit) => r = 0 ∧ True) (fun (_ : Unit) (t : State) => va_P D vwCl [(h1, .inr (9, [.ref h2, .ref h3, x4, .ref h5, x6, x7, x8])), (h2, .inr (2, [x9, x10, x11, .int 0])), (h3, .inr (5, [x12, x13, .int 0])), (h5, .inr (8, [x14, x15, x16, x17, .ref h18, .ref h19, .ref h20, .ref h21, .ref h22, .ref h23, .ref h24, .int 1, .int 1])), (h18, .inl (cy 1, 1000, .inl (upd g25 0 0))), (h19, .inl (cy 1, 1000, .inl (upd g26 0 0))), (h20, .inl (cy 1, 1000, .inl (upd (upd g27 0 0) 0 2))), (h21, .inl (cy 1, 1000, .inl (upd g28 0 0))), (h22, .inl (cy 1, 1000, .inl (upd g29 0 30))), (h23, .inl (cy 1, 1000, .inl (upd g30 0 0))), (h24, .inr (5, [x31, x32, .int 0]))] t.heap ∧ va_D (va_A [(h1, .inr (9, [.ref h2, .ref h3, x4, .ref h5, x6, x7, x8])), (h2, .inr (2, [x9, x10, x11, .int 0])), (h3, .inr (5, [x12, x13, .int 0])), (h5, .inr (8, [x14, x15, x16, x17, .ref h18, .ref h19, .ref h20, .ref h21, .ref h22, .ref h23, .ref h24, .int 0, .int 0])), (h18, .inl (cy 1, 1000, .inl g25)), (h19, .inl (cy 1, 1000, .inl g26)), (h20, .inl (cy 1, 1000, .inl g27)), (h21, .inl (cy 1, 1000, .inl g28)), (h22, .inl (cy 1, 1000, .inl g29)), (h23, .inl (cy 1, 1000, .inl g30)), (h24, .inr (5, [x31, x32, x33]))] sz) [(h1, .inr (9, [.ref h2, .ref h3, x4, .ref h5, x6, x7, x8])), (h2, .inr (2, [x9, x10, x11, .int 0])), (h3, .inr (5, [x12, x13, .int 0])), (h5, .inr (8, [x14, x15, x16, x17, .ref h18, .ref h19, .ref h20, .ref h21, .ref h22, .ref h23, .ref h24, .int 1, .int 1])), (h18, .inl (cy 1, 1000, .inl (upd g25 0 0))), (h19, .inl (cy 1, 1000, .inl (upd g26 0 0))), (h20, .inl (cy 1, 1000, .inl (upd (upd g27 0 0) 0 2))), (h21, .inl (cy 1, 1000, .inl (upd g28 0 0))), (h22, .inl (cy 1, 1000, .inl (upd g29 0 30))), (h23, .inl (cy 1, 1000, .inl (upd g30 0 0))), (h24, .inr (5, [x31, x32, .int 0]))]) (va_A [(h1, .inr (9, [.ref h2, .ref h3, x4, .ref h5, x6, x7, x8])), (h2, .inr (2, [x9, x10, x11, .int 0])), (h3, .inr (5, [x12, x13, .int 0])), (h5, .inr (8, [x14, x15, x16, x17, .ref h18, .ref h19, .ref h20, .ref h21, .ref h22, .ref h23, .ref h24, .int 0, .int 0])), (h18, .inl (cy 1, 1000, .inl g25)), (h19, .inl (cy 1, 1000, .inl g26)), (h20, .inl (cy 1, 1000, .inl g27)), (h21, .inl (cy 1, 1000, .inl g28)), (h22, .inl (cy 1, 1000, .inl g29)), (h23, .inl (cy 1, 1000, .inl g30)), (h24, .inr (5, [x31, x32, x33]))] sz)) 0 0 (va_A [(h1, .inr (9, [.ref h2, .ref h3, x4, .ref h5, x6, x7, x8])), (h2, .inr (2, [x9, x10, x11, .int 0])), (h3, .inr (5, [x12, x13, .int 0])), (h5, .inr (8, [x14, x15, x16, x17, .ref h18, .ref h19, .ref h20, .ref h21, .ref h22, .ref h23, .ref h24, .int 0, .int 0])), (h18, .inl (cy 1, 1000, .inl g25)), (h19, .inl (cy 1, 1000, .inl g26)), (h20, .inl (cy 1, 1000, .inl g27)), (h21, .inl (cy 1, 1000, .inl g28)), (h22, .inl (cy 1, 1000, .inl g29)), (h23, .inl (cy 1, 1000, .inl g30)), (h24, .inr (5, [x31, x32, x33]))] sz) := by
  refine Met.ofW (cc := cX7_longestRun) (maxL := 2) (ret := (some .int)) (by decide) rfl ?_
  intro p e s m args below meth c s₁ B hml hv
  obtain ⟨rfl, hsz, hP, hK, hD0, hE⟩ := hv
  have hx := B.exec
  have hb := B.bytes
  have hr := B.returns
  have hts := atoms_spec (ws := wsX7_longestRun) B.pre
  have hown : s.vm.findClass RX7 = some m.cls := findClass_of_methodNamed B.named
  have hlocks := B.notSynchronized
  subst hsz
  have hD := hD0.self (sz := s.heap.size)
  generalize hAe : va_A [(h1, .inr (9, [.ref h2, .ref h3, x4, .ref h5, x6, x7, x8])), (h2, .inr (2, [x9, x10, x11, .int 0])), (h3, .inr (5, [x12, x13, .int 0])), (h5, .inr (8, [x14, x15, x16, x17, .ref h18, .ref h19, .ref h20, .ref h21, .ref h22, .ref h23, .ref h24, .int 0, .int 0])), (h18, .inl (cy 1, 1000, .inl g25)), (h19, .inl (cy 1, 1000, .inl g26)), (h20, .inl (cy 1, 1000, .inl g27)), (h21, .inl (cy 1, 1000, .inl g28)), (h22, .inl (cy 1, 1000, .inl g29)), (h23, .inl (cy 1, 1000, .inl g30)), (h24, .inr (5, [x31, x32, x33]))] s.heap.size = A at hD hE ⊢
  have hA : ∀ q : Nat, s.heap.size ≤ q → A q := fun q h => by rw [← hAe]; exact Or.inr h
  have hS : va_S A s.heap s.heap [] := va_S.rf
  have hP : va_P D vwCl [(h1, .inr (9, [.ref h2, .ref h3, x4, .ref h5, x6, x7, x8])), (h2, .inr (2, [x9, x10, x11, .int 0])), (h3, .inr (5, [x12, x13, .int 0])), (h5, .inr (8, [x14, x15, x16, x17, .ref h18, .ref h19, .ref h20, .ref h21, .ref h22, .ref h23, .ref h24, .int 0, .int 0])), (h18, .inl (cy 1, 1000, .inl g25)), (h19, .inl (cy 1, 1000, .inl g26)), (h20, .inl (cy 1, 1000, .inl g27)), (h21, .inl (cy 1, 1000, .inl g28)), (h22, .inl (cy 1, 1000, .inl g29)), (h23, .inl (cy 1, 1000, .inl g30)), (h24, .inr (5, [x31, x32, x33]))] s.heap := hP
  have hl := lv_entry ([.ref h1]) (n := 2) (Nat.le_of_ble_eq_true rfl)
  rw [lg_entry_eq]
  generalize (lg_sl ([.ref h1]) ++ List.replicate (2 - (lg_sl ([.ref h1])).length) Slot.unset).toArray = ls at hl ⊢
  have hl : lv_has ls 2 [(0, .ref h1)] := hl
  refine lv_aload_n hx hb dX7_longestRun_0 rfl (lv_at hl 0 rfl) ?_
  have hPc := hP.sub (ws' := [(h1, .inr (9, [.ref h2, .ref h3, x4, .ref h5, x6, x7, x8])), (h2, .inr (2, [x9, x10, x11, .int 0])), (h3, .inr (5, [x12, x13, .int 0])), (h5, .inr (8, [x14, x15, x16, x17, .ref h18, .ref h19, .ref h20, .ref h21, .ref h22, .ref h23, .ref h24, .int 0, .int 0])), (h18, .inl (cy 1, 1000, .inl g25)), (h19, .inl (cy 1, 1000, .inl g26)), (h24, .inr (5, [x31, x32, x33]))]) [0, 1, 2, 3, 4, 5, 10] rfl
  have hDc := hD.sub (ws' := [(h1, .inr (9, [.ref h2, .ref h3, x4, .ref h5, x6, x7, x8])), (h2, .inr (2, [x9, x10, x11, .int 0])), (h3, .inr (5, [x12, x13, .int 0])), (h5, .inr (8, [x14, x15, x16, x17, .ref h18, .ref h19, .ref h20, .ref h21, .ref h22, .ref h23, .ref h24, .int 0, .int 0])), (h18, .inl (cy 1, 1000, .inl g25)), (h19, .inl (cy 1, 1000, .inl g26)), (h24, .inr (5, [x31, x32, x33]))]) [0, 1, 2, 3, 4, 5, 10] (by decide) rfl
  have hFc := va_free (wc := [(h1, .inr (9, [.ref h2, .ref h3, x4, .ref h5, x6, x7, x8])), (h2, .inr (2, [x9, x10, x11, .int 0])), (h3, .inr (5, [x12, x13, .int 0])), (h5, .inr (8, [x14, x15, x16, x17, .ref h18, .ref h19, .ref h20, .ref h21, .ref h22, .ref h23, .ref h24, .int 0, .int 0])), (h18, .inl (cy 1, 1000, .inl g25)), (h19, .inl (cy 1, 1000, .inl g26)), (h24, .inr (5, [x31, x32, x33]))]) hD hS hA [0, 1, 2, 3, 4, 5, 10] rfl
  refine va_callv (va_runV (As := []) (rest := []) ⟨hx, hb, hml, hown, hts⟩ (k_X7_lookAtPlays l D cy h1 h2 h3 (x4) h5 (x6) (x7) (x8) (x9) (x10) (x11) (x12) (x13) (x14) (x15) (x16) (x17) h18 h19 (.ref h20) (.ref h21) (.ref h22) (.ref h23) h24 g25 g26 (x31) (x32) (x33) s.heap.size) (cwV 0 hts gX7_longestRun_X7_lookAtPlays rfl rfl rfl (by decide +kernel) ⟨(Nat.le_of_ble_eq_true rfl), (Nat.le_of_ble_eq_true rfl)⟩) ⟨kW_fb, va_recv hK hP (ci := 9) (q0 := 0) rfl rfl, (kW_go hPc hK hDc)⟩ rfl rfl hl.1 rfl (lv_room (Nat.le_of_ble_eq_true rfl)) dX7_longestRun_1 ⟨(Nat.le_of_ble_eq_true rfl), (Nat.le_of_ble_eq_true rfl)⟩) hS (fun q _ h => hFc q h) hFc (fun u t H locs ht hvm hw hB hz1 hk1 hS => ?_)
  obtain ⟨hP1, hD1⟩ := hB
  rw [ht] at hP1
  try dsimp only at hw hP1 hD1
  obtain ⟨hP, hD⟩ := va_join (wr := [(h20, .inl (cy 1, 1000, .inl g27)), (h21, .inl (cy 1, 1000, .inl g28)), (h22, .inl (cy 1, 1000, .inl g29)), (h23, .inl (cy 1, 1000, .inl g30))]) (w1 := [(h1, .inr (9, [.ref h2, .ref h3, x4, .ref h5, x6, x7, x8])), (h2, .inr (2, [x9, x10, x11, .int 0])), (h3, .inr (5, [x12, x13, .int 0])), (h5, .inr (8, [x14, x15, x16, x17, .ref h18, .ref h19, .ref h20, .ref h21, .ref h22, .ref h23, .ref h24, .int 1, .int 1])), (h18, .inl (cy 1, 1000, .inl (upd g25 0 0))), (h19, .inl (cy 1, 1000, .inl (upd g26 0 0))), (h24, .inr (5, [x31, x32, .int 0]))]) hP hD [0, 1, 2, 3, 4, 5, 10] [6, 7, 8, 9] rfl rfl (by decide) (by decide) hk1 hFc hP1 hD1
  have hP : va_P D vwCl [(h20, .inl (cy 1, 1000, .inl g27)), (h21, .inl (cy 1, 1000, .inl g28)), (h22, .inl (cy 1, 1000, .inl g29)), (h23, .inl (cy 1, 1000, .inl g30)), (h1, .inr (9, [.ref h2, .ref h3, x4, .ref h5, x6, x7, x8])), (h2, .inr (2, [x9, x10, x11, .int 0])), (h3, .inr (5, [x12, x13, .int 0])), (h5, .inr (8, [x14, x15, x16, x17, .ref h18, .ref h19, .ref h20, .ref h21, .ref h22, .ref h23, .ref h24, .int 1, .int 1])), (h18, .inl (cy 1, 1000, .inl (upd g25 0 0))), (h19, .inl (cy 1, 1000, .inl (upd g26 0 0))), (h24, .inr (5, [x31, x32, .int 0]))] H := hP
  have hD : va_D A [(h20, .inl (cy 1, 1000, .inl g27)), (h21, .inl (cy 1, 1000, .inl g28)), (h22, .inl (cy 1, 1000, .inl g29)), (h23, .inl (cy 1, 1000, .inl g30)), (h1, .inr (9, [.ref h2, .ref h3, x4, .ref h5, x6, x7, x8])), (h2, .inr (2, [x9, x10, x11, .int 0])), (h3, .inr (5, [x12, x13, .int 0])), (h5, .inr (8, [x14, x15, x16, x17, .ref h18, .ref h19, .ref h20, .ref h21, .ref h22, .ref h23, .ref h24, .int 1, .int 1])), (h18, .inl (cy 1, 1000, .inl (upd g25 0 0))), (h19, .inl (cy 1, 1000, .inl (upd g26 0 0))), (h24, .inr (5, [x31, x32, .int 0]))] := hD
  refine lv_aload_n hx hb dX7_longestRun_4 rfl (lv_at hl 0 rfl) ?_
  refine va_get (D := D) (ci := 9) (v := .ref h5) (C := RX7) (T := TX7) (N := 7) hx hb hts (fun _ h => (List.mem_cons_of_mem _ (List.mem_append_left _ (List.mem_append_left _ (List.mem_append_left _ (List.mem_append_left _ (List.mem_append_left _ (List.mem_append_left _ (List.mem_append_left _ (List.mem_append_left _ (List.mem_append_left _ (List.mem_append_right _ h)))))))))))) hown hK hP 4 rfl rfl 3 (by decide) (hts (.fieldLink RX7 29 "SelfishJunction" "survey" "LSelfishJunction$Survey;") (List.mem_cons_of_mem _ (List.mem_append_left _ (List.mem_append_left _ (List.mem_append_left _ (List.mem_append_left _ (List.mem_append_left _ (List.mem_append_left _ (List.mem_append_left _ (List.mem_append_left _ (List.mem_append_left _ (List.mem_append_left _ (List.mem_append_left _ (List.mem_of_getElem? (i := 2) rfl)))))))))))))) (fun _ h9 => h9) rfl dX7_longestRun_5 ?_
  refine lv_aload_n hx hb dX7_longestRun_8 rfl (lv_at hl 0 rfl) ?_
  refine va_get (D := D) (ci := 9) (v := .ref h5) (C := RX7) (T := TX7) (N := 7) hx hb hts (fun _ h => (List.mem_cons_of_mem _ (List.mem_append_left _ (List.mem_append_left _ (List.mem_append_left _ (List.mem_append_left _ (List.mem_append_left _ (List.mem_append_left _ (List.mem_append_left _ (List.mem_append_left _ (List.mem_append_left _ (List.mem_append_right _ h)))))))))))) hown hK hP 4 rfl rfl 3 (by decide) (hts (.fieldLink RX7 29 "SelfishJunction" "survey" "LSelfishJunction$Survey;") (List.mem_cons_of_mem _ (List.mem_append_left _ (List.mem_append_left _ (List.mem_append_left _ (List.mem_append_left _ (List.mem_append_left _ (List.mem_append_left _ (List.mem_append_left _ (List.mem_append_left _ (List.mem_append_left _ (List.mem_append_left _ (List.mem_append_left _ (List.mem_of_getElem? (i := 2) rfl)))))))))))))) (fun _ h9 => h9) rfl dX7_longestRun_9 ?_
  refine lv_aload_n hx hb dX7_longestRun_12 rfl (lv_at hl 0 rfl) ?_
  refine va_get (D := D) (ci := 9) (v := .ref h2) (C := RX7) (T := TX7) (N := 7) hx hb hts (fun _ h => (List.mem_cons_of_mem _ (List.mem_append_left _ (List.mem_append_left _ (List.mem_append_left _ (List.mem_append_left _ (List.mem_append_left _ (List.mem_append_left _ (List.mem_append_left _ (List.mem_append_left _ (List.mem_append_left _ (List.mem_append_right _ h)))))))))))) hown hK hP 4 rfl rfl 0 (by decide) (hts (.fieldLink RX7 10 "SelfishJunction" "board" "LSelfishJunction$Board;") (List.mem_cons_of_mem _ (List.mem_append_left _ (List.mem_append_left _ (List.mem_append_left _ (List.mem_append_left _ (List.mem_append_left _ (List.mem_append_left _ (List.mem_append_left _ (List.mem_append_left _ (List.mem_append_left _ (List.mem_append_left _ (List.mem_append_left _ (List.mem_of_getElem? (i := 3) rfl)))))))))))))) (fun _ h9 => h9) rfl dX7_longestRun_13 ?_
  refine lv_aload_n hx hb dX7_longestRun_16 rfl (lv_at hl 0 rfl) ?_
  refine va_get (D := D) (ci := 9) (v := .ref h3) (C := RX7) (T := TX7) (N := 7) hx hb hts (fun _ h => (List.mem_cons_of_mem _ (List.mem_append_left _ (List.mem_append_left _ (List.mem_append_left _ (List.mem_append_left _ (List.mem_append_left _ (List.mem_append_left _ (List.mem_append_left _ (List.mem_append_left _ (List.mem_append_left _ (List.mem_append_right _ h)))))))))))) hown hK hP 4 rfl rfl 1 (by decide) (hts (.fieldLink RX7 19 "SelfishJunction" "now" "LSelfishJunction$Play;") (List.mem_cons_of_mem _ (List.mem_append_left _ (List.mem_append_left _ (List.mem_append_left _ (List.mem_append_left _ (List.mem_append_left _ (List.mem_append_left _ (List.mem_append_left _ (List.mem_append_left _ (List.mem_append_left _ (List.mem_append_left _ (List.mem_append_left _ (List.mem_of_getElem? (i := 4) rfl)))))))))))))) (fun _ h9 => h9) rfl dX7_longestRun_17 ?_
  have hPc := hP.sub (ws' := [(h2, .inr (2, [x9, x10, x11, .int 0]))]) [5] rfl
  refine va_calli (va_runV (As := [.ref h2, .ref h3]) (rest := [.ref h5]) ⟨hx, hb, hml, hown, hts⟩ (k_X6_indexOf l D cy h5 h2 h3 (x9) (x10) (x11)) (cwV 2 hts gX7_longestRun_X6_indexOf rfl rfl rfl (by decide +kernel) ⟨(Nat.le_of_ble_eq_true rfl), (Nat.le_of_ble_eq_true rfl)⟩) ⟨kR_fb, va_recv hK hP (ci := 8) (q0 := 7) rfl rfl, (kR_go hPc hK)⟩ rfl rfl hl.1 rfl (lv_room (Nat.le_of_ble_eq_true rfl)) dX7_longestRun_20 ⟨(Nat.le_of_ble_eq_true rfl), (Nat.le_of_ble_eq_true rfl)⟩) hS (fun _ _ h => h.elim) (fun _ h => h.elim) (fun r9 u t H locs ht hvm hw hB hz1 hk1 hS => ?_)
  have hP := kx_kept hP hk1
  obtain ⟨rfl, hw⟩ := hw
  have hPc := hP.sub (ws' := [(h5, .inr (8, [x14, x15, x16, x17, .ref h18, .ref h19, .ref h20, .ref h21, .ref h22, .ref h23, .ref h24, .int 1, .int 1])), (h19, .inl (cy 1, 1000, .inl (upd g26 0 0))), (h20, .inl (cy 1, 1000, .inl g27)), (h21, .inl (cy 1, 1000, .inl g28)), (h22, .inl (cy 1, 1000, .inl g29)), (h23, .inl (cy 1, 1000, .inl g30))]) [7, 9, 0, 1, 2, 3] rfl
  have hDc := hD.sub (ws' := [(h5, .inr (8, [x14, x15, x16, x17, .ref h18, .ref h19, .ref h20, .ref h21, .ref h22, .ref h23, .ref h24, .int 1, .int 1])), (h19, .inl (cy 1, 1000, .inl (upd g26 0 0))), (h20, .inl (cy 1, 1000, .inl g27)), (h21, .inl (cy 1, 1000, .inl g28)), (h22, .inl (cy 1, 1000, .inl g29)), (h23, .inl (cy 1, 1000, .inl g30))]) [7, 9, 0, 1, 2, 3] (by decide) rfl
  have hFc := va_free (wc := [(h5, .inr (8, [x14, x15, x16, x17, .ref h18, .ref h19, .ref h20, .ref h21, .ref h22, .ref h23, .ref h24, .int 1, .int 1])), (h19, .inl (cy 1, 1000, .inl (upd g26 0 0))), (h20, .inl (cy 1, 1000, .inl g27)), (h21, .inl (cy 1, 1000, .inl g28)), (h22, .inl (cy 1, 1000, .inl g29)), (h23, .inl (cy 1, 1000, .inl g30))]) hD hS hA [7, 9, 0, 1, 2, 3] rfl
  refine va_calli (va_runV (As := [.int 0]) (rest := []) ⟨hx, hb, hml, hown, hts⟩ (k_X6_longestFrom l hl9 D cy h5 (x14) (x15) (x16) (x17) (.ref h18) h19 h20 h21 h22 h23 (.ref h24) (.int 1) (upd g26 0 0) (rfl) g27 (kg27_0) g28 (kg28_0) g29 (kg29_0) g30 (kg30_0) H.size) (cwV 1 hts gX7_longestRun_X6_longestFrom rfl rfl rfl (by decide +kernel) ⟨(Nat.le_of_ble_eq_true rfl), (Nat.le_of_ble_eq_true rfl)⟩) ⟨kWX_fb, va_recv hK hP (ci := 8) (q0 := 7) rfl rfl, (kWX_go hPc hK hDc hFc hE hS)⟩ rfl rfl hl.1 rfl (lv_room (Nat.le_of_ble_eq_true rfl)) dX7_longestRun_23 ⟨(Nat.le_of_ble_eq_true rfl), (Nat.le_of_ble_eq_true rfl)⟩) hS (fun q _ h => hFc q h) hFc (fun r9 u t H locs ht hvm hw hB hz1 hk1 hS => ?_)
  obtain ⟨hP1, hD1⟩ := hB
  rw [ht] at hP1
  try dsimp only at hw hP1 hD1
  obtain ⟨hP, hD⟩ := va_join (wr := [(h1, .inr (9, [.ref h2, .ref h3, x4, .ref h5, x6, x7, x8])), (h2, .inr (2, [x9, x10, x11, .int 0])), (h3, .inr (5, [x12, x13, .int 0])), (h18, .inl (cy 1, 1000, .inl (upd g25 0 0))), (h24, .inr (5, [x31, x32, .int 0]))]) (w1 := [(h5, .inr (8, [x14, x15, x16, x17, .ref h18, .ref h19, .ref h20, .ref h21, .ref h22, .ref h23, .ref h24, .int 1, .int 1])), (h19, .inl (cy 1, 1000, .inl (upd g26 0 0))), (h20, .inl (cy 1, 1000, .inl (upd (upd g27 0 0) 0 2))), (h21, .inl (cy 1, 1000, .inl (upd g28 0 0))), (h22, .inl (cy 1, 1000, .inl (upd g29 0 30))), (h23, .inl (cy 1, 1000, .inl (upd g30 0 0)))]) hP hD [7, 9, 0, 1, 2, 3] [4, 5, 6, 8, 10] rfl rfl (by decide) (by decide) hk1 hFc hP1 hD1
  have hP : va_P D vwCl [(h1, .inr (9, [.ref h2, .ref h3, x4, .ref h5, x6, x7, x8])), (h2, .inr (2, [x9, x10, x11, .int 0])), (h3, .inr (5, [x12, x13, .int 0])), (h18, .inl (cy 1, 1000, .inl (upd g25 0 0))), (h24, .inr (5, [x31, x32, .int 0])), (h5, .inr (8, [x14, x15, x16, x17, .ref h18, .ref h19, .ref h20, .ref h21, .ref h22, .ref h23, .ref h24, .int 1, .int 1])), (h19, .inl (cy 1, 1000, .inl (upd g26 0 0))), (h20, .inl (cy 1, 1000, .inl (upd (upd g27 0 0) 0 2))), (h21, .inl (cy 1, 1000, .inl (upd g28 0 0))), (h22, .inl (cy 1, 1000, .inl (upd g29 0 30))), (h23, .inl (cy 1, 1000, .inl (upd g30 0 0)))] H := hP
  have hD : va_D A [(h1, .inr (9, [.ref h2, .ref h3, x4, .ref h5, x6, x7, x8])), (h2, .inr (2, [x9, x10, x11, .int 0])), (h3, .inr (5, [x12, x13, .int 0])), (h18, .inl (cy 1, 1000, .inl (upd g25 0 0))), (h24, .inr (5, [x31, x32, .int 0])), (h5, .inr (8, [x14, x15, x16, x17, .ref h18, .ref h19, .ref h20, .ref h21, .ref h22, .ref h23, .ref h24, .int 1, .int 1])), (h19, .inl (cy 1, 1000, .inl (upd g26 0 0))), (h20, .inl (cy 1, 1000, .inl (upd (upd g27 0 0) 0 2))), (h21, .inl (cy 1, 1000, .inl (upd g28 0 0))), (h22, .inl (cy 1, 1000, .inl (upd g29 0 30))), (h23, .inl (cy 1, 1000, .inl (upd g30 0 0)))] := hD
  obtain ⟨rfl, hw⟩ := hw
  refine lv_istore_n (lv' := [(1, .int 0), (0, .ref h1)]) hx hb dX7_longestRun_26 rfl hl (by decide) rfl (fun ls hl => ?_)
  refine lv_iload_n hx hb dX7_longestRun_27 rfl (lv_at hl 0 rfl) ?_
  refine lv_if_ge (tgt := 42) hx hb dX7_longestRun_28 (by decide) (fun _ => ?_) (fun h => absurd (by decide) h)
  refine lv_iload_n hx hb dX7_longestRun_42 rfl (lv_at hl 0 rfl) ?_
  refine W.widen (k := 0) (n := 0) (Nat.le_of_ble_eq_true rfl) (Nat.le_of_ble_eq_true rfl) ?_
  have hP9 := hP.sub (ws' := [(h1, .inr (9, [.ref h2, .ref h3, x4, .ref h5, x6, x7, x8])), (h2, .inr (2, [x9, x10, x11, .int 0])), (h3, .inr (5, [x12, x13, .int 0])), (h5, .inr (8, [x14, x15, x16, x17, .ref h18, .ref h19, .ref h20, .ref h21, .ref h22, .ref h23, .ref h24, .int 1, .int 1])), (h18, .inl (cy 1, 1000, .inl (upd g25 0 0))), (h19, .inl (cy 1, 1000, .inl (upd g26 0 0))), (h20, .inl (cy 1, 1000, .inl (upd (upd g27 0 0) 0 2))), (h21, .inl (cy 1, 1000, .inl (upd g28 0 0))), (h22, .inl (cy 1, 1000, .inl (upd g29 0 30))), (h23, .inl (cy 1, 1000, .inl (upd g30 0 0))), (h24, .inr (5, [x31, x32, .int 0]))]) [0, 1, 2, 5, 3, 6, 7, 8, 9, 10, 4] rfl
  have hD9 := hD.sub (ws' := [(h1, .inr (9, [.ref h2, .ref h3, x4, .ref h5, x6, x7, x8])), (h2, .inr (2, [x9, x10, x11, .int 0])), (h3, .inr (5, [x12, x13, .int 0])), (h5, .inr (8, [x14, x15, x16, x17, .ref h18, .ref h19, .ref h20, .ref h21, .ref h22, .ref h23, .ref h24, .int 1, .int 1])), (h18, .inl (cy 1, 1000, .inl (upd g25 0 0))), (h19, .inl (cy 1, 1000, .inl (upd g26 0 0))), (h20, .inl (cy 1, 1000, .inl (upd (upd g27 0 0) 0 2))), (h21, .inl (cy 1, 1000, .inl (upd g28 0 0))), (h22, .inl (cy 1, 1000, .inl (upd g29 0 30))), (h23, .inl (cy 1, 1000, .inl (upd g30 0 0))), (h24, .inr (5, [x31, x32, .int 0]))]) [0, 1, 2, 5, 3, 6, 7, 8, 9, 10, 4] (by decide) rfl
  exact W.iret (v := 0) hx hb hr (fun t ht hW => ⟨⟨0, (), rfl, ⟨rfl, trivial⟩, ⟨by rw [ht]; exact hP9, hD9⟩⟩, hS.F ht⟩) hS.2.2 dX7_longestRun_43
theorem dL_longestRun_0 : decode cL_longestRun 0 = .ok (.aload_n 1, 1) := by decide +kernel
theorem dL_longestRun_1 : decode cL_longestRun 1 = .ok (.iconst 0, 1) := by decide +kernel
theorem dL_longestRun_2 : decode cL_longestRun 2 = .ok (.aload_n 0, 1) := by decide +kernel
theorem dL_longestRun_3 : decode cL_longestRun 3 = .ok (.invokevirtual 109, 3) := by decide +kernel
set_option maxRecDepth 20000 in
theorem ggL_longestRun_X7_longestRun : GoodIn wsL_longestRun wsX7_longestRun := goodIn_ca (goodIn_ca (goodIn_ca (goodIn_ca (goodIn_r _ [7, 8, 9, 10, 11, 12, 13, 14, 15, 6, 16, 17, 18, 19, 20, 21, 22, 23, 24, 25, 26, 27, 28, 29, 30, 31, 32, 33, 34, 35, 36, 37, 38, 39, 40, 41, 42, 43, 44, 45, 46, 47, 48, 49, 50, 51, 52, 53, 54, 55, 56, 57, 58, 59, 60, 61, 62, 63, 64, 65, 66, 67, 68, 69, 70, 71, 72, 73, 74, 75, 76, 77, 78, 79, 80, 81, 82, 83, 84, 85, 86, 87, 88, 89, 90, 91, 92, 93, 94, 95, 96, 97, 98, 99, 100, 101, 102, 103, 104, 105, 106, 107, 108, 109, 110, 111, 112, 113, 114, 115, 116, 117, 118, 119, 120, 121, 122, 123, 124, 125, 126, 127, 128, 129, 130, 131, 132, 133, 134, 135, 136, 137, 138, 139, 140, 141, 142, 143, 144, 145, 146, 147, 148, 149, 150, 151, 152, 153, 154, 155, 156, 157, 158, 159, 160, 161, 162, 163, 164, 165, 166, 167, 168, 169, 170, 171, 172, 173, 174, 175, 176, 177, 178, 179, 180, 181, 182, 183, 184, 185, 186, 187, 188, 189, 190, 191, 192, 193, 194, 195, 196] (by decide +kernel) (by decide +kernel)) (goodIn_sub (fun _ h => List.mem_cons_of_mem _ (List.mem_append_left _ (List.mem_append_left _ (List.mem_append_right _ h)))) (by decide +kernel))) (goodIn_sub (fun _ h => List.mem_cons_of_mem _ (List.mem_append_left _ (List.mem_append_right _ h))) (by decide +kernel))) (goodIn_sub (fun _ h => List.mem_cons_of_mem _ (List.mem_append_left _ (List.mem_append_left _ (List.mem_append_left _ (List.mem_append_right _ h))))) (by decide +kernel))) (goodIn_sub (fun _ h => List.mem_cons_of_mem _ (List.mem_append_right _ h)) (by decide +kernel))
set_option maxRecDepth 20000 in
theorem gL_longestRun_X7_longestRun : GoodIn wsL_longestRun (wsV RL 109 RX7 yX7_longestRun wsX7_longestRun) := goodIn_app (goodIn_of _ (by decide +kernel)) ggL_longestRun_X7_longestRun
theorem dL_longestRun_6 : decode cL_longestRun 6 = .ok (.i2l, 1) := by decide +kernel
theorem dL_longestRun_7 : decode cL_longestRun 7 = .ok (.lastore, 1) := by decide +kernel
theorem dL_longestRun_8 : decode cL_longestRun 8 = .ok (.goto 9, 3) := by decide +kernel
theorem dL_longestRun_17 : decode cL_longestRun 17 = .ok (.iconst 0, 1) := by decide +kernel
theorem dL_longestRun_18 : decode cL_longestRun 18 = .ok (.ireturn, 1) := by decide +kernel
set_option maxHeartbeats 4000000 in
set_option maxRecDepth 100000 in
theorem k_L_longestRun (l : Launch) (hl9 : l.stackTraces = false) (D : va_G) (cy : Nat → ClassId) (h1 : Nat) (h2 : Nat) (h3 : Nat) (h4 : Nat) (x5 : Value) (h6 : Nat) (x7 : Value) (x8 : Value) (x9 : Value) (g10 : Nat → Int64) (x11 : Value) (x12 : Value) (x13 : Value) (x14 : Value) (x15 : Value) (x16 : Value) (x17 : Value) (x18 : Value) (x19 : Value) (h20 : Nat) (h21 : Nat) (h22 : Nat) (h23 : Nat) (h24 : Nat) (h25 : Nat) (h26 : Nat) (g27 : Nat → Int32) (g28 : Nat → Int32) (kg28_0 : g28 0 = 0) (g29 : Nat → Int32) (kg29_0 : g29 0 = 0) (g30 : Nat → Int32) (kg30_0 : g30 0 = 0) (g31 : Nat → Int32) (kg31_0 : g31 0 = 0) (g32 : Nat → Int32) (kg32_0 : g32 0 = 0) (x33 : Value) (x34 : Value) (x35 : Value) (sz : Nat) : Met l yL_longestRun wsL_longestRun ({ frames := 4, cells := 0, slots := 0, locals := 90 }) (kWX D cy [.ref h1, .ref h2] [(h1, .inr (9, [.ref h3, .ref h4, x5, .ref h6, x7, x8, x9])), (h2, .inl (cy 2, 1, .inr (.inl g10))), (h3, .inr (2, [x11, x12, x13, .int 0])), (h4, .inr (5, [x14, x15, .int 0])), (h6, .inr (8, [x16, x17, x18, x19, .ref h20, .ref h21, .ref h22, .ref h23, .ref h24, .ref h25, .ref h26, .int 0, .int 0])), (h20, .inl (cy 1, 1000, .inl g27)), (h21, .inl (cy 1, 1000, .inl g28)), (h22, .inl (cy 1, 1000, .inl g29)), (h23, .inl (cy 1, 1000, .inl g30)), (h24, .inl (cy 1, 1000, .inl g31)), (h25, .inl (cy 1, 1000, .inl g32)), (h26, .inr (5, [x33, x34, x35]))] sz) (va_Qi (fun (r : Int32) (_ : Unit) => r = 0 ∧ True) (fun (_ : Unit) (t : State) => va_P D vwCl [(h2, .inl (cy 2, 1, .inr (.inl (vp_updL g10 0 0))))] t.heap ∧ va_D (va_A [(h1, .inr (9, [.ref h3, .ref h4, x5, .ref h6, x7, x8, x9])), (h2, .inl (cy 2, 1, .inr (.inl g10))), (h3, .inr (2, [x11, x12, x13, .int 0])), (h4, .inr (5, [x14, x15, .int 0])), (h6, .inr (8, [x16, x17, x18, x19, .ref h20, .ref h21, .ref h22, .ref h23, .ref h24, .ref h25, .ref h26, .int 0, .int 0])), (h20, .inl (cy 1, 1000, .inl g27)), (h21, .inl (cy 1, 1000, .inl g28)), (h22, .inl (cy 1, 1000, .inl g29)), (h23, .inl (cy 1, 1000, .inl g30)), (h24, .inl (cy 1, 1000, .inl g31)), (h25, .inl (cy 1, 1000, .inl g32)), (h26, .inr (5, [x33, x34, x35]))] sz) [(h2, .inl (cy 2, 1, .inr (.inl (vp_updL g10 0 0))))]) (va_A [(h1, .inr (9, [.ref h3, .ref h4, x5, .ref h6, x7, x8, x9])), (h2, .inl (cy 2, 1, .inr (.inl g10))), (h3, .inr (2, [x11, x12, x13, .int 0])), (h4, .inr (5, [x14, x15, .int 0])), (h6, .inr (8, [x16, x17, x18, x19, .ref h20, .ref h21, .ref h22, .ref h23, .ref h24, .ref h25, .ref h26, .int 0, .int 0])), (h20, .inl (cy 1, 1000, .inl g27)), (h21, .inl (cy 1, 1000, .inl g28)), (h22, .inl (cy 1, 1000, .inl g29)), (h23, .inl (cy 1, 1000, .inl g30)), (h24, .inl (cy 1, 1000, .inl g31)), (h25, .inl (cy 1, 1000, .inl g32)), (h26, .inr (5, [x33, x34, x35]))] sz)) 0 0 (va_A [(h1, .inr (9, [.ref h3, .ref h4, x5, .ref h6, x7, x8, x9])), (h2, .inl (cy 2, 1, .inr (.inl g10))), (h3, .inr (2, [x11, x12, x13, .int 0])), (h4, .inr (5, [x14, x15, .int 0])), (h6, .inr (8, [x16, x17, x18, x19, .ref h20, .ref h21, .ref h22, .ref h23, .ref h24, .ref h25, .ref h26, .int 0, .int 0])), (h20, .inl (cy 1, 1000, .inl g27)), (h21, .inl (cy 1, 1000, .inl g28)), (h22, .inl (cy 1, 1000, .inl g29)), (h23, .inl (cy 1, 1000, .inl g30)), (h24, .inl (cy 1, 1000, .inl g31)), (h25, .inl (cy 1, 1000, .inl g32)), (h26, .inr (5, [x33, x34, x35]))] sz) := by
  refine va_MetW (cc := cL_longestRun) (maxL := 3) (ret := (some .int)) (by decide) rfl ?_
  intro p e s m args below meth c s₁ B hml hv
  obtain ⟨rfl, hsz, hP, hK, hD0, hE⟩ := hv
  have hx := B.exec
  have hb := B.bytes
  have hr := B.returns
  have hts := atoms_spec (ws := wsL_longestRun) B.pre
  have hown : s.vm.findClass RL = some m.cls := findClass_of_methodNamed B.named
  have hlocks := B.notSynchronized
  have htb := vx_table (x := yL_longestRun) B (hts _ (List.mem_cons_self))
  subst hsz
  have hD := hD0.self (sz := s.heap.size)
  generalize hAe : va_A [(h1, .inr (9, [.ref h3, .ref h4, x5, .ref h6, x7, x8, x9])), (h2, .inl (cy 2, 1, .inr (.inl g10))), (h3, .inr (2, [x11, x12, x13, .int 0])), (h4, .inr (5, [x14, x15, .int 0])), (h6, .inr (8, [x16, x17, x18, x19, .ref h20, .ref h21, .ref h22, .ref h23, .ref h24, .ref h25, .ref h26, .int 0, .int 0])), (h20, .inl (cy 1, 1000, .inl g27)), (h21, .inl (cy 1, 1000, .inl g28)), (h22, .inl (cy 1, 1000, .inl g29)), (h23, .inl (cy 1, 1000, .inl g30)), (h24, .inl (cy 1, 1000, .inl g31)), (h25, .inl (cy 1, 1000, .inl g32)), (h26, .inr (5, [x33, x34, x35]))] s.heap.size = A at hD hE ⊢
  have hA : ∀ q : Nat, s.heap.size ≤ q → A q := fun q h => by rw [← hAe]; exact Or.inr h
  have hS : va_S A s.heap s.heap [] := va_S.rf
  have hP : va_P D vwCl [(h1, .inr (9, [.ref h3, .ref h4, x5, .ref h6, x7, x8, x9])), (h2, .inl (cy 2, 1, .inr (.inl g10))), (h3, .inr (2, [x11, x12, x13, .int 0])), (h4, .inr (5, [x14, x15, .int 0])), (h6, .inr (8, [x16, x17, x18, x19, .ref h20, .ref h21, .ref h22, .ref h23, .ref h24, .ref h25, .ref h26, .int 0, .int 0])), (h20, .inl (cy 1, 1000, .inl g27)), (h21, .inl (cy 1, 1000, .inl g28)), (h22, .inl (cy 1, 1000, .inl g29)), (h23, .inl (cy 1, 1000, .inl g30)), (h24, .inl (cy 1, 1000, .inl g31)), (h25, .inl (cy 1, 1000, .inl g32)), (h26, .inr (5, [x33, x34, x35]))] s.heap := hP
  have hl := lv_entry ([.ref h1, .ref h2]) (n := 3) (Nat.le_of_ble_eq_true rfl)
  rw [lg_entry_eq]
  generalize (lg_sl ([.ref h1, .ref h2]) ++ List.replicate (3 - (lg_sl ([.ref h1, .ref h2])).length) Slot.unset).toArray = ls at hl ⊢
  have hl : lv_has ls 3 [(0, .ref h1), (1, .ref h2)] := hl
  refine lv_aload_n hx hb dL_longestRun_0 rfl (lv_at hl 1 rfl) ?_
  refine lv_iconst (v := 0) hx hb dL_longestRun_1 (by decide) ?_
  refine lv_aload_n hx hb dL_longestRun_2 rfl (lv_at hl 0 rfl) ?_
  have hPc := hP.sub (ws' := [(h1, .inr (9, [.ref h3, .ref h4, x5, .ref h6, x7, x8, x9])), (h3, .inr (2, [x11, x12, x13, .int 0])), (h4, .inr (5, [x14, x15, .int 0])), (h6, .inr (8, [x16, x17, x18, x19, .ref h20, .ref h21, .ref h22, .ref h23, .ref h24, .ref h25, .ref h26, .int 0, .int 0])), (h20, .inl (cy 1, 1000, .inl g27)), (h21, .inl (cy 1, 1000, .inl g28)), (h22, .inl (cy 1, 1000, .inl g29)), (h23, .inl (cy 1, 1000, .inl g30)), (h24, .inl (cy 1, 1000, .inl g31)), (h25, .inl (cy 1, 1000, .inl g32)), (h26, .inr (5, [x33, x34, x35]))]) [0, 2, 3, 4, 5, 6, 7, 8, 9, 10, 11] rfl
  have hDc := hD.sub (ws' := [(h1, .inr (9, [.ref h3, .ref h4, x5, .ref h6, x7, x8, x9])), (h3, .inr (2, [x11, x12, x13, .int 0])), (h4, .inr (5, [x14, x15, .int 0])), (h6, .inr (8, [x16, x17, x18, x19, .ref h20, .ref h21, .ref h22, .ref h23, .ref h24, .ref h25, .ref h26, .int 0, .int 0])), (h20, .inl (cy 1, 1000, .inl g27)), (h21, .inl (cy 1, 1000, .inl g28)), (h22, .inl (cy 1, 1000, .inl g29)), (h23, .inl (cy 1, 1000, .inl g30)), (h24, .inl (cy 1, 1000, .inl g31)), (h25, .inl (cy 1, 1000, .inl g32)), (h26, .inr (5, [x33, x34, x35]))]) [0, 2, 3, 4, 5, 6, 7, 8, 9, 10, 11] (by decide) rfl
  have hFc := va_free (wc := [(h1, .inr (9, [.ref h3, .ref h4, x5, .ref h6, x7, x8, x9])), (h3, .inr (2, [x11, x12, x13, .int 0])), (h4, .inr (5, [x14, x15, .int 0])), (h6, .inr (8, [x16, x17, x18, x19, .ref h20, .ref h21, .ref h22, .ref h23, .ref h24, .ref h25, .ref h26, .int 0, .int 0])), (h20, .inl (cy 1, 1000, .inl g27)), (h21, .inl (cy 1, 1000, .inl g28)), (h22, .inl (cy 1, 1000, .inl g29)), (h23, .inl (cy 1, 1000, .inl g30)), (h24, .inl (cy 1, 1000, .inl g31)), (h25, .inl (cy 1, 1000, .inl g32)), (h26, .inr (5, [x33, x34, x35]))]) hD hS hA [0, 2, 3, 4, 5, 6, 7, 8, 9, 10, 11] rfl
  refine va_calli (va_runV (As := []) (rest := [.int 0, .ref h2]) ⟨hx, hb, hml, hown, hts⟩ (k_X7_longestRun l hl9 D cy h1 h3 h4 (x5) h6 (x7) (x8) (x9) (x11) (x12) (x13) (x14) (x15) (x16) (x17) (x18) (x19) h20 h21 h22 h23 h24 h25 h26 g27 g28 (kg28_0) g29 (kg29_0) g30 (kg30_0) g31 (kg31_0) g32 (kg32_0) (x33) (x34) (x35) s.heap.size) (cwV 0 hts gL_longestRun_X7_longestRun rfl rfl rfl (by decide +kernel) ⟨(Nat.le_of_ble_eq_true rfl), (Nat.le_of_ble_eq_true rfl)⟩) ⟨kWX_fb, va_recv hK hP (ci := 9) (q0 := 0) rfl rfl, (kWX_go hPc hK hDc hFc hE hS)⟩ rfl rfl hl.1 rfl (lv_room (Nat.le_of_ble_eq_true rfl)) dL_longestRun_3 ⟨(Nat.le_of_ble_eq_true rfl), (Nat.le_of_ble_eq_true rfl)⟩) hS (fun q _ h => hFc q h) hFc (fun r9 u t H locs ht hvm hw hB hz1 hk1 hS => ?_)
  obtain ⟨hP1, hD1⟩ := hB
  rw [ht] at hP1
  try dsimp only at hw hP1 hD1
  obtain ⟨hP, hD⟩ := va_join (wr := [(h2, .inl (cy 2, 1, .inr (.inl g10)))]) (w1 := [(h1, .inr (9, [.ref h3, .ref h4, x5, .ref h6, x7, x8, x9])), (h3, .inr (2, [x11, x12, x13, .int 0])), (h4, .inr (5, [x14, x15, .int 0])), (h6, .inr (8, [x16, x17, x18, x19, .ref h20, .ref h21, .ref h22, .ref h23, .ref h24, .ref h25, .ref h26, .int 1, .int 1])), (h20, .inl (cy 1, 1000, .inl (upd g27 0 0))), (h21, .inl (cy 1, 1000, .inl (upd g28 0 0))), (h22, .inl (cy 1, 1000, .inl (upd (upd g29 0 0) 0 2))), (h23, .inl (cy 1, 1000, .inl (upd g30 0 0))), (h24, .inl (cy 1, 1000, .inl (upd g31 0 30))), (h25, .inl (cy 1, 1000, .inl (upd g32 0 0))), (h26, .inr (5, [x33, x34, .int 0]))]) hP hD [0, 2, 3, 4, 5, 6, 7, 8, 9, 10, 11] [1] rfl rfl (by decide) (by decide) hk1 hFc hP1 hD1
  have hP : va_P D vwCl [(h2, .inl (cy 2, 1, .inr (.inl g10))), (h1, .inr (9, [.ref h3, .ref h4, x5, .ref h6, x7, x8, x9])), (h3, .inr (2, [x11, x12, x13, .int 0])), (h4, .inr (5, [x14, x15, .int 0])), (h6, .inr (8, [x16, x17, x18, x19, .ref h20, .ref h21, .ref h22, .ref h23, .ref h24, .ref h25, .ref h26, .int 1, .int 1])), (h20, .inl (cy 1, 1000, .inl (upd g27 0 0))), (h21, .inl (cy 1, 1000, .inl (upd g28 0 0))), (h22, .inl (cy 1, 1000, .inl (upd (upd g29 0 0) 0 2))), (h23, .inl (cy 1, 1000, .inl (upd g30 0 0))), (h24, .inl (cy 1, 1000, .inl (upd g31 0 30))), (h25, .inl (cy 1, 1000, .inl (upd g32 0 0))), (h26, .inr (5, [x33, x34, .int 0]))] H := hP
  have hD : va_D A [(h2, .inl (cy 2, 1, .inr (.inl g10))), (h1, .inr (9, [.ref h3, .ref h4, x5, .ref h6, x7, x8, x9])), (h3, .inr (2, [x11, x12, x13, .int 0])), (h4, .inr (5, [x14, x15, .int 0])), (h6, .inr (8, [x16, x17, x18, x19, .ref h20, .ref h21, .ref h22, .ref h23, .ref h24, .ref h25, .ref h26, .int 1, .int 1])), (h20, .inl (cy 1, 1000, .inl (upd g27 0 0))), (h21, .inl (cy 1, 1000, .inl (upd g28 0 0))), (h22, .inl (cy 1, 1000, .inl (upd (upd g29 0 0) 0 2))), (h23, .inl (cy 1, 1000, .inl (upd g30 0 0))), (h24, .inl (cy 1, 1000, .inl (upd g31 0 30))), (h25, .inl (cy 1, 1000, .inl (upd g32 0 0))), (h26, .inr (5, [x33, x34, .int 0]))] := hD
  obtain ⟨rfl, hw⟩ := hw
  refine lv_i2l (v := 0) hx hb dL_longestRun_6 (by decide) ?_
  refine va_last hx hb hK hP hD hS 0 2 rfl rfl (kx_in 0 1 rfl ⟨(Nat.le_of_ble_eq_true rfl), (Nat.le_of_ble_eq_true rfl)⟩ (Nat.le_of_ble_eq_true rfl)) dL_longestRun_7 (fun H locs hP hD hS => ?_)
  have hP : va_P D vwCl [(h2, .inl (cy 2, 1, .inr (.inl (vp_updL g10 0 0)))), (h1, .inr (9, [.ref h3, .ref h4, x5, .ref h6, x7, x8, x9])), (h3, .inr (2, [x11, x12, x13, .int 0])), (h4, .inr (5, [x14, x15, .int 0])), (h6, .inr (8, [x16, x17, x18, x19, .ref h20, .ref h21, .ref h22, .ref h23, .ref h24, .ref h25, .ref h26, .int 1, .int 1])), (h20, .inl (cy 1, 1000, .inl (upd g27 0 0))), (h21, .inl (cy 1, 1000, .inl (upd g28 0 0))), (h22, .inl (cy 1, 1000, .inl (upd (upd g29 0 0) 0 2))), (h23, .inl (cy 1, 1000, .inl (upd g30 0 0))), (h24, .inl (cy 1, 1000, .inl (upd g31 0 30))), (h25, .inl (cy 1, 1000, .inl (upd g32 0 0))), (h26, .inr (5, [x33, x34, .int 0]))] H := hP
  have hD : va_D A [(h2, .inl (cy 2, 1, .inr (.inl (vp_updL g10 0 0)))), (h1, .inr (9, [.ref h3, .ref h4, x5, .ref h6, x7, x8, x9])), (h3, .inr (2, [x11, x12, x13, .int 0])), (h4, .inr (5, [x14, x15, .int 0])), (h6, .inr (8, [x16, x17, x18, x19, .ref h20, .ref h21, .ref h22, .ref h23, .ref h24, .ref h25, .ref h26, .int 1, .int 1])), (h20, .inl (cy 1, 1000, .inl (upd g27 0 0))), (h21, .inl (cy 1, 1000, .inl (upd g28 0 0))), (h22, .inl (cy 1, 1000, .inl (upd (upd g29 0 0) 0 2))), (h23, .inl (cy 1, 1000, .inl (upd g30 0 0))), (h24, .inl (cy 1, 1000, .inl (upd g31 0 30))), (h25, .inl (cy 1, 1000, .inl (upd g32 0 0))), (h26, .inr (5, [x33, x34, .int 0]))] := hD
  refine lv_goto (tgt := 17) hx hb dL_longestRun_8 (by decide) ?_
  refine lv_iconst (v := 0) hx hb dL_longestRun_17 (by decide) ?_
  refine W.widen (k := 0) (n := 0) (Nat.le_of_ble_eq_true rfl) (Nat.le_of_ble_eq_true rfl) ?_
  have hP9 := hP.sub (ws' := [(h2, .inl (cy 2, 1, .inr (.inl (vp_updL g10 0 0))))]) [0] rfl
  have hD9 := hD.sub (ws' := [(h2, .inl (cy 2, 1, .inr (.inl (vp_updL g10 0 0))))]) [0] (by decide) rfl
  exact W.iret (v := 0) hx hb hr (fun t ht hW => ⟨⟨0, (), rfl, ⟨rfl, trivial⟩, ⟨by rw [ht]; exact hP9, hD9⟩⟩, hS.F ht⟩) hS.2.2 dL_longestRun_18
theorem dX8_areMany_0 : decode cX8_areMany 0 = .ok (.aload_n 0, 1) := by decide +kernel
theorem dX8_areMany_1 : decode cX8_areMany 1 = .ok (.invokevirtual 237, 3) := by decide +kernel
set_option maxRecDepth 20000 in
theorem ggX8_areMany_X8_count : GoodIn wsX8_areMany wsX8_count := goodIn_ca (goodIn_r _ [5, 6, 7, 8, 9, 10, 11, 4, 12, 13, 14, 15, 16, 17, 18, 19, 20, 21, 22, 23, 24, 25, 26, 27, 28, 29, 30, 31, 32] (by decide +kernel) (by decide +kernel)) (goodIn_sub (fun _ h => List.mem_cons_of_mem _ (List.mem_append_right _ h)) (by decide +kernel))
set_option maxRecDepth 20000 in
theorem gX8_areMany_X8_count : GoodIn wsX8_areMany (wsV RX8 237 RX8 yX8_count wsX8_count) := goodIn_app (goodIn_of _ (by decide +kernel)) ggX8_areMany_X8_count
theorem dX8_areMany_4 : decode cX8_areMany 4 = .ok (.sipush 1000, 3) := by decide +kernel
theorem dX8_areMany_7 : decode cX8_areMany 7 = .ok (.if_icmp .le 7, 3) := by decide +kernel
theorem dX8_areMany_14 : decode cX8_areMany 14 = .ok (.iconst 0, 1) := by decide +kernel
theorem dX8_areMany_15 : decode cX8_areMany 15 = .ok (.ireturn, 1) := by decide +kernel
set_option maxHeartbeats 4000000 in
set_option maxRecDepth 100000 in
theorem k_X8_areMany (l : Launch) (D : va_G) (cy : Nat → ClassId) (h1 : Nat) (x2 : Value) (x3 : Value) (x4 : Value) (x5 : Value) (x6 : Value) (x7 : Value) (x8 : Value) (x9 : Value) (x10 : Value) (x11 : Value) (x12 : Value) (x13 : Value) (x14 : Value) (x15 : Value) (x16 : Value) (x17 : Value) (x18 : Value) : Met l yX8_areMany wsX8_areMany ({ frames := 1, cells := 0, slots := 0, locals := 24 }) (kR D cy [.ref h1] [(h1, .inr (10, [x2, x3, x4, x5, x6, x7, x8, x9, x10, x11, x12, x13, x14, x15, x16, .int 0, x17, x18]))]) (va_Qi (fun (r : Int32) (_ : Unit) => r = 0 ∧ True) (fun (_ : Unit) (_ : State) => True) (fun _ : Nat => False)) 0 0 (fun _ : Nat => False) := by
  refine Met.ofW (cc := cX8_areMany) (maxL := 1) (ret := (some .boolean)) (by decide) rfl ?_
  intro p e s m args below meth c s₁ B hml hv
  obtain ⟨rfl, hP, hK⟩ := hv
  have hx := B.exec
  have hb := B.bytes
  have hr := B.returns
  have hts := atoms_spec (ws := wsX8_areMany) B.pre
  have hown : s.vm.findClass RX8 = some m.cls := findClass_of_methodNamed B.named
  have hlocks := B.notSynchronized
  have hS : va_S (fun _ : Nat => False) s.heap s.heap [] := va_S.rf
  have hP : va_P D vwCl [(h1, .inr (10, [x2, x3, x4, x5, x6, x7, x8, x9, x10, x11, x12, x13, x14, x15, x16, .int 0, x17, x18]))] s.heap := hP
  have hl := lv_entry ([.ref h1]) (n := 1) (Nat.le_of_ble_eq_true rfl)
  rw [lg_entry_eq]
  generalize (lg_sl ([.ref h1]) ++ List.replicate (1 - (lg_sl ([.ref h1])).length) Slot.unset).toArray = ls at hl ⊢
  have hl : lv_has ls 1 [(0, .ref h1)] := hl
  refine lv_aload_n hx hb dX8_areMany_0 rfl (lv_at hl 0 rfl) ?_
  have hPc := hP.sub (ws' := [(h1, .inr (10, [x2, x3, x4, x5, x6, x7, x8, x9, x10, x11, x12, x13, x14, x15, x16, .int 0, x17, x18]))]) [0] rfl
  refine va_calli (va_runV (As := []) (rest := []) ⟨hx, hb, hml, hown, hts⟩ (k_X8_count l D cy h1 (x2) (x3) (x4) (x5) (x6) (x7) (x8) (x9) (x10) (x11) (x12) (x13) (x14) (x15) (x16) (x17) (x18)) (cwV 0 hts gX8_areMany_X8_count rfl rfl rfl (by decide +kernel) ⟨(Nat.le_of_ble_eq_true rfl), (Nat.le_of_ble_eq_true rfl)⟩) ⟨kR_fb, va_recv hK hP (ci := 10) (q0 := 0) rfl rfl, (kR_go hPc hK)⟩ rfl rfl hl.1 rfl (lv_room (Nat.le_of_ble_eq_true rfl)) dX8_areMany_1 ⟨(Nat.le_of_ble_eq_true rfl), (Nat.le_of_ble_eq_true rfl)⟩) hS (fun _ _ h => h.elim) (fun _ h => h.elim) (fun r9 u t H locs ht hvm hw hB hz1 hk1 hS => ?_)
  have hP := kx_kept hP hk1
  obtain ⟨rfl, hw⟩ := hw
  refine lv_sipush (v := 1000) hx hb dX8_areMany_4 (by decide) ?_
  refine lv_icmp_le (tgt := 14) hx hb dX8_areMany_7 (by decide) (fun _ => ?_) (fun h => absurd (by decide) h)
  refine lv_iconst (v := 0) hx hb dX8_areMany_14 (by decide) ?_
  refine W.widen (k := 0) (n := 0) (Nat.le_of_ble_eq_true rfl) (Nat.le_of_ble_eq_true rfl) ?_
  exact W.zret (v := 0) hx hb hr rfl (fun t ht hW => ⟨⟨0, (), rfl, ⟨rfl, trivial⟩, trivial⟩, hS.F ht⟩) hS.2.2 dX8_areMany_15
theorem dX8_code_0 : decode cX8_code 0 = .ok (.iconst 0, 1) := by decide +kernel
theorem dX8_code_1 : decode cX8_code 1 = .ok (.istore_n 1, 1) := by decide +kernel
theorem dX8_code_2 : decode cX8_code 2 = .ok (.aload_n 0, 1) := by decide +kernel
theorem dX8_code_3 : decode cX8_code 3 = .ok (.astore_n 2, 1) := by decide +kernel
theorem dX8_code_4 : decode cX8_code 4 = .ok (.aload_n 2, 1) := by decide +kernel
theorem dX8_code_5 : decode cX8_code 5 = .ok (.arraylength, 1) := by decide +kernel
theorem dX8_code_6 : decode cX8_code 6 = .ok (.istore_n 3, 1) := by decide +kernel
theorem dX8_code_7 : decode cX8_code 7 = .ok (.iconst 0, 1) := by decide +kernel
theorem dX8_code_8 : decode cX8_code 8 = .ok (.istore 4, 2) := by decide +kernel
theorem dX8_code_10 : decode cX8_code 10 = .ok (.iload 4, 2) := by decide +kernel
theorem dX8_code_12 : decode cX8_code 12 = .ok (.iload_n 3, 1) := by decide +kernel
theorem dX8_code_13 : decode cX8_code 13 = .ok (.if_icmp .ge 25, 3) := by decide +kernel
theorem dX8_code_16 : decode cX8_code 16 = .ok (.aload_n 2, 1) := by decide +kernel
theorem dX8_code_17 : decode cX8_code 17 = .ok (.iload 4, 2) := by decide +kernel
theorem dX8_code_19 : decode cX8_code 19 = .ok (.iaload, 1) := by decide +kernel
theorem dX8_code_20 : decode cX8_code 20 = .ok (.istore 5, 2) := by decide +kernel
theorem dX8_code_22 : decode cX8_code 22 = .ok (.bipush 6, 2) := by decide +kernel
theorem dX8_code_24 : decode cX8_code 24 = .ok (.iload_n 1, 1) := by decide +kernel
theorem dX8_code_25 : decode cX8_code 25 = .ok (.imul, 1) := by decide +kernel
theorem dX8_code_26 : decode cX8_code 26 = .ok (.iload 5, 2) := by decide +kernel
theorem dX8_code_28 : decode cX8_code 28 = .ok (.iadd, 1) := by decide +kernel
theorem dX8_code_29 : decode cX8_code 29 = .ok (.iconst 1, 1) := by decide +kernel
theorem dX8_code_30 : decode cX8_code 30 = .ok (.iadd, 1) := by decide +kernel
theorem dX8_code_31 : decode cX8_code 31 = .ok (.istore_n 1, 1) := by decide +kernel
theorem dX8_code_32 : decode cX8_code 32 = .ok (.iinc 4 1, 3) := by decide +kernel
theorem dX8_code_35 : decode cX8_code 35 = .ok (.goto (-25), 3) := by decide +kernel
theorem dX8_code_38 : decode cX8_code 38 = .ok (.iload_n 1, 1) := by decide +kernel
theorem dX8_code_39 : decode cX8_code 39 = .ok (.ireturn, 1) := by decide +kernel
set_option maxHeartbeats 4000000 in
set_option maxRecDepth 100000 in
theorem k_X8_code (l : Launch) (D : va_G) (cy : Nat → ClassId) (h1 : Nat) (g2 : Nat → Int32) (kg2_0 : g2 0 = (-1)) (kg2_1 : g2 1 = (-1)) (kg2_2 : g2 2 = (-1)) (kg2_3 : g2 3 = (-1)) (kg2_4 : g2 4 = (-1)) (kg2_5 : g2 5 = (-1)) : Met l yX8_code wsX8_code ({ frames := 0, cells := 0, slots := 0, locals := 0 }) (kR D cy [.ref h1] [(h1, .inl (cy 1, 6, .inl g2))]) (va_Qi (fun (r : Int32) (_ : Unit) => r = 0 ∧ True) (fun (_ : Unit) (_ : State) => True) (fun _ : Nat => False)) 0 0 (fun _ : Nat => False) := by
  refine Met.ofW (cc := cX8_code) (maxL := 6) (ret := (some .int)) (by decide) rfl ?_
  intro p e s m args below meth c s₁ B hml hv
  obtain ⟨rfl, hP, hK⟩ := hv
  have hx := B.exec
  have hb := B.bytes
  have hr := B.returns
  have hts := atoms_spec (ws := wsX8_code) B.pre
  have hown : s.vm.findClass RX8 = some m.cls := findClass_of_methodNamed B.named
  have hlocks := B.notSynchronized
  have hS : va_S (fun _ : Nat => False) s.heap s.heap [] := va_S.rf
  have hP : va_P D vwCl [(h1, .inl (cy 1, 6, .inl g2))] s.heap := hP
  have hl := lv_entry ([.ref h1]) (n := 6) (Nat.le_of_ble_eq_true rfl)
  rw [lg_entry_eq]
  generalize (lg_sl ([.ref h1]) ++ List.replicate (6 - (lg_sl ([.ref h1])).length) Slot.unset).toArray = ls at hl ⊢
  have hl : lv_has ls 6 [(0, .ref h1)] := hl
  refine lv_iconst (v := 0) hx hb dX8_code_0 (by decide) ?_
  refine lv_istore_n (lv' := [(1, .int 0), (0, .ref h1)]) hx hb dX8_code_1 rfl hl (by decide) rfl (fun ls hl => ?_)
  refine lv_aload_n hx hb dX8_code_2 rfl (lv_at hl 1 rfl) ?_
  refine lv_astore_n (lv' := [(2, .ref h1), (1, .int 0), (0, .ref h1)]) hx hb dX8_code_3 rfl hl (by decide) rfl (fun ls hl => ?_)
  refine lv_aload_n hx hb dX8_code_4 rfl (lv_at hl 0 rfl) ?_
  refine va_alen (v := 6) hx hb hK hP 0 1 rfl rfl rfl dX8_code_5 ?_
  refine lv_istore_n (lv' := [(3, .int 6), (2, .ref h1), (1, .int 0), (0, .ref h1)]) hx hb dX8_code_6 rfl hl (by decide) rfl (fun ls hl => ?_)
  refine lv_iconst (v := 0) hx hb dX8_code_7 (by decide) ?_
  refine lv_istore (lv' := [(4, .int 0), (3, .int 6), (2, .ref h1), (1, .int 0), (0, .ref h1)]) hx hb dX8_code_8 hl (by decide) rfl (fun ls hl => ?_)
  refine lv_iload hx hb dX8_code_10 (lv_at hl 0 rfl) ?_
  refine lv_iload_n hx hb dX8_code_12 rfl (lv_at hl 1 rfl) ?_
  refine lv_icmp_ge (tgt := 38) hx hb dX8_code_13 (by decide) (fun h => absurd h (by decide)) (fun _ => ?_)
  refine lv_aload_n hx hb dX8_code_16 rfl (lv_at hl 2 rfl) ?_
  refine lv_iload hx hb dX8_code_17 (lv_at hl 0 rfl) ?_
  refine va_iald hx hb hK hP 0 1 rfl rfl (kx_in 0 6 rfl ⟨(Nat.le_of_ble_eq_true rfl), (Nat.le_of_ble_eq_true rfl)⟩ (Nat.le_of_ble_eq_true rfl)) dX8_code_19 ?_
  refine lv_topi (fun v_1 ev_1 => ?_)
  obtain rfl : v_1 = (-1) := ev_1.trans (kg2_0)
  refine lv_istore (lv' := [(5, .int (-1)), (4, .int 0), (3, .int 6), (2, .ref h1), (1, .int 0), (0, .ref h1)]) hx hb dX8_code_20 hl (by decide) rfl (fun ls hl => ?_)
  refine lv_bipush (v := 6) hx hb dX8_code_22 (by decide) ?_
  refine lv_iload_n hx hb dX8_code_24 rfl (lv_at hl 4 rfl) ?_
  refine lv_imul hx hb dX8_code_25 ?_
  refine lv_topi (fun v_2 ev_2 => ?_)
  obtain rfl : v_2 = 0 := ev_2.trans (by decide)
  refine lv_iload hx hb dX8_code_26 (lv_at hl 0 rfl) ?_
  refine lv_iadd hx hb dX8_code_28 ?_
  refine lv_topi (fun v_3 ev_3 => ?_)
  obtain rfl : v_3 = (-1) := ev_3.trans (by decide)
  refine lv_iconst (v := 1) hx hb dX8_code_29 (by decide) ?_
  refine lv_iadd hx hb dX8_code_30 ?_
  refine lv_topi (fun v_4 ev_4 => ?_)
  obtain rfl : v_4 = 0 := ev_4.trans (by decide)
  refine lv_istore_n (lv' := [(1, .int 0), (5, .int (-1)), (4, .int 0), (3, .int 6), (2, .ref h1), (0, .ref h1)]) hx hb dX8_code_31 rfl hl (by decide) rfl (fun ls hl => ?_)
  refine lv_iinc (v := 1) (lv' := [(4, .int 1), (1, .int 0), (5, .int (-1)), (3, .int 6), (2, .ref h1), (0, .ref h1)]) hx hb dX8_code_32 hl (k := 2) rfl (by decide) (by decide) rfl (fun ls hl => ?_)
  refine lv_goto (tgt := 10) hx hb dX8_code_35 (by decide) ?_
  refine lv_iload hx hb dX8_code_10 (lv_at hl 0 rfl) ?_
  refine lv_iload_n hx hb dX8_code_12 rfl (lv_at hl 3 rfl) ?_
  refine lv_icmp_ge (tgt := 38) hx hb dX8_code_13 (by decide) (fun h => absurd h (by decide)) (fun _ => ?_)
  refine lv_aload_n hx hb dX8_code_16 rfl (lv_at hl 4 rfl) ?_
  refine lv_iload hx hb dX8_code_17 (lv_at hl 0 rfl) ?_
  refine va_iald hx hb hK hP 0 1 rfl rfl (kx_in 1 6 rfl ⟨(Nat.le_of_ble_eq_true rfl), (Nat.le_of_ble_eq_true rfl)⟩ (Nat.le_of_ble_eq_true rfl)) dX8_code_19 ?_
  refine lv_topi (fun v_5 ev_5 => ?_)
  obtain rfl : v_5 = (-1) := ev_5.trans (kg2_1)
  refine lv_istore (lv' := [(5, .int (-1)), (4, .int 1), (1, .int 0), (3, .int 6), (2, .ref h1), (0, .ref h1)]) hx hb dX8_code_20 hl (by decide) rfl (fun ls hl => ?_)
  refine lv_bipush (v := 6) hx hb dX8_code_22 (by decide) ?_
  refine lv_iload_n hx hb dX8_code_24 rfl (lv_at hl 2 rfl) ?_
  refine lv_imul hx hb dX8_code_25 ?_
  refine lv_topi (fun v_6 ev_6 => ?_)
  obtain rfl : v_6 = 0 := ev_6.trans (by decide)
  refine lv_iload hx hb dX8_code_26 (lv_at hl 0 rfl) ?_
  refine lv_iadd hx hb dX8_code_28 ?_
  refine lv_topi (fun v_7 ev_7 => ?_)
  obtain rfl : v_7 = (-1) := ev_7.trans (by decide)
  refine lv_iconst (v := 1) hx hb dX8_code_29 (by decide) ?_
  refine lv_iadd hx hb dX8_code_30 ?_
  refine lv_topi (fun v_8 ev_8 => ?_)
  obtain rfl : v_8 = 0 := ev_8.trans (by decide)
  refine lv_istore_n (lv' := [(1, .int 0), (5, .int (-1)), (4, .int 1), (3, .int 6), (2, .ref h1), (0, .ref h1)]) hx hb dX8_code_31 rfl hl (by decide) rfl (fun ls hl => ?_)
  refine lv_iinc (v := 2) (lv' := [(4, .int 2), (1, .int 0), (5, .int (-1)), (3, .int 6), (2, .ref h1), (0, .ref h1)]) hx hb dX8_code_32 hl (k := 2) rfl (by decide) (by decide) rfl (fun ls hl => ?_)
  refine lv_goto (tgt := 10) hx hb dX8_code_35 (by decide) ?_
  refine lv_iload hx hb dX8_code_10 (lv_at hl 0 rfl) ?_
  refine lv_iload_n hx hb dX8_code_12 rfl (lv_at hl 3 rfl) ?_
  refine lv_icmp_ge (tgt := 38) hx hb dX8_code_13 (by decide) (fun h => absurd h (by decide)) (fun _ => ?_)
  refine lv_aload_n hx hb dX8_code_16 rfl (lv_at hl 4 rfl) ?_
  refine lv_iload hx hb dX8_code_17 (lv_at hl 0 rfl) ?_
  refine va_iald hx hb hK hP 0 1 rfl rfl (kx_in 2 6 rfl ⟨(Nat.le_of_ble_eq_true rfl), (Nat.le_of_ble_eq_true rfl)⟩ (Nat.le_of_ble_eq_true rfl)) dX8_code_19 ?_
  refine lv_topi (fun v_9 ev_9 => ?_)
  obtain rfl : v_9 = (-1) := ev_9.trans (kg2_2)
  refine lv_istore (lv' := [(5, .int (-1)), (4, .int 2), (1, .int 0), (3, .int 6), (2, .ref h1), (0, .ref h1)]) hx hb dX8_code_20 hl (by decide) rfl (fun ls hl => ?_)
  refine lv_bipush (v := 6) hx hb dX8_code_22 (by decide) ?_
  refine lv_iload_n hx hb dX8_code_24 rfl (lv_at hl 2 rfl) ?_
  refine lv_imul hx hb dX8_code_25 ?_
  refine lv_topi (fun v_10 ev_10 => ?_)
  obtain rfl : v_10 = 0 := ev_10.trans (by decide)
  refine lv_iload hx hb dX8_code_26 (lv_at hl 0 rfl) ?_
  refine lv_iadd hx hb dX8_code_28 ?_
  refine lv_topi (fun v_11 ev_11 => ?_)
  obtain rfl : v_11 = (-1) := ev_11.trans (by decide)
  refine lv_iconst (v := 1) hx hb dX8_code_29 (by decide) ?_
  refine lv_iadd hx hb dX8_code_30 ?_
  refine lv_topi (fun v_12 ev_12 => ?_)
  obtain rfl : v_12 = 0 := ev_12.trans (by decide)
  refine lv_istore_n (lv' := [(1, .int 0), (5, .int (-1)), (4, .int 2), (3, .int 6), (2, .ref h1), (0, .ref h1)]) hx hb dX8_code_31 rfl hl (by decide) rfl (fun ls hl => ?_)
  refine lv_iinc (v := 3) (lv' := [(4, .int 3), (1, .int 0), (5, .int (-1)), (3, .int 6), (2, .ref h1), (0, .ref h1)]) hx hb dX8_code_32 hl (k := 2) rfl (by decide) (by decide) rfl (fun ls hl => ?_)
  refine lv_goto (tgt := 10) hx hb dX8_code_35 (by decide) ?_
  refine lv_iload hx hb dX8_code_10 (lv_at hl 0 rfl) ?_
  refine lv_iload_n hx hb dX8_code_12 rfl (lv_at hl 3 rfl) ?_
  refine lv_icmp_ge (tgt := 38) hx hb dX8_code_13 (by decide) (fun h => absurd h (by decide)) (fun _ => ?_)
  refine lv_aload_n hx hb dX8_code_16 rfl (lv_at hl 4 rfl) ?_
  refine lv_iload hx hb dX8_code_17 (lv_at hl 0 rfl) ?_
  refine va_iald hx hb hK hP 0 1 rfl rfl (kx_in 3 6 rfl ⟨(Nat.le_of_ble_eq_true rfl), (Nat.le_of_ble_eq_true rfl)⟩ (Nat.le_of_ble_eq_true rfl)) dX8_code_19 ?_
  refine lv_topi (fun v_13 ev_13 => ?_)
  obtain rfl : v_13 = (-1) := ev_13.trans (kg2_3)
  refine lv_istore (lv' := [(5, .int (-1)), (4, .int 3), (1, .int 0), (3, .int 6), (2, .ref h1), (0, .ref h1)]) hx hb dX8_code_20 hl (by decide) rfl (fun ls hl => ?_)
  refine lv_bipush (v := 6) hx hb dX8_code_22 (by decide) ?_
  refine lv_iload_n hx hb dX8_code_24 rfl (lv_at hl 2 rfl) ?_
  refine lv_imul hx hb dX8_code_25 ?_
  refine lv_topi (fun v_14 ev_14 => ?_)
  obtain rfl : v_14 = 0 := ev_14.trans (by decide)
  refine lv_iload hx hb dX8_code_26 (lv_at hl 0 rfl) ?_
  refine lv_iadd hx hb dX8_code_28 ?_
  refine lv_topi (fun v_15 ev_15 => ?_)
  obtain rfl : v_15 = (-1) := ev_15.trans (by decide)
  refine lv_iconst (v := 1) hx hb dX8_code_29 (by decide) ?_
  refine lv_iadd hx hb dX8_code_30 ?_
  refine lv_topi (fun v_16 ev_16 => ?_)
  obtain rfl : v_16 = 0 := ev_16.trans (by decide)
  refine lv_istore_n (lv' := [(1, .int 0), (5, .int (-1)), (4, .int 3), (3, .int 6), (2, .ref h1), (0, .ref h1)]) hx hb dX8_code_31 rfl hl (by decide) rfl (fun ls hl => ?_)
  refine lv_iinc (v := 4) (lv' := [(4, .int 4), (1, .int 0), (5, .int (-1)), (3, .int 6), (2, .ref h1), (0, .ref h1)]) hx hb dX8_code_32 hl (k := 2) rfl (by decide) (by decide) rfl (fun ls hl => ?_)
  refine lv_goto (tgt := 10) hx hb dX8_code_35 (by decide) ?_
  refine lv_iload hx hb dX8_code_10 (lv_at hl 0 rfl) ?_
  refine lv_iload_n hx hb dX8_code_12 rfl (lv_at hl 3 rfl) ?_
  refine lv_icmp_ge (tgt := 38) hx hb dX8_code_13 (by decide) (fun h => absurd h (by decide)) (fun _ => ?_)
  refine lv_aload_n hx hb dX8_code_16 rfl (lv_at hl 4 rfl) ?_
  refine lv_iload hx hb dX8_code_17 (lv_at hl 0 rfl) ?_
  refine va_iald hx hb hK hP 0 1 rfl rfl (kx_in 4 6 rfl ⟨(Nat.le_of_ble_eq_true rfl), (Nat.le_of_ble_eq_true rfl)⟩ (Nat.le_of_ble_eq_true rfl)) dX8_code_19 ?_
  refine lv_topi (fun v_17 ev_17 => ?_)
  obtain rfl : v_17 = (-1) := ev_17.trans (kg2_4)
  refine lv_istore (lv' := [(5, .int (-1)), (4, .int 4), (1, .int 0), (3, .int 6), (2, .ref h1), (0, .ref h1)]) hx hb dX8_code_20 hl (by decide) rfl (fun ls hl => ?_)
  refine lv_bipush (v := 6) hx hb dX8_code_22 (by decide) ?_
  refine lv_iload_n hx hb dX8_code_24 rfl (lv_at hl 2 rfl) ?_
  refine lv_imul hx hb dX8_code_25 ?_
  refine lv_topi (fun v_18 ev_18 => ?_)
  obtain rfl : v_18 = 0 := ev_18.trans (by decide)
  refine lv_iload hx hb dX8_code_26 (lv_at hl 0 rfl) ?_
  refine lv_iadd hx hb dX8_code_28 ?_
  refine lv_topi (fun v_19 ev_19 => ?_)
  obtain rfl : v_19 = (-1) := ev_19.trans (by decide)
  refine lv_iconst (v := 1) hx hb dX8_code_29 (by decide) ?_
  refine lv_iadd hx hb dX8_code_30 ?_
  refine lv_topi (fun v_20 ev_20 => ?_)
  obtain rfl : v_20 = 0 := ev_20.trans (by decide)
  refine lv_istore_n (lv' := [(1, .int 0), (5, .int (-1)), (4, .int 4), (3, .int 6), (2, .ref h1), (0, .ref h1)]) hx hb dX8_code_31 rfl hl (by decide) rfl (fun ls hl => ?_)
  refine lv_iinc (v := 5) (lv' := [(4, .int 5), (1, .int 0), (5, .int (-1)), (3, .int 6), (2, .ref h1), (0, .ref h1)]) hx hb dX8_code_32 hl (k := 2) rfl (by decide) (by decide) rfl (fun ls hl => ?_)
  refine lv_goto (tgt := 10) hx hb dX8_code_35 (by decide) ?_
  refine lv_iload hx hb dX8_code_10 (lv_at hl 0 rfl) ?_
  refine lv_iload_n hx hb dX8_code_12 rfl (lv_at hl 3 rfl) ?_
  refine lv_icmp_ge (tgt := 38) hx hb dX8_code_13 (by decide) (fun h => absurd h (by decide)) (fun _ => ?_)
  refine lv_aload_n hx hb dX8_code_16 rfl (lv_at hl 4 rfl) ?_
  refine lv_iload hx hb dX8_code_17 (lv_at hl 0 rfl) ?_
  refine va_iald hx hb hK hP 0 1 rfl rfl (kx_in 5 6 rfl ⟨(Nat.le_of_ble_eq_true rfl), (Nat.le_of_ble_eq_true rfl)⟩ (Nat.le_of_ble_eq_true rfl)) dX8_code_19 ?_
  refine lv_topi (fun v_21 ev_21 => ?_)
  obtain rfl : v_21 = (-1) := ev_21.trans (kg2_5)
  refine lv_istore (lv' := [(5, .int (-1)), (4, .int 5), (1, .int 0), (3, .int 6), (2, .ref h1), (0, .ref h1)]) hx hb dX8_code_20 hl (by decide) rfl (fun ls hl => ?_)
  refine lv_bipush (v := 6) hx hb dX8_code_22 (by decide) ?_
  refine lv_iload_n hx hb dX8_code_24 rfl (lv_at hl 2 rfl) ?_
  refine lv_imul hx hb dX8_code_25 ?_
  refine lv_topi (fun v_22 ev_22 => ?_)
  obtain rfl : v_22 = 0 := ev_22.trans (by decide)
  refine lv_iload hx hb dX8_code_26 (lv_at hl 0 rfl) ?_
  refine lv_iadd hx hb dX8_code_28 ?_
  refine lv_topi (fun v_23 ev_23 => ?_)
  obtain rfl : v_23 = (-1) := ev_23.trans (by decide)
  refine lv_iconst (v := 1) hx hb dX8_code_29 (by decide) ?_
  refine lv_iadd hx hb dX8_code_30 ?_
  refine lv_topi (fun v_24 ev_24 => ?_)
  obtain rfl : v_24 = 0 := ev_24.trans (by decide)
  refine lv_istore_n (lv' := [(1, .int 0), (5, .int (-1)), (4, .int 5), (3, .int 6), (2, .ref h1), (0, .ref h1)]) hx hb dX8_code_31 rfl hl (by decide) rfl (fun ls hl => ?_)
  refine lv_iinc (v := 6) (lv' := [(4, .int 6), (1, .int 0), (5, .int (-1)), (3, .int 6), (2, .ref h1), (0, .ref h1)]) hx hb dX8_code_32 hl (k := 2) rfl (by decide) (by decide) rfl (fun ls hl => ?_)
  refine lv_goto (tgt := 10) hx hb dX8_code_35 (by decide) ?_
  refine lv_iload hx hb dX8_code_10 (lv_at hl 0 rfl) ?_
  refine lv_iload_n hx hb dX8_code_12 rfl (lv_at hl 3 rfl) ?_
  refine lv_icmp_ge (tgt := 38) hx hb dX8_code_13 (by decide) (fun _ => ?_) (fun h => absurd (by decide) h)
  refine lv_iload_n hx hb dX8_code_38 rfl (lv_at hl 1 rfl) ?_
  refine W.widen (k := 0) (n := 0) (Nat.le_of_ble_eq_true rfl) (Nat.le_of_ble_eq_true rfl) ?_
  exact W.iret (v := 0) hx hb hr (fun t ht hW => ⟨⟨0, (), rfl, ⟨rfl, trivial⟩, trivial⟩, hS.F ht⟩) hS.2.2 dX8_code_39
theorem dX8_longest_0 : decode cX8_longest 0 = .ok (.aload_n 1, 1) := by decide +kernel
theorem dX8_longest_1 : decode cX8_longest 1 = .ok (.invokestatic 251, 3) := by decide +kernel
set_option maxRecDepth 20000 in
theorem ggX8_longest_X8_code : GoodIn wsX8_longest wsX8_code := goodIn_ca (goodIn_r _ [11] (by decide +kernel) (by decide +kernel)) (goodIn_sub (fun _ h => List.mem_cons_of_mem _ (List.mem_append_left _ (List.mem_append_right _ h))) (by decide +kernel))
set_option maxRecDepth 20000 in
theorem gX8_longest_X8_code : GoodIn wsX8_longest (va_wsS RX8 251 yX8_code wsX8_code) := goodIn_app (goodIn_of _ (by decide +kernel)) ggX8_longest_X8_code
theorem dX8_longest_4 : decode cX8_longest 4 = .ok (.istore_n 3, 1) := by decide +kernel
theorem dX8_longest_5 : decode cX8_longest 5 = .ok (.aload_n 2, 1) := by decide +kernel
theorem dX8_longest_6 : decode cX8_longest 6 = .ok (.iload_n 3, 1) := by decide +kernel
theorem dX8_longest_7 : decode cX8_longest 7 = .ok (.iaload, 1) := by decide +kernel
theorem dX8_longest_8 : decode cX8_longest 8 = .ok (.ifCond .eq 19, 3) := by decide +kernel
theorem dX8_longest_27 : decode cX8_longest 27 = .ok (.aload_n 2, 1) := by decide +kernel
theorem dX8_longest_28 : decode cX8_longest 28 = .ok (.iload_n 3, 1) := by decide +kernel
theorem dX8_longest_29 : decode cX8_longest 29 = .ok (.iconst (-1), 1) := by decide +kernel
theorem dX8_longest_30 : decode cX8_longest 30 = .ok (.iastore, 1) := by decide +kernel
theorem dX8_longest_31 : decode cX8_longest 31 = .ok (.iconst 0, 1) := by decide +kernel
theorem dX8_longest_32 : decode cX8_longest 32 = .ok (.istore 4, 2) := by decide +kernel
theorem dX8_longest_34 : decode cX8_longest 34 = .ok (.iconst 0, 1) := by decide +kernel
theorem dX8_longest_35 : decode cX8_longest 35 = .ok (.istore 5, 2) := by decide +kernel
theorem dX8_longest_37 : decode cX8_longest 37 = .ok (.iload 5, 2) := by decide +kernel
theorem dX8_longest_39 : decode cX8_longest 39 = .ok (.aload_n 0, 1) := by decide +kernel
theorem dX8_longest_40 : decode cX8_longest 40 = .ok (.getfield 85, 3) := by decide +kernel
theorem dX8_longest_43 : decode cX8_longest 43 = .ok (.if_icmp .ge 97, 3) := by decide +kernel
theorem dX8_longest_140 : decode cX8_longest 140 = .ok (.aload_n 2, 1) := by decide +kernel
theorem dX8_longest_141 : decode cX8_longest 141 = .ok (.iload_n 3, 1) := by decide +kernel
theorem dX8_longest_142 : decode cX8_longest 142 = .ok (.iload 4, 2) := by decide +kernel
theorem dX8_longest_144 : decode cX8_longest 144 = .ok (.iconst 1, 1) := by decide +kernel
theorem dX8_longest_145 : decode cX8_longest 145 = .ok (.iadd, 1) := by decide +kernel
theorem dX8_longest_146 : decode cX8_longest 146 = .ok (.iastore, 1) := by decide +kernel
theorem dX8_longest_147 : decode cX8_longest 147 = .ok (.iload 4, 2) := by decide +kernel
theorem dX8_longest_149 : decode cX8_longest 149 = .ok (.ireturn, 1) := by decide +kernel
set_option maxHeartbeats 4000000 in
set_option maxRecDepth 100000 in
theorem k_X8_longest (l : Launch) (D : va_G) (cy : Nat → ClassId) (h1 : Nat) (h2 : Nat) (h3 : Nat) (x4 : Value) (x5 : Value) (x6 : Value) (x7 : Value) (x8 : Value) (x9 : Value) (x10 : Value) (x11 : Value) (x12 : Value) (x13 : Value) (x14 : Value) (x15 : Value) (x16 : Value) (x17 : Value) (x18 : Value) (x19 : Value) (x20 : Value) (g21 : Nat → Int32) (kg21_0 : g21 0 = (-1)) (kg21_1 : g21 1 = (-1)) (kg21_2 : g21 2 = (-1)) (kg21_3 : g21 3 = (-1)) (kg21_4 : g21 4 = (-1)) (kg21_5 : g21 5 = (-1)) (g22 : Nat → Int32) (kg22_0 : g22 0 = 0) (sz : Nat) : Met l yX8_longest wsX8_longest ({ frames := 1, cells := 0, slots := 0, locals := 25 }) (kW D cy [.ref h1, .ref h2, .ref h3] [(h1, .inr (10, [x4, x5, x6, x7, x8, x9, x10, x11, x12, x13, x14, x15, x16, x17, x18, .int 0, x19, x20])), (h2, .inl (cy 1, 6, .inl g21)), (h3, .inl (cy 1, 46656, .inl g22))] sz) (va_Qi (fun (r : Int32) (_ : Unit) => r = 0 ∧ True) (fun (_ : Unit) (t : State) => va_P D vwCl [(h1, .inr (10, [x4, x5, x6, x7, x8, x9, x10, x11, x12, x13, x14, x15, x16, x17, x18, .int 0, x19, x20])), (h2, .inl (cy 1, 6, .inl g21)), (h3, .inl (cy 1, 46656, .inl (upd g22 0 1)))] t.heap ∧ va_D (va_A [(h1, .inr (10, [x4, x5, x6, x7, x8, x9, x10, x11, x12, x13, x14, x15, x16, x17, x18, .int 0, x19, x20])), (h2, .inl (cy 1, 6, .inl g21)), (h3, .inl (cy 1, 46656, .inl g22))] sz) [(h1, .inr (10, [x4, x5, x6, x7, x8, x9, x10, x11, x12, x13, x14, x15, x16, x17, x18, .int 0, x19, x20])), (h2, .inl (cy 1, 6, .inl g21)), (h3, .inl (cy 1, 46656, .inl (upd g22 0 1)))]) (va_A [(h1, .inr (10, [x4, x5, x6, x7, x8, x9, x10, x11, x12, x13, x14, x15, x16, x17, x18, .int 0, x19, x20])), (h2, .inl (cy 1, 6, .inl g21)), (h3, .inl (cy 1, 46656, .inl g22))] sz)) 0 0 (va_A [(h1, .inr (10, [x4, x5, x6, x7, x8, x9, x10, x11, x12, x13, x14, x15, x16, x17, x18, .int 0, x19, x20])), (h2, .inl (cy 1, 6, .inl g21)), (h3, .inl (cy 1, 46656, .inl g22))] sz) := by
  refine Met.ofW (cc := cX8_longest) (maxL := 8) (ret := (some .int)) (by decide) rfl ?_
  intro p e s m args below meth c s₁ B hml hv
  obtain ⟨rfl, hsz, hP, hK, hD0⟩ := hv
  have hx := B.exec
  have hb := B.bytes
  have hr := B.returns
  have hts := atoms_spec (ws := wsX8_longest) B.pre
  have hown : s.vm.findClass RX8 = some m.cls := findClass_of_methodNamed B.named
  have hlocks := B.notSynchronized
  subst hsz
  have hD := hD0.self (sz := s.heap.size)
  generalize hAe : va_A [(h1, .inr (10, [x4, x5, x6, x7, x8, x9, x10, x11, x12, x13, x14, x15, x16, x17, x18, .int 0, x19, x20])), (h2, .inl (cy 1, 6, .inl g21)), (h3, .inl (cy 1, 46656, .inl g22))] s.heap.size = A at hD ⊢
  have hA : ∀ q : Nat, s.heap.size ≤ q → A q := fun q h => by rw [← hAe]; exact Or.inr h
  have hS : va_S A s.heap s.heap [] := va_S.rf
  have hP : va_P D vwCl [(h1, .inr (10, [x4, x5, x6, x7, x8, x9, x10, x11, x12, x13, x14, x15, x16, x17, x18, .int 0, x19, x20])), (h2, .inl (cy 1, 6, .inl g21)), (h3, .inl (cy 1, 46656, .inl g22))] s.heap := hP
  have hl := lv_entry ([.ref h1, .ref h2, .ref h3]) (n := 8) (Nat.le_of_ble_eq_true rfl)
  rw [lg_entry_eq]
  generalize (lg_sl ([.ref h1, .ref h2, .ref h3]) ++ List.replicate (8 - (lg_sl ([.ref h1, .ref h2, .ref h3])).length) Slot.unset).toArray = ls at hl ⊢
  have hl : lv_has ls 8 [(0, .ref h1), (1, .ref h2), (2, .ref h3)] := hl
  refine lv_aload_n hx hb dX8_longest_0 rfl (lv_at hl 1 rfl) ?_
  have hPc := hP.sub (ws' := [(h2, .inl (cy 1, 6, .inl g21))]) [1] rfl
  refine va_calli (va_runS (As := [.ref h2]) (rest := []) ⟨hx, hb, hml, hown, hts⟩ (k_X8_code l D cy h2 g21 (kg21_0) (kg21_1) (kg21_2) (kg21_3) (kg21_4) (kg21_5)) (va_cwS 1 hts gX8_longest_X8_code rfl rfl rfl (by decide +kernel) ⟨(Nat.le_of_ble_eq_true rfl), (Nat.le_of_ble_eq_true rfl)⟩) ⟨kR_fb, (kR_go hPc hK)⟩ rfl rfl hl.1 rfl (lv_room (Nat.le_of_ble_eq_true rfl)) dX8_longest_1 ⟨(Nat.le_of_ble_eq_true rfl), (Nat.le_of_ble_eq_true rfl)⟩) hS (fun _ _ h => h.elim) (fun _ h => h.elim) (fun r9 u t H locs ht hvm hw hB hz1 hk1 hS => ?_)
  have hP := kx_kept hP hk1
  obtain ⟨rfl, hw⟩ := hw
  refine lv_istore_n (lv' := [(3, .int 0), (0, .ref h1), (1, .ref h2), (2, .ref h3)]) hx hb dX8_longest_4 rfl hl (by decide) rfl (fun ls hl => ?_)
  refine lv_aload_n hx hb dX8_longest_5 rfl (lv_at hl 3 rfl) ?_
  refine lv_iload_n hx hb dX8_longest_6 rfl (lv_at hl 0 rfl) ?_
  refine va_iald hx hb hK hP 2 1 rfl rfl (kx_in 0 46656 rfl ⟨(Nat.le_of_ble_eq_true rfl), (Nat.le_of_ble_eq_true rfl)⟩ (Nat.le_of_ble_eq_true rfl)) dX8_longest_7 ?_
  refine lv_topi (fun v_2 ev_2 => ?_)
  obtain rfl : v_2 = 0 := ev_2.trans (kg22_0)
  refine lv_if_eq (tgt := 27) hx hb dX8_longest_8 (by decide) (fun _ => ?_) (fun h => absurd (by decide) h)
  refine lv_aload_n hx hb dX8_longest_27 rfl (lv_at hl 3 rfl) ?_
  refine lv_iload_n hx hb dX8_longest_28 rfl (lv_at hl 0 rfl) ?_
  refine lv_iconst (v := (-1)) hx hb dX8_longest_29 (by decide) ?_
  refine va_iast hx hb hK hP hD hS 2 1 rfl rfl (kx_in 0 46656 rfl ⟨(Nat.le_of_ble_eq_true rfl), (Nat.le_of_ble_eq_true rfl)⟩ (Nat.le_of_ble_eq_true rfl)) dX8_longest_30 (fun H locs hP hD hS => ?_)
  have hP : va_P D vwCl [(h1, .inr (10, [x4, x5, x6, x7, x8, x9, x10, x11, x12, x13, x14, x15, x16, x17, x18, .int 0, x19, x20])), (h2, .inl (cy 1, 6, .inl g21)), (h3, .inl (cy 1, 46656, .inl (upd g22 0 (-1))))] H := hP
  have hD : va_D A [(h1, .inr (10, [x4, x5, x6, x7, x8, x9, x10, x11, x12, x13, x14, x15, x16, x17, x18, .int 0, x19, x20])), (h2, .inl (cy 1, 6, .inl g21)), (h3, .inl (cy 1, 46656, .inl (upd g22 0 (-1))))] := hD
  refine lv_iconst (v := 0) hx hb dX8_longest_31 (by decide) ?_
  refine lv_istore (lv' := [(4, .int 0), (3, .int 0), (0, .ref h1), (1, .ref h2), (2, .ref h3)]) hx hb dX8_longest_32 hl (by decide) rfl (fun ls hl => ?_)
  refine lv_iconst (v := 0) hx hb dX8_longest_34 (by decide) ?_
  refine lv_istore (lv' := [(5, .int 0), (4, .int 0), (3, .int 0), (0, .ref h1), (1, .ref h2), (2, .ref h3)]) hx hb dX8_longest_35 hl (by decide) rfl (fun ls hl => ?_)
  refine lv_iload hx hb dX8_longest_37 (lv_at hl 0 rfl) ?_
  refine lv_aload_n hx hb dX8_longest_39 rfl (lv_at hl 3 rfl) ?_
  refine va_get (D := D) (ci := 10) (v := .int 0) (C := RX8) (T := TX8) (N := 18) hx hb hts (fun _ h => (List.mem_cons_of_mem _ (List.mem_append_left _ (List.mem_append_left _ (List.mem_append_right _ h))))) hown hK hP 0 rfl rfl 15 (by decide) (hts (.fieldLink RX8 85 "SelfishJunctionModel" "players" "I") (List.mem_cons_of_mem _ (List.mem_append_left _ (List.mem_append_left _ (List.mem_append_left _ (List.mem_append_left _ (List.mem_of_getElem? (i := 0) rfl))))))) (fun _ h9 => h9) rfl dX8_longest_40 ?_
  refine lv_icmp_ge (tgt := 140) hx hb dX8_longest_43 (by decide) (fun _ => ?_) (fun h => absurd (by decide) h)
  refine lv_aload_n hx hb dX8_longest_140 rfl (lv_at hl 5 rfl) ?_
  refine lv_iload_n hx hb dX8_longest_141 rfl (lv_at hl 2 rfl) ?_
  refine lv_iload hx hb dX8_longest_142 (lv_at hl 1 rfl) ?_
  refine lv_iconst (v := 1) hx hb dX8_longest_144 (by decide) ?_
  refine lv_iadd hx hb dX8_longest_145 ?_
  refine lv_topi (fun v_3 ev_3 => ?_)
  obtain rfl : v_3 = 1 := ev_3.trans (by decide)
  refine va_iast hx hb hK hP hD hS 2 1 rfl rfl (kx_in 0 46656 rfl ⟨(Nat.le_of_ble_eq_true rfl), (Nat.le_of_ble_eq_true rfl)⟩ (Nat.le_of_ble_eq_true rfl)) dX8_longest_146 (fun H locs hP hD hS => ?_)
  have hP : va_P D vwCl [(h1, .inr (10, [x4, x5, x6, x7, x8, x9, x10, x11, x12, x13, x14, x15, x16, x17, x18, .int 0, x19, x20])), (h2, .inl (cy 1, 6, .inl g21)), (h3, .inl (cy 1, 46656, .inl (upd (upd g22 0 (-1)) 0 1)))] H := hP
  have hD : va_D A [(h1, .inr (10, [x4, x5, x6, x7, x8, x9, x10, x11, x12, x13, x14, x15, x16, x17, x18, .int 0, x19, x20])), (h2, .inl (cy 1, 6, .inl g21)), (h3, .inl (cy 1, 46656, .inl (upd (upd g22 0 (-1)) 0 1)))] := hD
  rw [kx_uu] at hP hD
  refine lv_iload hx hb dX8_longest_147 (lv_at hl 1 rfl) ?_
  refine W.widen (k := 0) (n := 0) (Nat.le_of_ble_eq_true rfl) (Nat.le_of_ble_eq_true rfl) ?_
  have hP9 := hP.sub (ws' := [(h1, .inr (10, [x4, x5, x6, x7, x8, x9, x10, x11, x12, x13, x14, x15, x16, x17, x18, .int 0, x19, x20])), (h2, .inl (cy 1, 6, .inl g21)), (h3, .inl (cy 1, 46656, .inl (upd g22 0 1)))]) [0, 1, 2] rfl
  have hD9 := hD.sub (ws' := [(h1, .inr (10, [x4, x5, x6, x7, x8, x9, x10, x11, x12, x13, x14, x15, x16, x17, x18, .int 0, x19, x20])), (h2, .inl (cy 1, 6, .inl g21)), (h3, .inl (cy 1, 46656, .inl (upd g22 0 1)))]) [0, 1, 2] (by decide) rfl
  exact W.iret (v := 0) hx hb hr (fun t ht hW => ⟨⟨0, (), rfl, ⟨rfl, trivial⟩, ⟨by rw [ht]; exact hP9, hD9⟩⟩, hS.F ht⟩) hS.2.2 dX8_longest_149
theorem dX8_longestRun_0 : decode cX8_longestRun 0 = .ok (.aload_n 0, 1) := by decide +kernel
theorem dX8_longestRun_1 : decode cX8_longestRun 1 = .ok (.aload_n 0, 1) := by decide +kernel
theorem dX8_longestRun_2 : decode cX8_longestRun 2 = .ok (.invokevirtual 240, 3) := by decide +kernel
set_option maxRecDepth 20000 in
theorem ggX8_longestRun_X8_areMany : GoodIn wsX8_longestRun wsX8_areMany := goodIn_ca (goodIn_r _ [8, 9, 10, 11, 7, 12, 13, 14, 15, 16, 17, 18, 19, 20, 21, 70, 71, 72, 73, 74, 75, 76, 77, 78, 79, 80, 81, 82, 83, 84, 85, 86, 87] (by decide +kernel) (by decide +kernel)) (goodIn_sub (fun _ h => List.mem_cons_of_mem _ (List.mem_append_left _ (List.mem_append_right _ h))) (by decide +kernel))
set_option maxRecDepth 20000 in
theorem gX8_longestRun_X8_areMany : GoodIn wsX8_longestRun (wsV RX8 240 RX8 yX8_areMany wsX8_areMany) := goodIn_app (goodIn_of _ (by decide +kernel)) ggX8_longestRun_X8_areMany
theorem dX8_longestRun_5 : decode cX8_longestRun 5 = .ok (.iconst 1, 1) := by decide +kernel
theorem dX8_longestRun_6 : decode cX8_longestRun 6 = .ok (.invokevirtual 73, 3) := by decide +kernel
set_option maxRecDepth 20000 in
theorem ggX8_longestRun_X8_isThrown : GoodIn wsX8_longestRun wsX8_isThrown := goodIn_r _ [25, 26, 70, 71, 72, 73, 74, 75, 76, 77, 78, 79, 80, 81, 82, 83, 84, 85, 86, 87] (by decide +kernel) (by decide +kernel)
set_option maxRecDepth 20000 in
theorem gX8_longestRun_X8_isThrown : GoodIn wsX8_longestRun (wsV RX8 73 RX8 yX8_isThrown wsX8_isThrown) := goodIn_app (goodIn_of _ (by decide +kernel)) ggX8_longestRun_X8_isThrown
theorem dX8_longestRun_9 : decode cX8_longestRun 9 = .ok (.ifCond .eq 5, 3) := by decide +kernel
theorem dX8_longestRun_14 : decode cX8_longestRun 14 = .ok (.aload_n 0, 1) := by decide +kernel
theorem dX8_longestRun_15 : decode cX8_longestRun 15 = .ok (.aload_n 0, 1) := by decide +kernel
theorem dX8_longestRun_16 : decode cX8_longestRun 16 = .ok (.getfield 52, 3) := by decide +kernel
theorem dX8_longestRun_19 : decode cX8_longestRun 19 = .ok (.ldc_w 258, 3) := by decide +kernel
theorem dX8_longestRun_22 : decode cX8_longestRun 22 = .ok (.newarray .int, 2) := by decide +kernel
theorem dX8_longestRun_24 : decode cX8_longestRun 24 = .ok (.invokevirtual 254, 3) := by decide +kernel
set_option maxRecDepth 20000 in
theorem ggX8_longestRun_X8_longest : GoodIn wsX8_longestRun wsX8_longest := goodIn_ca (goodIn_ca (goodIn_r _ [30, 13, 14, 15, 31, 32, 33, 34, 35, 36, 7, 37, 16, 17, 18, 19, 20, 21, 38, 39, 40, 41, 42, 43, 44, 45, 46, 47, 48, 49, 50, 51, 52, 53, 54, 55, 56, 57, 58, 59, 60, 61, 62, 63, 64, 65, 66, 67, 68, 69, 27, 28, 29, 70, 71, 72, 73, 74, 75, 76, 77, 78, 79, 80, 81, 82, 83, 84, 85, 86, 87] (by decide +kernel) (by decide +kernel)) (goodIn_sub (fun _ h => List.mem_cons_of_mem _ (List.mem_append_left _ (List.mem_append_right _ h))) (by decide +kernel))) (goodIn_sub (fun _ h => List.mem_cons_of_mem _ (List.mem_append_right _ h)) (by decide +kernel))
set_option maxRecDepth 20000 in
theorem gX8_longestRun_X8_longest : GoodIn wsX8_longestRun (wsV RX8 254 RX8 yX8_longest wsX8_longest) := goodIn_app (goodIn_of _ (by decide +kernel)) ggX8_longestRun_X8_longest
theorem dX8_longestRun_27 : decode cX8_longestRun 27 = .ok (.istore_n 1, 1) := by decide +kernel
theorem dX8_longestRun_28 : decode cX8_longestRun 28 = .ok (.aload_n 0, 1) := by decide +kernel
theorem dX8_longestRun_29 : decode cX8_longestRun 29 = .ok (.iload_n 1, 1) := by decide +kernel
theorem dX8_longestRun_30 : decode cX8_longestRun 30 = .ok (.iconst (-1), 1) := by decide +kernel
theorem dX8_longestRun_31 : decode cX8_longestRun 31 = .ok (.if_icmp .ne 7, 3) := by decide +kernel
theorem dX8_longestRun_38 : decode cX8_longestRun 38 = .ok (.iconst 0, 1) := by decide +kernel
theorem dX8_longestRun_39 : decode cX8_longestRun 39 = .ok (.iconst 2, 1) := by decide +kernel
theorem dX8_longestRun_40 : decode cX8_longestRun 40 = .ok (.invokevirtual 73, 3) := by decide +kernel
theorem dX8_longestRun_43 : decode cX8_longestRun 43 = .ok (.ifCond .eq 7, 3) := by decide +kernel
theorem dX8_longestRun_50 : decode cX8_longestRun 50 = .ok (.iload_n 1, 1) := by decide +kernel
theorem dX8_longestRun_51 : decode cX8_longestRun 51 = .ok (.ireturn, 1) := by decide +kernel
set_option maxHeartbeats 4000000 in
set_option maxRecDepth 100000 in
theorem k_X8_longestRun (l : Launch) (D : va_G) (cy : Nat → ClassId) (h1 : Nat) (x2 : Value) (x3 : Value) (x4 : Value) (x5 : Value) (x6 : Value) (x7 : Value) (x8 : Value) (x9 : Value) (x10 : Value) (x11 : Value) (x12 : Value) (x13 : Value) (h14 : Nat) (x15 : Value) (x16 : Value) (x17 : Value) (x18 : Value) (g19 : Nat → Int32) (kg19_0 : g19 0 = (-1)) (kg19_1 : g19 1 = (-1)) (kg19_2 : g19 2 = (-1)) (kg19_3 : g19 3 = (-1)) (kg19_4 : g19 4 = (-1)) (kg19_5 : g19 5 = (-1)) (sz : Nat) : Met l yX8_longestRun wsX8_longestRun ({ frames := 2, cells := 1, slots := 46656, locals := 52 }) (kW D cy [.ref h1] [(h1, .inr (10, [x2, x3, x4, x5, x6, x7, x8, x9, x10, x11, x12, x13, .ref h14, x15, x16, .int 0, x17, x18])), (h14, .inl (cy 1, 6, .inl g19))] sz) (va_Qi (fun (r : Int32) (_ : Unit) => r = 0 ∧ True) (fun (_ : Unit) (t : State) => va_P D vwCl [(h1, .inr (10, [x2, x3, x4, x5, x6, x7, x8, x9, x10, x11, x12, x13, .ref h14, x15, x16, .int 0, x17, .int 0])), (h14, .inl (cy 1, 6, .inl g19))] t.heap ∧ va_D (va_A [(h1, .inr (10, [x2, x3, x4, x5, x6, x7, x8, x9, x10, x11, x12, x13, .ref h14, x15, x16, .int 0, x17, x18])), (h14, .inl (cy 1, 6, .inl g19))] sz) [(h1, .inr (10, [x2, x3, x4, x5, x6, x7, x8, x9, x10, x11, x12, x13, .ref h14, x15, x16, .int 0, x17, .int 0])), (h14, .inl (cy 1, 6, .inl g19))]) (va_A [(h1, .inr (10, [x2, x3, x4, x5, x6, x7, x8, x9, x10, x11, x12, x13, .ref h14, x15, x16, .int 0, x17, x18])), (h14, .inl (cy 1, 6, .inl g19))] sz)) 1 46656 (va_A [(h1, .inr (10, [x2, x3, x4, x5, x6, x7, x8, x9, x10, x11, x12, x13, .ref h14, x15, x16, .int 0, x17, x18])), (h14, .inl (cy 1, 6, .inl g19))] sz) := by
  refine Met.ofW (cc := cX8_longestRun) (maxL := 2) (ret := (some .int)) (by decide) rfl ?_
  intro p e s m args below meth c s₁ B hml hv
  obtain ⟨rfl, hsz, hP, hK, hD0⟩ := hv
  have hx := B.exec
  have hb := B.bytes
  have hr := B.returns
  have hts := atoms_spec (ws := wsX8_longestRun) B.pre
  have hown : s.vm.findClass RX8 = some m.cls := findClass_of_methodNamed B.named
  have hlocks := B.notSynchronized
  subst hsz
  have hD := hD0.self (sz := s.heap.size)
  generalize hAe : va_A [(h1, .inr (10, [x2, x3, x4, x5, x6, x7, x8, x9, x10, x11, x12, x13, .ref h14, x15, x16, .int 0, x17, x18])), (h14, .inl (cy 1, 6, .inl g19))] s.heap.size = A at hD ⊢
  have hA : ∀ q : Nat, s.heap.size ≤ q → A q := fun q h => by rw [← hAe]; exact Or.inr h
  have hS : va_S A s.heap s.heap [] := va_S.rf
  have hP : va_P D vwCl [(h1, .inr (10, [x2, x3, x4, x5, x6, x7, x8, x9, x10, x11, x12, x13, .ref h14, x15, x16, .int 0, x17, x18])), (h14, .inl (cy 1, 6, .inl g19))] s.heap := hP
  have hl := lv_entry ([.ref h1]) (n := 2) (Nat.le_of_ble_eq_true rfl)
  rw [lg_entry_eq]
  generalize (lg_sl ([.ref h1]) ++ List.replicate (2 - (lg_sl ([.ref h1])).length) Slot.unset).toArray = ls at hl ⊢
  have hl : lv_has ls 2 [(0, .ref h1)] := hl
  refine lv_aload_n hx hb dX8_longestRun_0 rfl (lv_at hl 0 rfl) ?_
  refine lv_aload_n hx hb dX8_longestRun_1 rfl (lv_at hl 0 rfl) ?_
  have hPc := hP.sub (ws' := [(h1, .inr (10, [x2, x3, x4, x5, x6, x7, x8, x9, x10, x11, x12, x13, .ref h14, x15, x16, .int 0, x17, x18]))]) [0] rfl
  refine va_calli (va_runV (As := []) (rest := [.ref h1]) ⟨hx, hb, hml, hown, hts⟩ (k_X8_areMany l D cy h1 (x2) (x3) (x4) (x5) (x6) (x7) (x8) (x9) (x10) (x11) (x12) (x13) (.ref h14) (x15) (x16) (x17) (x18)) (cwV 0 hts gX8_longestRun_X8_areMany rfl rfl rfl (by decide +kernel) ⟨(Nat.le_of_ble_eq_true rfl), (Nat.le_of_ble_eq_true rfl)⟩) ⟨kR_fb, va_recv hK hP (ci := 10) (q0 := 0) rfl rfl, (kR_go hPc hK)⟩ rfl rfl hl.1 rfl (lv_room (Nat.le_of_ble_eq_true rfl)) dX8_longestRun_2 ⟨(Nat.le_of_ble_eq_true rfl), (Nat.le_of_ble_eq_true rfl)⟩) hS (fun _ _ h => h.elim) (fun _ h => h.elim) (fun r9 u t H locs ht hvm hw hB hz1 hk1 hS => ?_)
  have hP := kx_kept hP hk1
  obtain ⟨rfl, hw⟩ := hw
  refine lv_iconst (v := 1) hx hb dX8_longestRun_5 (by decide) ?_
  have hPc := hP.sub (ws' := [(h1, .inr (10, [x2, x3, x4, x5, x6, x7, x8, x9, x10, x11, x12, x13, .ref h14, x15, x16, .int 0, x17, x18]))]) [0] rfl
  have hDc := hD.sub (ws' := [(h1, .inr (10, [x2, x3, x4, x5, x6, x7, x8, x9, x10, x11, x12, x13, .ref h14, x15, x16, .int 0, x17, x18]))]) [0] (by decide) rfl
  have hFc := va_free (wc := [(h1, .inr (10, [x2, x3, x4, x5, x6, x7, x8, x9, x10, x11, x12, x13, .ref h14, x15, x16, .int 0, x17, x18]))]) hD hS hA [0] rfl
  refine va_calli (va_runV (As := [.int 0, .int 1]) (rest := []) ⟨hx, hb, hml, hown, hts⟩ (k_X8_isThrown_1 l D cy h1 (x2) (x3) (x4) (x5) (x6) (x7) (x8) (x9) (x10) (x11) (x12) (x13) (.ref h14) (x15) (x16) (.int 0) (x17) (x18) H.size) (cwV 2 hts gX8_longestRun_X8_isThrown rfl rfl rfl (by decide +kernel) ⟨(Nat.le_of_ble_eq_true rfl), (Nat.le_of_ble_eq_true rfl)⟩) ⟨kW_fb, va_recv hK hP (ci := 10) (q0 := 0) rfl rfl, (kW_go hPc hK hDc)⟩ rfl rfl hl.1 rfl (lv_room (Nat.le_of_ble_eq_true rfl)) dX8_longestRun_6 ⟨(Nat.le_of_ble_eq_true rfl), (Nat.le_of_ble_eq_true rfl)⟩) hS (fun q _ h => hFc q h) hFc (fun r9 u t H locs ht hvm hw hB hz1 hk1 hS => ?_)
  obtain ⟨hP1, hD1⟩ := hB
  rw [ht] at hP1
  try dsimp only at hw hP1 hD1
  obtain ⟨hP, hD⟩ := va_join (wr := [(h14, .inl (cy 1, 6, .inl g19))]) (w1 := [(h1, .inr (10, [x2, x3, x4, x5, x6, x7, x8, x9, x10, x11, x12, x13, .ref h14, x15, x16, .int 0, x17, .int 0]))]) hP hD [0] [1] rfl rfl (by decide) (by decide) hk1 hFc hP1 hD1
  have hP : va_P D vwCl [(h14, .inl (cy 1, 6, .inl g19)), (h1, .inr (10, [x2, x3, x4, x5, x6, x7, x8, x9, x10, x11, x12, x13, .ref h14, x15, x16, .int 0, x17, .int 0]))] H := hP
  have hD : va_D A [(h14, .inl (cy 1, 6, .inl g19)), (h1, .inr (10, [x2, x3, x4, x5, x6, x7, x8, x9, x10, x11, x12, x13, .ref h14, x15, x16, .int 0, x17, .int 0]))] := hD
  obtain ⟨rfl, hw⟩ := hw
  refine lv_if_eq (tgt := 14) hx hb dX8_longestRun_9 (by decide) (fun _ => ?_) (fun h => absurd (by decide) h)
  refine lv_aload_n hx hb dX8_longestRun_14 rfl (lv_at hl 0 rfl) ?_
  refine lv_aload_n hx hb dX8_longestRun_15 rfl (lv_at hl 0 rfl) ?_
  refine va_get (D := D) (ci := 10) (v := .ref h14) (C := RX8) (T := TX8) (N := 18) hx hb hts (fun _ h => (List.mem_cons_of_mem _ (List.mem_append_left _ (List.mem_append_left _ (List.mem_append_right _ h))))) hown hK hP 1 rfl rfl 12 (by decide) (hts (.fieldLink RX8 52 "SelfishJunctionModel" "chosen" "[I") (List.mem_cons_of_mem _ (List.mem_append_left _ (List.mem_append_left _ (List.mem_append_left _ (List.mem_append_left _ (List.mem_of_getElem? (i := 0) rfl))))))) (fun _ h9 => h9) rfl dX8_longestRun_16 ?_
  refine lv_ldcw (v := 46656) hx hb hown (hts (.constant RX8 258 (46656)) (List.mem_cons_of_mem _ (List.mem_append_left _ (List.mem_append_left _ (List.mem_append_left _ (List.mem_append_left _ (List.mem_of_getElem? (i := 1) rfl))))))) dX8_longestRun_19 ?_
  refine va_newa (atype := .int) (ty := .int) (N' := 46656) (a0 := (46656, .inl (fun _ => 0))) hx hb (hts (.arrayClass .int) (List.mem_cons_of_mem _ (List.mem_append_left _ (List.mem_append_left _ (List.mem_append_left _ (List.mem_append_left _ (List.mem_of_getElem? (i := 2) rfl))))))) rfl hK hP hD hS hA (fun _ => rfl) (by decide) (by decide) (Nat.le_of_ble_eq_true rfl) (Nat.le_of_ble_eq_true rfl) (Nat.le_of_ble_eq_true rfl) dX8_longestRun_22 (fun q_3 cA_4 H hK hP hD hS => ?_)
  obtain rfl : cA_4 = cy 1 := kx_ty hK 10 1 rfl rfl
  have hK := hK.sub (tys' := tyG cy) [0, 1, 2, 3, 4, 5, 6, 7, 8, 9] rfl
  have hP : va_P D vwCl [(h14, .inl (cy 1, 6, .inl g19)), (h1, .inr (10, [x2, x3, x4, x5, x6, x7, x8, x9, x10, x11, x12, x13, .ref h14, x15, x16, .int 0, x17, .int 0])), (q_3, .inl (cy 1, 46656, .inl (fun _ => 0)))] H := hP
  have hD : va_D A [(h14, .inl (cy 1, 6, .inl g19)), (h1, .inr (10, [x2, x3, x4, x5, x6, x7, x8, x9, x10, x11, x12, x13, .ref h14, x15, x16, .int 0, x17, .int 0])), (q_3, .inl (cy 1, 46656, .inl (fun _ => 0)))] := hD
  refine W.widen (k := 1) (n := 46656) (Nat.le_of_ble_eq_true rfl) (Nat.le_of_ble_eq_true rfl) ?_
  have hPc := hP.sub (ws' := [(h1, .inr (10, [x2, x3, x4, x5, x6, x7, x8, x9, x10, x11, x12, x13, .ref h14, x15, x16, .int 0, x17, .int 0])), (h14, .inl (cy 1, 6, .inl g19)), (q_3, .inl (cy 1, 46656, .inl (fun _ => 0)))]) [1, 0, 2] rfl
  have hDc := hD.sub (ws' := [(h1, .inr (10, [x2, x3, x4, x5, x6, x7, x8, x9, x10, x11, x12, x13, .ref h14, x15, x16, .int 0, x17, .int 0])), (h14, .inl (cy 1, 6, .inl g19)), (q_3, .inl (cy 1, 46656, .inl (fun _ => 0)))]) [1, 0, 2] (by decide) rfl
  have hFc := va_free (wc := [(h1, .inr (10, [x2, x3, x4, x5, x6, x7, x8, x9, x10, x11, x12, x13, .ref h14, x15, x16, .int 0, x17, .int 0])), (h14, .inl (cy 1, 6, .inl g19)), (q_3, .inl (cy 1, 46656, .inl (fun _ => 0)))]) hD hS hA [1, 0, 2] rfl
  refine va_calli (va_runV (As := [.ref h14, .ref q_3]) (rest := []) ⟨hx, hb, hml, hown, hts⟩ (k_X8_longest l D cy h1 h14 q_3 (x2) (x3) (x4) (x5) (x6) (x7) (x8) (x9) (x10) (x11) (x12) (x13) (.ref h14) (x15) (x16) (x17) (.int 0) g19 (kg19_0) (kg19_1) (kg19_2) (kg19_3) (kg19_4) (kg19_5) (fun _ => 0) (rfl) H.size) (cwV 2 hts gX8_longestRun_X8_longest rfl rfl rfl (by decide +kernel) ⟨(Nat.le_of_ble_eq_true rfl), (Nat.le_of_ble_eq_true rfl)⟩) ⟨kW_fb, va_recv hK hP (ci := 10) (q0 := 1) rfl rfl, (kW_go hPc hK hDc)⟩ rfl rfl hl.1 rfl (lv_room (Nat.le_of_ble_eq_true rfl)) dX8_longestRun_24 ⟨(Nat.le_of_ble_eq_true rfl), (Nat.le_of_ble_eq_true rfl)⟩) hS (fun q _ h => hFc q h) hFc (fun r9 u t H locs ht hvm hw hB hz1 hk1 hS => ?_)
  obtain ⟨hP1, hD1⟩ := hB
  rw [ht] at hP1
  try dsimp only at hw hP1 hD1
  obtain ⟨hP, hD⟩ := va_join (wr := []) (w1 := [(h1, .inr (10, [x2, x3, x4, x5, x6, x7, x8, x9, x10, x11, x12, x13, .ref h14, x15, x16, .int 0, x17, .int 0])), (h14, .inl (cy 1, 6, .inl g19)), (q_3, .inl (cy 1, 46656, .inl (upd (fun _ => 0) 0 1)))]) hP hD [1, 0, 2] [] rfl rfl (by decide) (by decide) hk1 hFc hP1 hD1
  have hP : va_P D vwCl [(h1, .inr (10, [x2, x3, x4, x5, x6, x7, x8, x9, x10, x11, x12, x13, .ref h14, x15, x16, .int 0, x17, .int 0])), (h14, .inl (cy 1, 6, .inl g19)), (q_3, .inl (cy 1, 46656, .inl (upd (fun _ => 0) 0 1)))] H := hP
  have hD : va_D A [(h1, .inr (10, [x2, x3, x4, x5, x6, x7, x8, x9, x10, x11, x12, x13, .ref h14, x15, x16, .int 0, x17, .int 0])), (h14, .inl (cy 1, 6, .inl g19)), (q_3, .inl (cy 1, 46656, .inl (upd (fun _ => 0) 0 1)))] := hD
  obtain ⟨rfl, hw⟩ := hw
  refine lv_istore_n (lv' := [(1, .int 0), (0, .ref h1)]) hx hb dX8_longestRun_27 rfl hl (by decide) rfl (fun ls hl => ?_)
  refine lv_aload_n hx hb dX8_longestRun_28 rfl (lv_at hl 1 rfl) ?_
  refine lv_iload_n hx hb dX8_longestRun_29 rfl (lv_at hl 0 rfl) ?_
  refine lv_iconst (v := (-1)) hx hb dX8_longestRun_30 (by decide) ?_
  refine lv_icmp_ne (tgt := 38) hx hb dX8_longestRun_31 (by decide) (fun _ => ?_) (fun h => absurd h (by decide))
  refine lv_iconst (v := 0) hx hb dX8_longestRun_38 (by decide) ?_
  refine lv_iconst (v := 2) hx hb dX8_longestRun_39 (by decide) ?_
  have hPc := hP.sub (ws' := [(h1, .inr (10, [x2, x3, x4, x5, x6, x7, x8, x9, x10, x11, x12, x13, .ref h14, x15, x16, .int 0, x17, .int 0]))]) [0] rfl
  have hDc := hD.sub (ws' := [(h1, .inr (10, [x2, x3, x4, x5, x6, x7, x8, x9, x10, x11, x12, x13, .ref h14, x15, x16, .int 0, x17, .int 0]))]) [0] (by decide) rfl
  have hFc := va_free (wc := [(h1, .inr (10, [x2, x3, x4, x5, x6, x7, x8, x9, x10, x11, x12, x13, .ref h14, x15, x16, .int 0, x17, .int 0]))]) hD hS hA [0] rfl
  refine va_calli (va_runV (As := [.int 0, .int 2]) (rest := []) ⟨hx, hb, hml, hown, hts⟩ (k_X8_isThrown_2 l D cy h1 (x2) (x3) (x4) (x5) (x6) (x7) (x8) (x9) (x10) (x11) (x12) (x13) (.ref h14) (x15) (x16) (.int 0) (x17) (.int 0) H.size) (cwV 2 hts gX8_longestRun_X8_isThrown rfl rfl rfl (by decide +kernel) ⟨(Nat.le_of_ble_eq_true rfl), (Nat.le_of_ble_eq_true rfl)⟩) ⟨kW_fb, va_recv hK hP (ci := 10) (q0 := 0) rfl rfl, (kW_go hPc hK hDc)⟩ rfl rfl hl.1 rfl (lv_room (Nat.le_of_ble_eq_true rfl)) dX8_longestRun_40 ⟨(Nat.le_of_ble_eq_true rfl), (Nat.le_of_ble_eq_true rfl)⟩) hS (fun q _ h => hFc q h) hFc (fun r9 u t H locs ht hvm hw hB hz1 hk1 hS => ?_)
  obtain ⟨hP1, hD1⟩ := hB
  rw [ht] at hP1
  try dsimp only at hw hP1 hD1
  obtain ⟨hP, hD⟩ := va_join (wr := [(h14, .inl (cy 1, 6, .inl g19)), (q_3, .inl (cy 1, 46656, .inl (upd (fun _ => 0) 0 1)))]) (w1 := [(h1, .inr (10, [x2, x3, x4, x5, x6, x7, x8, x9, x10, x11, x12, x13, .ref h14, x15, x16, .int 0, x17, .int 0]))]) hP hD [0] [1, 2] rfl rfl (by decide) (by decide) hk1 hFc hP1 hD1
  have hP : va_P D vwCl [(h14, .inl (cy 1, 6, .inl g19)), (q_3, .inl (cy 1, 46656, .inl (upd (fun _ => 0) 0 1))), (h1, .inr (10, [x2, x3, x4, x5, x6, x7, x8, x9, x10, x11, x12, x13, .ref h14, x15, x16, .int 0, x17, .int 0]))] H := hP
  have hD : va_D A [(h14, .inl (cy 1, 6, .inl g19)), (q_3, .inl (cy 1, 46656, .inl (upd (fun _ => 0) 0 1))), (h1, .inr (10, [x2, x3, x4, x5, x6, x7, x8, x9, x10, x11, x12, x13, .ref h14, x15, x16, .int 0, x17, .int 0]))] := hD
  obtain ⟨rfl, hw⟩ := hw
  refine lv_if_eq (tgt := 50) hx hb dX8_longestRun_43 (by decide) (fun _ => ?_) (fun h => absurd (by decide) h)
  refine lv_iload_n hx hb dX8_longestRun_50 rfl (lv_at hl 0 rfl) ?_
  refine W.widen (k := 1) (n := 46656) (Nat.le_of_ble_eq_true rfl) (Nat.le_of_ble_eq_true rfl) ?_
  have hP9 := hP.sub (ws' := [(h1, .inr (10, [x2, x3, x4, x5, x6, x7, x8, x9, x10, x11, x12, x13, .ref h14, x15, x16, .int 0, x17, .int 0])), (h14, .inl (cy 1, 6, .inl g19))]) [2, 0] rfl
  have hD9 := hD.sub (ws' := [(h1, .inr (10, [x2, x3, x4, x5, x6, x7, x8, x9, x10, x11, x12, x13, .ref h14, x15, x16, .int 0, x17, .int 0])), (h14, .inl (cy 1, 6, .inl g19))]) [2, 0] (by decide) rfl
  exact W.iret (v := 0) hx hb hr (fun t ht hW => ⟨⟨0, (), rfl, ⟨rfl, trivial⟩, ⟨by rw [ht]; exact hP9, hD9⟩⟩, hS.F ht⟩) hS.2.2 dX8_longestRun_51
theorem dX6_isAtRest_0 : decode cX6_isAtRest 0 = .ok (.aload_n 0, 1) := by decide +kernel
theorem dX6_isAtRest_1 : decode cX6_isAtRest 1 = .ok (.getfield 27, 3) := by decide +kernel
theorem dX6_isAtRest_4 : decode cX6_isAtRest 4 = .ok (.iload_n 1, 1) := by decide +kernel
theorem dX6_isAtRest_5 : decode cX6_isAtRest 5 = .ok (.iaload, 1) := by decide +kernel
theorem dX6_isAtRest_6 : decode cX6_isAtRest 6 = .ok (.ifCond .ne 7, 3) := by decide +kernel
theorem dX6_isAtRest_9 : decode cX6_isAtRest 9 = .ok (.iconst 1, 1) := by decide +kernel
theorem dX6_isAtRest_10 : decode cX6_isAtRest 10 = .ok (.goto 4, 3) := by decide +kernel
theorem dX6_isAtRest_14 : decode cX6_isAtRest 14 = .ok (.ireturn, 1) := by decide +kernel
set_option maxHeartbeats 4000000 in
set_option maxRecDepth 100000 in
theorem k_X6_isAtRest (l : Launch) (D : va_G) (cy : Nat → ClassId) (h1 : Nat) (x2 : Value) (x3 : Value) (x4 : Value) (x5 : Value) (x6 : Value) (h7 : Nat) (x8 : Value) (x9 : Value) (x10 : Value) (x11 : Value) (x12 : Value) (x13 : Value) (x14 : Value) (g15 : Nat → Int32) (kg15_0 : g15 0 = 0) : Met l yX6_isAtRest wsX6_isAtRest ({ frames := 0, cells := 0, slots := 0, locals := 0 }) (kR D cy [.ref h1, .int 0] [(h1, .inr (8, [x2, x3, x4, x5, x6, .ref h7, x8, x9, x10, x11, x12, x13, x14])), (h7, .inl (cy 1, 1000, .inl g15))]) (va_Qi (fun (r : Int32) (_ : Unit) => r = 1 ∧ True) (fun (_ : Unit) (_ : State) => True) (fun _ : Nat => False)) 0 0 (fun _ : Nat => False) := by
  refine Met.ofW (cc := cX6_isAtRest) (maxL := 2) (ret := (some .boolean)) (by decide) rfl ?_
  intro p e s m args below meth c s₁ B hml hv
  obtain ⟨rfl, hP, hK⟩ := hv
  have hx := B.exec
  have hb := B.bytes
  have hr := B.returns
  have hts := atoms_spec (ws := wsX6_isAtRest) B.pre
  have hown : s.vm.findClass RX6 = some m.cls := findClass_of_methodNamed B.named
  have hlocks := B.notSynchronized
  have hS : va_S (fun _ : Nat => False) s.heap s.heap [] := va_S.rf
  have hP : va_P D vwCl [(h1, .inr (8, [x2, x3, x4, x5, x6, .ref h7, x8, x9, x10, x11, x12, x13, x14])), (h7, .inl (cy 1, 1000, .inl g15))] s.heap := hP
  have hl := lv_entry ([.ref h1, .int 0]) (n := 2) (Nat.le_of_ble_eq_true rfl)
  rw [lg_entry_eq]
  generalize (lg_sl ([.ref h1, .int 0]) ++ List.replicate (2 - (lg_sl ([.ref h1, .int 0])).length) Slot.unset).toArray = ls at hl ⊢
  have hl : lv_has ls 2 [(0, .ref h1), (1, .int 0)] := hl
  refine lv_aload_n hx hb dX6_isAtRest_0 rfl (lv_at hl 0 rfl) ?_
  refine va_get (D := D) (ci := 8) (v := .ref h7) (C := RX6) (T := TX6) (N := 13) hx hb hts (fun _ h => (List.mem_cons_of_mem _ (List.mem_append_left _ (List.mem_append_right _ h)))) hown hK hP 0 rfl rfl 5 (by decide) (hts (.fieldLink RX6 27 "SelfishJunction$Survey" "moves" "[I") (List.mem_cons_of_mem _ (List.mem_append_left _ (List.mem_append_left _ (List.mem_of_getElem? (i := 0) rfl))))) (fun _ h9 => h9) rfl dX6_isAtRest_1 ?_
  refine lv_iload_n hx hb dX6_isAtRest_4 rfl (lv_at hl 1 rfl) ?_
  refine va_iald hx hb hK hP 1 1 rfl rfl (kx_in 0 1000 rfl ⟨(Nat.le_of_ble_eq_true rfl), (Nat.le_of_ble_eq_true rfl)⟩ (Nat.le_of_ble_eq_true rfl)) dX6_isAtRest_5 ?_
  refine lv_topi (fun v_1 ev_1 => ?_)
  obtain rfl : v_1 = 0 := ev_1.trans (kg15_0)
  refine lv_if_ne (tgt := 13) hx hb dX6_isAtRest_6 (by decide) (fun h => absurd (by decide) h) (fun _ => ?_)
  refine lv_iconst (v := 1) hx hb dX6_isAtRest_9 (by decide) ?_
  refine lv_goto (tgt := 14) hx hb dX6_isAtRest_10 (by decide) ?_
  refine W.widen (k := 0) (n := 0) (Nat.le_of_ble_eq_true rfl) (Nat.le_of_ble_eq_true rfl) ?_
  exact W.zret (v := 1) hx hb hr rfl (fun t ht hW => ⟨⟨1, (), rfl, ⟨rfl, trivial⟩, trivial⟩, hS.F ht⟩) hS.2.2 dX6_isAtRest_14
theorem dX6_leastOf_0 : decode cX6_leastOf 0 = .ok (.iconst (-1), 1) := by decide +kernel
theorem dX6_leastOf_1 : decode cX6_leastOf 1 = .ok (.istore_n 2, 1) := by decide +kernel
theorem dX6_leastOf_2 : decode cX6_leastOf 2 = .ok (.iconst 0, 1) := by decide +kernel
theorem dX6_leastOf_3 : decode cX6_leastOf 3 = .ok (.istore_n 3, 1) := by decide +kernel
theorem dX6_leastOf_4 : decode cX6_leastOf 4 = .ok (.iload_n 3, 1) := by decide +kernel
theorem dX6_leastOf_5 : decode cX6_leastOf 5 = .ok (.aload_n 0, 1) := by decide +kernel
theorem dX6_leastOf_6 : decode cX6_leastOf 6 = .ok (.getfield 98, 3) := by decide +kernel
theorem dX6_leastOf_9 : decode cX6_leastOf 9 = .ok (.if_icmp .ge 42, 3) := by decide +kernel
theorem dX6_leastOf_12 : decode cX6_leastOf 12 = .ok (.iload_n 1, 1) := by decide +kernel
theorem dX6_leastOf_13 : decode cX6_leastOf 13 = .ok (.ifCond .eq 11, 3) := by decide +kernel
theorem dX6_leastOf_16 : decode cX6_leastOf 16 = .ok (.aload_n 0, 1) := by decide +kernel
theorem dX6_leastOf_17 : decode cX6_leastOf 17 = .ok (.iload_n 3, 1) := by decide +kernel
theorem dX6_leastOf_18 : decode cX6_leastOf 18 = .ok (.invokevirtual 112, 3) := by decide +kernel
set_option maxRecDepth 20000 in
theorem ggX6_leastOf_X6_isAtRest : GoodIn wsX6_leastOf wsX6_isAtRest := goodIn_ca (goodIn_r _ [7, 8, 9, 10, 11, 12, 13, 14, 15, 16, 17, 18, 19, 20, 21] (by decide +kernel) (by decide +kernel)) (goodIn_sub (fun _ h => List.mem_cons_of_mem _ (List.mem_append_right _ h)) (by decide +kernel))
set_option maxRecDepth 20000 in
theorem gX6_leastOf_X6_isAtRest : GoodIn wsX6_leastOf (wsV RX6 112 RX6 yX6_isAtRest wsX6_isAtRest) := goodIn_app (goodIn_of _ (by decide +kernel)) ggX6_leastOf_X6_isAtRest
theorem dX6_leastOf_21 : decode cX6_leastOf 21 = .ok (.ifCond .eq 24, 3) := by decide +kernel
theorem dX6_leastOf_24 : decode cX6_leastOf 24 = .ok (.iload_n 2, 1) := by decide +kernel
theorem dX6_leastOf_25 : decode cX6_leastOf 25 = .ok (.ifCond .lt 13, 3) := by decide +kernel
theorem dX6_leastOf_38 : decode cX6_leastOf 38 = .ok (.aload_n 0, 1) := by decide +kernel
theorem dX6_leastOf_39 : decode cX6_leastOf 39 = .ok (.getfield 24, 3) := by decide +kernel
theorem dX6_leastOf_42 : decode cX6_leastOf 42 = .ok (.iload_n 3, 1) := by decide +kernel
theorem dX6_leastOf_43 : decode cX6_leastOf 43 = .ok (.iaload, 1) := by decide +kernel
theorem dX6_leastOf_44 : decode cX6_leastOf 44 = .ok (.istore_n 2, 1) := by decide +kernel
theorem dX6_leastOf_45 : decode cX6_leastOf 45 = .ok (.iinc 3 1, 3) := by decide +kernel
theorem dX6_leastOf_48 : decode cX6_leastOf 48 = .ok (.goto (-44), 3) := by decide +kernel
theorem dX6_leastOf_51 : decode cX6_leastOf 51 = .ok (.iload_n 2, 1) := by decide +kernel
theorem dX6_leastOf_52 : decode cX6_leastOf 52 = .ok (.ireturn, 1) := by decide +kernel
set_option maxHeartbeats 4000000 in
set_option maxRecDepth 100000 in
theorem k_X6_leastOf (l : Launch) (D : va_G) (cy : Nat → ClassId) (h1 : Nat) (x2 : Value) (x3 : Value) (x4 : Value) (x5 : Value) (h6 : Nat) (h7 : Nat) (x8 : Value) (x9 : Value) (x10 : Value) (x11 : Value) (x12 : Value) (x13 : Value) (g14 : Nat → Int32) (kg14_0 : g14 0 = 0) (g15 : Nat → Int32) (kg15_0 : g15 0 = 0) : Met l yX6_leastOf wsX6_leastOf ({ frames := 1, cells := 0, slots := 0, locals := 21 }) (kR D cy [.ref h1, .int 1] [(h1, .inr (8, [x2, x3, x4, x5, .ref h6, .ref h7, x8, x9, x10, x11, x12, x13, .int 1])), (h6, .inl (cy 1, 1000, .inl g14)), (h7, .inl (cy 1, 1000, .inl g15))]) (va_Qi (fun (r : Int32) (_ : Unit) => r = 0 ∧ True) (fun (_ : Unit) (_ : State) => True) (fun _ : Nat => False)) 0 0 (fun _ : Nat => False) := by
  refine Met.ofW (cc := cX6_leastOf) (maxL := 4) (ret := (some .int)) (by decide) rfl ?_
  intro p e s m args below meth c s₁ B hml hv
  obtain ⟨rfl, hP, hK⟩ := hv
  have hx := B.exec
  have hb := B.bytes
  have hr := B.returns
  have hts := atoms_spec (ws := wsX6_leastOf) B.pre
  have hown : s.vm.findClass RX6 = some m.cls := findClass_of_methodNamed B.named
  have hlocks := B.notSynchronized
  have hS : va_S (fun _ : Nat => False) s.heap s.heap [] := va_S.rf
  have hP : va_P D vwCl [(h1, .inr (8, [x2, x3, x4, x5, .ref h6, .ref h7, x8, x9, x10, x11, x12, x13, .int 1])), (h6, .inl (cy 1, 1000, .inl g14)), (h7, .inl (cy 1, 1000, .inl g15))] s.heap := hP
  have hl := lv_entry ([.ref h1, .int 1]) (n := 4) (Nat.le_of_ble_eq_true rfl)
  rw [lg_entry_eq]
  generalize (lg_sl ([.ref h1, .int 1]) ++ List.replicate (4 - (lg_sl ([.ref h1, .int 1])).length) Slot.unset).toArray = ls at hl ⊢
  have hl : lv_has ls 4 [(0, .ref h1), (1, .int 1)] := hl
  refine lv_iconst (v := (-1)) hx hb dX6_leastOf_0 (by decide) ?_
  refine lv_istore_n (lv' := [(2, .int (-1)), (0, .ref h1), (1, .int 1)]) hx hb dX6_leastOf_1 rfl hl (by decide) rfl (fun ls hl => ?_)
  refine lv_iconst (v := 0) hx hb dX6_leastOf_2 (by decide) ?_
  refine lv_istore_n (lv' := [(3, .int 0), (2, .int (-1)), (0, .ref h1), (1, .int 1)]) hx hb dX6_leastOf_3 rfl hl (by decide) rfl (fun ls hl => ?_)
  refine lv_iload_n hx hb dX6_leastOf_4 rfl (lv_at hl 0 rfl) ?_
  refine lv_aload_n hx hb dX6_leastOf_5 rfl (lv_at hl 2 rfl) ?_
  refine va_get (D := D) (ci := 8) (v := .int 1) (C := RX6) (T := TX6) (N := 13) hx hb hts (fun _ h => (List.mem_cons_of_mem _ (List.mem_append_left _ (List.mem_append_right _ h)))) hown hK hP 0 rfl rfl 12 (by decide) (hts (.fieldLink RX6 98 "SelfishJunction$Survey" "filled" "I") (List.mem_cons_of_mem _ (List.mem_append_left _ (List.mem_append_left _ (List.mem_of_getElem? (i := 0) rfl))))) (fun _ h9 => h9) rfl dX6_leastOf_6 ?_
  refine lv_icmp_ge (tgt := 51) hx hb dX6_leastOf_9 (by decide) (fun h => absurd h (by decide)) (fun _ => ?_)
  refine lv_iload_n hx hb dX6_leastOf_12 rfl (lv_at hl 3 rfl) ?_
  refine lv_if_eq (tgt := 24) hx hb dX6_leastOf_13 (by decide) (fun h => absurd h (by decide)) (fun _ => ?_)
  refine lv_aload_n hx hb dX6_leastOf_16 rfl (lv_at hl 2 rfl) ?_
  refine lv_iload_n hx hb dX6_leastOf_17 rfl (lv_at hl 0 rfl) ?_
  have hPc := hP.sub (ws' := [(h1, .inr (8, [x2, x3, x4, x5, .ref h6, .ref h7, x8, x9, x10, x11, x12, x13, .int 1])), (h7, .inl (cy 1, 1000, .inl g15))]) [0, 2] rfl
  refine va_calli (va_runV (As := [.int 0]) (rest := []) ⟨hx, hb, hml, hown, hts⟩ (k_X6_isAtRest l D cy h1 (x2) (x3) (x4) (x5) (.ref h6) h7 (x8) (x9) (x10) (x11) (x12) (x13) (.int 1) g15 (kg15_0)) (cwV 1 hts gX6_leastOf_X6_isAtRest rfl rfl rfl (by decide +kernel) ⟨(Nat.le_of_ble_eq_true rfl), (Nat.le_of_ble_eq_true rfl)⟩) ⟨kR_fb, va_recv hK hP (ci := 8) (q0 := 0) rfl rfl, (kR_go hPc hK)⟩ rfl rfl hl.1 rfl (lv_room (Nat.le_of_ble_eq_true rfl)) dX6_leastOf_18 ⟨(Nat.le_of_ble_eq_true rfl), (Nat.le_of_ble_eq_true rfl)⟩) hS (fun _ _ h => h.elim) (fun _ h => h.elim) (fun r9 u t H locs ht hvm hw hB hz1 hk1 hS => ?_)
  have hP := kx_kept hP hk1
  obtain ⟨rfl, hw⟩ := hw
  refine lv_if_eq (tgt := 45) hx hb dX6_leastOf_21 (by decide) (fun h => absurd h (by decide)) (fun _ => ?_)
  refine lv_iload_n hx hb dX6_leastOf_24 rfl (lv_at hl 1 rfl) ?_
  refine lv_if_lt (tgt := 38) hx hb dX6_leastOf_25 (by decide) (fun _ => ?_) (fun h => absurd (by decide) h)
  refine lv_aload_n hx hb dX6_leastOf_38 rfl (lv_at hl 2 rfl) ?_
  refine va_get (D := D) (ci := 8) (v := .ref h6) (C := RX6) (T := TX6) (N := 13) hx hb hts (fun _ h => (List.mem_cons_of_mem _ (List.mem_append_left _ (List.mem_append_right _ h)))) hown hK hP 0 rfl rfl 4 (by decide) (hts (.fieldLink RX6 24 "SelfishJunction$Survey" "totals" "[I") (List.mem_cons_of_mem _ (List.mem_append_left _ (List.mem_append_left _ (List.mem_of_getElem? (i := 1) rfl))))) (fun _ h9 => h9) rfl dX6_leastOf_39 ?_
  refine lv_iload_n hx hb dX6_leastOf_42 rfl (lv_at hl 0 rfl) ?_
  refine va_iald hx hb hK hP 1 1 rfl rfl (kx_in 0 1000 rfl ⟨(Nat.le_of_ble_eq_true rfl), (Nat.le_of_ble_eq_true rfl)⟩ (Nat.le_of_ble_eq_true rfl)) dX6_leastOf_43 ?_
  refine lv_topi (fun v_2 ev_2 => ?_)
  obtain rfl : v_2 = 0 := ev_2.trans (kg14_0)
  refine lv_istore_n (lv' := [(2, .int 0), (3, .int 0), (0, .ref h1), (1, .int 1)]) hx hb dX6_leastOf_44 rfl hl (by decide) rfl (fun ls hl => ?_)
  refine lv_iinc (v := 1) (lv' := [(3, .int 1), (2, .int 0), (0, .ref h1), (1, .int 1)]) hx hb dX6_leastOf_45 hl (k := 1) rfl (by decide) (by decide) rfl (fun ls hl => ?_)
  refine lv_goto (tgt := 4) hx hb dX6_leastOf_48 (by decide) ?_
  refine lv_iload_n hx hb dX6_leastOf_4 rfl (lv_at hl 0 rfl) ?_
  refine lv_aload_n hx hb dX6_leastOf_5 rfl (lv_at hl 2 rfl) ?_
  refine va_get (D := D) (ci := 8) (v := .int 1) (C := RX6) (T := TX6) (N := 13) hx hb hts (fun _ h => (List.mem_cons_of_mem _ (List.mem_append_left _ (List.mem_append_right _ h)))) hown hK hP 0 rfl rfl 12 (by decide) (hts (.fieldLink RX6 98 "SelfishJunction$Survey" "filled" "I") (List.mem_cons_of_mem _ (List.mem_append_left _ (List.mem_append_left _ (List.mem_of_getElem? (i := 0) rfl))))) (fun _ h9 => h9) rfl dX6_leastOf_6 ?_
  refine lv_icmp_ge (tgt := 51) hx hb dX6_leastOf_9 (by decide) (fun _ => ?_) (fun h => absurd (by decide) h)
  refine lv_iload_n hx hb dX6_leastOf_51 rfl (lv_at hl 1 rfl) ?_
  refine W.widen (k := 0) (n := 0) (Nat.le_of_ble_eq_true rfl) (Nat.le_of_ble_eq_true rfl) ?_
  exact W.iret (v := 0) hx hb hr (fun t ht hW => ⟨⟨0, (), rfl, ⟨rfl, trivial⟩, trivial⟩, hS.F ht⟩) hS.2.2 dX6_leastOf_52
theorem dX7_lowestParadox_0 : decode cX7_lowestParadox 0 = .ok (.iconst 0, 1) := by decide +kernel
theorem dX7_lowestParadox_1 : decode cX7_lowestParadox 1 = .ok (.istore_n 2, 1) := by decide +kernel
theorem dX7_lowestParadox_2 : decode cX7_lowestParadox 2 = .ok (.iload_n 2, 1) := by decide +kernel
theorem dX7_lowestParadox_3 : decode cX7_lowestParadox 3 = .ok (.aload_n 0, 1) := by decide +kernel
theorem dX7_lowestParadox_4 : decode cX7_lowestParadox 4 = .ok (.getfield 10, 3) := by decide +kernel
theorem dX7_lowestParadox_7 : decode cX7_lowestParadox 7 = .ok (.getfield 92, 3) := by decide +kernel
theorem dX7_lowestParadox_10 : decode cX7_lowestParadox 10 = .ok (.if_icmp .ge 107, 3) := by decide +kernel
theorem dX7_lowestParadox_117 : decode cX7_lowestParadox 117 = .ok (.iconst (-1), 1) := by decide +kernel
theorem dX7_lowestParadox_118 : decode cX7_lowestParadox 118 = .ok (.ireturn, 1) := by decide +kernel
set_option maxHeartbeats 4000000 in
set_option maxRecDepth 100000 in
theorem k_X7_lowestParadox (l : Launch) (D : va_G) (cy : Nat → ClassId) (h1 : Nat) (h2 : Nat) (x3 : Value) (x4 : Value) (x5 : Value) (x6 : Value) (x7 : Value) (x8 : Value) (x9 : Value) (x10 : Value) (x11 : Value) : Met l yX7_lowestParadox wsX7_lowestParadox ({ frames := 0, cells := 0, slots := 0, locals := 0 }) (kR D cy [.ref h1, .int 0] [(h1, .inr (9, [.ref h2, x3, x4, x5, x6, x7, x8])), (h2, .inr (2, [x9, x10, .int 0, x11]))]) (va_Qi (fun (r : Int32) (_ : Unit) => r = (-1) ∧ True) (fun (_ : Unit) (_ : State) => True) (fun _ : Nat => False)) 0 0 (fun _ : Nat => False) := by
  refine Met.ofW (cc := cX7_lowestParadox) (maxL := 4) (ret := (some .int)) (by decide) rfl ?_
  intro p e s m args below meth c s₁ B hml hv
  obtain ⟨rfl, hP, hK⟩ := hv
  have hx := B.exec
  have hb := B.bytes
  have hr := B.returns
  have hts := atoms_spec (ws := wsX7_lowestParadox) B.pre
  have hown : s.vm.findClass RX7 = some m.cls := findClass_of_methodNamed B.named
  have hlocks := B.notSynchronized
  have hS : va_S (fun _ : Nat => False) s.heap s.heap [] := va_S.rf
  have hP : va_P D vwCl [(h1, .inr (9, [.ref h2, x3, x4, x5, x6, x7, x8])), (h2, .inr (2, [x9, x10, .int 0, x11]))] s.heap := hP
  have hl := lv_entry ([.ref h1, .int 0]) (n := 4) (Nat.le_of_ble_eq_true rfl)
  rw [lg_entry_eq]
  generalize (lg_sl ([.ref h1, .int 0]) ++ List.replicate (4 - (lg_sl ([.ref h1, .int 0])).length) Slot.unset).toArray = ls at hl ⊢
  have hl : lv_has ls 4 [(0, .ref h1), (1, .int 0)] := hl
  refine lv_iconst (v := 0) hx hb dX7_lowestParadox_0 (by decide) ?_
  refine lv_istore_n (lv' := [(2, .int 0), (0, .ref h1), (1, .int 0)]) hx hb dX7_lowestParadox_1 rfl hl (by decide) rfl (fun ls hl => ?_)
  refine lv_iload_n hx hb dX7_lowestParadox_2 rfl (lv_at hl 0 rfl) ?_
  refine lv_aload_n hx hb dX7_lowestParadox_3 rfl (lv_at hl 1 rfl) ?_
  refine va_get (D := D) (ci := 9) (v := .ref h2) (C := RX7) (T := TX7) (N := 7) hx hb hts (fun _ h => (List.mem_cons_of_mem _ (List.mem_append_left _ (List.mem_append_left _ (List.mem_append_left _ (List.mem_append_left _ (List.mem_append_left _ (List.mem_append_left _ (List.mem_append_left _ (List.mem_append_right _ h)))))))))) hown hK hP 0 rfl rfl 0 (by decide) (hts (.fieldLink RX7 10 "SelfishJunction" "board" "LSelfishJunction$Board;") (List.mem_cons_of_mem _ (List.mem_append_left _ (List.mem_append_left _ (List.mem_append_left _ (List.mem_append_left _ (List.mem_append_left _ (List.mem_append_left _ (List.mem_append_left _ (List.mem_append_left _ (List.mem_append_left _ (List.mem_of_getElem? (i := 0) rfl)))))))))))) (fun _ h9 => h9) rfl dX7_lowestParadox_4 ?_
  refine va_get (D := D) (ci := 2) (v := .int 0) (C := RX0) (T := TX0) (N := 4) hx hb hts (fun _ h => (List.mem_cons_of_mem _ (List.mem_append_left _ (List.mem_append_left _ (List.mem_append_left _ (List.mem_append_left _ (List.mem_append_left _ (List.mem_append_left _ (List.mem_append_right _ h))))))))) hown hK hP 1 rfl rfl 2 (by decide) (hts (.fieldLink RX7 92 "SelfishJunction$Board" "resourceCount" "I") (List.mem_cons_of_mem _ (List.mem_append_left _ (List.mem_append_left _ (List.mem_append_left _ (List.mem_append_left _ (List.mem_append_left _ (List.mem_append_left _ (List.mem_append_left _ (List.mem_append_left _ (List.mem_append_left _ (List.mem_of_getElem? (i := 1) rfl)))))))))))) (fun _ h9 => h9) rfl dX7_lowestParadox_7 ?_
  refine lv_icmp_ge (tgt := 117) hx hb dX7_lowestParadox_10 (by decide) (fun _ => ?_) (fun h => absurd (by decide) h)
  refine lv_iconst (v := (-1)) hx hb dX7_lowestParadox_117 (by decide) ?_
  refine W.widen (k := 0) (n := 0) (Nat.le_of_ble_eq_true rfl) (Nat.le_of_ble_eq_true rfl) ?_
  exact W.iret (v := (-1)) hx hb hr (fun t ht hW => ⟨⟨(-1), (), rfl, ⟨rfl, trivial⟩, trivial⟩, hS.F ht⟩) hS.2.2 dX7_lowestParadox_118
theorem dX7_paradox_0 : decode cX7_paradox 0 = .ok (.aload_n 0, 1) := by decide +kernel
theorem dX7_paradox_1 : decode cX7_paradox 1 = .ok (.invokevirtual 264, 3) := by decide +kernel
set_option maxRecDepth 20000 in
theorem ggX7_paradox_X7_lookAtPlays : GoodIn wsX7_paradox wsX7_lookAtPlays := goodIn_ca (goodIn_ca (goodIn_ca (goodIn_r _ [8, 3, 9, 10, 11, 12, 7, 13, 14, 15, 16, 17, 18, 19, 20, 21, 22, 23, 24, 25, 26, 27, 28, 29, 30, 31, 32, 33, 34, 35, 36, 37, 38, 39, 40, 41, 42, 43, 44, 45, 46, 47, 48, 49, 50, 51, 52, 53, 54, 55, 56, 57, 58, 59, 60, 61, 62, 63, 64, 65, 66, 67, 68, 69, 70, 71, 72, 73, 74, 75, 76, 77, 78, 79, 80, 81, 82, 83, 84, 85, 86, 87, 88, 89, 90, 91, 92, 93, 94, 95, 96, 97, 98, 99, 100, 101, 102, 103, 104, 105, 106, 107, 108, 109, 110, 111, 112, 113, 114, 161, 162, 163, 164, 165, 166, 167, 168, 169, 170, 171, 172, 173, 174, 175, 176, 177, 178, 179, 180, 181, 182, 183, 184, 185, 186, 187, 188, 189, 190, 191, 192, 193, 194, 195, 196, 197, 198, 199, 200] (by decide +kernel) (by decide +kernel)) (goodIn_sub (fun _ h => List.mem_cons_of_mem _ (List.mem_append_left _ (List.mem_append_left _ (List.mem_append_right _ h)))) (by decide +kernel))) (goodIn_sub (fun _ h => List.mem_cons_of_mem _ (List.mem_append_left _ (List.mem_append_right _ h))) (by decide +kernel))) (goodIn_sub (fun _ h => List.mem_cons_of_mem _ (List.mem_append_right _ h)) (by decide +kernel))
set_option maxRecDepth 20000 in
theorem gX7_paradox_X7_lookAtPlays : GoodIn wsX7_paradox (wsV RX7 264 RX7 yX7_lookAtPlays wsX7_lookAtPlays) := goodIn_app (goodIn_of _ (by decide +kernel)) ggX7_paradox_X7_lookAtPlays
theorem dX7_paradox_4 : decode cX7_paradox 4 = .ok (.aload_n 0, 1) := by decide +kernel
theorem dX7_paradox_5 : decode cX7_paradox 5 = .ok (.aload_n 0, 1) := by decide +kernel
theorem dX7_paradox_6 : decode cX7_paradox 6 = .ok (.getfield 29, 3) := by decide +kernel
theorem dX7_paradox_9 : decode cX7_paradox 9 = .ok (.iconst 1, 1) := by decide +kernel
theorem dX7_paradox_10 : decode cX7_paradox 10 = .ok (.invokevirtual 287, 3) := by decide +kernel
set_option maxRecDepth 20000 in
theorem ggX7_paradox_X6_leastOf : GoodIn wsX7_paradox wsX6_leastOf := goodIn_ca (goodIn_r _ [118, 66, 67, 119, 120, 121, 21, 122, 68, 168, 169, 170, 171, 172, 173, 174, 175, 176, 177, 178, 179, 180] (by decide +kernel) (by decide +kernel)) (goodIn_sub (fun _ h => List.mem_cons_of_mem _ (List.mem_append_left _ (List.mem_append_right _ h))) (by decide +kernel))
set_option maxRecDepth 20000 in
theorem gX7_paradox_X6_leastOf : GoodIn wsX7_paradox (wsV RX7 287 RX6 yX6_leastOf wsX6_leastOf) := goodIn_app (goodIn_of _ (by decide +kernel)) ggX7_paradox_X6_leastOf
theorem dX7_paradox_13 : decode cX7_paradox 13 = .ok (.invokevirtual 314, 3) := by decide +kernel
set_option maxRecDepth 20000 in
theorem ggX7_paradox_X7_lowestParadox : GoodIn wsX7_paradox wsX7_lowestParadox := goodIn_ca (goodIn_ca (goodIn_r _ [126, 9, 127, 16, 128, 3, 129, 130, 131, 132, 133, 134, 84, 7, 85, 135, 136, 137, 35, 138, 44, 90, 37, 102, 139, 140, 141, 48, 142, 50, 51, 143, 144, 145, 146, 147, 148, 149, 150, 151, 152, 39, 114, 41, 42, 43, 45, 46, 47, 49, 153, 78, 79, 80, 81, 82, 83, 18, 19, 20, 21, 22, 23, 24, 25, 26, 27, 28, 29, 30, 31, 32, 33, 34, 36, 38, 40, 52, 53, 54, 55, 56, 57, 58, 59, 60, 61, 62, 63, 64, 65, 66, 67, 68, 69, 70, 71, 72, 73, 74, 75, 76, 77, 86, 87, 88, 89, 91, 92, 93, 94, 95, 96, 97, 98, 99, 100, 101, 103, 104, 105, 106, 107, 108, 109, 110, 111, 112, 113, 154, 155, 156, 157, 158, 159, 160, 119, 120, 121, 122, 161, 162, 163, 164, 165, 166, 167, 184, 185, 186, 187, 181, 182, 183, 188, 189, 190, 191, 192, 193, 168, 169, 170, 171, 172, 173, 174, 175, 176, 177, 178, 179, 180, 194, 195, 196, 197, 198, 199, 200] (by decide +kernel) (by decide +kernel)) (goodIn_sub (fun _ h => List.mem_cons_of_mem _ (List.mem_append_left _ (List.mem_append_right _ h))) (by decide +kernel))) (goodIn_sub (fun _ h => List.mem_cons_of_mem _ (List.mem_append_right _ h)) (by decide +kernel))
set_option maxRecDepth 20000 in
theorem gX7_paradox_X7_lowestParadox : GoodIn wsX7_paradox (wsV RX7 314 RX7 yX7_lowestParadox wsX7_lowestParadox) := goodIn_app (goodIn_of _ (by decide +kernel)) ggX7_paradox_X7_lowestParadox
theorem dX7_paradox_16 : decode cX7_paradox 16 = .ok (.istore_n 1, 1) := by decide +kernel
theorem dX7_paradox_17 : decode cX7_paradox 17 = .ok (.iload_n 1, 1) := by decide +kernel
theorem dX7_paradox_18 : decode cX7_paradox 18 = .ok (.ifCond .ge 14, 3) := by decide +kernel
theorem dX7_paradox_21 : decode cX7_paradox 21 = .ok (.new 139, 3) := by decide +kernel
theorem dX7_paradox_24 : decode cX7_paradox 24 = .ok (.dup, 1) := by decide +kernel
theorem dX7_paradox_25 : decode cX7_paradox 25 = .ok (.ldc_w 317, 3) := by decide +kernel
theorem dX7_paradox_28 : decode cX7_paradox 28 = .ok (.invokespecial 143, 3) := by decide +kernel
theorem dX7_paradox_31 : decode cX7_paradox 31 = .ok (.athrow, 1) := by decide +kernel
set_option maxHeartbeats 4000000 in
set_option maxRecDepth 100000 in
theorem k_X7_paradox (l : Launch) (hl9 : l.stackTraces = false) (D : va_G) (cy : Nat → ClassId) (h1 : Nat) (h2 : Nat) (h3 : Nat) (x4 : Value) (h5 : Nat) (x6 : Value) (x7 : Value) (x8 : Value) (x9 : Value) (x10 : Value) (x11 : Value) (x12 : Value) (x13 : Value) (x14 : Value) (x15 : Value) (x16 : Value) (h17 : Nat) (h18 : Nat) (x19 : Value) (x20 : Value) (x21 : Value) (x22 : Value) (h23 : Nat) (g24 : Nat → Int32) (kg24_0 : g24 0 = 0) (g25 : Nat → Int32) (kg25_0 : g25 0 = 0) (x26 : Value) (x27 : Value) (x28 : Value) (sz : Nat) : vx_Met l yX7_paradox wsX7_paradox ({ frames := 6, cells := 1, slots := 6, locals := 82 }) (kWX D cy [.ref h1] [(h1, .inr (9, [.ref h2, .ref h3, x4, .ref h5, x6, x7, x8])), (h2, .inr (2, [x9, x10, .int 0, .int 0])), (h3, .inr (5, [x11, x12, .int 0])), (h5, .inr (8, [x13, x14, x15, x16, .ref h17, .ref h18, x19, x20, x21, x22, .ref h23, .int 0, .int 0])), (h17, .inl (cy 1, 1000, .inl g24)), (h18, .inl (cy 1, 1000, .inl g25)), (h23, .inr (5, [x26, x27, x28]))] sz) (va_Qi (fun (r : Int32) (_ : Unit) => False) (fun (_ : Unit) (t : State) => True) (va_A [(h1, .inr (9, [.ref h2, .ref h3, x4, .ref h5, x6, x7, x8])), (h2, .inr (2, [x9, x10, .int 0, .int 0])), (h3, .inr (5, [x11, x12, .int 0])), (h5, .inr (8, [x13, x14, x15, x16, .ref h17, .ref h18, x19, x20, x21, x22, .ref h23, .int 0, .int 0])), (h17, .inl (cy 1, 1000, .inl g24)), (h18, .inl (cy 1, 1000, .inl g25)), (h23, .inr (5, [x26, x27, x28]))] sz)) (vx_X (fun _ : Unit => True) (fun (E : String) (_ : Unit) (_ : State) => (E = "java/util/NoSuchElementException" ∧ True)) (va_A [(h1, .inr (9, [.ref h2, .ref h3, x4, .ref h5, x6, x7, x8])), (h2, .inr (2, [x9, x10, .int 0, .int 0])), (h3, .inr (5, [x11, x12, .int 0])), (h5, .inr (8, [x13, x14, x15, x16, .ref h17, .ref h18, x19, x20, x21, x22, .ref h23, .int 0, .int 0])), (h17, .inl (cy 1, 1000, .inl g24)), (h18, .inl (cy 1, 1000, .inl g25)), (h23, .inr (5, [x26, x27, x28]))] sz)) 1 6 (va_A [(h1, .inr (9, [.ref h2, .ref h3, x4, .ref h5, x6, x7, x8])), (h2, .inr (2, [x9, x10, .int 0, .int 0])), (h3, .inr (5, [x11, x12, .int 0])), (h5, .inr (8, [x13, x14, x15, x16, .ref h17, .ref h18, x19, x20, x21, x22, .ref h23, .int 0, .int 0])), (h17, .inl (cy 1, 1000, .inl g24)), (h18, .inl (cy 1, 1000, .inl g25)), (h23, .inr (5, [x26, x27, x28]))] sz) := by
  refine vx_ofW (cc := cX7_paradox) (maxL := 2) (ret := (some .int)) (by decide) rfl ?_
  intro p e s m args below meth c s₁ B hml ht9 hv
  obtain ⟨rfl, hsz, hP, hK, hD0, hE⟩ := hv
  have hx := B.exec
  have hb := B.bytes
  have hr := B.returns
  have hts := atoms_spec (ws := wsX7_paradox) B.pre
  have hown : s.vm.findClass RX7 = some m.cls := findClass_of_methodNamed B.named
  have hlocks := B.notSynchronized
  subst hsz
  have hD := hD0.self (sz := s.heap.size)
  generalize hAe : va_A [(h1, .inr (9, [.ref h2, .ref h3, x4, .ref h5, x6, x7, x8])), (h2, .inr (2, [x9, x10, .int 0, .int 0])), (h3, .inr (5, [x11, x12, .int 0])), (h5, .inr (8, [x13, x14, x15, x16, .ref h17, .ref h18, x19, x20, x21, x22, .ref h23, .int 0, .int 0])), (h17, .inl (cy 1, 1000, .inl g24)), (h18, .inl (cy 1, 1000, .inl g25)), (h23, .inr (5, [x26, x27, x28]))] s.heap.size = A at hD hE ⊢
  have hA : ∀ q : Nat, s.heap.size ≤ q → A q := fun q h => by rw [← hAe]; exact Or.inr h
  have hS : va_S A s.heap s.heap [] := va_S.rf
  have hP : va_P D vwCl [(h1, .inr (9, [.ref h2, .ref h3, x4, .ref h5, x6, x7, x8])), (h2, .inr (2, [x9, x10, .int 0, .int 0])), (h3, .inr (5, [x11, x12, .int 0])), (h5, .inr (8, [x13, x14, x15, x16, .ref h17, .ref h18, x19, x20, x21, x22, .ref h23, .int 0, .int 0])), (h17, .inl (cy 1, 1000, .inl g24)), (h18, .inl (cy 1, 1000, .inl g25)), (h23, .inr (5, [x26, x27, x28]))] s.heap := hP
  have hl := lv_entry ([.ref h1]) (n := 2) (Nat.le_of_ble_eq_true rfl)
  rw [lg_entry_eq]
  generalize (lg_sl ([.ref h1]) ++ List.replicate (2 - (lg_sl ([.ref h1])).length) Slot.unset).toArray = ls at hl ⊢
  have hl : lv_has ls 2 [(0, .ref h1)] := hl
  refine lv_aload_n hx hb dX7_paradox_0 rfl (lv_at hl 0 rfl) ?_
  have hPc := hP.sub (ws' := [(h1, .inr (9, [.ref h2, .ref h3, x4, .ref h5, x6, x7, x8])), (h2, .inr (2, [x9, x10, .int 0, .int 0])), (h3, .inr (5, [x11, x12, .int 0])), (h5, .inr (8, [x13, x14, x15, x16, .ref h17, .ref h18, x19, x20, x21, x22, .ref h23, .int 0, .int 0])), (h17, .inl (cy 1, 1000, .inl g24)), (h18, .inl (cy 1, 1000, .inl g25)), (h23, .inr (5, [x26, x27, x28]))]) [0, 1, 2, 3, 4, 5, 6] rfl
  have hDc := hD.sub (ws' := [(h1, .inr (9, [.ref h2, .ref h3, x4, .ref h5, x6, x7, x8])), (h2, .inr (2, [x9, x10, .int 0, .int 0])), (h3, .inr (5, [x11, x12, .int 0])), (h5, .inr (8, [x13, x14, x15, x16, .ref h17, .ref h18, x19, x20, x21, x22, .ref h23, .int 0, .int 0])), (h17, .inl (cy 1, 1000, .inl g24)), (h18, .inl (cy 1, 1000, .inl g25)), (h23, .inr (5, [x26, x27, x28]))]) [0, 1, 2, 3, 4, 5, 6] (by decide) rfl
  have hFc := va_free (wc := [(h1, .inr (9, [.ref h2, .ref h3, x4, .ref h5, x6, x7, x8])), (h2, .inr (2, [x9, x10, .int 0, .int 0])), (h3, .inr (5, [x11, x12, .int 0])), (h5, .inr (8, [x13, x14, x15, x16, .ref h17, .ref h18, x19, x20, x21, x22, .ref h23, .int 0, .int 0])), (h17, .inl (cy 1, 1000, .inl g24)), (h18, .inl (cy 1, 1000, .inl g25)), (h23, .inr (5, [x26, x27, x28]))]) hD hS hA [0, 1, 2, 3, 4, 5, 6] rfl
  refine va_callv (va_runV (As := []) (rest := []) ⟨hx, hb, hml, hown, hts⟩ (k_X7_lookAtPlays l D cy h1 h2 h3 (x4) h5 (x6) (x7) (x8) (x9) (x10) (.int 0) (x11) (x12) (x13) (x14) (x15) (x16) h17 h18 (x19) (x20) (x21) (x22) h23 g24 g25 (x26) (x27) (x28) s.heap.size) (cwV 0 hts gX7_paradox_X7_lookAtPlays rfl rfl rfl (by decide +kernel) ⟨(Nat.le_of_ble_eq_true rfl), (Nat.le_of_ble_eq_true rfl)⟩) ⟨kW_fb, va_recv hK hP (ci := 9) (q0 := 0) rfl rfl, (kW_go hPc hK hDc)⟩ rfl rfl hl.1 rfl (lv_room (Nat.le_of_ble_eq_true rfl)) dX7_paradox_1 ⟨(Nat.le_of_ble_eq_true rfl), (Nat.le_of_ble_eq_true rfl)⟩) hS (fun q _ h => hFc q h) hFc (fun u t H locs ht hvm hw hB hz1 hk1 hS => ?_)
  obtain ⟨hP1, hD1⟩ := hB
  rw [ht] at hP1
  try dsimp only at hw hP1 hD1
  obtain ⟨hP, hD⟩ := va_join (wr := []) (w1 := [(h1, .inr (9, [.ref h2, .ref h3, x4, .ref h5, x6, x7, x8])), (h2, .inr (2, [x9, x10, .int 0, .int 0])), (h3, .inr (5, [x11, x12, .int 0])), (h5, .inr (8, [x13, x14, x15, x16, .ref h17, .ref h18, x19, x20, x21, x22, .ref h23, .int 1, .int 1])), (h17, .inl (cy 1, 1000, .inl (upd g24 0 0))), (h18, .inl (cy 1, 1000, .inl (upd g25 0 0))), (h23, .inr (5, [x26, x27, .int 0]))]) hP hD [0, 1, 2, 3, 4, 5, 6] [] rfl rfl (by decide) (by decide) hk1 hFc hP1 hD1
  have hP : va_P D vwCl [(h1, .inr (9, [.ref h2, .ref h3, x4, .ref h5, x6, x7, x8])), (h2, .inr (2, [x9, x10, .int 0, .int 0])), (h3, .inr (5, [x11, x12, .int 0])), (h5, .inr (8, [x13, x14, x15, x16, .ref h17, .ref h18, x19, x20, x21, x22, .ref h23, .int 1, .int 1])), (h17, .inl (cy 1, 1000, .inl (upd g24 0 0))), (h18, .inl (cy 1, 1000, .inl (upd g25 0 0))), (h23, .inr (5, [x26, x27, .int 0]))] H := hP
  have hD : va_D A [(h1, .inr (9, [.ref h2, .ref h3, x4, .ref h5, x6, x7, x8])), (h2, .inr (2, [x9, x10, .int 0, .int 0])), (h3, .inr (5, [x11, x12, .int 0])), (h5, .inr (8, [x13, x14, x15, x16, .ref h17, .ref h18, x19, x20, x21, x22, .ref h23, .int 1, .int 1])), (h17, .inl (cy 1, 1000, .inl (upd g24 0 0))), (h18, .inl (cy 1, 1000, .inl (upd g25 0 0))), (h23, .inr (5, [x26, x27, .int 0]))] := hD
  refine lv_aload_n hx hb dX7_paradox_4 rfl (lv_at hl 0 rfl) ?_
  refine lv_aload_n hx hb dX7_paradox_5 rfl (lv_at hl 0 rfl) ?_
  refine va_get (D := D) (ci := 9) (v := .ref h5) (C := RX7) (T := TX7) (N := 7) hx hb hts (fun _ h => (List.mem_cons_of_mem _ (List.mem_append_left _ (List.mem_append_left _ (List.mem_append_left _ (List.mem_append_left _ (List.mem_append_left _ (List.mem_append_left _ (List.mem_append_left _ (List.mem_append_left _ (List.mem_append_left _ (List.mem_append_right _ h)))))))))))) hown hK hP 0 rfl rfl 3 (by decide) (hts (.fieldLink RX7 29 "SelfishJunction" "survey" "LSelfishJunction$Survey;") (List.mem_cons_of_mem _ (List.mem_append_left _ (List.mem_append_left _ (List.mem_append_left _ (List.mem_append_left _ (List.mem_append_left _ (List.mem_append_left _ (List.mem_append_left _ (List.mem_append_left _ (List.mem_append_left _ (List.mem_append_left _ (List.mem_append_left _ (List.mem_of_getElem? (i := 2) rfl)))))))))))))) (fun _ h9 => h9) rfl dX7_paradox_6 ?_
  refine lv_iconst (v := 1) hx hb dX7_paradox_9 (by decide) ?_
  have hPc := hP.sub (ws' := [(h5, .inr (8, [x13, x14, x15, x16, .ref h17, .ref h18, x19, x20, x21, x22, .ref h23, .int 1, .int 1])), (h17, .inl (cy 1, 1000, .inl (upd g24 0 0))), (h18, .inl (cy 1, 1000, .inl (upd g25 0 0)))]) [3, 4, 5] rfl
  refine va_calli (va_runV (As := [.int 1]) (rest := [.ref h1]) ⟨hx, hb, hml, hown, hts⟩ (k_X6_leastOf l D cy h5 (x13) (x14) (x15) (x16) h17 h18 (x19) (x20) (x21) (x22) (.ref h23) (.int 1) (upd g24 0 0) (rfl) (upd g25 0 0) (rfl)) (cwV 1 hts gX7_paradox_X6_leastOf rfl rfl rfl (by decide +kernel) ⟨(Nat.le_of_ble_eq_true rfl), (Nat.le_of_ble_eq_true rfl)⟩) ⟨kR_fb, va_recv hK hP (ci := 8) (q0 := 3) rfl rfl, (kR_go hPc hK)⟩ rfl rfl hl.1 rfl (lv_room (Nat.le_of_ble_eq_true rfl)) dX7_paradox_10 ⟨(Nat.le_of_ble_eq_true rfl), (Nat.le_of_ble_eq_true rfl)⟩) hS (fun _ _ h => h.elim) (fun _ h => h.elim) (fun r9 u t H locs ht hvm hw hB hz1 hk1 hS => ?_)
  have hP := kx_kept hP hk1
  obtain ⟨rfl, hw⟩ := hw
  have hPc := hP.sub (ws' := [(h1, .inr (9, [.ref h2, .ref h3, x4, .ref h5, x6, x7, x8])), (h2, .inr (2, [x9, x10, .int 0, .int 0]))]) [0, 1] rfl
  refine va_calli (va_runV (As := [.int 0]) (rest := []) ⟨hx, hb, hml, hown, hts⟩ (k_X7_lowestParadox l D cy h1 h2 (.ref h3) (x4) (.ref h5) (x6) (x7) (x8) (x9) (x10) (.int 0)) (cwV 1 hts gX7_paradox_X7_lowestParadox rfl rfl rfl (by decide +kernel) ⟨(Nat.le_of_ble_eq_true rfl), (Nat.le_of_ble_eq_true rfl)⟩) ⟨kR_fb, va_recv hK hP (ci := 9) (q0 := 0) rfl rfl, (kR_go hPc hK)⟩ rfl rfl hl.1 rfl (lv_room (Nat.le_of_ble_eq_true rfl)) dX7_paradox_13 ⟨(Nat.le_of_ble_eq_true rfl), (Nat.le_of_ble_eq_true rfl)⟩) hS (fun _ _ h => h.elim) (fun _ h => h.elim) (fun r9 u t H locs ht hvm hw hB hz1 hk1 hS => ?_)
  have hP := kx_kept hP hk1
  obtain ⟨rfl, hw⟩ := hw
  refine lv_istore_n (lv' := [(1, .int (-1)), (0, .ref h1)]) hx hb dX7_paradox_16 rfl hl (by decide) rfl (fun ls hl => ?_)
  refine lv_iload_n hx hb dX7_paradox_17 rfl (lv_at hl 0 rfl) ?_
  refine lv_if_ge (tgt := 32) hx hb dX7_paradox_18 (by decide) (fun h => absurd h (by decide)) (fun _ => ?_)
  obtain ⟨sa9, hsa9⟩ := hE.2.1 (317, "no paradox") (by decide +kernel)
  exact vn_throwW (own := RX7) (text := "no paradox") (A := A) hx hb hl9 hown (hts (.classLink RX7 139 "java/util/NoSuchElementException") (List.mem_cons_of_mem _ (List.mem_append_left _ (List.mem_append_left _ (List.mem_append_left _ (List.mem_append_left _ (List.mem_append_left _ (List.mem_append_left _ (List.mem_append_left _ (List.mem_append_left _ (List.mem_append_left _ (List.mem_append_left _ (List.mem_append_left _ (List.mem_of_getElem? (i := 0) rfl)))))))))))))) (hts (.initialized "java/util/NoSuchElementException") (List.mem_cons_of_mem _ (List.mem_append_left _ (List.mem_append_left _ (List.mem_append_left _ (List.mem_append_left _ (List.mem_append_left _ (List.mem_append_left _ (List.mem_append_left _ (List.mem_append_left _ (List.mem_append_left _ (List.mem_append_left _ (List.mem_append_left _ (List.mem_of_getElem? (i := 1) rfl)))))))))))))) hsa9 (ex_hatN hE (fun w h => hts w (List.mem_cons_of_mem _ (List.mem_append_left _ (List.mem_append_left _ (List.mem_append_left _ (List.mem_append_right _ h)))))) (by decide +kernel)) (by decide +kernel) hE.1.1 hE.1.2 hS (by rw [hml]; exact hl.1) dX7_paradox_21 dX7_paradox_24 dX7_paradox_25 dX7_paradox_28 dX7_paradox_31 (fun x hx => (ht9 x hx).elim) (Nat.le_of_ble_eq_true rfl) (Nat.le_of_ble_eq_true rfl) (Nat.le_of_ble_eq_true rfl) (Nat.le_of_ble_eq_true rfl) hlocks (fun t hal hz hk => ⟨(), trivial, (⟨rfl, trivial⟩), kx_thr hS hz hk⟩) hS.2.2 (Nat.le_of_ble_eq_true rfl) (Nat.le_of_ble_eq_true rfl)
theorem dL_paradox_0 : decode cL_paradox 0 = .ok (.aload_n 1, 1) := by decide +kernel
theorem dL_paradox_1 : decode cL_paradox 1 = .ok (.iconst 0, 1) := by decide +kernel
theorem dL_paradox_2 : decode cL_paradox 2 = .ok (.aload_n 0, 1) := by decide +kernel
theorem dL_paradox_3 : decode cL_paradox 3 = .ok (.invokevirtual 117, 3) := by decide +kernel
set_option maxRecDepth 20000 in
theorem ggL_paradox_X7_paradox : GoodIn wsL_paradox wsX7_paradox := goodIn_ca (goodIn_ca (goodIn_ca (goodIn_ca (goodIn_r _ [7, 8, 9, 10, 11, 12, 13, 6, 14, 15, 16, 17, 18, 19, 20, 21, 22, 23, 24, 25, 26, 27, 28, 29, 30, 31, 32, 33, 34, 35, 36, 37, 38, 39, 40, 41, 42, 43, 44, 45, 46, 47, 48, 49, 50, 51, 52, 53, 54, 55, 56, 57, 58, 59, 60, 61, 62, 63, 64, 65, 66, 67, 68, 69, 70, 71, 72, 73, 74, 75, 76, 77, 78, 79, 80, 81, 82, 83, 84, 85, 86, 87, 88, 89, 90, 91, 92, 93, 94, 95, 96, 97, 98, 99, 100, 101, 102, 103, 104, 105, 106, 107, 108, 109, 110, 111, 112, 113, 114, 115, 116, 117, 118, 119, 120, 121, 122, 123, 124, 125, 126, 127, 128, 129, 130, 131, 132, 133, 134, 135, 136, 137, 138, 139, 140, 141, 142, 143, 144, 145, 146, 147, 148, 149, 150, 151, 152, 153, 154, 155, 156, 157, 158, 159, 160, 161, 162, 163, 164, 165, 166, 167, 168, 169, 170, 171, 172, 173, 174, 175, 176, 177, 178, 179, 180, 181, 182, 183, 184, 185, 186, 187, 188, 189, 190, 191, 192, 193, 194, 195, 196, 197, 198, 199, 200, 201, 202, 203, 204, 205, 206] (by decide +kernel) (by decide +kernel)) (goodIn_sub (fun _ h => List.mem_cons_of_mem _ (List.mem_append_left _ (List.mem_append_left _ (List.mem_append_right _ h)))) (by decide +kernel))) (goodIn_sub (fun _ h => List.mem_cons_of_mem _ (List.mem_append_left _ (List.mem_append_right _ h))) (by decide +kernel))) (goodIn_sub (fun _ h => List.mem_cons_of_mem _ (List.mem_append_left _ (List.mem_append_left _ (List.mem_append_left _ (List.mem_append_right _ h))))) (by decide +kernel))) (goodIn_sub (fun _ h => List.mem_cons_of_mem _ (List.mem_append_right _ h)) (by decide +kernel))
set_option maxRecDepth 20000 in
theorem gL_paradox_X7_paradox : GoodIn wsL_paradox (wsV RL 117 RX7 yX7_paradox wsX7_paradox) := goodIn_app (goodIn_of _ (by decide +kernel)) ggL_paradox_X7_paradox
theorem dL_paradox_14 : decode cL_paradox 14 = .ok (.astore_n 2, 1) := by decide +kernel
theorem dL_paradox_15 : decode cL_paradox 15 = .ok (.iconst 2, 1) := by decide +kernel
theorem dL_paradox_16 : decode cL_paradox 16 = .ok (.ireturn, 1) := by decide +kernel
set_option maxHeartbeats 4000000 in
set_option maxRecDepth 100000 in
theorem k_L_paradox (l : Launch) (hl9 : l.stackTraces = false) (D : va_G) (cy : Nat → ClassId) (h1 : Nat) (h2 : Nat) (h3 : Nat) (h4 : Nat) (x5 : Value) (h6 : Nat) (x7 : Value) (x8 : Value) (x9 : Value) (x10 : Value) (x11 : Value) (x12 : Value) (x13 : Value) (x14 : Value) (x15 : Value) (x16 : Value) (x17 : Value) (h18 : Nat) (h19 : Nat) (x20 : Value) (x21 : Value) (x22 : Value) (x23 : Value) (h24 : Nat) (g25 : Nat → Int32) (kg25_0 : g25 0 = 0) (g26 : Nat → Int32) (kg26_0 : g26 0 = 0) (x27 : Value) (x28 : Value) (x29 : Value) (sz : Nat) : Met l yL_paradox wsL_paradox ({ frames := 7, cells := 1, slots := 6, locals := 103 }) (kWX D cy [.ref h1, .ref h2] [(h1, .inr (9, [.ref h3, .ref h4, x5, .ref h6, x7, x8, x9])), (h3, .inr (2, [x10, x11, .int 0, .int 0])), (h4, .inr (5, [x12, x13, .int 0])), (h6, .inr (8, [x14, x15, x16, x17, .ref h18, .ref h19, x20, x21, x22, x23, .ref h24, .int 0, .int 0])), (h18, .inl (cy 1, 1000, .inl g25)), (h19, .inl (cy 1, 1000, .inl g26)), (h24, .inr (5, [x27, x28, x29]))] sz) (va_Qi (fun (r : Int32) (_ : Unit) => r = 2 ∧ True) (fun (_ : Unit) (t : State) => va_P D vwCl [] t.heap ∧ va_D (va_A [(h1, .inr (9, [.ref h3, .ref h4, x5, .ref h6, x7, x8, x9])), (h3, .inr (2, [x10, x11, .int 0, .int 0])), (h4, .inr (5, [x12, x13, .int 0])), (h6, .inr (8, [x14, x15, x16, x17, .ref h18, .ref h19, x20, x21, x22, x23, .ref h24, .int 0, .int 0])), (h18, .inl (cy 1, 1000, .inl g25)), (h19, .inl (cy 1, 1000, .inl g26)), (h24, .inr (5, [x27, x28, x29]))] sz) []) (va_A [(h1, .inr (9, [.ref h3, .ref h4, x5, .ref h6, x7, x8, x9])), (h3, .inr (2, [x10, x11, .int 0, .int 0])), (h4, .inr (5, [x12, x13, .int 0])), (h6, .inr (8, [x14, x15, x16, x17, .ref h18, .ref h19, x20, x21, x22, x23, .ref h24, .int 0, .int 0])), (h18, .inl (cy 1, 1000, .inl g25)), (h19, .inl (cy 1, 1000, .inl g26)), (h24, .inr (5, [x27, x28, x29]))] sz)) 1 6 (va_A [(h1, .inr (9, [.ref h3, .ref h4, x5, .ref h6, x7, x8, x9])), (h3, .inr (2, [x10, x11, .int 0, .int 0])), (h4, .inr (5, [x12, x13, .int 0])), (h6, .inr (8, [x14, x15, x16, x17, .ref h18, .ref h19, x20, x21, x22, x23, .ref h24, .int 0, .int 0])), (h18, .inl (cy 1, 1000, .inl g25)), (h19, .inl (cy 1, 1000, .inl g26)), (h24, .inr (5, [x27, x28, x29]))] sz) := by
  refine va_MetW (cc := cL_paradox) (maxL := 3) (ret := (some .int)) (by decide) rfl ?_
  intro p e s m args below meth c s₁ B hml hv
  obtain ⟨rfl, hsz, hP, hK, hD0, hE⟩ := hv
  have hx := B.exec
  have hb := B.bytes
  have hr := B.returns
  have hts := atoms_spec (ws := wsL_paradox) B.pre
  have hown : s.vm.findClass RL = some m.cls := findClass_of_methodNamed B.named
  have hlocks := B.notSynchronized
  have htb := vx_table (x := yL_paradox) B (hts _ (List.mem_cons_self))
  subst hsz
  have hD := hD0.self (sz := s.heap.size)
  generalize hAe : va_A [(h1, .inr (9, [.ref h3, .ref h4, x5, .ref h6, x7, x8, x9])), (h3, .inr (2, [x10, x11, .int 0, .int 0])), (h4, .inr (5, [x12, x13, .int 0])), (h6, .inr (8, [x14, x15, x16, x17, .ref h18, .ref h19, x20, x21, x22, x23, .ref h24, .int 0, .int 0])), (h18, .inl (cy 1, 1000, .inl g25)), (h19, .inl (cy 1, 1000, .inl g26)), (h24, .inr (5, [x27, x28, x29]))] s.heap.size = A at hD hE ⊢
  have hA : ∀ q : Nat, s.heap.size ≤ q → A q := fun q h => by rw [← hAe]; exact Or.inr h
  have hS : va_S A s.heap s.heap [] := va_S.rf
  have hP : va_P D vwCl [(h1, .inr (9, [.ref h3, .ref h4, x5, .ref h6, x7, x8, x9])), (h3, .inr (2, [x10, x11, .int 0, .int 0])), (h4, .inr (5, [x12, x13, .int 0])), (h6, .inr (8, [x14, x15, x16, x17, .ref h18, .ref h19, x20, x21, x22, x23, .ref h24, .int 0, .int 0])), (h18, .inl (cy 1, 1000, .inl g25)), (h19, .inl (cy 1, 1000, .inl g26)), (h24, .inr (5, [x27, x28, x29]))] s.heap := hP
  have hl := lv_entry ([.ref h1, .ref h2]) (n := 3) (Nat.le_of_ble_eq_true rfl)
  rw [lg_entry_eq]
  generalize (lg_sl ([.ref h1, .ref h2]) ++ List.replicate (3 - (lg_sl ([.ref h1, .ref h2])).length) Slot.unset).toArray = ls at hl ⊢
  have hl : lv_has ls 3 [(0, .ref h1), (1, .ref h2)] := hl
  refine lv_aload_n hx hb dL_paradox_0 rfl (lv_at hl 1 rfl) ?_
  refine lv_iconst (v := 0) hx hb dL_paradox_1 (by decide) ?_
  refine lv_aload_n hx hb dL_paradox_2 rfl (lv_at hl 0 rfl) ?_
  have hPc := hP.sub (ws' := [(h1, .inr (9, [.ref h3, .ref h4, x5, .ref h6, x7, x8, x9])), (h3, .inr (2, [x10, x11, .int 0, .int 0])), (h4, .inr (5, [x12, x13, .int 0])), (h6, .inr (8, [x14, x15, x16, x17, .ref h18, .ref h19, x20, x21, x22, x23, .ref h24, .int 0, .int 0])), (h18, .inl (cy 1, 1000, .inl g25)), (h19, .inl (cy 1, 1000, .inl g26)), (h24, .inr (5, [x27, x28, x29]))]) [0, 1, 2, 3, 4, 5, 6] rfl
  have hDc := hD.sub (ws' := [(h1, .inr (9, [.ref h3, .ref h4, x5, .ref h6, x7, x8, x9])), (h3, .inr (2, [x10, x11, .int 0, .int 0])), (h4, .inr (5, [x12, x13, .int 0])), (h6, .inr (8, [x14, x15, x16, x17, .ref h18, .ref h19, x20, x21, x22, x23, .ref h24, .int 0, .int 0])), (h18, .inl (cy 1, 1000, .inl g25)), (h19, .inl (cy 1, 1000, .inl g26)), (h24, .inr (5, [x27, x28, x29]))]) [0, 1, 2, 3, 4, 5, 6] (by decide) rfl
  have hFc := va_free (wc := [(h1, .inr (9, [.ref h3, .ref h4, x5, .ref h6, x7, x8, x9])), (h3, .inr (2, [x10, x11, .int 0, .int 0])), (h4, .inr (5, [x12, x13, .int 0])), (h6, .inr (8, [x14, x15, x16, x17, .ref h18, .ref h19, x20, x21, x22, x23, .ref h24, .int 0, .int 0])), (h18, .inl (cy 1, 1000, .inl g25)), (h19, .inl (cy 1, 1000, .inl g26)), (h24, .inr (5, [x27, x28, x29]))]) hD hS hA [0, 1, 2, 3, 4, 5, 6] rfl
  refine vx_calli (vx_runV (As := []) (rest := [.int 0, .ref h2]) ⟨hx, hb, hml, hown, hts⟩ (k_X7_paradox l hl9 D cy h1 h3 h4 (x5) h6 (x7) (x8) (x9) (x10) (x11) (x12) (x13) (x14) (x15) (x16) (x17) h18 h19 (x20) (x21) (x22) (x23) h24 g25 (kg25_0) g26 (kg26_0) (x27) (x28) (x29) s.heap.size) (cwV 0 hts gL_paradox_X7_paradox rfl rfl rfl (by decide +kernel) ⟨(Nat.le_of_ble_eq_true rfl), (Nat.le_of_ble_eq_true rfl)⟩) ⟨kWX_fb, va_recv hK hP (ci := 9) (q0 := 0) rfl rfl, (kWX_go hPc hK hDc hFc hE hS)⟩ rfl rfl hl.1 rfl (lv_room (Nat.le_of_ble_eq_true rfl)) dL_paradox_3 ⟨(Nat.le_of_ble_eq_true rfl), (Nat.le_of_ble_eq_true rfl)⟩) hS (fun q _ h => hFc q h) hFc (fun q _ h => hFc q h) (fun E9 ce9 q9 u t H locs ht hvm hw hB hz1 hk1 hS hce hcv hcl => ?_) (fun r9 u t H locs ht hvm hw hB hz1 hk1 hS => ?_)
  · obtain ⟨rfl, hB⟩ := hB
    have f_1 : True := hB
    obtain ⟨hP, hD⟩ := va_join (wr := []) (w1 := []) hP hD [0, 1, 2, 3, 4, 5, 6] [] rfl rfl (by decide) (by decide) hk1 hFc (fun k q h => by simp at h) ⟨fun i j p q h => by simp at h, fun k q h => by simp at h⟩
    have hP : va_P D vwCl [] H := hP
    have hD : va_D A [] := hD
    refine vx_catch (E := "java/util/NoSuchElementException") (name := "java/util/NoSuchElementException") hown [(⟨0, 8, 11, 30⟩ : ExceptionTableEntry)] (⟨0, 8, 14, 36⟩ : ExceptionTableEntry) [] htb (List.forall_mem_cons.mpr ⟨Or.inr ⟨by decide, "java/lang/UnsupportedOperationException", (hts (.classLink RL 30 "java/lang/UnsupportedOperationException") (List.mem_cons_of_mem _ (List.mem_append_left _ (List.mem_append_left _ (List.mem_append_left _ (List.mem_append_left _ (List.mem_append_left _ (List.mem_append_left _ (List.mem_append_left _ (List.mem_append_left _ (List.mem_append_left _ (List.mem_append_left _ (List.mem_append_left _ (List.mem_of_getElem? (i := 0) rfl)))))))))))))), exP.nc hE "java/util/NoSuchElementException" "java/lang/UnsupportedOperationException" (by decide +kernel) (by decide +kernel) (by decide +kernel)⟩, (fun _ h => absurd h List.not_mem_nil)⟩) rfl (by decide) (hts (.classLink RL 36 "java/util/NoSuchElementException") (List.mem_cons_of_mem _ (List.mem_append_left _ (List.mem_append_left _ (List.mem_append_left _ (List.mem_append_left _ (List.mem_append_left _ (List.mem_append_left _ (List.mem_append_left _ (List.mem_append_left _ (List.mem_append_left _ (List.mem_append_left _ (List.mem_append_left _ (List.mem_of_getElem? (i := 1) rfl)))))))))))))) (exP.cast hE "java/util/NoSuchElementException" (by decide +kernel)) hce hcv hcl ?_
    refine lv_astore_n (lv' := [(2, .ref q9), (0, .ref h1), (1, .ref h2)]) hx hb dL_paradox_14 rfl hl (by decide) rfl (fun ls hl => ?_)
    refine lv_iconst (v := 2) hx hb dL_paradox_15 (by decide) ?_
    refine W.widen (k := 1) (n := 6) (Nat.le_of_ble_eq_true rfl) (Nat.le_of_ble_eq_true rfl) ?_
    have hP9 := hP.sub (ws' := []) [] rfl
    have hD9 := hD.sub (ws' := []) [] (by decide) rfl
    exact W.iret (v := 2) hx hb hr (fun t ht hW => ⟨⟨2, (), rfl, ⟨rfl, trivial⟩, ⟨by rw [ht]; exact hP9, hD9⟩⟩, hS.F ht⟩) hS.2.2 dL_paradox_16
  · exact (show False from hw).elim
set_option maxHeartbeats 4000000 in
set_option maxRecDepth 100000 in
theorem k_X8_isThrown_3 (l : Launch) (D : va_G) (cy : Nat → ClassId) (h1 : Nat) (x2 : Value) (x3 : Value) (x4 : Value) (x5 : Value) (x6 : Value) (x7 : Value) (x8 : Value) (x9 : Value) (x10 : Value) (x11 : Value) (x12 : Value) (x13 : Value) (x14 : Value) (x15 : Value) (x16 : Value) (x17 : Value) (x18 : Value) (x19 : Value) (sz : Nat) : Met l yX8_isThrown wsX8_isThrown ({ frames := 0, cells := 0, slots := 0, locals := 0 }) (kW D cy [.ref h1, .int 1, .int 2] [(h1, .inr (10, [x2, x3, x4, x5, x6, x7, x8, x9, x10, x11, x12, x13, x14, x15, x16, x17, x18, x19]))] sz) (va_Qi (fun (r : Int32) (_ : Unit) => r = 1 ∧ True) (fun (_ : Unit) (t : State) => va_P D vwCl [(h1, .inr (10, [x2, x3, x4, x5, x6, x7, x8, x9, x10, x11, x12, x13, x14, x15, x16, x17, x18, .int 2]))] t.heap ∧ va_D (va_A [(h1, .inr (10, [x2, x3, x4, x5, x6, x7, x8, x9, x10, x11, x12, x13, x14, x15, x16, x17, x18, x19]))] sz) [(h1, .inr (10, [x2, x3, x4, x5, x6, x7, x8, x9, x10, x11, x12, x13, x14, x15, x16, x17, x18, .int 2]))]) (va_A [(h1, .inr (10, [x2, x3, x4, x5, x6, x7, x8, x9, x10, x11, x12, x13, x14, x15, x16, x17, x18, x19]))] sz)) 0 0 (va_A [(h1, .inr (10, [x2, x3, x4, x5, x6, x7, x8, x9, x10, x11, x12, x13, x14, x15, x16, x17, x18, x19]))] sz) := by
  refine Met.ofW (cc := cX8_isThrown) (maxL := 3) (ret := (some .boolean)) (by decide) rfl ?_
  intro p e s m args below meth c s₁ B hml hv
  obtain ⟨rfl, hsz, hP, hK, hD0⟩ := hv
  have hx := B.exec
  have hb := B.bytes
  have hr := B.returns
  have hts := atoms_spec (ws := wsX8_isThrown) B.pre
  have hown : s.vm.findClass RX8 = some m.cls := findClass_of_methodNamed B.named
  have hlocks := B.notSynchronized
  subst hsz
  have hD := hD0.self (sz := s.heap.size)
  generalize hAe : va_A [(h1, .inr (10, [x2, x3, x4, x5, x6, x7, x8, x9, x10, x11, x12, x13, x14, x15, x16, x17, x18, x19]))] s.heap.size = A at hD ⊢
  have hA : ∀ q : Nat, s.heap.size ≤ q → A q := fun q h => by rw [← hAe]; exact Or.inr h
  have hS : va_S A s.heap s.heap [] := va_S.rf
  have hP : va_P D vwCl [(h1, .inr (10, [x2, x3, x4, x5, x6, x7, x8, x9, x10, x11, x12, x13, x14, x15, x16, x17, x18, x19]))] s.heap := hP
  have hl := lv_entry ([.ref h1, .int 1, .int 2]) (n := 3) (Nat.le_of_ble_eq_true rfl)
  rw [lg_entry_eq]
  generalize (lg_sl ([.ref h1, .int 1, .int 2]) ++ List.replicate (3 - (lg_sl ([.ref h1, .int 1, .int 2])).length) Slot.unset).toArray = ls at hl ⊢
  have hl : lv_has ls 3 [(0, .ref h1), (1, .int 1), (2, .int 2)] := hl
  refine lv_aload_n hx hb dX8_isThrown_0 rfl (lv_at hl 0 rfl) ?_
  refine lv_iload_n hx hb dX8_isThrown_1 rfl (lv_at hl 1 rfl) ?_
  refine lv_if_eq (tgt := 9) hx hb dX8_isThrown_2 (by decide) (fun h => absurd h (by decide)) (fun _ => ?_)
  refine lv_iload_n hx hb dX8_isThrown_5 rfl (lv_at hl 2 rfl) ?_
  refine lv_goto (tgt := 10) hx hb dX8_isThrown_6 (by decide) ?_
  refine va_put (D := D) (ci := 10) (v := .int 2) (ty := .int) (C := RX8) (T := TX8) (N := 18) hx hb hts (fun _ h => (List.mem_cons_of_mem _ (List.mem_append_right _ h))) tyX8 tyX8_ok nmX8 hown hK hP hD hS 0 rfl rfl 17 (by decide) (hts (.fieldLink RX8 59 "SelfishJunctionModel" "thrown" "I") (List.mem_cons_of_mem _ (List.mem_append_left _ (List.mem_of_getElem? (i := 0) rfl)))) (fun _ h9 => h9) rfl (by decide +kernel) rfl rfl (Nat.le_of_ble_eq_true rfl) dX8_isThrown_10 (fun H locs hP hD hS => ?_)
  have hP : va_P D vwCl [(h1, .inr (10, [x2, x3, x4, x5, x6, x7, x8, x9, x10, x11, x12, x13, x14, x15, x16, x17, x18, .int 2]))] H := hP
  have hD : va_D A [(h1, .inr (10, [x2, x3, x4, x5, x6, x7, x8, x9, x10, x11, x12, x13, x14, x15, x16, x17, x18, .int 2]))] := hD
  refine lv_iload_n hx hb dX8_isThrown_13 rfl (lv_at hl 1 rfl) ?_
  refine W.widen (k := 0) (n := 0) (Nat.le_of_ble_eq_true rfl) (Nat.le_of_ble_eq_true rfl) ?_
  have hP9 := hP.sub (ws' := [(h1, .inr (10, [x2, x3, x4, x5, x6, x7, x8, x9, x10, x11, x12, x13, x14, x15, x16, x17, x18, .int 2]))]) [0] rfl
  have hD9 := hD.sub (ws' := [(h1, .inr (10, [x2, x3, x4, x5, x6, x7, x8, x9, x10, x11, x12, x13, x14, x15, x16, x17, x18, .int 2]))]) [0] (by decide) rfl
  exact W.zret (v := 1) hx hb hr rfl (fun t ht hW => ⟨⟨1, (), rfl, ⟨rfl, trivial⟩, ⟨by rw [ht]; exact hP9, hD9⟩⟩, hS.F ht⟩) hS.2.2 dX8_isThrown_14
theorem dX8_paradox_0 : decode cX8_paradox 0 = .ok (.aload_n 0, 1) := by decide +kernel
theorem dX8_paradox_1 : decode cX8_paradox 1 = .ok (.aload_n 0, 1) := by decide +kernel
theorem dX8_paradox_2 : decode cX8_paradox 2 = .ok (.invokevirtual 240, 3) := by decide +kernel
set_option maxRecDepth 20000 in
theorem ggX8_paradox_X8_areMany : GoodIn wsX8_paradox wsX8_areMany := goodIn_ca (goodIn_r _ [6, 7, 8, 9, 5, 10, 11, 12, 13, 14, 15, 16, 17, 18, 19, 218, 219, 220, 221, 222, 223, 224, 225, 226, 227, 228, 229, 230, 231, 232, 233, 234, 235] (by decide +kernel) (by decide +kernel)) (goodIn_sub (fun _ h => List.mem_cons_of_mem _ (List.mem_append_left _ (List.mem_append_right _ h))) (by decide +kernel))
set_option maxRecDepth 20000 in
theorem gX8_paradox_X8_areMany : GoodIn wsX8_paradox (wsV RX8 240 RX8 yX8_areMany wsX8_areMany) := goodIn_app (goodIn_of _ (by decide +kernel)) ggX8_paradox_X8_areMany
theorem dX8_paradox_5 : decode cX8_paradox 5 = .ok (.iconst 1, 1) := by decide +kernel
theorem dX8_paradox_6 : decode cX8_paradox 6 = .ok (.invokevirtual 73, 3) := by decide +kernel
set_option maxRecDepth 20000 in
theorem ggX8_paradox_X8_isThrown : GoodIn wsX8_paradox wsX8_isThrown := goodIn_r _ [23, 24, 218, 219, 220, 221, 222, 223, 224, 225, 226, 227, 228, 229, 230, 231, 232, 233, 234, 235] (by decide +kernel) (by decide +kernel)
set_option maxRecDepth 20000 in
theorem gX8_paradox_X8_isThrown : GoodIn wsX8_paradox (wsV RX8 73 RX8 yX8_isThrown wsX8_isThrown) := goodIn_app (goodIn_of _ (by decide +kernel)) ggX8_paradox_X8_isThrown
theorem dX8_paradox_9 : decode cX8_paradox 9 = .ok (.ifCond .eq 5, 3) := by decide +kernel
theorem dX8_paradox_14 : decode cX8_paradox 14 = .ok (.iconst (-1), 1) := by decide +kernel
theorem dX8_paradox_15 : decode cX8_paradox 15 = .ok (.istore_n 1, 1) := by decide +kernel
theorem dX8_paradox_16 : decode cX8_paradox 16 = .ok (.aload_n 0, 1) := by decide +kernel
theorem dX8_paradox_17 : decode cX8_paradox 17 = .ok (.getfield 62, 3) := by decide +kernel
theorem dX8_paradox_20 : decode cX8_paradox 20 = .ok (.iconst 1, 1) := by decide +kernel
theorem dX8_paradox_21 : decode cX8_paradox 21 = .ok (.isub, 1) := by decide +kernel
theorem dX8_paradox_22 : decode cX8_paradox 22 = .ok (.istore_n 2, 1) := by decide +kernel
theorem dX8_paradox_23 : decode cX8_paradox 23 = .ok (.iload_n 2, 1) := by decide +kernel
theorem dX8_paradox_24 : decode cX8_paradox 24 = .ok (.ifCond .lt 23, 3) := by decide +kernel
theorem dX8_paradox_47 : decode cX8_paradox 47 = .ok (.aload_n 0, 1) := by decide +kernel
theorem dX8_paradox_48 : decode cX8_paradox 48 = .ok (.iload_n 1, 1) := by decide +kernel
theorem dX8_paradox_49 : decode cX8_paradox 49 = .ok (.iconst (-1), 1) := by decide +kernel
theorem dX8_paradox_50 : decode cX8_paradox 50 = .ok (.if_icmp .ne 7, 3) := by decide +kernel
theorem dX8_paradox_53 : decode cX8_paradox 53 = .ok (.iconst 1, 1) := by decide +kernel
theorem dX8_paradox_54 : decode cX8_paradox 54 = .ok (.goto 4, 3) := by decide +kernel
theorem dX8_paradox_58 : decode cX8_paradox 58 = .ok (.iconst 2, 1) := by decide +kernel
theorem dX8_paradox_59 : decode cX8_paradox 59 = .ok (.invokevirtual 73, 3) := by decide +kernel
theorem dX8_paradox_62 : decode cX8_paradox 62 = .ok (.ifCond .eq 7, 3) := by decide +kernel
theorem dX8_paradox_65 : decode cX8_paradox 65 = .ok (.iconst 0, 1) := by decide +kernel
theorem dX8_paradox_66 : decode cX8_paradox 66 = .ok (.goto 4, 3) := by decide +kernel
theorem dX8_paradox_70 : decode cX8_paradox 70 = .ok (.ireturn, 1) := by decide +kernel
set_option maxHeartbeats 4000000 in
set_option maxRecDepth 100000 in
theorem k_X8_paradox (l : Launch) (D : va_G) (cy : Nat → ClassId) (h1 : Nat) (x2 : Value) (x3 : Value) (x4 : Value) (x5 : Value) (x6 : Value) (x7 : Value) (x8 : Value) (x9 : Value) (x10 : Value) (x11 : Value) (x12 : Value) (x13 : Value) (x14 : Value) (x15 : Value) (x16 : Value) (x17 : Value) (sz : Nat) : Met l yX8_paradox wsX8_paradox ({ frames := 2, cells := 0, slots := 0, locals := 44 }) (kW D cy [.ref h1] [(h1, .inr (10, [x2, x3, x4, x5, x6, x7, x8, x9, x10, x11, x12, x13, x14, x15, .int 0, .int 0, x16, x17]))] sz) (va_Qi (fun (r : Int32) (_ : Unit) => r = 0 ∧ True) (fun (_ : Unit) (t : State) => va_P D vwCl [(h1, .inr (10, [x2, x3, x4, x5, x6, x7, x8, x9, x10, x11, x12, x13, x14, x15, .int 0, .int 0, x16, .int 2]))] t.heap ∧ va_D (va_A [(h1, .inr (10, [x2, x3, x4, x5, x6, x7, x8, x9, x10, x11, x12, x13, x14, x15, .int 0, .int 0, x16, x17]))] sz) [(h1, .inr (10, [x2, x3, x4, x5, x6, x7, x8, x9, x10, x11, x12, x13, x14, x15, .int 0, .int 0, x16, .int 2]))]) (va_A [(h1, .inr (10, [x2, x3, x4, x5, x6, x7, x8, x9, x10, x11, x12, x13, x14, x15, .int 0, .int 0, x16, x17]))] sz)) 0 0 (va_A [(h1, .inr (10, [x2, x3, x4, x5, x6, x7, x8, x9, x10, x11, x12, x13, x14, x15, .int 0, .int 0, x16, x17]))] sz) := by
  refine Met.ofW (cc := cX8_paradox) (maxL := 3) (ret := (some .int)) (by decide) rfl ?_
  intro p e s m args below meth c s₁ B hml hv
  obtain ⟨rfl, hsz, hP, hK, hD0⟩ := hv
  have hx := B.exec
  have hb := B.bytes
  have hr := B.returns
  have hts := atoms_spec (ws := wsX8_paradox) B.pre
  have hown : s.vm.findClass RX8 = some m.cls := findClass_of_methodNamed B.named
  have hlocks := B.notSynchronized
  subst hsz
  have hD := hD0.self (sz := s.heap.size)
  generalize hAe : va_A [(h1, .inr (10, [x2, x3, x4, x5, x6, x7, x8, x9, x10, x11, x12, x13, x14, x15, .int 0, .int 0, x16, x17]))] s.heap.size = A at hD ⊢
  have hA : ∀ q : Nat, s.heap.size ≤ q → A q := fun q h => by rw [← hAe]; exact Or.inr h
  have hS : va_S A s.heap s.heap [] := va_S.rf
  have hP : va_P D vwCl [(h1, .inr (10, [x2, x3, x4, x5, x6, x7, x8, x9, x10, x11, x12, x13, x14, x15, .int 0, .int 0, x16, x17]))] s.heap := hP
  have hl := lv_entry ([.ref h1]) (n := 3) (Nat.le_of_ble_eq_true rfl)
  rw [lg_entry_eq]
  generalize (lg_sl ([.ref h1]) ++ List.replicate (3 - (lg_sl ([.ref h1])).length) Slot.unset).toArray = ls at hl ⊢
  have hl : lv_has ls 3 [(0, .ref h1)] := hl
  refine lv_aload_n hx hb dX8_paradox_0 rfl (lv_at hl 0 rfl) ?_
  refine lv_aload_n hx hb dX8_paradox_1 rfl (lv_at hl 0 rfl) ?_
  have hPc := hP.sub (ws' := [(h1, .inr (10, [x2, x3, x4, x5, x6, x7, x8, x9, x10, x11, x12, x13, x14, x15, .int 0, .int 0, x16, x17]))]) [0] rfl
  refine va_calli (va_runV (As := []) (rest := [.ref h1]) ⟨hx, hb, hml, hown, hts⟩ (k_X8_areMany l D cy h1 (x2) (x3) (x4) (x5) (x6) (x7) (x8) (x9) (x10) (x11) (x12) (x13) (x14) (x15) (.int 0) (x16) (x17)) (cwV 0 hts gX8_paradox_X8_areMany rfl rfl rfl (by decide +kernel) ⟨(Nat.le_of_ble_eq_true rfl), (Nat.le_of_ble_eq_true rfl)⟩) ⟨kR_fb, va_recv hK hP (ci := 10) (q0 := 0) rfl rfl, (kR_go hPc hK)⟩ rfl rfl hl.1 rfl (lv_room (Nat.le_of_ble_eq_true rfl)) dX8_paradox_2 ⟨(Nat.le_of_ble_eq_true rfl), (Nat.le_of_ble_eq_true rfl)⟩) hS (fun _ _ h => h.elim) (fun _ h => h.elim) (fun r9 u t H locs ht hvm hw hB hz1 hk1 hS => ?_)
  have hP := kx_kept hP hk1
  obtain ⟨rfl, hw⟩ := hw
  refine lv_iconst (v := 1) hx hb dX8_paradox_5 (by decide) ?_
  have hPc := hP.sub (ws' := [(h1, .inr (10, [x2, x3, x4, x5, x6, x7, x8, x9, x10, x11, x12, x13, x14, x15, .int 0, .int 0, x16, x17]))]) [0] rfl
  have hDc := hD.sub (ws' := [(h1, .inr (10, [x2, x3, x4, x5, x6, x7, x8, x9, x10, x11, x12, x13, x14, x15, .int 0, .int 0, x16, x17]))]) [0] (by decide) rfl
  have hFc := va_free (wc := [(h1, .inr (10, [x2, x3, x4, x5, x6, x7, x8, x9, x10, x11, x12, x13, x14, x15, .int 0, .int 0, x16, x17]))]) hD hS hA [0] rfl
  refine va_calli (va_runV (As := [.int 0, .int 1]) (rest := []) ⟨hx, hb, hml, hown, hts⟩ (k_X8_isThrown_1 l D cy h1 (x2) (x3) (x4) (x5) (x6) (x7) (x8) (x9) (x10) (x11) (x12) (x13) (x14) (x15) (.int 0) (.int 0) (x16) (x17) H.size) (cwV 2 hts gX8_paradox_X8_isThrown rfl rfl rfl (by decide +kernel) ⟨(Nat.le_of_ble_eq_true rfl), (Nat.le_of_ble_eq_true rfl)⟩) ⟨kW_fb, va_recv hK hP (ci := 10) (q0 := 0) rfl rfl, (kW_go hPc hK hDc)⟩ rfl rfl hl.1 rfl (lv_room (Nat.le_of_ble_eq_true rfl)) dX8_paradox_6 ⟨(Nat.le_of_ble_eq_true rfl), (Nat.le_of_ble_eq_true rfl)⟩) hS (fun q _ h => hFc q h) hFc (fun r9 u t H locs ht hvm hw hB hz1 hk1 hS => ?_)
  obtain ⟨hP1, hD1⟩ := hB
  rw [ht] at hP1
  try dsimp only at hw hP1 hD1
  obtain ⟨hP, hD⟩ := va_join (wr := []) (w1 := [(h1, .inr (10, [x2, x3, x4, x5, x6, x7, x8, x9, x10, x11, x12, x13, x14, x15, .int 0, .int 0, x16, .int 0]))]) hP hD [0] [] rfl rfl (by decide) (by decide) hk1 hFc hP1 hD1
  have hP : va_P D vwCl [(h1, .inr (10, [x2, x3, x4, x5, x6, x7, x8, x9, x10, x11, x12, x13, x14, x15, .int 0, .int 0, x16, .int 0]))] H := hP
  have hD : va_D A [(h1, .inr (10, [x2, x3, x4, x5, x6, x7, x8, x9, x10, x11, x12, x13, x14, x15, .int 0, .int 0, x16, .int 0]))] := hD
  obtain ⟨rfl, hw⟩ := hw
  refine lv_if_eq (tgt := 14) hx hb dX8_paradox_9 (by decide) (fun _ => ?_) (fun h => absurd (by decide) h)
  refine lv_iconst (v := (-1)) hx hb dX8_paradox_14 (by decide) ?_
  refine lv_istore_n (lv' := [(1, .int (-1)), (0, .ref h1)]) hx hb dX8_paradox_15 rfl hl (by decide) rfl (fun ls hl => ?_)
  refine lv_aload_n hx hb dX8_paradox_16 rfl (lv_at hl 1 rfl) ?_
  refine va_get (D := D) (ci := 10) (v := .int 0) (C := RX8) (T := TX8) (N := 18) hx hb hts (fun _ h => (List.mem_cons_of_mem _ (List.mem_append_left _ (List.mem_append_left _ (List.mem_append_left _ (List.mem_append_left _ (List.mem_append_right _ h))))))) hown hK hP 0 rfl rfl 14 (by decide) (hts (.fieldLink RX8 62 "SelfishJunctionModel" "resources" "I") (List.mem_cons_of_mem _ (List.mem_append_left _ (List.mem_append_left _ (List.mem_append_left _ (List.mem_append_left _ (List.mem_append_left _ (List.mem_append_left _ (List.mem_of_getElem? (i := 0) rfl))))))))) (fun _ h9 => h9) rfl dX8_paradox_17 ?_
  refine lv_iconst (v := 1) hx hb dX8_paradox_20 (by decide) ?_
  refine lv_isub hx hb dX8_paradox_21 ?_
  refine lv_topi (fun v_3 ev_3 => ?_)
  obtain rfl : v_3 = (-1) := ev_3.trans (by decide)
  refine lv_istore_n (lv' := [(2, .int (-1)), (1, .int (-1)), (0, .ref h1)]) hx hb dX8_paradox_22 rfl hl (by decide) rfl (fun ls hl => ?_)
  refine lv_iload_n hx hb dX8_paradox_23 rfl (lv_at hl 0 rfl) ?_
  refine lv_if_lt (tgt := 47) hx hb dX8_paradox_24 (by decide) (fun _ => ?_) (fun h => absurd (by decide) h)
  refine lv_aload_n hx hb dX8_paradox_47 rfl (lv_at hl 2 rfl) ?_
  refine lv_iload_n hx hb dX8_paradox_48 rfl (lv_at hl 1 rfl) ?_
  refine lv_iconst (v := (-1)) hx hb dX8_paradox_49 (by decide) ?_
  refine lv_icmp_ne (tgt := 57) hx hb dX8_paradox_50 (by decide) (fun h => absurd (by decide) h) (fun _ => ?_)
  refine lv_iconst (v := 1) hx hb dX8_paradox_53 (by decide) ?_
  refine lv_goto (tgt := 58) hx hb dX8_paradox_54 (by decide) ?_
  refine lv_iconst (v := 2) hx hb dX8_paradox_58 (by decide) ?_
  have hPc := hP.sub (ws' := [(h1, .inr (10, [x2, x3, x4, x5, x6, x7, x8, x9, x10, x11, x12, x13, x14, x15, .int 0, .int 0, x16, .int 0]))]) [0] rfl
  have hDc := hD.sub (ws' := [(h1, .inr (10, [x2, x3, x4, x5, x6, x7, x8, x9, x10, x11, x12, x13, x14, x15, .int 0, .int 0, x16, .int 0]))]) [0] (by decide) rfl
  have hFc := va_free (wc := [(h1, .inr (10, [x2, x3, x4, x5, x6, x7, x8, x9, x10, x11, x12, x13, x14, x15, .int 0, .int 0, x16, .int 0]))]) hD hS hA [0] rfl
  refine va_calli (va_runV (As := [.int 1, .int 2]) (rest := []) ⟨hx, hb, hml, hown, hts⟩ (k_X8_isThrown_3 l D cy h1 (x2) (x3) (x4) (x5) (x6) (x7) (x8) (x9) (x10) (x11) (x12) (x13) (x14) (x15) (.int 0) (.int 0) (x16) (.int 0) H.size) (cwV 2 hts gX8_paradox_X8_isThrown rfl rfl rfl (by decide +kernel) ⟨(Nat.le_of_ble_eq_true rfl), (Nat.le_of_ble_eq_true rfl)⟩) ⟨kW_fb, va_recv hK hP (ci := 10) (q0 := 0) rfl rfl, (kW_go hPc hK hDc)⟩ rfl rfl hl.1 rfl (lv_room (Nat.le_of_ble_eq_true rfl)) dX8_paradox_59 ⟨(Nat.le_of_ble_eq_true rfl), (Nat.le_of_ble_eq_true rfl)⟩) hS (fun q _ h => hFc q h) hFc (fun r9 u t H locs ht hvm hw hB hz1 hk1 hS => ?_)
  obtain ⟨hP1, hD1⟩ := hB
  rw [ht] at hP1
  try dsimp only at hw hP1 hD1
  obtain ⟨hP, hD⟩ := va_join (wr := []) (w1 := [(h1, .inr (10, [x2, x3, x4, x5, x6, x7, x8, x9, x10, x11, x12, x13, x14, x15, .int 0, .int 0, x16, .int 2]))]) hP hD [0] [] rfl rfl (by decide) (by decide) hk1 hFc hP1 hD1
  have hP : va_P D vwCl [(h1, .inr (10, [x2, x3, x4, x5, x6, x7, x8, x9, x10, x11, x12, x13, x14, x15, .int 0, .int 0, x16, .int 2]))] H := hP
  have hD : va_D A [(h1, .inr (10, [x2, x3, x4, x5, x6, x7, x8, x9, x10, x11, x12, x13, x14, x15, .int 0, .int 0, x16, .int 2]))] := hD
  obtain ⟨rfl, hw⟩ := hw
  refine lv_if_eq (tgt := 69) hx hb dX8_paradox_62 (by decide) (fun h => absurd h (by decide)) (fun _ => ?_)
  refine lv_iconst (v := 0) hx hb dX8_paradox_65 (by decide) ?_
  refine lv_goto (tgt := 70) hx hb dX8_paradox_66 (by decide) ?_
  refine W.widen (k := 0) (n := 0) (Nat.le_of_ble_eq_true rfl) (Nat.le_of_ble_eq_true rfl) ?_
  have hP9 := hP.sub (ws' := [(h1, .inr (10, [x2, x3, x4, x5, x6, x7, x8, x9, x10, x11, x12, x13, x14, x15, .int 0, .int 0, x16, .int 2]))]) [0] rfl
  have hD9 := hD.sub (ws' := [(h1, .inr (10, [x2, x3, x4, x5, x6, x7, x8, x9, x10, x11, x12, x13, x14, x15, .int 0, .int 0, x16, .int 2]))]) [0] (by decide) rfl
  exact W.iret (v := 0) hx hb hr (fun t ht hW => ⟨⟨0, (), rfl, ⟨rfl, trivial⟩, ⟨by rw [ht]; exact hP9, hD9⟩⟩, hS.F ht⟩) hS.2.2 dX8_paradox_70
set_option maxHeartbeats 4000000 in
set_option maxRecDepth 100000 in
theorem k_X8_thrown_2 (l : Launch) (D : va_G) (cy : Nat → ClassId) (h1 : Nat) (x2 : Value) (x3 : Value) (x4 : Value) (x5 : Value) (x6 : Value) (x7 : Value) (x8 : Value) (x9 : Value) (x10 : Value) (x11 : Value) (x12 : Value) (x13 : Value) (x14 : Value) (x15 : Value) (x16 : Value) (x17 : Value) (x18 : Value) : Met l yX8_thrown wsX8_thrown ({ frames := 0, cells := 0, slots := 0, locals := 0 }) (kR D cy [.ref h1] [(h1, .inr (10, [x2, x3, x4, x5, x6, x7, x8, x9, x10, x11, x12, x13, x14, x15, x16, x17, x18, .int 2]))]) (va_Qi (fun (r : Int32) (_ : Unit) => r = 2 ∧ True) (fun (_ : Unit) (_ : State) => True) (fun _ : Nat => False)) 0 0 (fun _ : Nat => False) := by
  refine Met.ofW (cc := cX8_thrown) (maxL := 1) (ret := (some .int)) (by decide) rfl ?_
  intro p e s m args below meth c s₁ B hml hv
  obtain ⟨rfl, hP, hK⟩ := hv
  have hx := B.exec
  have hb := B.bytes
  have hr := B.returns
  have hts := atoms_spec (ws := wsX8_thrown) B.pre
  have hown : s.vm.findClass RX8 = some m.cls := findClass_of_methodNamed B.named
  have hlocks := B.notSynchronized
  have hS : va_S (fun _ : Nat => False) s.heap s.heap [] := va_S.rf
  have hP : va_P D vwCl [(h1, .inr (10, [x2, x3, x4, x5, x6, x7, x8, x9, x10, x11, x12, x13, x14, x15, x16, x17, x18, .int 2]))] s.heap := hP
  have hl := lv_entry ([.ref h1]) (n := 1) (Nat.le_of_ble_eq_true rfl)
  rw [lg_entry_eq]
  generalize (lg_sl ([.ref h1]) ++ List.replicate (1 - (lg_sl ([.ref h1])).length) Slot.unset).toArray = ls at hl ⊢
  have hl : lv_has ls 1 [(0, .ref h1)] := hl
  refine lv_aload_n hx hb dX8_thrown_0 rfl (lv_at hl 0 rfl) ?_
  refine va_get (D := D) (ci := 10) (v := .int 2) (C := RX8) (T := TX8) (N := 18) hx hb hts (fun _ h => (List.mem_cons_of_mem _ (List.mem_append_right _ h))) hown hK hP 0 rfl rfl 17 (by decide) (hts (.fieldLink RX8 59 "SelfishJunctionModel" "thrown" "I") (List.mem_cons_of_mem _ (List.mem_append_left _ (List.mem_of_getElem? (i := 0) rfl)))) (fun _ h9 => h9) rfl dX8_thrown_1 ?_
  refine W.widen (k := 0) (n := 0) (Nat.le_of_ble_eq_true rfl) (Nat.le_of_ble_eq_true rfl) ?_
  exact W.iret (v := 2) hx hb hr (fun t ht hW => ⟨⟨2, (), rfl, ⟨rfl, trivial⟩, trivial⟩, hS.F ht⟩) hS.2.2 dX8_thrown_4
theorem dX7_learnOnce_0 : decode cX7_learnOnce 0 = .ok (.iconst 0, 1) := by decide +kernel
theorem dX7_learnOnce_1 : decode cX7_learnOnce 1 = .ok (.istore_n 1, 1) := by decide +kernel
theorem dX7_learnOnce_2 : decode cX7_learnOnce 2 = .ok (.iload_n 1, 1) := by decide +kernel
theorem dX7_learnOnce_3 : decode cX7_learnOnce 3 = .ok (.aload_n 0, 1) := by decide +kernel
theorem dX7_learnOnce_4 : decode cX7_learnOnce 4 = .ok (.getfield 10, 3) := by decide +kernel
theorem dX7_learnOnce_7 : decode cX7_learnOnce 7 = .ok (.getfield 281, 3) := by decide +kernel
theorem dX7_learnOnce_10 : decode cX7_learnOnce 10 = .ok (.if_icmp .ge 21, 3) := by decide +kernel
theorem dX7_learnOnce_31 : decode cX7_learnOnce 31 = .ok (.iconst 0, 1) := by decide +kernel
theorem dX7_learnOnce_32 : decode cX7_learnOnce 32 = .ok (.istore_n 1, 1) := by decide +kernel
theorem dX7_learnOnce_33 : decode cX7_learnOnce 33 = .ok (.iload_n 1, 1) := by decide +kernel
theorem dX7_learnOnce_34 : decode cX7_learnOnce 34 = .ok (.aload_n 0, 1) := by decide +kernel
theorem dX7_learnOnce_35 : decode cX7_learnOnce 35 = .ok (.getfield 10, 3) := by decide +kernel
theorem dX7_learnOnce_38 : decode cX7_learnOnce 38 = .ok (.getfield 281, 3) := by decide +kernel
theorem dX7_learnOnce_41 : decode cX7_learnOnce 41 = .ok (.if_icmp .ge 79, 3) := by decide +kernel
theorem dX7_learnOnce_120 : decode cX7_learnOnce 120 = .ok (.return_, 1) := by decide +kernel
set_option maxHeartbeats 4000000 in
set_option maxRecDepth 100000 in
theorem k_X7_learnOnce (l : Launch) (D : va_G) (cy : Nat → ClassId) (h1 : Nat) (h2 : Nat) (x3 : Value) (x4 : Value) (x5 : Value) (x6 : Value) (x7 : Value) (x8 : Value) (x9 : Value) (x10 : Value) (x11 : Value) : Met l yX7_learnOnce wsX7_learnOnce ({ frames := 0, cells := 0, slots := 0, locals := 0 }) (kR D cy [.ref h1] [(h1, .inr (9, [.ref h2, x3, x4, x5, x6, x7, x8])), (h2, .inr (2, [x9, x10, x11, .int 0]))]) (va_Qv (fun (_ : Unit) => True) (fun (_ : Unit) (_ : State) => True) (fun _ : Nat => False)) 0 0 (fun _ : Nat => False) := by
  refine Met.ofW (cc := cX7_learnOnce) (maxL := 4) (ret := none) (by decide) rfl ?_
  intro p e s m args below meth c s₁ B hml hv
  obtain ⟨rfl, hP, hK⟩ := hv
  have hx := B.exec
  have hb := B.bytes
  have hr := B.returns
  have hts := atoms_spec (ws := wsX7_learnOnce) B.pre
  have hown : s.vm.findClass RX7 = some m.cls := findClass_of_methodNamed B.named
  have hlocks := B.notSynchronized
  have hS : va_S (fun _ : Nat => False) s.heap s.heap [] := va_S.rf
  have hP : va_P D vwCl [(h1, .inr (9, [.ref h2, x3, x4, x5, x6, x7, x8])), (h2, .inr (2, [x9, x10, x11, .int 0]))] s.heap := hP
  have hl := lv_entry ([.ref h1]) (n := 4) (Nat.le_of_ble_eq_true rfl)
  rw [lg_entry_eq]
  generalize (lg_sl ([.ref h1]) ++ List.replicate (4 - (lg_sl ([.ref h1])).length) Slot.unset).toArray = ls at hl ⊢
  have hl : lv_has ls 4 [(0, .ref h1)] := hl
  refine lv_iconst (v := 0) hx hb dX7_learnOnce_0 (by decide) ?_
  refine lv_istore_n (lv' := [(1, .int 0), (0, .ref h1)]) hx hb dX7_learnOnce_1 rfl hl (by decide) rfl (fun ls hl => ?_)
  refine lv_iload_n hx hb dX7_learnOnce_2 rfl (lv_at hl 0 rfl) ?_
  refine lv_aload_n hx hb dX7_learnOnce_3 rfl (lv_at hl 1 rfl) ?_
  refine va_get (D := D) (ci := 9) (v := .ref h2) (C := RX7) (T := TX7) (N := 7) hx hb hts (fun _ h => (List.mem_cons_of_mem _ (List.mem_append_left _ (List.mem_append_left _ (List.mem_append_left _ (List.mem_append_left _ (List.mem_append_left _ (List.mem_append_left _ (List.mem_append_right _ h))))))))) hown hK hP 0 rfl rfl 0 (by decide) (hts (.fieldLink RX7 10 "SelfishJunction" "board" "LSelfishJunction$Board;") (List.mem_cons_of_mem _ (List.mem_append_left _ (List.mem_append_left _ (List.mem_append_left _ (List.mem_append_left _ (List.mem_append_left _ (List.mem_append_left _ (List.mem_append_left _ (List.mem_append_left _ (List.mem_of_getElem? (i := 0) rfl))))))))))) (fun _ h9 => h9) rfl dX7_learnOnce_4 ?_
  refine va_get (D := D) (ci := 2) (v := .int 0) (C := RX0) (T := TX0) (N := 4) hx hb hts (fun _ h => (List.mem_cons_of_mem _ (List.mem_append_left _ (List.mem_append_left _ (List.mem_append_left _ (List.mem_append_left _ (List.mem_append_left _ (List.mem_append_right _ h)))))))) hown hK hP 1 rfl rfl 3 (by decide) (hts (.fieldLink RX7 281 "SelfishJunction$Board" "playerCount" "I") (List.mem_cons_of_mem _ (List.mem_append_left _ (List.mem_append_left _ (List.mem_append_left _ (List.mem_append_left _ (List.mem_append_left _ (List.mem_append_left _ (List.mem_append_left _ (List.mem_append_left _ (List.mem_of_getElem? (i := 1) rfl))))))))))) (fun _ h9 => h9) rfl dX7_learnOnce_7 ?_
  refine lv_icmp_ge (tgt := 31) hx hb dX7_learnOnce_10 (by decide) (fun _ => ?_) (fun h => absurd (by decide) h)
  refine lv_iconst (v := 0) hx hb dX7_learnOnce_31 (by decide) ?_
  refine lv_istore_n (lv' := [(1, .int 0), (0, .ref h1)]) hx hb dX7_learnOnce_32 rfl hl (by decide) rfl (fun ls hl => ?_)
  refine lv_iload_n hx hb dX7_learnOnce_33 rfl (lv_at hl 0 rfl) ?_
  refine lv_aload_n hx hb dX7_learnOnce_34 rfl (lv_at hl 1 rfl) ?_
  refine va_get (D := D) (ci := 9) (v := .ref h2) (C := RX7) (T := TX7) (N := 7) hx hb hts (fun _ h => (List.mem_cons_of_mem _ (List.mem_append_left _ (List.mem_append_left _ (List.mem_append_left _ (List.mem_append_left _ (List.mem_append_left _ (List.mem_append_left _ (List.mem_append_right _ h))))))))) hown hK hP 0 rfl rfl 0 (by decide) (hts (.fieldLink RX7 10 "SelfishJunction" "board" "LSelfishJunction$Board;") (List.mem_cons_of_mem _ (List.mem_append_left _ (List.mem_append_left _ (List.mem_append_left _ (List.mem_append_left _ (List.mem_append_left _ (List.mem_append_left _ (List.mem_append_left _ (List.mem_append_left _ (List.mem_of_getElem? (i := 0) rfl))))))))))) (fun _ h9 => h9) rfl dX7_learnOnce_35 ?_
  refine va_get (D := D) (ci := 2) (v := .int 0) (C := RX0) (T := TX0) (N := 4) hx hb hts (fun _ h => (List.mem_cons_of_mem _ (List.mem_append_left _ (List.mem_append_left _ (List.mem_append_left _ (List.mem_append_left _ (List.mem_append_left _ (List.mem_append_right _ h)))))))) hown hK hP 1 rfl rfl 3 (by decide) (hts (.fieldLink RX7 281 "SelfishJunction$Board" "playerCount" "I") (List.mem_cons_of_mem _ (List.mem_append_left _ (List.mem_append_left _ (List.mem_append_left _ (List.mem_append_left _ (List.mem_append_left _ (List.mem_append_left _ (List.mem_append_left _ (List.mem_append_left _ (List.mem_of_getElem? (i := 1) rfl))))))))))) (fun _ h9 => h9) rfl dX7_learnOnce_38 ?_
  refine lv_icmp_ge (tgt := 120) hx hb dX7_learnOnce_41 (by decide) (fun _ => ?_) (fun h => absurd (by decide) h)
  refine W.widen (k := 0) (n := 0) (Nat.le_of_ble_eq_true rfl) (Nat.le_of_ble_eq_true rfl) ?_
  exact W.vret hx hb hr (fun t ht hW => ⟨⟨(), rfl, trivial, trivial⟩, hS.F ht⟩) hS.2.2 dX7_learnOnce_120
theorem dX7_learn_0 : decode cX7_learn 0 = .ok (.aload_n 0, 1) := by decide +kernel
theorem dX7_learn_1 : decode cX7_learn 1 = .ok (.iload_n 1, 1) := by decide +kernel
theorem dX7_learn_2 : decode cX7_learn 2 = .ok (.iconst 1, 1) := by decide +kernel
theorem dX7_learn_3 : decode cX7_learn 3 = .ok (.bipush 50, 2) := by decide +kernel
theorem dX7_learn_5 : decode cX7_learn 5 = .ok (.invokevirtual 174, 3) := by decide +kernel
set_option maxRecDepth 20000 in
theorem ggX7_learn_X7_checkRange : GoodIn wsX7_learn wsX7_checkRange := goodIn_ca (goodIn_r _ [7, 8, 9] (by decide +kernel) (by decide +kernel)) (goodIn_sub (fun _ h => List.mem_cons_of_mem _ (List.mem_append_left _ (List.mem_append_left _ (List.mem_append_right _ h)))) (by decide +kernel))
set_option maxRecDepth 20000 in
theorem gX7_learn_X7_checkRange : GoodIn wsX7_learn (wsV RX7 174 RX7 yX7_checkRange wsX7_checkRange) := goodIn_app (goodIn_of _ (by decide +kernel)) ggX7_learn_X7_checkRange
theorem dX7_learn_8 : decode cX7_learn 8 = .ok (.iconst 0, 1) := by decide +kernel
theorem dX7_learn_9 : decode cX7_learn 9 = .ok (.istore_n 2, 1) := by decide +kernel
theorem dX7_learn_10 : decode cX7_learn 10 = .ok (.iload_n 2, 1) := by decide +kernel
theorem dX7_learn_11 : decode cX7_learn 11 = .ok (.iload_n 1, 1) := by decide +kernel
theorem dX7_learn_12 : decode cX7_learn 12 = .ok (.if_icmp .ge 13, 3) := by decide +kernel
theorem dX7_learn_25 : decode cX7_learn 25 = .ok (.aload_n 0, 1) := by decide +kernel
theorem dX7_learn_26 : decode cX7_learn 26 = .ok (.getfield 10, 3) := by decide +kernel
theorem dX7_learn_29 : decode cX7_learn 29 = .ok (.aload_n 0, 1) := by decide +kernel
theorem dX7_learn_30 : decode cX7_learn 30 = .ok (.getfield 19, 3) := by decide +kernel
theorem dX7_learn_33 : decode cX7_learn 33 = .ok (.invokevirtual 188, 3) := by decide +kernel
set_option maxRecDepth 20000 in
theorem ggX7_learn_X0_totalOf : GoodIn wsX7_learn wsX0_totalOf := goodIn_ca (goodIn_r _ [91, 92, 22, 29, 34, 36, 37, 35, 40, 41, 42, 43, 44, 45, 46, 47, 6, 48, 49, 50, 51, 52, 53, 54, 100, 101, 102, 103, 110, 111, 112, 104, 105, 106, 107, 108, 109, 113, 114, 115, 116, 117, 118, 119] (by decide +kernel) (by decide +kernel)) (goodIn_sub (fun _ h => List.mem_cons_of_mem _ (List.mem_append_right _ h)) (by decide +kernel))
set_option maxRecDepth 20000 in
theorem gX7_learn_X0_totalOf : GoodIn wsX7_learn (wsV RX7 188 RX0 yX0_totalOf wsX0_totalOf) := goodIn_app (goodIn_of _ (by decide +kernel)) ggX7_learn_X0_totalOf
theorem dX7_learn_36 : decode cX7_learn 36 = .ok (.ireturn, 1) := by decide +kernel
theorem dX7_learn_15 : decode cX7_learn 15 = .ok (.aload_n 0, 1) := by decide +kernel
theorem dX7_learn_16 : decode cX7_learn 16 = .ok (.invokevirtual 319, 3) := by decide +kernel
set_option maxRecDepth 20000 in
theorem ggX7_learn_X7_learnOnce : GoodIn wsX7_learn wsX7_learnOnce := goodIn_ca (goodIn_ca (goodIn_r _ [13, 1, 14, 2, 15, 16, 17, 18, 19, 20, 21, 22, 23, 24, 25, 26, 27, 28, 29, 30, 31, 32, 33, 34, 35, 36, 37, 38, 39, 40, 41, 42, 43, 44, 45, 46, 47, 6, 48, 49, 50, 51, 52, 53, 54, 55, 56, 57, 58, 59, 60, 61, 62, 63, 64, 65, 66, 67, 68, 69, 70, 71, 72, 73, 74, 75, 76, 77, 78, 79, 80, 81, 82, 83, 84, 85, 86, 87, 93, 94, 95, 96, 97, 98, 99, 100, 101, 102, 103, 104, 105, 106, 107, 108, 109, 110, 111, 112, 113, 114, 115, 116, 117, 118, 119] (by decide +kernel) (by decide +kernel)) (goodIn_sub (fun _ h => List.mem_cons_of_mem _ (List.mem_append_left _ (List.mem_append_right _ h))) (by decide +kernel))) (goodIn_sub (fun _ h => List.mem_cons_of_mem _ (List.mem_append_right _ h)) (by decide +kernel))
set_option maxRecDepth 20000 in
theorem gX7_learn_X7_learnOnce : GoodIn wsX7_learn (wsV RX7 319 RX7 yX7_learnOnce wsX7_learnOnce) := goodIn_app (goodIn_of _ (by decide +kernel)) ggX7_learn_X7_learnOnce
theorem dX7_learn_19 : decode cX7_learn 19 = .ok (.iinc 2 1, 3) := by decide +kernel
theorem dX7_learn_22 : decode cX7_learn 22 = .ok (.goto (-12), 3) := by decide +kernel
set_option maxHeartbeats 4000000 in
set_option maxRecDepth 100000 in
theorem k_X7_learn (l : Launch) (hl9 : l.stackTraces = false) (D : va_G) (cy : Nat → ClassId) (h1 : Nat) (p0 : Int32) (h2 : Nat) (h3 : Nat) (x4 : Value) (x5 : Value) (x6 : Value) (x7 : Value) (x8 : Value) (x9 : Value) (x10 : Value) (x11 : Value) : vx_Met l yX7_learn wsX7_learn ({ frames := 7, cells := 1, slots := 6, locals := 105 }) (kRX D cy [.ref h1, .int p0] [(h1, .inr (9, [.ref h2, .ref h3, x4, x5, x6, x7, x8])), (h2, .inr (2, [x9, x10, x11, .int 0]))]) (va_Qi (fun (r : Int32) (_ : Unit) => r = 0 ∧ ((1 : Int) ≤ p0.toInt ∧ p0.toInt ≤ (50 : Int))) (fun (_ : Unit) (_ : State) => True) (fun _ : Nat => False)) (vx_X (fun _ : Unit => True) (fun (E : String) (_ : Unit) (_ : State) => (E = "java/lang/IllegalArgumentException" ∧ ¬ (((1 : Int) ≤ p0.toInt ∧ p0.toInt ≤ (50 : Int))))) (fun _ : Nat => False)) 1 6 (fun _ : Nat => False) := by
  refine vx_ofW (cc := cX7_learn) (maxL := 3) (ret := (some .int)) (by decide) rfl ?_
  intro p e s m args below meth c s₁ B hml ht9 hv
  obtain ⟨rfl, hP, hK, hE⟩ := hv
  have hx := B.exec
  have hb := B.bytes
  have hr := B.returns
  have hts := atoms_spec (ws := wsX7_learn) B.pre
  have hown : s.vm.findClass RX7 = some m.cls := findClass_of_methodNamed B.named
  have hlocks := B.notSynchronized
  have hS : va_S (fun _ : Nat => False) s.heap s.heap [] := va_S.rf
  have hP : va_P D vwCl [(h1, .inr (9, [.ref h2, .ref h3, x4, x5, x6, x7, x8])), (h2, .inr (2, [x9, x10, x11, .int 0]))] s.heap := hP
  have hl := lv_entry ([.ref h1, .int p0]) (n := 3) (Nat.le_of_ble_eq_true rfl)
  rw [lg_entry_eq]
  generalize (lg_sl ([.ref h1, .int p0]) ++ List.replicate (3 - (lg_sl ([.ref h1, .int p0])).length) Slot.unset).toArray = ls at hl ⊢
  have hl : lv_has ls 3 [(0, .ref h1), (1, .int p0)] := hl
  refine lv_aload_n hx hb dX7_learn_0 rfl (lv_at hl 0 rfl) ?_
  refine lv_iload_n hx hb dX7_learn_1 rfl (lv_at hl 1 rfl) ?_
  refine lv_iconst (v := 1) hx hb dX7_learn_2 (by decide) ?_
  refine lv_bipush (v := 50) hx hb dX7_learn_3 (by decide) ?_
  have hPc := hP.sub (ws' := []) [] rfl
  refine vx_callv (vx_runV (As := [.int p0, .int 1, .int 50]) (rest := []) ⟨hx, hb, hml, hown, hts⟩ (k_X7_checkRange l hl9 D cy h1 p0 1 50) (cwV 3 hts gX7_learn_X7_checkRange rfl rfl rfl (by decide +kernel) ⟨(Nat.le_of_ble_eq_true rfl), (Nat.le_of_ble_eq_true rfl)⟩) ⟨kRX_fb, va_recv hK hP (ci := 9) (q0 := 0) rfl rfl, (kRX_go hPc hK hE hS)⟩ rfl rfl hl.1 rfl (lv_room (Nat.le_of_ble_eq_true rfl)) dX7_learn_5 ⟨(Nat.le_of_ble_eq_true rfl), (Nat.le_of_ble_eq_true rfl)⟩) hS (fun _ _ h => h.elim) (fun _ h => h.elim) (fun _ _ h => h.elim) (fun E9 ce9 q9 u t H locs ht hvm hw hB hz1 hk1 hS hce hcv hcl => ?_) (fun u t H locs ht hvm hw hB hz1 hk1 hS => ?_)
  · obtain ⟨rfl, hB⟩ := hB
    have f_1 : ¬ (((1 : Int) ≤ p0.toInt ∧ p0.toInt ≤ (50 : Int))) := hB
    exact vx_out (fun x hx => (ht9 x hx).elim) hlocks hce hcv hcl (fun t ht _ => ⟨(), trivial, (⟨rfl, (by omega)⟩), hS.F ht⟩) hS.2.2 (Nat.le_of_ble_eq_true rfl) (Nat.le_of_ble_eq_true rfl)
  · have hP := kx_kept hP hk1
    have f_2 : ((1 : Int) ≤ p0.toInt ∧ p0.toInt ≤ (50 : Int)) := hw
    refine lv_iconst (v := 0) hx hb dX7_learn_8 (by decide) ?_
    refine lv_istore_n (lv' := [(2, .int 0), (0, .ref h1), (1, .int p0)]) hx hb dX7_learn_9 rfl hl (by decide) rfl (fun ls hl => ?_)
    have hlp := lv_sub hl (l' := [(2, .int 0), (0, .ref h1), (1, .int p0)]) [0, 1, 2] rfl
    refine kx_loop p0.toInt (fun _ : Int32 => 1) (fun _ : Int32 => 6) (fun (k9 : Int32) (H9 : Heap) (locs9 : List Loc) (ls9 : Array Slot) => (0 : Int) ≤ k9.toInt ∧ k9.toInt ≤ p0.toInt ∧ va_P D vwCl [(h1, .inr (9, [.ref h2, .ref h3, x4, x5, x6, x7, x8])), (h2, .inr (2, [x9, x10, x11, .int 0]))] H9 ∧ va_S (fun _ : Nat => False) s.heap H9 locs9 ∧ lv_has ls9 3 [(2, .int k9), (0, .ref h1), (1, .int p0)]) (fun _ _ _ _ h9 => h9.2.1) ?_ 0 _ _ _ ⟨(show (0 : Int) ≤ (0 : Int) by omega), (show (0 : Int) ≤ p0.toInt by omega), hP, hS, hlp⟩
    intro k_3 H locs ls ⟨f_4, f_5, hP, hS, hl⟩ ih
    refine lv_iload_n hx hb dX7_learn_10 rfl (lv_at hl 0 rfl) ?_
    refine lv_iload_n hx hb dX7_learn_11 rfl (lv_at hl 2 rfl) ?_
    refine lv_icmp_ge (tgt := 25) hx hb dX7_learn_12 (by decide) (fun c_6 => ?_) (fun c_6 => ?_)
    · have f_7 : p0.toInt ≤ k_3.toInt := kx_le c_6
      refine lv_aload_n hx hb dX7_learn_25 rfl (lv_at hl 1 rfl) ?_
      refine va_get (D := D) (ci := 9) (v := .ref h2) (C := RX7) (T := TX7) (N := 7) hx hb hts (fun _ h => (List.mem_cons_of_mem _ (List.mem_append_left _ (List.mem_append_left _ (List.mem_append_left _ (List.mem_append_left _ (List.mem_append_left _ (List.mem_append_left _ (List.mem_append_left _ (List.mem_append_right _ h)))))))))) hown hK hP 0 rfl rfl 0 (by decide) (hts (.fieldLink RX7 10 "SelfishJunction" "board" "LSelfishJunction$Board;") (List.mem_cons_of_mem _ (List.mem_append_left _ (List.mem_append_left _ (List.mem_append_left _ (List.mem_append_left _ (List.mem_append_left _ (List.mem_append_left _ (List.mem_append_left _ (List.mem_append_left _ (List.mem_append_left _ (List.mem_of_getElem? (i := 0) rfl)))))))))))) (fun _ h9 => h9) rfl dX7_learn_26 ?_
      refine lv_aload_n hx hb dX7_learn_29 rfl (lv_at hl 1 rfl) ?_
      refine va_get (D := D) (ci := 9) (v := .ref h3) (C := RX7) (T := TX7) (N := 7) hx hb hts (fun _ h => (List.mem_cons_of_mem _ (List.mem_append_left _ (List.mem_append_left _ (List.mem_append_left _ (List.mem_append_left _ (List.mem_append_left _ (List.mem_append_left _ (List.mem_append_left _ (List.mem_append_right _ h)))))))))) hown hK hP 0 rfl rfl 1 (by decide) (hts (.fieldLink RX7 19 "SelfishJunction" "now" "LSelfishJunction$Play;") (List.mem_cons_of_mem _ (List.mem_append_left _ (List.mem_append_left _ (List.mem_append_left _ (List.mem_append_left _ (List.mem_append_left _ (List.mem_append_left _ (List.mem_append_left _ (List.mem_append_left _ (List.mem_append_left _ (List.mem_of_getElem? (i := 1) rfl)))))))))))) (fun _ h9 => h9) rfl dX7_learn_30 ?_
      have hPc := hP.sub (ws' := [(h2, .inr (2, [x9, x10, x11, .int 0]))]) [1] rfl
      refine va_calli (va_runV (As := [.ref h3]) (rest := []) ⟨hx, hb, hml, hown, hts⟩ (k_X0_totalOf l D cy h2 h3 (x9) (x10) (x11)) (cwV 1 hts gX7_learn_X0_totalOf rfl rfl rfl (by decide +kernel) ⟨(Nat.le_of_ble_eq_true rfl), (Nat.le_of_ble_eq_true rfl)⟩) ⟨kR_fb, va_recv hK hP (ci := 2) (q0 := 1) rfl rfl, (kR_go hPc hK)⟩ rfl rfl hl.1 rfl (lv_room (Nat.le_of_ble_eq_true rfl)) dX7_learn_33 ⟨(Nat.le_of_ble_eq_true rfl), (Nat.le_of_ble_eq_true rfl)⟩) hS (fun _ _ h => h.elim) (fun _ h => h.elim) (fun r9 u t H locs ht hvm hw hB hz1 hk1 hS => ?_)
      have hP := kx_kept hP hk1
      obtain ⟨rfl, hw⟩ := hw
      refine vx_ret ?_
      refine W.widen (k := 1) (n := 6) (Nat.le_of_ble_eq_true rfl) (Nat.le_of_ble_eq_true rfl) ?_
      exact W.iret (v := 0) hx hb hr (fun t ht hW => ⟨⟨0, (), rfl, ⟨rfl, (by omega)⟩, trivial⟩, hS.F ht⟩) hS.2.2 dX7_learn_36
    · have f_9 : k_3.toInt < p0.toInt := kx_nle c_6
      refine lv_aload_n hx hb dX7_learn_15 rfl (lv_at hl 1 rfl) ?_
      have hPc := hP.sub (ws' := [(h1, .inr (9, [.ref h2, .ref h3, x4, x5, x6, x7, x8])), (h2, .inr (2, [x9, x10, x11, .int 0]))]) [0, 1] rfl
      refine va_callv (va_runV (As := []) (rest := []) ⟨hx, hb, hml, hown, hts⟩ (k_X7_learnOnce l D cy h1 h2 (.ref h3) (x4) (x5) (x6) (x7) (x8) (x9) (x10) (x11)) (cwV 0 hts gX7_learn_X7_learnOnce rfl rfl rfl (by decide +kernel) ⟨(Nat.le_of_ble_eq_true rfl), (Nat.le_of_ble_eq_true rfl)⟩) ⟨kR_fb, va_recv hK hP (ci := 9) (q0 := 0) rfl rfl, (kR_go hPc hK)⟩ rfl rfl hl.1 rfl (lv_room (Nat.le_of_ble_eq_true rfl)) dX7_learn_16 ⟨(Nat.le_of_ble_eq_true rfl), (Nat.le_of_ble_eq_true rfl)⟩) hS (fun _ _ h => h.elim) (fun _ h => h.elim) (fun u t H locs ht hvm hw hB hz1 hk1 hS => ?_)
      have hP := kx_kept hP hk1
      obtain ⟨v_11, ev_11⟩ : ∃ y : Int32, y = k_3 + 1 := ⟨_, rfl⟩
      refine lv_iinc (v := v_11) (lv' := [(2, .int v_11), (0, .ref h1), (1, .int p0)]) hx hb dX7_learn_19 hl (k := 0) rfl (by rw [ev_11]; rfl) (by decide) rfl (fun ls hl => ?_)
      refine lv_goto (tgt := 10) hx hb dX7_learn_22 (by decide) ?_
      have e9 : v_11.toInt = k_3.toInt + 1 := kx_inc ev_11 (by omega)
      refine W.widen (k := 1) (n := 6) (Nat.le_of_ble_eq_true rfl) (Nat.le_of_ble_eq_true rfl) ?_
      exact ih v_11 _ _ _ e9 ⟨(by omega), (by omega), hP.sub [0, 1] rfl, hS, lv_sub hl [0, 1, 2] rfl⟩
theorem dL_learn_0 : decode cL_learn 0 = .ok (.aload_n 2, 1) := by decide +kernel
theorem dL_learn_1 : decode cL_learn 1 = .ok (.iconst 0, 1) := by decide +kernel
theorem dL_learn_2 : decode cL_learn 2 = .ok (.aload_n 0, 1) := by decide +kernel
theorem dL_learn_3 : decode cL_learn 3 = .ok (.iload_n 1, 1) := by decide +kernel
theorem dL_learn_4 : decode cL_learn 4 = .ok (.invokevirtual 120, 3) := by decide +kernel
set_option maxRecDepth 20000 in
theorem ggL_learn_X7_learn : GoodIn wsL_learn wsX7_learn := goodIn_ca (goodIn_ca (goodIn_ca (goodIn_r _ [6, 7, 8, 9, 10, 11, 5, 12, 13, 14, 15, 16, 17, 18, 19, 20, 21, 22, 23, 24, 25, 26, 27, 28, 29, 30, 31, 32, 33, 34, 35, 36, 37, 38, 39, 40, 41, 42, 43, 44, 45, 46, 47, 48, 49, 50, 51, 52, 53, 54, 55, 56, 57, 58, 59, 60, 61, 62, 63, 64, 65, 66, 67, 68, 69, 70, 71, 72, 73, 74, 75, 76, 77, 78, 79, 80, 81, 82, 83, 84, 85, 86, 87, 88, 89, 90, 91, 92, 93, 94, 95, 96, 97, 98, 99, 100, 101, 102, 103, 104, 105, 106, 107, 108, 109, 110, 111, 112, 113, 114, 115, 116, 117, 118, 119, 120, 121, 122, 123, 124] (by decide +kernel) (by decide +kernel)) (goodIn_sub (fun _ h => List.mem_cons_of_mem _ (List.mem_append_left _ (List.mem_append_right _ h))) (by decide +kernel))) (goodIn_sub (fun _ h => List.mem_cons_of_mem _ (List.mem_append_right _ h)) (by decide +kernel))) (goodIn_sub (fun _ h => List.mem_cons_of_mem _ (List.mem_append_left _ (List.mem_append_left _ (List.mem_append_right _ h)))) (by decide +kernel))
set_option maxRecDepth 20000 in
theorem gL_learn_X7_learn : GoodIn wsL_learn (wsV RL 120 RX7 yX7_learn wsX7_learn) := goodIn_app (goodIn_of _ (by decide +kernel)) ggL_learn_X7_learn
theorem dL_learn_12 : decode cL_learn 12 = .ok (.astore_n 3, 1) := by decide +kernel
theorem dL_learn_13 : decode cL_learn 13 = .ok (.iconst 1, 1) := by decide +kernel
theorem dL_learn_14 : decode cL_learn 14 = .ok (.ireturn, 1) := by decide +kernel
theorem dL_learn_7 : decode cL_learn 7 = .ok (.i2l, 1) := by decide +kernel
theorem dL_learn_8 : decode cL_learn 8 = .ok (.lastore, 1) := by decide +kernel
theorem dL_learn_9 : decode cL_learn 9 = .ok (.goto 6, 3) := by decide +kernel
theorem dL_learn_15 : decode cL_learn 15 = .ok (.iconst 0, 1) := by decide +kernel
theorem dL_learn_16 : decode cL_learn 16 = .ok (.ireturn, 1) := by decide +kernel
set_option maxHeartbeats 4000000 in
set_option maxRecDepth 100000 in
theorem k_L_learn (l : Launch) (hl9 : l.stackTraces = false) (D : va_G) (cy : Nat → ClassId) (h1 : Nat) (p1 : Int32) (h2 : Nat) (h3 : Nat) (h4 : Nat) (x5 : Value) (x6 : Value) (x7 : Value) (x8 : Value) (x9 : Value) (g10 : Nat → Int64) (x11 : Value) (x12 : Value) (x13 : Value) (sz : Nat) : Met l yL_learn wsL_learn ({ frames := 8, cells := 1, slots := 6, locals := 127 }) (kWX D cy [.ref h1, .int p1, .ref h2] [(h1, .inr (9, [.ref h3, .ref h4, x5, x6, x7, x8, x9])), (h2, .inl (cy 2, 1, .inr (.inl g10))), (h3, .inr (2, [x11, x12, x13, .int 0]))] sz) (va_Qi (fun (r : Int32) (u : (Nat → Int64)) => match u with | u1 => ((r = 1 ∧ ¬ (((1 : Int) ≤ p1.toInt ∧ p1.toInt ≤ (50 : Int)))) ∨ (r = 0 ∧ (u1 0 = 0) ∧ ((1 : Int) ≤ p1.toInt ∧ p1.toInt ≤ (50 : Int))))) (fun (u : (Nat → Int64)) (t : State) => match u with | u1 => va_P D vwCl [(h2, .inl (cy 2, 1, .inr (.inl u1)))] t.heap ∧ va_D (va_A [(h1, .inr (9, [.ref h3, .ref h4, x5, x6, x7, x8, x9])), (h2, .inl (cy 2, 1, .inr (.inl g10))), (h3, .inr (2, [x11, x12, x13, .int 0]))] sz) [(h2, .inl (cy 2, 1, .inr (.inl u1)))]) (va_A [(h1, .inr (9, [.ref h3, .ref h4, x5, x6, x7, x8, x9])), (h2, .inl (cy 2, 1, .inr (.inl g10))), (h3, .inr (2, [x11, x12, x13, .int 0]))] sz)) 1 6 (va_A [(h1, .inr (9, [.ref h3, .ref h4, x5, x6, x7, x8, x9])), (h2, .inl (cy 2, 1, .inr (.inl g10))), (h3, .inr (2, [x11, x12, x13, .int 0]))] sz) := by
  refine va_MetW (cc := cL_learn) (maxL := 4) (ret := (some .int)) (by decide) rfl ?_
  intro p e s m args below meth c s₁ B hml hv
  obtain ⟨rfl, hsz, hP, hK, hD0, hE⟩ := hv
  have hx := B.exec
  have hb := B.bytes
  have hr := B.returns
  have hts := atoms_spec (ws := wsL_learn) B.pre
  have hown : s.vm.findClass RL = some m.cls := findClass_of_methodNamed B.named
  have hlocks := B.notSynchronized
  have htb := vx_table (x := yL_learn) B (hts _ (List.mem_cons_self))
  subst hsz
  have hD := hD0.self (sz := s.heap.size)
  generalize hAe : va_A [(h1, .inr (9, [.ref h3, .ref h4, x5, x6, x7, x8, x9])), (h2, .inl (cy 2, 1, .inr (.inl g10))), (h3, .inr (2, [x11, x12, x13, .int 0]))] s.heap.size = A at hD hE ⊢
  have hA : ∀ q : Nat, s.heap.size ≤ q → A q := fun q h => by rw [← hAe]; exact Or.inr h
  have hS : va_S A s.heap s.heap [] := va_S.rf
  have hP : va_P D vwCl [(h1, .inr (9, [.ref h3, .ref h4, x5, x6, x7, x8, x9])), (h2, .inl (cy 2, 1, .inr (.inl g10))), (h3, .inr (2, [x11, x12, x13, .int 0]))] s.heap := hP
  have hl := lv_entry ([.ref h1, .int p1, .ref h2]) (n := 4) (Nat.le_of_ble_eq_true rfl)
  rw [lg_entry_eq]
  generalize (lg_sl ([.ref h1, .int p1, .ref h2]) ++ List.replicate (4 - (lg_sl ([.ref h1, .int p1, .ref h2])).length) Slot.unset).toArray = ls at hl ⊢
  have hl : lv_has ls 4 [(0, .ref h1), (1, .int p1), (2, .ref h2)] := hl
  refine lv_aload_n hx hb dL_learn_0 rfl (lv_at hl 2 rfl) ?_
  refine lv_iconst (v := 0) hx hb dL_learn_1 (by decide) ?_
  refine lv_aload_n hx hb dL_learn_2 rfl (lv_at hl 0 rfl) ?_
  refine lv_iload_n hx hb dL_learn_3 rfl (lv_at hl 1 rfl) ?_
  have hPc := hP.sub (ws' := [(h1, .inr (9, [.ref h3, .ref h4, x5, x6, x7, x8, x9])), (h3, .inr (2, [x11, x12, x13, .int 0]))]) [0, 2] rfl
  refine vx_calli (vx_runV (As := [.int p1]) (rest := [.int 0, .ref h2]) ⟨hx, hb, hml, hown, hts⟩ (k_X7_learn l hl9 D cy h1 p1 h3 h4 (x5) (x6) (x7) (x8) (x9) (x11) (x12) (x13)) (cwV 1 hts gL_learn_X7_learn rfl rfl rfl (by decide +kernel) ⟨(Nat.le_of_ble_eq_true rfl), (Nat.le_of_ble_eq_true rfl)⟩) ⟨kRX_fb, va_recv hK hP (ci := 9) (q0 := 0) rfl rfl, (kRX_go hPc hK hE hS)⟩ rfl rfl hl.1 rfl (lv_room (Nat.le_of_ble_eq_true rfl)) dL_learn_4 ⟨(Nat.le_of_ble_eq_true rfl), (Nat.le_of_ble_eq_true rfl)⟩) hS (fun _ _ h => h.elim) (fun _ h => h.elim) (fun _ _ h => h.elim) (fun E9 ce9 q9 u t H locs ht hvm hw hB hz1 hk1 hS hce hcv hcl => ?_) (fun r9 u t H locs ht hvm hw hB hz1 hk1 hS => ?_)
  · obtain ⟨rfl, hB⟩ := hB
    have f_1 : ¬ (((1 : Int) ≤ p1.toInt ∧ p1.toInt ≤ (50 : Int))) := hB
    have hP := kx_kept hP hk1
    refine vx_catch (E := "java/lang/IllegalArgumentException") (name := "java/lang/IllegalArgumentException") hown [] (⟨0, 9, 12, 13⟩ : ExceptionTableEntry) [] htb (fun _ h => absurd h List.not_mem_nil) rfl (by decide) (hts (.classLink RL 13 "java/lang/IllegalArgumentException") (List.mem_cons_of_mem _ (List.mem_append_left _ (List.mem_append_left _ (List.mem_append_left _ (List.mem_append_left _ (List.mem_append_left _ (List.mem_append_left _ (List.mem_append_left _ (List.mem_append_left _ (List.mem_append_left _ (List.mem_of_getElem? (i := 0) rfl)))))))))))) (exP.cast hE "java/lang/IllegalArgumentException" (by decide +kernel)) hce hcv hcl ?_
    refine lv_astore_n (lv' := [(3, .ref q9), (0, .ref h1), (1, .int p1), (2, .ref h2)]) hx hb dL_learn_12 rfl hl (by decide) rfl (fun ls hl => ?_)
    refine lv_iconst (v := 1) hx hb dL_learn_13 (by decide) ?_
    refine W.widen (k := 1) (n := 6) (Nat.le_of_ble_eq_true rfl) (Nat.le_of_ble_eq_true rfl) ?_
    have hP9 := hP.sub (ws' := [(h2, .inl (cy 2, 1, .inr (.inl g10)))]) [1] rfl
    have hD9 := hD.sub (ws' := [(h2, .inl (cy 2, 1, .inr (.inl g10)))]) [1] (by decide) rfl
    exact W.iret (v := 1) hx hb hr (fun t ht hW => ⟨⟨1, (g10), rfl, Or.inl (⟨rfl, (by omega)⟩), ⟨by rw [ht]; exact hP9, hD9⟩⟩, hS.F ht⟩) hS.2.2 dL_learn_14
  · have hP := kx_kept hP hk1
    obtain ⟨rfl, hw⟩ := hw
    have f_2 : ((1 : Int) ≤ p1.toInt ∧ p1.toInt ≤ (50 : Int)) := hw
    refine lv_i2l (v := 0) hx hb dL_learn_7 (by decide) ?_
    refine va_last hx hb hK hP hD hS 1 2 rfl rfl (kx_in 0 1 rfl ⟨(Nat.le_of_ble_eq_true rfl), (Nat.le_of_ble_eq_true rfl)⟩ (Nat.le_of_ble_eq_true rfl)) dL_learn_8 (fun H locs hP hD hS => ?_)
    have hP : va_P D vwCl [(h1, .inr (9, [.ref h3, .ref h4, x5, x6, x7, x8, x9])), (h2, .inl (cy 2, 1, .inr (.inl (vp_updL g10 0 0)))), (h3, .inr (2, [x11, x12, x13, .int 0]))] H := hP
    have hD : va_D A [(h1, .inr (9, [.ref h3, .ref h4, x5, x6, x7, x8, x9])), (h2, .inl (cy 2, 1, .inr (.inl (vp_updL g10 0 0)))), (h3, .inr (2, [x11, x12, x13, .int 0]))] := hD
    refine lv_goto (tgt := 15) hx hb dL_learn_9 (by decide) ?_
    refine lv_iconst (v := 0) hx hb dL_learn_15 (by decide) ?_
    refine W.widen (k := 1) (n := 6) (Nat.le_of_ble_eq_true rfl) (Nat.le_of_ble_eq_true rfl) ?_
    have hP9 := hP.sub (ws' := [(h2, .inl (cy 2, 1, .inr (.inl (vp_updL g10 0 0))))]) [1] rfl
    have hD9 := hD.sub (ws' := [(h2, .inl (cy 2, 1, .inr (.inl (vp_updL g10 0 0))))]) [1] (by decide) rfl
    exact W.iret (v := 0) hx hb hr (fun t ht hW => ⟨⟨0, ((vp_updL g10 0 0)), rfl, Or.inr (⟨rfl, (rfl), (by omega)⟩), ⟨by rw [ht]; exact hP9, hD9⟩⟩, hS.F ht⟩) hS.2.2 dL_learn_16
theorem dX8_round_0 : decode cX8_round 0 = .ok (.aload_n 0, 1) := by decide +kernel
theorem dX8_round_1 : decode cX8_round 1 = .ok (.getfield 52, 3) := by decide +kernel
theorem dX8_round_4 : decode cX8_round 4 = .ok (.invokevirtual 155, 3) := by decide +kernel
theorem dX8_round_7 : decode cX8_round 7 = .ok (.checkcast 156, 3) := by decide +kernel
theorem dX8_round_10 : decode cX8_round 10 = .ok (.astore_n 1, 1) := by decide +kernel
theorem dX8_round_11 : decode cX8_round 11 = .ok (.iconst 0, 1) := by decide +kernel
theorem dX8_round_12 : decode cX8_round 12 = .ok (.istore_n 2, 1) := by decide +kernel
theorem dX8_round_13 : decode cX8_round 13 = .ok (.iload_n 2, 1) := by decide +kernel
theorem dX8_round_14 : decode cX8_round 14 = .ok (.aload_n 0, 1) := by decide +kernel
theorem dX8_round_15 : decode cX8_round 15 = .ok (.getfield 85, 3) := by decide +kernel
theorem dX8_round_18 : decode cX8_round 18 = .ok (.if_icmp .ge 59, 3) := by decide +kernel
theorem dX8_round_77 : decode cX8_round 77 = .ok (.iconst 0, 1) := by decide +kernel
theorem dX8_round_78 : decode cX8_round 78 = .ok (.istore_n 2, 1) := by decide +kernel
theorem dX8_round_79 : decode cX8_round 79 = .ok (.iload_n 2, 1) := by decide +kernel
theorem dX8_round_80 : decode cX8_round 80 = .ok (.aload_n 0, 1) := by decide +kernel
theorem dX8_round_81 : decode cX8_round 81 = .ok (.getfield 85, 3) := by decide +kernel
theorem dX8_round_84 : decode cX8_round 84 = .ok (.if_icmp .ge 172, 3) := by decide +kernel
theorem dX8_round_256 : decode cX8_round 256 = .ok (.return_, 1) := by decide +kernel
set_option maxHeartbeats 4000000 in
set_option maxRecDepth 100000 in
theorem k_X8_round (l : Launch) (hl9 : l.stackTraces = false) (D : va_G) (cy : Nat → ClassId) (h1 : Nat) (x2 : Value) (x3 : Value) (x4 : Value) (x5 : Value) (x6 : Value) (x7 : Value) (x8 : Value) (x9 : Value) (x10 : Value) (x11 : Value) (x12 : Value) (x13 : Value) (h14 : Nat) (x15 : Value) (x16 : Value) (x17 : Value) (x18 : Value) (g19 : Nat → Int32) (sz : Nat) : Met l yX8_round wsX8_round ({ frames := 1, cells := 1, slots := 6, locals := 14 }) (kWX D cy [.ref h1] [(h1, .inr (10, [x2, x3, x4, x5, x6, x7, x8, x9, x10, x11, x12, x13, .ref h14, x15, x16, .int 0, x17, x18])), (h14, .inl (cy 1, 6, .inl g19))] sz) (va_Qv (fun (_ : Unit) => True) (fun (_ : Unit) (t : State) => va_P D vwCl [(h1, .inr (10, [x2, x3, x4, x5, x6, x7, x8, x9, x10, x11, x12, x13, .ref h14, x15, x16, .int 0, x17, x18])), (h14, .inl (cy 1, 6, .inl g19))] t.heap ∧ va_D (va_A [(h1, .inr (10, [x2, x3, x4, x5, x6, x7, x8, x9, x10, x11, x12, x13, .ref h14, x15, x16, .int 0, x17, x18])), (h14, .inl (cy 1, 6, .inl g19))] sz) [(h1, .inr (10, [x2, x3, x4, x5, x6, x7, x8, x9, x10, x11, x12, x13, .ref h14, x15, x16, .int 0, x17, x18])), (h14, .inl (cy 1, 6, .inl g19))]) (va_A [(h1, .inr (10, [x2, x3, x4, x5, x6, x7, x8, x9, x10, x11, x12, x13, .ref h14, x15, x16, .int 0, x17, x18])), (h14, .inl (cy 1, 6, .inl g19))] sz)) 1 6 (va_A [(h1, .inr (10, [x2, x3, x4, x5, x6, x7, x8, x9, x10, x11, x12, x13, .ref h14, x15, x16, .int 0, x17, x18])), (h14, .inl (cy 1, 6, .inl g19))] sz) := by
  refine Met.ofW (cc := cX8_round) (maxL := 8) (ret := none) (by decide) rfl ?_
  intro p e s m args below meth c s₁ B hml hv
  obtain ⟨rfl, hsz, hP, hK, hD0, hE⟩ := hv
  have hx := B.exec
  have hb := B.bytes
  have hr := B.returns
  have hts := atoms_spec (ws := wsX8_round) B.pre
  have hown : s.vm.findClass RX8 = some m.cls := findClass_of_methodNamed B.named
  have hlocks := B.notSynchronized
  subst hsz
  have hD := hD0.self (sz := s.heap.size)
  generalize hAe : va_A [(h1, .inr (10, [x2, x3, x4, x5, x6, x7, x8, x9, x10, x11, x12, x13, .ref h14, x15, x16, .int 0, x17, x18])), (h14, .inl (cy 1, 6, .inl g19))] s.heap.size = A at hD hE ⊢
  have hA : ∀ q : Nat, s.heap.size ≤ q → A q := fun q h => by rw [← hAe]; exact Or.inr h
  have hS : va_S A s.heap s.heap [] := va_S.rf
  have hP : va_P D vwCl [(h1, .inr (10, [x2, x3, x4, x5, x6, x7, x8, x9, x10, x11, x12, x13, .ref h14, x15, x16, .int 0, x17, x18])), (h14, .inl (cy 1, 6, .inl g19))] s.heap := hP
  have hl := lv_entry ([.ref h1]) (n := 8) (Nat.le_of_ble_eq_true rfl)
  rw [lg_entry_eq]
  generalize (lg_sl ([.ref h1]) ++ List.replicate (8 - (lg_sl ([.ref h1])).length) Slot.unset).toArray = ls at hl ⊢
  have hl : lv_has ls 8 [(0, .ref h1)] := hl
  refine lv_aload_n hx hb dX8_round_0 rfl (lv_at hl 0 rfl) ?_
  refine va_get (D := D) (ci := 10) (v := .ref h14) (C := RX8) (T := TX8) (N := 18) hx hb hts (fun _ h => (List.mem_cons_of_mem _ (List.mem_append_left _ (List.mem_append_left _ (List.mem_append_right _ h))))) hown hK hP 0 rfl rfl 12 (by decide) (hts (.fieldLink RX8 52 "SelfishJunctionModel" "chosen" "[I") (List.mem_cons_of_mem _ (List.mem_append_left _ (List.mem_append_left _ (List.mem_append_left _ (List.mem_append_left _ (List.mem_of_getElem? (i := 0) rfl))))))) (fun _ h9 => h9) rfl dX8_round_1 ?_
  refine va_clone (ad := "[I") hx hb (by rw [hml]; exact hl.1.symm) hown (hts (.methodLink RX8 155 ⟨"[I", "clone", "()Ljava/lang/Object;"⟩) (List.mem_cons_of_mem _ (List.mem_append_left _ (List.mem_append_left _ (List.mem_append_left _ (List.mem_append_left _ (List.mem_of_getElem? (i := 1) rfl))))))) (hts (.sameMethod "[I" "java/lang/Object" "clone" "()Ljava/lang/Object;") (List.mem_cons_of_mem _ (List.mem_append_left _ (List.mem_append_left _ (List.mem_append_left _ (List.mem_append_left _ (List.mem_of_getElem? (i := 2) rfl))))))) (hts (.native ⟨"java/lang/Object", "clone", "()Ljava/lang/Object;"⟩) (List.mem_cons_of_mem _ (List.mem_append_left _ (List.mem_append_left _ (List.mem_append_left _ (List.mem_append_left _ (List.mem_of_getElem? (i := 3) rfl))))))) (hts (.instanceMethod ⟨"java/lang/Object", "clone", "()Ljava/lang/Object;"⟩) (List.mem_cons_of_mem _ (List.mem_append_left _ (List.mem_append_left _ (List.mem_append_left _ (List.mem_append_left _ (List.mem_of_getElem? (i := 4) rfl))))))) (hts (.selects "[I" ⟨"[I", "clone", "()Ljava/lang/Object;"⟩ ⟨"java/lang/Object", "clone", "()Ljava/lang/Object;"⟩) (List.mem_cons_of_mem _ (List.mem_append_left _ (List.mem_append_left _ (List.mem_append_left _ (List.mem_append_left _ (List.mem_of_getElem? (i := 5) rfl))))))) (exP.cln hE) hK hP hD hS hA 1 1 rfl rfl (va_nm_int (hK.2 1 _ rfl).2) (kx_fitI _ _ _) (Nat.le_of_ble_eq_true rfl) (Nat.le_of_ble_eq_true rfl) (Nat.le_of_ble_eq_true rfl) (Nat.le_of_ble_eq_true rfl) dX8_round_4 (fun q_1 H hK hP hD hS => ?_)
  have hK := hK.sub (tys' := tyG cy) [0, 1, 2, 3, 4, 5, 6, 7, 8, 9] rfl
  have hP : va_P D vwCl [(h1, .inr (10, [x2, x3, x4, x5, x6, x7, x8, x9, x10, x11, x12, x13, .ref h14, x15, x16, .int 0, x17, x18])), (h14, .inl (cy 1, 6, .inl g19)), (q_1, .inl (cy 1, 6, .inl g19))] H := hP
  have hD : va_D A [(h1, .inr (10, [x2, x3, x4, x5, x6, x7, x8, x9, x10, x11, x12, x13, .ref h14, x15, x16, .int 0, x17, x18])), (h14, .inl (cy 1, 6, .inl g19)), (q_1, .inl (cy 1, 6, .inl g19))] := hD
  refine W.widen (k := 1) (n := 6) (Nat.le_of_ble_eq_true rfl) (Nat.le_of_ble_eq_true rfl) ?_
  refine va_castA hx hb hown (hts (.classLink RX8 156 "[I") (List.mem_cons_of_mem _ (List.mem_append_left _ (List.mem_append_left _ (List.mem_append_left _ (List.mem_append_left _ (List.mem_of_getElem? (i := 6) rfl))))))) hP 2 rfl (va_nm_int (hK.2 1 _ rfl).2) dX8_round_7 ?_
  refine lv_astore_n (lv' := [(1, .ref q_1), (0, .ref h1)]) hx hb dX8_round_10 rfl hl (by decide) rfl (fun ls hl => ?_)
  refine lv_iconst (v := 0) hx hb dX8_round_11 (by decide) ?_
  refine lv_istore_n (lv' := [(2, .int 0), (1, .ref q_1), (0, .ref h1)]) hx hb dX8_round_12 rfl hl (by decide) rfl (fun ls hl => ?_)
  refine lv_iload_n hx hb dX8_round_13 rfl (lv_at hl 0 rfl) ?_
  refine lv_aload_n hx hb dX8_round_14 rfl (lv_at hl 2 rfl) ?_
  refine va_get (D := D) (ci := 10) (v := .int 0) (C := RX8) (T := TX8) (N := 18) hx hb hts (fun _ h => (List.mem_cons_of_mem _ (List.mem_append_left _ (List.mem_append_left _ (List.mem_append_right _ h))))) hown hK hP 0 rfl rfl 15 (by decide) (hts (.fieldLink RX8 85 "SelfishJunctionModel" "players" "I") (List.mem_cons_of_mem _ (List.mem_append_left _ (List.mem_append_left _ (List.mem_append_left _ (List.mem_append_left _ (List.mem_of_getElem? (i := 7) rfl))))))) (fun _ h9 => h9) rfl dX8_round_15 ?_
  refine lv_icmp_ge (tgt := 77) hx hb dX8_round_18 (by decide) (fun _ => ?_) (fun h => absurd (by decide) h)
  refine lv_iconst (v := 0) hx hb dX8_round_77 (by decide) ?_
  refine lv_istore_n (lv' := [(2, .int 0), (1, .ref q_1), (0, .ref h1)]) hx hb dX8_round_78 rfl hl (by decide) rfl (fun ls hl => ?_)
  refine lv_iload_n hx hb dX8_round_79 rfl (lv_at hl 0 rfl) ?_
  refine lv_aload_n hx hb dX8_round_80 rfl (lv_at hl 2 rfl) ?_
  refine va_get (D := D) (ci := 10) (v := .int 0) (C := RX8) (T := TX8) (N := 18) hx hb hts (fun _ h => (List.mem_cons_of_mem _ (List.mem_append_left _ (List.mem_append_left _ (List.mem_append_right _ h))))) hown hK hP 0 rfl rfl 15 (by decide) (hts (.fieldLink RX8 85 "SelfishJunctionModel" "players" "I") (List.mem_cons_of_mem _ (List.mem_append_left _ (List.mem_append_left _ (List.mem_append_left _ (List.mem_append_left _ (List.mem_of_getElem? (i := 7) rfl))))))) (fun _ h9 => h9) rfl dX8_round_81 ?_
  refine lv_icmp_ge (tgt := 256) hx hb dX8_round_84 (by decide) (fun _ => ?_) (fun h => absurd (by decide) h)
  refine W.widen (k := 1) (n := 6) (Nat.le_of_ble_eq_true rfl) (Nat.le_of_ble_eq_true rfl) ?_
  have hP9 := hP.sub (ws' := [(h1, .inr (10, [x2, x3, x4, x5, x6, x7, x8, x9, x10, x11, x12, x13, .ref h14, x15, x16, .int 0, x17, x18])), (h14, .inl (cy 1, 6, .inl g19))]) [0, 1] rfl
  have hD9 := hD.sub (ws' := [(h1, .inr (10, [x2, x3, x4, x5, x6, x7, x8, x9, x10, x11, x12, x13, .ref h14, x15, x16, .int 0, x17, x18])), (h14, .inl (cy 1, 6, .inl g19))]) [0, 1] (by decide) rfl
  exact W.vret hx hb hr (fun t ht hW => ⟨⟨(), rfl, trivial, ⟨by rw [ht]; exact hP9, hD9⟩⟩, hS.F ht⟩) hS.2.2 dX8_round_256
theorem dX8_learn_0 : decode cX8_learn 0 = .ok (.aload_n 0, 1) := by decide +kernel
theorem dX8_learn_1 : decode cX8_learn 1 = .ok (.iload_n 1, 1) := by decide +kernel
theorem dX8_learn_2 : decode cX8_learn 2 = .ok (.iconst 1, 1) := by decide +kernel
theorem dX8_learn_3 : decode cX8_learn 3 = .ok (.bipush 50, 2) := by decide +kernel
theorem dX8_learn_5 : decode cX8_learn 5 = .ok (.invokestatic 65, 3) := by decide +kernel
set_option maxRecDepth 20000 in
theorem ggX8_learn_X8_isIn : GoodIn wsX8_learn wsX8_isIn := goodIn_r _ [5] (by decide +kernel) (by decide +kernel)
set_option maxRecDepth 20000 in
theorem gX8_learn_X8_isIn : GoodIn wsX8_learn (va_wsS RX8 65 yX8_isIn wsX8_isIn) := goodIn_app (goodIn_of _ (by decide +kernel)) ggX8_learn_X8_isIn
theorem dX8_learn_8 : decode cX8_learn 8 = .ok (.ifCond .ne 7, 3) := by decide +kernel
theorem dX8_learn_15 : decode cX8_learn 15 = .ok (.iconst 0, 1) := by decide +kernel
theorem dX8_learn_16 : decode cX8_learn 16 = .ok (.iconst 1, 1) := by decide +kernel
theorem dX8_learn_17 : decode cX8_learn 17 = .ok (.invokevirtual 73, 3) := by decide +kernel
set_option maxRecDepth 20000 in
theorem ggX8_learn_X8_isThrown : GoodIn wsX8_learn wsX8_isThrown := goodIn_r _ [9, 10, 72, 73, 74, 75, 76, 77, 78, 79, 80, 81, 82, 83, 84, 85, 86, 87, 88, 89] (by decide +kernel) (by decide +kernel)
set_option maxRecDepth 20000 in
theorem gX8_learn_X8_isThrown : GoodIn wsX8_learn (wsV RX8 73 RX8 yX8_isThrown wsX8_isThrown) := goodIn_app (goodIn_of _ (by decide +kernel)) ggX8_learn_X8_isThrown
theorem dX8_learn_20 : decode cX8_learn 20 = .ok (.ifCond .eq 5, 3) := by decide +kernel
theorem dX8_learn_25 : decode cX8_learn 25 = .ok (.iconst 0, 1) := by decide +kernel
theorem dX8_learn_26 : decode cX8_learn 26 = .ok (.istore_n 2, 1) := by decide +kernel
theorem dX8_learn_27 : decode cX8_learn 27 = .ok (.iload_n 2, 1) := by decide +kernel
theorem dX8_learn_28 : decode cX8_learn 28 = .ok (.iload_n 1, 1) := by decide +kernel
theorem dX8_learn_29 : decode cX8_learn 29 = .ok (.if_icmp .ge 13, 3) := by decide +kernel
theorem dX8_learn_42 : decode cX8_learn 42 = .ok (.aload_n 0, 1) := by decide +kernel
theorem dX8_learn_43 : decode cX8_learn 43 = .ok (.aload_n 0, 1) := by decide +kernel
theorem dX8_learn_44 : decode cX8_learn 44 = .ok (.getfield 52, 3) := by decide +kernel
theorem dX8_learn_47 : decode cX8_learn 47 = .ok (.invokevirtual 170, 3) := by decide +kernel
set_option maxRecDepth 20000 in
theorem ggX8_learn_X8_total : GoodIn wsX8_learn wsX8_total := goodIn_ca (goodIn_ca (goodIn_r _ [71, 21, 44, 34, 51, 47, 48, 49, 4, 50, 52, 53, 54, 55, 56, 57, 58, 72, 73, 74, 75, 76, 77, 78, 79, 80, 81, 82, 83, 84, 85, 86, 87, 88, 89] (by decide +kernel) (by decide +kernel)) (goodIn_sub (fun _ h => List.mem_cons_of_mem _ (List.mem_append_left _ (List.mem_append_right _ h))) (by decide +kernel))) (goodIn_sub (fun _ h => List.mem_cons_of_mem _ (List.mem_append_right _ h)) (by decide +kernel))
set_option maxRecDepth 20000 in
theorem gX8_learn_X8_total : GoodIn wsX8_learn (wsV RX8 170 RX8 yX8_total wsX8_total) := goodIn_app (goodIn_of _ (by decide +kernel)) ggX8_learn_X8_total
theorem dX8_learn_50 : decode cX8_learn 50 = .ok (.ireturn, 1) := by decide +kernel
theorem dX8_learn_32 : decode cX8_learn 32 = .ok (.aload_n 0, 1) := by decide +kernel
theorem dX8_learn_33 : decode cX8_learn 33 = .ok (.invokevirtual 271, 3) := by decide +kernel
set_option maxRecDepth 20000 in
theorem ggX8_learn_X8_round : GoodIn wsX8_learn wsX8_round := goodIn_ca (goodIn_ca (goodIn_r _ [14, 1, 15, 16, 17, 18, 19, 20, 21, 22, 23, 24, 25, 26, 27, 28, 29, 30, 31, 32, 4, 33, 34, 35, 36, 37, 38, 39, 40, 41, 42, 43, 44, 45, 46, 47, 48, 49, 50, 51, 52, 53, 54, 55, 56, 57, 58, 59, 60, 61, 62, 63, 64, 65, 66, 67, 72, 73, 74, 75, 76, 77, 78, 79, 80, 81, 82, 83, 84, 85, 86, 87, 88, 89] (by decide +kernel) (by decide +kernel)) (goodIn_sub (fun _ h => List.mem_cons_of_mem _ (List.mem_append_left _ (List.mem_append_right _ h))) (by decide +kernel))) (goodIn_sub (fun _ h => List.mem_cons_of_mem _ (List.mem_append_right _ h)) (by decide +kernel))
set_option maxRecDepth 20000 in
theorem gX8_learn_X8_round : GoodIn wsX8_learn (wsV RX8 271 RX8 yX8_round wsX8_round) := goodIn_app (goodIn_of _ (by decide +kernel)) ggX8_learn_X8_round
theorem dX8_learn_36 : decode cX8_learn 36 = .ok (.iinc 2 1, 3) := by decide +kernel
theorem dX8_learn_39 : decode cX8_learn 39 = .ok (.goto (-12), 3) := by decide +kernel
theorem dX8_learn_11 : decode cX8_learn 11 = .ok (.iconst 1, 1) := by decide +kernel
theorem dX8_learn_12 : decode cX8_learn 12 = .ok (.goto 4, 3) := by decide +kernel
theorem dX8_learn_23 : decode cX8_learn 23 = .ok (.iconst 0, 1) := by decide +kernel
theorem dX8_learn_24 : decode cX8_learn 24 = .ok (.ireturn, 1) := by decide +kernel
set_option maxHeartbeats 4000000 in
set_option maxRecDepth 100000 in
theorem k_X8_learn (l : Launch) (hl9 : l.stackTraces = false) (D : va_G) (cy : Nat → ClassId) (h1 : Nat) (p0 : Int32) (x2 : Value) (x3 : Value) (x4 : Value) (x5 : Value) (x6 : Value) (x7 : Value) (x8 : Value) (x9 : Value) (x10 : Value) (x11 : Value) (x12 : Value) (x13 : Value) (h14 : Nat) (x15 : Value) (x16 : Value) (x17 : Value) (x18 : Value) (g19 : Nat → Int32) (sz : Nat) : Met l yX8_learn wsX8_learn ({ frames := 2, cells := 50, slots := 300, locals := 41 }) (kWX D cy [.ref h1, .int p0] [(h1, .inr (10, [x2, x3, x4, x5, x6, x7, x8, x9, x10, x11, x12, x13, .ref h14, x15, x16, .int 0, x17, x18])), (h14, .inl (cy 1, 6, .inl g19))] sz) (va_Qi (fun (r : Int32) (u : Int32) => match u with | y1 => ((r = 0 ∧ (y1 = 0) ∧ ((1 : Int) ≤ p0.toInt ∧ p0.toInt ≤ (50 : Int))) ∨ (r = 0 ∧ (y1 = 1) ∧ ¬ (((1 : Int) ≤ p0.toInt ∧ p0.toInt ≤ (50 : Int)))))) (fun (u : Int32) (t : State) => match u with | y1 => va_P D vwCl [(h1, .inr (10, [x2, x3, x4, x5, x6, x7, x8, x9, x10, x11, x12, x13, .ref h14, x15, x16, .int 0, x17, .int y1])), (h14, .inl (cy 1, 6, .inl g19))] t.heap ∧ va_D (va_A [(h1, .inr (10, [x2, x3, x4, x5, x6, x7, x8, x9, x10, x11, x12, x13, .ref h14, x15, x16, .int 0, x17, x18])), (h14, .inl (cy 1, 6, .inl g19))] sz) [(h1, .inr (10, [x2, x3, x4, x5, x6, x7, x8, x9, x10, x11, x12, x13, .ref h14, x15, x16, .int 0, x17, .int y1])), (h14, .inl (cy 1, 6, .inl g19))]) (va_A [(h1, .inr (10, [x2, x3, x4, x5, x6, x7, x8, x9, x10, x11, x12, x13, .ref h14, x15, x16, .int 0, x17, x18])), (h14, .inl (cy 1, 6, .inl g19))] sz)) 50 300 (va_A [(h1, .inr (10, [x2, x3, x4, x5, x6, x7, x8, x9, x10, x11, x12, x13, .ref h14, x15, x16, .int 0, x17, x18])), (h14, .inl (cy 1, 6, .inl g19))] sz) := by
  refine Met.ofW (cc := cX8_learn) (maxL := 3) (ret := (some .int)) (by decide) rfl ?_
  intro p e s m args below meth c s₁ B hml hv
  obtain ⟨rfl, hsz, hP, hK, hD0, hE⟩ := hv
  have hx := B.exec
  have hb := B.bytes
  have hr := B.returns
  have hts := atoms_spec (ws := wsX8_learn) B.pre
  have hown : s.vm.findClass RX8 = some m.cls := findClass_of_methodNamed B.named
  have hlocks := B.notSynchronized
  subst hsz
  have hD := hD0.self (sz := s.heap.size)
  generalize hAe : va_A [(h1, .inr (10, [x2, x3, x4, x5, x6, x7, x8, x9, x10, x11, x12, x13, .ref h14, x15, x16, .int 0, x17, x18])), (h14, .inl (cy 1, 6, .inl g19))] s.heap.size = A at hD hE ⊢
  have hA : ∀ q : Nat, s.heap.size ≤ q → A q := fun q h => by rw [← hAe]; exact Or.inr h
  have hS : va_S A s.heap s.heap [] := va_S.rf
  have hP : va_P D vwCl [(h1, .inr (10, [x2, x3, x4, x5, x6, x7, x8, x9, x10, x11, x12, x13, .ref h14, x15, x16, .int 0, x17, x18])), (h14, .inl (cy 1, 6, .inl g19))] s.heap := hP
  have hl := lv_entry ([.ref h1, .int p0]) (n := 3) (Nat.le_of_ble_eq_true rfl)
  rw [lg_entry_eq]
  generalize (lg_sl ([.ref h1, .int p0]) ++ List.replicate (3 - (lg_sl ([.ref h1, .int p0])).length) Slot.unset).toArray = ls at hl ⊢
  have hl : lv_has ls 3 [(0, .ref h1), (1, .int p0)] := hl
  refine lv_aload_n hx hb dX8_learn_0 rfl (lv_at hl 0 rfl) ?_
  refine lv_iload_n hx hb dX8_learn_1 rfl (lv_at hl 1 rfl) ?_
  refine lv_iconst (v := 1) hx hb dX8_learn_2 (by decide) ?_
  refine lv_bipush (v := 50) hx hb dX8_learn_3 (by decide) ?_
  have hPc := hP.sub (ws' := []) [] rfl
  refine va_calli (va_runS (As := [.int p0, .int 1, .int 50]) (rest := [.ref h1]) ⟨hx, hb, hml, hown, hts⟩ (k_X8_isIn l D cy p0 1 50) (va_cwS 3 hts gX8_learn_X8_isIn rfl rfl rfl (by decide +kernel) ⟨(Nat.le_of_ble_eq_true rfl), (Nat.le_of_ble_eq_true rfl)⟩) ⟨kR_fb, (kR_go hPc hK)⟩ rfl rfl hl.1 rfl (lv_room (Nat.le_of_ble_eq_true rfl)) dX8_learn_5 ⟨(Nat.le_of_ble_eq_true rfl), (Nat.le_of_ble_eq_true rfl)⟩) hS (fun _ _ h => h.elim) (fun _ h => h.elim) (fun r9 u t H locs ht hvm hw hB hz1 hk1 hS => ?_)
  have hP := kx_kept hP hk1
  rcases hw with ⟨rfl, hw⟩ | ⟨rfl, hw⟩
  · have f_1 : ((1 : Int) ≤ p0.toInt ∧ p0.toInt ≤ (50 : Int)) := hw
    refine lv_if_ne (tgt := 15) hx hb dX8_learn_8 (by decide) (fun _ => ?_) (fun h => absurd h (by decide))
    refine lv_iconst (v := 0) hx hb dX8_learn_15 (by decide) ?_
    refine lv_iconst (v := 1) hx hb dX8_learn_16 (by decide) ?_
    have hPc := hP.sub (ws' := [(h1, .inr (10, [x2, x3, x4, x5, x6, x7, x8, x9, x10, x11, x12, x13, .ref h14, x15, x16, .int 0, x17, x18]))]) [0] rfl
    have hDc := hD.sub (ws' := [(h1, .inr (10, [x2, x3, x4, x5, x6, x7, x8, x9, x10, x11, x12, x13, .ref h14, x15, x16, .int 0, x17, x18]))]) [0] (by decide) rfl
    have hFc := va_free (wc := [(h1, .inr (10, [x2, x3, x4, x5, x6, x7, x8, x9, x10, x11, x12, x13, .ref h14, x15, x16, .int 0, x17, x18]))]) hD hS hA [0] rfl
    refine va_calli (va_runV (As := [.int 0, .int 1]) (rest := []) ⟨hx, hb, hml, hown, hts⟩ (k_X8_isThrown_1 l D cy h1 (x2) (x3) (x4) (x5) (x6) (x7) (x8) (x9) (x10) (x11) (x12) (x13) (.ref h14) (x15) (x16) (.int 0) (x17) (x18) H.size) (cwV 2 hts gX8_learn_X8_isThrown rfl rfl rfl (by decide +kernel) ⟨(Nat.le_of_ble_eq_true rfl), (Nat.le_of_ble_eq_true rfl)⟩) ⟨kW_fb, va_recv hK hP (ci := 10) (q0 := 0) rfl rfl, (kW_go hPc hK hDc)⟩ rfl rfl hl.1 rfl (lv_room (Nat.le_of_ble_eq_true rfl)) dX8_learn_17 ⟨(Nat.le_of_ble_eq_true rfl), (Nat.le_of_ble_eq_true rfl)⟩) hS (fun q _ h => hFc q h) hFc (fun r9 u t H locs ht hvm hw hB hz1 hk1 hS => ?_)
    obtain ⟨hP1, hD1⟩ := hB
    rw [ht] at hP1
    try dsimp only at hw hP1 hD1
    obtain ⟨hP, hD⟩ := va_join (wr := [(h14, .inl (cy 1, 6, .inl g19))]) (w1 := [(h1, .inr (10, [x2, x3, x4, x5, x6, x7, x8, x9, x10, x11, x12, x13, .ref h14, x15, x16, .int 0, x17, .int 0]))]) hP hD [0] [1] rfl rfl (by decide) (by decide) hk1 hFc hP1 hD1
    have hP : va_P D vwCl [(h14, .inl (cy 1, 6, .inl g19)), (h1, .inr (10, [x2, x3, x4, x5, x6, x7, x8, x9, x10, x11, x12, x13, .ref h14, x15, x16, .int 0, x17, .int 0]))] H := hP
    have hD : va_D A [(h14, .inl (cy 1, 6, .inl g19)), (h1, .inr (10, [x2, x3, x4, x5, x6, x7, x8, x9, x10, x11, x12, x13, .ref h14, x15, x16, .int 0, x17, .int 0]))] := hD
    obtain ⟨rfl, hw⟩ := hw
    refine lv_if_eq (tgt := 25) hx hb dX8_learn_20 (by decide) (fun _ => ?_) (fun h => absurd (by decide) h)
    refine lv_iconst (v := 0) hx hb dX8_learn_25 (by decide) ?_
    refine lv_istore_n (lv' := [(2, .int 0), (0, .ref h1), (1, .int p0)]) hx hb dX8_learn_26 rfl hl (by decide) rfl (fun ls hl => ?_)
    have hlp := lv_sub hl (l' := [(2, .int 0), (0, .ref h1), (1, .int p0)]) [0, 1, 2] rfl
    refine kx_loop p0.toInt (fun k9 : Int32 => 0 + 1 * k9.toInt.toNat) (fun k9 : Int32 => 0 + 6 * k9.toInt.toNat) (fun (k9 : Int32) (H9 : Heap) (locs9 : List Loc) (ls9 : Array Slot) => (0 : Int) ≤ k9.toInt ∧ k9.toInt ≤ p0.toInt ∧ va_P D vwCl [(h14, .inl (cy 1, 6, .inl g19)), (h1, .inr (10, [x2, x3, x4, x5, x6, x7, x8, x9, x10, x11, x12, x13, .ref h14, x15, x16, .int 0, x17, .int 0]))] H9 ∧ va_D A [(h14, .inl (cy 1, 6, .inl g19)), (h1, .inr (10, [x2, x3, x4, x5, x6, x7, x8, x9, x10, x11, x12, x13, .ref h14, x15, x16, .int 0, x17, .int 0]))] ∧ va_S A s.heap H9 locs9 ∧ lv_has ls9 3 [(2, .int k9), (0, .ref h1), (1, .int p0)]) (fun _ _ _ _ h9 => h9.2.1) ?_ 0 _ _ _ ⟨(show (0 : Int) ≤ (0 : Int) by omega), (show (0 : Int) ≤ p0.toInt by omega), hP, hD, hS, hlp⟩
    intro k_3 H locs ls ⟨f_4, f_5, hP, hD, hS, hl⟩ ih
    refine lv_iload_n hx hb dX8_learn_27 rfl (lv_at hl 0 rfl) ?_
    refine lv_iload_n hx hb dX8_learn_28 rfl (lv_at hl 2 rfl) ?_
    refine lv_icmp_ge (tgt := 42) hx hb dX8_learn_29 (by decide) (fun c_6 => ?_) (fun c_6 => ?_)
    · have f_7 : p0.toInt ≤ k_3.toInt := kx_le c_6
      refine lv_aload_n hx hb dX8_learn_42 rfl (lv_at hl 1 rfl) ?_
      refine lv_aload_n hx hb dX8_learn_43 rfl (lv_at hl 1 rfl) ?_
      refine va_get (D := D) (ci := 10) (v := .ref h14) (C := RX8) (T := TX8) (N := 18) hx hb hts (fun _ h => (List.mem_cons_of_mem _ (List.mem_append_left _ (List.mem_append_left _ (List.mem_append_right _ h))))) hown hK hP 1 rfl rfl 12 (by decide) (hts (.fieldLink RX8 52 "SelfishJunctionModel" "chosen" "[I") (List.mem_cons_of_mem _ (List.mem_append_left _ (List.mem_append_left _ (List.mem_append_left _ (List.mem_append_left _ (List.mem_of_getElem? (i := 0) rfl))))))) (fun _ h9 => h9) rfl dX8_learn_44 ?_
      have hPc := hP.sub (ws' := [(h1, .inr (10, [x2, x3, x4, x5, x6, x7, x8, x9, x10, x11, x12, x13, .ref h14, x15, x16, .int 0, x17, .int 0]))]) [1] rfl
      refine va_calli (va_runV (As := [.ref h14]) (rest := []) ⟨hx, hb, hml, hown, hts⟩ (k_X8_total l D cy h1 h14 (x2) (x3) (x4) (x5) (x6) (x7) (x8) (x9) (x10) (x11) (x12) (x13) (.ref h14) (x15) (x16) (x17) (.int 0)) (cwV 1 hts gX8_learn_X8_total rfl rfl rfl (by decide +kernel) ⟨(Nat.le_of_ble_eq_true rfl), (Nat.le_of_ble_eq_true rfl)⟩) ⟨kR_fb, va_recv hK hP (ci := 10) (q0 := 1) rfl rfl, (kR_go hPc hK)⟩ rfl rfl hl.1 rfl (lv_room (Nat.le_of_ble_eq_true rfl)) dX8_learn_47 ⟨(show 0 + 1 * k_3.toInt.toNat + 0 ≤ 50 by omega), (show 0 + 6 * k_3.toInt.toNat + 0 ≤ 300 by omega)⟩) hS (fun _ _ h => h.elim) (fun _ h => h.elim) (fun r9 u t H locs ht hvm hw hB hz1 hk1 hS => ?_)
      have hP := kx_kept hP hk1
      obtain ⟨rfl, hw⟩ := hw
      refine W.widen (k := 50) (n := 300) (by omega) (by omega) ?_
      have hP9 := hP.sub (ws' := [(h1, .inr (10, [x2, x3, x4, x5, x6, x7, x8, x9, x10, x11, x12, x13, .ref h14, x15, x16, .int 0, x17, .int 0])), (h14, .inl (cy 1, 6, .inl g19))]) [1, 0] rfl
      have hD9 := hD.sub (ws' := [(h1, .inr (10, [x2, x3, x4, x5, x6, x7, x8, x9, x10, x11, x12, x13, .ref h14, x15, x16, .int 0, x17, .int 0])), (h14, .inl (cy 1, 6, .inl g19))]) [1, 0] (by decide) rfl
      exact W.iret (v := 0) hx hb hr (fun t ht hW => ⟨⟨0, (0), rfl, Or.inl (⟨rfl, rfl, (by omega)⟩), ⟨by rw [ht]; exact hP9, hD9⟩⟩, hS.F ht⟩) hS.2.2 dX8_learn_50
    · have f_9 : k_3.toInt < p0.toInt := kx_nle c_6
      refine lv_aload_n hx hb dX8_learn_32 rfl (lv_at hl 1 rfl) ?_
      have hPc := hP.sub (ws' := [(h1, .inr (10, [x2, x3, x4, x5, x6, x7, x8, x9, x10, x11, x12, x13, .ref h14, x15, x16, .int 0, x17, .int 0])), (h14, .inl (cy 1, 6, .inl g19))]) [1, 0] rfl
      have hDc := hD.sub (ws' := [(h1, .inr (10, [x2, x3, x4, x5, x6, x7, x8, x9, x10, x11, x12, x13, .ref h14, x15, x16, .int 0, x17, .int 0])), (h14, .inl (cy 1, 6, .inl g19))]) [1, 0] (by decide) rfl
      have hFc := va_free (wc := [(h1, .inr (10, [x2, x3, x4, x5, x6, x7, x8, x9, x10, x11, x12, x13, .ref h14, x15, x16, .int 0, x17, .int 0])), (h14, .inl (cy 1, 6, .inl g19))]) hD hS hA [1, 0] rfl
      refine va_callv (va_runV (As := []) (rest := []) ⟨hx, hb, hml, hown, hts⟩ (k_X8_round l hl9 D cy h1 (x2) (x3) (x4) (x5) (x6) (x7) (x8) (x9) (x10) (x11) (x12) (x13) h14 (x15) (x16) (x17) (.int 0) g19 H.size) (cwV 0 hts gX8_learn_X8_round rfl rfl rfl (by decide +kernel) ⟨(Nat.le_of_ble_eq_true rfl), (Nat.le_of_ble_eq_true rfl)⟩) ⟨kWX_fb, va_recv hK hP (ci := 10) (q0 := 1) rfl rfl, (kWX_go hPc hK hDc hFc hE hS)⟩ rfl rfl hl.1 rfl (lv_room (Nat.le_of_ble_eq_true rfl)) dX8_learn_33 ⟨(show 0 + 1 * k_3.toInt.toNat + 1 ≤ 50 by omega), (show 0 + 6 * k_3.toInt.toNat + 6 ≤ 300 by omega)⟩) hS (fun q _ h => hFc q h) hFc (fun u t H locs ht hvm hw hB hz1 hk1 hS => ?_)
      obtain ⟨hP1, hD1⟩ := hB
      rw [ht] at hP1
      try dsimp only at hw hP1 hD1
      obtain ⟨hP, hD⟩ := va_join (wr := []) (w1 := [(h1, .inr (10, [x2, x3, x4, x5, x6, x7, x8, x9, x10, x11, x12, x13, .ref h14, x15, x16, .int 0, x17, .int 0])), (h14, .inl (cy 1, 6, .inl g19))]) hP hD [1, 0] [] rfl rfl (by decide) (by decide) hk1 hFc hP1 hD1
      have hP : va_P D vwCl [(h1, .inr (10, [x2, x3, x4, x5, x6, x7, x8, x9, x10, x11, x12, x13, .ref h14, x15, x16, .int 0, x17, .int 0])), (h14, .inl (cy 1, 6, .inl g19))] H := hP
      have hD : va_D A [(h1, .inr (10, [x2, x3, x4, x5, x6, x7, x8, x9, x10, x11, x12, x13, .ref h14, x15, x16, .int 0, x17, .int 0])), (h14, .inl (cy 1, 6, .inl g19))] := hD
      obtain ⟨v_11, ev_11⟩ : ∃ y : Int32, y = k_3 + 1 := ⟨_, rfl⟩
      refine lv_iinc (v := v_11) (lv' := [(2, .int v_11), (0, .ref h1), (1, .int p0)]) hx hb dX8_learn_36 hl (k := 0) rfl (by rw [ev_11]; rfl) (by decide) rfl (fun ls hl => ?_)
      refine lv_goto (tgt := 27) hx hb dX8_learn_39 (by decide) ?_
      have e9 : v_11.toInt = k_3.toInt + 1 := kx_inc ev_11 (by omega)
      refine W.widen (k := 0 + 1 * v_11.toInt.toNat) (n := 0 + 6 * v_11.toInt.toNat) (by omega) (by omega) ?_
      exact ih v_11 _ _ _ e9 ⟨(by omega), (by omega), hP.sub [1, 0] rfl, hD.sub [1, 0] (by decide) rfl, hS, lv_sub hl [0, 1, 2] rfl⟩
  · have f_12 : ¬ (((1 : Int) ≤ p0.toInt ∧ p0.toInt ≤ (50 : Int))) := hw
    refine lv_if_ne (tgt := 15) hx hb dX8_learn_8 (by decide) (fun h => absurd (by decide) h) (fun _ => ?_)
    refine lv_iconst (v := 1) hx hb dX8_learn_11 (by decide) ?_
    refine lv_goto (tgt := 16) hx hb dX8_learn_12 (by decide) ?_
    refine lv_iconst (v := 1) hx hb dX8_learn_16 (by decide) ?_
    have hPc := hP.sub (ws' := [(h1, .inr (10, [x2, x3, x4, x5, x6, x7, x8, x9, x10, x11, x12, x13, .ref h14, x15, x16, .int 0, x17, x18]))]) [0] rfl
    have hDc := hD.sub (ws' := [(h1, .inr (10, [x2, x3, x4, x5, x6, x7, x8, x9, x10, x11, x12, x13, .ref h14, x15, x16, .int 0, x17, x18]))]) [0] (by decide) rfl
    have hFc := va_free (wc := [(h1, .inr (10, [x2, x3, x4, x5, x6, x7, x8, x9, x10, x11, x12, x13, .ref h14, x15, x16, .int 0, x17, x18]))]) hD hS hA [0] rfl
    refine va_calli (va_runV (As := [.int 1, .int 1]) (rest := []) ⟨hx, hb, hml, hown, hts⟩ (k_X8_isThrown l D cy h1 (x2) (x3) (x4) (x5) (x6) (x7) (x8) (x9) (x10) (x11) (x12) (x13) (.ref h14) (x15) (x16) (.int 0) (x17) (x18) H.size) (cwV 2 hts gX8_learn_X8_isThrown rfl rfl rfl (by decide +kernel) ⟨(Nat.le_of_ble_eq_true rfl), (Nat.le_of_ble_eq_true rfl)⟩) ⟨kW_fb, va_recv hK hP (ci := 10) (q0 := 0) rfl rfl, (kW_go hPc hK hDc)⟩ rfl rfl hl.1 rfl (lv_room (Nat.le_of_ble_eq_true rfl)) dX8_learn_17 ⟨(Nat.le_of_ble_eq_true rfl), (Nat.le_of_ble_eq_true rfl)⟩) hS (fun q _ h => hFc q h) hFc (fun r9 u t H locs ht hvm hw hB hz1 hk1 hS => ?_)
    obtain ⟨hP1, hD1⟩ := hB
    rw [ht] at hP1
    try dsimp only at hw hP1 hD1
    obtain ⟨hP, hD⟩ := va_join (wr := [(h14, .inl (cy 1, 6, .inl g19))]) (w1 := [(h1, .inr (10, [x2, x3, x4, x5, x6, x7, x8, x9, x10, x11, x12, x13, .ref h14, x15, x16, .int 0, x17, .int 1]))]) hP hD [0] [1] rfl rfl (by decide) (by decide) hk1 hFc hP1 hD1
    have hP : va_P D vwCl [(h14, .inl (cy 1, 6, .inl g19)), (h1, .inr (10, [x2, x3, x4, x5, x6, x7, x8, x9, x10, x11, x12, x13, .ref h14, x15, x16, .int 0, x17, .int 1]))] H := hP
    have hD : va_D A [(h14, .inl (cy 1, 6, .inl g19)), (h1, .inr (10, [x2, x3, x4, x5, x6, x7, x8, x9, x10, x11, x12, x13, .ref h14, x15, x16, .int 0, x17, .int 1]))] := hD
    obtain ⟨rfl, hw⟩ := hw
    refine lv_if_eq (tgt := 25) hx hb dX8_learn_20 (by decide) (fun h => absurd h (by decide)) (fun _ => ?_)
    refine lv_iconst (v := 0) hx hb dX8_learn_23 (by decide) ?_
    refine W.widen (k := 50) (n := 300) (Nat.le_of_ble_eq_true rfl) (Nat.le_of_ble_eq_true rfl) ?_
    have hP9 := hP.sub (ws' := [(h1, .inr (10, [x2, x3, x4, x5, x6, x7, x8, x9, x10, x11, x12, x13, .ref h14, x15, x16, .int 0, x17, .int 1])), (h14, .inl (cy 1, 6, .inl g19))]) [1, 0] rfl
    have hD9 := hD.sub (ws' := [(h1, .inr (10, [x2, x3, x4, x5, x6, x7, x8, x9, x10, x11, x12, x13, .ref h14, x15, x16, .int 0, x17, .int 1])), (h14, .inl (cy 1, 6, .inl g19))]) [1, 0] (by decide) rfl
    exact W.iret (v := 0) hx hb hr (fun t ht hW => ⟨⟨0, (1), rfl, Or.inr (⟨rfl, rfl, (by omega)⟩), ⟨by rw [ht]; exact hP9, hD9⟩⟩, hS.F ht⟩) hS.2.2 dX8_learn_24
